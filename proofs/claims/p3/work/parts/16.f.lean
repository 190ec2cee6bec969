set_option maxHeartbeats 4000000 in
set_option maxRecDepth 100000 in
theorem k_X3_begin (l : Launch) (dC : Nat → ClassId) (dI : Nat → Nat → Nat) (cI cS cP cA : ClassId) (L : List Nat) (tg : Nat → Nat) (f : Nat → va_E) (hN : L.Nodup) (hT : ∀ a : Nat, a ∈ L → tg a < 13) (hI : PI cI cS cP cA L tg f) (h0 : Nat) (hm_h0 : h0 ∈ L) (ht_h0 : tg h0 = 5) : Met l yX3_begin wsX3_begin ({ frames := 0, cells := 0, slots := 0, locals := 0 }) (va_Pc [.ref h0] (tPre dC dI cI cS cP cA L f)) (va_Qv (fun (f' : Nat → va_E) => PI cI cS cP cA L tg f' ∧ Fr L tg (fun t => t == 5) f f') (fun (f' : Nat → va_E) t => va_P (dC, dI) vwCl (va_pl L f') t.heap) (fun q : Nat => q ∈ L)) 0 0 (fun q : Nat => q ∈ L) := by
  refine Met.ofW (cc := cX3_begin) (maxL := 1) (ret := none) (by decide) rfl ?_
  intro p e s m args below meth c s₁ B hml hv
  obtain ⟨rfl, hP, hK, hcm⟩ := hv
  have hx := B.exec
  have hb := B.bytes
  have hr := B.returns
  have hts := atoms_spec (ws := wsX3_begin) B.pre
  have hown : s.vm.findClass RX3 = some m.cls := findClass_of_methodNamed B.named
  have hlocks := B.notSynchronized
  have hin_X3 : ∀ w ∈ u_ws RX3 TX3 9, w ∈ wsX3_begin := by decide +kernel
  have hl := lv_entry ([.ref h0]) (n := 1) (Nat.le_of_ble_eq_true rfl)
  rw [lg_entry_eq]
  generalize (lg_sl ([.ref h0]) ++ List.replicate (1 - (lg_sl ([.ref h0])).length) Slot.unset).toArray = ls at hl ⊢
  have hl : lv_has ls 1 [(0, .ref h0)] := hl
  generalize hQ : MQ below (va_Qv (fun (f' : Nat → va_E) => PI cI cS cP cA L tg f' ∧ Fr L tg (fun t => t == 5) f f') (fun (f' : Nat → va_E) t => va_P (dC, dI) vwCl (va_pl L f') t.heap) (fun q : Nat => q ∈ L)) [.ref h0].toArray s 0 0 (fun q : Nat => q ∈ L) = Q
  obtain ⟨f0, hf0⟩ : ∃ g : Nat → va_E, g = f := ⟨_, rfl⟩
  have hw : PW dC dI cI cS cP cA L tg (fun t => t == 5) f0 s.heap f s.heap [] := by rw [hf0]; exact PW.start hP hI
  clear hP
  refine lv_aload_n hx hb dX3_begin_0 rfl (lv_at hl 0 rfl) ?_
  refine lv_iconst (v := 0) hx hb dX3_begin_1 (by decide) ?_
  refine tp_put (ci := 2) (C := RX3) (T := TX3) (N := 9) (v := .int 0) (ty := .int) hx hb hts hin_X3 tyX3 tyX3_ok nmX3 hown hN hK hw hm_h0 5 ht_h0 rfl (fun _ => rfl) rfl 0 (by decide) rfl (hts (.fieldLink RX3 27 "DayBench$SlipSets" "groups" "I") (by decide +kernel)) (fun _ h9 => h9) rfl (by decide +kernel) rfl rfl ⟨0, rfl, by omega⟩ dX3_begin_2 (fun H locs f hw ho_1 hn_2 hs_3 => ?_)
  clear ho_1 hs_3 hn_2
  refine lv_aload_n hx hb dX3_begin_5 rfl (lv_at hl 0 rfl) ?_
  refine lv_iconst (v := 0) hx hb dX3_begin_6 (by decide) ?_
  refine tp_put (ci := 2) (C := RX3) (T := TX3) (N := 9) (v := .int 0) (ty := .int) hx hb hts hin_X3 tyX3 tyX3_ok nmX3 hown hN hK hw hm_h0 5 ht_h0 rfl (fun _ => rfl) rfl 8 (by decide) rfl (hts (.fieldLink RX3 31 "DayBench$SlipSets" "size" "I") (by decide +kernel)) (fun _ h9 => h9) rfl (by decide +kernel) rfl rfl ⟨0, rfl, by omega⟩ dX3_begin_7 (fun H locs f hw ho_4 hn_5 hs_6 => ?_)
  clear ho_4 hs_6 hn_5
  refine lv_aload_n hx hb dX3_begin_10 rfl (lv_at hl 0 rfl) ?_
  refine lv_iconst (v := 0) hx hb dX3_begin_11 (by decide) ?_
  refine tp_put (ci := 2) (C := RX3) (T := TX3) (N := 9) (v := .int 0) (ty := .int) hx hb hts hin_X3 tyX3 tyX3_ok nmX3 hown hN hK hw hm_h0 5 ht_h0 rfl (fun _ => rfl) rfl 1 (by decide) rfl (hts (.fieldLink RX3 34 "DayBench$SlipSets" "least" "I") (by decide +kernel)) (fun _ h9 => h9) rfl (by decide +kernel) rfl rfl ⟨_, rfl⟩ dX3_begin_12 (fun H locs f hw ho_7 hn_8 hs_9 => ?_)
  clear ho_7 hs_9 hn_8
  subst hQ
  have hI9 := hw.2.1
  have hF9 := hw.2.2.1
  have hS9 := hw.2.2.2
  rw [hf0] at hF9
  exact W.vret hx hb hr (fun t ht hW => ⟨⟨_, rfl, ⟨hI9, hF9⟩, hw.at ht⟩, hS9.F ht⟩) hS9.2.2 dX3_begin_15

set_option maxHeartbeats 4000000 in
set_option maxRecDepth 100000 in
theorem k_X3_addGroup (l : Launch) (dC : Nat → ClassId) (dI : Nat → Nat → Nat) (cI cS cP cA : ClassId) (L : List Nat) (tg : Nat → Nat) (f : Nat → va_E) (hN : L.Nodup) (hT : ∀ a : Nat, a ∈ L → tg a < 13) (hI : PI cI cS cP cA L tg f) (h0 : Nat) (hm_h0 : h0 ∈ L) (ht_h0 : tg h0 = 5) (p0 : Int32) (p1 : Int32) (p2 : Int32) : Met l yX3_addGroup wsX3_addGroup ({ frames := 0, cells := 0, slots := 0, locals := 0 }) (va_Pc [.ref h0, .int p0, .int p1, .int p2] (tPre dC dI cI cS cP cA L f)) (va_Qv (fun (f' : Nat → va_E) => PI cI cS cP cA L tg f' ∧ Fr L tg (fun t => t == 5 || t == 7) f f') (fun (f' : Nat → va_E) t => va_P (dC, dI) vwCl (va_pl L f') t.heap) (fun q : Nat => q ∈ L)) 0 0 (fun q : Nat => q ∈ L) := by
  refine Met.ofW (cc := cX3_addGroup) (maxL := 4) (ret := none) (by decide) rfl ?_
  intro p e s m args below meth c s₁ B hml hv
  obtain ⟨rfl, hP, hK, hcm⟩ := hv
  have hx := B.exec
  have hb := B.bytes
  have hr := B.returns
  have hts := atoms_spec (ws := wsX3_addGroup) B.pre
  have hown : s.vm.findClass RX3 = some m.cls := findClass_of_methodNamed B.named
  have hlocks := B.notSynchronized
  have hin_X3 : ∀ w ∈ u_ws RX3 TX3 9, w ∈ wsX3_addGroup := by decide +kernel
  have hl := lv_entry ([.ref h0, .int p0, .int p1, .int p2]) (n := 4) (Nat.le_of_ble_eq_true rfl)
  rw [lg_entry_eq]
  generalize (lg_sl ([.ref h0, .int p0, .int p1, .int p2]) ++ List.replicate (4 - (lg_sl ([.ref h0, .int p0, .int p1, .int p2])).length) Slot.unset).toArray = ls at hl ⊢
  have hl : lv_has ls 4 [(0, .ref h0), (1, .int p0), (2, .int p1), (3, .int p2)] := hl
  generalize hQ : MQ below (va_Qv (fun (f' : Nat → va_E) => PI cI cS cP cA L tg f' ∧ Fr L tg (fun t => t == 5 || t == 7) f f') (fun (f' : Nat → va_E) t => va_P (dC, dI) vwCl (va_pl L f') t.heap) (fun q : Nat => q ∈ L)) [.ref h0, .int p0, .int p1, .int p2].toArray s 0 0 (fun q : Nat => q ∈ L) = Q
  obtain ⟨f0, hf0⟩ : ∃ g : Nat → va_E, g = f := ⟨_, rfl⟩
  have hw : PW dC dI cI cS cP cA L tg (fun t => t == 5 || t == 7) f0 s.heap f s.heap [] := by rw [hf0]; exact PW.start hP hI
  clear hP
  refine lv_aload_n hx hb dX3_addGroup_0 rfl (lv_at hl 0 rfl) ?_
  refine tp_get (ci := 2) (C := RX3) (T := TX3) (N := 9) hx hb hts hin_X3 hown hK hw hm_h0 5 ht_h0 (fun _ => rfl) rfl 0 (by decide) rfl (hts (.fieldLink RX3 27 "DayBench$SlipSets" "groups" "I") (by decide +kernel)) (fun _ h9 => h9) dX3_addGroup_1 (fun v_1 hf_2 hv_3 => ?_)
  obtain ⟨k_4, ek_4, hk_k_4⟩ := hv_3
  subst ek_4
  refine lv_bipush (v := 12) hx hb dX3_addGroup_4 (by decide) ?_
  refine lv_icmp_ge (tgt := 49) hx hb dX3_addGroup_6 (by decide) (fun h_5 => ?_) (fun h_5 => ?_)
  · have nh_5 : 12 ≤ k_4 := (nI_leI (a := 12) (b := k_4) (by omega) (by omega)).mp h_5
    subst hQ
    have hI9 := hw.2.1
    have hF9 := hw.2.2.1
    have hS9 := hw.2.2.2
    rw [hf0] at hF9
    exact W.vret hx hb hr (fun t ht hW => ⟨⟨_, rfl, ⟨hI9, hF9⟩, hw.at ht⟩, hS9.F ht⟩) hS9.2.2 dX3_addGroup_49
  · have nh_5 : ¬ 12 ≤ k_4 := fun q9 => h_5 ((nI_leI (a := 12) (b := k_4) (by omega) (by omega)).mpr q9)
    refine lv_aload_n hx hb dX3_addGroup_9 rfl (lv_at hl 0 rfl) ?_
    refine tp_get (ci := 2) (C := RX3) (T := TX3) (N := 9) hx hb hts hin_X3 hown hK hw hm_h0 5 ht_h0 (fun _ => rfl) rfl 4 (by decide) rfl (hts (.fieldLink RX3 15 "DayBench$SlipSets" "root" "[I") (by decide +kernel)) (fun _ h9 => h9) dX3_addGroup_10 (fun v_6 hf_7 hv_8 => ?_)
    obtain ⟨b_9, eb_9, hm_b_9, ht_b_9⟩ := hv_8
    subst eb_9
    refine lv_aload_n hx hb dX3_addGroup_13 rfl (lv_at hl 0 rfl) ?_
    refine tp_getK (ci := 2) (C := RX3) (T := TX3) (N := 9) hx hb hts hin_X3 hown hK hw hm_h0 5 ht_h0 (fun _ => rfl) rfl 0 (by decide) hf_2 (hts (.fieldLink RX3 27 "DayBench$SlipSets" "groups" "I") (by decide +kernel)) (fun _ h9 => h9) dX3_addGroup_14 ?_
    refine lv_iload_n hx hb dX3_addGroup_17 rfl (lv_at hl 1 rfl) ?_
    refine tp_iast hx hb hN hK hw hm_b_9 7 ht_b_9 rfl (n := 12) (fun _ => rfl) (vp_in_nI (by omega) (by omega)) dX3_addGroup_18 (fun H locs f hw ho_10 => ?_)
    have hf_2 : fld (f h0) 0 = some (.int (nI k_4)) := by rw [ho_10 h0 (tne ht_h0 ht_b_9 (by decide))]; exact hf_2
    have hf_7 : fld (f h0) 4 = some (.ref b_9) := by rw [ho_10 h0 (tne ht_h0 ht_b_9 (by decide))]; exact hf_7
    clear ho_10
    refine lv_aload_n hx hb dX3_addGroup_19 rfl (lv_at hl 0 rfl) ?_
    refine tp_get (ci := 2) (C := RX3) (T := TX3) (N := 9) hx hb hts hin_X3 hown hK hw hm_h0 5 ht_h0 (fun _ => rfl) rfl 5 (by decide) rfl (hts (.fieldLink RX3 18 "DayBench$SlipSets" "members" "[I") (by decide +kernel)) (fun _ h9 => h9) dX3_addGroup_20 (fun v_11 hf_12 hv_13 => ?_)
    obtain ⟨b_14, eb_14, hm_b_14, ht_b_14⟩ := hv_13
    subst eb_14
    refine lv_aload_n hx hb dX3_addGroup_23 rfl (lv_at hl 0 rfl) ?_
    refine tp_getK (ci := 2) (C := RX3) (T := TX3) (N := 9) hx hb hts hin_X3 hown hK hw hm_h0 5 ht_h0 (fun _ => rfl) rfl 0 (by decide) hf_2 (hts (.fieldLink RX3 27 "DayBench$SlipSets" "groups" "I") (by decide +kernel)) (fun _ h9 => h9) dX3_addGroup_24 ?_
    refine lv_iload_n hx hb dX3_addGroup_27 rfl (lv_at hl 2 rfl) ?_
    refine tp_iast hx hb hN hK hw hm_b_14 7 ht_b_14 rfl (n := 12) (fun _ => rfl) (vp_in_nI (by omega) (by omega)) dX3_addGroup_28 (fun H locs f hw ho_15 => ?_)
    have hf_2 : fld (f h0) 0 = some (.int (nI k_4)) := by rw [ho_15 h0 (tne ht_h0 ht_b_14 (by decide))]; exact hf_2
    have hf_7 : fld (f h0) 4 = some (.ref b_9) := by rw [ho_15 h0 (tne ht_h0 ht_b_14 (by decide))]; exact hf_7
    have hf_12 : fld (f h0) 5 = some (.ref b_14) := by rw [ho_15 h0 (tne ht_h0 ht_b_14 (by decide))]; exact hf_12
    clear ho_15
    refine lv_aload_n hx hb dX3_addGroup_29 rfl (lv_at hl 0 rfl) ?_
    refine tp_get (ci := 2) (C := RX3) (T := TX3) (N := 9) hx hb hts hin_X3 hown hK hw hm_h0 5 ht_h0 (fun _ => rfl) rfl 6 (by decide) rfl (hts (.fieldLink RX3 21 "DayBench$SlipSets" "weight" "[I") (by decide +kernel)) (fun _ h9 => h9) dX3_addGroup_30 (fun v_16 hf_17 hv_18 => ?_)
    obtain ⟨b_19, eb_19, hm_b_19, ht_b_19⟩ := hv_18
    subst eb_19
    refine lv_aload_n hx hb dX3_addGroup_33 rfl (lv_at hl 0 rfl) ?_
    refine tp_getK (ci := 2) (C := RX3) (T := TX3) (N := 9) hx hb hts hin_X3 hown hK hw hm_h0 5 ht_h0 (fun _ => rfl) rfl 0 (by decide) hf_2 (hts (.fieldLink RX3 27 "DayBench$SlipSets" "groups" "I") (by decide +kernel)) (fun _ h9 => h9) dX3_addGroup_34 ?_
    refine lv_iload_n hx hb dX3_addGroup_37 rfl (lv_at hl 3 rfl) ?_
    refine tp_iast hx hb hN hK hw hm_b_19 7 ht_b_19 rfl (n := 12) (fun _ => rfl) (vp_in_nI (by omega) (by omega)) dX3_addGroup_38 (fun H locs f hw ho_20 => ?_)
    have hf_2 : fld (f h0) 0 = some (.int (nI k_4)) := by rw [ho_20 h0 (tne ht_h0 ht_b_19 (by decide))]; exact hf_2
    have hf_7 : fld (f h0) 4 = some (.ref b_9) := by rw [ho_20 h0 (tne ht_h0 ht_b_19 (by decide))]; exact hf_7
    have hf_12 : fld (f h0) 5 = some (.ref b_14) := by rw [ho_20 h0 (tne ht_h0 ht_b_19 (by decide))]; exact hf_12
    have hf_17 : fld (f h0) 6 = some (.ref b_19) := by rw [ho_20 h0 (tne ht_h0 ht_b_19 (by decide))]; exact hf_17
    clear ho_20
    refine lv_aload_n hx hb dX3_addGroup_39 rfl (lv_at hl 0 rfl) ?_
    refine lv_dup hx hb dX3_addGroup_40 rfl ?_
    refine tp_getK (ci := 2) (C := RX3) (T := TX3) (N := 9) hx hb hts hin_X3 hown hK hw hm_h0 5 ht_h0 (fun _ => rfl) rfl 0 (by decide) hf_2 (hts (.fieldLink RX3 27 "DayBench$SlipSets" "groups" "I") (by decide +kernel)) (fun _ h9 => h9) dX3_addGroup_41 ?_
    refine lv_iconst (v := 1) hx hb dX3_addGroup_44 (by decide) ?_
    refine lv_iadd hx hb dX3_addGroup_45 ?_
    refine lv_topi (fun x_21 ex_21 => ?_)
    have ex_21 : x_21 = nI (k_4 + 1) := ex_21.trans (nI_1 _)
    subst ex_21
    refine tp_put (ci := 2) (C := RX3) (T := TX3) (N := 9) (v := .int (nI (k_4 + 1))) (ty := .int) hx hb hts hin_X3 tyX3 tyX3_ok nmX3 hown hN hK hw hm_h0 5 ht_h0 rfl (fun _ => rfl) rfl 0 (by decide) rfl (hts (.fieldLink RX3 27 "DayBench$SlipSets" "groups" "I") (by decide +kernel)) (fun _ h9 => h9) rfl (by decide +kernel) rfl rfl ⟨(k_4 + 1), rfl, by omega⟩ dX3_addGroup_46 (fun H locs f hw ho_22 hn_23 hs_24 => ?_)
    have hf_7 := (hs_24 4 (by decide)).trans hf_7
    have hf_12 := (hs_24 5 (by decide)).trans hf_12
    have hf_17 := (hs_24 6 (by decide)).trans hf_17
    clear ho_22 hs_24 hn_23
    subst hQ
    have hI9 := hw.2.1
    have hF9 := hw.2.2.1
    have hS9 := hw.2.2.2
    rw [hf0] at hF9
    exact W.vret hx hb hr (fun t ht hW => ⟨⟨_, rfl, ⟨hI9, hF9⟩, hw.at ht⟩, hS9.F ht⟩) hS9.2.2 dX3_addGroup_49

set_option maxHeartbeats 4000000 in
set_option maxRecDepth 100000 in
theorem k_X3_weightOf (l : Launch) (dC : Nat → ClassId) (dI : Nat → Nat → Nat) (cI cS cP cA : ClassId) (L : List Nat) (tg : Nat → Nat) (f : Nat → va_E) (hN : L.Nodup) (hT : ∀ a : Nat, a ∈ L → tg a < 13) (hI : PI cI cS cP cA L tg f) (h0 : Nat) (hm_h0 : h0 ∈ L) (ht_h0 : tg h0 = 5) (p0 : Int32) : Met l yX3_weightOf wsX3_weightOf ({ frames := 0, cells := 0, slots := 0, locals := 0 }) (va_Pc [.ref h0, .int p0] (tPre dC dI cI cS cP cA L f)) (vp_Si (fun r => True)) 0 0 (fun _ => False) := by
  refine Met.ofW (cc := cX3_weightOf) (maxL := 4) (ret := (some .int)) (by decide) rfl ?_
  intro p e s m args below meth c s₁ B hml hv
  obtain ⟨rfl, hP, hK, hcm⟩ := hv
  have hx := B.exec
  have hb := B.bytes
  have hr := B.returns
  have hts := atoms_spec (ws := wsX3_weightOf) B.pre
  have hown : s.vm.findClass RX3 = some m.cls := findClass_of_methodNamed B.named
  have hlocks := B.notSynchronized
  have hin_X3 : ∀ w ∈ u_ws RX3 TX3 9, w ∈ wsX3_weightOf := by decide +kernel
  have hl := lv_entry ([.ref h0, .int p0]) (n := 4) (Nat.le_of_ble_eq_true rfl)
  rw [lg_entry_eq]
  generalize (lg_sl ([.ref h0, .int p0]) ++ List.replicate (4 - (lg_sl ([.ref h0, .int p0])).length) Slot.unset).toArray = ls at hl ⊢
  have hl : lv_has ls 4 [(0, .ref h0), (1, .int p0)] := hl
  generalize hQ : MQ below (vp_Si (fun r => True)) [.ref h0, .int p0].toArray s 0 0 (fun _ => False) = Q
  obtain ⟨f0, hf0⟩ : ∃ g : Nat → va_E, g = f := ⟨_, rfl⟩
  have hw : PW dC dI cI cS cP cA L tg (fun _ => false) f0 s.heap f s.heap [] := by rw [hf0]; exact PW.start hP hI
  clear hP
  refine lv_iconst (v := 0) hx hb dX3_weightOf_0 (by decide) ?_
  refine lv_istore_n (lv' := [(2, .int 0), (0, .ref h0), (1, .int p0)]) hx hb dX3_weightOf_1 rfl hl (by decide) rfl (fun ls hl => ?_)
  refine lv_iconst (v := 0) hx hb dX3_weightOf_2 (by decide) ?_
  refine lv_istore_n (lv' := [(3, .int 0), (2, .int 0), (0, .ref h0), (1, .int p0)]) hx hb dX3_weightOf_3 rfl hl (by decide) rfl (fun ls hl => ?_)
  have hl_4 : ∀ (fu : Nat) (ac : Int32) (i : Nat), 12 - i < fu → (i ≤ 12) → ∀ (ls : Array Slot), lv_has ls 4 [(3, .int (nI i)), (2, .int ac), (0, .ref h0), (1, .int p0)] → W p l e (headSpec wsX3_weightOf ({ frames := 0, cells := 0, slots := 0, locals := 0 })).room s m [.ref h0, .int p0].toArray below meth c s.heap [] 0 0 Q (F0 m 4 ls []) := by
    intro fu
    induction fu with
    | zero => intro ac i hm9; exact absurd hm9 (Nat.not_lt_zero _)
    | succ fu ih_4 =>
      intro ac i hm_4 h_i ls hl
      refine lv_iload_n hx hb dX3_weightOf_4 rfl (lv_at hl 0 rfl) ?_
      refine lv_aload_n hx hb dX3_weightOf_5 rfl (lv_at hl 2 rfl) ?_
      refine tp_get (ci := 2) (C := RX3) (T := TX3) (N := 9) hx hb hts hin_X3 hown hK hw hm_h0 5 ht_h0 (fun _ => rfl) rfl 0 (by decide) rfl (hts (.fieldLink RX3 27 "DayBench$SlipSets" "groups" "I") (by decide +kernel)) (fun _ h9 => h9) dX3_weightOf_6 (fun v_1 hf_2 hv_3 => ?_)
      obtain ⟨k_4, ek_4, hk_k_4⟩ := hv_3
      subst ek_4
      clear hf_2
      refine lv_icmp_ge (tgt := 39) hx hb dX3_weightOf_9 (by decide) (fun h_5 => ?_) (fun h_5 => ?_)
      · have nh_5 : k_4 ≤ i := (nI_leI (a := k_4) (b := i) (by omega) (by omega)).mp h_5
        refine lv_iload_n hx hb dX3_weightOf_39 rfl (lv_at hl 1 rfl) ?_
        subst hQ
        exact W.iret (v := ac) hx hb hr (fun t ht hW => ⟨_, rfl, trivial, ht⟩) (fun _ h => by cases h) dX3_weightOf_40
      · have nh_5 : ¬ k_4 ≤ i := fun q9 => h_5 ((nI_leI (a := k_4) (b := i) (by omega) (by omega)).mpr q9)
        refine lv_iload_n hx hb dX3_weightOf_12 rfl (lv_at hl 1 rfl) ?_
        refine lv_iload_n hx hb dX3_weightOf_13 rfl (lv_at hl 3 rfl) ?_
        refine lv_iload_n hx hb dX3_weightOf_14 rfl (lv_at hl 0 rfl) ?_
        refine lv_ishr hx hb dX3_weightOf_15 ?_
        refine lv_iconst (v := 1) hx hb dX3_weightOf_16 (by decide) ?_
        refine lv_iand hx hb dX3_weightOf_17 ?_
        refine lv_if_eq (tgt := 30) hx hb dX3_weightOf_18 (by decide) (fun h_6 => ?_) (fun h_6 => ?_)
        · refine lv_iconst (v := 0) hx hb dX3_weightOf_30 (by decide) ?_
          refine lv_iadd hx hb dX3_weightOf_31 ?_
          refine lv_topi (fun x_7 ex_7 => ?_)
          refine lv_istore_n (lv' := [(2, .int x_7), (3, .int (nI i)), (0, .ref h0), (1, .int p0)]) hx hb dX3_weightOf_32 rfl hl (by decide) rfl (fun ls hl => ?_)
          refine lv_iinc (v := nI (i + 1)) (lv' := [(3, .int (nI (i + 1))), (2, .int x_7), (0, .ref h0), (1, .int p0)]) hx hb dX3_weightOf_33 hl (k := 1) rfl (nI_1 _) (by decide) rfl (fun ls hl => ?_)
          refine lv_goto (tgt := 4) hx hb dX3_weightOf_36 (by decide) ?_
          exact ih_4 x_7 ((i + 1)) (by omega) (by omega) ls (lv_sub hl [0, 1, 2, 3] rfl)
        · refine lv_aload_n hx hb dX3_weightOf_21 rfl (lv_at hl 2 rfl) ?_
          refine tp_get (ci := 2) (C := RX3) (T := TX3) (N := 9) hx hb hts hin_X3 hown hK hw hm_h0 5 ht_h0 (fun _ => rfl) rfl 6 (by decide) rfl (hts (.fieldLink RX3 21 "DayBench$SlipSets" "weight" "[I") (by decide +kernel)) (fun _ h9 => h9) dX3_weightOf_22 (fun v_8 hf_9 hv_10 => ?_)
          obtain ⟨b_11, eb_11, hm_b_11, ht_b_11⟩ := hv_10
          subst eb_11
          refine lv_iload_n hx hb dX3_weightOf_25 rfl (lv_at hl 0 rfl) ?_
          refine tp_iald hx hb hK hw hm_b_11 7 ht_b_11 (n := 12) (fun _ => rfl) (vp_in_nI (by omega) (by omega)) dX3_weightOf_26 (fun y_12 => ?_)
          refine lv_goto (tgt := 31) hx hb dX3_weightOf_27 (by decide) ?_
          refine lv_iadd hx hb dX3_weightOf_31 ?_
          refine lv_topi (fun x_13 ex_13 => ?_)
          refine lv_istore_n (lv' := [(2, .int x_13), (3, .int (nI i)), (0, .ref h0), (1, .int p0)]) hx hb dX3_weightOf_32 rfl hl (by decide) rfl (fun ls hl => ?_)
          refine lv_iinc (v := nI (i + 1)) (lv' := [(3, .int (nI (i + 1))), (2, .int x_13), (0, .ref h0), (1, .int p0)]) hx hb dX3_weightOf_33 hl (k := 1) rfl (nI_1 _) (by decide) rfl (fun ls hl => ?_)
          refine lv_goto (tgt := 4) hx hb dX3_weightOf_36 (by decide) ?_
          exact ih_4 x_13 ((i + 1)) (by omega) (by omega) ls (lv_sub hl [0, 1, 2, 3] rfl)
  exact hl_4 _ 0 0 (Nat.lt_succ_self _) (by omega) ls (lv_sub hl [0, 1, 2, 3] rfl)

set_option maxHeartbeats 4000000 in
set_option maxRecDepth 100000 in
theorem k_X3_sayingsOf (l : Launch) (dC : Nat → ClassId) (dI : Nat → Nat → Nat) (cI cS cP cA : ClassId) (L : List Nat) (tg : Nat → Nat) (f : Nat → va_E) (hN : L.Nodup) (hT : ∀ a : Nat, a ∈ L → tg a < 13) (hI : PI cI cS cP cA L tg f) (h0 : Nat) (hm_h0 : h0 ∈ L) (ht_h0 : tg h0 = 5) (p0 : Int32) : Met l yX3_sayingsOf wsX3_sayingsOf ({ frames := 0, cells := 0, slots := 0, locals := 0 }) (va_Pc [.ref h0, .int p0] (tPre dC dI cI cS cP cA L f)) (vp_Si (fun r => True)) 0 0 (fun _ => False) := by
  refine Met.ofW (cc := cX3_sayingsOf) (maxL := 4) (ret := (some .int)) (by decide) rfl ?_
  intro p e s m args below meth c s₁ B hml hv
  obtain ⟨rfl, hP, hK, hcm⟩ := hv
  have hx := B.exec
  have hb := B.bytes
  have hr := B.returns
  have hts := atoms_spec (ws := wsX3_sayingsOf) B.pre
  have hown : s.vm.findClass RX3 = some m.cls := findClass_of_methodNamed B.named
  have hlocks := B.notSynchronized
  have hin_X3 : ∀ w ∈ u_ws RX3 TX3 9, w ∈ wsX3_sayingsOf := by decide +kernel
  have hl := lv_entry ([.ref h0, .int p0]) (n := 4) (Nat.le_of_ble_eq_true rfl)
  rw [lg_entry_eq]
  generalize (lg_sl ([.ref h0, .int p0]) ++ List.replicate (4 - (lg_sl ([.ref h0, .int p0])).length) Slot.unset).toArray = ls at hl ⊢
  have hl : lv_has ls 4 [(0, .ref h0), (1, .int p0)] := hl
  generalize hQ : MQ below (vp_Si (fun r => True)) [.ref h0, .int p0].toArray s 0 0 (fun _ => False) = Q
  obtain ⟨f0, hf0⟩ : ∃ g : Nat → va_E, g = f := ⟨_, rfl⟩
  have hw : PW dC dI cI cS cP cA L tg (fun _ => false) f0 s.heap f s.heap [] := by rw [hf0]; exact PW.start hP hI
  clear hP
  refine lv_iconst (v := 0) hx hb dX3_sayingsOf_0 (by decide) ?_
  refine lv_istore_n (lv' := [(2, .int 0), (0, .ref h0), (1, .int p0)]) hx hb dX3_sayingsOf_1 rfl hl (by decide) rfl (fun ls hl => ?_)
  refine lv_iconst (v := 0) hx hb dX3_sayingsOf_2 (by decide) ?_
  refine lv_istore_n (lv' := [(3, .int 0), (2, .int 0), (0, .ref h0), (1, .int p0)]) hx hb dX3_sayingsOf_3 rfl hl (by decide) rfl (fun ls hl => ?_)
  have hl_4 : ∀ (fu : Nat) (ac : Int32) (i : Nat), 12 - i < fu → (i ≤ 12) → ∀ (ls : Array Slot), lv_has ls 4 [(3, .int (nI i)), (2, .int ac), (0, .ref h0), (1, .int p0)] → W p l e (headSpec wsX3_sayingsOf ({ frames := 0, cells := 0, slots := 0, locals := 0 })).room s m [.ref h0, .int p0].toArray below meth c s.heap [] 0 0 Q (F0 m 4 ls []) := by
    intro fu
    induction fu with
    | zero => intro ac i hm9; exact absurd hm9 (Nat.not_lt_zero _)
    | succ fu ih_4 =>
      intro ac i hm_4 h_i ls hl
      refine lv_iload_n hx hb dX3_sayingsOf_4 rfl (lv_at hl 0 rfl) ?_
      refine lv_aload_n hx hb dX3_sayingsOf_5 rfl (lv_at hl 2 rfl) ?_
      refine tp_get (ci := 2) (C := RX3) (T := TX3) (N := 9) hx hb hts hin_X3 hown hK hw hm_h0 5 ht_h0 (fun _ => rfl) rfl 0 (by decide) rfl (hts (.fieldLink RX3 27 "DayBench$SlipSets" "groups" "I") (by decide +kernel)) (fun _ h9 => h9) dX3_sayingsOf_6 (fun v_1 hf_2 hv_3 => ?_)
      obtain ⟨k_4, ek_4, hk_k_4⟩ := hv_3
      subst ek_4
      clear hf_2
      refine lv_icmp_ge (tgt := 39) hx hb dX3_sayingsOf_9 (by decide) (fun h_5 => ?_) (fun h_5 => ?_)
      · have nh_5 : k_4 ≤ i := (nI_leI (a := k_4) (b := i) (by omega) (by omega)).mp h_5
        refine lv_iload_n hx hb dX3_sayingsOf_39 rfl (lv_at hl 1 rfl) ?_
        subst hQ
        exact W.iret (v := ac) hx hb hr (fun t ht hW => ⟨_, rfl, trivial, ht⟩) (fun _ h => by cases h) dX3_sayingsOf_40
      · have nh_5 : ¬ k_4 ≤ i := fun q9 => h_5 ((nI_leI (a := k_4) (b := i) (by omega) (by omega)).mpr q9)
        refine lv_iload_n hx hb dX3_sayingsOf_12 rfl (lv_at hl 1 rfl) ?_
        refine lv_iload_n hx hb dX3_sayingsOf_13 rfl (lv_at hl 3 rfl) ?_
        refine lv_iload_n hx hb dX3_sayingsOf_14 rfl (lv_at hl 0 rfl) ?_
        refine lv_ishr hx hb dX3_sayingsOf_15 ?_
        refine lv_iconst (v := 1) hx hb dX3_sayingsOf_16 (by decide) ?_
        refine lv_iand hx hb dX3_sayingsOf_17 ?_
        refine lv_if_eq (tgt := 30) hx hb dX3_sayingsOf_18 (by decide) (fun h_6 => ?_) (fun h_6 => ?_)
        · refine lv_iconst (v := 0) hx hb dX3_sayingsOf_30 (by decide) ?_
          refine lv_ior hx hb dX3_sayingsOf_31 ?_
          refine lv_topi (fun x_7 ex_7 => ?_)
          refine lv_istore_n (lv' := [(2, .int x_7), (3, .int (nI i)), (0, .ref h0), (1, .int p0)]) hx hb dX3_sayingsOf_32 rfl hl (by decide) rfl (fun ls hl => ?_)
          refine lv_iinc (v := nI (i + 1)) (lv' := [(3, .int (nI (i + 1))), (2, .int x_7), (0, .ref h0), (1, .int p0)]) hx hb dX3_sayingsOf_33 hl (k := 1) rfl (nI_1 _) (by decide) rfl (fun ls hl => ?_)
          refine lv_goto (tgt := 4) hx hb dX3_sayingsOf_36 (by decide) ?_
          exact ih_4 x_7 ((i + 1)) (by omega) (by omega) ls (lv_sub hl [0, 1, 2, 3] rfl)
        · refine lv_aload_n hx hb dX3_sayingsOf_21 rfl (lv_at hl 2 rfl) ?_
          refine tp_get (ci := 2) (C := RX3) (T := TX3) (N := 9) hx hb hts hin_X3 hown hK hw hm_h0 5 ht_h0 (fun _ => rfl) rfl 5 (by decide) rfl (hts (.fieldLink RX3 18 "DayBench$SlipSets" "members" "[I") (by decide +kernel)) (fun _ h9 => h9) dX3_sayingsOf_22 (fun v_8 hf_9 hv_10 => ?_)
          obtain ⟨b_11, eb_11, hm_b_11, ht_b_11⟩ := hv_10
          subst eb_11
          refine lv_iload_n hx hb dX3_sayingsOf_25 rfl (lv_at hl 0 rfl) ?_
          refine tp_iald hx hb hK hw hm_b_11 7 ht_b_11 (n := 12) (fun _ => rfl) (vp_in_nI (by omega) (by omega)) dX3_sayingsOf_26 (fun y_12 => ?_)
          refine lv_goto (tgt := 31) hx hb dX3_sayingsOf_27 (by decide) ?_
          refine lv_ior hx hb dX3_sayingsOf_31 ?_
          refine lv_topi (fun x_13 ex_13 => ?_)
          refine lv_istore_n (lv' := [(2, .int x_13), (3, .int (nI i)), (0, .ref h0), (1, .int p0)]) hx hb dX3_sayingsOf_32 rfl hl (by decide) rfl (fun ls hl => ?_)
          refine lv_iinc (v := nI (i + 1)) (lv' := [(3, .int (nI (i + 1))), (2, .int x_13), (0, .ref h0), (1, .int p0)]) hx hb dX3_sayingsOf_33 hl (k := 1) rfl (nI_1 _) (by decide) rfl (fun ls hl => ?_)
          refine lv_goto (tgt := 4) hx hb dX3_sayingsOf_36 (by decide) ?_
          exact ih_4 x_13 ((i + 1)) (by omega) (by omega) ls (lv_sub hl [0, 1, 2, 3] rfl)
  exact hl_4 _ 0 0 (Nat.lt_succ_self _) (by omega) ls (lv_sub hl [0, 1, 2, 3] rfl)

set_option maxHeartbeats 4000000 in
set_option maxRecDepth 100000 in
theorem k_X3_rootsOf (l : Launch) (dC : Nat → ClassId) (dI : Nat → Nat → Nat) (cI cS cP cA : ClassId) (L : List Nat) (tg : Nat → Nat) (f : Nat → va_E) (hN : L.Nodup) (hT : ∀ a : Nat, a ∈ L → tg a < 13) (hI : PI cI cS cP cA L tg f) (h0 : Nat) (hm_h0 : h0 ∈ L) (ht_h0 : tg h0 = 5) (p0 : Int32) : Met l yX3_rootsOf wsX3_rootsOf ({ frames := 0, cells := 0, slots := 0, locals := 0 }) (va_Pc [.ref h0, .int p0] (tPre dC dI cI cS cP cA L f)) (vp_Si (fun r => True)) 0 0 (fun _ => False) := by
  refine Met.ofW (cc := cX3_rootsOf) (maxL := 4) (ret := (some .int)) (by decide) rfl ?_
  intro p e s m args below meth c s₁ B hml hv
  obtain ⟨rfl, hP, hK, hcm⟩ := hv
  have hx := B.exec
  have hb := B.bytes
  have hr := B.returns
  have hts := atoms_spec (ws := wsX3_rootsOf) B.pre
  have hown : s.vm.findClass RX3 = some m.cls := findClass_of_methodNamed B.named
  have hlocks := B.notSynchronized
  have hin_X3 : ∀ w ∈ u_ws RX3 TX3 9, w ∈ wsX3_rootsOf := by decide +kernel
  have hl := lv_entry ([.ref h0, .int p0]) (n := 4) (Nat.le_of_ble_eq_true rfl)
  rw [lg_entry_eq]
  generalize (lg_sl ([.ref h0, .int p0]) ++ List.replicate (4 - (lg_sl ([.ref h0, .int p0])).length) Slot.unset).toArray = ls at hl ⊢
  have hl : lv_has ls 4 [(0, .ref h0), (1, .int p0)] := hl
  generalize hQ : MQ below (vp_Si (fun r => True)) [.ref h0, .int p0].toArray s 0 0 (fun _ => False) = Q
  obtain ⟨f0, hf0⟩ : ∃ g : Nat → va_E, g = f := ⟨_, rfl⟩
  have hw : PW dC dI cI cS cP cA L tg (fun _ => false) f0 s.heap f s.heap [] := by rw [hf0]; exact PW.start hP hI
  clear hP
  refine lv_iconst (v := 0) hx hb dX3_rootsOf_0 (by decide) ?_
  refine lv_istore_n (lv' := [(2, .int 0), (0, .ref h0), (1, .int p0)]) hx hb dX3_rootsOf_1 rfl hl (by decide) rfl (fun ls hl => ?_)
  refine lv_iconst (v := 0) hx hb dX3_rootsOf_2 (by decide) ?_
  refine lv_istore_n (lv' := [(3, .int 0), (2, .int 0), (0, .ref h0), (1, .int p0)]) hx hb dX3_rootsOf_3 rfl hl (by decide) rfl (fun ls hl => ?_)
  have hl_4 : ∀ (fu : Nat) (ac : Int32) (i : Nat), 12 - i < fu → (i ≤ 12) → ∀ (ls : Array Slot), lv_has ls 4 [(3, .int (nI i)), (2, .int ac), (0, .ref h0), (1, .int p0)] → W p l e (headSpec wsX3_rootsOf ({ frames := 0, cells := 0, slots := 0, locals := 0 })).room s m [.ref h0, .int p0].toArray below meth c s.heap [] 0 0 Q (F0 m 4 ls []) := by
    intro fu
    induction fu with
    | zero => intro ac i hm9; exact absurd hm9 (Nat.not_lt_zero _)
    | succ fu ih_4 =>
      intro ac i hm_4 h_i ls hl
      refine lv_iload_n hx hb dX3_rootsOf_4 rfl (lv_at hl 0 rfl) ?_
      refine lv_aload_n hx hb dX3_rootsOf_5 rfl (lv_at hl 2 rfl) ?_
      refine tp_get (ci := 2) (C := RX3) (T := TX3) (N := 9) hx hb hts hin_X3 hown hK hw hm_h0 5 ht_h0 (fun _ => rfl) rfl 0 (by decide) rfl (hts (.fieldLink RX3 27 "DayBench$SlipSets" "groups" "I") (by decide +kernel)) (fun _ h9 => h9) dX3_rootsOf_6 (fun v_1 hf_2 hv_3 => ?_)
      obtain ⟨k_4, ek_4, hk_k_4⟩ := hv_3
      subst ek_4
      clear hf_2
      refine lv_icmp_ge (tgt := 41) hx hb dX3_rootsOf_9 (by decide) (fun h_5 => ?_) (fun h_5 => ?_)
      · have nh_5 : k_4 ≤ i := (nI_leI (a := k_4) (b := i) (by omega) (by omega)).mp h_5
        refine lv_iload_n hx hb dX3_rootsOf_41 rfl (lv_at hl 1 rfl) ?_
        subst hQ
        exact W.iret (v := ac) hx hb hr (fun t ht hW => ⟨_, rfl, trivial, ht⟩) (fun _ h => by cases h) dX3_rootsOf_42
      · have nh_5 : ¬ k_4 ≤ i := fun q9 => h_5 ((nI_leI (a := k_4) (b := i) (by omega) (by omega)).mpr q9)
        refine lv_iload_n hx hb dX3_rootsOf_12 rfl (lv_at hl 1 rfl) ?_
        refine lv_iload_n hx hb dX3_rootsOf_13 rfl (lv_at hl 3 rfl) ?_
        refine lv_iload_n hx hb dX3_rootsOf_14 rfl (lv_at hl 0 rfl) ?_
        refine lv_ishr hx hb dX3_rootsOf_15 ?_
        refine lv_iconst (v := 1) hx hb dX3_rootsOf_16 (by decide) ?_
        refine lv_iand hx hb dX3_rootsOf_17 ?_
        refine lv_if_eq (tgt := 32) hx hb dX3_rootsOf_18 (by decide) (fun h_6 => ?_) (fun h_6 => ?_)
        · refine lv_iconst (v := 0) hx hb dX3_rootsOf_32 (by decide) ?_
          refine lv_ior hx hb dX3_rootsOf_33 ?_
          refine lv_topi (fun x_7 ex_7 => ?_)
          refine lv_istore_n (lv' := [(2, .int x_7), (3, .int (nI i)), (0, .ref h0), (1, .int p0)]) hx hb dX3_rootsOf_34 rfl hl (by decide) rfl (fun ls hl => ?_)
          refine lv_iinc (v := nI (i + 1)) (lv' := [(3, .int (nI (i + 1))), (2, .int x_7), (0, .ref h0), (1, .int p0)]) hx hb dX3_rootsOf_35 hl (k := 1) rfl (nI_1 _) (by decide) rfl (fun ls hl => ?_)
          refine lv_goto (tgt := 4) hx hb dX3_rootsOf_38 (by decide) ?_
          exact ih_4 x_7 ((i + 1)) (by omega) (by omega) ls (lv_sub hl [0, 1, 2, 3] rfl)
        · refine lv_iconst (v := 1) hx hb dX3_rootsOf_21 (by decide) ?_
          refine lv_aload_n hx hb dX3_rootsOf_22 rfl (lv_at hl 2 rfl) ?_
          refine tp_get (ci := 2) (C := RX3) (T := TX3) (N := 9) hx hb hts hin_X3 hown hK hw hm_h0 5 ht_h0 (fun _ => rfl) rfl 4 (by decide) rfl (hts (.fieldLink RX3 15 "DayBench$SlipSets" "root" "[I") (by decide +kernel)) (fun _ h9 => h9) dX3_rootsOf_23 (fun v_8 hf_9 hv_10 => ?_)
          obtain ⟨b_11, eb_11, hm_b_11, ht_b_11⟩ := hv_10
          subst eb_11
          refine lv_iload_n hx hb dX3_rootsOf_26 rfl (lv_at hl 0 rfl) ?_
          refine tp_iald hx hb hK hw hm_b_11 7 ht_b_11 (n := 12) (fun _ => rfl) (vp_in_nI (by omega) (by omega)) dX3_rootsOf_27 (fun y_12 => ?_)
          refine lv_ishl hx hb dX3_rootsOf_28 ?_
          refine lv_goto (tgt := 33) hx hb dX3_rootsOf_29 (by decide) ?_
          refine lv_ior hx hb dX3_rootsOf_33 ?_
          refine lv_topi (fun x_13 ex_13 => ?_)
          refine lv_istore_n (lv' := [(2, .int x_13), (3, .int (nI i)), (0, .ref h0), (1, .int p0)]) hx hb dX3_rootsOf_34 rfl hl (by decide) rfl (fun ls hl => ?_)
          refine lv_iinc (v := nI (i + 1)) (lv' := [(3, .int (nI (i + 1))), (2, .int x_13), (0, .ref h0), (1, .int p0)]) hx hb dX3_rootsOf_35 hl (k := 1) rfl (nI_1 _) (by decide) rfl (fun ls hl => ?_)
          refine lv_goto (tgt := 4) hx hb dX3_rootsOf_38 (by decide) ?_
          exact ih_4 x_13 ((i + 1)) (by omega) (by omega) ls (lv_sub hl [0, 1, 2, 3] rfl)
  exact hl_4 _ 0 0 (Nat.lt_succ_self _) (by omega) ls (lv_sub hl [0, 1, 2, 3] rfl)

set_option maxHeartbeats 4000000 in
set_option maxRecDepth 100000 in
theorem k_X3_tooHeavy (l : Launch) (dC : Nat → ClassId) (dI : Nat → Nat → Nat) (cI cS cP cA : ClassId) (L : List Nat) (tg : Nat → Nat) (f : Nat → va_E) (hN : L.Nodup) (hT : ∀ a : Nat, a ∈ L → tg a < 13) (hI : PI cI cS cP cA L tg f) (h0 : Nat) (hm_h0 : h0 ∈ L) (ht_h0 : tg h0 = 5) (p0 : Int32) : Met l yX3_tooHeavy wsX3_tooHeavy ({ frames := 0, cells := 0, slots := 0, locals := 0 }) (va_Pc [.ref h0, .int p0] (tPre dC dI cI cS cP cA L f)) (vp_Si (fun r => r = 0 ∨ r = 1)) 0 0 (fun _ => False) := by
  refine Met.ofW (cc := cX3_tooHeavy) (maxL := 2) (ret := (some .boolean)) (by decide) rfl ?_
  intro p e s m args below meth c s₁ B hml hv
  obtain ⟨rfl, hP, hK, hcm⟩ := hv
  have hx := B.exec
  have hb := B.bytes
  have hr := B.returns
  have hts := atoms_spec (ws := wsX3_tooHeavy) B.pre
  have hown : s.vm.findClass RX3 = some m.cls := findClass_of_methodNamed B.named
  have hlocks := B.notSynchronized
  have hin_X3 : ∀ w ∈ u_ws RX3 TX3 9, w ∈ wsX3_tooHeavy := by decide +kernel
  have hl := lv_entry ([.ref h0, .int p0]) (n := 2) (Nat.le_of_ble_eq_true rfl)
  rw [lg_entry_eq]
  generalize (lg_sl ([.ref h0, .int p0]) ++ List.replicate (2 - (lg_sl ([.ref h0, .int p0])).length) Slot.unset).toArray = ls at hl ⊢
  have hl : lv_has ls 2 [(0, .ref h0), (1, .int p0)] := hl
  generalize hQ : MQ below (vp_Si (fun r => r = 0 ∨ r = 1)) [.ref h0, .int p0].toArray s 0 0 (fun _ => False) = Q
  obtain ⟨f0, hf0⟩ : ∃ g : Nat → va_E, g = f := ⟨_, rfl⟩
  have hw : PW dC dI cI cS cP cA L tg (fun _ => false) f0 s.heap f s.heap [] := by rw [hf0]; exact PW.start hP hI
  clear hP
  refine lv_aload_n hx hb dX3_tooHeavy_0 rfl (lv_at hl 0 rfl) ?_
  refine tp_get (ci := 2) (C := RX3) (T := TX3) (N := 9) hx hb hts hin_X3 hown hK hw hm_h0 5 ht_h0 (fun _ => rfl) rfl 8 (by decide) rfl (hts (.fieldLink RX3 31 "DayBench$SlipSets" "size" "I") (by decide +kernel)) (fun _ h9 => h9) dX3_tooHeavy_1 (fun v_1 hf_2 hv_3 => ?_)
  obtain ⟨k_4, ek_4, hk_k_4⟩ := hv_3
  subst ek_4
  clear hf_2
  refine lv_if_le (tgt := 19) hx hb dX3_tooHeavy_4 (by decide) (fun h_5 => ?_) (fun h_5 => ?_)
  · have nh_5 : k_4 ≤ 0 := (nI_leI (a := k_4) (b := 0) (by omega) (by omega)).mp h_5
    refine lv_iconst (v := 0) hx hb dX3_tooHeavy_19 (by decide) ?_
    subst hQ
    exact W.zret (v := 0) hx hb hr rfl (fun t ht hW => ⟨_, rfl, Or.inl rfl, ht⟩) (fun _ h => by cases h) dX3_tooHeavy_20
  · have nh_5 : ¬ k_4 ≤ 0 := fun q9 => h_5 ((nI_leI (a := k_4) (b := 0) (by omega) (by omega)).mpr q9)
    refine lv_iload_n hx hb dX3_tooHeavy_7 rfl (lv_at hl 1 rfl) ?_
    refine lv_aload_n hx hb dX3_tooHeavy_8 rfl (lv_at hl 0 rfl) ?_
    refine tp_get (ci := 2) (C := RX3) (T := TX3) (N := 9) hx hb hts hin_X3 hown hK hw hm_h0 5 ht_h0 (fun _ => rfl) rfl 1 (by decide) rfl (hts (.fieldLink RX3 34 "DayBench$SlipSets" "least" "I") (by decide +kernel)) (fun _ h9 => h9) dX3_tooHeavy_9 (fun v_6 hf_7 hv_8 => ?_)
    obtain ⟨y_9, ey_9⟩ := hv_8
    subst ey_9
    clear hf_7
    refine lv_icmp_le (tgt := 19) hx hb dX3_tooHeavy_12 (by decide) (fun h_10 => ?_) (fun h_10 => ?_)
    · refine lv_iconst (v := 0) hx hb dX3_tooHeavy_19 (by decide) ?_
      subst hQ
      exact W.zret (v := 0) hx hb hr rfl (fun t ht hW => ⟨_, rfl, Or.inl rfl, ht⟩) (fun _ h => by cases h) dX3_tooHeavy_20
    · refine lv_iconst (v := 1) hx hb dX3_tooHeavy_15 (by decide) ?_
      refine lv_goto (tgt := 20) hx hb dX3_tooHeavy_16 (by decide) ?_
      subst hQ
      exact W.zret (v := 1) hx hb hr rfl (fun t ht hW => ⟨_, rfl, Or.inr rfl, ht⟩) (fun _ h => by cases h) dX3_tooHeavy_20

set_option maxHeartbeats 4000000 in
set_option maxRecDepth 100000 in
theorem k_X3_note (l : Launch) (dC : Nat → ClassId) (dI : Nat → Nat → Nat) (cI cS cP cA : ClassId) (L : List Nat) (tg : Nat → Nat) (f : Nat → va_E) (hN : L.Nodup) (hT : ∀ a : Nat, a ∈ L → tg a < 13) (hI : PI cI cS cP cA L tg f) (h0 : Nat) (hm_h0 : h0 ∈ L) (ht_h0 : tg h0 = 5) (p0 : Int32) (p1 : Int32) : Met l yX3_note wsX3_note ({ frames := 0, cells := 0, slots := 0, locals := 0 }) (va_Pc [.ref h0, .int p0, .int p1] (tPre dC dI cI cS cP cA L f)) (va_Qv (fun (f' : Nat → va_E) => PI cI cS cP cA L tg f' ∧ Fr L tg (fun t => t == 5 || t == 8) f f') (fun (f' : Nat → va_E) t => va_P (dC, dI) vwCl (va_pl L f') t.heap) (fun q : Nat => q ∈ L)) 0 0 (fun q : Nat => q ∈ L) := by
  refine Met.ofW (cc := cX3_note) (maxL := 3) (ret := none) (by decide) rfl ?_
  intro p e s m args below meth c s₁ B hml hv
  obtain ⟨rfl, hP, hK, hcm⟩ := hv
  have hx := B.exec
  have hb := B.bytes
  have hr := B.returns
  have hts := atoms_spec (ws := wsX3_note) B.pre
  have hown : s.vm.findClass RX3 = some m.cls := findClass_of_methodNamed B.named
  have hlocks := B.notSynchronized
  have hin_X3 : ∀ w ∈ u_ws RX3 TX3 9, w ∈ wsX3_note := by decide +kernel
  have hl := lv_entry ([.ref h0, .int p0, .int p1]) (n := 3) (Nat.le_of_ble_eq_true rfl)
  rw [lg_entry_eq]
  generalize (lg_sl ([.ref h0, .int p0, .int p1]) ++ List.replicate (3 - (lg_sl ([.ref h0, .int p0, .int p1])).length) Slot.unset).toArray = ls at hl ⊢
  have hl : lv_has ls 3 [(0, .ref h0), (1, .int p0), (2, .int p1)] := hl
  generalize hQ : MQ below (va_Qv (fun (f' : Nat → va_E) => PI cI cS cP cA L tg f' ∧ Fr L tg (fun t => t == 5 || t == 8) f f') (fun (f' : Nat → va_E) t => va_P (dC, dI) vwCl (va_pl L f') t.heap) (fun q : Nat => q ∈ L)) [.ref h0, .int p0, .int p1].toArray s 0 0 (fun q : Nat => q ∈ L) = Q
  obtain ⟨f0, hf0⟩ : ∃ g : Nat → va_E, g = f := ⟨_, rfl⟩
  have hw : PW dC dI cI cS cP cA L tg (fun t => t == 5 || t == 8) f0 s.heap f s.heap [] := by rw [hf0]; exact PW.start hP hI
  clear hP
  refine lv_aload_n hx hb dX3_note_0 rfl (lv_at hl 0 rfl) ?_
  refine tp_get (ci := 2) (C := RX3) (T := TX3) (N := 9) hx hb hts hin_X3 hown hK hw hm_h0 5 ht_h0 (fun _ => rfl) rfl 8 (by decide) rfl (hts (.fieldLink RX3 31 "DayBench$SlipSets" "size" "I") (by decide +kernel)) (fun _ h9 => h9) dX3_note_1 (fun v_1 hf_2 hv_3 => ?_)
  obtain ⟨k_4, ek_4, hk_k_4⟩ := hv_3
  subst ek_4
  clear hf_2
  refine lv_if_eq (tgt := 15) hx hb dX3_note_4 (by decide) (fun h_5 => ?_) (fun h_5 => ?_)
  · have nh_5 : k_4 = 0 := (nI_eq (a := k_4) (b := 0) (by omega) (by omega)).mp h_5
    refine lv_aload_n hx hb dX3_note_15 rfl (lv_at hl 0 rfl) ?_
    refine lv_iconst (v := 0) hx hb dX3_note_16 (by decide) ?_
    refine tp_put (ci := 2) (C := RX3) (T := TX3) (N := 9) (v := .int 0) (ty := .int) hx hb hts hin_X3 tyX3 tyX3_ok nmX3 hown hN hK hw hm_h0 5 ht_h0 rfl (fun _ => rfl) rfl 8 (by decide) rfl (hts (.fieldLink RX3 31 "DayBench$SlipSets" "size" "I") (by decide +kernel)) (fun _ h9 => h9) rfl (by decide +kernel) rfl rfl ⟨0, rfl, by omega⟩ dX3_note_17 (fun H locs f hw ho_6 hn_7 hs_8 => ?_)
    clear ho_6 hs_8 hn_7
    refine lv_aload_n hx hb dX3_note_20 rfl (lv_at hl 0 rfl) ?_
    refine lv_iload_n hx hb dX3_note_21 rfl (lv_at hl 1 rfl) ?_
    refine tp_put (ci := 2) (C := RX3) (T := TX3) (N := 9) (v := .int p0) (ty := .int) hx hb hts hin_X3 tyX3 tyX3_ok nmX3 hown hN hK hw hm_h0 5 ht_h0 rfl (fun _ => rfl) rfl 1 (by decide) rfl (hts (.fieldLink RX3 34 "DayBench$SlipSets" "least" "I") (by decide +kernel)) (fun _ h9 => h9) rfl (by decide +kernel) rfl rfl ⟨_, rfl⟩ dX3_note_22 (fun H locs f hw ho_9 hn_10 hs_11 => ?_)
    clear ho_9 hs_11 hn_10
    refine lv_aload_n hx hb dX3_note_25 rfl (lv_at hl 0 rfl) ?_
    refine tp_get (ci := 2) (C := RX3) (T := TX3) (N := 9) hx hb hts hin_X3 hown hK hw hm_h0 5 ht_h0 (fun _ => rfl) rfl 8 (by decide) rfl (hts (.fieldLink RX3 31 "DayBench$SlipSets" "size" "I") (by decide +kernel)) (fun _ h9 => h9) dX3_note_26 (fun v_12 hf_13 hv_14 => ?_)
    obtain ⟨k_15, ek_15, hk_k_15⟩ := hv_14
    subst ek_15
    refine lv_sipush (v := 924) hx hb dX3_note_29 (by decide) ?_
    refine lv_icmp_ge (tgt := 55) hx hb dX3_note_32 (by decide) (fun h_16 => ?_) (fun h_16 => ?_)
    · have nh_16 : 924 ≤ k_15 := (nI_leI (a := 924) (b := k_15) (by omega) (by omega)).mp h_16
      subst hQ
      have hI9 := hw.2.1
      have hF9 := hw.2.2.1
      have hS9 := hw.2.2.2
      rw [hf0] at hF9
      exact W.vret hx hb hr (fun t ht hW => ⟨⟨_, rfl, ⟨hI9, hF9⟩, hw.at ht⟩, hS9.F ht⟩) hS9.2.2 dX3_note_55
    · have nh_16 : ¬ 924 ≤ k_15 := fun q9 => h_16 ((nI_leI (a := 924) (b := k_15) (by omega) (by omega)).mpr q9)
      refine lv_aload_n hx hb dX3_note_35 rfl (lv_at hl 0 rfl) ?_
      refine tp_get (ci := 2) (C := RX3) (T := TX3) (N := 9) hx hb hts hin_X3 hown hK hw hm_h0 5 ht_h0 (fun _ => rfl) rfl 7 (by decide) rfl (hts (.fieldLink RX3 24 "DayBench$SlipSets" "lightest" "[I") (by decide +kernel)) (fun _ h9 => h9) dX3_note_36 (fun v_17 hf_18 hv_19 => ?_)
      obtain ⟨b_20, eb_20, hm_b_20, ht_b_20⟩ := hv_19
      subst eb_20
      refine lv_aload_n hx hb dX3_note_39 rfl (lv_at hl 0 rfl) ?_
      refine tp_getK (ci := 2) (C := RX3) (T := TX3) (N := 9) hx hb hts hin_X3 hown hK hw hm_h0 5 ht_h0 (fun _ => rfl) rfl 8 (by decide) hf_13 (hts (.fieldLink RX3 31 "DayBench$SlipSets" "size" "I") (by decide +kernel)) (fun _ h9 => h9) dX3_note_40 ?_
      refine lv_iload_n hx hb dX3_note_43 rfl (lv_at hl 2 rfl) ?_
      refine tp_iast hx hb hN hK hw hm_b_20 8 ht_b_20 rfl (n := 924) (fun _ => rfl) (vp_in_nI (by omega) (by omega)) dX3_note_44 (fun H locs f hw ho_21 => ?_)
      have hf_13 : fld (f h0) 8 = some (.int (nI k_15)) := by rw [ho_21 h0 (tne ht_h0 ht_b_20 (by decide))]; exact hf_13
      have hf_18 : fld (f h0) 7 = some (.ref b_20) := by rw [ho_21 h0 (tne ht_h0 ht_b_20 (by decide))]; exact hf_18
      clear ho_21
      refine lv_aload_n hx hb dX3_note_45 rfl (lv_at hl 0 rfl) ?_
      refine lv_dup hx hb dX3_note_46 rfl ?_
      refine tp_getK (ci := 2) (C := RX3) (T := TX3) (N := 9) hx hb hts hin_X3 hown hK hw hm_h0 5 ht_h0 (fun _ => rfl) rfl 8 (by decide) hf_13 (hts (.fieldLink RX3 31 "DayBench$SlipSets" "size" "I") (by decide +kernel)) (fun _ h9 => h9) dX3_note_47 ?_
      refine lv_iconst (v := 1) hx hb dX3_note_50 (by decide) ?_
      refine lv_iadd hx hb dX3_note_51 ?_
      refine lv_topi (fun x_22 ex_22 => ?_)
      have ex_22 : x_22 = nI (k_15 + 1) := ex_22.trans (nI_1 _)
      subst ex_22
      refine tp_put (ci := 2) (C := RX3) (T := TX3) (N := 9) (v := .int (nI (k_15 + 1))) (ty := .int) hx hb hts hin_X3 tyX3 tyX3_ok nmX3 hown hN hK hw hm_h0 5 ht_h0 rfl (fun _ => rfl) rfl 8 (by decide) rfl (hts (.fieldLink RX3 31 "DayBench$SlipSets" "size" "I") (by decide +kernel)) (fun _ h9 => h9) rfl (by decide +kernel) rfl rfl ⟨(k_15 + 1), rfl, by omega⟩ dX3_note_52 (fun H locs f hw ho_23 hn_24 hs_25 => ?_)
      have hf_18 := (hs_25 7 (by decide)).trans hf_18
      clear ho_23 hs_25 hn_24
      subst hQ
      have hI9 := hw.2.1
      have hF9 := hw.2.2.1
      have hS9 := hw.2.2.2
      rw [hf0] at hF9
      exact W.vret hx hb hr (fun t ht hW => ⟨⟨_, rfl, ⟨hI9, hF9⟩, hw.at ht⟩, hS9.F ht⟩) hS9.2.2 dX3_note_55
  · have nh_5 : ¬ k_4 = 0 := fun q9 => h_5 ((nI_eq (a := k_4) (b := 0) (by omega) (by omega)).mpr q9)
    refine lv_iload_n hx hb dX3_note_7 rfl (lv_at hl 1 rfl) ?_
    refine lv_aload_n hx hb dX3_note_8 rfl (lv_at hl 0 rfl) ?_
    refine tp_get (ci := 2) (C := RX3) (T := TX3) (N := 9) hx hb hts hin_X3 hown hK hw hm_h0 5 ht_h0 (fun _ => rfl) rfl 1 (by decide) rfl (hts (.fieldLink RX3 34 "DayBench$SlipSets" "least" "I") (by decide +kernel)) (fun _ h9 => h9) dX3_note_9 (fun v_26 hf_27 hv_28 => ?_)
    obtain ⟨y_29, ey_29⟩ := hv_28
    subst ey_29
    clear hf_27
    refine lv_icmp_ge (tgt := 25) hx hb dX3_note_12 (by decide) (fun h_30 => ?_) (fun h_30 => ?_)
    · refine lv_aload_n hx hb dX3_note_25 rfl (lv_at hl 0 rfl) ?_
      refine tp_get (ci := 2) (C := RX3) (T := TX3) (N := 9) hx hb hts hin_X3 hown hK hw hm_h0 5 ht_h0 (fun _ => rfl) rfl 8 (by decide) rfl (hts (.fieldLink RX3 31 "DayBench$SlipSets" "size" "I") (by decide +kernel)) (fun _ h9 => h9) dX3_note_26 (fun v_31 hf_32 hv_33 => ?_)
      obtain ⟨k_34, ek_34, hk_k_34⟩ := hv_33
      subst ek_34
      refine lv_sipush (v := 924) hx hb dX3_note_29 (by decide) ?_
      refine lv_icmp_ge (tgt := 55) hx hb dX3_note_32 (by decide) (fun h_35 => ?_) (fun h_35 => ?_)
      · have nh_35 : 924 ≤ k_34 := (nI_leI (a := 924) (b := k_34) (by omega) (by omega)).mp h_35
        subst hQ
        have hI9 := hw.2.1
        have hF9 := hw.2.2.1
        have hS9 := hw.2.2.2
        rw [hf0] at hF9
        exact W.vret hx hb hr (fun t ht hW => ⟨⟨_, rfl, ⟨hI9, hF9⟩, hw.at ht⟩, hS9.F ht⟩) hS9.2.2 dX3_note_55
      · have nh_35 : ¬ 924 ≤ k_34 := fun q9 => h_35 ((nI_leI (a := 924) (b := k_34) (by omega) (by omega)).mpr q9)
        refine lv_aload_n hx hb dX3_note_35 rfl (lv_at hl 0 rfl) ?_
        refine tp_get (ci := 2) (C := RX3) (T := TX3) (N := 9) hx hb hts hin_X3 hown hK hw hm_h0 5 ht_h0 (fun _ => rfl) rfl 7 (by decide) rfl (hts (.fieldLink RX3 24 "DayBench$SlipSets" "lightest" "[I") (by decide +kernel)) (fun _ h9 => h9) dX3_note_36 (fun v_36 hf_37 hv_38 => ?_)
        obtain ⟨b_39, eb_39, hm_b_39, ht_b_39⟩ := hv_38
        subst eb_39
        refine lv_aload_n hx hb dX3_note_39 rfl (lv_at hl 0 rfl) ?_
        refine tp_getK (ci := 2) (C := RX3) (T := TX3) (N := 9) hx hb hts hin_X3 hown hK hw hm_h0 5 ht_h0 (fun _ => rfl) rfl 8 (by decide) hf_32 (hts (.fieldLink RX3 31 "DayBench$SlipSets" "size" "I") (by decide +kernel)) (fun _ h9 => h9) dX3_note_40 ?_
        refine lv_iload_n hx hb dX3_note_43 rfl (lv_at hl 2 rfl) ?_
        refine tp_iast hx hb hN hK hw hm_b_39 8 ht_b_39 rfl (n := 924) (fun _ => rfl) (vp_in_nI (by omega) (by omega)) dX3_note_44 (fun H locs f hw ho_40 => ?_)
        have hf_32 : fld (f h0) 8 = some (.int (nI k_34)) := by rw [ho_40 h0 (tne ht_h0 ht_b_39 (by decide))]; exact hf_32
        have hf_37 : fld (f h0) 7 = some (.ref b_39) := by rw [ho_40 h0 (tne ht_h0 ht_b_39 (by decide))]; exact hf_37
        clear ho_40
        refine lv_aload_n hx hb dX3_note_45 rfl (lv_at hl 0 rfl) ?_
        refine lv_dup hx hb dX3_note_46 rfl ?_
        refine tp_getK (ci := 2) (C := RX3) (T := TX3) (N := 9) hx hb hts hin_X3 hown hK hw hm_h0 5 ht_h0 (fun _ => rfl) rfl 8 (by decide) hf_32 (hts (.fieldLink RX3 31 "DayBench$SlipSets" "size" "I") (by decide +kernel)) (fun _ h9 => h9) dX3_note_47 ?_
        refine lv_iconst (v := 1) hx hb dX3_note_50 (by decide) ?_
        refine lv_iadd hx hb dX3_note_51 ?_
        refine lv_topi (fun x_41 ex_41 => ?_)
        have ex_41 : x_41 = nI (k_34 + 1) := ex_41.trans (nI_1 _)
        subst ex_41
        refine tp_put (ci := 2) (C := RX3) (T := TX3) (N := 9) (v := .int (nI (k_34 + 1))) (ty := .int) hx hb hts hin_X3 tyX3 tyX3_ok nmX3 hown hN hK hw hm_h0 5 ht_h0 rfl (fun _ => rfl) rfl 8 (by decide) rfl (hts (.fieldLink RX3 31 "DayBench$SlipSets" "size" "I") (by decide +kernel)) (fun _ h9 => h9) rfl (by decide +kernel) rfl rfl ⟨(k_34 + 1), rfl, by omega⟩ dX3_note_52 (fun H locs f hw ho_42 hn_43 hs_44 => ?_)
        have hf_37 := (hs_44 7 (by decide)).trans hf_37
        clear ho_42 hs_44 hn_43
        subst hQ
        have hI9 := hw.2.1
        have hF9 := hw.2.2.1
        have hS9 := hw.2.2.2
        rw [hf0] at hF9
        exact W.vret hx hb hr (fun t ht hW => ⟨⟨_, rfl, ⟨hI9, hF9⟩, hw.at ht⟩, hS9.F ht⟩) hS9.2.2 dX3_note_55
    · refine lv_aload_n hx hb dX3_note_15 rfl (lv_at hl 0 rfl) ?_
      refine lv_iconst (v := 0) hx hb dX3_note_16 (by decide) ?_
      refine tp_put (ci := 2) (C := RX3) (T := TX3) (N := 9) (v := .int 0) (ty := .int) hx hb hts hin_X3 tyX3 tyX3_ok nmX3 hown hN hK hw hm_h0 5 ht_h0 rfl (fun _ => rfl) rfl 8 (by decide) rfl (hts (.fieldLink RX3 31 "DayBench$SlipSets" "size" "I") (by decide +kernel)) (fun _ h9 => h9) rfl (by decide +kernel) rfl rfl ⟨0, rfl, by omega⟩ dX3_note_17 (fun H locs f hw ho_45 hn_46 hs_47 => ?_)
      clear ho_45 hs_47 hn_46
      refine lv_aload_n hx hb dX3_note_20 rfl (lv_at hl 0 rfl) ?_
      refine lv_iload_n hx hb dX3_note_21 rfl (lv_at hl 1 rfl) ?_
      refine tp_put (ci := 2) (C := RX3) (T := TX3) (N := 9) (v := .int p0) (ty := .int) hx hb hts hin_X3 tyX3 tyX3_ok nmX3 hown hN hK hw hm_h0 5 ht_h0 rfl (fun _ => rfl) rfl 1 (by decide) rfl (hts (.fieldLink RX3 34 "DayBench$SlipSets" "least" "I") (by decide +kernel)) (fun _ h9 => h9) rfl (by decide +kernel) rfl rfl ⟨_, rfl⟩ dX3_note_22 (fun H locs f hw ho_48 hn_49 hs_50 => ?_)
      clear ho_48 hs_50 hn_49
      refine lv_aload_n hx hb dX3_note_25 rfl (lv_at hl 0 rfl) ?_
      refine tp_get (ci := 2) (C := RX3) (T := TX3) (N := 9) hx hb hts hin_X3 hown hK hw hm_h0 5 ht_h0 (fun _ => rfl) rfl 8 (by decide) rfl (hts (.fieldLink RX3 31 "DayBench$SlipSets" "size" "I") (by decide +kernel)) (fun _ h9 => h9) dX3_note_26 (fun v_51 hf_52 hv_53 => ?_)
      obtain ⟨k_54, ek_54, hk_k_54⟩ := hv_53
      subst ek_54
      refine lv_sipush (v := 924) hx hb dX3_note_29 (by decide) ?_
      refine lv_icmp_ge (tgt := 55) hx hb dX3_note_32 (by decide) (fun h_55 => ?_) (fun h_55 => ?_)
      · have nh_55 : 924 ≤ k_54 := (nI_leI (a := 924) (b := k_54) (by omega) (by omega)).mp h_55
        subst hQ
        have hI9 := hw.2.1
        have hF9 := hw.2.2.1
        have hS9 := hw.2.2.2
        rw [hf0] at hF9
        exact W.vret hx hb hr (fun t ht hW => ⟨⟨_, rfl, ⟨hI9, hF9⟩, hw.at ht⟩, hS9.F ht⟩) hS9.2.2 dX3_note_55
      · have nh_55 : ¬ 924 ≤ k_54 := fun q9 => h_55 ((nI_leI (a := 924) (b := k_54) (by omega) (by omega)).mpr q9)
        refine lv_aload_n hx hb dX3_note_35 rfl (lv_at hl 0 rfl) ?_
        refine tp_get (ci := 2) (C := RX3) (T := TX3) (N := 9) hx hb hts hin_X3 hown hK hw hm_h0 5 ht_h0 (fun _ => rfl) rfl 7 (by decide) rfl (hts (.fieldLink RX3 24 "DayBench$SlipSets" "lightest" "[I") (by decide +kernel)) (fun _ h9 => h9) dX3_note_36 (fun v_56 hf_57 hv_58 => ?_)
        obtain ⟨b_59, eb_59, hm_b_59, ht_b_59⟩ := hv_58
        subst eb_59
        refine lv_aload_n hx hb dX3_note_39 rfl (lv_at hl 0 rfl) ?_
        refine tp_getK (ci := 2) (C := RX3) (T := TX3) (N := 9) hx hb hts hin_X3 hown hK hw hm_h0 5 ht_h0 (fun _ => rfl) rfl 8 (by decide) hf_52 (hts (.fieldLink RX3 31 "DayBench$SlipSets" "size" "I") (by decide +kernel)) (fun _ h9 => h9) dX3_note_40 ?_
        refine lv_iload_n hx hb dX3_note_43 rfl (lv_at hl 2 rfl) ?_
        refine tp_iast hx hb hN hK hw hm_b_59 8 ht_b_59 rfl (n := 924) (fun _ => rfl) (vp_in_nI (by omega) (by omega)) dX3_note_44 (fun H locs f hw ho_60 => ?_)
        have hf_52 : fld (f h0) 8 = some (.int (nI k_54)) := by rw [ho_60 h0 (tne ht_h0 ht_b_59 (by decide))]; exact hf_52
        have hf_57 : fld (f h0) 7 = some (.ref b_59) := by rw [ho_60 h0 (tne ht_h0 ht_b_59 (by decide))]; exact hf_57
        clear ho_60
        refine lv_aload_n hx hb dX3_note_45 rfl (lv_at hl 0 rfl) ?_
        refine lv_dup hx hb dX3_note_46 rfl ?_
        refine tp_getK (ci := 2) (C := RX3) (T := TX3) (N := 9) hx hb hts hin_X3 hown hK hw hm_h0 5 ht_h0 (fun _ => rfl) rfl 8 (by decide) hf_52 (hts (.fieldLink RX3 31 "DayBench$SlipSets" "size" "I") (by decide +kernel)) (fun _ h9 => h9) dX3_note_47 ?_
        refine lv_iconst (v := 1) hx hb dX3_note_50 (by decide) ?_
        refine lv_iadd hx hb dX3_note_51 ?_
        refine lv_topi (fun x_61 ex_61 => ?_)
        have ex_61 : x_61 = nI (k_54 + 1) := ex_61.trans (nI_1 _)
        subst ex_61
        refine tp_put (ci := 2) (C := RX3) (T := TX3) (N := 9) (v := .int (nI (k_54 + 1))) (ty := .int) hx hb hts hin_X3 tyX3 tyX3_ok nmX3 hown hN hK hw hm_h0 5 ht_h0 rfl (fun _ => rfl) rfl 8 (by decide) rfl (hts (.fieldLink RX3 31 "DayBench$SlipSets" "size" "I") (by decide +kernel)) (fun _ h9 => h9) rfl (by decide +kernel) rfl rfl ⟨(k_54 + 1), rfl, by omega⟩ dX3_note_52 (fun H locs f hw ho_62 hn_63 hs_64 => ?_)
        have hf_57 := (hs_64 7 (by decide)).trans hf_57
        clear ho_62 hs_64 hn_63
        subst hQ
        have hI9 := hw.2.1
        have hF9 := hw.2.2.1
        have hS9 := hw.2.2.2
        rw [hf0] at hF9
        exact W.vret hx hb hr (fun t ht hW => ⟨⟨_, rfl, ⟨hI9, hF9⟩, hw.at ht⟩, hS9.F ht⟩) hS9.2.2 dX3_note_55

set_option maxHeartbeats 4000000 in
set_option maxRecDepth 100000 in
theorem k_X3_tell (l : Launch) (dC : Nat → ClassId) (dI : Nat → Nat → Nat) (cI cS cP cA : ClassId) (L : List Nat) (tg : Nat → Nat) (f : Nat → va_E) (hN : L.Nodup) (hT : ∀ a : Nat, a ∈ L → tg a < 13) (hI : PI cI cS cP cA L tg f) (h0 : Nat) (hm_h0 : h0 ∈ L) (ht_h0 : tg h0 = 5) : Met l yX3_tell wsX3_tell ({ frames := 1, cells := 0, slots := 0, locals := 40 }) (va_Pc [.ref h0] (tPre dC dI cI cS cP cA L f)) (va_Qv (fun (f' : Nat → va_E) => PI cI cS cP cA L tg f' ∧ Fr L tg (fun t => t == 5 || t == 8) f f') (fun (f' : Nat → va_E) t => va_P (dC, dI) vwCl (va_pl L f') t.heap) (fun q : Nat => q ∈ L)) 0 0 (fun q : Nat => q ∈ L) := by
  refine Met.ofW (cc := cX3_tell) (maxL := 1) (ret := none) (by decide) rfl ?_
  intro p e s m args below meth c s₁ B hml hv
  obtain ⟨rfl, hP, hK, hcm⟩ := hv
  have hx := B.exec
  have hb := B.bytes
  have hr := B.returns
  have hts := atoms_spec (ws := wsX3_tell) B.pre
  have hown : s.vm.findClass RX3 = some m.cls := findClass_of_methodNamed B.named
  have hlocks := B.notSynchronized
  have hin_X3 : ∀ w ∈ u_ws RX3 TX3 9, w ∈ wsX3_tell := by decide +kernel
  have hl := lv_entry ([.ref h0]) (n := 1) (Nat.le_of_ble_eq_true rfl)
  rw [lg_entry_eq]
  generalize (lg_sl ([.ref h0]) ++ List.replicate (1 - (lg_sl ([.ref h0])).length) Slot.unset).toArray = ls at hl ⊢
  have hl : lv_has ls 1 [(0, .ref h0)] := hl
  generalize hQ : MQ below (va_Qv (fun (f' : Nat → va_E) => PI cI cS cP cA L tg f' ∧ Fr L tg (fun t => t == 5 || t == 8) f f') (fun (f' : Nat → va_E) t => va_P (dC, dI) vwCl (va_pl L f') t.heap) (fun q : Nat => q ∈ L)) [.ref h0].toArray s 0 0 (fun q : Nat => q ∈ L) = Q
  obtain ⟨f0, hf0⟩ : ∃ g : Nat → va_E, g = f := ⟨_, rfl⟩
  have hw : PW dC dI cI cS cP cA L tg (fun t => t == 5 || t == 8) f0 s.heap f s.heap [] := by rw [hf0]; exact PW.start hP hI
  clear hP
  refine lv_aload_n hx hb dX3_tell_0 rfl (lv_at hl 0 rfl) ?_
  refine tp_get (ci := 2) (C := RX3) (T := TX3) (N := 9) hx hb hts hin_X3 hown hK hw hm_h0 5 ht_h0 (fun _ => rfl) rfl 7 (by decide) rfl (hts (.fieldLink RX3 24 "DayBench$SlipSets" "lightest" "[I") (by decide +kernel)) (fun _ h9 => h9) dX3_tell_1 (fun v_1 hf_2 hv_3 => ?_)
  obtain ⟨b_4, eb_4, hm_b_4, ht_b_4⟩ := hv_3
  subst eb_4
  refine lv_iconst (v := 0) hx hb dX3_tell_4 (by decide) ?_
  refine lv_aload_n hx hb dX3_tell_5 rfl (lv_at hl 0 rfl) ?_
  refine tp_get (ci := 2) (C := RX3) (T := TX3) (N := 9) hx hb hts hin_X3 hown hK hw hm_h0 5 ht_h0 (fun _ => rfl) rfl 3 (by decide) rfl (hts (.fieldLink RX3 11 "DayBench$SlipSets" "toldSets" "[I") (by decide +kernel)) (fun _ h9 => h9) dX3_tell_6 (fun v_5 hf_6 hv_7 => ?_)
  obtain ⟨b_8, eb_8, hm_b_8, ht_b_8⟩ := hv_7
  subst eb_8
  refine lv_iconst (v := 0) hx hb dX3_tell_9 (by decide) ?_
  refine lv_aload_n hx hb dX3_tell_10 rfl (lv_at hl 0 rfl) ?_
  refine tp_get (ci := 2) (C := RX3) (T := TX3) (N := 9) hx hb hts hin_X3 hown hK hw hm_h0 5 ht_h0 (fun _ => rfl) rfl 8 (by decide) rfl (hts (.fieldLink RX3 31 "DayBench$SlipSets" "size" "I") (by decide +kernel)) (fun _ h9 => h9) dX3_tell_11 (fun v_9 hf_10 hv_11 => ?_)
  obtain ⟨k_12, ek_12, hk_k_12⟩ := hv_11
  subst ek_12
  clear hf_10
  refine tp_copyi (own := RX3) hx hb (hml.trans hl.1.symm) hown (hts (.methodLink RX3 37 arraycopyName) (by decide +kernel)) (hts (.native arraycopyName) (by decide +kernel)) (hts (.static arraycopyName) (by decide +kernel)) (hts (.initialized "java/lang/System") (by decide +kernel)) hN hK hw hm_b_4 8 ht_b_4 hm_b_8 8 ht_b_8 rfl (n0 := 924) (n1 := 924) (fun _ => rfl) (fun _ => rfl) (by decide) (by decide) (nI_pos (by omega)) (by rw [nI_clamp (by omega)]; show 0 + k_12 ≤ _; omega) (by rw [nI_clamp (by omega)]; show 0 + k_12 ≤ _; omega) (Nat.le_of_ble_eq_true rfl) (Nat.le_of_ble_eq_true rfl) dX3_tell_14 (fun H locs f hw ho_13 => ?_)
  have hf_2 : fld (f h0) 7 = some (.ref b_4) := by rw [ho_13 h0 (tne ht_h0 ht_b_8 (by decide))]; exact hf_2
  have hf_6 : fld (f h0) 3 = some (.ref b_8) := by rw [ho_13 h0 (tne ht_h0 ht_b_8 (by decide))]; exact hf_6
  clear ho_13
  refine lv_aload_n hx hb dX3_tell_17 rfl (lv_at hl 0 rfl) ?_
  refine lv_aload_n hx hb dX3_tell_18 rfl (lv_at hl 0 rfl) ?_
  refine tp_get (ci := 2) (C := RX3) (T := TX3) (N := 9) hx hb hts hin_X3 hown hK hw hm_h0 5 ht_h0 (fun _ => rfl) rfl 8 (by decide) rfl (hts (.fieldLink RX3 31 "DayBench$SlipSets" "size" "I") (by decide +kernel)) (fun _ h9 => h9) dX3_tell_19 (fun v_14 hf_15 hv_16 => ?_)
  obtain ⟨k_17, ek_17, hk_k_17⟩ := hv_16
  subst ek_17
  clear hf_15
  refine tp_put (ci := 2) (C := RX3) (T := TX3) (N := 9) (v := .int (nI k_17)) (ty := .int) hx hb hts hin_X3 tyX3 tyX3_ok nmX3 hown hN hK hw hm_h0 5 ht_h0 rfl (fun _ => rfl) rfl 2 (by decide) rfl (hts (.fieldLink RX3 43 "DayBench$SlipSets" "told" "I") (by decide +kernel)) (fun _ h9 => h9) rfl (by decide +kernel) rfl rfl ⟨k_17, rfl, by omega⟩ dX3_tell_22 (fun H locs f hw ho_18 hn_19 hs_20 => ?_)
  have hf_2 := (hs_20 7 (by decide)).trans hf_2
  have hf_6 := (hs_20 3 (by decide)).trans hf_6
  clear ho_18 hs_20 hn_19
  subst hQ
  have hI9 := hw.2.1
  have hF9 := hw.2.2.1
  have hS9 := hw.2.2.2
  rw [hf0] at hF9
  exact W.vret hx hb hr (fun t ht hW => ⟨⟨_, rfl, ⟨hI9, hF9⟩, hw.at ht⟩, hS9.F ht⟩) hS9.2.2 dX3_tell_25

set_option maxHeartbeats 4000000 in
set_option maxRecDepth 100000 in
theorem k_X5_isEvent (l : Launch) (dC : Nat → ClassId) (dI : Nat → Nat → Nat) (cI cS cP cA : ClassId) (L : List Nat) (tg : Nat → Nat) (f : Nat → va_E) (hN : L.Nodup) (hT : ∀ a : Nat, a ∈ L → tg a < 13) (hI : PI cI cS cP cA L tg f) (h0 : Nat) (hm_h0 : h0 ∈ L) (ht_h0 : tg h0 = 6) (p0 : Int32) : Met l yX5_isEvent wsX5_isEvent ({ frames := 0, cells := 0, slots := 0, locals := 0 }) (va_Pc [.ref h0, .int p0] (tPre dC dI cI cS cP cA L f)) (vp_Si (fun r => r = 0 ∨ (r = 1 ∧ ∃ k : Nat, k < 6 ∧ p0 = nI k))) 0 0 (fun _ => False) := by
  refine Met.ofW (cc := cX5_isEvent) (maxL := 2) (ret := (some .boolean)) (by decide) rfl ?_
  intro p e s m args below meth c s₁ B hml hv
  obtain ⟨rfl, hP, hK, hcm⟩ := hv
  have hx := B.exec
  have hb := B.bytes
  have hr := B.returns
  have hts := atoms_spec (ws := wsX5_isEvent) B.pre
  have hown : s.vm.findClass RX5 = some m.cls := findClass_of_methodNamed B.named
  have hlocks := B.notSynchronized
  have hin_X5 : ∀ w ∈ u_ws RX5 TX5 11, w ∈ wsX5_isEvent := by decide +kernel
  have hl := lv_entry ([.ref h0, .int p0]) (n := 2) (Nat.le_of_ble_eq_true rfl)
  rw [lg_entry_eq]
  generalize (lg_sl ([.ref h0, .int p0]) ++ List.replicate (2 - (lg_sl ([.ref h0, .int p0])).length) Slot.unset).toArray = ls at hl ⊢
  have hl : lv_has ls 2 [(0, .ref h0), (1, .int p0)] := hl
  generalize hQ : MQ below (vp_Si (fun r => r = 0 ∨ (r = 1 ∧ ∃ k : Nat, k < 6 ∧ p0 = nI k))) [.ref h0, .int p0].toArray s 0 0 (fun _ => False) = Q
  obtain ⟨f0, hf0⟩ : ∃ g : Nat → va_E, g = f := ⟨_, rfl⟩
  have hw : PW dC dI cI cS cP cA L tg (fun _ => false) f0 s.heap f s.heap [] := by rw [hf0]; exact PW.start hP hI
  clear hP
  refine lv_iload_n hx hb dX5_isEvent_0 rfl (lv_at hl 1 rfl) ?_
  refine lv_if_lt (tgt := 16) hx hb dX5_isEvent_1 (by decide) (fun h_1 => ?_) (fun h_1 => ?_)
  · refine lv_iconst (v := 0) hx hb dX5_isEvent_16 (by decide) ?_
    subst hQ
    exact W.zret (v := 0) hx hb hr rfl (fun t ht hW => ⟨_, rfl, Or.inl rfl, ht⟩) (fun _ h => by cases h) dX5_isEvent_17
  · refine lv_iload_n hx hb dX5_isEvent_4 rfl (lv_at hl 1 rfl) ?_
    refine lv_aload_n hx hb dX5_isEvent_5 rfl (lv_at hl 0 rfl) ?_
    refine tp_get (ci := 4) (C := RX5) (T := TX5) (N := 11) hx hb hts hin_X5 hown hK hw hm_h0 6 ht_h0 (fun _ => rfl) rfl 4 (by decide) rfl (hts (.fieldLink RX5 71 "DayBench" "events" "I") (by decide +kernel)) (fun _ h9 => h9) dX5_isEvent_6 (fun v_2 hf_3 hv_4 => ?_)
    obtain ⟨k_5, ek_5, hk_k_5⟩ := hv_4
    subst ek_5
    clear hf_3
    refine lv_icmp_ge (tgt := 16) hx hb dX5_isEvent_9 (by decide) (fun h_6 => ?_) (fun h_6 => ?_)
    · refine lv_iconst (v := 0) hx hb dX5_isEvent_16 (by decide) ?_
      subst hQ
      exact W.zret (v := 0) hx hb hr rfl (fun t ht hW => ⟨_, rfl, Or.inl rfl, ht⟩) (fun _ h => by cases h) dX5_isEvent_17
    · refine lv_iconst (v := 1) hx hb dX5_isEvent_12 (by decide) ?_
      refine lv_goto (tgt := 17) hx hb dX5_isEvent_13 (by decide) ?_
      subst hQ
      exact W.zret (v := 1) hx hb hr rfl (fun t ht hW => ⟨_, rfl, Or.inr ⟨rfl, lt_nI h_1 h_6 (by omega) (by omega)⟩, ht⟩) (fun _ h => by cases h) dX5_isEvent_17

set_option maxHeartbeats 4000000 in
set_option maxRecDepth 100000 in
theorem k_X5_isSaying (l : Launch) (dC : Nat → ClassId) (dI : Nat → Nat → Nat) (cI cS cP cA : ClassId) (L : List Nat) (tg : Nat → Nat) (f : Nat → va_E) (hN : L.Nodup) (hT : ∀ a : Nat, a ∈ L → tg a < 13) (hI : PI cI cS cP cA L tg f) (h0 : Nat) (hm_h0 : h0 ∈ L) (ht_h0 : tg h0 = 6) (p0 : Int32) : Met l yX5_isSaying wsX5_isSaying ({ frames := 0, cells := 0, slots := 0, locals := 0 }) (va_Pc [.ref h0, .int p0] (tPre dC dI cI cS cP cA L f)) (vp_Si (fun r => r = 0 ∨ (r = 1 ∧ ∃ k : Nat, k < 12 ∧ p0 = nI k))) 0 0 (fun _ => False) := by
  refine Met.ofW (cc := cX5_isSaying) (maxL := 2) (ret := (some .boolean)) (by decide) rfl ?_
  intro p e s m args below meth c s₁ B hml hv
  obtain ⟨rfl, hP, hK, hcm⟩ := hv
  have hx := B.exec
  have hb := B.bytes
  have hr := B.returns
  have hts := atoms_spec (ws := wsX5_isSaying) B.pre
  have hown : s.vm.findClass RX5 = some m.cls := findClass_of_methodNamed B.named
  have hlocks := B.notSynchronized
  have hin_X5 : ∀ w ∈ u_ws RX5 TX5 11, w ∈ wsX5_isSaying := by decide +kernel
  have hl := lv_entry ([.ref h0, .int p0]) (n := 2) (Nat.le_of_ble_eq_true rfl)
  rw [lg_entry_eq]
  generalize (lg_sl ([.ref h0, .int p0]) ++ List.replicate (2 - (lg_sl ([.ref h0, .int p0])).length) Slot.unset).toArray = ls at hl ⊢
  have hl : lv_has ls 2 [(0, .ref h0), (1, .int p0)] := hl
  generalize hQ : MQ below (vp_Si (fun r => r = 0 ∨ (r = 1 ∧ ∃ k : Nat, k < 12 ∧ p0 = nI k))) [.ref h0, .int p0].toArray s 0 0 (fun _ => False) = Q
  obtain ⟨f0, hf0⟩ : ∃ g : Nat → va_E, g = f := ⟨_, rfl⟩
  have hw : PW dC dI cI cS cP cA L tg (fun _ => false) f0 s.heap f s.heap [] := by rw [hf0]; exact PW.start hP hI
  clear hP
  refine lv_iload_n hx hb dX5_isSaying_0 rfl (lv_at hl 1 rfl) ?_
  refine lv_if_lt (tgt := 16) hx hb dX5_isSaying_1 (by decide) (fun h_1 => ?_) (fun h_1 => ?_)
  · refine lv_iconst (v := 0) hx hb dX5_isSaying_16 (by decide) ?_
    subst hQ
    exact W.zret (v := 0) hx hb hr rfl (fun t ht hW => ⟨_, rfl, Or.inl rfl, ht⟩) (fun _ h => by cases h) dX5_isSaying_17
  · refine lv_iload_n hx hb dX5_isSaying_4 rfl (lv_at hl 1 rfl) ?_
    refine lv_aload_n hx hb dX5_isSaying_5 rfl (lv_at hl 0 rfl) ?_
    refine tp_get (ci := 4) (C := RX5) (T := TX5) (N := 11) hx hb hts hin_X5 hown hK hw hm_h0 6 ht_h0 (fun _ => rfl) rfl 6 (by decide) rfl (hts (.fieldLink RX5 74 "DayBench" "sayingsMade" "I") (by decide +kernel)) (fun _ h9 => h9) dX5_isSaying_6 (fun v_2 hf_3 hv_4 => ?_)
    obtain ⟨k_5, ek_5, hk_k_5⟩ := hv_4
    subst ek_5
    clear hf_3
    refine lv_icmp_ge (tgt := 16) hx hb dX5_isSaying_9 (by decide) (fun h_6 => ?_) (fun h_6 => ?_)
    · refine lv_iconst (v := 0) hx hb dX5_isSaying_16 (by decide) ?_
      subst hQ
      exact W.zret (v := 0) hx hb hr rfl (fun t ht hW => ⟨_, rfl, Or.inl rfl, ht⟩) (fun _ h => by cases h) dX5_isSaying_17
    · refine lv_iconst (v := 1) hx hb dX5_isSaying_12 (by decide) ?_
      refine lv_goto (tgt := 17) hx hb dX5_isSaying_13 (by decide) ?_
      subst hQ
      exact W.zret (v := 1) hx hb hr rfl (fun t ht hW => ⟨_, rfl, Or.inr ⟨rfl, lt_nI h_1 h_6 (by omega) (by omega)⟩, ht⟩) (fun _ h => by cases h) dX5_isSaying_17

set_option maxHeartbeats 4000000 in
set_option maxRecDepth 100000 in
theorem k_X5_isBehind (l : Launch) (dC : Nat → ClassId) (dI : Nat → Nat → Nat) (cI cS cP cA : ClassId) (L : List Nat) (tg : Nat → Nat) (f : Nat → va_E) (hN : L.Nodup) (hT : ∀ a : Nat, a ∈ L → tg a < 13) (hI : PI cI cS cP cA L tg f) (h0 : Nat) (hm_h0 : h0 ∈ L) (ht_h0 : tg h0 = 6) (p0 : Int32) (p1 : Int32) (p2 : Int32) (p3 : Int32) : Met l yX5_isBehind wsX5_isBehind ({ frames := 1, cells := 0, slots := 0, locals := 21 }) (va_Pc [.ref h0, .int p0, .int p1, .int p2, .int p3] (tPre dC dI cI cS cP cA L f)) (vp_Si (fun r => r = 0 ∨ (r = 1 ∧ ∃ k : Nat, k < 6 ∧ p3 = nI k))) 0 0 (fun _ => False) := by
  refine Met.ofW (cc := cX5_isBehind) (maxL := 5) (ret := (some .boolean)) (by decide) rfl ?_
  intro p e s m args below meth c s₁ B hml hv
  obtain ⟨rfl, hP, hK, hcm⟩ := hv
  have hx := B.exec
  have hb := B.bytes
  have hr := B.returns
  have hts := atoms_spec (ws := wsX5_isBehind) B.pre
  have hown : s.vm.findClass RX5 = some m.cls := findClass_of_methodNamed B.named
  have hlocks := B.notSynchronized
  have hl := lv_entry ([.ref h0, .int p0, .int p1, .int p2, .int p3]) (n := 5) (Nat.le_of_ble_eq_true rfl)
  rw [lg_entry_eq]
  generalize (lg_sl ([.ref h0, .int p0, .int p1, .int p2, .int p3]) ++ List.replicate (5 - (lg_sl ([.ref h0, .int p0, .int p1, .int p2, .int p3])).length) Slot.unset).toArray = ls at hl ⊢
  have hl : lv_has ls 5 [(0, .ref h0), (1, .int p0), (2, .int p1), (3, .int p2), (4, .int p3)] := hl
  generalize hQ : MQ below (vp_Si (fun r => r = 0 ∨ (r = 1 ∧ ∃ k : Nat, k < 6 ∧ p3 = nI k))) [.ref h0, .int p0, .int p1, .int p2, .int p3].toArray s 0 0 (fun _ => False) = Q
  obtain ⟨f0, hf0⟩ : ∃ g : Nat → va_E, g = f := ⟨_, rfl⟩
  have hw : PW dC dI cI cS cP cA L tg (fun _ => false) f0 s.heap f s.heap [] := by rw [hf0]; exact PW.start hP hI
  clear hP
  refine lv_aload_n hx hb dX5_isBehind_0 rfl (lv_at hl 0 rfl) ?_
  refine lv_iload hx hb dX5_isBehind_1 (lv_at hl 4 rfl) ?_
  refine vp_callSi (va_Run.run (va_runV (As := [.int p3]) (rest := []) ⟨hx, hb, hml, hown, hts⟩ (k_X5_isEvent l dC dI cI cS cP cA L tg f hN hT hw.2.1 h0 hm_h0 ht_h0 p3) (cwV 1 hts gX5_isBehind_X5_isEvent rfl rfl rfl (by decide +kernel) ⟨Nat.le_of_ble_eq_true rfl, Nat.le_of_ble_eq_true rfl⟩) ⟨tPre_blind, tp_recv hK hw hm_h0 6 ht_h0 (ci := 4) (fun _ => rfl) rfl, fun U hU hW => ⟨rfl, tPre_at hw hK hcm hU hW⟩⟩ rfl rfl hl.1 rfl (lv_room (Nat.le_of_ble_eq_true rfl)) dX5_isBehind_3 ⟨Nat.le_of_ble_eq_true rfl, Nat.le_of_ble_eq_true rfl⟩)) (fun r_1 hr_1 => ?_)
  rcases hr_1 with er_1 | ⟨er_1, k_2, hk_2, ek_2⟩
  · subst er_1
    refine lv_if_eq (tgt := 36) hx hb dX5_isBehind_6 (by decide) (fun h_3 => ?_) (fun h_3 => ?_)
    · refine lv_iconst (v := 0) hx hb dX5_isBehind_36 (by decide) ?_
      subst hQ
      exact W.zret (v := 0) hx hb hr rfl (fun t ht hW => ⟨_, rfl, Or.inl rfl, ht⟩) (fun _ h => by cases h) dX5_isBehind_37
    · exact (by first | exact absurd h_3 (by decide) | exact absurd (by decide) h_3)
  · subst er_1
    rw [ek_2] at hl
    refine lv_if_eq (tgt := 36) hx hb dX5_isBehind_6 (by decide) (fun h_4 => ?_) (fun h_4 => ?_)
    · exact (by first | exact absurd h_4 (by decide) | exact absurd (by decide) h_4)
    · refine lv_iload hx hb dX5_isBehind_9 (lv_at hl 4 rfl) ?_
      refine lv_iload_n hx hb dX5_isBehind_11 rfl (lv_at hl 1 rfl) ?_
      refine lv_icmp_eq (tgt := 36) hx hb dX5_isBehind_12 (by decide) (fun h_5 => ?_) (fun h_5 => ?_)
      · refine lv_iconst (v := 0) hx hb dX5_isBehind_36 (by decide) ?_
        subst hQ
        exact W.zret (v := 0) hx hb hr rfl (fun t ht hW => ⟨_, rfl, Or.inl rfl, ht⟩) (fun _ h => by cases h) dX5_isBehind_37
      · refine lv_iload_n hx hb dX5_isBehind_15 rfl (lv_at hl 2 rfl) ?_
        refine lv_iload_n hx hb dX5_isBehind_16 rfl (lv_at hl 3 rfl) ?_
        refine lv_icmp_gt (tgt := 36) hx hb dX5_isBehind_17 (by decide) (fun h_6 => ?_) (fun h_6 => ?_)
        · refine lv_iconst (v := 0) hx hb dX5_isBehind_36 (by decide) ?_
          subst hQ
          exact W.zret (v := 0) hx hb hr rfl (fun t ht hW => ⟨_, rfl, Or.inl rfl, ht⟩) (fun _ h => by cases h) dX5_isBehind_37
        · refine lv_iload_n hx hb dX5_isBehind_20 rfl (lv_at hl 2 rfl) ?_
          refine lv_ldc (own := RX5) (v := (-40000)) hx hb hown (hts (.constant RX5 226 (-40000)) (by decide +kernel)) dX5_isBehind_21 ?_
          refine lv_icmp_lt (tgt := 36) hx hb dX5_isBehind_23 (by decide) (fun h_7 => ?_) (fun h_7 => ?_)
          · refine lv_iconst (v := 0) hx hb dX5_isBehind_36 (by decide) ?_
            subst hQ
            exact W.zret (v := 0) hx hb hr rfl (fun t ht hW => ⟨_, rfl, Or.inl rfl, ht⟩) (fun _ h => by cases h) dX5_isBehind_37
          · refine lv_iload_n hx hb dX5_isBehind_26 rfl (lv_at hl 3 rfl) ?_
            refine lv_ldc (own := RX5) (v := 40000) hx hb hown (hts (.constant RX5 227 (40000)) (by decide +kernel)) dX5_isBehind_27 ?_
            refine lv_icmp_gt (tgt := 36) hx hb dX5_isBehind_29 (by decide) (fun h_8 => ?_) (fun h_8 => ?_)
            · refine lv_iconst (v := 0) hx hb dX5_isBehind_36 (by decide) ?_
              subst hQ
              exact W.zret (v := 0) hx hb hr rfl (fun t ht hW => ⟨_, rfl, Or.inl rfl, ht⟩) (fun _ h => by cases h) dX5_isBehind_37
            · refine lv_iconst (v := 1) hx hb dX5_isBehind_32 (by decide) ?_
              refine lv_goto (tgt := 37) hx hb dX5_isBehind_33 (by decide) ?_
              subst hQ
              exact W.zret (v := 1) hx hb hr rfl (fun t ht hW => ⟨_, rfl, Or.inr ⟨rfl, k_2, hk_2, ek_2⟩, ht⟩) (fun _ h => by cases h) dX5_isBehind_37

set_option maxHeartbeats 4000000 in
set_option maxRecDepth 100000 in
theorem k_X5_addDate (l : Launch) (dC : Nat → ClassId) (dI : Nat → Nat → Nat) (cI cS cP cA : ClassId) (L : List Nat) (tg : Nat → Nat) (f : Nat → va_E) (hN : L.Nodup) (hT : ∀ a : Nat, a ∈ L → tg a < 13) (hI : PI cI cS cP cA L tg f) (a0 : Nat) (hm_a0 : a0 ∈ L) (ht_a0 : tg a0 = 1) (p1 : Int32) (p2 : Int32) (p3 : Int32) : Met l yX5_addDate wsX5_addDate ({ frames := 4, cells := 0, slots := 0, locals := 91 }) (va_Pc [.ref a0, .int p1, .int p2, .int p3] (tPre dC dI cI cS cP cA L f)) (va_Qv (fun (f' : Nat → va_E) => PI cI cS cP cA L tg f' ∧ Fr L tg (fun t => t == 1 || t == 2) f f') (fun (f' : Nat → va_E) t => va_P (dC, dI) vwCl (va_pl L f') t.heap) (fun q : Nat => q ∈ L)) 0 0 (fun q : Nat => q ∈ L) := by
  refine Met.ofW (cc := cX5_addDate) (maxL := 5) (ret := none) (by decide) rfl ?_
  intro p e s m args below meth c s₁ B hml hv
  obtain ⟨rfl, hP, hK, hcm⟩ := hv
  have hx := B.exec
  have hb := B.bytes
  have hr := B.returns
  have hts := atoms_spec (ws := wsX5_addDate) B.pre
  have hown : s.vm.findClass RX5 = some m.cls := findClass_of_methodNamed B.named
  have hlocks := B.notSynchronized
  have hl := lv_entry ([.ref a0, .int p1, .int p2, .int p3]) (n := 5) (Nat.le_of_ble_eq_true rfl)
  rw [lg_entry_eq]
  generalize (lg_sl ([.ref a0, .int p1, .int p2, .int p3]) ++ List.replicate (5 - (lg_sl ([.ref a0, .int p1, .int p2, .int p3])).length) Slot.unset).toArray = ls at hl ⊢
  have hl : lv_has ls 5 [(0, .ref a0), (1, .int p1), (2, .int p2), (3, .int p3)] := hl
  generalize hQ : MQ below (va_Qv (fun (f' : Nat → va_E) => PI cI cS cP cA L tg f' ∧ Fr L tg (fun t => t == 1 || t == 2) f f') (fun (f' : Nat → va_E) t => va_P (dC, dI) vwCl (va_pl L f') t.heap) (fun q : Nat => q ∈ L)) [.ref a0, .int p1, .int p2, .int p3].toArray s 0 0 (fun q : Nat => q ∈ L) = Q
  obtain ⟨f0, hf0⟩ : ∃ g : Nat → va_E, g = f := ⟨_, rfl⟩
  have hw : PW dC dI cI cS cP cA L tg (fun t => t == 1 || t == 2) f0 s.heap f s.heap [] := by rw [hf0]; exact PW.start hP hI
  clear hP
  refine lv_iload_n hx hb dX5_addDate_0 rfl (lv_at hl 1 rfl) ?_
  refine lv_iload_n hx hb dX5_addDate_1 rfl (lv_at hl 2 rfl) ?_
  refine lv_iload_n hx hb dX5_addDate_2 rfl (lv_at hl 3 rfl) ?_
  refine lv_bipush (v := 100) hx hb dX5_addDate_3 (by decide) ?_
  refine lv_idiv hx hb dX5_addDate_5 (by decide) ?_
  refine lv_iload_n hx hb dX5_addDate_6 rfl (lv_at hl 3 rfl) ?_
  refine lv_bipush (v := 100) hx hb dX5_addDate_7 (by decide) ?_
  refine lv_irem hx hb dX5_addDate_9 (by decide) ?_
  refine vp_callSi (va_Run.run (va_runS (As := [.int p1, .int p2, .int (p3 / 100), .int (p3 - p3 / 100 * 100)]) (rest := []) ⟨hx, hb, hml, hown, hts⟩ (k_X0_dayOf l p1 p2 (p3 / 100) (p3 - p3 / 100 * 100)) (va_cwS 4 hts gX5_addDate_X0_dayOf rfl rfl rfl (by decide +kernel) ⟨Nat.le_of_ble_eq_true rfl, Nat.le_of_ble_eq_true rfl⟩) ⟨cm_blind, fun U hU hW => ⟨rfl, cm_law hcm hw.2.2.2 hU hW⟩⟩ rfl rfl hl.1 rfl (lv_room (Nat.le_of_ble_eq_true rfl)) dX5_addDate_10 ⟨Nat.le_of_ble_eq_true rfl, Nat.le_of_ble_eq_true rfl⟩)) (fun r_1 er_1 => ?_)
  refine lv_istore (lv' := [(4, .int r_1), (0, .ref a0), (1, .int p1), (2, .int p2), (3, .int p3)]) hx hb dX5_addDate_13 hl (by decide) rfl (fun ls hl => ?_)
  refine lv_iload hx hb dX5_addDate_15 (lv_at hl 0 rfl) ?_
  refine lv_iconst (v := (-1)) hx hb dX5_addDate_17 (by decide) ?_
  refine lv_icmp_eq (tgt := 29) hx hb dX5_addDate_18 (by decide) (fun h_2 => ?_) (fun h_2 => ?_)
  · subst hQ
    have hI9 := hw.2.1
    have hF9 := hw.2.2.1
    have hS9 := hw.2.2.2
    rw [hf0] at hF9
    exact W.vret hx hb hr (fun t ht hW => ⟨⟨_, rfl, ⟨hI9, hF9⟩, hw.at ht⟩, hS9.F ht⟩) hS9.2.2 dX5_addDate_29
  · refine lv_aload_n hx hb dX5_addDate_21 rfl (lv_at hl 1 rfl) ?_
    refine lv_iload hx hb dX5_addDate_22 (lv_at hl 0 rfl) ?_
    refine lv_iload hx hb dX5_addDate_24 (lv_at hl 0 rfl) ?_
    refine va_callv (va_runV (As := [.int r_1, .int r_1]) (rest := []) ⟨hx, hb, hml, hown, hts⟩ (k_X4_add l dC dI cI cS cP cA L tg f hN hT hw.2.1 a0 hm_a0 ht_a0 r_1 r_1) (cwV 2 hts gX5_addDate_X4_add rfl rfl rfl (by decide +kernel) ⟨Nat.le_of_ble_eq_true rfl, Nat.le_of_ble_eq_true rfl⟩) ⟨tPre_blind, tp_recv hK hw hm_a0 1 ht_a0 (ci := 3) (fun _ => rfl) rfl, fun U hU hW => ⟨rfl, tPre_at hw hK hcm hU hW⟩⟩ rfl rfl hl.1 rfl (lv_room (Nat.le_of_ble_eq_true rfl)) dX5_addDate_26 ⟨Nat.le_of_ble_eq_true rfl, Nat.le_of_ble_eq_true rfl⟩) hw.2.2.2 (fun q _ h => h) (fun q h => h) (fun f t H locs ht hvm hp hB hz1 hk1 hS1 => ?_)
    obtain ⟨hI1, hF1⟩ := hp
    have hw := hw.back (S' := (fun t => t == 1 || t == 2)) (by decide) hT hI1 hF1 hB ht hS1
    clear hI1 hF1 hB ht hz1 hk1 hS1 hvm
    subst hQ
    have hI9 := hw.2.1
    have hF9 := hw.2.2.1
    have hS9 := hw.2.2.2
    rw [hf0] at hF9
    exact W.vret hx hb hr (fun t ht hW => ⟨⟨_, rfl, ⟨hI9, hF9⟩, hw.at ht⟩, hS9.F ht⟩) hS9.2.2 dX5_addDate_29

