set_option maxHeartbeats 4000000 in
set_option maxRecDepth 100000 in
theorem k_X2_boundDays (l : Launch) (dC : Nat → ClassId) (dI : Nat → Nat → Nat) (cI cS cP cA : ClassId) (L : List Nat) (tg : Nat → Nat) (f : Nat → va_E) (hN : L.Nodup) (hT : ∀ a : Nat, a ∈ L → tg a < 13) (hI : PI cI cS cP cA L tg f) (h0 : Nat) (hm_h0 : h0 ∈ L) (ht_h0 : tg h0 = 4) : Met l yX2_boundDays wsX2_boundDays ({ frames := 1, cells := 0, slots := 0, locals := 15 }) (va_Pc [.ref h0] (tPre dC dI cI cS cP cA L f)) (va_Qv (fun (f' : Nat → va_E) => PI cI cS cP cA L tg f' ∧ Fr L tg (fun t => t == 3) f f') (fun (f' : Nat → va_E) t => va_P (dC, dI) vwCl (va_pl L f') t.heap) (fun q : Nat => q ∈ L)) 0 0 (fun q : Nat => q ∈ L) := by
  refine Met.ofW (cc := cX2_boundDays) (maxL := 3) (ret := none) (by decide) rfl ?_
  intro p e s m args below meth c s₁ B hml hv
  obtain ⟨rfl, hP, hK, hcm⟩ := hv
  have hx := B.exec
  have hb := B.bytes
  have hr := B.returns
  have hts := atoms_spec (ws := wsX2_boundDays) B.pre
  have hown : s.vm.findClass RX2 = some m.cls := findClass_of_methodNamed B.named
  have hlocks := B.notSynchronized
  have hin_X2 : ∀ w ∈ u_ws RX2 TX2 14, w ∈ wsX2_boundDays := by decide +kernel
  have hl := lv_entry ([.ref h0]) (n := 3) (Nat.le_of_ble_eq_true rfl)
  rw [lg_entry_eq]
  generalize (lg_sl ([.ref h0]) ++ List.replicate (3 - (lg_sl ([.ref h0])).length) Slot.unset).toArray = ls at hl ⊢
  have hl : lv_has ls 3 [(0, .ref h0)] := hl
  generalize hQ : MQ below (va_Qv (fun (f' : Nat → va_E) => PI cI cS cP cA L tg f' ∧ Fr L tg (fun t => t == 3) f f') (fun (f' : Nat → va_E) t => va_P (dC, dI) vwCl (va_pl L f') t.heap) (fun q : Nat => q ∈ L)) [.ref h0].toArray s 0 0 (fun q : Nat => q ∈ L) = Q
  obtain ⟨f0, hf0⟩ : ∃ g : Nat → va_E, g = f := ⟨_, rfl⟩
  have hw : PW dC dI cI cS cP cA L tg (fun t => t == 3) f0 s.heap f s.heap [] := by rw [hf0]; exact PW.start hP hI
  clear hP
  refine lv_iconst (v := 0) hx hb dX2_boundDays_0 (by decide) ?_
  refine lv_istore_n (lv' := [(1, .int 0), (0, .ref h0)]) hx hb dX2_boundDays_1 rfl hl (by decide) rfl (fun ls hl => ?_)
  have hl_2 : ∀ (fu : Nat) (i : Nat), 6 - i < fu → (i ≤ 6) → ∀ (f : Nat → va_E) (H : Heap) (locs : List Loc) (ls : Array Slot), PW dC dI cI cS cP cA L tg (fun t => t == 3) f0 s.heap f H locs → lv_has ls 3 [(1, .int (nI i)), (0, .ref h0)] → W p l e (headSpec wsX2_boundDays ({ frames := 1, cells := 0, slots := 0, locals := 15 })).room s m [.ref h0].toArray below meth c H locs 0 0 Q (F0 m 2 ls []) := by
    intro fu
    induction fu with
    | zero => intro i hm9; exact absurd hm9 (Nat.not_lt_zero _)
    | succ fu ih_2 =>
      intro i hm_2 h_i f H locs ls hw hl
      refine lv_iload_n hx hb dX2_boundDays_2 rfl (lv_at hl 0 rfl) ?_
      refine lv_aload_n hx hb dX2_boundDays_3 rfl (lv_at hl 1 rfl) ?_
      refine tp_get (ci := 1) (C := RX2) (T := TX2) (N := 14) hx hb hts hin_X2 hown hK hw hm_h0 4 ht_h0 (fun _ => rfl) rfl 3 (by decide) rfl (hts (.fieldLink RX2 49 "DayBench$Search" "events" "I") (by decide +kernel)) (fun _ h9 => h9) dX2_boundDays_4 (fun v_1 hf_2 hv_3 => ?_)
      obtain ⟨k_4, ek_4, hk_k_4⟩ := hv_3
      subst ek_4
      clear hf_2
      refine lv_icmp_ge (tgt := 109) hx hb dX2_boundDays_7 (by decide) (fun h_5 => ?_) (fun h_5 => ?_)
      · have nh_5 : k_4 ≤ i := (nI_leI (a := k_4) (b := i) (by omega) (by omega)).mp h_5
        subst hQ
        have hI9 := hw.2.1
        have hF9 := hw.2.2.1
        have hS9 := hw.2.2.2
        rw [hf0] at hF9
        exact W.vret hx hb hr (fun t ht hW => ⟨⟨_, rfl, ⟨hI9, hF9⟩, hw.at ht⟩, hS9.F ht⟩) hS9.2.2 dX2_boundDays_109
      · have nh_5 : ¬ k_4 ≤ i := fun q9 => h_5 ((nI_leI (a := k_4) (b := i) (by omega) (by omega)).mpr q9)
        refine lv_aload_n hx hb dX2_boundDays_10 rfl (lv_at hl 1 rfl) ?_
        refine tp_get (ci := 1) (C := RX2) (T := TX2) (N := 14) hx hb hts hin_X2 hown hK hw hm_h0 4 ht_h0 (fun _ => rfl) rfl 12 (by decide) rfl (hts (.fieldLink RX2 37 "DayBench$Search" "low" "[[I") (by decide +kernel)) (fun _ h9 => h9) dX2_boundDays_11 (fun v_6 hf_7 hv_8 => ?_)
        obtain ⟨b_9, eb_9, hm_b_9, ht_b_9⟩ := hv_8
        subst eb_9
        refine lv_iconst (v := 0) hx hb dX2_boundDays_14 (by decide) ?_
        refine tp_aald hx hb hK hw hm_b_9 12 ht_b_9 3 (n := 7) (t' := 3) (fun _ => rfl) rfl rfl (by unfold vp_in; decide) dX2_boundDays_15 (fun b_10 hf_11 hm_b_10 ht_b_10 => ?_)
        clear hf_11
        refine lv_iload_n hx hb dX2_boundDays_16 rfl (lv_at hl 0 rfl) ?_
        refine lv_iconst (v := 0) hx hb dX2_boundDays_17 (by decide) ?_
        refine tp_iast hx hb hN hK hw hm_b_10 3 ht_b_10 rfl (n := 6) (fun _ => rfl) (vp_in_nI (by omega) (by omega)) dX2_boundDays_18 (fun H locs f hw ho_12 => ?_)
        have hf_7 : fld (f h0) 12 = some (.ref b_9) := by rw [ho_12 h0 (tne ht_h0 ht_b_10 (by decide))]; exact hf_7
        clear ho_12
        refine lv_aload_n hx hb dX2_boundDays_19 rfl (lv_at hl 1 rfl) ?_
        refine tp_get (ci := 1) (C := RX2) (T := TX2) (N := 14) hx hb hts hin_X2 hown hK hw hm_h0 4 ht_h0 (fun _ => rfl) rfl 13 (by decide) rfl (hts (.fieldLink RX2 40 "DayBench$Search" "high" "[[I") (by decide +kernel)) (fun _ h9 => h9) dX2_boundDays_20 (fun v_13 hf_14 hv_15 => ?_)
        obtain ⟨b_16, eb_16, hm_b_16, ht_b_16⟩ := hv_15
        subst eb_16
        refine lv_iconst (v := 0) hx hb dX2_boundDays_23 (by decide) ?_
        refine tp_aald hx hb hK hw hm_b_16 12 ht_b_16 3 (n := 7) (t' := 3) (fun _ => rfl) rfl rfl (by unfold vp_in; decide) dX2_boundDays_24 (fun b_17 hf_18 hm_b_17 ht_b_17 => ?_)
        clear hf_18
        refine lv_iload_n hx hb dX2_boundDays_25 rfl (lv_at hl 0 rfl) ?_
        refine lv_ldc (own := RX2) (v := 985999) hx hb hown (hts (.constant RX2 94 (985999)) (by decide +kernel)) dX2_boundDays_26 ?_
        refine tp_iast hx hb hN hK hw hm_b_17 3 ht_b_17 rfl (n := 6) (fun _ => rfl) (vp_in_nI (by omega) (by omega)) dX2_boundDays_28 (fun H locs f hw ho_19 => ?_)
        have hf_7 : fld (f h0) 12 = some (.ref b_9) := by rw [ho_19 h0 (tne ht_h0 ht_b_17 (by decide))]; exact hf_7
        have hf_14 : fld (f h0) 13 = some (.ref b_16) := by rw [ho_19 h0 (tne ht_h0 ht_b_17 (by decide))]; exact hf_14
        clear ho_19
        refine lv_iconst (v := 0) hx hb dX2_boundDays_29 (by decide) ?_
        refine lv_istore_n (lv' := [(2, .int 0), (1, .int (nI i)), (0, .ref h0)]) hx hb dX2_boundDays_30 rfl hl (by decide) rfl (fun ls hl => ?_)
        have hl_31 : ∀ (fu : Nat) (j : Nat), 6 - j < fu → (j ≤ 6) → ∀ (f : Nat → va_E) (H : Heap) (locs : List Loc) (ls : Array Slot), PW dC dI cI cS cP cA L tg (fun t => t == 3) f0 s.heap f H locs → lv_has ls 3 [(2, .int (nI j)), (1, .int (nI i)), (0, .ref h0)] → W p l e (headSpec wsX2_boundDays ({ frames := 1, cells := 0, slots := 0, locals := 15 })).room s m [.ref h0].toArray below meth c H locs 0 0 Q (F0 m 31 ls []) := by
          intro fu
          induction fu with
          | zero => intro j hm9; exact absurd hm9 (Nat.not_lt_zero _)
          | succ fu ih_31 =>
            intro j hm_31 h_j f H locs ls hw hl
            refine lv_iload_n hx hb dX2_boundDays_31 rfl (lv_at hl 0 rfl) ?_
            refine lv_aload_n hx hb dX2_boundDays_32 rfl (lv_at hl 2 rfl) ?_
            refine tp_get (ci := 1) (C := RX2) (T := TX2) (N := 14) hx hb hts hin_X2 hown hK hw hm_h0 4 ht_h0 (fun _ => rfl) rfl 3 (by decide) rfl (hts (.fieldLink RX2 49 "DayBench$Search" "events" "I") (by decide +kernel)) (fun _ h9 => h9) dX2_boundDays_33 (fun v_20 hf_21 hv_22 => ?_)
            obtain ⟨k_23, ek_23, hk_k_23⟩ := hv_22
            subst ek_23
            clear hf_21
            refine lv_icmp_ge (tgt := 103) hx hb dX2_boundDays_36 (by decide) (fun h_24 => ?_) (fun h_24 => ?_)
            · have nh_24 : k_23 ≤ j := (nI_leI (a := k_23) (b := j) (by omega) (by omega)).mp h_24
              refine lv_iinc (v := nI (i + 1)) (lv' := [(1, .int (nI (i + 1))), (2, .int (nI j)), (0, .ref h0)]) hx hb dX2_boundDays_103 hl (k := 1) rfl (nI_1 _) (by decide) rfl (fun ls hl => ?_)
              refine lv_goto (tgt := 2) hx hb dX2_boundDays_106 (by decide) ?_
              exact ih_2 ((i + 1)) (by omega) (by omega) _ _ _ ls hw (lv_sub hl [0, 2] rfl)
            · have nh_24 : ¬ k_23 ≤ j := fun q9 => h_24 ((nI_leI (a := k_23) (b := j) (by omega) (by omega)).mpr q9)
              refine lv_aload_n hx hb dX2_boundDays_39 rfl (lv_at hl 2 rfl) ?_
              refine tp_get (ci := 1) (C := RX2) (T := TX2) (N := 14) hx hb hts hin_X2 hown hK hw hm_h0 4 ht_h0 (fun _ => rfl) rfl 12 (by decide) rfl (hts (.fieldLink RX2 37 "DayBench$Search" "low" "[[I") (by decide +kernel)) (fun _ h9 => h9) dX2_boundDays_40 (fun v_25 hf_26 hv_27 => ?_)
              obtain ⟨b_28, eb_28, hm_b_28, ht_b_28⟩ := hv_27
              subst eb_28
              refine lv_iconst (v := 0) hx hb dX2_boundDays_43 (by decide) ?_
              refine tp_aald hx hb hK hw hm_b_28 12 ht_b_28 3 (n := 7) (t' := 3) (fun _ => rfl) rfl rfl (by unfold vp_in; decide) dX2_boundDays_44 (fun b_29 hf_30 hm_b_29 ht_b_29 => ?_)
              clear hf_30
              refine lv_iload_n hx hb dX2_boundDays_45 rfl (lv_at hl 1 rfl) ?_
              refine lv_aload_n hx hb dX2_boundDays_46 rfl (lv_at hl 2 rfl) ?_
              refine tp_getK (ci := 1) (C := RX2) (T := TX2) (N := 14) hx hb hts hin_X2 hown hK hw hm_h0 4 ht_h0 (fun _ => rfl) rfl 12 (by decide) hf_26 (hts (.fieldLink RX2 37 "DayBench$Search" "low" "[[I") (by decide +kernel)) (fun _ h9 => h9) dX2_boundDays_47 ?_
              refine lv_iconst (v := 0) hx hb dX2_boundDays_50 (by decide) ?_
              refine tp_aald hx hb hK hw hm_b_28 12 ht_b_28 3 (n := 7) (t' := 3) (fun _ => rfl) rfl rfl (by unfold vp_in; decide) dX2_boundDays_51 (fun b_31 hf_32 hm_b_31 ht_b_31 => ?_)
              clear hf_32
              refine lv_iload_n hx hb dX2_boundDays_52 rfl (lv_at hl 1 rfl) ?_
              refine tp_iald hx hb hK hw hm_b_31 3 ht_b_31 (n := 6) (fun _ => rfl) (vp_in_nI (by omega) (by omega)) dX2_boundDays_53 (fun y_33 => ?_)
              refine lv_aload_n hx hb dX2_boundDays_54 rfl (lv_at hl 2 rfl) ?_
              refine tp_get (ci := 1) (C := RX2) (T := TX2) (N := 14) hx hb hts hin_X2 hown hK hw hm_h0 4 ht_h0 (fun _ => rfl) rfl 11 (by decide) rfl (hts (.fieldLink RX2 34 "DayBench$Search" "apart" "[[I") (by decide +kernel)) (fun _ h9 => h9) dX2_boundDays_55 (fun v_34 hf_35 hv_36 => ?_)
              obtain ⟨b_37, eb_37, hm_b_37, ht_b_37⟩ := hv_36
              subst eb_37
              refine lv_iload_n hx hb dX2_boundDays_58 rfl (lv_at hl 1 rfl) ?_
              refine tp_aald hx hb hK hw hm_b_37 11 ht_b_37 3 (n := 6) (t' := 3) (fun _ => rfl) rfl rfl (vp_in_nI (by omega) (by omega)) dX2_boundDays_59 (fun b_38 hf_39 hm_b_38 ht_b_38 => ?_)
              clear hf_39
              refine lv_iload_n hx hb dX2_boundDays_60 rfl (lv_at hl 0 rfl) ?_
              refine tp_iald hx hb hK hw hm_b_38 3 ht_b_38 (n := 6) (fun _ => rfl) (vp_in_nI (by omega) (by omega)) dX2_boundDays_61 (fun y_40 => ?_)
              refine lv_ineg hx hb dX2_boundDays_62 ?_
              refine va_mmax (own := RX2) (x := y_33) (y := (-y_40)) hx hb (hml.trans hl.1.symm) hown (hts (.methodLink RX2 112 Lib.Math.max.name) (by decide +kernel)) (hts (.static Lib.Math.max.name) (by decide +kernel)) (hts (.initialized "java/lang/Math") (by decide +kernel)) (hts (.code Lib.Math.max.name Lib.Math.max.code 2 (some .int)) (by decide +kernel)) (Nat.le_of_ble_eq_true rfl) (Nat.le_of_ble_eq_true rfl) (Nat.le_of_ble_eq_true rfl) (Nat.le_of_ble_eq_true rfl) dX2_boundDays_63 ?_
              refine tp_iast hx hb hN hK hw hm_b_29 3 ht_b_29 rfl (n := 6) (fun _ => rfl) (vp_in_nI (by omega) (by omega)) dX2_boundDays_66 (fun H locs f hw ho_41 => ?_)
              have hf_26 : fld (f h0) 12 = some (.ref b_28) := by rw [ho_41 h0 (tne ht_h0 ht_b_29 (by decide))]; exact hf_26
              have hf_35 : fld (f h0) 11 = some (.ref b_37) := by rw [ho_41 h0 (tne ht_h0 ht_b_29 (by decide))]; exact hf_35
              clear ho_41
              refine lv_aload_n hx hb dX2_boundDays_67 rfl (lv_at hl 2 rfl) ?_
              refine tp_get (ci := 1) (C := RX2) (T := TX2) (N := 14) hx hb hts hin_X2 hown hK hw hm_h0 4 ht_h0 (fun _ => rfl) rfl 13 (by decide) rfl (hts (.fieldLink RX2 40 "DayBench$Search" "high" "[[I") (by decide +kernel)) (fun _ h9 => h9) dX2_boundDays_68 (fun v_42 hf_43 hv_44 => ?_)
              obtain ⟨b_45, eb_45, hm_b_45, ht_b_45⟩ := hv_44
              subst eb_45
              refine lv_iconst (v := 0) hx hb dX2_boundDays_71 (by decide) ?_
              refine tp_aald hx hb hK hw hm_b_45 12 ht_b_45 3 (n := 7) (t' := 3) (fun _ => rfl) rfl rfl (by unfold vp_in; decide) dX2_boundDays_72 (fun b_46 hf_47 hm_b_46 ht_b_46 => ?_)
              clear hf_47
              refine lv_iload_n hx hb dX2_boundDays_73 rfl (lv_at hl 1 rfl) ?_
              refine lv_aload_n hx hb dX2_boundDays_74 rfl (lv_at hl 2 rfl) ?_
              refine tp_getK (ci := 1) (C := RX2) (T := TX2) (N := 14) hx hb hts hin_X2 hown hK hw hm_h0 4 ht_h0 (fun _ => rfl) rfl 13 (by decide) hf_43 (hts (.fieldLink RX2 40 "DayBench$Search" "high" "[[I") (by decide +kernel)) (fun _ h9 => h9) dX2_boundDays_75 ?_
              refine lv_iconst (v := 0) hx hb dX2_boundDays_78 (by decide) ?_
              refine tp_aald hx hb hK hw hm_b_45 12 ht_b_45 3 (n := 7) (t' := 3) (fun _ => rfl) rfl rfl (by unfold vp_in; decide) dX2_boundDays_79 (fun b_48 hf_49 hm_b_48 ht_b_48 => ?_)
              clear hf_49
              refine lv_iload_n hx hb dX2_boundDays_80 rfl (lv_at hl 1 rfl) ?_
              refine tp_iald hx hb hK hw hm_b_48 3 ht_b_48 (n := 6) (fun _ => rfl) (vp_in_nI (by omega) (by omega)) dX2_boundDays_81 (fun y_50 => ?_)
              refine lv_ldc (own := RX2) (v := 985999) hx hb hown (hts (.constant RX2 94 (985999)) (by decide +kernel)) dX2_boundDays_82 ?_
              refine lv_aload_n hx hb dX2_boundDays_84 rfl (lv_at hl 2 rfl) ?_
              refine tp_getK (ci := 1) (C := RX2) (T := TX2) (N := 14) hx hb hts hin_X2 hown hK hw hm_h0 4 ht_h0 (fun _ => rfl) rfl 11 (by decide) hf_35 (hts (.fieldLink RX2 34 "DayBench$Search" "apart" "[[I") (by decide +kernel)) (fun _ h9 => h9) dX2_boundDays_85 ?_
              refine lv_iload_n hx hb dX2_boundDays_88 rfl (lv_at hl 0 rfl) ?_
              refine tp_aald hx hb hK hw hm_b_37 11 ht_b_37 3 (n := 6) (t' := 3) (fun _ => rfl) rfl rfl (vp_in_nI (by omega) (by omega)) dX2_boundDays_89 (fun b_51 hf_52 hm_b_51 ht_b_51 => ?_)
              clear hf_52
              refine lv_iload_n hx hb dX2_boundDays_90 rfl (lv_at hl 1 rfl) ?_
              refine tp_iald hx hb hK hw hm_b_51 3 ht_b_51 (n := 6) (fun _ => rfl) (vp_in_nI (by omega) (by omega)) dX2_boundDays_91 (fun y_53 => ?_)
              refine lv_iadd hx hb dX2_boundDays_92 ?_
              refine va_mmin (own := RX2) (x := y_50) (y := (985999 + y_53)) hx hb (hml.trans hl.1.symm) hown (hts (.methodLink RX2 43 Lib.Math.min.name) (by decide +kernel)) (hts (.static Lib.Math.min.name) (by decide +kernel)) (hts (.initialized "java/lang/Math") (by decide +kernel)) (hts (.code Lib.Math.min.name Lib.Math.min.code 2 (some .int)) (by decide +kernel)) (Nat.le_of_ble_eq_true rfl) (Nat.le_of_ble_eq_true rfl) (Nat.le_of_ble_eq_true rfl) (Nat.le_of_ble_eq_true rfl) dX2_boundDays_93 ?_
              refine tp_iast hx hb hN hK hw hm_b_46 3 ht_b_46 rfl (n := 6) (fun _ => rfl) (vp_in_nI (by omega) (by omega)) dX2_boundDays_96 (fun H locs f hw ho_54 => ?_)
              have hf_26 : fld (f h0) 12 = some (.ref b_28) := by rw [ho_54 h0 (tne ht_h0 ht_b_46 (by decide))]; exact hf_26
              have hf_35 : fld (f h0) 11 = some (.ref b_37) := by rw [ho_54 h0 (tne ht_h0 ht_b_46 (by decide))]; exact hf_35
              have hf_43 : fld (f h0) 13 = some (.ref b_45) := by rw [ho_54 h0 (tne ht_h0 ht_b_46 (by decide))]; exact hf_43
              clear ho_54
              refine lv_iinc (v := nI (j + 1)) (lv' := [(2, .int (nI (j + 1))), (1, .int (nI i)), (0, .ref h0)]) hx hb dX2_boundDays_97 hl (k := 0) rfl (nI_1 _) (by decide) rfl (fun ls hl => ?_)
              refine lv_goto (tgt := 31) hx hb dX2_boundDays_100 (by decide) ?_
              exact ih_31 ((j + 1)) (by omega) (by omega) _ _ _ ls hw (lv_sub hl [0, 1, 2] rfl)
        exact hl_31 _ 0 (Nat.lt_succ_self _) (by omega) _ _ _ ls hw (lv_sub hl [0, 1, 2] rfl)
  exact hl_2 _ 0 (Nat.lt_succ_self _) (by omega) _ _ _ ls hw (lv_sub hl [0, 1] rfl)

set_option maxHeartbeats 4000000 in
set_option maxRecDepth 100000 in
theorem k_X2_lay (l : Launch) (dC : Nat → ClassId) (dI : Nat → Nat → Nat) (cI cS cP cA : ClassId) (L : List Nat) (tg : Nat → Nat) (f : Nat → va_E) (hN : L.Nodup) (hT : ∀ a : Nat, a ∈ L → tg a < 13) (hI : PI cI cS cP cA L tg f) (h0 : Nat) (hm_h0 : h0 ∈ L) (ht_h0 : tg h0 = 4) (a1 : Nat) (hm_a1 : a1 ∈ L) (ht_a1 : tg a1 = 9) (p1 : Int32) : Met l yX2_lay wsX2_lay ({ frames := 4, cells := 0, slots := 0, locals := 84 }) (va_Pc [.ref h0, .ref a1, .int p1] (tPre dC dI cI cS cP cA L f)) (va_Qv (fun (f' : Nat → va_E) => PI cI cS cP cA L tg f' ∧ Fr L tg (fun t => t == 1 || t == 2 || t == 3 || t == 4 || t == 10) f f') (fun (f' : Nat → va_E) t => va_P (dC, dI) vwCl (va_pl L f') t.heap) (fun q : Nat => q ∈ L)) 0 0 (fun q : Nat => q ∈ L) := by
  refine Met.ofW (cc := cX2_lay) (maxL := 4) (ret := none) (by decide) rfl ?_
  intro p e s m args below meth c s₁ B hml hv
  obtain ⟨rfl, hP, hK, hcm⟩ := hv
  have hx := B.exec
  have hb := B.bytes
  have hr := B.returns
  have hts := atoms_spec (ws := wsX2_lay) B.pre
  have hown : s.vm.findClass RX2 = some m.cls := findClass_of_methodNamed B.named
  have hlocks := B.notSynchronized
  have hin_X2 : ∀ w ∈ u_ws RX2 TX2 14, w ∈ wsX2_lay := by decide +kernel
  have hin_X1 : ∀ w ∈ u_ws RX1 TX1 9, w ∈ wsX2_lay := by decide +kernel
  have hl := lv_entry ([.ref h0, .ref a1, .int p1]) (n := 4) (Nat.le_of_ble_eq_true rfl)
  rw [lg_entry_eq]
  generalize (lg_sl ([.ref h0, .ref a1, .int p1]) ++ List.replicate (4 - (lg_sl ([.ref h0, .ref a1, .int p1])).length) Slot.unset).toArray = ls at hl ⊢
  have hl : lv_has ls 4 [(0, .ref h0), (1, .ref a1), (2, .int p1)] := hl
  generalize hQ : MQ below (va_Qv (fun (f' : Nat → va_E) => PI cI cS cP cA L tg f' ∧ Fr L tg (fun t => t == 1 || t == 2 || t == 3 || t == 4 || t == 10) f f') (fun (f' : Nat → va_E) t => va_P (dC, dI) vwCl (va_pl L f') t.heap) (fun q : Nat => q ∈ L)) [.ref h0, .ref a1, .int p1].toArray s 0 0 (fun q : Nat => q ∈ L) = Q
  obtain ⟨f0, hf0⟩ : ∃ g : Nat → va_E, g = f := ⟨_, rfl⟩
  have hw : PW dC dI cI cS cP cA L tg (fun t => t == 1 || t == 2 || t == 3 || t == 4 || t == 10) f0 s.heap f s.heap [] := by rw [hf0]; exact PW.start hP hI
  clear hP
  refine lv_aload_n hx hb dX2_lay_0 rfl (lv_at hl 0 rfl) ?_
  refine va_callv (va_runV (As := []) (rest := []) ⟨hx, hb, hml, hown, hts⟩ (k_X2_clearTable l dC dI cI cS cP cA L tg f hN hT hw.2.1 h0 hm_h0 ht_h0) (cwV 0 hts gX2_lay_X2_clearTable rfl rfl rfl (by decide +kernel) ⟨Nat.le_of_ble_eq_true rfl, Nat.le_of_ble_eq_true rfl⟩) ⟨tPre_blind, tp_recv hK hw hm_h0 4 ht_h0 (ci := 1) (fun _ => rfl) rfl, fun U hU hW => ⟨rfl, tPre_at hw hK hcm hU hW⟩⟩ rfl rfl hl.1 rfl (lv_room (Nat.le_of_ble_eq_true rfl)) dX2_lay_1 ⟨Nat.le_of_ble_eq_true rfl, Nat.le_of_ble_eq_true rfl⟩) hw.2.2.2 (fun q _ h => h) (fun q h => h) (fun f t H locs ht hvm hp hB hz1 hk1 hS1 => ?_)
  obtain ⟨hI1, hF1⟩ := hp
  have hw := hw.back (S' := (fun t => t == 1 || t == 2 || t == 3)) (by decide) hT hI1 hF1 hB ht hS1
  clear hI1 hF1 hB ht hz1 hk1 hS1 hvm
  refine lv_iconst (v := 0) hx hb dX2_lay_4 (by decide) ?_
  refine lv_istore_n (lv' := [(3, .int 0), (0, .ref h0), (1, .ref a1), (2, .int p1)]) hx hb dX2_lay_5 rfl hl (by decide) rfl (fun ls hl => ?_)
  have hl_6 : ∀ (fu : Nat) (k : Nat), 12 - k < fu → (k ≤ 12) → ∀ (f : Nat → va_E) (H : Heap) (locs : List Loc) (ls : Array Slot), PW dC dI cI cS cP cA L tg (fun t => t == 1 || t == 2 || t == 3 || t == 4 || t == 10) f0 s.heap f H locs → lv_has ls 4 [(3, .int (nI k)), (0, .ref h0), (1, .ref a1), (2, .int p1)] → W p l e (headSpec wsX2_lay ({ frames := 4, cells := 0, slots := 0, locals := 84 })).room s m [.ref h0, .ref a1, .int p1].toArray below meth c H locs 0 0 Q (F0 m 6 ls []) := by
    intro fu
    induction fu with
    | zero => intro k hm9; exact absurd hm9 (Nat.not_lt_zero _)
    | succ fu ih_6 =>
      intro k hm_6 h_k f H locs ls hw hl
      refine lv_iload_n hx hb dX2_lay_6 rfl (lv_at hl 0 rfl) ?_
      refine lv_aload_n hx hb dX2_lay_7 rfl (lv_at hl 2 rfl) ?_
      refine tp_alen hx hb hK hw hm_a1 9 ht_a1 1 (n := 12) (t' := 0) (fun _ => rfl) rfl (v := 12) rfl dX2_lay_8 ?_
      refine lv_icmp_ge (tgt := 66) hx hb dX2_lay_9 (by decide) (fun h_2 => ?_) (fun h_2 => ?_)
      · have nh_2 : 12 ≤ k := (nI_leI (a := 12) (b := k) (by omega) (by omega)).mp h_2
        refine lv_aload_n hx hb dX2_lay_66 rfl (lv_at hl 1 rfl) ?_
        refine lv_aload_n hx hb dX2_lay_67 rfl (lv_at hl 1 rfl) ?_
        refine va_calli (va_runV (As := []) (rest := [.ref h0]) ⟨hx, hb, hml, hown, hts⟩ (k_X2_closeApart l dC dI cI cS cP cA L tg f hN hT hw.2.1 h0 hm_h0 ht_h0) (cwV 0 hts gX2_lay_X2_closeApart rfl rfl rfl (by decide +kernel) ⟨Nat.le_of_ble_eq_true rfl, Nat.le_of_ble_eq_true rfl⟩) ⟨tPre_blind, tp_recv hK hw hm_h0 4 ht_h0 (ci := 1) (fun _ => rfl) rfl, fun U hU hW => ⟨rfl, tPre_at hw hK hcm hU hW⟩⟩ rfl rfl hl.1 rfl (lv_room (Nat.le_of_ble_eq_true rfl)) dX2_lay_68 ⟨Nat.le_of_ble_eq_true rfl, Nat.le_of_ble_eq_true rfl⟩) hw.2.2.2 (fun q _ h => h) (fun q h => h) (fun r_3 f t H locs ht hvm hp hB hz1 hk1 hS1 => ?_)
        obtain ⟨hI1, hF1, hr_3⟩ := hp
        have hw := hw.back (S' := (fun t => t == 3)) (by decide) hT hI1 hF1 hB ht hS1
        clear hI1 hF1 hB ht hz1 hk1 hS1 hvm
        refine tp_put (ci := 1) (C := RX2) (T := TX2) (N := 14) (v := .int r_3) (ty := .boolean) hx hb hts hin_X2 tyX2 tyX2_ok nmX2 hown hN hK hw hm_h0 4 ht_h0 rfl (fun _ => rfl) rfl 7 (by decide) rfl (hts (.fieldLink RX2 85 "DayBench$Search" "together" "Z") (by decide +kernel)) (fun _ h9 => h9) rfl (by decide +kernel) (nar_b hr_3) (fit_b hr_3) ⟨_, rfl, hr_3⟩ dX2_lay_71 (fun H locs f hw ho_4 hn_5 hs_6 => ?_)
        clear ho_4 hs_6 hn_5
        refine lv_aload_n hx hb dX2_lay_74 rfl (lv_at hl 1 rfl) ?_
        refine va_callv (va_runV (As := []) (rest := []) ⟨hx, hb, hml, hown, hts⟩ (k_X2_boundDays l dC dI cI cS cP cA L tg f hN hT hw.2.1 h0 hm_h0 ht_h0) (cwV 0 hts gX2_lay_X2_boundDays rfl rfl rfl (by decide +kernel) ⟨Nat.le_of_ble_eq_true rfl, Nat.le_of_ble_eq_true rfl⟩) ⟨tPre_blind, tp_recv hK hw hm_h0 4 ht_h0 (ci := 1) (fun _ => rfl) rfl, fun U hU hW => ⟨rfl, tPre_at hw hK hcm hU hW⟩⟩ rfl rfl hl.1 rfl (lv_room (Nat.le_of_ble_eq_true rfl)) dX2_lay_75 ⟨Nat.le_of_ble_eq_true rfl, Nat.le_of_ble_eq_true rfl⟩) hw.2.2.2 (fun q _ h => h) (fun q h => h) (fun f t H locs ht hvm hp hB hz1 hk1 hS1 => ?_)
        obtain ⟨hI1, hF1⟩ := hp
        have hw := hw.back (S' := (fun t => t == 3)) (by decide) hT hI1 hF1 hB ht hS1
        clear hI1 hF1 hB ht hz1 hk1 hS1 hvm
        subst hQ
        have hI9 := hw.2.1
        have hF9 := hw.2.2.1
        have hS9 := hw.2.2.2
        rw [hf0] at hF9
        exact W.vret hx hb hr (fun t ht hW => ⟨⟨_, rfl, ⟨hI9, hF9⟩, hw.at ht⟩, hS9.F ht⟩) hS9.2.2 dX2_lay_78
      · have nh_2 : ¬ 12 ≤ k := fun q9 => h_2 ((nI_leI (a := 12) (b := k) (by omega) (by omega)).mpr q9)
        refine lv_iload_n hx hb dX2_lay_12 rfl (lv_at hl 3 rfl) ?_
        refine lv_iload_n hx hb dX2_lay_13 rfl (lv_at hl 0 rfl) ?_
        refine lv_ishr hx hb dX2_lay_14 ?_
        refine lv_iconst (v := 1) hx hb dX2_lay_15 (by decide) ?_
        refine lv_iand hx hb dX2_lay_16 ?_
        refine lv_if_ne (tgt := 23) hx hb dX2_lay_17 (by decide) (fun h_8 => ?_) (fun h_8 => ?_)
        · refine lv_aload_n hx hb dX2_lay_23 rfl (lv_at hl 2 rfl) ?_
          refine lv_iload_n hx hb dX2_lay_24 rfl (lv_at hl 0 rfl) ?_
          refine tp_aald hx hb hK hw hm_a1 9 ht_a1 1 (n := 12) (t' := 0) (fun _ => rfl) rfl rfl (vp_in_nI (by omega) (by omega)) dX2_lay_25 (fun b_9 hf_10 hm_b_9 ht_b_9 => ?_)
          clear hf_10
          refine tp_get (ci := 0) (C := RX1) (T := TX1) (N := 9) hx hb hts hin_X1 hown hK hw hm_b_9 0 ht_b_9 (fun _ => rfl) rfl 2 (by decide) rfl (hts (.fieldLink RX2 63 "DayBench$Saying" "what" "I") (by decide +kernel)) (fun _ h9 => h9) dX2_lay_26 (fun v_11 hf_12 hv_13 => ?_)
          obtain ⟨y_14, ey_14⟩ := hv_13
          subst ey_14
          clear hf_12
          refine lv_bipush (v := 6) hx hb dX2_lay_29 (by decide) ?_
          refine lv_icmp_ne (tgt := 44) hx hb dX2_lay_31 (by decide) (fun h_15 => ?_) (fun h_15 => ?_)
          · refine lv_aload_n hx hb dX2_lay_44 rfl (lv_at hl 1 rfl) ?_
            refine lv_aload_n hx hb dX2_lay_45 rfl (lv_at hl 2 rfl) ?_
            refine lv_iload_n hx hb dX2_lay_46 rfl (lv_at hl 0 rfl) ?_
            refine tp_aald hx hb hK hw hm_a1 9 ht_a1 1 (n := 12) (t' := 0) (fun _ => rfl) rfl rfl (vp_in_nI (by omega) (by omega)) dX2_lay_47 (fun b_16 hf_17 hm_b_16 ht_b_16 => ?_)
            clear hf_17
            refine tp_get (ci := 0) (C := RX1) (T := TX1) (N := 9) hx hb hts hin_X1 hown hK hw hm_b_16 0 ht_b_16 (fun _ => rfl) rfl 1 (by decide) rfl (hts (.fieldLink RX2 72 "DayBench$Saying" "event" "I") (by decide +kernel)) (fun _ h9 => h9) dX2_lay_48 (fun v_18 hf_19 hv_20 => ?_)
            obtain ⟨k_21, ek_21, hk_k_21⟩ := hv_20
            subst ek_21
            clear hf_19
            refine lv_aload_n hx hb dX2_lay_51 rfl (lv_at hl 2 rfl) ?_
            refine lv_iload_n hx hb dX2_lay_52 rfl (lv_at hl 0 rfl) ?_
            refine tp_aald hx hb hK hw hm_a1 9 ht_a1 1 (n := 12) (t' := 0) (fun _ => rfl) rfl rfl (vp_in_nI (by omega) (by omega)) dX2_lay_53 (fun b_22 hf_23 hm_b_22 ht_b_22 => ?_)
            clear hf_23
            refine tp_get (ci := 0) (C := RX1) (T := TX1) (N := 9) hx hb hts hin_X1 hown hK hw hm_b_22 0 ht_b_22 (fun _ => rfl) rfl 0 (by decide) rfl (hts (.fieldLink RX2 75 "DayBench$Saying" "spans" "LDayBench$Spans;") (by decide +kernel)) (fun _ h9 => h9) dX2_lay_54 (fun v_24 hf_25 hv_26 => ?_)
            obtain ⟨b_27, eb_27, hm_b_27, ht_b_27⟩ := hv_26
            subst eb_27
            refine va_callv (va_runV (As := [.int (nI k_21), .ref b_27]) (rest := []) ⟨hx, hb, hml, hown, hts⟩ (k_X2_keepCommon l dC dI cI cS cP cA L tg f hN hT hw.2.1 h0 hm_h0 ht_h0 k_21 (by first | omega | decide) b_27 hm_b_27 ht_b_27) (cwV 2 hts gX2_lay_X2_keepCommon rfl rfl rfl (by decide +kernel) ⟨Nat.le_of_ble_eq_true rfl, Nat.le_of_ble_eq_true rfl⟩) ⟨tPre_blind, tp_recv hK hw hm_h0 4 ht_h0 (ci := 1) (fun _ => rfl) rfl, fun U hU hW => ⟨rfl, tPre_at hw hK hcm hU hW⟩⟩ rfl rfl hl.1 rfl (lv_room (Nat.le_of_ble_eq_true rfl)) dX2_lay_57 ⟨Nat.le_of_ble_eq_true rfl, Nat.le_of_ble_eq_true rfl⟩) hw.2.2.2 (fun q _ h => h) (fun q h => h) (fun f t H locs ht hvm hp hB hz1 hk1 hS1 => ?_)
            obtain ⟨hI1, hF1⟩ := hp
            have hw := hw.back (S' := (fun t => t == 1 || t == 2 || t == 4 || t == 10)) (by decide) hT hI1 hF1 hB ht hS1
            have hf_25 : fld (f b_22) 0 = some (.ref b_27) := by rw [hF1 b_22 hm_b_22 (by rw [ht_b_22]; rfl)]; exact hf_25
            clear hI1 hF1 hB ht hz1 hk1 hS1 hvm
            refine lv_iinc (v := nI (k + 1)) (lv' := [(3, .int (nI (k + 1))), (0, .ref h0), (1, .ref a1), (2, .int p1)]) hx hb dX2_lay_60 hl (k := 0) rfl (nI_1 _) (by decide) rfl (fun ls hl => ?_)
            refine lv_goto (tgt := 6) hx hb dX2_lay_63 (by decide) ?_
            exact ih_6 ((k + 1)) (by omega) (by omega) _ _ _ ls hw (lv_sub hl [0, 1, 2, 3] rfl)
          · refine lv_aload_n hx hb dX2_lay_34 rfl (lv_at hl 1 rfl) ?_
            refine lv_aload_n hx hb dX2_lay_35 rfl (lv_at hl 2 rfl) ?_
            refine lv_iload_n hx hb dX2_lay_36 rfl (lv_at hl 0 rfl) ?_
            refine tp_aald hx hb hK hw hm_a1 9 ht_a1 1 (n := 12) (t' := 0) (fun _ => rfl) rfl rfl (vp_in_nI (by omega) (by omega)) dX2_lay_37 (fun b_29 hf_30 hm_b_29 ht_b_29 => ?_)
            clear hf_30
            refine va_callv (va_runV (As := [.ref b_29]) (rest := []) ⟨hx, hb, hml, hown, hts⟩ (k_X2_layBehind l dC dI cI cS cP cA L tg f hN hT hw.2.1 h0 hm_h0 ht_h0 b_29 hm_b_29 ht_b_29) (cwV 1 hts gX2_lay_X2_layBehind rfl rfl rfl (by decide +kernel) ⟨Nat.le_of_ble_eq_true rfl, Nat.le_of_ble_eq_true rfl⟩) ⟨tPre_blind, tp_recv hK hw hm_h0 4 ht_h0 (ci := 1) (fun _ => rfl) rfl, fun U hU hW => ⟨rfl, tPre_at hw hK hcm hU hW⟩⟩ rfl rfl hl.1 rfl (lv_room (Nat.le_of_ble_eq_true rfl)) dX2_lay_38 ⟨Nat.le_of_ble_eq_true rfl, Nat.le_of_ble_eq_true rfl⟩) hw.2.2.2 (fun q _ h => h) (fun q h => h) (fun f t H locs ht hvm hp hB hz1 hk1 hS1 => ?_)
            obtain ⟨hI1, hF1⟩ := hp
            have hw := hw.back (S' := (fun t => t == 3)) (by decide) hT hI1 hF1 hB ht hS1
            clear hI1 hF1 hB ht hz1 hk1 hS1 hvm
            refine lv_goto (tgt := 60) hx hb dX2_lay_41 (by decide) ?_
            refine lv_iinc (v := nI (k + 1)) (lv' := [(3, .int (nI (k + 1))), (0, .ref h0), (1, .ref a1), (2, .int p1)]) hx hb dX2_lay_60 hl (k := 0) rfl (nI_1 _) (by decide) rfl (fun ls hl => ?_)
            refine lv_goto (tgt := 6) hx hb dX2_lay_63 (by decide) ?_
            exact ih_6 ((k + 1)) (by omega) (by omega) _ _ _ ls hw (lv_sub hl [0, 1, 2, 3] rfl)
        · refine lv_goto (tgt := 60) hx hb dX2_lay_20 (by decide) ?_
          refine lv_iinc (v := nI (k + 1)) (lv' := [(3, .int (nI (k + 1))), (0, .ref h0), (1, .ref a1), (2, .int p1)]) hx hb dX2_lay_60 hl (k := 0) rfl (nI_1 _) (by decide) rfl (fun ls hl => ?_)
          refine lv_goto (tgt := 6) hx hb dX2_lay_63 (by decide) ?_
          exact ih_6 ((k + 1)) (by omega) (by omega) _ _ _ ls hw (lv_sub hl [0, 1, 2, 3] rfl)
  exact hl_6 _ 0 (Nat.lt_succ_self _) (by omega) _ _ _ ls hw (lv_sub hl [0, 1, 2, 3] rfl)

set_option maxHeartbeats 4000000 in
set_option maxRecDepth 100000 in
theorem k_X2_noteWay (l : Launch) (dC : Nat → ClassId) (dI : Nat → Nat → Nat) (cI cS cP cA : ClassId) (L : List Nat) (tg : Nat → Nat) (f : Nat → va_E) (hN : L.Nodup) (hT : ∀ a : Nat, a ∈ L → tg a < 13) (hI : PI cI cS cP cA L tg f) (h0 : Nat) (hm_h0 : h0 ∈ L) (ht_h0 : tg h0 = 4) : Met l yX2_noteWay wsX2_noteWay ({ frames := 1, cells := 0, slots := 0, locals := 15 }) (va_Pc [.ref h0] (tPre dC dI cI cS cP cA L f)) (va_Qv (fun (f' : Nat → va_E) => PI cI cS cP cA L tg f' ∧ Fr L tg (fun t => t == 3 || t == 4) f f') (fun (f' : Nat → va_E) t => va_P (dC, dI) vwCl (va_pl L f') t.heap) (fun q : Nat => q ∈ L)) 0 0 (fun q : Nat => q ∈ L) := by
  refine Met.ofW (cc := cX2_noteWay) (maxL := 4) (ret := none) (by decide) rfl ?_
  intro p e s m args below meth c s₁ B hml hv
  obtain ⟨rfl, hP, hK, hcm⟩ := hv
  have hx := B.exec
  have hb := B.bytes
  have hr := B.returns
  have hts := atoms_spec (ws := wsX2_noteWay) B.pre
  have hown : s.vm.findClass RX2 = some m.cls := findClass_of_methodNamed B.named
  have hlocks := B.notSynchronized
  have hin_X2 : ∀ w ∈ u_ws RX2 TX2 14, w ∈ wsX2_noteWay := by decide +kernel
  have hl := lv_entry ([.ref h0]) (n := 4) (Nat.le_of_ble_eq_true rfl)
  rw [lg_entry_eq]
  generalize (lg_sl ([.ref h0]) ++ List.replicate (4 - (lg_sl ([.ref h0])).length) Slot.unset).toArray = ls at hl ⊢
  have hl : lv_has ls 4 [(0, .ref h0)] := hl
  generalize hQ : MQ below (va_Qv (fun (f' : Nat → va_E) => PI cI cS cP cA L tg f' ∧ Fr L tg (fun t => t == 3 || t == 4) f f') (fun (f' : Nat → va_E) t => va_P (dC, dI) vwCl (va_pl L f') t.heap) (fun q : Nat => q ∈ L)) [.ref h0].toArray s 0 0 (fun q : Nat => q ∈ L) = Q
  obtain ⟨f0, hf0⟩ : ∃ g : Nat → va_E, g = f := ⟨_, rfl⟩
  have hw : PW dC dI cI cS cP cA L tg (fun t => t == 3 || t == 4) f0 s.heap f s.heap [] := by rw [hf0]; exact PW.start hP hI
  clear hP
  refine lv_iconst (v := 0) hx hb dX2_noteWay_0 (by decide) ?_
  refine lv_istore_n (lv' := [(1, .int 0), (0, .ref h0)]) hx hb dX2_noteWay_1 rfl hl (by decide) rfl (fun ls hl => ?_)
  have hl_2 : ∀ (fu : Nat) (i : Nat), 6 - i < fu → (i ≤ 6) → ∀ (f : Nat → va_E) (H : Heap) (locs : List Loc) (ls : Array Slot), PW dC dI cI cS cP cA L tg (fun t => t == 3 || t == 4) f0 s.heap f H locs → lv_has ls 4 [(1, .int (nI i)), (0, .ref h0)] → W p l e (headSpec wsX2_noteWay ({ frames := 1, cells := 0, slots := 0, locals := 15 })).room s m [.ref h0].toArray below meth c H locs 0 0 Q (F0 m 2 ls []) := by
    intro fu
    induction fu with
    | zero => intro i hm9; exact absurd hm9 (Nat.not_lt_zero _)
    | succ fu ih_2 =>
      intro i hm_2 h_i f H locs ls hw hl
      refine lv_iload_n hx hb dX2_noteWay_2 rfl (lv_at hl 0 rfl) ?_
      refine lv_aload_n hx hb dX2_noteWay_3 rfl (lv_at hl 1 rfl) ?_
      refine tp_get (ci := 1) (C := RX2) (T := TX2) (N := 14) hx hb hts hin_X2 hown hK hw hm_h0 4 ht_h0 (fun _ => rfl) rfl 3 (by decide) rfl (hts (.fieldLink RX2 49 "DayBench$Search" "events" "I") (by decide +kernel)) (fun _ h9 => h9) dX2_noteWay_4 (fun v_1 hf_2 hv_3 => ?_)
      obtain ⟨k_4, ek_4, hk_k_4⟩ := hv_3
      subst ek_4
      clear hf_2
      refine lv_icmp_ge (tgt := 94) hx hb dX2_noteWay_7 (by decide) (fun h_5 => ?_) (fun h_5 => ?_)
      · have nh_5 : k_4 ≤ i := (nI_leI (a := k_4) (b := i) (by omega) (by omega)).mp h_5
        refine lv_aload_n hx hb dX2_noteWay_94 rfl (lv_at hl 1 rfl) ?_
        refine lv_iconst (v := 1) hx hb dX2_noteWay_95 (by decide) ?_
        refine tp_put (ci := 1) (C := RX2) (T := TX2) (N := 14) (v := .int 1) (ty := .boolean) hx hb hts hin_X2 tyX2 tyX2_ok nmX2 hown hN hK hw hm_h0 4 ht_h0 rfl (fun _ => rfl) rfl 5 (by decide) rfl (hts (.fieldLink RX2 118 "DayBench$Search" "found" "Z") (by decide +kernel)) (fun _ h9 => h9) rfl (by decide +kernel) rfl rfl ⟨_, rfl, Or.inr rfl⟩ dX2_noteWay_96 (fun H locs f hw ho_6 hn_7 hs_8 => ?_)
        clear ho_6 hs_8 hn_7
        subst hQ
        have hI9 := hw.2.1
        have hF9 := hw.2.2.1
        have hS9 := hw.2.2.2
        rw [hf0] at hF9
        exact W.vret hx hb hr (fun t ht hW => ⟨⟨_, rfl, ⟨hI9, hF9⟩, hw.at ht⟩, hS9.F ht⟩) hS9.2.2 dX2_noteWay_99
      · have nh_5 : ¬ k_4 ≤ i := fun q9 => h_5 ((nI_leI (a := k_4) (b := i) (by omega) (by omega)).mpr q9)
        refine lv_aload_n hx hb dX2_noteWay_10 rfl (lv_at hl 1 rfl) ?_
        refine tp_get (ci := 1) (C := RX2) (T := TX2) (N := 14) hx hb hts hin_X2 hown hK hw hm_h0 4 ht_h0 (fun _ => rfl) rfl 12 (by decide) rfl (hts (.fieldLink RX2 37 "DayBench$Search" "low" "[[I") (by decide +kernel)) (fun _ h9 => h9) dX2_noteWay_11 (fun v_9 hf_10 hv_11 => ?_)
        obtain ⟨b_12, eb_12, hm_b_12, ht_b_12⟩ := hv_11
        subst eb_12
        refine lv_aload_n hx hb dX2_noteWay_14 rfl (lv_at hl 1 rfl) ?_
        refine tp_get (ci := 1) (C := RX2) (T := TX2) (N := 14) hx hb hts hin_X2 hown hK hw hm_h0 4 ht_h0 (fun _ => rfl) rfl 3 (by decide) rfl (hts (.fieldLink RX2 49 "DayBench$Search" "events" "I") (by decide +kernel)) (fun _ h9 => h9) dX2_noteWay_15 (fun v_13 hf_14 hv_15 => ?_)
        obtain ⟨k_16, ek_16, hk_k_16⟩ := hv_15
        subst ek_16
        clear hf_14
        refine tp_aald hx hb hK hw hm_b_12 12 ht_b_12 3 (n := 7) (t' := 3) (fun _ => rfl) rfl rfl (vp_in_nI (by omega) (by omega)) dX2_noteWay_18 (fun b_17 hf_18 hm_b_17 ht_b_17 => ?_)
        clear hf_18
        refine lv_iload_n hx hb dX2_noteWay_19 rfl (lv_at hl 0 rfl) ?_
        refine tp_iald hx hb hK hw hm_b_17 3 ht_b_17 (n := 6) (fun _ => rfl) (vp_in_nI (by omega) (by omega)) dX2_noteWay_20 (fun y_19 => ?_)
        refine lv_istore_n (lv' := [(2, .int y_19), (1, .int (nI i)), (0, .ref h0)]) hx hb dX2_noteWay_21 rfl hl (by decide) rfl (fun ls hl => ?_)
        refine lv_aload_n hx hb dX2_noteWay_22 rfl (lv_at hl 2 rfl) ?_
        refine tp_get (ci := 1) (C := RX2) (T := TX2) (N := 14) hx hb hts hin_X2 hown hK hw hm_h0 4 ht_h0 (fun _ => rfl) rfl 13 (by decide) rfl (hts (.fieldLink RX2 40 "DayBench$Search" "high" "[[I") (by decide +kernel)) (fun _ h9 => h9) dX2_noteWay_23 (fun v_20 hf_21 hv_22 => ?_)
        obtain ⟨b_23, eb_23, hm_b_23, ht_b_23⟩ := hv_22
        subst eb_23
        refine lv_aload_n hx hb dX2_noteWay_26 rfl (lv_at hl 2 rfl) ?_
        refine tp_get (ci := 1) (C := RX2) (T := TX2) (N := 14) hx hb hts hin_X2 hown hK hw hm_h0 4 ht_h0 (fun _ => rfl) rfl 3 (by decide) rfl (hts (.fieldLink RX2 49 "DayBench$Search" "events" "I") (by decide +kernel)) (fun _ h9 => h9) dX2_noteWay_27 (fun v_24 hf_25 hv_26 => ?_)
        obtain ⟨k_27, ek_27, hk_k_27⟩ := hv_26
        subst ek_27
        clear hf_25
        refine tp_aald hx hb hK hw hm_b_23 12 ht_b_23 3 (n := 7) (t' := 3) (fun _ => rfl) rfl rfl (vp_in_nI (by omega) (by omega)) dX2_noteWay_30 (fun b_28 hf_29 hm_b_28 ht_b_28 => ?_)
        clear hf_29
        refine lv_iload_n hx hb dX2_noteWay_31 rfl (lv_at hl 1 rfl) ?_
        refine tp_iald hx hb hK hw hm_b_28 3 ht_b_28 (n := 6) (fun _ => rfl) (vp_in_nI (by omega) (by omega)) dX2_noteWay_32 (fun y_30 => ?_)
        refine lv_istore_n (lv' := [(3, .int y_30), (2, .int y_19), (1, .int (nI i)), (0, .ref h0)]) hx hb dX2_noteWay_33 rfl hl (by decide) rfl (fun ls hl => ?_)
        refine lv_aload_n hx hb dX2_noteWay_34 rfl (lv_at hl 3 rfl) ?_
        refine tp_get (ci := 1) (C := RX2) (T := TX2) (N := 14) hx hb hts hin_X2 hown hK hw hm_h0 4 ht_h0 (fun _ => rfl) rfl 0 (by decide) rfl (hts (.fieldLink RX2 9 "DayBench$Search" "earliest" "[I") (by decide +kernel)) (fun _ h9 => h9) dX2_noteWay_35 (fun v_31 hf_32 hv_33 => ?_)
        obtain ⟨b_34, eb_34, hm_b_34, ht_b_34⟩ := hv_33
        subst eb_34
        refine lv_iload_n hx hb dX2_noteWay_38 rfl (lv_at hl 2 rfl) ?_
        refine lv_aload_n hx hb dX2_noteWay_39 rfl (lv_at hl 3 rfl) ?_
        refine tp_get (ci := 1) (C := RX2) (T := TX2) (N := 14) hx hb hts hin_X2 hown hK hw hm_h0 4 ht_h0 (fun _ => rfl) rfl 5 (by decide) rfl (hts (.fieldLink RX2 118 "DayBench$Search" "found" "Z") (by decide +kernel)) (fun _ h9 => h9) dX2_noteWay_40 (fun v_35 hf_36 hv_37 => ?_)
        obtain ⟨y_38, ey_38, hb_y_38⟩ := hv_37
        subst ey_38
        clear hf_36
        refine lv_if_eq (tgt := 59) hx hb dX2_noteWay_43 (by decide) (fun h_39 => ?_) (fun h_39 => ?_)
        · refine lv_iload_n hx hb dX2_noteWay_59 rfl (lv_at hl 1 rfl) ?_
          refine tp_iast hx hb hN hK hw hm_b_34 3 ht_b_34 rfl (n := 6) (fun _ => rfl) (vp_in_nI (by omega) (by omega)) dX2_noteWay_60 (fun H locs f hw ho_40 => ?_)
          have hf_10 : fld (f h0) 12 = some (.ref b_12) := by rw [ho_40 h0 (tne ht_h0 ht_b_34 (by decide))]; exact hf_10
          have hf_21 : fld (f h0) 13 = some (.ref b_23) := by rw [ho_40 h0 (tne ht_h0 ht_b_34 (by decide))]; exact hf_21
          have hf_32 : fld (f h0) 0 = some (.ref b_34) := by rw [ho_40 h0 (tne ht_h0 ht_b_34 (by decide))]; exact hf_32
          clear ho_40
          refine lv_aload_n hx hb dX2_noteWay_61 rfl (lv_at hl 3 rfl) ?_
          refine tp_get (ci := 1) (C := RX2) (T := TX2) (N := 14) hx hb hts hin_X2 hown hK hw hm_h0 4 ht_h0 (fun _ => rfl) rfl 1 (by decide) rfl (hts (.fieldLink RX2 15 "DayBench$Search" "latest" "[I") (by decide +kernel)) (fun _ h9 => h9) dX2_noteWay_62 (fun v_41 hf_42 hv_43 => ?_)
          obtain ⟨b_44, eb_44, hm_b_44, ht_b_44⟩ := hv_43
          subst eb_44
          refine lv_iload_n hx hb dX2_noteWay_65 rfl (lv_at hl 2 rfl) ?_
          refine lv_aload_n hx hb dX2_noteWay_66 rfl (lv_at hl 3 rfl) ?_
          refine tp_get (ci := 1) (C := RX2) (T := TX2) (N := 14) hx hb hts hin_X2 hown hK hw hm_h0 4 ht_h0 (fun _ => rfl) rfl 5 (by decide) rfl (hts (.fieldLink RX2 118 "DayBench$Search" "found" "Z") (by decide +kernel)) (fun _ h9 => h9) dX2_noteWay_67 (fun v_45 hf_46 hv_47 => ?_)
          obtain ⟨y_48, ey_48, hb_y_48⟩ := hv_47
          subst ey_48
          clear hf_46
          refine lv_if_eq (tgt := 86) hx hb dX2_noteWay_70 (by decide) (fun h_49 => ?_) (fun h_49 => ?_)
          · refine lv_iload_n hx hb dX2_noteWay_86 rfl (lv_at hl 0 rfl) ?_
            refine tp_iast hx hb hN hK hw hm_b_44 3 ht_b_44 rfl (n := 6) (fun _ => rfl) (vp_in_nI (by omega) (by omega)) dX2_noteWay_87 (fun H locs f hw ho_50 => ?_)
            have hf_10 : fld (f h0) 12 = some (.ref b_12) := by rw [ho_50 h0 (tne ht_h0 ht_b_44 (by decide))]; exact hf_10
            have hf_21 : fld (f h0) 13 = some (.ref b_23) := by rw [ho_50 h0 (tne ht_h0 ht_b_44 (by decide))]; exact hf_21
            have hf_32 : fld (f h0) 0 = some (.ref b_34) := by rw [ho_50 h0 (tne ht_h0 ht_b_44 (by decide))]; exact hf_32
            have hf_42 : fld (f h0) 1 = some (.ref b_44) := by rw [ho_50 h0 (tne ht_h0 ht_b_44 (by decide))]; exact hf_42
            clear ho_50
            refine lv_iinc (v := nI (i + 1)) (lv' := [(1, .int (nI (i + 1))), (3, .int y_30), (2, .int y_19), (0, .ref h0)]) hx hb dX2_noteWay_88 hl (k := 2) rfl (nI_1 _) (by decide) rfl (fun ls hl => ?_)
            refine lv_goto (tgt := 2) hx hb dX2_noteWay_91 (by decide) ?_
            exact ih_2 ((i + 1)) (by omega) (by omega) _ _ _ ls hw (lv_sub hl [0, 3] rfl)
          · refine lv_aload_n hx hb dX2_noteWay_73 rfl (lv_at hl 3 rfl) ?_
            refine tp_getK (ci := 1) (C := RX2) (T := TX2) (N := 14) hx hb hts hin_X2 hown hK hw hm_h0 4 ht_h0 (fun _ => rfl) rfl 1 (by decide) hf_42 (hts (.fieldLink RX2 15 "DayBench$Search" "latest" "[I") (by decide +kernel)) (fun _ h9 => h9) dX2_noteWay_74 ?_
            refine lv_iload_n hx hb dX2_noteWay_77 rfl (lv_at hl 2 rfl) ?_
            refine tp_iald hx hb hK hw hm_b_44 3 ht_b_44 (n := 6) (fun _ => rfl) (vp_in_nI (by omega) (by omega)) dX2_noteWay_78 (fun y_51 => ?_)
            refine lv_iload_n hx hb dX2_noteWay_79 rfl (lv_at hl 0 rfl) ?_
            refine va_mmax (own := RX2) (x := y_51) (y := y_30) hx hb (hml.trans hl.1.symm) hown (hts (.methodLink RX2 112 Lib.Math.max.name) (by decide +kernel)) (hts (.static Lib.Math.max.name) (by decide +kernel)) (hts (.initialized "java/lang/Math") (by decide +kernel)) (hts (.code Lib.Math.max.name Lib.Math.max.code 2 (some .int)) (by decide +kernel)) (Nat.le_of_ble_eq_true rfl) (Nat.le_of_ble_eq_true rfl) (Nat.le_of_ble_eq_true rfl) (Nat.le_of_ble_eq_true rfl) dX2_noteWay_80 ?_
            refine lv_goto (tgt := 87) hx hb dX2_noteWay_83 (by decide) ?_
            refine tp_iast hx hb hN hK hw hm_b_44 3 ht_b_44 rfl (n := 6) (fun _ => rfl) (vp_in_nI (by omega) (by omega)) dX2_noteWay_87 (fun H locs f hw ho_52 => ?_)
            have hf_10 : fld (f h0) 12 = some (.ref b_12) := by rw [ho_52 h0 (tne ht_h0 ht_b_44 (by decide))]; exact hf_10
            have hf_21 : fld (f h0) 13 = some (.ref b_23) := by rw [ho_52 h0 (tne ht_h0 ht_b_44 (by decide))]; exact hf_21
            have hf_32 : fld (f h0) 0 = some (.ref b_34) := by rw [ho_52 h0 (tne ht_h0 ht_b_44 (by decide))]; exact hf_32
            have hf_42 : fld (f h0) 1 = some (.ref b_44) := by rw [ho_52 h0 (tne ht_h0 ht_b_44 (by decide))]; exact hf_42
            clear ho_52
            refine lv_iinc (v := nI (i + 1)) (lv' := [(1, .int (nI (i + 1))), (3, .int y_30), (2, .int y_19), (0, .ref h0)]) hx hb dX2_noteWay_88 hl (k := 2) rfl (nI_1 _) (by decide) rfl (fun ls hl => ?_)
            refine lv_goto (tgt := 2) hx hb dX2_noteWay_91 (by decide) ?_
            exact ih_2 ((i + 1)) (by omega) (by omega) _ _ _ ls hw (lv_sub hl [0, 3] rfl)
        · refine lv_aload_n hx hb dX2_noteWay_46 rfl (lv_at hl 3 rfl) ?_
          refine tp_getK (ci := 1) (C := RX2) (T := TX2) (N := 14) hx hb hts hin_X2 hown hK hw hm_h0 4 ht_h0 (fun _ => rfl) rfl 0 (by decide) hf_32 (hts (.fieldLink RX2 9 "DayBench$Search" "earliest" "[I") (by decide +kernel)) (fun _ h9 => h9) dX2_noteWay_47 ?_
          refine lv_iload_n hx hb dX2_noteWay_50 rfl (lv_at hl 2 rfl) ?_
          refine tp_iald hx hb hK hw hm_b_34 3 ht_b_34 (n := 6) (fun _ => rfl) (vp_in_nI (by omega) (by omega)) dX2_noteWay_51 (fun y_53 => ?_)
          refine lv_iload_n hx hb dX2_noteWay_52 rfl (lv_at hl 1 rfl) ?_
          refine va_mmin (own := RX2) (x := y_53) (y := y_19) hx hb (hml.trans hl.1.symm) hown (hts (.methodLink RX2 43 Lib.Math.min.name) (by decide +kernel)) (hts (.static Lib.Math.min.name) (by decide +kernel)) (hts (.initialized "java/lang/Math") (by decide +kernel)) (hts (.code Lib.Math.min.name Lib.Math.min.code 2 (some .int)) (by decide +kernel)) (Nat.le_of_ble_eq_true rfl) (Nat.le_of_ble_eq_true rfl) (Nat.le_of_ble_eq_true rfl) (Nat.le_of_ble_eq_true rfl) dX2_noteWay_53 ?_
          refine lv_goto (tgt := 60) hx hb dX2_noteWay_56 (by decide) ?_
          refine tp_iast hx hb hN hK hw hm_b_34 3 ht_b_34 rfl (n := 6) (fun _ => rfl) (vp_in_nI (by omega) (by omega)) dX2_noteWay_60 (fun H locs f hw ho_54 => ?_)
          have hf_10 : fld (f h0) 12 = some (.ref b_12) := by rw [ho_54 h0 (tne ht_h0 ht_b_34 (by decide))]; exact hf_10
          have hf_21 : fld (f h0) 13 = some (.ref b_23) := by rw [ho_54 h0 (tne ht_h0 ht_b_34 (by decide))]; exact hf_21
          have hf_32 : fld (f h0) 0 = some (.ref b_34) := by rw [ho_54 h0 (tne ht_h0 ht_b_34 (by decide))]; exact hf_32
          clear ho_54
          refine lv_aload_n hx hb dX2_noteWay_61 rfl (lv_at hl 3 rfl) ?_
          refine tp_get (ci := 1) (C := RX2) (T := TX2) (N := 14) hx hb hts hin_X2 hown hK hw hm_h0 4 ht_h0 (fun _ => rfl) rfl 1 (by decide) rfl (hts (.fieldLink RX2 15 "DayBench$Search" "latest" "[I") (by decide +kernel)) (fun _ h9 => h9) dX2_noteWay_62 (fun v_55 hf_56 hv_57 => ?_)
          obtain ⟨b_58, eb_58, hm_b_58, ht_b_58⟩ := hv_57
          subst eb_58
          refine lv_iload_n hx hb dX2_noteWay_65 rfl (lv_at hl 2 rfl) ?_
          refine lv_aload_n hx hb dX2_noteWay_66 rfl (lv_at hl 3 rfl) ?_
          refine tp_get (ci := 1) (C := RX2) (T := TX2) (N := 14) hx hb hts hin_X2 hown hK hw hm_h0 4 ht_h0 (fun _ => rfl) rfl 5 (by decide) rfl (hts (.fieldLink RX2 118 "DayBench$Search" "found" "Z") (by decide +kernel)) (fun _ h9 => h9) dX2_noteWay_67 (fun v_59 hf_60 hv_61 => ?_)
          obtain ⟨y_62, ey_62, hb_y_62⟩ := hv_61
          subst ey_62
          clear hf_60
          refine lv_if_eq (tgt := 86) hx hb dX2_noteWay_70 (by decide) (fun h_63 => ?_) (fun h_63 => ?_)
          · refine lv_iload_n hx hb dX2_noteWay_86 rfl (lv_at hl 0 rfl) ?_
            refine tp_iast hx hb hN hK hw hm_b_58 3 ht_b_58 rfl (n := 6) (fun _ => rfl) (vp_in_nI (by omega) (by omega)) dX2_noteWay_87 (fun H locs f hw ho_64 => ?_)
            have hf_10 : fld (f h0) 12 = some (.ref b_12) := by rw [ho_64 h0 (tne ht_h0 ht_b_58 (by decide))]; exact hf_10
            have hf_21 : fld (f h0) 13 = some (.ref b_23) := by rw [ho_64 h0 (tne ht_h0 ht_b_58 (by decide))]; exact hf_21
            have hf_32 : fld (f h0) 0 = some (.ref b_34) := by rw [ho_64 h0 (tne ht_h0 ht_b_58 (by decide))]; exact hf_32
            have hf_56 : fld (f h0) 1 = some (.ref b_58) := by rw [ho_64 h0 (tne ht_h0 ht_b_58 (by decide))]; exact hf_56
            clear ho_64
            refine lv_iinc (v := nI (i + 1)) (lv' := [(1, .int (nI (i + 1))), (3, .int y_30), (2, .int y_19), (0, .ref h0)]) hx hb dX2_noteWay_88 hl (k := 2) rfl (nI_1 _) (by decide) rfl (fun ls hl => ?_)
            refine lv_goto (tgt := 2) hx hb dX2_noteWay_91 (by decide) ?_
            exact ih_2 ((i + 1)) (by omega) (by omega) _ _ _ ls hw (lv_sub hl [0, 3] rfl)
          · refine lv_aload_n hx hb dX2_noteWay_73 rfl (lv_at hl 3 rfl) ?_
            refine tp_getK (ci := 1) (C := RX2) (T := TX2) (N := 14) hx hb hts hin_X2 hown hK hw hm_h0 4 ht_h0 (fun _ => rfl) rfl 1 (by decide) hf_56 (hts (.fieldLink RX2 15 "DayBench$Search" "latest" "[I") (by decide +kernel)) (fun _ h9 => h9) dX2_noteWay_74 ?_
            refine lv_iload_n hx hb dX2_noteWay_77 rfl (lv_at hl 2 rfl) ?_
            refine tp_iald hx hb hK hw hm_b_58 3 ht_b_58 (n := 6) (fun _ => rfl) (vp_in_nI (by omega) (by omega)) dX2_noteWay_78 (fun y_65 => ?_)
            refine lv_iload_n hx hb dX2_noteWay_79 rfl (lv_at hl 0 rfl) ?_
            refine va_mmax (own := RX2) (x := y_65) (y := y_30) hx hb (hml.trans hl.1.symm) hown (hts (.methodLink RX2 112 Lib.Math.max.name) (by decide +kernel)) (hts (.static Lib.Math.max.name) (by decide +kernel)) (hts (.initialized "java/lang/Math") (by decide +kernel)) (hts (.code Lib.Math.max.name Lib.Math.max.code 2 (some .int)) (by decide +kernel)) (Nat.le_of_ble_eq_true rfl) (Nat.le_of_ble_eq_true rfl) (Nat.le_of_ble_eq_true rfl) (Nat.le_of_ble_eq_true rfl) dX2_noteWay_80 ?_
            refine lv_goto (tgt := 87) hx hb dX2_noteWay_83 (by decide) ?_
            refine tp_iast hx hb hN hK hw hm_b_58 3 ht_b_58 rfl (n := 6) (fun _ => rfl) (vp_in_nI (by omega) (by omega)) dX2_noteWay_87 (fun H locs f hw ho_66 => ?_)
            have hf_10 : fld (f h0) 12 = some (.ref b_12) := by rw [ho_66 h0 (tne ht_h0 ht_b_58 (by decide))]; exact hf_10
            have hf_21 : fld (f h0) 13 = some (.ref b_23) := by rw [ho_66 h0 (tne ht_h0 ht_b_58 (by decide))]; exact hf_21
            have hf_32 : fld (f h0) 0 = some (.ref b_34) := by rw [ho_66 h0 (tne ht_h0 ht_b_58 (by decide))]; exact hf_32
            have hf_56 : fld (f h0) 1 = some (.ref b_58) := by rw [ho_66 h0 (tne ht_h0 ht_b_58 (by decide))]; exact hf_56
            clear ho_66
            refine lv_iinc (v := nI (i + 1)) (lv' := [(1, .int (nI (i + 1))), (3, .int y_30), (2, .int y_19), (0, .ref h0)]) hx hb dX2_noteWay_88 hl (k := 2) rfl (nI_1 _) (by decide) rfl (fun ls hl => ?_)
            refine lv_goto (tgt := 2) hx hb dX2_noteWay_91 (by decide) ?_
            exact ih_2 ((i + 1)) (by omega) (by omega) _ _ _ ls hw (lv_sub hl [0, 3] rfl)
  exact hl_2 _ 0 (Nat.lt_succ_self _) (by omega) _ _ _ ls hw (lv_sub hl [0, 1] rfl)

