set_option maxHeartbeats 4000000 in
set_option maxRecDepth 100000 in
theorem k_X2_narrow (l : Launch) (dC : Nat → ClassId) (dI : Nat → Nat → Nat) (cI cS cP cA : ClassId) (L : List Nat) (tg : Nat → Nat) (f : Nat → va_E) (hN : L.Nodup) (hT : ∀ a : Nat, a ∈ L → tg a < 13) (hI : PI cI cS cP cA L tg f) (h0 : Nat) (hm_h0 : h0 ∈ L) (ht_h0 : tg h0 = 4) (k0 : Nat) (h_k0 : k0 ≤ 5) (p1 : Int32) (p2 : Int32) : Met l yX2_narrow wsX2_narrow ({ frames := 1, cells := 0, slots := 0, locals := 15 }) (va_Pc [.ref h0, .int (nI k0), .int p1, .int p2] (tPre dC dI cI cS cP cA L f)) (va_Qi (fun (r : Int32) (f' : Nat → va_E) => PI cI cS cP cA L tg f' ∧ Fr L tg (fun t => t == 3) f f' ∧ (r = 0 ∨ r = 1)) (fun (f' : Nat → va_E) t => va_P (dC, dI) vwCl (va_pl L f') t.heap) (fun q : Nat => q ∈ L)) 0 0 (fun q : Nat => q ∈ L) := by
  refine Met.ofW (cc := cX2_narrow) (maxL := 7) (ret := (some .boolean)) (by decide) rfl ?_
  intro p e s m args below meth c s₁ B hml hv
  obtain ⟨rfl, hP, hK, hcm⟩ := hv
  have hx := B.exec
  have hb := B.bytes
  have hr := B.returns
  have hts := atoms_spec (ws := wsX2_narrow) B.pre
  have hown : s.vm.findClass RX2 = some m.cls := findClass_of_methodNamed B.named
  have hlocks := B.notSynchronized
  have hin_X2 : ∀ w ∈ u_ws RX2 TX2 14, w ∈ wsX2_narrow := by decide +kernel
  have hl := lv_entry ([.ref h0, .int (nI k0), .int p1, .int p2]) (n := 7) (Nat.le_of_ble_eq_true rfl)
  rw [lg_entry_eq]
  generalize (lg_sl ([.ref h0, .int (nI k0), .int p1, .int p2]) ++ List.replicate (7 - (lg_sl ([.ref h0, .int (nI k0), .int p1, .int p2])).length) Slot.unset).toArray = ls at hl ⊢
  have hl : lv_has ls 7 [(0, .ref h0), (1, .int (nI k0)), (2, .int p1), (3, .int p2)] := hl
  generalize hQ : MQ below (va_Qi (fun (r : Int32) (f' : Nat → va_E) => PI cI cS cP cA L tg f' ∧ Fr L tg (fun t => t == 3) f f' ∧ (r = 0 ∨ r = 1)) (fun (f' : Nat → va_E) t => va_P (dC, dI) vwCl (va_pl L f') t.heap) (fun q : Nat => q ∈ L)) [.ref h0, .int (nI k0), .int p1, .int p2].toArray s 0 0 (fun q : Nat => q ∈ L) = Q
  obtain ⟨f0, hf0⟩ : ∃ g : Nat → va_E, g = f := ⟨_, rfl⟩
  have hw : PW dC dI cI cS cP cA L tg (fun t => t == 3) f0 s.heap f s.heap [] := by rw [hf0]; exact PW.start hP hI
  clear hP
  refine lv_iload_n hx hb dX2_narrow_0 rfl (lv_at hl 2 rfl) ?_
  refine lv_aload_n hx hb dX2_narrow_1 rfl (lv_at hl 0 rfl) ?_
  refine tp_get (ci := 1) (C := RX2) (T := TX2) (N := 14) hx hb hts hin_X2 hown hK hw hm_h0 4 ht_h0 (fun _ => rfl) rfl 12 (by decide) rfl (hts (.fieldLink RX2 37 "DayBench$Search" "low" "[[I") (by decide +kernel)) (fun _ h9 => h9) dX2_narrow_2 (fun v_1 hf_2 hv_3 => ?_)
  obtain ⟨b_4, eb_4, hm_b_4, ht_b_4⟩ := hv_3
  subst eb_4
  refine lv_iload_n hx hb dX2_narrow_5 rfl (lv_at hl 1 rfl) ?_
  refine tp_aald hx hb hK hw hm_b_4 12 ht_b_4 3 (n := 7) (t' := 3) (fun _ => rfl) rfl rfl (vp_in_nI (by omega) (by omega)) dX2_narrow_6 (fun b_5 hf_6 hm_b_5 ht_b_5 => ?_)
  clear hf_6
  refine lv_iload_n hx hb dX2_narrow_7 rfl (lv_at hl 1 rfl) ?_
  refine tp_iald hx hb hK hw hm_b_5 3 ht_b_5 (n := 6) (fun _ => rfl) (vp_in_nI (by omega) (by omega)) dX2_narrow_8 (fun y_7 => ?_)
  refine va_mmax (own := RX2) (x := p1) (y := y_7) hx hb (hml.trans hl.1.symm) hown (hts (.methodLink RX2 112 Lib.Math.max.name) (by decide +kernel)) (hts (.static Lib.Math.max.name) (by decide +kernel)) (hts (.initialized "java/lang/Math") (by decide +kernel)) (hts (.code Lib.Math.max.name Lib.Math.max.code 2 (some .int)) (by decide +kernel)) (Nat.le_of_ble_eq_true rfl) (Nat.le_of_ble_eq_true rfl) (Nat.le_of_ble_eq_true rfl) (Nat.le_of_ble_eq_true rfl) dX2_narrow_9 ?_
  refine lv_topi (fun x_8 ex_8 => ?_)
  refine lv_istore (lv' := [(4, .int x_8), (0, .ref h0), (1, .int (nI k0)), (2, .int p1), (3, .int p2)]) hx hb dX2_narrow_12 hl (by decide) rfl (fun ls hl => ?_)
  refine lv_iload_n hx hb dX2_narrow_14 rfl (lv_at hl 4 rfl) ?_
  refine lv_aload_n hx hb dX2_narrow_15 rfl (lv_at hl 1 rfl) ?_
  refine tp_get (ci := 1) (C := RX2) (T := TX2) (N := 14) hx hb hts hin_X2 hown hK hw hm_h0 4 ht_h0 (fun _ => rfl) rfl 13 (by decide) rfl (hts (.fieldLink RX2 40 "DayBench$Search" "high" "[[I") (by decide +kernel)) (fun _ h9 => h9) dX2_narrow_16 (fun v_9 hf_10 hv_11 => ?_)
  obtain ⟨b_12, eb_12, hm_b_12, ht_b_12⟩ := hv_11
  subst eb_12
  refine lv_iload_n hx hb dX2_narrow_19 rfl (lv_at hl 2 rfl) ?_
  refine tp_aald hx hb hK hw hm_b_12 12 ht_b_12 3 (n := 7) (t' := 3) (fun _ => rfl) rfl rfl (vp_in_nI (by omega) (by omega)) dX2_narrow_20 (fun b_13 hf_14 hm_b_13 ht_b_13 => ?_)
  clear hf_14
  refine lv_iload_n hx hb dX2_narrow_21 rfl (lv_at hl 2 rfl) ?_
  refine tp_iald hx hb hK hw hm_b_13 3 ht_b_13 (n := 6) (fun _ => rfl) (vp_in_nI (by omega) (by omega)) dX2_narrow_22 (fun y_15 => ?_)
  refine va_mmin (own := RX2) (x := p2) (y := y_15) hx hb (hml.trans hl.1.symm) hown (hts (.methodLink RX2 43 Lib.Math.min.name) (by decide +kernel)) (hts (.static Lib.Math.min.name) (by decide +kernel)) (hts (.initialized "java/lang/Math") (by decide +kernel)) (hts (.code Lib.Math.min.name Lib.Math.min.code 2 (some .int)) (by decide +kernel)) (Nat.le_of_ble_eq_true rfl) (Nat.le_of_ble_eq_true rfl) (Nat.le_of_ble_eq_true rfl) (Nat.le_of_ble_eq_true rfl) dX2_narrow_23 ?_
  refine lv_topi (fun x_16 ex_16 => ?_)
  refine lv_istore (lv' := [(5, .int x_16), (4, .int x_8), (0, .ref h0), (1, .int (nI k0)), (2, .int p1), (3, .int p2)]) hx hb dX2_narrow_26 hl (by decide) rfl (fun ls hl => ?_)
  refine lv_iload hx hb dX2_narrow_28 (lv_at hl 1 rfl) ?_
  refine lv_iload hx hb dX2_narrow_30 (lv_at hl 0 rfl) ?_
  refine lv_icmp_le (tgt := 37) hx hb dX2_narrow_32 (by decide) (fun h_17 => ?_) (fun h_17 => ?_)
  · refine lv_iconst (v := 0) hx hb dX2_narrow_37 (by decide) ?_
    refine lv_istore (lv' := [(6, .int 0), (5, .int x_16), (4, .int x_8), (0, .ref h0), (1, .int (nI k0)), (2, .int p1), (3, .int p2)]) hx hb dX2_narrow_38 hl (by decide) rfl (fun ls hl => ?_)
    have hl_40 : ∀ (fu : Nat) (i : Nat), 6 - i < fu → (i ≤ 6) → ∀ (f : Nat → va_E) (H : Heap) (locs : List Loc) (ls : Array Slot), PW dC dI cI cS cP cA L tg (fun t => t == 3) f0 s.heap f H locs → lv_has ls 7 [(6, .int (nI i)), (5, .int x_16), (4, .int x_8), (0, .ref h0), (1, .int (nI k0)), (2, .int p1), (3, .int p2)] → W p l e (headSpec wsX2_narrow ({ frames := 1, cells := 0, slots := 0, locals := 15 })).room s m [.ref h0, .int (nI k0), .int p1, .int p2].toArray below meth c H locs 0 0 Q (F0 m 40 ls []) := by
      intro fu
      induction fu with
      | zero => intro i hm9; exact absurd hm9 (Nat.not_lt_zero _)
      | succ fu ih_40 =>
        intro i hm_40 h_i f H locs ls hw hl
        refine lv_iload hx hb dX2_narrow_40 (lv_at hl 0 rfl) ?_
        refine lv_aload_n hx hb dX2_narrow_42 rfl (lv_at hl 3 rfl) ?_
        refine tp_get (ci := 1) (C := RX2) (T := TX2) (N := 14) hx hb hts hin_X2 hown hK hw hm_h0 4 ht_h0 (fun _ => rfl) rfl 3 (by decide) rfl (hts (.fieldLink RX2 49 "DayBench$Search" "events" "I") (by decide +kernel)) (fun _ h9 => h9) dX2_narrow_43 (fun v_18 hf_19 hv_20 => ?_)
        obtain ⟨k_21, ek_21, hk_k_21⟩ := hv_20
        subst ek_21
        clear hf_19
        refine lv_icmp_ge (tgt := 125) hx hb dX2_narrow_46 (by decide) (fun h_22 => ?_) (fun h_22 => ?_)
        · have nh_22 : k_21 ≤ i := (nI_leI (a := k_21) (b := i) (by omega) (by omega)).mp h_22
          refine lv_iconst (v := 1) hx hb dX2_narrow_125 (by decide) ?_
          subst hQ
          have hI9 := hw.2.1
          have hF9 := hw.2.2.1
          have hS9 := hw.2.2.2
          rw [hf0] at hF9
          exact W.zret (v := 1) hx hb hr rfl (fun t ht hW => ⟨⟨_, _, rfl, ⟨hI9, hF9, Or.inr rfl⟩, hw.at ht⟩, hS9.F ht⟩) hS9.2.2 dX2_narrow_126
        · have nh_22 : ¬ k_21 ≤ i := fun q9 => h_22 ((nI_leI (a := k_21) (b := i) (by omega) (by omega)).mpr q9)
          refine lv_aload_n hx hb dX2_narrow_49 rfl (lv_at hl 3 rfl) ?_
          refine tp_get (ci := 1) (C := RX2) (T := TX2) (N := 14) hx hb hts hin_X2 hown hK hw hm_h0 4 ht_h0 (fun _ => rfl) rfl 12 (by decide) rfl (hts (.fieldLink RX2 37 "DayBench$Search" "low" "[[I") (by decide +kernel)) (fun _ h9 => h9) dX2_narrow_50 (fun v_23 hf_24 hv_25 => ?_)
          obtain ⟨b_26, eb_26, hm_b_26, ht_b_26⟩ := hv_25
          subst eb_26
          refine lv_iload_n hx hb dX2_narrow_53 rfl (lv_at hl 4 rfl) ?_
          refine lv_iconst (v := 1) hx hb dX2_narrow_54 (by decide) ?_
          refine lv_iadd hx hb dX2_narrow_55 ?_
          refine lv_topi (fun x_27 ex_27 => ?_)
          have ex_27 : x_27 = nI (k0 + 1) := ex_27.trans (nI_1 _)
          subst ex_27
          refine tp_aald hx hb hK hw hm_b_26 12 ht_b_26 3 (n := 7) (t' := 3) (fun _ => rfl) rfl rfl (vp_in_nI (by omega) (by omega)) dX2_narrow_56 (fun b_28 hf_29 hm_b_28 ht_b_28 => ?_)
          clear hf_29
          refine lv_iload hx hb dX2_narrow_57 (lv_at hl 0 rfl) ?_
          refine lv_aload_n hx hb dX2_narrow_59 rfl (lv_at hl 3 rfl) ?_
          refine tp_getK (ci := 1) (C := RX2) (T := TX2) (N := 14) hx hb hts hin_X2 hown hK hw hm_h0 4 ht_h0 (fun _ => rfl) rfl 12 (by decide) hf_24 (hts (.fieldLink RX2 37 "DayBench$Search" "low" "[[I") (by decide +kernel)) (fun _ h9 => h9) dX2_narrow_60 ?_
          refine lv_iload_n hx hb dX2_narrow_63 rfl (lv_at hl 4 rfl) ?_
          refine tp_aald hx hb hK hw hm_b_26 12 ht_b_26 3 (n := 7) (t' := 3) (fun _ => rfl) rfl rfl (vp_in_nI (by omega) (by omega)) dX2_narrow_64 (fun b_30 hf_31 hm_b_30 ht_b_30 => ?_)
          clear hf_31
          refine lv_iload hx hb dX2_narrow_65 (lv_at hl 0 rfl) ?_
          refine tp_iald hx hb hK hw hm_b_30 3 ht_b_30 (n := 6) (fun _ => rfl) (vp_in_nI (by omega) (by omega)) dX2_narrow_67 (fun y_32 => ?_)
          refine lv_iload hx hb dX2_narrow_68 (lv_at hl 2 rfl) ?_
          refine lv_aload_n hx hb dX2_narrow_70 rfl (lv_at hl 3 rfl) ?_
          refine tp_get (ci := 1) (C := RX2) (T := TX2) (N := 14) hx hb hts hin_X2 hown hK hw hm_h0 4 ht_h0 (fun _ => rfl) rfl 11 (by decide) rfl (hts (.fieldLink RX2 34 "DayBench$Search" "apart" "[[I") (by decide +kernel)) (fun _ h9 => h9) dX2_narrow_71 (fun v_33 hf_34 hv_35 => ?_)
          obtain ⟨b_36, eb_36, hm_b_36, ht_b_36⟩ := hv_35
          subst eb_36
          refine lv_iload hx hb dX2_narrow_74 (lv_at hl 0 rfl) ?_
          refine tp_aald hx hb hK hw hm_b_36 11 ht_b_36 3 (n := 6) (t' := 3) (fun _ => rfl) rfl rfl (vp_in_nI (by omega) (by omega)) dX2_narrow_76 (fun b_37 hf_38 hm_b_37 ht_b_37 => ?_)
          clear hf_38
          refine lv_iload_n hx hb dX2_narrow_77 rfl (lv_at hl 4 rfl) ?_
          refine tp_iald hx hb hK hw hm_b_37 3 ht_b_37 (n := 6) (fun _ => rfl) (vp_in_nI (by omega) (by omega)) dX2_narrow_78 (fun y_39 => ?_)
          refine lv_isub hx hb dX2_narrow_79 ?_
          refine va_mmax (own := RX2) (x := y_32) (y := (x_8 - y_39)) hx hb (hml.trans hl.1.symm) hown (hts (.methodLink RX2 112 Lib.Math.max.name) (by decide +kernel)) (hts (.static Lib.Math.max.name) (by decide +kernel)) (hts (.initialized "java/lang/Math") (by decide +kernel)) (hts (.code Lib.Math.max.name Lib.Math.max.code 2 (some .int)) (by decide +kernel)) (Nat.le_of_ble_eq_true rfl) (Nat.le_of_ble_eq_true rfl) (Nat.le_of_ble_eq_true rfl) (Nat.le_of_ble_eq_true rfl) dX2_narrow_80 ?_
          refine tp_iast hx hb hN hK hw hm_b_28 3 ht_b_28 rfl (n := 6) (fun _ => rfl) (vp_in_nI (by omega) (by omega)) dX2_narrow_83 (fun H locs f hw ho_40 => ?_)
          have hf_24 : fld (f h0) 12 = some (.ref b_26) := by rw [ho_40 h0 (tne ht_h0 ht_b_28 (by decide))]; exact hf_24
          have hf_34 : fld (f h0) 11 = some (.ref b_36) := by rw [ho_40 h0 (tne ht_h0 ht_b_28 (by decide))]; exact hf_34
          clear ho_40
          refine lv_aload_n hx hb dX2_narrow_84 rfl (lv_at hl 3 rfl) ?_
          refine tp_get (ci := 1) (C := RX2) (T := TX2) (N := 14) hx hb hts hin_X2 hown hK hw hm_h0 4 ht_h0 (fun _ => rfl) rfl 13 (by decide) rfl (hts (.fieldLink RX2 40 "DayBench$Search" "high" "[[I") (by decide +kernel)) (fun _ h9 => h9) dX2_narrow_85 (fun v_41 hf_42 hv_43 => ?_)
          obtain ⟨b_44, eb_44, hm_b_44, ht_b_44⟩ := hv_43
          subst eb_44
          refine lv_iload_n hx hb dX2_narrow_88 rfl (lv_at hl 4 rfl) ?_
          refine lv_iconst (v := 1) hx hb dX2_narrow_89 (by decide) ?_
          refine lv_iadd hx hb dX2_narrow_90 ?_
          refine lv_topi (fun x_45 ex_45 => ?_)
          have ex_45 : x_45 = nI (k0 + 1) := ex_45.trans (nI_1 _)
          subst ex_45
          refine tp_aald hx hb hK hw hm_b_44 12 ht_b_44 3 (n := 7) (t' := 3) (fun _ => rfl) rfl rfl (vp_in_nI (by omega) (by omega)) dX2_narrow_91 (fun b_46 hf_47 hm_b_46 ht_b_46 => ?_)
          clear hf_47
          refine lv_iload hx hb dX2_narrow_92 (lv_at hl 0 rfl) ?_
          refine lv_aload_n hx hb dX2_narrow_94 rfl (lv_at hl 3 rfl) ?_
          refine tp_getK (ci := 1) (C := RX2) (T := TX2) (N := 14) hx hb hts hin_X2 hown hK hw hm_h0 4 ht_h0 (fun _ => rfl) rfl 13 (by decide) hf_42 (hts (.fieldLink RX2 40 "DayBench$Search" "high" "[[I") (by decide +kernel)) (fun _ h9 => h9) dX2_narrow_95 ?_
          refine lv_iload_n hx hb dX2_narrow_98 rfl (lv_at hl 4 rfl) ?_
          refine tp_aald hx hb hK hw hm_b_44 12 ht_b_44 3 (n := 7) (t' := 3) (fun _ => rfl) rfl rfl (vp_in_nI (by omega) (by omega)) dX2_narrow_99 (fun b_48 hf_49 hm_b_48 ht_b_48 => ?_)
          clear hf_49
          refine lv_iload hx hb dX2_narrow_100 (lv_at hl 0 rfl) ?_
          refine tp_iald hx hb hK hw hm_b_48 3 ht_b_48 (n := 6) (fun _ => rfl) (vp_in_nI (by omega) (by omega)) dX2_narrow_102 (fun y_50 => ?_)
          refine lv_iload hx hb dX2_narrow_103 (lv_at hl 1 rfl) ?_
          refine lv_aload_n hx hb dX2_narrow_105 rfl (lv_at hl 3 rfl) ?_
          refine tp_getK (ci := 1) (C := RX2) (T := TX2) (N := 14) hx hb hts hin_X2 hown hK hw hm_h0 4 ht_h0 (fun _ => rfl) rfl 11 (by decide) hf_34 (hts (.fieldLink RX2 34 "DayBench$Search" "apart" "[[I") (by decide +kernel)) (fun _ h9 => h9) dX2_narrow_106 ?_
          refine lv_iload_n hx hb dX2_narrow_109 rfl (lv_at hl 4 rfl) ?_
          refine tp_aald hx hb hK hw hm_b_36 11 ht_b_36 3 (n := 6) (t' := 3) (fun _ => rfl) rfl rfl (vp_in_nI (by omega) (by omega)) dX2_narrow_110 (fun b_51 hf_52 hm_b_51 ht_b_51 => ?_)
          clear hf_52
          refine lv_iload hx hb dX2_narrow_111 (lv_at hl 0 rfl) ?_
          refine tp_iald hx hb hK hw hm_b_51 3 ht_b_51 (n := 6) (fun _ => rfl) (vp_in_nI (by omega) (by omega)) dX2_narrow_113 (fun y_53 => ?_)
          refine lv_iadd hx hb dX2_narrow_114 ?_
          refine va_mmin (own := RX2) (x := y_50) (y := (x_16 + y_53)) hx hb (hml.trans hl.1.symm) hown (hts (.methodLink RX2 43 Lib.Math.min.name) (by decide +kernel)) (hts (.static Lib.Math.min.name) (by decide +kernel)) (hts (.initialized "java/lang/Math") (by decide +kernel)) (hts (.code Lib.Math.min.name Lib.Math.min.code 2 (some .int)) (by decide +kernel)) (Nat.le_of_ble_eq_true rfl) (Nat.le_of_ble_eq_true rfl) (Nat.le_of_ble_eq_true rfl) (Nat.le_of_ble_eq_true rfl) dX2_narrow_115 ?_
          refine tp_iast hx hb hN hK hw hm_b_46 3 ht_b_46 rfl (n := 6) (fun _ => rfl) (vp_in_nI (by omega) (by omega)) dX2_narrow_118 (fun H locs f hw ho_54 => ?_)
          have hf_24 : fld (f h0) 12 = some (.ref b_26) := by rw [ho_54 h0 (tne ht_h0 ht_b_46 (by decide))]; exact hf_24
          have hf_34 : fld (f h0) 11 = some (.ref b_36) := by rw [ho_54 h0 (tne ht_h0 ht_b_46 (by decide))]; exact hf_34
          have hf_42 : fld (f h0) 13 = some (.ref b_44) := by rw [ho_54 h0 (tne ht_h0 ht_b_46 (by decide))]; exact hf_42
          clear ho_54
          refine lv_iinc (v := nI (i + 1)) (lv' := [(6, .int (nI (i + 1))), (5, .int x_16), (4, .int x_8), (0, .ref h0), (1, .int (nI k0)), (2, .int p1), (3, .int p2)]) hx hb dX2_narrow_119 hl (k := 0) rfl (nI_1 _) (by decide) rfl (fun ls hl => ?_)
          refine lv_goto (tgt := 40) hx hb dX2_narrow_122 (by decide) ?_
          exact ih_40 ((i + 1)) (by omega) (by omega) _ _ _ ls hw (lv_sub hl [0, 1, 2, 3, 4, 5, 6] rfl)
    exact hl_40 _ 0 (Nat.lt_succ_self _) (by omega) _ _ _ ls hw (lv_sub hl [0, 1, 2, 3, 4, 5, 6] rfl)
  · refine lv_iconst (v := 0) hx hb dX2_narrow_35 (by decide) ?_
    subst hQ
    have hI9 := hw.2.1
    have hF9 := hw.2.2.1
    have hS9 := hw.2.2.2
    rw [hf0] at hF9
    exact W.zret (v := 0) hx hb hr rfl (fun t ht hW => ⟨⟨_, _, rfl, ⟨hI9, hF9, Or.inl rfl⟩, hw.at ht⟩, hS9.F ht⟩) hS9.2.2 dX2_narrow_36

set_option maxHeartbeats 4000000 in
set_option maxRecDepth 100000 in
theorem k_X2_takeSpans_6 (l : Launch) (dC : Nat → ClassId) (dI : Nat → Nat → Nat) (cI cS cP cA : ClassId) (L : List Nat) (tg : Nat → Nat) (f : Nat → va_E) (hN : L.Nodup) (hT : ∀ a : Nat, a ∈ L → tg a < 13) (hI : PI cI cS cP cA L tg f) (h0 : Nat) (hm_h0 : h0 ∈ L) (ht_h0 : tg h0 = 4) : Met l yX2_takeSpans wsX2_takeSpans ({ frames := 2, cells := 0, slots := 0, locals := 38 }) (va_Pc [.ref h0, .int 6] (tPre dC dI cI cS cP cA L f)) (va_Qv (fun (f' : Nat → va_E) => PI cI cS cP cA L tg f' ∧ Fr L tg (fun t => t == 3 || t == 4) f f') (fun (f' : Nat → va_E) t => va_P (dC, dI) vwCl (va_pl L f') t.heap) (fun q : Nat => q ∈ L)) 0 0 (fun q : Nat => q ∈ L) := by
  refine Met.ofW (cc := cX2_takeSpans) (maxL := 3) (ret := none) (by decide) rfl ?_
  intro p e s m args below meth c s₁ B hml hv
  obtain ⟨rfl, hP, hK, hcm⟩ := hv
  have hx := B.exec
  have hb := B.bytes
  have hr := B.returns
  have hts := atoms_spec (ws := wsX2_takeSpans) B.pre
  have hown : s.vm.findClass RX2 = some m.cls := findClass_of_methodNamed B.named
  have hlocks := B.notSynchronized
  have hin_X2 : ∀ w ∈ u_ws RX2 TX2 14, w ∈ wsX2_takeSpans := by decide +kernel
  have hl := lv_entry ([.ref h0, .int 6]) (n := 3) (Nat.le_of_ble_eq_true rfl)
  rw [lg_entry_eq]
  generalize (lg_sl ([.ref h0, .int 6]) ++ List.replicate (3 - (lg_sl ([.ref h0, .int 6])).length) Slot.unset).toArray = ls at hl ⊢
  have hl : lv_has ls 3 [(0, .ref h0), (1, .int 6)] := hl
  generalize hQ : MQ below (va_Qv (fun (f' : Nat → va_E) => PI cI cS cP cA L tg f' ∧ Fr L tg (fun t => t == 3 || t == 4) f f') (fun (f' : Nat → va_E) t => va_P (dC, dI) vwCl (va_pl L f') t.heap) (fun q : Nat => q ∈ L)) [.ref h0, .int 6].toArray s 0 0 (fun q : Nat => q ∈ L) = Q
  obtain ⟨f0, hf0⟩ : ∃ g : Nat → va_E, g = f := ⟨_, rfl⟩
  have hw : PW dC dI cI cS cP cA L tg (fun t => t == 3 || t == 4) f0 s.heap f s.heap [] := by rw [hf0]; exact PW.start hP hI
  clear hP
  refine lv_iload_n hx hb dX2_takeSpans_0 rfl (lv_at hl 1 rfl) ?_
  refine lv_aload_n hx hb dX2_takeSpans_1 rfl (lv_at hl 0 rfl) ?_
  refine tp_get (ci := 1) (C := RX2) (T := TX2) (N := 14) hx hb hts hin_X2 hown hK hw hm_h0 4 ht_h0 (fun _ => rfl) rfl 3 (by decide) rfl (hts (.fieldLink RX2 49 "DayBench$Search" "events" "I") (by decide +kernel)) (fun _ h9 => h9) dX2_takeSpans_2 (fun v_1 hf_2 hv_3 => ?_)
  obtain ⟨k_4, ek_4, hk_k_4⟩ := hv_3
  subst ek_4
  clear hf_2
  refine lv_icmp_lt (tgt := 13) hx hb dX2_takeSpans_5 (by decide) (fun h_5 => ?_) (fun h_5 => ?_)
  · exact absurd ((nI_ltI (a := 6) (b := k_4) (by omega) (by omega)).mp h_5) (by omega)
  · have nh_5 : ¬ 6 < k_4 := fun q9 => h_5 ((nI_ltI (a := 6) (b := k_4) (by omega) (by omega)).mpr q9)
    refine lv_aload_n hx hb dX2_takeSpans_8 rfl (lv_at hl 0 rfl) ?_
    refine va_callv (va_runV (As := []) (rest := []) ⟨hx, hb, hml, hown, hts⟩ (k_X2_noteWay l dC dI cI cS cP cA L tg f hN hT hw.2.1 h0 hm_h0 ht_h0) (cwV 0 hts gX2_takeSpans_X2_noteWay rfl rfl rfl (by decide +kernel) ⟨Nat.le_of_ble_eq_true rfl, Nat.le_of_ble_eq_true rfl⟩) ⟨tPre_blind, tp_recv hK hw hm_h0 4 ht_h0 (ci := 1) (fun _ => rfl) rfl, fun U hU hW => ⟨rfl, tPre_at hw hK hcm hU hW⟩⟩ rfl rfl hl.1 rfl (lv_room (Nat.le_of_ble_eq_true rfl)) dX2_takeSpans_9 ⟨Nat.le_of_ble_eq_true rfl, Nat.le_of_ble_eq_true rfl⟩) hw.2.2.2 (fun q _ h => h) (fun q h => h) (fun f t H locs ht hvm hp hB hz1 hk1 hS1 => ?_)
    obtain ⟨hI1, hF1⟩ := hp
    have hw := hw.back (S' := (fun t => t == 3 || t == 4)) (by decide) hT hI1 hF1 hB ht hS1
    clear hI1 hF1 hB ht hz1 hk1 hS1 hvm
    subst hQ
    have hI9 := hw.2.1
    have hF9 := hw.2.2.1
    have hS9 := hw.2.2.2
    rw [hf0] at hF9
    exact W.vret hx hb hr (fun t ht hW => ⟨⟨_, rfl, ⟨hI9, hF9⟩, hw.at ht⟩, hS9.F ht⟩) hS9.2.2 dX2_takeSpans_12

set_option maxHeartbeats 4000000 in
set_option maxRecDepth 100000 in
theorem k_X2_takeSpans_5 (l : Launch) (dC : Nat → ClassId) (dI : Nat → Nat → Nat) (cI cS cP cA : ClassId) (L : List Nat) (tg : Nat → Nat) (f : Nat → va_E) (hN : L.Nodup) (hT : ∀ a : Nat, a ∈ L → tg a < 13) (hI : PI cI cS cP cA L tg f) (h0 : Nat) (hm_h0 : h0 ∈ L) (ht_h0 : tg h0 = 4) : Met l yX2_takeSpans wsX2_takeSpans ({ frames := 3, cells := 0, slots := 0, locals := 60 }) (va_Pc [.ref h0, .int 5] (tPre dC dI cI cS cP cA L f)) (va_Qv (fun (f' : Nat → va_E) => PI cI cS cP cA L tg f' ∧ Fr L tg (fun t => t == 3 || t == 4) f f') (fun (f' : Nat → va_E) t => va_P (dC, dI) vwCl (va_pl L f') t.heap) (fun q : Nat => q ∈ L)) 0 0 (fun q : Nat => q ∈ L) := by
  refine Met.ofW (cc := cX2_takeSpans) (maxL := 3) (ret := none) (by decide) rfl ?_
  intro p e s m args below meth c s₁ B hml hv
  obtain ⟨rfl, hP, hK, hcm⟩ := hv
  have hx := B.exec
  have hb := B.bytes
  have hr := B.returns
  have hts := atoms_spec (ws := wsX2_takeSpans) B.pre
  have hown : s.vm.findClass RX2 = some m.cls := findClass_of_methodNamed B.named
  have hlocks := B.notSynchronized
  have hin_X2 : ∀ w ∈ u_ws RX2 TX2 14, w ∈ wsX2_takeSpans := by decide +kernel
  have hin_X4 : ∀ w ∈ u_ws RX4 TX4 3, w ∈ wsX2_takeSpans := by decide +kernel
  have hl := lv_entry ([.ref h0, .int 5]) (n := 3) (Nat.le_of_ble_eq_true rfl)
  rw [lg_entry_eq]
  generalize (lg_sl ([.ref h0, .int 5]) ++ List.replicate (3 - (lg_sl ([.ref h0, .int 5])).length) Slot.unset).toArray = ls at hl ⊢
  have hl : lv_has ls 3 [(0, .ref h0), (1, .int 5)] := hl
  generalize hQ : MQ below (va_Qv (fun (f' : Nat → va_E) => PI cI cS cP cA L tg f' ∧ Fr L tg (fun t => t == 3 || t == 4) f f') (fun (f' : Nat → va_E) t => va_P (dC, dI) vwCl (va_pl L f') t.heap) (fun q : Nat => q ∈ L)) [.ref h0, .int 5].toArray s 0 0 (fun q : Nat => q ∈ L) = Q
  obtain ⟨f0, hf0⟩ : ∃ g : Nat → va_E, g = f := ⟨_, rfl⟩
  have hw : PW dC dI cI cS cP cA L tg (fun t => t == 3 || t == 4) f0 s.heap f s.heap [] := by rw [hf0]; exact PW.start hP hI
  clear hP
  refine lv_iload_n hx hb dX2_takeSpans_0 rfl (lv_at hl 1 rfl) ?_
  refine lv_aload_n hx hb dX2_takeSpans_1 rfl (lv_at hl 0 rfl) ?_
  refine tp_get (ci := 1) (C := RX2) (T := TX2) (N := 14) hx hb hts hin_X2 hown hK hw hm_h0 4 ht_h0 (fun _ => rfl) rfl 3 (by decide) rfl (hts (.fieldLink RX2 49 "DayBench$Search" "events" "I") (by decide +kernel)) (fun _ h9 => h9) dX2_takeSpans_2 (fun v_1 hf_2 hv_3 => ?_)
  obtain ⟨k_4, ek_4, hk_k_4⟩ := hv_3
  subst ek_4
  clear hf_2
  refine lv_icmp_lt (tgt := 13) hx hb dX2_takeSpans_5 (by decide) (fun h_5 => ?_) (fun h_5 => ?_)
  · have nh_5 : 5 < k_4 := (nI_ltI (a := 5) (b := k_4) (by omega) (by omega)).mp h_5
    refine lv_iconst (v := 0) hx hb dX2_takeSpans_13 (by decide) ?_
    refine lv_istore_n (lv' := [(2, .int 0), (0, .ref h0), (1, .int 5)]) hx hb dX2_takeSpans_14 rfl hl (by decide) rfl (fun ls hl => ?_)
    have hl_15 : ∀ (fu : Nat) (i : Nat), 10 - i < fu → (i ≤ 10) → ∀ (f : Nat → va_E) (H : Heap) (locs : List Loc) (ls : Array Slot), PW dC dI cI cS cP cA L tg (fun t => t == 3 || t == 4) f0 s.heap f H locs → lv_has ls 3 [(2, .int (nI i)), (0, .ref h0), (1, .int 5)] → W p l e (headSpec wsX2_takeSpans ({ frames := 3, cells := 0, slots := 0, locals := 60 })).room s m [.ref h0, .int 5].toArray below meth c H locs 0 0 Q (F0 m 15 ls []) := by
      intro fu
      induction fu with
      | zero => intro i hm9; exact absurd hm9 (Nat.not_lt_zero _)
      | succ fu ih_15 =>
        intro i hm_15 h_i f H locs ls hw hl
        refine lv_iload_n hx hb dX2_takeSpans_15 rfl (lv_at hl 0 rfl) ?_
        refine lv_aload_n hx hb dX2_takeSpans_16 rfl (lv_at hl 1 rfl) ?_
        refine tp_get (ci := 1) (C := RX2) (T := TX2) (N := 14) hx hb hts hin_X2 hown hK hw hm_h0 4 ht_h0 (fun _ => rfl) rfl 8 (by decide) rfl (hts (.fieldLink RX2 20 "DayBench$Search" "spans" "[LDayBench$Spans;") (by decide +kernel)) (fun _ h9 => h9) dX2_takeSpans_17 (fun v_6 hf_7 hv_8 => ?_)
        obtain ⟨b_9, eb_9, hm_b_9, ht_b_9⟩ := hv_8
        subst eb_9
        refine lv_iload_n hx hb dX2_takeSpans_20 rfl (lv_at hl 2 rfl) ?_
        refine tp_aald hx hb hK hw hm_b_9 10 ht_b_9 2 (n := 6) (t' := 1) (fun _ => rfl) rfl rfl (by unfold vp_in; decide) dX2_takeSpans_21 (fun b_10 hf_11 hm_b_10 ht_b_10 => ?_)
        clear hf_11
        refine tp_get (ci := 3) (C := RX4) (T := TX4) (N := 3) hx hb hts hin_X4 hown hK hw hm_b_10 1 ht_b_10 (fun _ => rfl) rfl 2 (by decide) rfl (hts (.fieldLink RX2 128 "DayBench$Spans" "size" "I") (by decide +kernel)) (fun _ h9 => h9) dX2_takeSpans_22 (fun v_12 hf_13 hv_14 => ?_)
        obtain ⟨k_15, ek_15, hk_k_15⟩ := hv_14
        subst ek_15
        clear hf_13
        refine lv_icmp_ge (tgt := 126) hx hb dX2_takeSpans_25 (by decide) (fun h_16 => ?_) (fun h_16 => ?_)
        · have nh_16 : k_15 ≤ i := (nI_leI (a := k_15) (b := i) (by omega) (by omega)).mp h_16
          subst hQ
          have hI9 := hw.2.1
          have hF9 := hw.2.2.1
          have hS9 := hw.2.2.2
          rw [hf0] at hF9
          exact W.vret hx hb hr (fun t ht hW => ⟨⟨_, rfl, ⟨hI9, hF9⟩, hw.at ht⟩, hS9.F ht⟩) hS9.2.2 dX2_takeSpans_126
        · have nh_16 : ¬ k_15 ≤ i := fun q9 => h_16 ((nI_leI (a := k_15) (b := i) (by omega) (by omega)).mpr q9)
          refine lv_aload_n hx hb dX2_takeSpans_28 rfl (lv_at hl 1 rfl) ?_
          refine tp_get (ci := 1) (C := RX2) (T := TX2) (N := 14) hx hb hts hin_X2 hown hK hw hm_h0 4 ht_h0 (fun _ => rfl) rfl 2 (by decide) rfl (hts (.fieldLink RX2 53 "DayBench$Search" "looks" "I") (by decide +kernel)) (fun _ h9 => h9) dX2_takeSpans_29 (fun v_17 hf_18 hv_19 => ?_)
          obtain ⟨y_20, ey_20⟩ := hv_19
          subst ey_20
          clear hf_18
          refine lv_sipush (v := 20000) hx hb dX2_takeSpans_32 (by decide) ?_
          refine lv_icmp_lt (tgt := 44) hx hb dX2_takeSpans_35 (by decide) (fun h_21 => ?_) (fun h_21 => ?_)
          · refine lv_aload_n hx hb dX2_takeSpans_44 rfl (lv_at hl 1 rfl) ?_
            refine lv_dup hx hb dX2_takeSpans_45 rfl ?_
            refine tp_get (ci := 1) (C := RX2) (T := TX2) (N := 14) hx hb hts hin_X2 hown hK hw hm_h0 4 ht_h0 (fun _ => rfl) rfl 2 (by decide) rfl (hts (.fieldLink RX2 53 "DayBench$Search" "looks" "I") (by decide +kernel)) (fun _ h9 => h9) dX2_takeSpans_46 (fun v_22 hf_23 hv_24 => ?_)
            obtain ⟨y_25, ey_25⟩ := hv_24
            subst ey_25
            clear hf_23
            refine lv_iconst (v := 1) hx hb dX2_takeSpans_49 (by decide) ?_
            refine lv_iadd hx hb dX2_takeSpans_50 ?_
            refine lv_topi (fun x_26 ex_26 => ?_)
            refine tp_put (ci := 1) (C := RX2) (T := TX2) (N := 14) (v := .int x_26) (ty := .int) hx hb hts hin_X2 tyX2 tyX2_ok nmX2 hown hN hK hw hm_h0 4 ht_h0 rfl (fun _ => rfl) rfl 2 (by decide) rfl (hts (.fieldLink RX2 53 "DayBench$Search" "looks" "I") (by decide +kernel)) (fun _ h9 => h9) rfl (by decide +kernel) rfl rfl ⟨_, rfl⟩ dX2_takeSpans_51 (fun H locs f hw ho_27 hn_28 hs_29 => ?_)
            have hf_7 := (hs_29 8 (by decide)).trans hf_7
            clear ho_27 hs_29 hn_28
            refine lv_aload_n hx hb dX2_takeSpans_54 rfl (lv_at hl 1 rfl) ?_
            refine tp_get (ci := 1) (C := RX2) (T := TX2) (N := 14) hx hb hts hin_X2 hown hK hw hm_h0 4 ht_h0 (fun _ => rfl) rfl 7 (by decide) rfl (hts (.fieldLink RX2 85 "DayBench$Search" "together" "Z") (by decide +kernel)) (fun _ h9 => h9) dX2_takeSpans_55 (fun v_30 hf_31 hv_32 => ?_)
            obtain ⟨y_33, ey_33, hb_y_33⟩ := hv_32
            subst ey_33
            clear hf_31
            refine lv_if_eq (tgt := 98) hx hb dX2_takeSpans_58 (by decide) (fun h_34 => ?_) (fun h_34 => ?_)
            · refine lv_aload_n hx hb dX2_takeSpans_98 rfl (lv_at hl 1 rfl) ?_
              refine tp_get (ci := 1) (C := RX2) (T := TX2) (N := 14) hx hb hts hin_X2 hown hK hw hm_h0 4 ht_h0 (fun _ => rfl) rfl 4 (by decide) rfl (hts (.fieldLink RX2 56 "DayBench$Search" "spent" "Z") (by decide +kernel)) (fun _ h9 => h9) dX2_takeSpans_99 (fun v_35 hf_36 hv_37 => ?_)
              obtain ⟨y_38, ey_38, hb_y_38⟩ := hv_37
              subst ey_38
              clear hf_36
              refine lv_if_ne (tgt := 119) hx hb dX2_takeSpans_102 (by decide) (fun h_39 => ?_) (fun h_39 => ?_)
              · subst hQ
                have hI9 := hw.2.1
                have hF9 := hw.2.2.1
                have hS9 := hw.2.2.2
                rw [hf0] at hF9
                exact W.vret hx hb hr (fun t ht hW => ⟨⟨_, rfl, ⟨hI9, hF9⟩, hw.at ht⟩, hS9.F ht⟩) hS9.2.2 dX2_takeSpans_119
              · refine lv_aload_n hx hb dX2_takeSpans_105 rfl (lv_at hl 1 rfl) ?_
                refine tp_get (ci := 1) (C := RX2) (T := TX2) (N := 14) hx hb hts hin_X2 hown hK hw hm_h0 4 ht_h0 (fun _ => rfl) rfl 6 (by decide) rfl (hts (.fieldLink RX2 115 "DayBench$Search" "tillOne" "Z") (by decide +kernel)) (fun _ h9 => h9) dX2_takeSpans_106 (fun v_40 hf_41 hv_42 => ?_)
                obtain ⟨y_43, ey_43, hb_y_43⟩ := hv_42
                subst ey_43
                clear hf_41
                refine lv_if_eq (tgt := 120) hx hb dX2_takeSpans_109 (by decide) (fun h_44 => ?_) (fun h_44 => ?_)
                · refine lv_iinc (v := nI (i + 1)) (lv' := [(2, .int (nI (i + 1))), (0, .ref h0), (1, .int 5)]) hx hb dX2_takeSpans_120 hl (k := 0) rfl (nI_1 _) (by decide) rfl (fun ls hl => ?_)
                  refine lv_goto (tgt := 15) hx hb dX2_takeSpans_123 (by decide) ?_
                  exact ih_15 ((i + 1)) (by omega) (by omega) _ _ _ ls hw (lv_sub hl [0, 1, 2] rfl)
                · refine lv_aload_n hx hb dX2_takeSpans_112 rfl (lv_at hl 1 rfl) ?_
                  refine tp_get (ci := 1) (C := RX2) (T := TX2) (N := 14) hx hb hts hin_X2 hown hK hw hm_h0 4 ht_h0 (fun _ => rfl) rfl 5 (by decide) rfl (hts (.fieldLink RX2 118 "DayBench$Search" "found" "Z") (by decide +kernel)) (fun _ h9 => h9) dX2_takeSpans_113 (fun v_45 hf_46 hv_47 => ?_)
                  obtain ⟨y_48, ey_48, hb_y_48⟩ := hv_47
                  subst ey_48
                  clear hf_46
                  refine lv_if_eq (tgt := 120) hx hb dX2_takeSpans_116 (by decide) (fun h_49 => ?_) (fun h_49 => ?_)
                  · refine lv_iinc (v := nI (i + 1)) (lv' := [(2, .int (nI (i + 1))), (0, .ref h0), (1, .int 5)]) hx hb dX2_takeSpans_120 hl (k := 0) rfl (nI_1 _) (by decide) rfl (fun ls hl => ?_)
                    refine lv_goto (tgt := 15) hx hb dX2_takeSpans_123 (by decide) ?_
                    exact ih_15 ((i + 1)) (by omega) (by omega) _ _ _ ls hw (lv_sub hl [0, 1, 2] rfl)
                  · subst hQ
                    have hI9 := hw.2.1
                    have hF9 := hw.2.2.1
                    have hS9 := hw.2.2.2
                    rw [hf0] at hF9
                    exact W.vret hx hb hr (fun t ht hW => ⟨⟨_, rfl, ⟨hI9, hF9⟩, hw.at ht⟩, hS9.F ht⟩) hS9.2.2 dX2_takeSpans_119
            · refine lv_aload_n hx hb dX2_takeSpans_61 rfl (lv_at hl 1 rfl) ?_
              refine lv_iload_n hx hb dX2_takeSpans_62 rfl (lv_at hl 2 rfl) ?_
              refine lv_aload_n hx hb dX2_takeSpans_63 rfl (lv_at hl 1 rfl) ?_
              refine tp_getK (ci := 1) (C := RX2) (T := TX2) (N := 14) hx hb hts hin_X2 hown hK hw hm_h0 4 ht_h0 (fun _ => rfl) rfl 8 (by decide) hf_7 (hts (.fieldLink RX2 20 "DayBench$Search" "spans" "[LDayBench$Spans;") (by decide +kernel)) (fun _ h9 => h9) dX2_takeSpans_64 ?_
              refine lv_iload_n hx hb dX2_takeSpans_67 rfl (lv_at hl 2 rfl) ?_
              refine tp_aald hx hb hK hw hm_b_9 10 ht_b_9 2 (n := 6) (t' := 1) (fun _ => rfl) rfl rfl (by unfold vp_in; decide) dX2_takeSpans_68 (fun b_50 hf_51 hm_b_50 ht_b_50 => ?_)
              clear hf_51
              refine tp_get (ci := 3) (C := RX4) (T := TX4) (N := 3) hx hb hts hin_X4 hown hK hw hm_b_50 1 ht_b_50 (fun _ => rfl) rfl 0 (by decide) rfl (hts (.fieldLink RX2 131 "DayBench$Spans" "from" "[I") (by decide +kernel)) (fun _ h9 => h9) dX2_takeSpans_69 (fun v_52 hf_53 hv_54 => ?_)
              obtain ⟨b_55, eb_55, hm_b_55, ht_b_55⟩ := hv_54
              subst eb_55
              refine lv_iload_n hx hb dX2_takeSpans_72 rfl (lv_at hl 0 rfl) ?_
              refine tp_iald hx hb hK hw hm_b_55 2 ht_b_55 (n := 10) (fun _ => rfl) (vp_in_nI (by omega) (by omega)) dX2_takeSpans_73 (fun y_56 => ?_)
              refine lv_aload_n hx hb dX2_takeSpans_74 rfl (lv_at hl 1 rfl) ?_
              refine tp_getK (ci := 1) (C := RX2) (T := TX2) (N := 14) hx hb hts hin_X2 hown hK hw hm_h0 4 ht_h0 (fun _ => rfl) rfl 8 (by decide) hf_7 (hts (.fieldLink RX2 20 "DayBench$Search" "spans" "[LDayBench$Spans;") (by decide +kernel)) (fun _ h9 => h9) dX2_takeSpans_75 ?_
              refine lv_iload_n hx hb dX2_takeSpans_78 rfl (lv_at hl 2 rfl) ?_
              refine tp_aald hx hb hK hw hm_b_9 10 ht_b_9 2 (n := 6) (t' := 1) (fun _ => rfl) rfl rfl (by unfold vp_in; decide) dX2_takeSpans_79 (fun b_57 hf_58 hm_b_57 ht_b_57 => ?_)
              clear hf_58
              refine tp_get (ci := 3) (C := RX4) (T := TX4) (N := 3) hx hb hts hin_X4 hown hK hw hm_b_57 1 ht_b_57 (fun _ => rfl) rfl 1 (by decide) rfl (hts (.fieldLink RX2 134 "DayBench$Spans" "to" "[I") (by decide +kernel)) (fun _ h9 => h9) dX2_takeSpans_80 (fun v_59 hf_60 hv_61 => ?_)
              obtain ⟨b_62, eb_62, hm_b_62, ht_b_62⟩ := hv_61
              subst eb_62
              refine lv_iload_n hx hb dX2_takeSpans_83 rfl (lv_at hl 0 rfl) ?_
              refine tp_iald hx hb hK hw hm_b_62 2 ht_b_62 (n := 10) (fun _ => rfl) (vp_in_nI (by omega) (by omega)) dX2_takeSpans_84 (fun y_63 => ?_)
              refine va_calli (va_runV (As := [.int 5, .int y_56, .int y_63]) (rest := []) ⟨hx, hb, hml, hown, hts⟩ (k_X2_narrow l dC dI cI cS cP cA L tg f hN hT hw.2.1 h0 hm_h0 ht_h0 5 (by first | omega | decide) y_56 y_63) (cwV 3 hts gX2_takeSpans_X2_narrow rfl rfl rfl (by decide +kernel) ⟨Nat.le_of_ble_eq_true rfl, Nat.le_of_ble_eq_true rfl⟩) ⟨tPre_blind, tp_recv hK hw hm_h0 4 ht_h0 (ci := 1) (fun _ => rfl) rfl, fun U hU hW => ⟨rfl, tPre_at hw hK hcm hU hW⟩⟩ rfl rfl hl.1 rfl (lv_room (Nat.le_of_ble_eq_true rfl)) dX2_takeSpans_85 ⟨Nat.le_of_ble_eq_true rfl, Nat.le_of_ble_eq_true rfl⟩) hw.2.2.2 (fun q _ h => h) (fun q h => h) (fun r_64 f t H locs ht hvm hp hB hz1 hk1 hS1 => ?_)
              obtain ⟨hI1, hF1, hr_64⟩ := hp
              have hw := hw.back (S' := (fun t => t == 3)) (by decide) hT hI1 hF1 hB ht hS1
              have hf_7 : fld (f h0) 8 = some (.ref b_9) := by rw [hF1 h0 hm_h0 (by rw [ht_h0]; rfl)]; exact hf_7
              have hf_53 : fld (f b_50) 0 = some (.ref b_55) := by rw [hF1 b_50 hm_b_50 (by rw [ht_b_50]; rfl)]; exact hf_53
              have hf_60 : fld (f b_57) 1 = some (.ref b_62) := by rw [hF1 b_57 hm_b_57 (by rw [ht_b_57]; rfl)]; exact hf_60
              clear hI1 hF1 hB ht hz1 hk1 hS1 hvm
              refine lv_if_eq (tgt := 98) hx hb dX2_takeSpans_88 (by decide) (fun h_65 => ?_) (fun h_65 => ?_)
              · refine lv_aload_n hx hb dX2_takeSpans_98 rfl (lv_at hl 1 rfl) ?_
                refine tp_get (ci := 1) (C := RX2) (T := TX2) (N := 14) hx hb hts hin_X2 hown hK hw hm_h0 4 ht_h0 (fun _ => rfl) rfl 4 (by decide) rfl (hts (.fieldLink RX2 56 "DayBench$Search" "spent" "Z") (by decide +kernel)) (fun _ h9 => h9) dX2_takeSpans_99 (fun v_66 hf_67 hv_68 => ?_)
                obtain ⟨y_69, ey_69, hb_y_69⟩ := hv_68
                subst ey_69
                clear hf_67
                refine lv_if_ne (tgt := 119) hx hb dX2_takeSpans_102 (by decide) (fun h_70 => ?_) (fun h_70 => ?_)
                · subst hQ
                  have hI9 := hw.2.1
                  have hF9 := hw.2.2.1
                  have hS9 := hw.2.2.2
                  rw [hf0] at hF9
                  exact W.vret hx hb hr (fun t ht hW => ⟨⟨_, rfl, ⟨hI9, hF9⟩, hw.at ht⟩, hS9.F ht⟩) hS9.2.2 dX2_takeSpans_119
                · refine lv_aload_n hx hb dX2_takeSpans_105 rfl (lv_at hl 1 rfl) ?_
                  refine tp_get (ci := 1) (C := RX2) (T := TX2) (N := 14) hx hb hts hin_X2 hown hK hw hm_h0 4 ht_h0 (fun _ => rfl) rfl 6 (by decide) rfl (hts (.fieldLink RX2 115 "DayBench$Search" "tillOne" "Z") (by decide +kernel)) (fun _ h9 => h9) dX2_takeSpans_106 (fun v_71 hf_72 hv_73 => ?_)
                  obtain ⟨y_74, ey_74, hb_y_74⟩ := hv_73
                  subst ey_74
                  clear hf_72
                  refine lv_if_eq (tgt := 120) hx hb dX2_takeSpans_109 (by decide) (fun h_75 => ?_) (fun h_75 => ?_)
                  · refine lv_iinc (v := nI (i + 1)) (lv' := [(2, .int (nI (i + 1))), (0, .ref h0), (1, .int 5)]) hx hb dX2_takeSpans_120 hl (k := 0) rfl (nI_1 _) (by decide) rfl (fun ls hl => ?_)
                    refine lv_goto (tgt := 15) hx hb dX2_takeSpans_123 (by decide) ?_
                    exact ih_15 ((i + 1)) (by omega) (by omega) _ _ _ ls hw (lv_sub hl [0, 1, 2] rfl)
                  · refine lv_aload_n hx hb dX2_takeSpans_112 rfl (lv_at hl 1 rfl) ?_
                    refine tp_get (ci := 1) (C := RX2) (T := TX2) (N := 14) hx hb hts hin_X2 hown hK hw hm_h0 4 ht_h0 (fun _ => rfl) rfl 5 (by decide) rfl (hts (.fieldLink RX2 118 "DayBench$Search" "found" "Z") (by decide +kernel)) (fun _ h9 => h9) dX2_takeSpans_113 (fun v_76 hf_77 hv_78 => ?_)
                    obtain ⟨y_79, ey_79, hb_y_79⟩ := hv_78
                    subst ey_79
                    clear hf_77
                    refine lv_if_eq (tgt := 120) hx hb dX2_takeSpans_116 (by decide) (fun h_80 => ?_) (fun h_80 => ?_)
                    · refine lv_iinc (v := nI (i + 1)) (lv' := [(2, .int (nI (i + 1))), (0, .ref h0), (1, .int 5)]) hx hb dX2_takeSpans_120 hl (k := 0) rfl (nI_1 _) (by decide) rfl (fun ls hl => ?_)
                      refine lv_goto (tgt := 15) hx hb dX2_takeSpans_123 (by decide) ?_
                      exact ih_15 ((i + 1)) (by omega) (by omega) _ _ _ ls hw (lv_sub hl [0, 1, 2] rfl)
                    · subst hQ
                      have hI9 := hw.2.1
                      have hF9 := hw.2.2.1
                      have hS9 := hw.2.2.2
                      rw [hf0] at hF9
                      exact W.vret hx hb hr (fun t ht hW => ⟨⟨_, rfl, ⟨hI9, hF9⟩, hw.at ht⟩, hS9.F ht⟩) hS9.2.2 dX2_takeSpans_119
              · refine lv_aload_n hx hb dX2_takeSpans_91 rfl (lv_at hl 1 rfl) ?_
                refine lv_iload_n hx hb dX2_takeSpans_92 rfl (lv_at hl 2 rfl) ?_
                refine lv_iconst (v := 1) hx hb dX2_takeSpans_93 (by decide) ?_
                refine lv_iadd hx hb dX2_takeSpans_94 ?_
                refine lv_topi (fun x_81 ex_81 => ?_)
                have ex_81 : x_81 = 6 := ex_81.trans (by decide)
                subst ex_81
                refine va_callv (va_runV (As := [.int 6]) (rest := []) ⟨hx, hb, hml, hown, hts⟩ (k_X2_takeSpans_6 l dC dI cI cS cP cA L tg f hN hT hw.2.1 h0 hm_h0 ht_h0) (cwV 1 hts gX2_takeSpans_X2_takeSpans rfl rfl rfl (by decide +kernel) ⟨Nat.le_of_ble_eq_true rfl, Nat.le_of_ble_eq_true rfl⟩) ⟨tPre_blind, tp_recv hK hw hm_h0 4 ht_h0 (ci := 1) (fun _ => rfl) rfl, fun U hU hW => ⟨rfl, tPre_at hw hK hcm hU hW⟩⟩ rfl rfl hl.1 rfl (lv_room (Nat.le_of_ble_eq_true rfl)) dX2_takeSpans_95 ⟨Nat.le_of_ble_eq_true rfl, Nat.le_of_ble_eq_true rfl⟩) hw.2.2.2 (fun q _ h => h) (fun q h => h) (fun f t H locs ht hvm hp hB hz1 hk1 hS1 => ?_)
                obtain ⟨hI1, hF1⟩ := hp
                have hw := hw.back (S' := (fun t => t == 3 || t == 4)) (by decide) hT hI1 hF1 hB ht hS1
                have hf_53 : fld (f b_50) 0 = some (.ref b_55) := by rw [hF1 b_50 hm_b_50 (by rw [ht_b_50]; rfl)]; exact hf_53
                have hf_60 : fld (f b_57) 1 = some (.ref b_62) := by rw [hF1 b_57 hm_b_57 (by rw [ht_b_57]; rfl)]; exact hf_60
                clear hI1 hF1 hB ht hz1 hk1 hS1 hvm
                refine lv_aload_n hx hb dX2_takeSpans_98 rfl (lv_at hl 1 rfl) ?_
                refine tp_get (ci := 1) (C := RX2) (T := TX2) (N := 14) hx hb hts hin_X2 hown hK hw hm_h0 4 ht_h0 (fun _ => rfl) rfl 4 (by decide) rfl (hts (.fieldLink RX2 56 "DayBench$Search" "spent" "Z") (by decide +kernel)) (fun _ h9 => h9) dX2_takeSpans_99 (fun v_83 hf_84 hv_85 => ?_)
                obtain ⟨y_86, ey_86, hb_y_86⟩ := hv_85
                subst ey_86
                clear hf_84
                refine lv_if_ne (tgt := 119) hx hb dX2_takeSpans_102 (by decide) (fun h_87 => ?_) (fun h_87 => ?_)
                · subst hQ
                  have hI9 := hw.2.1
                  have hF9 := hw.2.2.1
                  have hS9 := hw.2.2.2
                  rw [hf0] at hF9
                  exact W.vret hx hb hr (fun t ht hW => ⟨⟨_, rfl, ⟨hI9, hF9⟩, hw.at ht⟩, hS9.F ht⟩) hS9.2.2 dX2_takeSpans_119
                · refine lv_aload_n hx hb dX2_takeSpans_105 rfl (lv_at hl 1 rfl) ?_
                  refine tp_get (ci := 1) (C := RX2) (T := TX2) (N := 14) hx hb hts hin_X2 hown hK hw hm_h0 4 ht_h0 (fun _ => rfl) rfl 6 (by decide) rfl (hts (.fieldLink RX2 115 "DayBench$Search" "tillOne" "Z") (by decide +kernel)) (fun _ h9 => h9) dX2_takeSpans_106 (fun v_88 hf_89 hv_90 => ?_)
                  obtain ⟨y_91, ey_91, hb_y_91⟩ := hv_90
                  subst ey_91
                  clear hf_89
                  refine lv_if_eq (tgt := 120) hx hb dX2_takeSpans_109 (by decide) (fun h_92 => ?_) (fun h_92 => ?_)
                  · refine lv_iinc (v := nI (i + 1)) (lv' := [(2, .int (nI (i + 1))), (0, .ref h0), (1, .int 5)]) hx hb dX2_takeSpans_120 hl (k := 0) rfl (nI_1 _) (by decide) rfl (fun ls hl => ?_)
                    refine lv_goto (tgt := 15) hx hb dX2_takeSpans_123 (by decide) ?_
                    exact ih_15 ((i + 1)) (by omega) (by omega) _ _ _ ls hw (lv_sub hl [0, 1, 2] rfl)
                  · refine lv_aload_n hx hb dX2_takeSpans_112 rfl (lv_at hl 1 rfl) ?_
                    refine tp_get (ci := 1) (C := RX2) (T := TX2) (N := 14) hx hb hts hin_X2 hown hK hw hm_h0 4 ht_h0 (fun _ => rfl) rfl 5 (by decide) rfl (hts (.fieldLink RX2 118 "DayBench$Search" "found" "Z") (by decide +kernel)) (fun _ h9 => h9) dX2_takeSpans_113 (fun v_93 hf_94 hv_95 => ?_)
                    obtain ⟨y_96, ey_96, hb_y_96⟩ := hv_95
                    subst ey_96
                    clear hf_94
                    refine lv_if_eq (tgt := 120) hx hb dX2_takeSpans_116 (by decide) (fun h_97 => ?_) (fun h_97 => ?_)
                    · refine lv_iinc (v := nI (i + 1)) (lv' := [(2, .int (nI (i + 1))), (0, .ref h0), (1, .int 5)]) hx hb dX2_takeSpans_120 hl (k := 0) rfl (nI_1 _) (by decide) rfl (fun ls hl => ?_)
                      refine lv_goto (tgt := 15) hx hb dX2_takeSpans_123 (by decide) ?_
                      exact ih_15 ((i + 1)) (by omega) (by omega) _ _ _ ls hw (lv_sub hl [0, 1, 2] rfl)
                    · subst hQ
                      have hI9 := hw.2.1
                      have hF9 := hw.2.2.1
                      have hS9 := hw.2.2.2
                      rw [hf0] at hF9
                      exact W.vret hx hb hr (fun t ht hW => ⟨⟨_, rfl, ⟨hI9, hF9⟩, hw.at ht⟩, hS9.F ht⟩) hS9.2.2 dX2_takeSpans_119
          · refine lv_aload_n hx hb dX2_takeSpans_38 rfl (lv_at hl 1 rfl) ?_
            refine lv_iconst (v := 1) hx hb dX2_takeSpans_39 (by decide) ?_
            refine tp_put (ci := 1) (C := RX2) (T := TX2) (N := 14) (v := .int 1) (ty := .boolean) hx hb hts hin_X2 tyX2 tyX2_ok nmX2 hown hN hK hw hm_h0 4 ht_h0 rfl (fun _ => rfl) rfl 4 (by decide) rfl (hts (.fieldLink RX2 56 "DayBench$Search" "spent" "Z") (by decide +kernel)) (fun _ h9 => h9) rfl (by decide +kernel) rfl rfl ⟨_, rfl, Or.inr rfl⟩ dX2_takeSpans_40 (fun H locs f hw ho_98 hn_99 hs_100 => ?_)
            have hf_7 := (hs_100 8 (by decide)).trans hf_7
            clear ho_98 hs_100 hn_99
            subst hQ
            have hI9 := hw.2.1
            have hF9 := hw.2.2.1
            have hS9 := hw.2.2.2
            rw [hf0] at hF9
            exact W.vret hx hb hr (fun t ht hW => ⟨⟨_, rfl, ⟨hI9, hF9⟩, hw.at ht⟩, hS9.F ht⟩) hS9.2.2 dX2_takeSpans_43
    exact hl_15 _ 0 (Nat.lt_succ_self _) (by omega) _ _ _ ls hw (lv_sub hl [0, 1, 2] rfl)
  · have nh_5 : ¬ 5 < k_4 := fun q9 => h_5 ((nI_ltI (a := 5) (b := k_4) (by omega) (by omega)).mpr q9)
    refine lv_aload_n hx hb dX2_takeSpans_8 rfl (lv_at hl 0 rfl) ?_
    refine va_callv (va_runV (As := []) (rest := []) ⟨hx, hb, hml, hown, hts⟩ (k_X2_noteWay l dC dI cI cS cP cA L tg f hN hT hw.2.1 h0 hm_h0 ht_h0) (cwV 0 hts gX2_takeSpans_X2_noteWay rfl rfl rfl (by decide +kernel) ⟨Nat.le_of_ble_eq_true rfl, Nat.le_of_ble_eq_true rfl⟩) ⟨tPre_blind, tp_recv hK hw hm_h0 4 ht_h0 (ci := 1) (fun _ => rfl) rfl, fun U hU hW => ⟨rfl, tPre_at hw hK hcm hU hW⟩⟩ rfl rfl hl.1 rfl (lv_room (Nat.le_of_ble_eq_true rfl)) dX2_takeSpans_9 ⟨Nat.le_of_ble_eq_true rfl, Nat.le_of_ble_eq_true rfl⟩) hw.2.2.2 (fun q _ h => h) (fun q h => h) (fun f t H locs ht hvm hp hB hz1 hk1 hS1 => ?_)
    obtain ⟨hI1, hF1⟩ := hp
    have hw := hw.back (S' := (fun t => t == 3 || t == 4)) (by decide) hT hI1 hF1 hB ht hS1
    clear hI1 hF1 hB ht hz1 hk1 hS1 hvm
    subst hQ
    have hI9 := hw.2.1
    have hF9 := hw.2.2.1
    have hS9 := hw.2.2.2
    rw [hf0] at hF9
    exact W.vret hx hb hr (fun t ht hW => ⟨⟨_, rfl, ⟨hI9, hF9⟩, hw.at ht⟩, hS9.F ht⟩) hS9.2.2 dX2_takeSpans_12

set_option maxHeartbeats 4000000 in
set_option maxRecDepth 100000 in
theorem k_X2_takeSpans_4 (l : Launch) (dC : Nat → ClassId) (dI : Nat → Nat → Nat) (cI cS cP cA : ClassId) (L : List Nat) (tg : Nat → Nat) (f : Nat → va_E) (hN : L.Nodup) (hT : ∀ a : Nat, a ∈ L → tg a < 13) (hI : PI cI cS cP cA L tg f) (h0 : Nat) (hm_h0 : h0 ∈ L) (ht_h0 : tg h0 = 4) : Met l yX2_takeSpans wsX2_takeSpans ({ frames := 4, cells := 0, slots := 0, locals := 82 }) (va_Pc [.ref h0, .int 4] (tPre dC dI cI cS cP cA L f)) (va_Qv (fun (f' : Nat → va_E) => PI cI cS cP cA L tg f' ∧ Fr L tg (fun t => t == 3 || t == 4) f f') (fun (f' : Nat → va_E) t => va_P (dC, dI) vwCl (va_pl L f') t.heap) (fun q : Nat => q ∈ L)) 0 0 (fun q : Nat => q ∈ L) := by
  refine Met.ofW (cc := cX2_takeSpans) (maxL := 3) (ret := none) (by decide) rfl ?_
  intro p e s m args below meth c s₁ B hml hv
  obtain ⟨rfl, hP, hK, hcm⟩ := hv
  have hx := B.exec
  have hb := B.bytes
  have hr := B.returns
  have hts := atoms_spec (ws := wsX2_takeSpans) B.pre
  have hown : s.vm.findClass RX2 = some m.cls := findClass_of_methodNamed B.named
  have hlocks := B.notSynchronized
  have hin_X2 : ∀ w ∈ u_ws RX2 TX2 14, w ∈ wsX2_takeSpans := by decide +kernel
  have hin_X4 : ∀ w ∈ u_ws RX4 TX4 3, w ∈ wsX2_takeSpans := by decide +kernel
  have hl := lv_entry ([.ref h0, .int 4]) (n := 3) (Nat.le_of_ble_eq_true rfl)
  rw [lg_entry_eq]
  generalize (lg_sl ([.ref h0, .int 4]) ++ List.replicate (3 - (lg_sl ([.ref h0, .int 4])).length) Slot.unset).toArray = ls at hl ⊢
  have hl : lv_has ls 3 [(0, .ref h0), (1, .int 4)] := hl
  generalize hQ : MQ below (va_Qv (fun (f' : Nat → va_E) => PI cI cS cP cA L tg f' ∧ Fr L tg (fun t => t == 3 || t == 4) f f') (fun (f' : Nat → va_E) t => va_P (dC, dI) vwCl (va_pl L f') t.heap) (fun q : Nat => q ∈ L)) [.ref h0, .int 4].toArray s 0 0 (fun q : Nat => q ∈ L) = Q
  obtain ⟨f0, hf0⟩ : ∃ g : Nat → va_E, g = f := ⟨_, rfl⟩
  have hw : PW dC dI cI cS cP cA L tg (fun t => t == 3 || t == 4) f0 s.heap f s.heap [] := by rw [hf0]; exact PW.start hP hI
  clear hP
  refine lv_iload_n hx hb dX2_takeSpans_0 rfl (lv_at hl 1 rfl) ?_
  refine lv_aload_n hx hb dX2_takeSpans_1 rfl (lv_at hl 0 rfl) ?_
  refine tp_get (ci := 1) (C := RX2) (T := TX2) (N := 14) hx hb hts hin_X2 hown hK hw hm_h0 4 ht_h0 (fun _ => rfl) rfl 3 (by decide) rfl (hts (.fieldLink RX2 49 "DayBench$Search" "events" "I") (by decide +kernel)) (fun _ h9 => h9) dX2_takeSpans_2 (fun v_1 hf_2 hv_3 => ?_)
  obtain ⟨k_4, ek_4, hk_k_4⟩ := hv_3
  subst ek_4
  clear hf_2
  refine lv_icmp_lt (tgt := 13) hx hb dX2_takeSpans_5 (by decide) (fun h_5 => ?_) (fun h_5 => ?_)
  · have nh_5 : 4 < k_4 := (nI_ltI (a := 4) (b := k_4) (by omega) (by omega)).mp h_5
    refine lv_iconst (v := 0) hx hb dX2_takeSpans_13 (by decide) ?_
    refine lv_istore_n (lv' := [(2, .int 0), (0, .ref h0), (1, .int 4)]) hx hb dX2_takeSpans_14 rfl hl (by decide) rfl (fun ls hl => ?_)
    have hl_15 : ∀ (fu : Nat) (i : Nat), 10 - i < fu → (i ≤ 10) → ∀ (f : Nat → va_E) (H : Heap) (locs : List Loc) (ls : Array Slot), PW dC dI cI cS cP cA L tg (fun t => t == 3 || t == 4) f0 s.heap f H locs → lv_has ls 3 [(2, .int (nI i)), (0, .ref h0), (1, .int 4)] → W p l e (headSpec wsX2_takeSpans ({ frames := 4, cells := 0, slots := 0, locals := 82 })).room s m [.ref h0, .int 4].toArray below meth c H locs 0 0 Q (F0 m 15 ls []) := by
      intro fu
      induction fu with
      | zero => intro i hm9; exact absurd hm9 (Nat.not_lt_zero _)
      | succ fu ih_15 =>
        intro i hm_15 h_i f H locs ls hw hl
        refine lv_iload_n hx hb dX2_takeSpans_15 rfl (lv_at hl 0 rfl) ?_
        refine lv_aload_n hx hb dX2_takeSpans_16 rfl (lv_at hl 1 rfl) ?_
        refine tp_get (ci := 1) (C := RX2) (T := TX2) (N := 14) hx hb hts hin_X2 hown hK hw hm_h0 4 ht_h0 (fun _ => rfl) rfl 8 (by decide) rfl (hts (.fieldLink RX2 20 "DayBench$Search" "spans" "[LDayBench$Spans;") (by decide +kernel)) (fun _ h9 => h9) dX2_takeSpans_17 (fun v_6 hf_7 hv_8 => ?_)
        obtain ⟨b_9, eb_9, hm_b_9, ht_b_9⟩ := hv_8
        subst eb_9
        refine lv_iload_n hx hb dX2_takeSpans_20 rfl (lv_at hl 2 rfl) ?_
        refine tp_aald hx hb hK hw hm_b_9 10 ht_b_9 2 (n := 6) (t' := 1) (fun _ => rfl) rfl rfl (by unfold vp_in; decide) dX2_takeSpans_21 (fun b_10 hf_11 hm_b_10 ht_b_10 => ?_)
        clear hf_11
        refine tp_get (ci := 3) (C := RX4) (T := TX4) (N := 3) hx hb hts hin_X4 hown hK hw hm_b_10 1 ht_b_10 (fun _ => rfl) rfl 2 (by decide) rfl (hts (.fieldLink RX2 128 "DayBench$Spans" "size" "I") (by decide +kernel)) (fun _ h9 => h9) dX2_takeSpans_22 (fun v_12 hf_13 hv_14 => ?_)
        obtain ⟨k_15, ek_15, hk_k_15⟩ := hv_14
        subst ek_15
        clear hf_13
        refine lv_icmp_ge (tgt := 126) hx hb dX2_takeSpans_25 (by decide) (fun h_16 => ?_) (fun h_16 => ?_)
        · have nh_16 : k_15 ≤ i := (nI_leI (a := k_15) (b := i) (by omega) (by omega)).mp h_16
          subst hQ
          have hI9 := hw.2.1
          have hF9 := hw.2.2.1
          have hS9 := hw.2.2.2
          rw [hf0] at hF9
          exact W.vret hx hb hr (fun t ht hW => ⟨⟨_, rfl, ⟨hI9, hF9⟩, hw.at ht⟩, hS9.F ht⟩) hS9.2.2 dX2_takeSpans_126
        · have nh_16 : ¬ k_15 ≤ i := fun q9 => h_16 ((nI_leI (a := k_15) (b := i) (by omega) (by omega)).mpr q9)
          refine lv_aload_n hx hb dX2_takeSpans_28 rfl (lv_at hl 1 rfl) ?_
          refine tp_get (ci := 1) (C := RX2) (T := TX2) (N := 14) hx hb hts hin_X2 hown hK hw hm_h0 4 ht_h0 (fun _ => rfl) rfl 2 (by decide) rfl (hts (.fieldLink RX2 53 "DayBench$Search" "looks" "I") (by decide +kernel)) (fun _ h9 => h9) dX2_takeSpans_29 (fun v_17 hf_18 hv_19 => ?_)
          obtain ⟨y_20, ey_20⟩ := hv_19
          subst ey_20
          clear hf_18
          refine lv_sipush (v := 20000) hx hb dX2_takeSpans_32 (by decide) ?_
          refine lv_icmp_lt (tgt := 44) hx hb dX2_takeSpans_35 (by decide) (fun h_21 => ?_) (fun h_21 => ?_)
          · refine lv_aload_n hx hb dX2_takeSpans_44 rfl (lv_at hl 1 rfl) ?_
            refine lv_dup hx hb dX2_takeSpans_45 rfl ?_
            refine tp_get (ci := 1) (C := RX2) (T := TX2) (N := 14) hx hb hts hin_X2 hown hK hw hm_h0 4 ht_h0 (fun _ => rfl) rfl 2 (by decide) rfl (hts (.fieldLink RX2 53 "DayBench$Search" "looks" "I") (by decide +kernel)) (fun _ h9 => h9) dX2_takeSpans_46 (fun v_22 hf_23 hv_24 => ?_)
            obtain ⟨y_25, ey_25⟩ := hv_24
            subst ey_25
            clear hf_23
            refine lv_iconst (v := 1) hx hb dX2_takeSpans_49 (by decide) ?_
            refine lv_iadd hx hb dX2_takeSpans_50 ?_
            refine lv_topi (fun x_26 ex_26 => ?_)
            refine tp_put (ci := 1) (C := RX2) (T := TX2) (N := 14) (v := .int x_26) (ty := .int) hx hb hts hin_X2 tyX2 tyX2_ok nmX2 hown hN hK hw hm_h0 4 ht_h0 rfl (fun _ => rfl) rfl 2 (by decide) rfl (hts (.fieldLink RX2 53 "DayBench$Search" "looks" "I") (by decide +kernel)) (fun _ h9 => h9) rfl (by decide +kernel) rfl rfl ⟨_, rfl⟩ dX2_takeSpans_51 (fun H locs f hw ho_27 hn_28 hs_29 => ?_)
            have hf_7 := (hs_29 8 (by decide)).trans hf_7
            clear ho_27 hs_29 hn_28
            refine lv_aload_n hx hb dX2_takeSpans_54 rfl (lv_at hl 1 rfl) ?_
            refine tp_get (ci := 1) (C := RX2) (T := TX2) (N := 14) hx hb hts hin_X2 hown hK hw hm_h0 4 ht_h0 (fun _ => rfl) rfl 7 (by decide) rfl (hts (.fieldLink RX2 85 "DayBench$Search" "together" "Z") (by decide +kernel)) (fun _ h9 => h9) dX2_takeSpans_55 (fun v_30 hf_31 hv_32 => ?_)
            obtain ⟨y_33, ey_33, hb_y_33⟩ := hv_32
            subst ey_33
            clear hf_31
            refine lv_if_eq (tgt := 98) hx hb dX2_takeSpans_58 (by decide) (fun h_34 => ?_) (fun h_34 => ?_)
            · refine lv_aload_n hx hb dX2_takeSpans_98 rfl (lv_at hl 1 rfl) ?_
              refine tp_get (ci := 1) (C := RX2) (T := TX2) (N := 14) hx hb hts hin_X2 hown hK hw hm_h0 4 ht_h0 (fun _ => rfl) rfl 4 (by decide) rfl (hts (.fieldLink RX2 56 "DayBench$Search" "spent" "Z") (by decide +kernel)) (fun _ h9 => h9) dX2_takeSpans_99 (fun v_35 hf_36 hv_37 => ?_)
              obtain ⟨y_38, ey_38, hb_y_38⟩ := hv_37
              subst ey_38
              clear hf_36
              refine lv_if_ne (tgt := 119) hx hb dX2_takeSpans_102 (by decide) (fun h_39 => ?_) (fun h_39 => ?_)
              · subst hQ
                have hI9 := hw.2.1
                have hF9 := hw.2.2.1
                have hS9 := hw.2.2.2
                rw [hf0] at hF9
                exact W.vret hx hb hr (fun t ht hW => ⟨⟨_, rfl, ⟨hI9, hF9⟩, hw.at ht⟩, hS9.F ht⟩) hS9.2.2 dX2_takeSpans_119
              · refine lv_aload_n hx hb dX2_takeSpans_105 rfl (lv_at hl 1 rfl) ?_
                refine tp_get (ci := 1) (C := RX2) (T := TX2) (N := 14) hx hb hts hin_X2 hown hK hw hm_h0 4 ht_h0 (fun _ => rfl) rfl 6 (by decide) rfl (hts (.fieldLink RX2 115 "DayBench$Search" "tillOne" "Z") (by decide +kernel)) (fun _ h9 => h9) dX2_takeSpans_106 (fun v_40 hf_41 hv_42 => ?_)
                obtain ⟨y_43, ey_43, hb_y_43⟩ := hv_42
                subst ey_43
                clear hf_41
                refine lv_if_eq (tgt := 120) hx hb dX2_takeSpans_109 (by decide) (fun h_44 => ?_) (fun h_44 => ?_)
                · refine lv_iinc (v := nI (i + 1)) (lv' := [(2, .int (nI (i + 1))), (0, .ref h0), (1, .int 4)]) hx hb dX2_takeSpans_120 hl (k := 0) rfl (nI_1 _) (by decide) rfl (fun ls hl => ?_)
                  refine lv_goto (tgt := 15) hx hb dX2_takeSpans_123 (by decide) ?_
                  exact ih_15 ((i + 1)) (by omega) (by omega) _ _ _ ls hw (lv_sub hl [0, 1, 2] rfl)
                · refine lv_aload_n hx hb dX2_takeSpans_112 rfl (lv_at hl 1 rfl) ?_
                  refine tp_get (ci := 1) (C := RX2) (T := TX2) (N := 14) hx hb hts hin_X2 hown hK hw hm_h0 4 ht_h0 (fun _ => rfl) rfl 5 (by decide) rfl (hts (.fieldLink RX2 118 "DayBench$Search" "found" "Z") (by decide +kernel)) (fun _ h9 => h9) dX2_takeSpans_113 (fun v_45 hf_46 hv_47 => ?_)
                  obtain ⟨y_48, ey_48, hb_y_48⟩ := hv_47
                  subst ey_48
                  clear hf_46
                  refine lv_if_eq (tgt := 120) hx hb dX2_takeSpans_116 (by decide) (fun h_49 => ?_) (fun h_49 => ?_)
                  · refine lv_iinc (v := nI (i + 1)) (lv' := [(2, .int (nI (i + 1))), (0, .ref h0), (1, .int 4)]) hx hb dX2_takeSpans_120 hl (k := 0) rfl (nI_1 _) (by decide) rfl (fun ls hl => ?_)
                    refine lv_goto (tgt := 15) hx hb dX2_takeSpans_123 (by decide) ?_
                    exact ih_15 ((i + 1)) (by omega) (by omega) _ _ _ ls hw (lv_sub hl [0, 1, 2] rfl)
                  · subst hQ
                    have hI9 := hw.2.1
                    have hF9 := hw.2.2.1
                    have hS9 := hw.2.2.2
                    rw [hf0] at hF9
                    exact W.vret hx hb hr (fun t ht hW => ⟨⟨_, rfl, ⟨hI9, hF9⟩, hw.at ht⟩, hS9.F ht⟩) hS9.2.2 dX2_takeSpans_119
            · refine lv_aload_n hx hb dX2_takeSpans_61 rfl (lv_at hl 1 rfl) ?_
              refine lv_iload_n hx hb dX2_takeSpans_62 rfl (lv_at hl 2 rfl) ?_
              refine lv_aload_n hx hb dX2_takeSpans_63 rfl (lv_at hl 1 rfl) ?_
              refine tp_getK (ci := 1) (C := RX2) (T := TX2) (N := 14) hx hb hts hin_X2 hown hK hw hm_h0 4 ht_h0 (fun _ => rfl) rfl 8 (by decide) hf_7 (hts (.fieldLink RX2 20 "DayBench$Search" "spans" "[LDayBench$Spans;") (by decide +kernel)) (fun _ h9 => h9) dX2_takeSpans_64 ?_
              refine lv_iload_n hx hb dX2_takeSpans_67 rfl (lv_at hl 2 rfl) ?_
              refine tp_aald hx hb hK hw hm_b_9 10 ht_b_9 2 (n := 6) (t' := 1) (fun _ => rfl) rfl rfl (by unfold vp_in; decide) dX2_takeSpans_68 (fun b_50 hf_51 hm_b_50 ht_b_50 => ?_)
              clear hf_51
              refine tp_get (ci := 3) (C := RX4) (T := TX4) (N := 3) hx hb hts hin_X4 hown hK hw hm_b_50 1 ht_b_50 (fun _ => rfl) rfl 0 (by decide) rfl (hts (.fieldLink RX2 131 "DayBench$Spans" "from" "[I") (by decide +kernel)) (fun _ h9 => h9) dX2_takeSpans_69 (fun v_52 hf_53 hv_54 => ?_)
              obtain ⟨b_55, eb_55, hm_b_55, ht_b_55⟩ := hv_54
              subst eb_55
              refine lv_iload_n hx hb dX2_takeSpans_72 rfl (lv_at hl 0 rfl) ?_
              refine tp_iald hx hb hK hw hm_b_55 2 ht_b_55 (n := 10) (fun _ => rfl) (vp_in_nI (by omega) (by omega)) dX2_takeSpans_73 (fun y_56 => ?_)
              refine lv_aload_n hx hb dX2_takeSpans_74 rfl (lv_at hl 1 rfl) ?_
              refine tp_getK (ci := 1) (C := RX2) (T := TX2) (N := 14) hx hb hts hin_X2 hown hK hw hm_h0 4 ht_h0 (fun _ => rfl) rfl 8 (by decide) hf_7 (hts (.fieldLink RX2 20 "DayBench$Search" "spans" "[LDayBench$Spans;") (by decide +kernel)) (fun _ h9 => h9) dX2_takeSpans_75 ?_
              refine lv_iload_n hx hb dX2_takeSpans_78 rfl (lv_at hl 2 rfl) ?_
              refine tp_aald hx hb hK hw hm_b_9 10 ht_b_9 2 (n := 6) (t' := 1) (fun _ => rfl) rfl rfl (by unfold vp_in; decide) dX2_takeSpans_79 (fun b_57 hf_58 hm_b_57 ht_b_57 => ?_)
              clear hf_58
              refine tp_get (ci := 3) (C := RX4) (T := TX4) (N := 3) hx hb hts hin_X4 hown hK hw hm_b_57 1 ht_b_57 (fun _ => rfl) rfl 1 (by decide) rfl (hts (.fieldLink RX2 134 "DayBench$Spans" "to" "[I") (by decide +kernel)) (fun _ h9 => h9) dX2_takeSpans_80 (fun v_59 hf_60 hv_61 => ?_)
              obtain ⟨b_62, eb_62, hm_b_62, ht_b_62⟩ := hv_61
              subst eb_62
              refine lv_iload_n hx hb dX2_takeSpans_83 rfl (lv_at hl 0 rfl) ?_
              refine tp_iald hx hb hK hw hm_b_62 2 ht_b_62 (n := 10) (fun _ => rfl) (vp_in_nI (by omega) (by omega)) dX2_takeSpans_84 (fun y_63 => ?_)
              refine va_calli (va_runV (As := [.int 4, .int y_56, .int y_63]) (rest := []) ⟨hx, hb, hml, hown, hts⟩ (k_X2_narrow l dC dI cI cS cP cA L tg f hN hT hw.2.1 h0 hm_h0 ht_h0 4 (by first | omega | decide) y_56 y_63) (cwV 3 hts gX2_takeSpans_X2_narrow rfl rfl rfl (by decide +kernel) ⟨Nat.le_of_ble_eq_true rfl, Nat.le_of_ble_eq_true rfl⟩) ⟨tPre_blind, tp_recv hK hw hm_h0 4 ht_h0 (ci := 1) (fun _ => rfl) rfl, fun U hU hW => ⟨rfl, tPre_at hw hK hcm hU hW⟩⟩ rfl rfl hl.1 rfl (lv_room (Nat.le_of_ble_eq_true rfl)) dX2_takeSpans_85 ⟨Nat.le_of_ble_eq_true rfl, Nat.le_of_ble_eq_true rfl⟩) hw.2.2.2 (fun q _ h => h) (fun q h => h) (fun r_64 f t H locs ht hvm hp hB hz1 hk1 hS1 => ?_)
              obtain ⟨hI1, hF1, hr_64⟩ := hp
              have hw := hw.back (S' := (fun t => t == 3)) (by decide) hT hI1 hF1 hB ht hS1
              have hf_7 : fld (f h0) 8 = some (.ref b_9) := by rw [hF1 h0 hm_h0 (by rw [ht_h0]; rfl)]; exact hf_7
              have hf_53 : fld (f b_50) 0 = some (.ref b_55) := by rw [hF1 b_50 hm_b_50 (by rw [ht_b_50]; rfl)]; exact hf_53
              have hf_60 : fld (f b_57) 1 = some (.ref b_62) := by rw [hF1 b_57 hm_b_57 (by rw [ht_b_57]; rfl)]; exact hf_60
              clear hI1 hF1 hB ht hz1 hk1 hS1 hvm
              refine lv_if_eq (tgt := 98) hx hb dX2_takeSpans_88 (by decide) (fun h_65 => ?_) (fun h_65 => ?_)
              · refine lv_aload_n hx hb dX2_takeSpans_98 rfl (lv_at hl 1 rfl) ?_
                refine tp_get (ci := 1) (C := RX2) (T := TX2) (N := 14) hx hb hts hin_X2 hown hK hw hm_h0 4 ht_h0 (fun _ => rfl) rfl 4 (by decide) rfl (hts (.fieldLink RX2 56 "DayBench$Search" "spent" "Z") (by decide +kernel)) (fun _ h9 => h9) dX2_takeSpans_99 (fun v_66 hf_67 hv_68 => ?_)
                obtain ⟨y_69, ey_69, hb_y_69⟩ := hv_68
                subst ey_69
                clear hf_67
                refine lv_if_ne (tgt := 119) hx hb dX2_takeSpans_102 (by decide) (fun h_70 => ?_) (fun h_70 => ?_)
                · subst hQ
                  have hI9 := hw.2.1
                  have hF9 := hw.2.2.1
                  have hS9 := hw.2.2.2
                  rw [hf0] at hF9
                  exact W.vret hx hb hr (fun t ht hW => ⟨⟨_, rfl, ⟨hI9, hF9⟩, hw.at ht⟩, hS9.F ht⟩) hS9.2.2 dX2_takeSpans_119
                · refine lv_aload_n hx hb dX2_takeSpans_105 rfl (lv_at hl 1 rfl) ?_
                  refine tp_get (ci := 1) (C := RX2) (T := TX2) (N := 14) hx hb hts hin_X2 hown hK hw hm_h0 4 ht_h0 (fun _ => rfl) rfl 6 (by decide) rfl (hts (.fieldLink RX2 115 "DayBench$Search" "tillOne" "Z") (by decide +kernel)) (fun _ h9 => h9) dX2_takeSpans_106 (fun v_71 hf_72 hv_73 => ?_)
                  obtain ⟨y_74, ey_74, hb_y_74⟩ := hv_73
                  subst ey_74
                  clear hf_72
                  refine lv_if_eq (tgt := 120) hx hb dX2_takeSpans_109 (by decide) (fun h_75 => ?_) (fun h_75 => ?_)
                  · refine lv_iinc (v := nI (i + 1)) (lv' := [(2, .int (nI (i + 1))), (0, .ref h0), (1, .int 4)]) hx hb dX2_takeSpans_120 hl (k := 0) rfl (nI_1 _) (by decide) rfl (fun ls hl => ?_)
                    refine lv_goto (tgt := 15) hx hb dX2_takeSpans_123 (by decide) ?_
                    exact ih_15 ((i + 1)) (by omega) (by omega) _ _ _ ls hw (lv_sub hl [0, 1, 2] rfl)
                  · refine lv_aload_n hx hb dX2_takeSpans_112 rfl (lv_at hl 1 rfl) ?_
                    refine tp_get (ci := 1) (C := RX2) (T := TX2) (N := 14) hx hb hts hin_X2 hown hK hw hm_h0 4 ht_h0 (fun _ => rfl) rfl 5 (by decide) rfl (hts (.fieldLink RX2 118 "DayBench$Search" "found" "Z") (by decide +kernel)) (fun _ h9 => h9) dX2_takeSpans_113 (fun v_76 hf_77 hv_78 => ?_)
                    obtain ⟨y_79, ey_79, hb_y_79⟩ := hv_78
                    subst ey_79
                    clear hf_77
                    refine lv_if_eq (tgt := 120) hx hb dX2_takeSpans_116 (by decide) (fun h_80 => ?_) (fun h_80 => ?_)
                    · refine lv_iinc (v := nI (i + 1)) (lv' := [(2, .int (nI (i + 1))), (0, .ref h0), (1, .int 4)]) hx hb dX2_takeSpans_120 hl (k := 0) rfl (nI_1 _) (by decide) rfl (fun ls hl => ?_)
                      refine lv_goto (tgt := 15) hx hb dX2_takeSpans_123 (by decide) ?_
                      exact ih_15 ((i + 1)) (by omega) (by omega) _ _ _ ls hw (lv_sub hl [0, 1, 2] rfl)
                    · subst hQ
                      have hI9 := hw.2.1
                      have hF9 := hw.2.2.1
                      have hS9 := hw.2.2.2
                      rw [hf0] at hF9
                      exact W.vret hx hb hr (fun t ht hW => ⟨⟨_, rfl, ⟨hI9, hF9⟩, hw.at ht⟩, hS9.F ht⟩) hS9.2.2 dX2_takeSpans_119
              · refine lv_aload_n hx hb dX2_takeSpans_91 rfl (lv_at hl 1 rfl) ?_
                refine lv_iload_n hx hb dX2_takeSpans_92 rfl (lv_at hl 2 rfl) ?_
                refine lv_iconst (v := 1) hx hb dX2_takeSpans_93 (by decide) ?_
                refine lv_iadd hx hb dX2_takeSpans_94 ?_
                refine lv_topi (fun x_81 ex_81 => ?_)
                have ex_81 : x_81 = 5 := ex_81.trans (by decide)
                subst ex_81
                refine va_callv (va_runV (As := [.int 5]) (rest := []) ⟨hx, hb, hml, hown, hts⟩ (k_X2_takeSpans_5 l dC dI cI cS cP cA L tg f hN hT hw.2.1 h0 hm_h0 ht_h0) (cwV 1 hts gX2_takeSpans_X2_takeSpans rfl rfl rfl (by decide +kernel) ⟨Nat.le_of_ble_eq_true rfl, Nat.le_of_ble_eq_true rfl⟩) ⟨tPre_blind, tp_recv hK hw hm_h0 4 ht_h0 (ci := 1) (fun _ => rfl) rfl, fun U hU hW => ⟨rfl, tPre_at hw hK hcm hU hW⟩⟩ rfl rfl hl.1 rfl (lv_room (Nat.le_of_ble_eq_true rfl)) dX2_takeSpans_95 ⟨Nat.le_of_ble_eq_true rfl, Nat.le_of_ble_eq_true rfl⟩) hw.2.2.2 (fun q _ h => h) (fun q h => h) (fun f t H locs ht hvm hp hB hz1 hk1 hS1 => ?_)
                obtain ⟨hI1, hF1⟩ := hp
                have hw := hw.back (S' := (fun t => t == 3 || t == 4)) (by decide) hT hI1 hF1 hB ht hS1
                have hf_53 : fld (f b_50) 0 = some (.ref b_55) := by rw [hF1 b_50 hm_b_50 (by rw [ht_b_50]; rfl)]; exact hf_53
                have hf_60 : fld (f b_57) 1 = some (.ref b_62) := by rw [hF1 b_57 hm_b_57 (by rw [ht_b_57]; rfl)]; exact hf_60
                clear hI1 hF1 hB ht hz1 hk1 hS1 hvm
                refine lv_aload_n hx hb dX2_takeSpans_98 rfl (lv_at hl 1 rfl) ?_
                refine tp_get (ci := 1) (C := RX2) (T := TX2) (N := 14) hx hb hts hin_X2 hown hK hw hm_h0 4 ht_h0 (fun _ => rfl) rfl 4 (by decide) rfl (hts (.fieldLink RX2 56 "DayBench$Search" "spent" "Z") (by decide +kernel)) (fun _ h9 => h9) dX2_takeSpans_99 (fun v_83 hf_84 hv_85 => ?_)
                obtain ⟨y_86, ey_86, hb_y_86⟩ := hv_85
                subst ey_86
                clear hf_84
                refine lv_if_ne (tgt := 119) hx hb dX2_takeSpans_102 (by decide) (fun h_87 => ?_) (fun h_87 => ?_)
                · subst hQ
                  have hI9 := hw.2.1
                  have hF9 := hw.2.2.1
                  have hS9 := hw.2.2.2
                  rw [hf0] at hF9
                  exact W.vret hx hb hr (fun t ht hW => ⟨⟨_, rfl, ⟨hI9, hF9⟩, hw.at ht⟩, hS9.F ht⟩) hS9.2.2 dX2_takeSpans_119
                · refine lv_aload_n hx hb dX2_takeSpans_105 rfl (lv_at hl 1 rfl) ?_
                  refine tp_get (ci := 1) (C := RX2) (T := TX2) (N := 14) hx hb hts hin_X2 hown hK hw hm_h0 4 ht_h0 (fun _ => rfl) rfl 6 (by decide) rfl (hts (.fieldLink RX2 115 "DayBench$Search" "tillOne" "Z") (by decide +kernel)) (fun _ h9 => h9) dX2_takeSpans_106 (fun v_88 hf_89 hv_90 => ?_)
                  obtain ⟨y_91, ey_91, hb_y_91⟩ := hv_90
                  subst ey_91
                  clear hf_89
                  refine lv_if_eq (tgt := 120) hx hb dX2_takeSpans_109 (by decide) (fun h_92 => ?_) (fun h_92 => ?_)
                  · refine lv_iinc (v := nI (i + 1)) (lv' := [(2, .int (nI (i + 1))), (0, .ref h0), (1, .int 4)]) hx hb dX2_takeSpans_120 hl (k := 0) rfl (nI_1 _) (by decide) rfl (fun ls hl => ?_)
                    refine lv_goto (tgt := 15) hx hb dX2_takeSpans_123 (by decide) ?_
                    exact ih_15 ((i + 1)) (by omega) (by omega) _ _ _ ls hw (lv_sub hl [0, 1, 2] rfl)
                  · refine lv_aload_n hx hb dX2_takeSpans_112 rfl (lv_at hl 1 rfl) ?_
                    refine tp_get (ci := 1) (C := RX2) (T := TX2) (N := 14) hx hb hts hin_X2 hown hK hw hm_h0 4 ht_h0 (fun _ => rfl) rfl 5 (by decide) rfl (hts (.fieldLink RX2 118 "DayBench$Search" "found" "Z") (by decide +kernel)) (fun _ h9 => h9) dX2_takeSpans_113 (fun v_93 hf_94 hv_95 => ?_)
                    obtain ⟨y_96, ey_96, hb_y_96⟩ := hv_95
                    subst ey_96
                    clear hf_94
                    refine lv_if_eq (tgt := 120) hx hb dX2_takeSpans_116 (by decide) (fun h_97 => ?_) (fun h_97 => ?_)
                    · refine lv_iinc (v := nI (i + 1)) (lv' := [(2, .int (nI (i + 1))), (0, .ref h0), (1, .int 4)]) hx hb dX2_takeSpans_120 hl (k := 0) rfl (nI_1 _) (by decide) rfl (fun ls hl => ?_)
                      refine lv_goto (tgt := 15) hx hb dX2_takeSpans_123 (by decide) ?_
                      exact ih_15 ((i + 1)) (by omega) (by omega) _ _ _ ls hw (lv_sub hl [0, 1, 2] rfl)
                    · subst hQ
                      have hI9 := hw.2.1
                      have hF9 := hw.2.2.1
                      have hS9 := hw.2.2.2
                      rw [hf0] at hF9
                      exact W.vret hx hb hr (fun t ht hW => ⟨⟨_, rfl, ⟨hI9, hF9⟩, hw.at ht⟩, hS9.F ht⟩) hS9.2.2 dX2_takeSpans_119
          · refine lv_aload_n hx hb dX2_takeSpans_38 rfl (lv_at hl 1 rfl) ?_
            refine lv_iconst (v := 1) hx hb dX2_takeSpans_39 (by decide) ?_
            refine tp_put (ci := 1) (C := RX2) (T := TX2) (N := 14) (v := .int 1) (ty := .boolean) hx hb hts hin_X2 tyX2 tyX2_ok nmX2 hown hN hK hw hm_h0 4 ht_h0 rfl (fun _ => rfl) rfl 4 (by decide) rfl (hts (.fieldLink RX2 56 "DayBench$Search" "spent" "Z") (by decide +kernel)) (fun _ h9 => h9) rfl (by decide +kernel) rfl rfl ⟨_, rfl, Or.inr rfl⟩ dX2_takeSpans_40 (fun H locs f hw ho_98 hn_99 hs_100 => ?_)
            have hf_7 := (hs_100 8 (by decide)).trans hf_7
            clear ho_98 hs_100 hn_99
            subst hQ
            have hI9 := hw.2.1
            have hF9 := hw.2.2.1
            have hS9 := hw.2.2.2
            rw [hf0] at hF9
            exact W.vret hx hb hr (fun t ht hW => ⟨⟨_, rfl, ⟨hI9, hF9⟩, hw.at ht⟩, hS9.F ht⟩) hS9.2.2 dX2_takeSpans_43
    exact hl_15 _ 0 (Nat.lt_succ_self _) (by omega) _ _ _ ls hw (lv_sub hl [0, 1, 2] rfl)
  · have nh_5 : ¬ 4 < k_4 := fun q9 => h_5 ((nI_ltI (a := 4) (b := k_4) (by omega) (by omega)).mpr q9)
    refine lv_aload_n hx hb dX2_takeSpans_8 rfl (lv_at hl 0 rfl) ?_
    refine va_callv (va_runV (As := []) (rest := []) ⟨hx, hb, hml, hown, hts⟩ (k_X2_noteWay l dC dI cI cS cP cA L tg f hN hT hw.2.1 h0 hm_h0 ht_h0) (cwV 0 hts gX2_takeSpans_X2_noteWay rfl rfl rfl (by decide +kernel) ⟨Nat.le_of_ble_eq_true rfl, Nat.le_of_ble_eq_true rfl⟩) ⟨tPre_blind, tp_recv hK hw hm_h0 4 ht_h0 (ci := 1) (fun _ => rfl) rfl, fun U hU hW => ⟨rfl, tPre_at hw hK hcm hU hW⟩⟩ rfl rfl hl.1 rfl (lv_room (Nat.le_of_ble_eq_true rfl)) dX2_takeSpans_9 ⟨Nat.le_of_ble_eq_true rfl, Nat.le_of_ble_eq_true rfl⟩) hw.2.2.2 (fun q _ h => h) (fun q h => h) (fun f t H locs ht hvm hp hB hz1 hk1 hS1 => ?_)
    obtain ⟨hI1, hF1⟩ := hp
    have hw := hw.back (S' := (fun t => t == 3 || t == 4)) (by decide) hT hI1 hF1 hB ht hS1
    clear hI1 hF1 hB ht hz1 hk1 hS1 hvm
    subst hQ
    have hI9 := hw.2.1
    have hF9 := hw.2.2.1
    have hS9 := hw.2.2.2
    rw [hf0] at hF9
    exact W.vret hx hb hr (fun t ht hW => ⟨⟨_, rfl, ⟨hI9, hF9⟩, hw.at ht⟩, hS9.F ht⟩) hS9.2.2 dX2_takeSpans_12

set_option maxHeartbeats 4000000 in
set_option maxRecDepth 100000 in
theorem k_X2_takeSpans_3 (l : Launch) (dC : Nat → ClassId) (dI : Nat → Nat → Nat) (cI cS cP cA : ClassId) (L : List Nat) (tg : Nat → Nat) (f : Nat → va_E) (hN : L.Nodup) (hT : ∀ a : Nat, a ∈ L → tg a < 13) (hI : PI cI cS cP cA L tg f) (h0 : Nat) (hm_h0 : h0 ∈ L) (ht_h0 : tg h0 = 4) : Met l yX2_takeSpans wsX2_takeSpans ({ frames := 5, cells := 0, slots := 0, locals := 104 }) (va_Pc [.ref h0, .int 3] (tPre dC dI cI cS cP cA L f)) (va_Qv (fun (f' : Nat → va_E) => PI cI cS cP cA L tg f' ∧ Fr L tg (fun t => t == 3 || t == 4) f f') (fun (f' : Nat → va_E) t => va_P (dC, dI) vwCl (va_pl L f') t.heap) (fun q : Nat => q ∈ L)) 0 0 (fun q : Nat => q ∈ L) := by
  refine Met.ofW (cc := cX2_takeSpans) (maxL := 3) (ret := none) (by decide) rfl ?_
  intro p e s m args below meth c s₁ B hml hv
  obtain ⟨rfl, hP, hK, hcm⟩ := hv
  have hx := B.exec
  have hb := B.bytes
  have hr := B.returns
  have hts := atoms_spec (ws := wsX2_takeSpans) B.pre
  have hown : s.vm.findClass RX2 = some m.cls := findClass_of_methodNamed B.named
  have hlocks := B.notSynchronized
  have hin_X2 : ∀ w ∈ u_ws RX2 TX2 14, w ∈ wsX2_takeSpans := by decide +kernel
  have hin_X4 : ∀ w ∈ u_ws RX4 TX4 3, w ∈ wsX2_takeSpans := by decide +kernel
  have hl := lv_entry ([.ref h0, .int 3]) (n := 3) (Nat.le_of_ble_eq_true rfl)
  rw [lg_entry_eq]
  generalize (lg_sl ([.ref h0, .int 3]) ++ List.replicate (3 - (lg_sl ([.ref h0, .int 3])).length) Slot.unset).toArray = ls at hl ⊢
  have hl : lv_has ls 3 [(0, .ref h0), (1, .int 3)] := hl
  generalize hQ : MQ below (va_Qv (fun (f' : Nat → va_E) => PI cI cS cP cA L tg f' ∧ Fr L tg (fun t => t == 3 || t == 4) f f') (fun (f' : Nat → va_E) t => va_P (dC, dI) vwCl (va_pl L f') t.heap) (fun q : Nat => q ∈ L)) [.ref h0, .int 3].toArray s 0 0 (fun q : Nat => q ∈ L) = Q
  obtain ⟨f0, hf0⟩ : ∃ g : Nat → va_E, g = f := ⟨_, rfl⟩
  have hw : PW dC dI cI cS cP cA L tg (fun t => t == 3 || t == 4) f0 s.heap f s.heap [] := by rw [hf0]; exact PW.start hP hI
  clear hP
  refine lv_iload_n hx hb dX2_takeSpans_0 rfl (lv_at hl 1 rfl) ?_
  refine lv_aload_n hx hb dX2_takeSpans_1 rfl (lv_at hl 0 rfl) ?_
  refine tp_get (ci := 1) (C := RX2) (T := TX2) (N := 14) hx hb hts hin_X2 hown hK hw hm_h0 4 ht_h0 (fun _ => rfl) rfl 3 (by decide) rfl (hts (.fieldLink RX2 49 "DayBench$Search" "events" "I") (by decide +kernel)) (fun _ h9 => h9) dX2_takeSpans_2 (fun v_1 hf_2 hv_3 => ?_)
  obtain ⟨k_4, ek_4, hk_k_4⟩ := hv_3
  subst ek_4
  clear hf_2
  refine lv_icmp_lt (tgt := 13) hx hb dX2_takeSpans_5 (by decide) (fun h_5 => ?_) (fun h_5 => ?_)
  · have nh_5 : 3 < k_4 := (nI_ltI (a := 3) (b := k_4) (by omega) (by omega)).mp h_5
    refine lv_iconst (v := 0) hx hb dX2_takeSpans_13 (by decide) ?_
    refine lv_istore_n (lv' := [(2, .int 0), (0, .ref h0), (1, .int 3)]) hx hb dX2_takeSpans_14 rfl hl (by decide) rfl (fun ls hl => ?_)
    have hl_15 : ∀ (fu : Nat) (i : Nat), 10 - i < fu → (i ≤ 10) → ∀ (f : Nat → va_E) (H : Heap) (locs : List Loc) (ls : Array Slot), PW dC dI cI cS cP cA L tg (fun t => t == 3 || t == 4) f0 s.heap f H locs → lv_has ls 3 [(2, .int (nI i)), (0, .ref h0), (1, .int 3)] → W p l e (headSpec wsX2_takeSpans ({ frames := 5, cells := 0, slots := 0, locals := 104 })).room s m [.ref h0, .int 3].toArray below meth c H locs 0 0 Q (F0 m 15 ls []) := by
      intro fu
      induction fu with
      | zero => intro i hm9; exact absurd hm9 (Nat.not_lt_zero _)
      | succ fu ih_15 =>
        intro i hm_15 h_i f H locs ls hw hl
        refine lv_iload_n hx hb dX2_takeSpans_15 rfl (lv_at hl 0 rfl) ?_
        refine lv_aload_n hx hb dX2_takeSpans_16 rfl (lv_at hl 1 rfl) ?_
        refine tp_get (ci := 1) (C := RX2) (T := TX2) (N := 14) hx hb hts hin_X2 hown hK hw hm_h0 4 ht_h0 (fun _ => rfl) rfl 8 (by decide) rfl (hts (.fieldLink RX2 20 "DayBench$Search" "spans" "[LDayBench$Spans;") (by decide +kernel)) (fun _ h9 => h9) dX2_takeSpans_17 (fun v_6 hf_7 hv_8 => ?_)
        obtain ⟨b_9, eb_9, hm_b_9, ht_b_9⟩ := hv_8
        subst eb_9
        refine lv_iload_n hx hb dX2_takeSpans_20 rfl (lv_at hl 2 rfl) ?_
        refine tp_aald hx hb hK hw hm_b_9 10 ht_b_9 2 (n := 6) (t' := 1) (fun _ => rfl) rfl rfl (by unfold vp_in; decide) dX2_takeSpans_21 (fun b_10 hf_11 hm_b_10 ht_b_10 => ?_)
        clear hf_11
        refine tp_get (ci := 3) (C := RX4) (T := TX4) (N := 3) hx hb hts hin_X4 hown hK hw hm_b_10 1 ht_b_10 (fun _ => rfl) rfl 2 (by decide) rfl (hts (.fieldLink RX2 128 "DayBench$Spans" "size" "I") (by decide +kernel)) (fun _ h9 => h9) dX2_takeSpans_22 (fun v_12 hf_13 hv_14 => ?_)
        obtain ⟨k_15, ek_15, hk_k_15⟩ := hv_14
        subst ek_15
        clear hf_13
        refine lv_icmp_ge (tgt := 126) hx hb dX2_takeSpans_25 (by decide) (fun h_16 => ?_) (fun h_16 => ?_)
        · have nh_16 : k_15 ≤ i := (nI_leI (a := k_15) (b := i) (by omega) (by omega)).mp h_16
          subst hQ
          have hI9 := hw.2.1
          have hF9 := hw.2.2.1
          have hS9 := hw.2.2.2
          rw [hf0] at hF9
          exact W.vret hx hb hr (fun t ht hW => ⟨⟨_, rfl, ⟨hI9, hF9⟩, hw.at ht⟩, hS9.F ht⟩) hS9.2.2 dX2_takeSpans_126
        · have nh_16 : ¬ k_15 ≤ i := fun q9 => h_16 ((nI_leI (a := k_15) (b := i) (by omega) (by omega)).mpr q9)
          refine lv_aload_n hx hb dX2_takeSpans_28 rfl (lv_at hl 1 rfl) ?_
          refine tp_get (ci := 1) (C := RX2) (T := TX2) (N := 14) hx hb hts hin_X2 hown hK hw hm_h0 4 ht_h0 (fun _ => rfl) rfl 2 (by decide) rfl (hts (.fieldLink RX2 53 "DayBench$Search" "looks" "I") (by decide +kernel)) (fun _ h9 => h9) dX2_takeSpans_29 (fun v_17 hf_18 hv_19 => ?_)
          obtain ⟨y_20, ey_20⟩ := hv_19
          subst ey_20
          clear hf_18
          refine lv_sipush (v := 20000) hx hb dX2_takeSpans_32 (by decide) ?_
          refine lv_icmp_lt (tgt := 44) hx hb dX2_takeSpans_35 (by decide) (fun h_21 => ?_) (fun h_21 => ?_)
          · refine lv_aload_n hx hb dX2_takeSpans_44 rfl (lv_at hl 1 rfl) ?_
            refine lv_dup hx hb dX2_takeSpans_45 rfl ?_
            refine tp_get (ci := 1) (C := RX2) (T := TX2) (N := 14) hx hb hts hin_X2 hown hK hw hm_h0 4 ht_h0 (fun _ => rfl) rfl 2 (by decide) rfl (hts (.fieldLink RX2 53 "DayBench$Search" "looks" "I") (by decide +kernel)) (fun _ h9 => h9) dX2_takeSpans_46 (fun v_22 hf_23 hv_24 => ?_)
            obtain ⟨y_25, ey_25⟩ := hv_24
            subst ey_25
            clear hf_23
            refine lv_iconst (v := 1) hx hb dX2_takeSpans_49 (by decide) ?_
            refine lv_iadd hx hb dX2_takeSpans_50 ?_
            refine lv_topi (fun x_26 ex_26 => ?_)
            refine tp_put (ci := 1) (C := RX2) (T := TX2) (N := 14) (v := .int x_26) (ty := .int) hx hb hts hin_X2 tyX2 tyX2_ok nmX2 hown hN hK hw hm_h0 4 ht_h0 rfl (fun _ => rfl) rfl 2 (by decide) rfl (hts (.fieldLink RX2 53 "DayBench$Search" "looks" "I") (by decide +kernel)) (fun _ h9 => h9) rfl (by decide +kernel) rfl rfl ⟨_, rfl⟩ dX2_takeSpans_51 (fun H locs f hw ho_27 hn_28 hs_29 => ?_)
            have hf_7 := (hs_29 8 (by decide)).trans hf_7
            clear ho_27 hs_29 hn_28
            refine lv_aload_n hx hb dX2_takeSpans_54 rfl (lv_at hl 1 rfl) ?_
            refine tp_get (ci := 1) (C := RX2) (T := TX2) (N := 14) hx hb hts hin_X2 hown hK hw hm_h0 4 ht_h0 (fun _ => rfl) rfl 7 (by decide) rfl (hts (.fieldLink RX2 85 "DayBench$Search" "together" "Z") (by decide +kernel)) (fun _ h9 => h9) dX2_takeSpans_55 (fun v_30 hf_31 hv_32 => ?_)
            obtain ⟨y_33, ey_33, hb_y_33⟩ := hv_32
            subst ey_33
            clear hf_31
            refine lv_if_eq (tgt := 98) hx hb dX2_takeSpans_58 (by decide) (fun h_34 => ?_) (fun h_34 => ?_)
            · refine lv_aload_n hx hb dX2_takeSpans_98 rfl (lv_at hl 1 rfl) ?_
              refine tp_get (ci := 1) (C := RX2) (T := TX2) (N := 14) hx hb hts hin_X2 hown hK hw hm_h0 4 ht_h0 (fun _ => rfl) rfl 4 (by decide) rfl (hts (.fieldLink RX2 56 "DayBench$Search" "spent" "Z") (by decide +kernel)) (fun _ h9 => h9) dX2_takeSpans_99 (fun v_35 hf_36 hv_37 => ?_)
              obtain ⟨y_38, ey_38, hb_y_38⟩ := hv_37
              subst ey_38
              clear hf_36
              refine lv_if_ne (tgt := 119) hx hb dX2_takeSpans_102 (by decide) (fun h_39 => ?_) (fun h_39 => ?_)
              · subst hQ
                have hI9 := hw.2.1
                have hF9 := hw.2.2.1
                have hS9 := hw.2.2.2
                rw [hf0] at hF9
                exact W.vret hx hb hr (fun t ht hW => ⟨⟨_, rfl, ⟨hI9, hF9⟩, hw.at ht⟩, hS9.F ht⟩) hS9.2.2 dX2_takeSpans_119
              · refine lv_aload_n hx hb dX2_takeSpans_105 rfl (lv_at hl 1 rfl) ?_
                refine tp_get (ci := 1) (C := RX2) (T := TX2) (N := 14) hx hb hts hin_X2 hown hK hw hm_h0 4 ht_h0 (fun _ => rfl) rfl 6 (by decide) rfl (hts (.fieldLink RX2 115 "DayBench$Search" "tillOne" "Z") (by decide +kernel)) (fun _ h9 => h9) dX2_takeSpans_106 (fun v_40 hf_41 hv_42 => ?_)
                obtain ⟨y_43, ey_43, hb_y_43⟩ := hv_42
                subst ey_43
                clear hf_41
                refine lv_if_eq (tgt := 120) hx hb dX2_takeSpans_109 (by decide) (fun h_44 => ?_) (fun h_44 => ?_)
                · refine lv_iinc (v := nI (i + 1)) (lv' := [(2, .int (nI (i + 1))), (0, .ref h0), (1, .int 3)]) hx hb dX2_takeSpans_120 hl (k := 0) rfl (nI_1 _) (by decide) rfl (fun ls hl => ?_)
                  refine lv_goto (tgt := 15) hx hb dX2_takeSpans_123 (by decide) ?_
                  exact ih_15 ((i + 1)) (by omega) (by omega) _ _ _ ls hw (lv_sub hl [0, 1, 2] rfl)
                · refine lv_aload_n hx hb dX2_takeSpans_112 rfl (lv_at hl 1 rfl) ?_
                  refine tp_get (ci := 1) (C := RX2) (T := TX2) (N := 14) hx hb hts hin_X2 hown hK hw hm_h0 4 ht_h0 (fun _ => rfl) rfl 5 (by decide) rfl (hts (.fieldLink RX2 118 "DayBench$Search" "found" "Z") (by decide +kernel)) (fun _ h9 => h9) dX2_takeSpans_113 (fun v_45 hf_46 hv_47 => ?_)
                  obtain ⟨y_48, ey_48, hb_y_48⟩ := hv_47
                  subst ey_48
                  clear hf_46
                  refine lv_if_eq (tgt := 120) hx hb dX2_takeSpans_116 (by decide) (fun h_49 => ?_) (fun h_49 => ?_)
                  · refine lv_iinc (v := nI (i + 1)) (lv' := [(2, .int (nI (i + 1))), (0, .ref h0), (1, .int 3)]) hx hb dX2_takeSpans_120 hl (k := 0) rfl (nI_1 _) (by decide) rfl (fun ls hl => ?_)
                    refine lv_goto (tgt := 15) hx hb dX2_takeSpans_123 (by decide) ?_
                    exact ih_15 ((i + 1)) (by omega) (by omega) _ _ _ ls hw (lv_sub hl [0, 1, 2] rfl)
                  · subst hQ
                    have hI9 := hw.2.1
                    have hF9 := hw.2.2.1
                    have hS9 := hw.2.2.2
                    rw [hf0] at hF9
                    exact W.vret hx hb hr (fun t ht hW => ⟨⟨_, rfl, ⟨hI9, hF9⟩, hw.at ht⟩, hS9.F ht⟩) hS9.2.2 dX2_takeSpans_119
            · refine lv_aload_n hx hb dX2_takeSpans_61 rfl (lv_at hl 1 rfl) ?_
              refine lv_iload_n hx hb dX2_takeSpans_62 rfl (lv_at hl 2 rfl) ?_
              refine lv_aload_n hx hb dX2_takeSpans_63 rfl (lv_at hl 1 rfl) ?_
              refine tp_getK (ci := 1) (C := RX2) (T := TX2) (N := 14) hx hb hts hin_X2 hown hK hw hm_h0 4 ht_h0 (fun _ => rfl) rfl 8 (by decide) hf_7 (hts (.fieldLink RX2 20 "DayBench$Search" "spans" "[LDayBench$Spans;") (by decide +kernel)) (fun _ h9 => h9) dX2_takeSpans_64 ?_
              refine lv_iload_n hx hb dX2_takeSpans_67 rfl (lv_at hl 2 rfl) ?_
              refine tp_aald hx hb hK hw hm_b_9 10 ht_b_9 2 (n := 6) (t' := 1) (fun _ => rfl) rfl rfl (by unfold vp_in; decide) dX2_takeSpans_68 (fun b_50 hf_51 hm_b_50 ht_b_50 => ?_)
              clear hf_51
              refine tp_get (ci := 3) (C := RX4) (T := TX4) (N := 3) hx hb hts hin_X4 hown hK hw hm_b_50 1 ht_b_50 (fun _ => rfl) rfl 0 (by decide) rfl (hts (.fieldLink RX2 131 "DayBench$Spans" "from" "[I") (by decide +kernel)) (fun _ h9 => h9) dX2_takeSpans_69 (fun v_52 hf_53 hv_54 => ?_)
              obtain ⟨b_55, eb_55, hm_b_55, ht_b_55⟩ := hv_54
              subst eb_55
              refine lv_iload_n hx hb dX2_takeSpans_72 rfl (lv_at hl 0 rfl) ?_
              refine tp_iald hx hb hK hw hm_b_55 2 ht_b_55 (n := 10) (fun _ => rfl) (vp_in_nI (by omega) (by omega)) dX2_takeSpans_73 (fun y_56 => ?_)
              refine lv_aload_n hx hb dX2_takeSpans_74 rfl (lv_at hl 1 rfl) ?_
              refine tp_getK (ci := 1) (C := RX2) (T := TX2) (N := 14) hx hb hts hin_X2 hown hK hw hm_h0 4 ht_h0 (fun _ => rfl) rfl 8 (by decide) hf_7 (hts (.fieldLink RX2 20 "DayBench$Search" "spans" "[LDayBench$Spans;") (by decide +kernel)) (fun _ h9 => h9) dX2_takeSpans_75 ?_
              refine lv_iload_n hx hb dX2_takeSpans_78 rfl (lv_at hl 2 rfl) ?_
              refine tp_aald hx hb hK hw hm_b_9 10 ht_b_9 2 (n := 6) (t' := 1) (fun _ => rfl) rfl rfl (by unfold vp_in; decide) dX2_takeSpans_79 (fun b_57 hf_58 hm_b_57 ht_b_57 => ?_)
              clear hf_58
              refine tp_get (ci := 3) (C := RX4) (T := TX4) (N := 3) hx hb hts hin_X4 hown hK hw hm_b_57 1 ht_b_57 (fun _ => rfl) rfl 1 (by decide) rfl (hts (.fieldLink RX2 134 "DayBench$Spans" "to" "[I") (by decide +kernel)) (fun _ h9 => h9) dX2_takeSpans_80 (fun v_59 hf_60 hv_61 => ?_)
              obtain ⟨b_62, eb_62, hm_b_62, ht_b_62⟩ := hv_61
              subst eb_62
              refine lv_iload_n hx hb dX2_takeSpans_83 rfl (lv_at hl 0 rfl) ?_
              refine tp_iald hx hb hK hw hm_b_62 2 ht_b_62 (n := 10) (fun _ => rfl) (vp_in_nI (by omega) (by omega)) dX2_takeSpans_84 (fun y_63 => ?_)
              refine va_calli (va_runV (As := [.int 3, .int y_56, .int y_63]) (rest := []) ⟨hx, hb, hml, hown, hts⟩ (k_X2_narrow l dC dI cI cS cP cA L tg f hN hT hw.2.1 h0 hm_h0 ht_h0 3 (by first | omega | decide) y_56 y_63) (cwV 3 hts gX2_takeSpans_X2_narrow rfl rfl rfl (by decide +kernel) ⟨Nat.le_of_ble_eq_true rfl, Nat.le_of_ble_eq_true rfl⟩) ⟨tPre_blind, tp_recv hK hw hm_h0 4 ht_h0 (ci := 1) (fun _ => rfl) rfl, fun U hU hW => ⟨rfl, tPre_at hw hK hcm hU hW⟩⟩ rfl rfl hl.1 rfl (lv_room (Nat.le_of_ble_eq_true rfl)) dX2_takeSpans_85 ⟨Nat.le_of_ble_eq_true rfl, Nat.le_of_ble_eq_true rfl⟩) hw.2.2.2 (fun q _ h => h) (fun q h => h) (fun r_64 f t H locs ht hvm hp hB hz1 hk1 hS1 => ?_)
              obtain ⟨hI1, hF1, hr_64⟩ := hp
              have hw := hw.back (S' := (fun t => t == 3)) (by decide) hT hI1 hF1 hB ht hS1
              have hf_7 : fld (f h0) 8 = some (.ref b_9) := by rw [hF1 h0 hm_h0 (by rw [ht_h0]; rfl)]; exact hf_7
              have hf_53 : fld (f b_50) 0 = some (.ref b_55) := by rw [hF1 b_50 hm_b_50 (by rw [ht_b_50]; rfl)]; exact hf_53
              have hf_60 : fld (f b_57) 1 = some (.ref b_62) := by rw [hF1 b_57 hm_b_57 (by rw [ht_b_57]; rfl)]; exact hf_60
              clear hI1 hF1 hB ht hz1 hk1 hS1 hvm
              refine lv_if_eq (tgt := 98) hx hb dX2_takeSpans_88 (by decide) (fun h_65 => ?_) (fun h_65 => ?_)
              · refine lv_aload_n hx hb dX2_takeSpans_98 rfl (lv_at hl 1 rfl) ?_
                refine tp_get (ci := 1) (C := RX2) (T := TX2) (N := 14) hx hb hts hin_X2 hown hK hw hm_h0 4 ht_h0 (fun _ => rfl) rfl 4 (by decide) rfl (hts (.fieldLink RX2 56 "DayBench$Search" "spent" "Z") (by decide +kernel)) (fun _ h9 => h9) dX2_takeSpans_99 (fun v_66 hf_67 hv_68 => ?_)
                obtain ⟨y_69, ey_69, hb_y_69⟩ := hv_68
                subst ey_69
                clear hf_67
                refine lv_if_ne (tgt := 119) hx hb dX2_takeSpans_102 (by decide) (fun h_70 => ?_) (fun h_70 => ?_)
                · subst hQ
                  have hI9 := hw.2.1
                  have hF9 := hw.2.2.1
                  have hS9 := hw.2.2.2
                  rw [hf0] at hF9
                  exact W.vret hx hb hr (fun t ht hW => ⟨⟨_, rfl, ⟨hI9, hF9⟩, hw.at ht⟩, hS9.F ht⟩) hS9.2.2 dX2_takeSpans_119
                · refine lv_aload_n hx hb dX2_takeSpans_105 rfl (lv_at hl 1 rfl) ?_
                  refine tp_get (ci := 1) (C := RX2) (T := TX2) (N := 14) hx hb hts hin_X2 hown hK hw hm_h0 4 ht_h0 (fun _ => rfl) rfl 6 (by decide) rfl (hts (.fieldLink RX2 115 "DayBench$Search" "tillOne" "Z") (by decide +kernel)) (fun _ h9 => h9) dX2_takeSpans_106 (fun v_71 hf_72 hv_73 => ?_)
                  obtain ⟨y_74, ey_74, hb_y_74⟩ := hv_73
                  subst ey_74
                  clear hf_72
                  refine lv_if_eq (tgt := 120) hx hb dX2_takeSpans_109 (by decide) (fun h_75 => ?_) (fun h_75 => ?_)
                  · refine lv_iinc (v := nI (i + 1)) (lv' := [(2, .int (nI (i + 1))), (0, .ref h0), (1, .int 3)]) hx hb dX2_takeSpans_120 hl (k := 0) rfl (nI_1 _) (by decide) rfl (fun ls hl => ?_)
                    refine lv_goto (tgt := 15) hx hb dX2_takeSpans_123 (by decide) ?_
                    exact ih_15 ((i + 1)) (by omega) (by omega) _ _ _ ls hw (lv_sub hl [0, 1, 2] rfl)
                  · refine lv_aload_n hx hb dX2_takeSpans_112 rfl (lv_at hl 1 rfl) ?_
                    refine tp_get (ci := 1) (C := RX2) (T := TX2) (N := 14) hx hb hts hin_X2 hown hK hw hm_h0 4 ht_h0 (fun _ => rfl) rfl 5 (by decide) rfl (hts (.fieldLink RX2 118 "DayBench$Search" "found" "Z") (by decide +kernel)) (fun _ h9 => h9) dX2_takeSpans_113 (fun v_76 hf_77 hv_78 => ?_)
                    obtain ⟨y_79, ey_79, hb_y_79⟩ := hv_78
                    subst ey_79
                    clear hf_77
                    refine lv_if_eq (tgt := 120) hx hb dX2_takeSpans_116 (by decide) (fun h_80 => ?_) (fun h_80 => ?_)
                    · refine lv_iinc (v := nI (i + 1)) (lv' := [(2, .int (nI (i + 1))), (0, .ref h0), (1, .int 3)]) hx hb dX2_takeSpans_120 hl (k := 0) rfl (nI_1 _) (by decide) rfl (fun ls hl => ?_)
                      refine lv_goto (tgt := 15) hx hb dX2_takeSpans_123 (by decide) ?_
                      exact ih_15 ((i + 1)) (by omega) (by omega) _ _ _ ls hw (lv_sub hl [0, 1, 2] rfl)
                    · subst hQ
                      have hI9 := hw.2.1
                      have hF9 := hw.2.2.1
                      have hS9 := hw.2.2.2
                      rw [hf0] at hF9
                      exact W.vret hx hb hr (fun t ht hW => ⟨⟨_, rfl, ⟨hI9, hF9⟩, hw.at ht⟩, hS9.F ht⟩) hS9.2.2 dX2_takeSpans_119
              · refine lv_aload_n hx hb dX2_takeSpans_91 rfl (lv_at hl 1 rfl) ?_
                refine lv_iload_n hx hb dX2_takeSpans_92 rfl (lv_at hl 2 rfl) ?_
                refine lv_iconst (v := 1) hx hb dX2_takeSpans_93 (by decide) ?_
                refine lv_iadd hx hb dX2_takeSpans_94 ?_
                refine lv_topi (fun x_81 ex_81 => ?_)
                have ex_81 : x_81 = 4 := ex_81.trans (by decide)
                subst ex_81
                refine va_callv (va_runV (As := [.int 4]) (rest := []) ⟨hx, hb, hml, hown, hts⟩ (k_X2_takeSpans_4 l dC dI cI cS cP cA L tg f hN hT hw.2.1 h0 hm_h0 ht_h0) (cwV 1 hts gX2_takeSpans_X2_takeSpans rfl rfl rfl (by decide +kernel) ⟨Nat.le_of_ble_eq_true rfl, Nat.le_of_ble_eq_true rfl⟩) ⟨tPre_blind, tp_recv hK hw hm_h0 4 ht_h0 (ci := 1) (fun _ => rfl) rfl, fun U hU hW => ⟨rfl, tPre_at hw hK hcm hU hW⟩⟩ rfl rfl hl.1 rfl (lv_room (Nat.le_of_ble_eq_true rfl)) dX2_takeSpans_95 ⟨Nat.le_of_ble_eq_true rfl, Nat.le_of_ble_eq_true rfl⟩) hw.2.2.2 (fun q _ h => h) (fun q h => h) (fun f t H locs ht hvm hp hB hz1 hk1 hS1 => ?_)
                obtain ⟨hI1, hF1⟩ := hp
                have hw := hw.back (S' := (fun t => t == 3 || t == 4)) (by decide) hT hI1 hF1 hB ht hS1
                have hf_53 : fld (f b_50) 0 = some (.ref b_55) := by rw [hF1 b_50 hm_b_50 (by rw [ht_b_50]; rfl)]; exact hf_53
                have hf_60 : fld (f b_57) 1 = some (.ref b_62) := by rw [hF1 b_57 hm_b_57 (by rw [ht_b_57]; rfl)]; exact hf_60
                clear hI1 hF1 hB ht hz1 hk1 hS1 hvm
                refine lv_aload_n hx hb dX2_takeSpans_98 rfl (lv_at hl 1 rfl) ?_
                refine tp_get (ci := 1) (C := RX2) (T := TX2) (N := 14) hx hb hts hin_X2 hown hK hw hm_h0 4 ht_h0 (fun _ => rfl) rfl 4 (by decide) rfl (hts (.fieldLink RX2 56 "DayBench$Search" "spent" "Z") (by decide +kernel)) (fun _ h9 => h9) dX2_takeSpans_99 (fun v_83 hf_84 hv_85 => ?_)
                obtain ⟨y_86, ey_86, hb_y_86⟩ := hv_85
                subst ey_86
                clear hf_84
                refine lv_if_ne (tgt := 119) hx hb dX2_takeSpans_102 (by decide) (fun h_87 => ?_) (fun h_87 => ?_)
                · subst hQ
                  have hI9 := hw.2.1
                  have hF9 := hw.2.2.1
                  have hS9 := hw.2.2.2
                  rw [hf0] at hF9
                  exact W.vret hx hb hr (fun t ht hW => ⟨⟨_, rfl, ⟨hI9, hF9⟩, hw.at ht⟩, hS9.F ht⟩) hS9.2.2 dX2_takeSpans_119
                · refine lv_aload_n hx hb dX2_takeSpans_105 rfl (lv_at hl 1 rfl) ?_
                  refine tp_get (ci := 1) (C := RX2) (T := TX2) (N := 14) hx hb hts hin_X2 hown hK hw hm_h0 4 ht_h0 (fun _ => rfl) rfl 6 (by decide) rfl (hts (.fieldLink RX2 115 "DayBench$Search" "tillOne" "Z") (by decide +kernel)) (fun _ h9 => h9) dX2_takeSpans_106 (fun v_88 hf_89 hv_90 => ?_)
                  obtain ⟨y_91, ey_91, hb_y_91⟩ := hv_90
                  subst ey_91
                  clear hf_89
                  refine lv_if_eq (tgt := 120) hx hb dX2_takeSpans_109 (by decide) (fun h_92 => ?_) (fun h_92 => ?_)
                  · refine lv_iinc (v := nI (i + 1)) (lv' := [(2, .int (nI (i + 1))), (0, .ref h0), (1, .int 3)]) hx hb dX2_takeSpans_120 hl (k := 0) rfl (nI_1 _) (by decide) rfl (fun ls hl => ?_)
                    refine lv_goto (tgt := 15) hx hb dX2_takeSpans_123 (by decide) ?_
                    exact ih_15 ((i + 1)) (by omega) (by omega) _ _ _ ls hw (lv_sub hl [0, 1, 2] rfl)
                  · refine lv_aload_n hx hb dX2_takeSpans_112 rfl (lv_at hl 1 rfl) ?_
                    refine tp_get (ci := 1) (C := RX2) (T := TX2) (N := 14) hx hb hts hin_X2 hown hK hw hm_h0 4 ht_h0 (fun _ => rfl) rfl 5 (by decide) rfl (hts (.fieldLink RX2 118 "DayBench$Search" "found" "Z") (by decide +kernel)) (fun _ h9 => h9) dX2_takeSpans_113 (fun v_93 hf_94 hv_95 => ?_)
                    obtain ⟨y_96, ey_96, hb_y_96⟩ := hv_95
                    subst ey_96
                    clear hf_94
                    refine lv_if_eq (tgt := 120) hx hb dX2_takeSpans_116 (by decide) (fun h_97 => ?_) (fun h_97 => ?_)
                    · refine lv_iinc (v := nI (i + 1)) (lv' := [(2, .int (nI (i + 1))), (0, .ref h0), (1, .int 3)]) hx hb dX2_takeSpans_120 hl (k := 0) rfl (nI_1 _) (by decide) rfl (fun ls hl => ?_)
                      refine lv_goto (tgt := 15) hx hb dX2_takeSpans_123 (by decide) ?_
                      exact ih_15 ((i + 1)) (by omega) (by omega) _ _ _ ls hw (lv_sub hl [0, 1, 2] rfl)
                    · subst hQ
                      have hI9 := hw.2.1
                      have hF9 := hw.2.2.1
                      have hS9 := hw.2.2.2
                      rw [hf0] at hF9
                      exact W.vret hx hb hr (fun t ht hW => ⟨⟨_, rfl, ⟨hI9, hF9⟩, hw.at ht⟩, hS9.F ht⟩) hS9.2.2 dX2_takeSpans_119
          · refine lv_aload_n hx hb dX2_takeSpans_38 rfl (lv_at hl 1 rfl) ?_
            refine lv_iconst (v := 1) hx hb dX2_takeSpans_39 (by decide) ?_
            refine tp_put (ci := 1) (C := RX2) (T := TX2) (N := 14) (v := .int 1) (ty := .boolean) hx hb hts hin_X2 tyX2 tyX2_ok nmX2 hown hN hK hw hm_h0 4 ht_h0 rfl (fun _ => rfl) rfl 4 (by decide) rfl (hts (.fieldLink RX2 56 "DayBench$Search" "spent" "Z") (by decide +kernel)) (fun _ h9 => h9) rfl (by decide +kernel) rfl rfl ⟨_, rfl, Or.inr rfl⟩ dX2_takeSpans_40 (fun H locs f hw ho_98 hn_99 hs_100 => ?_)
            have hf_7 := (hs_100 8 (by decide)).trans hf_7
            clear ho_98 hs_100 hn_99
            subst hQ
            have hI9 := hw.2.1
            have hF9 := hw.2.2.1
            have hS9 := hw.2.2.2
            rw [hf0] at hF9
            exact W.vret hx hb hr (fun t ht hW => ⟨⟨_, rfl, ⟨hI9, hF9⟩, hw.at ht⟩, hS9.F ht⟩) hS9.2.2 dX2_takeSpans_43
    exact hl_15 _ 0 (Nat.lt_succ_self _) (by omega) _ _ _ ls hw (lv_sub hl [0, 1, 2] rfl)
  · have nh_5 : ¬ 3 < k_4 := fun q9 => h_5 ((nI_ltI (a := 3) (b := k_4) (by omega) (by omega)).mpr q9)
    refine lv_aload_n hx hb dX2_takeSpans_8 rfl (lv_at hl 0 rfl) ?_
    refine va_callv (va_runV (As := []) (rest := []) ⟨hx, hb, hml, hown, hts⟩ (k_X2_noteWay l dC dI cI cS cP cA L tg f hN hT hw.2.1 h0 hm_h0 ht_h0) (cwV 0 hts gX2_takeSpans_X2_noteWay rfl rfl rfl (by decide +kernel) ⟨Nat.le_of_ble_eq_true rfl, Nat.le_of_ble_eq_true rfl⟩) ⟨tPre_blind, tp_recv hK hw hm_h0 4 ht_h0 (ci := 1) (fun _ => rfl) rfl, fun U hU hW => ⟨rfl, tPre_at hw hK hcm hU hW⟩⟩ rfl rfl hl.1 rfl (lv_room (Nat.le_of_ble_eq_true rfl)) dX2_takeSpans_9 ⟨Nat.le_of_ble_eq_true rfl, Nat.le_of_ble_eq_true rfl⟩) hw.2.2.2 (fun q _ h => h) (fun q h => h) (fun f t H locs ht hvm hp hB hz1 hk1 hS1 => ?_)
    obtain ⟨hI1, hF1⟩ := hp
    have hw := hw.back (S' := (fun t => t == 3 || t == 4)) (by decide) hT hI1 hF1 hB ht hS1
    clear hI1 hF1 hB ht hz1 hk1 hS1 hvm
    subst hQ
    have hI9 := hw.2.1
    have hF9 := hw.2.2.1
    have hS9 := hw.2.2.2
    rw [hf0] at hF9
    exact W.vret hx hb hr (fun t ht hW => ⟨⟨_, rfl, ⟨hI9, hF9⟩, hw.at ht⟩, hS9.F ht⟩) hS9.2.2 dX2_takeSpans_12

