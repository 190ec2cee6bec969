set_option maxHeartbeats 4000000 in
set_option maxRecDepth 100000 in
theorem k_X2_takeSpans_2 (l : Launch) (dC : Nat → ClassId) (dI : Nat → Nat → Nat) (cI cS cP cA : ClassId) (L : List Nat) (tg : Nat → Nat) (f : Nat → va_E) (hN : L.Nodup) (hT : ∀ a : Nat, a ∈ L → tg a < 13) (hI : PI cI cS cP cA L tg f) (h0 : Nat) (hm_h0 : h0 ∈ L) (ht_h0 : tg h0 = 4) : Met l yX2_takeSpans wsX2_takeSpans ({ frames := 6, cells := 0, slots := 0, locals := 126 }) (va_Pc [.ref h0, .int 2] (tPre dC dI cI cS cP cA L f)) (va_Qv (fun (f' : Nat → va_E) => PI cI cS cP cA L tg f' ∧ Fr L tg (fun t => t == 3 || t == 4) f f') (fun (f' : Nat → va_E) t => va_P (dC, dI) vwCl (va_pl L f') t.heap) (fun q : Nat => q ∈ L)) 0 0 (fun q : Nat => q ∈ L) := by
  refine Met.ofW (cc := cX2_takeSpans) (maxL := 3) (ret := none) (by decide) rfl ?_
  intro p e s m args below meth c s₁ B hml hv
  obtain ⟨rfl, hP, hK, hcm⟩ := hv
  have hx := B.exec
  have hb := B.bytes
  have hr := B.returns
  have hts := atoms_spec (ws := wsX2_takeSpans) B.pre
  have hown : s.vm.findClass RX2 = some m.cls := findClass_of_methodNamed B.named
  have hlocks := B.notSynchronized
  have hin_X2 : ∀ w ∈ u_ws RX2 TX2 14, w ∈ wsX2_takeSpans := by decide +kernel
  have hin_X4 : ∀ w ∈ u_ws RX4 TX4 3, w ∈ wsX2_takeSpans := by decide +kernel
  have hl := lv_entry ([.ref h0, .int 2]) (n := 3) (Nat.le_of_ble_eq_true rfl)
  rw [lg_entry_eq]
  generalize (lg_sl ([.ref h0, .int 2]) ++ List.replicate (3 - (lg_sl ([.ref h0, .int 2])).length) Slot.unset).toArray = ls at hl ⊢
  have hl : lv_has ls 3 [(0, .ref h0), (1, .int 2)] := hl
  generalize hQ : MQ below (va_Qv (fun (f' : Nat → va_E) => PI cI cS cP cA L tg f' ∧ Fr L tg (fun t => t == 3 || t == 4) f f') (fun (f' : Nat → va_E) t => va_P (dC, dI) vwCl (va_pl L f') t.heap) (fun q : Nat => q ∈ L)) [.ref h0, .int 2].toArray s 0 0 (fun q : Nat => q ∈ L) = Q
  obtain ⟨f0, hf0⟩ : ∃ g : Nat → va_E, g = f := ⟨_, rfl⟩
  have hw : PW dC dI cI cS cP cA L tg (fun t => t == 3 || t == 4) f0 s.heap f s.heap [] := by rw [hf0]; exact PW.start hP hI
  clear hP
  refine lv_iload_n hx hb dX2_takeSpans_0 rfl (lv_at hl 1 rfl) ?_
  refine lv_aload_n hx hb dX2_takeSpans_1 rfl (lv_at hl 0 rfl) ?_
  refine tp_get (ci := 1) (C := RX2) (T := TX2) (N := 14) hx hb hts hin_X2 hown hK hw hm_h0 4 ht_h0 (fun _ => rfl) rfl 3 (by decide) rfl (hts (.fieldLink RX2 49 "DayBench$Search" "events" "I") (by decide +kernel)) (fun _ h9 => h9) dX2_takeSpans_2 (fun v_1 hf_2 hv_3 => ?_)
  obtain ⟨k_4, ek_4, hk_k_4⟩ := hv_3
  subst ek_4
  clear hf_2
  refine lv_icmp_lt (tgt := 13) hx hb dX2_takeSpans_5 (by decide) (fun h_5 => ?_) (fun h_5 => ?_)
  · have nh_5 : 2 < k_4 := (nI_ltI (a := 2) (b := k_4) (by omega) (by omega)).mp h_5
    refine lv_iconst (v := 0) hx hb dX2_takeSpans_13 (by decide) ?_
    refine lv_istore_n (lv' := [(2, .int 0), (0, .ref h0), (1, .int 2)]) hx hb dX2_takeSpans_14 rfl hl (by decide) rfl (fun ls hl => ?_)
    have hl_15 : ∀ (fu : Nat) (i : Nat), 10 - i < fu → (i ≤ 10) → ∀ (f : Nat → va_E) (H : Heap) (locs : List Loc) (ls : Array Slot), PW dC dI cI cS cP cA L tg (fun t => t == 3 || t == 4) f0 s.heap f H locs → lv_has ls 3 [(2, .int (nI i)), (0, .ref h0), (1, .int 2)] → W p l e (headSpec wsX2_takeSpans ({ frames := 6, cells := 0, slots := 0, locals := 126 })).room s m [.ref h0, .int 2].toArray below meth c H locs 0 0 Q (F0 m 15 ls []) := by
      intro fu
      induction fu with
      | zero => intro i hm9; exact absurd hm9 (Nat.not_lt_zero _)
      | succ fu ih_15 =>
        intro i hm_15 h_i f H locs ls hw hl
        refine lv_iload_n hx hb dX2_takeSpans_15 rfl (lv_at hl 0 rfl) ?_
        refine lv_aload_n hx hb dX2_takeSpans_16 rfl (lv_at hl 1 rfl) ?_
        refine tp_get (ci := 1) (C := RX2) (T := TX2) (N := 14) hx hb hts hin_X2 hown hK hw hm_h0 4 ht_h0 (fun _ => rfl) rfl 8 (by decide) rfl (hts (.fieldLink RX2 20 "DayBench$Search" "spans" "[LDayBench$Spans;") (by decide +kernel)) (fun _ h9 => h9) dX2_takeSpans_17 (fun v_6 hf_7 hv_8 => ?_)
        obtain ⟨b_9, eb_9, hm_b_9, ht_b_9⟩ := hv_8
        subst eb_9
        refine lv_iload_n hx hb dX2_takeSpans_20 rfl (lv_at hl 2 rfl) ?_
        refine tp_aald hx hb hK hw hm_b_9 10 ht_b_9 2 (n := 6) (t' := 1) (fun _ => rfl) rfl rfl (by unfold vp_in; decide) dX2_takeSpans_21 (fun b_10 hf_11 hm_b_10 ht_b_10 => ?_)
        clear hf_11
        refine tp_get (ci := 3) (C := RX4) (T := TX4) (N := 3) hx hb hts hin_X4 hown hK hw hm_b_10 1 ht_b_10 (fun _ => rfl) rfl 2 (by decide) rfl (hts (.fieldLink RX2 128 "DayBench$Spans" "size" "I") (by decide +kernel)) (fun _ h9 => h9) dX2_takeSpans_22 (fun v_12 hf_13 hv_14 => ?_)
        obtain ⟨k_15, ek_15, hk_k_15⟩ := hv_14
        subst ek_15
        clear hf_13
        refine lv_icmp_ge (tgt := 126) hx hb dX2_takeSpans_25 (by decide) (fun h_16 => ?_) (fun h_16 => ?_)
        · have nh_16 : k_15 ≤ i := (nI_leI (a := k_15) (b := i) (by omega) (by omega)).mp h_16
          subst hQ
          have hI9 := hw.2.1
          have hF9 := hw.2.2.1
          have hS9 := hw.2.2.2
          rw [hf0] at hF9
          exact W.vret hx hb hr (fun t ht hW => ⟨⟨_, rfl, ⟨hI9, hF9⟩, hw.at ht⟩, hS9.F ht⟩) hS9.2.2 dX2_takeSpans_126
        · have nh_16 : ¬ k_15 ≤ i := fun q9 => h_16 ((nI_leI (a := k_15) (b := i) (by omega) (by omega)).mpr q9)
          refine lv_aload_n hx hb dX2_takeSpans_28 rfl (lv_at hl 1 rfl) ?_
          refine tp_get (ci := 1) (C := RX2) (T := TX2) (N := 14) hx hb hts hin_X2 hown hK hw hm_h0 4 ht_h0 (fun _ => rfl) rfl 2 (by decide) rfl (hts (.fieldLink RX2 53 "DayBench$Search" "looks" "I") (by decide +kernel)) (fun _ h9 => h9) dX2_takeSpans_29 (fun v_17 hf_18 hv_19 => ?_)
          obtain ⟨y_20, ey_20⟩ := hv_19
          subst ey_20
          clear hf_18
          refine lv_sipush (v := 20000) hx hb dX2_takeSpans_32 (by decide) ?_
          refine lv_icmp_lt (tgt := 44) hx hb dX2_takeSpans_35 (by decide) (fun h_21 => ?_) (fun h_21 => ?_)
          · refine lv_aload_n hx hb dX2_takeSpans_44 rfl (lv_at hl 1 rfl) ?_
            refine lv_dup hx hb dX2_takeSpans_45 rfl ?_
            refine tp_get (ci := 1) (C := RX2) (T := TX2) (N := 14) hx hb hts hin_X2 hown hK hw hm_h0 4 ht_h0 (fun _ => rfl) rfl 2 (by decide) rfl (hts (.fieldLink RX2 53 "DayBench$Search" "looks" "I") (by decide +kernel)) (fun _ h9 => h9) dX2_takeSpans_46 (fun v_22 hf_23 hv_24 => ?_)
            obtain ⟨y_25, ey_25⟩ := hv_24
            subst ey_25
            clear hf_23
            refine lv_iconst (v := 1) hx hb dX2_takeSpans_49 (by decide) ?_
            refine lv_iadd hx hb dX2_takeSpans_50 ?_
            refine lv_topi (fun x_26 ex_26 => ?_)
            refine tp_put (ci := 1) (C := RX2) (T := TX2) (N := 14) (v := .int x_26) (ty := .int) hx hb hts hin_X2 tyX2 tyX2_ok nmX2 hown hN hK hw hm_h0 4 ht_h0 rfl (fun _ => rfl) rfl 2 (by decide) rfl (hts (.fieldLink RX2 53 "DayBench$Search" "looks" "I") (by decide +kernel)) (fun _ h9 => h9) rfl (by decide +kernel) rfl rfl ⟨_, rfl⟩ dX2_takeSpans_51 (fun H locs f hw ho_27 hn_28 hs_29 => ?_)
            have hf_7 := (hs_29 8 (by decide)).trans hf_7
            clear ho_27 hs_29 hn_28
            refine lv_aload_n hx hb dX2_takeSpans_54 rfl (lv_at hl 1 rfl) ?_
            refine tp_get (ci := 1) (C := RX2) (T := TX2) (N := 14) hx hb hts hin_X2 hown hK hw hm_h0 4 ht_h0 (fun _ => rfl) rfl 7 (by decide) rfl (hts (.fieldLink RX2 85 "DayBench$Search" "together" "Z") (by decide +kernel)) (fun _ h9 => h9) dX2_takeSpans_55 (fun v_30 hf_31 hv_32 => ?_)
            obtain ⟨y_33, ey_33, hb_y_33⟩ := hv_32
            subst ey_33
            clear hf_31
            refine lv_if_eq (tgt := 98) hx hb dX2_takeSpans_58 (by decide) (fun h_34 => ?_) (fun h_34 => ?_)
            · refine lv_aload_n hx hb dX2_takeSpans_98 rfl (lv_at hl 1 rfl) ?_
              refine tp_get (ci := 1) (C := RX2) (T := TX2) (N := 14) hx hb hts hin_X2 hown hK hw hm_h0 4 ht_h0 (fun _ => rfl) rfl 4 (by decide) rfl (hts (.fieldLink RX2 56 "DayBench$Search" "spent" "Z") (by decide +kernel)) (fun _ h9 => h9) dX2_takeSpans_99 (fun v_35 hf_36 hv_37 => ?_)
              obtain ⟨y_38, ey_38, hb_y_38⟩ := hv_37
              subst ey_38
              clear hf_36
              refine lv_if_ne (tgt := 119) hx hb dX2_takeSpans_102 (by decide) (fun h_39 => ?_) (fun h_39 => ?_)
              · subst hQ
                have hI9 := hw.2.1
                have hF9 := hw.2.2.1
                have hS9 := hw.2.2.2
                rw [hf0] at hF9
                exact W.vret hx hb hr (fun t ht hW => ⟨⟨_, rfl, ⟨hI9, hF9⟩, hw.at ht⟩, hS9.F ht⟩) hS9.2.2 dX2_takeSpans_119
              · refine lv_aload_n hx hb dX2_takeSpans_105 rfl (lv_at hl 1 rfl) ?_
                refine tp_get (ci := 1) (C := RX2) (T := TX2) (N := 14) hx hb hts hin_X2 hown hK hw hm_h0 4 ht_h0 (fun _ => rfl) rfl 6 (by decide) rfl (hts (.fieldLink RX2 115 "DayBench$Search" "tillOne" "Z") (by decide +kernel)) (fun _ h9 => h9) dX2_takeSpans_106 (fun v_40 hf_41 hv_42 => ?_)
                obtain ⟨y_43, ey_43, hb_y_43⟩ := hv_42
                subst ey_43
                clear hf_41
                refine lv_if_eq (tgt := 120) hx hb dX2_takeSpans_109 (by decide) (fun h_44 => ?_) (fun h_44 => ?_)
                · refine lv_iinc (v := nI (i + 1)) (lv' := [(2, .int (nI (i + 1))), (0, .ref h0), (1, .int 2)]) hx hb dX2_takeSpans_120 hl (k := 0) rfl (nI_1 _) (by decide) rfl (fun ls hl => ?_)
                  refine lv_goto (tgt := 15) hx hb dX2_takeSpans_123 (by decide) ?_
                  exact ih_15 ((i + 1)) (by omega) (by omega) _ _ _ ls hw (lv_sub hl [0, 1, 2] rfl)
                · refine lv_aload_n hx hb dX2_takeSpans_112 rfl (lv_at hl 1 rfl) ?_
                  refine tp_get (ci := 1) (C := RX2) (T := TX2) (N := 14) hx hb hts hin_X2 hown hK hw hm_h0 4 ht_h0 (fun _ => rfl) rfl 5 (by decide) rfl (hts (.fieldLink RX2 118 "DayBench$Search" "found" "Z") (by decide +kernel)) (fun _ h9 => h9) dX2_takeSpans_113 (fun v_45 hf_46 hv_47 => ?_)
                  obtain ⟨y_48, ey_48, hb_y_48⟩ := hv_47
                  subst ey_48
                  clear hf_46
                  refine lv_if_eq (tgt := 120) hx hb dX2_takeSpans_116 (by decide) (fun h_49 => ?_) (fun h_49 => ?_)
                  · refine lv_iinc (v := nI (i + 1)) (lv' := [(2, .int (nI (i + 1))), (0, .ref h0), (1, .int 2)]) hx hb dX2_takeSpans_120 hl (k := 0) rfl (nI_1 _) (by decide) rfl (fun ls hl => ?_)
                    refine lv_goto (tgt := 15) hx hb dX2_takeSpans_123 (by decide) ?_
                    exact ih_15 ((i + 1)) (by omega) (by omega) _ _ _ ls hw (lv_sub hl [0, 1, 2] rfl)
                  · subst hQ
                    have hI9 := hw.2.1
                    have hF9 := hw.2.2.1
                    have hS9 := hw.2.2.2
                    rw [hf0] at hF9
                    exact W.vret hx hb hr (fun t ht hW => ⟨⟨_, rfl, ⟨hI9, hF9⟩, hw.at ht⟩, hS9.F ht⟩) hS9.2.2 dX2_takeSpans_119
            · refine lv_aload_n hx hb dX2_takeSpans_61 rfl (lv_at hl 1 rfl) ?_
              refine lv_iload_n hx hb dX2_takeSpans_62 rfl (lv_at hl 2 rfl) ?_
              refine lv_aload_n hx hb dX2_takeSpans_63 rfl (lv_at hl 1 rfl) ?_
              refine tp_getK (ci := 1) (C := RX2) (T := TX2) (N := 14) hx hb hts hin_X2 hown hK hw hm_h0 4 ht_h0 (fun _ => rfl) rfl 8 (by decide) hf_7 (hts (.fieldLink RX2 20 "DayBench$Search" "spans" "[LDayBench$Spans;") (by decide +kernel)) (fun _ h9 => h9) dX2_takeSpans_64 ?_
              refine lv_iload_n hx hb dX2_takeSpans_67 rfl (lv_at hl 2 rfl) ?_
              refine tp_aald hx hb hK hw hm_b_9 10 ht_b_9 2 (n := 6) (t' := 1) (fun _ => rfl) rfl rfl (by unfold vp_in; decide) dX2_takeSpans_68 (fun b_50 hf_51 hm_b_50 ht_b_50 => ?_)
              clear hf_51
              refine tp_get (ci := 3) (C := RX4) (T := TX4) (N := 3) hx hb hts hin_X4 hown hK hw hm_b_50 1 ht_b_50 (fun _ => rfl) rfl 0 (by decide) rfl (hts (.fieldLink RX2 131 "DayBench$Spans" "from" "[I") (by decide +kernel)) (fun _ h9 => h9) dX2_takeSpans_69 (fun v_52 hf_53 hv_54 => ?_)
              obtain ⟨b_55, eb_55, hm_b_55, ht_b_55⟩ := hv_54
              subst eb_55
              refine lv_iload_n hx hb dX2_takeSpans_72 rfl (lv_at hl 0 rfl) ?_
              refine tp_iald hx hb hK hw hm_b_55 2 ht_b_55 (n := 10) (fun _ => rfl) (vp_in_nI (by omega) (by omega)) dX2_takeSpans_73 (fun y_56 => ?_)
              refine lv_aload_n hx hb dX2_takeSpans_74 rfl (lv_at hl 1 rfl) ?_
              refine tp_getK (ci := 1) (C := RX2) (T := TX2) (N := 14) hx hb hts hin_X2 hown hK hw hm_h0 4 ht_h0 (fun _ => rfl) rfl 8 (by decide) hf_7 (hts (.fieldLink RX2 20 "DayBench$Search" "spans" "[LDayBench$Spans;") (by decide +kernel)) (fun _ h9 => h9) dX2_takeSpans_75 ?_
              refine lv_iload_n hx hb dX2_takeSpans_78 rfl (lv_at hl 2 rfl) ?_
              refine tp_aald hx hb hK hw hm_b_9 10 ht_b_9 2 (n := 6) (t' := 1) (fun _ => rfl) rfl rfl (by unfold vp_in; decide) dX2_takeSpans_79 (fun b_57 hf_58 hm_b_57 ht_b_57 => ?_)
              clear hf_58
              refine tp_get (ci := 3) (C := RX4) (T := TX4) (N := 3) hx hb hts hin_X4 hown hK hw hm_b_57 1 ht_b_57 (fun _ => rfl) rfl 1 (by decide) rfl (hts (.fieldLink RX2 134 "DayBench$Spans" "to" "[I") (by decide +kernel)) (fun _ h9 => h9) dX2_takeSpans_80 (fun v_59 hf_60 hv_61 => ?_)
              obtain ⟨b_62, eb_62, hm_b_62, ht_b_62⟩ := hv_61
              subst eb_62
              refine lv_iload_n hx hb dX2_takeSpans_83 rfl (lv_at hl 0 rfl) ?_
              refine tp_iald hx hb hK hw hm_b_62 2 ht_b_62 (n := 10) (fun _ => rfl) (vp_in_nI (by omega) (by omega)) dX2_takeSpans_84 (fun y_63 => ?_)
              refine va_calli (va_runV (As := [.int 2, .int y_56, .int y_63]) (rest := []) ⟨hx, hb, hml, hown, hts⟩ (k_X2_narrow l dC dI cI cS cP cA L tg f hN hT hw.2.1 h0 hm_h0 ht_h0 2 (by first | omega | decide) y_56 y_63) (cwV 3 hts gX2_takeSpans_X2_narrow rfl rfl rfl (by decide +kernel) ⟨Nat.le_of_ble_eq_true rfl, Nat.le_of_ble_eq_true rfl⟩) ⟨tPre_blind, tp_recv hK hw hm_h0 4 ht_h0 (ci := 1) (fun _ => rfl) rfl, fun U hU hW => ⟨rfl, tPre_at hw hK hcm hU hW⟩⟩ rfl rfl hl.1 rfl (lv_room (Nat.le_of_ble_eq_true rfl)) dX2_takeSpans_85 ⟨Nat.le_of_ble_eq_true rfl, Nat.le_of_ble_eq_true rfl⟩) hw.2.2.2 (fun q _ h => h) (fun q h => h) (fun r_64 f t H locs ht hvm hp hB hz1 hk1 hS1 => ?_)
              obtain ⟨hI1, hF1, hr_64⟩ := hp
              have hw := hw.back (S' := (fun t => t == 3)) (by decide) hT hI1 hF1 hB ht hS1
              have hf_7 : fld (f h0) 8 = some (.ref b_9) := by rw [hF1 h0 hm_h0 (by rw [ht_h0]; rfl)]; exact hf_7
              have hf_53 : fld (f b_50) 0 = some (.ref b_55) := by rw [hF1 b_50 hm_b_50 (by rw [ht_b_50]; rfl)]; exact hf_53
              have hf_60 : fld (f b_57) 1 = some (.ref b_62) := by rw [hF1 b_57 hm_b_57 (by rw [ht_b_57]; rfl)]; exact hf_60
              clear hI1 hF1 hB ht hz1 hk1 hS1 hvm
              refine lv_if_eq (tgt := 98) hx hb dX2_takeSpans_88 (by decide) (fun h_65 => ?_) (fun h_65 => ?_)
              · refine lv_aload_n hx hb dX2_takeSpans_98 rfl (lv_at hl 1 rfl) ?_
                refine tp_get (ci := 1) (C := RX2) (T := TX2) (N := 14) hx hb hts hin_X2 hown hK hw hm_h0 4 ht_h0 (fun _ => rfl) rfl 4 (by decide) rfl (hts (.fieldLink RX2 56 "DayBench$Search" "spent" "Z") (by decide +kernel)) (fun _ h9 => h9) dX2_takeSpans_99 (fun v_66 hf_67 hv_68 => ?_)
                obtain ⟨y_69, ey_69, hb_y_69⟩ := hv_68
                subst ey_69
                clear hf_67
                refine lv_if_ne (tgt := 119) hx hb dX2_takeSpans_102 (by decide) (fun h_70 => ?_) (fun h_70 => ?_)
                · subst hQ
                  have hI9 := hw.2.1
                  have hF9 := hw.2.2.1
                  have hS9 := hw.2.2.2
                  rw [hf0] at hF9
                  exact W.vret hx hb hr (fun t ht hW => ⟨⟨_, rfl, ⟨hI9, hF9⟩, hw.at ht⟩, hS9.F ht⟩) hS9.2.2 dX2_takeSpans_119
                · refine lv_aload_n hx hb dX2_takeSpans_105 rfl (lv_at hl 1 rfl) ?_
                  refine tp_get (ci := 1) (C := RX2) (T := TX2) (N := 14) hx hb hts hin_X2 hown hK hw hm_h0 4 ht_h0 (fun _ => rfl) rfl 6 (by decide) rfl (hts (.fieldLink RX2 115 "DayBench$Search" "tillOne" "Z") (by decide +kernel)) (fun _ h9 => h9) dX2_takeSpans_106 (fun v_71 hf_72 hv_73 => ?_)
                  obtain ⟨y_74, ey_74, hb_y_74⟩ := hv_73
                  subst ey_74
                  clear hf_72
                  refine lv_if_eq (tgt := 120) hx hb dX2_takeSpans_109 (by decide) (fun h_75 => ?_) (fun h_75 => ?_)
                  · refine lv_iinc (v := nI (i + 1)) (lv' := [(2, .int (nI (i + 1))), (0, .ref h0), (1, .int 2)]) hx hb dX2_takeSpans_120 hl (k := 0) rfl (nI_1 _) (by decide) rfl (fun ls hl => ?_)
                    refine lv_goto (tgt := 15) hx hb dX2_takeSpans_123 (by decide) ?_
                    exact ih_15 ((i + 1)) (by omega) (by omega) _ _ _ ls hw (lv_sub hl [0, 1, 2] rfl)
                  · refine lv_aload_n hx hb dX2_takeSpans_112 rfl (lv_at hl 1 rfl) ?_
                    refine tp_get (ci := 1) (C := RX2) (T := TX2) (N := 14) hx hb hts hin_X2 hown hK hw hm_h0 4 ht_h0 (fun _ => rfl) rfl 5 (by decide) rfl (hts (.fieldLink RX2 118 "DayBench$Search" "found" "Z") (by decide +kernel)) (fun _ h9 => h9) dX2_takeSpans_113 (fun v_76 hf_77 hv_78 => ?_)
                    obtain ⟨y_79, ey_79, hb_y_79⟩ := hv_78
                    subst ey_79
                    clear hf_77
                    refine lv_if_eq (tgt := 120) hx hb dX2_takeSpans_116 (by decide) (fun h_80 => ?_) (fun h_80 => ?_)
                    · refine lv_iinc (v := nI (i + 1)) (lv' := [(2, .int (nI (i + 1))), (0, .ref h0), (1, .int 2)]) hx hb dX2_takeSpans_120 hl (k := 0) rfl (nI_1 _) (by decide) rfl (fun ls hl => ?_)
                      refine lv_goto (tgt := 15) hx hb dX2_takeSpans_123 (by decide) ?_
                      exact ih_15 ((i + 1)) (by omega) (by omega) _ _ _ ls hw (lv_sub hl [0, 1, 2] rfl)
                    · subst hQ
                      have hI9 := hw.2.1
                      have hF9 := hw.2.2.1
                      have hS9 := hw.2.2.2
                      rw [hf0] at hF9
                      exact W.vret hx hb hr (fun t ht hW => ⟨⟨_, rfl, ⟨hI9, hF9⟩, hw.at ht⟩, hS9.F ht⟩) hS9.2.2 dX2_takeSpans_119
              · refine lv_aload_n hx hb dX2_takeSpans_91 rfl (lv_at hl 1 rfl) ?_
                refine lv_iload_n hx hb dX2_takeSpans_92 rfl (lv_at hl 2 rfl) ?_
                refine lv_iconst (v := 1) hx hb dX2_takeSpans_93 (by decide) ?_
                refine lv_iadd hx hb dX2_takeSpans_94 ?_
                refine lv_topi (fun x_81 ex_81 => ?_)
                have ex_81 : x_81 = 3 := ex_81.trans (by decide)
                subst ex_81
                refine va_callv (va_runV (As := [.int 3]) (rest := []) ⟨hx, hb, hml, hown, hts⟩ (k_X2_takeSpans_3 l dC dI cI cS cP cA L tg f hN hT hw.2.1 h0 hm_h0 ht_h0) (cwV 1 hts gX2_takeSpans_X2_takeSpans rfl rfl rfl (by decide +kernel) ⟨Nat.le_of_ble_eq_true rfl, Nat.le_of_ble_eq_true rfl⟩) ⟨tPre_blind, tp_recv hK hw hm_h0 4 ht_h0 (ci := 1) (fun _ => rfl) rfl, fun U hU hW => ⟨rfl, tPre_at hw hK hcm hU hW⟩⟩ rfl rfl hl.1 rfl (lv_room (Nat.le_of_ble_eq_true rfl)) dX2_takeSpans_95 ⟨Nat.le_of_ble_eq_true rfl, Nat.le_of_ble_eq_true rfl⟩) hw.2.2.2 (fun q _ h => h) (fun q h => h) (fun f t H locs ht hvm hp hB hz1 hk1 hS1 => ?_)
                obtain ⟨hI1, hF1⟩ := hp
                have hw := hw.back (S' := (fun t => t == 3 || t == 4)) (by decide) hT hI1 hF1 hB ht hS1
                have hf_53 : fld (f b_50) 0 = some (.ref b_55) := by rw [hF1 b_50 hm_b_50 (by rw [ht_b_50]; rfl)]; exact hf_53
                have hf_60 : fld (f b_57) 1 = some (.ref b_62) := by rw [hF1 b_57 hm_b_57 (by rw [ht_b_57]; rfl)]; exact hf_60
                clear hI1 hF1 hB ht hz1 hk1 hS1 hvm
                refine lv_aload_n hx hb dX2_takeSpans_98 rfl (lv_at hl 1 rfl) ?_
                refine tp_get (ci := 1) (C := RX2) (T := TX2) (N := 14) hx hb hts hin_X2 hown hK hw hm_h0 4 ht_h0 (fun _ => rfl) rfl 4 (by decide) rfl (hts (.fieldLink RX2 56 "DayBench$Search" "spent" "Z") (by decide +kernel)) (fun _ h9 => h9) dX2_takeSpans_99 (fun v_83 hf_84 hv_85 => ?_)
                obtain ⟨y_86, ey_86, hb_y_86⟩ := hv_85
                subst ey_86
                clear hf_84
                refine lv_if_ne (tgt := 119) hx hb dX2_takeSpans_102 (by decide) (fun h_87 => ?_) (fun h_87 => ?_)
                · subst hQ
                  have hI9 := hw.2.1
                  have hF9 := hw.2.2.1
                  have hS9 := hw.2.2.2
                  rw [hf0] at hF9
                  exact W.vret hx hb hr (fun t ht hW => ⟨⟨_, rfl, ⟨hI9, hF9⟩, hw.at ht⟩, hS9.F ht⟩) hS9.2.2 dX2_takeSpans_119
                · refine lv_aload_n hx hb dX2_takeSpans_105 rfl (lv_at hl 1 rfl) ?_
                  refine tp_get (ci := 1) (C := RX2) (T := TX2) (N := 14) hx hb hts hin_X2 hown hK hw hm_h0 4 ht_h0 (fun _ => rfl) rfl 6 (by decide) rfl (hts (.fieldLink RX2 115 "DayBench$Search" "tillOne" "Z") (by decide +kernel)) (fun _ h9 => h9) dX2_takeSpans_106 (fun v_88 hf_89 hv_90 => ?_)
                  obtain ⟨y_91, ey_91, hb_y_91⟩ := hv_90
                  subst ey_91
                  clear hf_89
                  refine lv_if_eq (tgt := 120) hx hb dX2_takeSpans_109 (by decide) (fun h_92 => ?_) (fun h_92 => ?_)
                  · refine lv_iinc (v := nI (i + 1)) (lv' := [(2, .int (nI (i + 1))), (0, .ref h0), (1, .int 2)]) hx hb dX2_takeSpans_120 hl (k := 0) rfl (nI_1 _) (by decide) rfl (fun ls hl => ?_)
                    refine lv_goto (tgt := 15) hx hb dX2_takeSpans_123 (by decide) ?_
                    exact ih_15 ((i + 1)) (by omega) (by omega) _ _ _ ls hw (lv_sub hl [0, 1, 2] rfl)
                  · refine lv_aload_n hx hb dX2_takeSpans_112 rfl (lv_at hl 1 rfl) ?_
                    refine tp_get (ci := 1) (C := RX2) (T := TX2) (N := 14) hx hb hts hin_X2 hown hK hw hm_h0 4 ht_h0 (fun _ => rfl) rfl 5 (by decide) rfl (hts (.fieldLink RX2 118 "DayBench$Search" "found" "Z") (by decide +kernel)) (fun _ h9 => h9) dX2_takeSpans_113 (fun v_93 hf_94 hv_95 => ?_)
                    obtain ⟨y_96, ey_96, hb_y_96⟩ := hv_95
                    subst ey_96
                    clear hf_94
                    refine lv_if_eq (tgt := 120) hx hb dX2_takeSpans_116 (by decide) (fun h_97 => ?_) (fun h_97 => ?_)
                    · refine lv_iinc (v := nI (i + 1)) (lv' := [(2, .int (nI (i + 1))), (0, .ref h0), (1, .int 2)]) hx hb dX2_takeSpans_120 hl (k := 0) rfl (nI_1 _) (by decide) rfl (fun ls hl => ?_)
                      refine lv_goto (tgt := 15) hx hb dX2_takeSpans_123 (by decide) ?_
                      exact ih_15 ((i + 1)) (by omega) (by omega) _ _ _ ls hw (lv_sub hl [0, 1, 2] rfl)
                    · subst hQ
                      have hI9 := hw.2.1
                      have hF9 := hw.2.2.1
                      have hS9 := hw.2.2.2
                      rw [hf0] at hF9
                      exact W.vret hx hb hr (fun t ht hW => ⟨⟨_, rfl, ⟨hI9, hF9⟩, hw.at ht⟩, hS9.F ht⟩) hS9.2.2 dX2_takeSpans_119
          · refine lv_aload_n hx hb dX2_takeSpans_38 rfl (lv_at hl 1 rfl) ?_
            refine lv_iconst (v := 1) hx hb dX2_takeSpans_39 (by decide) ?_
            refine tp_put (ci := 1) (C := RX2) (T := TX2) (N := 14) (v := .int 1) (ty := .boolean) hx hb hts hin_X2 tyX2 tyX2_ok nmX2 hown hN hK hw hm_h0 4 ht_h0 rfl (fun _ => rfl) rfl 4 (by decide) rfl (hts (.fieldLink RX2 56 "DayBench$Search" "spent" "Z") (by decide +kernel)) (fun _ h9 => h9) rfl (by decide +kernel) rfl rfl ⟨_, rfl, Or.inr rfl⟩ dX2_takeSpans_40 (fun H locs f hw ho_98 hn_99 hs_100 => ?_)
            have hf_7 := (hs_100 8 (by decide)).trans hf_7
            clear ho_98 hs_100 hn_99
            subst hQ
            have hI9 := hw.2.1
            have hF9 := hw.2.2.1
            have hS9 := hw.2.2.2
            rw [hf0] at hF9
            exact W.vret hx hb hr (fun t ht hW => ⟨⟨_, rfl, ⟨hI9, hF9⟩, hw.at ht⟩, hS9.F ht⟩) hS9.2.2 dX2_takeSpans_43
    exact hl_15 _ 0 (Nat.lt_succ_self _) (by omega) _ _ _ ls hw (lv_sub hl [0, 1, 2] rfl)
  · have nh_5 : ¬ 2 < k_4 := fun q9 => h_5 ((nI_ltI (a := 2) (b := k_4) (by omega) (by omega)).mpr q9)
    refine lv_aload_n hx hb dX2_takeSpans_8 rfl (lv_at hl 0 rfl) ?_
    refine va_callv (va_runV (As := []) (rest := []) ⟨hx, hb, hml, hown, hts⟩ (k_X2_noteWay l dC dI cI cS cP cA L tg f hN hT hw.2.1 h0 hm_h0 ht_h0) (cwV 0 hts gX2_takeSpans_X2_noteWay rfl rfl rfl (by decide +kernel) ⟨Nat.le_of_ble_eq_true rfl, Nat.le_of_ble_eq_true rfl⟩) ⟨tPre_blind, tp_recv hK hw hm_h0 4 ht_h0 (ci := 1) (fun _ => rfl) rfl, fun U hU hW => ⟨rfl, tPre_at hw hK hcm hU hW⟩⟩ rfl rfl hl.1 rfl (lv_room (Nat.le_of_ble_eq_true rfl)) dX2_takeSpans_9 ⟨Nat.le_of_ble_eq_true rfl, Nat.le_of_ble_eq_true rfl⟩) hw.2.2.2 (fun q _ h => h) (fun q h => h) (fun f t H locs ht hvm hp hB hz1 hk1 hS1 => ?_)
    obtain ⟨hI1, hF1⟩ := hp
    have hw := hw.back (S' := (fun t => t == 3 || t == 4)) (by decide) hT hI1 hF1 hB ht hS1
    clear hI1 hF1 hB ht hz1 hk1 hS1 hvm
    subst hQ
    have hI9 := hw.2.1
    have hF9 := hw.2.2.1
    have hS9 := hw.2.2.2
    rw [hf0] at hF9
    exact W.vret hx hb hr (fun t ht hW => ⟨⟨_, rfl, ⟨hI9, hF9⟩, hw.at ht⟩, hS9.F ht⟩) hS9.2.2 dX2_takeSpans_12

set_option maxHeartbeats 4000000 in
set_option maxRecDepth 100000 in
theorem k_X2_takeSpans_1 (l : Launch) (dC : Nat → ClassId) (dI : Nat → Nat → Nat) (cI cS cP cA : ClassId) (L : List Nat) (tg : Nat → Nat) (f : Nat → va_E) (hN : L.Nodup) (hT : ∀ a : Nat, a ∈ L → tg a < 13) (hI : PI cI cS cP cA L tg f) (h0 : Nat) (hm_h0 : h0 ∈ L) (ht_h0 : tg h0 = 4) : Met l yX2_takeSpans wsX2_takeSpans ({ frames := 7, cells := 0, slots := 0, locals := 148 }) (va_Pc [.ref h0, .int 1] (tPre dC dI cI cS cP cA L f)) (va_Qv (fun (f' : Nat → va_E) => PI cI cS cP cA L tg f' ∧ Fr L tg (fun t => t == 3 || t == 4) f f') (fun (f' : Nat → va_E) t => va_P (dC, dI) vwCl (va_pl L f') t.heap) (fun q : Nat => q ∈ L)) 0 0 (fun q : Nat => q ∈ L) := by
  refine Met.ofW (cc := cX2_takeSpans) (maxL := 3) (ret := none) (by decide) rfl ?_
  intro p e s m args below meth c s₁ B hml hv
  obtain ⟨rfl, hP, hK, hcm⟩ := hv
  have hx := B.exec
  have hb := B.bytes
  have hr := B.returns
  have hts := atoms_spec (ws := wsX2_takeSpans) B.pre
  have hown : s.vm.findClass RX2 = some m.cls := findClass_of_methodNamed B.named
  have hlocks := B.notSynchronized
  have hin_X2 : ∀ w ∈ u_ws RX2 TX2 14, w ∈ wsX2_takeSpans := by decide +kernel
  have hin_X4 : ∀ w ∈ u_ws RX4 TX4 3, w ∈ wsX2_takeSpans := by decide +kernel
  have hl := lv_entry ([.ref h0, .int 1]) (n := 3) (Nat.le_of_ble_eq_true rfl)
  rw [lg_entry_eq]
  generalize (lg_sl ([.ref h0, .int 1]) ++ List.replicate (3 - (lg_sl ([.ref h0, .int 1])).length) Slot.unset).toArray = ls at hl ⊢
  have hl : lv_has ls 3 [(0, .ref h0), (1, .int 1)] := hl
  generalize hQ : MQ below (va_Qv (fun (f' : Nat → va_E) => PI cI cS cP cA L tg f' ∧ Fr L tg (fun t => t == 3 || t == 4) f f') (fun (f' : Nat → va_E) t => va_P (dC, dI) vwCl (va_pl L f') t.heap) (fun q : Nat => q ∈ L)) [.ref h0, .int 1].toArray s 0 0 (fun q : Nat => q ∈ L) = Q
  obtain ⟨f0, hf0⟩ : ∃ g : Nat → va_E, g = f := ⟨_, rfl⟩
  have hw : PW dC dI cI cS cP cA L tg (fun t => t == 3 || t == 4) f0 s.heap f s.heap [] := by rw [hf0]; exact PW.start hP hI
  clear hP
  refine lv_iload_n hx hb dX2_takeSpans_0 rfl (lv_at hl 1 rfl) ?_
  refine lv_aload_n hx hb dX2_takeSpans_1 rfl (lv_at hl 0 rfl) ?_
  refine tp_get (ci := 1) (C := RX2) (T := TX2) (N := 14) hx hb hts hin_X2 hown hK hw hm_h0 4 ht_h0 (fun _ => rfl) rfl 3 (by decide) rfl (hts (.fieldLink RX2 49 "DayBench$Search" "events" "I") (by decide +kernel)) (fun _ h9 => h9) dX2_takeSpans_2 (fun v_1 hf_2 hv_3 => ?_)
  obtain ⟨k_4, ek_4, hk_k_4⟩ := hv_3
  subst ek_4
  clear hf_2
  refine lv_icmp_lt (tgt := 13) hx hb dX2_takeSpans_5 (by decide) (fun h_5 => ?_) (fun h_5 => ?_)
  · have nh_5 : 1 < k_4 := (nI_ltI (a := 1) (b := k_4) (by omega) (by omega)).mp h_5
    refine lv_iconst (v := 0) hx hb dX2_takeSpans_13 (by decide) ?_
    refine lv_istore_n (lv' := [(2, .int 0), (0, .ref h0), (1, .int 1)]) hx hb dX2_takeSpans_14 rfl hl (by decide) rfl (fun ls hl => ?_)
    have hl_15 : ∀ (fu : Nat) (i : Nat), 10 - i < fu → (i ≤ 10) → ∀ (f : Nat → va_E) (H : Heap) (locs : List Loc) (ls : Array Slot), PW dC dI cI cS cP cA L tg (fun t => t == 3 || t == 4) f0 s.heap f H locs → lv_has ls 3 [(2, .int (nI i)), (0, .ref h0), (1, .int 1)] → W p l e (headSpec wsX2_takeSpans ({ frames := 7, cells := 0, slots := 0, locals := 148 })).room s m [.ref h0, .int 1].toArray below meth c H locs 0 0 Q (F0 m 15 ls []) := by
      intro fu
      induction fu with
      | zero => intro i hm9; exact absurd hm9 (Nat.not_lt_zero _)
      | succ fu ih_15 =>
        intro i hm_15 h_i f H locs ls hw hl
        refine lv_iload_n hx hb dX2_takeSpans_15 rfl (lv_at hl 0 rfl) ?_
        refine lv_aload_n hx hb dX2_takeSpans_16 rfl (lv_at hl 1 rfl) ?_
        refine tp_get (ci := 1) (C := RX2) (T := TX2) (N := 14) hx hb hts hin_X2 hown hK hw hm_h0 4 ht_h0 (fun _ => rfl) rfl 8 (by decide) rfl (hts (.fieldLink RX2 20 "DayBench$Search" "spans" "[LDayBench$Spans;") (by decide +kernel)) (fun _ h9 => h9) dX2_takeSpans_17 (fun v_6 hf_7 hv_8 => ?_)
        obtain ⟨b_9, eb_9, hm_b_9, ht_b_9⟩ := hv_8
        subst eb_9
        refine lv_iload_n hx hb dX2_takeSpans_20 rfl (lv_at hl 2 rfl) ?_
        refine tp_aald hx hb hK hw hm_b_9 10 ht_b_9 2 (n := 6) (t' := 1) (fun _ => rfl) rfl rfl (by unfold vp_in; decide) dX2_takeSpans_21 (fun b_10 hf_11 hm_b_10 ht_b_10 => ?_)
        clear hf_11
        refine tp_get (ci := 3) (C := RX4) (T := TX4) (N := 3) hx hb hts hin_X4 hown hK hw hm_b_10 1 ht_b_10 (fun _ => rfl) rfl 2 (by decide) rfl (hts (.fieldLink RX2 128 "DayBench$Spans" "size" "I") (by decide +kernel)) (fun _ h9 => h9) dX2_takeSpans_22 (fun v_12 hf_13 hv_14 => ?_)
        obtain ⟨k_15, ek_15, hk_k_15⟩ := hv_14
        subst ek_15
        clear hf_13
        refine lv_icmp_ge (tgt := 126) hx hb dX2_takeSpans_25 (by decide) (fun h_16 => ?_) (fun h_16 => ?_)
        · have nh_16 : k_15 ≤ i := (nI_leI (a := k_15) (b := i) (by omega) (by omega)).mp h_16
          subst hQ
          have hI9 := hw.2.1
          have hF9 := hw.2.2.1
          have hS9 := hw.2.2.2
          rw [hf0] at hF9
          exact W.vret hx hb hr (fun t ht hW => ⟨⟨_, rfl, ⟨hI9, hF9⟩, hw.at ht⟩, hS9.F ht⟩) hS9.2.2 dX2_takeSpans_126
        · have nh_16 : ¬ k_15 ≤ i := fun q9 => h_16 ((nI_leI (a := k_15) (b := i) (by omega) (by omega)).mpr q9)
          refine lv_aload_n hx hb dX2_takeSpans_28 rfl (lv_at hl 1 rfl) ?_
          refine tp_get (ci := 1) (C := RX2) (T := TX2) (N := 14) hx hb hts hin_X2 hown hK hw hm_h0 4 ht_h0 (fun _ => rfl) rfl 2 (by decide) rfl (hts (.fieldLink RX2 53 "DayBench$Search" "looks" "I") (by decide +kernel)) (fun _ h9 => h9) dX2_takeSpans_29 (fun v_17 hf_18 hv_19 => ?_)
          obtain ⟨y_20, ey_20⟩ := hv_19
          subst ey_20
          clear hf_18
          refine lv_sipush (v := 20000) hx hb dX2_takeSpans_32 (by decide) ?_
          refine lv_icmp_lt (tgt := 44) hx hb dX2_takeSpans_35 (by decide) (fun h_21 => ?_) (fun h_21 => ?_)
          · refine lv_aload_n hx hb dX2_takeSpans_44 rfl (lv_at hl 1 rfl) ?_
            refine lv_dup hx hb dX2_takeSpans_45 rfl ?_
            refine tp_get (ci := 1) (C := RX2) (T := TX2) (N := 14) hx hb hts hin_X2 hown hK hw hm_h0 4 ht_h0 (fun _ => rfl) rfl 2 (by decide) rfl (hts (.fieldLink RX2 53 "DayBench$Search" "looks" "I") (by decide +kernel)) (fun _ h9 => h9) dX2_takeSpans_46 (fun v_22 hf_23 hv_24 => ?_)
            obtain ⟨y_25, ey_25⟩ := hv_24
            subst ey_25
            clear hf_23
            refine lv_iconst (v := 1) hx hb dX2_takeSpans_49 (by decide) ?_
            refine lv_iadd hx hb dX2_takeSpans_50 ?_
            refine lv_topi (fun x_26 ex_26 => ?_)
            refine tp_put (ci := 1) (C := RX2) (T := TX2) (N := 14) (v := .int x_26) (ty := .int) hx hb hts hin_X2 tyX2 tyX2_ok nmX2 hown hN hK hw hm_h0 4 ht_h0 rfl (fun _ => rfl) rfl 2 (by decide) rfl (hts (.fieldLink RX2 53 "DayBench$Search" "looks" "I") (by decide +kernel)) (fun _ h9 => h9) rfl (by decide +kernel) rfl rfl ⟨_, rfl⟩ dX2_takeSpans_51 (fun H locs f hw ho_27 hn_28 hs_29 => ?_)
            have hf_7 := (hs_29 8 (by decide)).trans hf_7
            clear ho_27 hs_29 hn_28
            refine lv_aload_n hx hb dX2_takeSpans_54 rfl (lv_at hl 1 rfl) ?_
            refine tp_get (ci := 1) (C := RX2) (T := TX2) (N := 14) hx hb hts hin_X2 hown hK hw hm_h0 4 ht_h0 (fun _ => rfl) rfl 7 (by decide) rfl (hts (.fieldLink RX2 85 "DayBench$Search" "together" "Z") (by decide +kernel)) (fun _ h9 => h9) dX2_takeSpans_55 (fun v_30 hf_31 hv_32 => ?_)
            obtain ⟨y_33, ey_33, hb_y_33⟩ := hv_32
            subst ey_33
            clear hf_31
            refine lv_if_eq (tgt := 98) hx hb dX2_takeSpans_58 (by decide) (fun h_34 => ?_) (fun h_34 => ?_)
            · refine lv_aload_n hx hb dX2_takeSpans_98 rfl (lv_at hl 1 rfl) ?_
              refine tp_get (ci := 1) (C := RX2) (T := TX2) (N := 14) hx hb hts hin_X2 hown hK hw hm_h0 4 ht_h0 (fun _ => rfl) rfl 4 (by decide) rfl (hts (.fieldLink RX2 56 "DayBench$Search" "spent" "Z") (by decide +kernel)) (fun _ h9 => h9) dX2_takeSpans_99 (fun v_35 hf_36 hv_37 => ?_)
              obtain ⟨y_38, ey_38, hb_y_38⟩ := hv_37
              subst ey_38
              clear hf_36
              refine lv_if_ne (tgt := 119) hx hb dX2_takeSpans_102 (by decide) (fun h_39 => ?_) (fun h_39 => ?_)
              · subst hQ
                have hI9 := hw.2.1
                have hF9 := hw.2.2.1
                have hS9 := hw.2.2.2
                rw [hf0] at hF9
                exact W.vret hx hb hr (fun t ht hW => ⟨⟨_, rfl, ⟨hI9, hF9⟩, hw.at ht⟩, hS9.F ht⟩) hS9.2.2 dX2_takeSpans_119
              · refine lv_aload_n hx hb dX2_takeSpans_105 rfl (lv_at hl 1 rfl) ?_
                refine tp_get (ci := 1) (C := RX2) (T := TX2) (N := 14) hx hb hts hin_X2 hown hK hw hm_h0 4 ht_h0 (fun _ => rfl) rfl 6 (by decide) rfl (hts (.fieldLink RX2 115 "DayBench$Search" "tillOne" "Z") (by decide +kernel)) (fun _ h9 => h9) dX2_takeSpans_106 (fun v_40 hf_41 hv_42 => ?_)
                obtain ⟨y_43, ey_43, hb_y_43⟩ := hv_42
                subst ey_43
                clear hf_41
                refine lv_if_eq (tgt := 120) hx hb dX2_takeSpans_109 (by decide) (fun h_44 => ?_) (fun h_44 => ?_)
                · refine lv_iinc (v := nI (i + 1)) (lv' := [(2, .int (nI (i + 1))), (0, .ref h0), (1, .int 1)]) hx hb dX2_takeSpans_120 hl (k := 0) rfl (nI_1 _) (by decide) rfl (fun ls hl => ?_)
                  refine lv_goto (tgt := 15) hx hb dX2_takeSpans_123 (by decide) ?_
                  exact ih_15 ((i + 1)) (by omega) (by omega) _ _ _ ls hw (lv_sub hl [0, 1, 2] rfl)
                · refine lv_aload_n hx hb dX2_takeSpans_112 rfl (lv_at hl 1 rfl) ?_
                  refine tp_get (ci := 1) (C := RX2) (T := TX2) (N := 14) hx hb hts hin_X2 hown hK hw hm_h0 4 ht_h0 (fun _ => rfl) rfl 5 (by decide) rfl (hts (.fieldLink RX2 118 "DayBench$Search" "found" "Z") (by decide +kernel)) (fun _ h9 => h9) dX2_takeSpans_113 (fun v_45 hf_46 hv_47 => ?_)
                  obtain ⟨y_48, ey_48, hb_y_48⟩ := hv_47
                  subst ey_48
                  clear hf_46
                  refine lv_if_eq (tgt := 120) hx hb dX2_takeSpans_116 (by decide) (fun h_49 => ?_) (fun h_49 => ?_)
                  · refine lv_iinc (v := nI (i + 1)) (lv' := [(2, .int (nI (i + 1))), (0, .ref h0), (1, .int 1)]) hx hb dX2_takeSpans_120 hl (k := 0) rfl (nI_1 _) (by decide) rfl (fun ls hl => ?_)
                    refine lv_goto (tgt := 15) hx hb dX2_takeSpans_123 (by decide) ?_
                    exact ih_15 ((i + 1)) (by omega) (by omega) _ _ _ ls hw (lv_sub hl [0, 1, 2] rfl)
                  · subst hQ
                    have hI9 := hw.2.1
                    have hF9 := hw.2.2.1
                    have hS9 := hw.2.2.2
                    rw [hf0] at hF9
                    exact W.vret hx hb hr (fun t ht hW => ⟨⟨_, rfl, ⟨hI9, hF9⟩, hw.at ht⟩, hS9.F ht⟩) hS9.2.2 dX2_takeSpans_119
            · refine lv_aload_n hx hb dX2_takeSpans_61 rfl (lv_at hl 1 rfl) ?_
              refine lv_iload_n hx hb dX2_takeSpans_62 rfl (lv_at hl 2 rfl) ?_
              refine lv_aload_n hx hb dX2_takeSpans_63 rfl (lv_at hl 1 rfl) ?_
              refine tp_getK (ci := 1) (C := RX2) (T := TX2) (N := 14) hx hb hts hin_X2 hown hK hw hm_h0 4 ht_h0 (fun _ => rfl) rfl 8 (by decide) hf_7 (hts (.fieldLink RX2 20 "DayBench$Search" "spans" "[LDayBench$Spans;") (by decide +kernel)) (fun _ h9 => h9) dX2_takeSpans_64 ?_
              refine lv_iload_n hx hb dX2_takeSpans_67 rfl (lv_at hl 2 rfl) ?_
              refine tp_aald hx hb hK hw hm_b_9 10 ht_b_9 2 (n := 6) (t' := 1) (fun _ => rfl) rfl rfl (by unfold vp_in; decide) dX2_takeSpans_68 (fun b_50 hf_51 hm_b_50 ht_b_50 => ?_)
              clear hf_51
              refine tp_get (ci := 3) (C := RX4) (T := TX4) (N := 3) hx hb hts hin_X4 hown hK hw hm_b_50 1 ht_b_50 (fun _ => rfl) rfl 0 (by decide) rfl (hts (.fieldLink RX2 131 "DayBench$Spans" "from" "[I") (by decide +kernel)) (fun _ h9 => h9) dX2_takeSpans_69 (fun v_52 hf_53 hv_54 => ?_)
              obtain ⟨b_55, eb_55, hm_b_55, ht_b_55⟩ := hv_54
              subst eb_55
              refine lv_iload_n hx hb dX2_takeSpans_72 rfl (lv_at hl 0 rfl) ?_
              refine tp_iald hx hb hK hw hm_b_55 2 ht_b_55 (n := 10) (fun _ => rfl) (vp_in_nI (by omega) (by omega)) dX2_takeSpans_73 (fun y_56 => ?_)
              refine lv_aload_n hx hb dX2_takeSpans_74 rfl (lv_at hl 1 rfl) ?_
              refine tp_getK (ci := 1) (C := RX2) (T := TX2) (N := 14) hx hb hts hin_X2 hown hK hw hm_h0 4 ht_h0 (fun _ => rfl) rfl 8 (by decide) hf_7 (hts (.fieldLink RX2 20 "DayBench$Search" "spans" "[LDayBench$Spans;") (by decide +kernel)) (fun _ h9 => h9) dX2_takeSpans_75 ?_
              refine lv_iload_n hx hb dX2_takeSpans_78 rfl (lv_at hl 2 rfl) ?_
              refine tp_aald hx hb hK hw hm_b_9 10 ht_b_9 2 (n := 6) (t' := 1) (fun _ => rfl) rfl rfl (by unfold vp_in; decide) dX2_takeSpans_79 (fun b_57 hf_58 hm_b_57 ht_b_57 => ?_)
              clear hf_58
              refine tp_get (ci := 3) (C := RX4) (T := TX4) (N := 3) hx hb hts hin_X4 hown hK hw hm_b_57 1 ht_b_57 (fun _ => rfl) rfl 1 (by decide) rfl (hts (.fieldLink RX2 134 "DayBench$Spans" "to" "[I") (by decide +kernel)) (fun _ h9 => h9) dX2_takeSpans_80 (fun v_59 hf_60 hv_61 => ?_)
              obtain ⟨b_62, eb_62, hm_b_62, ht_b_62⟩ := hv_61
              subst eb_62
              refine lv_iload_n hx hb dX2_takeSpans_83 rfl (lv_at hl 0 rfl) ?_
              refine tp_iald hx hb hK hw hm_b_62 2 ht_b_62 (n := 10) (fun _ => rfl) (vp_in_nI (by omega) (by omega)) dX2_takeSpans_84 (fun y_63 => ?_)
              refine va_calli (va_runV (As := [.int 1, .int y_56, .int y_63]) (rest := []) ⟨hx, hb, hml, hown, hts⟩ (k_X2_narrow l dC dI cI cS cP cA L tg f hN hT hw.2.1 h0 hm_h0 ht_h0 1 (by first | omega | decide) y_56 y_63) (cwV 3 hts gX2_takeSpans_X2_narrow rfl rfl rfl (by decide +kernel) ⟨Nat.le_of_ble_eq_true rfl, Nat.le_of_ble_eq_true rfl⟩) ⟨tPre_blind, tp_recv hK hw hm_h0 4 ht_h0 (ci := 1) (fun _ => rfl) rfl, fun U hU hW => ⟨rfl, tPre_at hw hK hcm hU hW⟩⟩ rfl rfl hl.1 rfl (lv_room (Nat.le_of_ble_eq_true rfl)) dX2_takeSpans_85 ⟨Nat.le_of_ble_eq_true rfl, Nat.le_of_ble_eq_true rfl⟩) hw.2.2.2 (fun q _ h => h) (fun q h => h) (fun r_64 f t H locs ht hvm hp hB hz1 hk1 hS1 => ?_)
              obtain ⟨hI1, hF1, hr_64⟩ := hp
              have hw := hw.back (S' := (fun t => t == 3)) (by decide) hT hI1 hF1 hB ht hS1
              have hf_7 : fld (f h0) 8 = some (.ref b_9) := by rw [hF1 h0 hm_h0 (by rw [ht_h0]; rfl)]; exact hf_7
              have hf_53 : fld (f b_50) 0 = some (.ref b_55) := by rw [hF1 b_50 hm_b_50 (by rw [ht_b_50]; rfl)]; exact hf_53
              have hf_60 : fld (f b_57) 1 = some (.ref b_62) := by rw [hF1 b_57 hm_b_57 (by rw [ht_b_57]; rfl)]; exact hf_60
              clear hI1 hF1 hB ht hz1 hk1 hS1 hvm
              refine lv_if_eq (tgt := 98) hx hb dX2_takeSpans_88 (by decide) (fun h_65 => ?_) (fun h_65 => ?_)
              · refine lv_aload_n hx hb dX2_takeSpans_98 rfl (lv_at hl 1 rfl) ?_
                refine tp_get (ci := 1) (C := RX2) (T := TX2) (N := 14) hx hb hts hin_X2 hown hK hw hm_h0 4 ht_h0 (fun _ => rfl) rfl 4 (by decide) rfl (hts (.fieldLink RX2 56 "DayBench$Search" "spent" "Z") (by decide +kernel)) (fun _ h9 => h9) dX2_takeSpans_99 (fun v_66 hf_67 hv_68 => ?_)
                obtain ⟨y_69, ey_69, hb_y_69⟩ := hv_68
                subst ey_69
                clear hf_67
                refine lv_if_ne (tgt := 119) hx hb dX2_takeSpans_102 (by decide) (fun h_70 => ?_) (fun h_70 => ?_)
                · subst hQ
                  have hI9 := hw.2.1
                  have hF9 := hw.2.2.1
                  have hS9 := hw.2.2.2
                  rw [hf0] at hF9
                  exact W.vret hx hb hr (fun t ht hW => ⟨⟨_, rfl, ⟨hI9, hF9⟩, hw.at ht⟩, hS9.F ht⟩) hS9.2.2 dX2_takeSpans_119
                · refine lv_aload_n hx hb dX2_takeSpans_105 rfl (lv_at hl 1 rfl) ?_
                  refine tp_get (ci := 1) (C := RX2) (T := TX2) (N := 14) hx hb hts hin_X2 hown hK hw hm_h0 4 ht_h0 (fun _ => rfl) rfl 6 (by decide) rfl (hts (.fieldLink RX2 115 "DayBench$Search" "tillOne" "Z") (by decide +kernel)) (fun _ h9 => h9) dX2_takeSpans_106 (fun v_71 hf_72 hv_73 => ?_)
                  obtain ⟨y_74, ey_74, hb_y_74⟩ := hv_73
                  subst ey_74
                  clear hf_72
                  refine lv_if_eq (tgt := 120) hx hb dX2_takeSpans_109 (by decide) (fun h_75 => ?_) (fun h_75 => ?_)
                  · refine lv_iinc (v := nI (i + 1)) (lv' := [(2, .int (nI (i + 1))), (0, .ref h0), (1, .int 1)]) hx hb dX2_takeSpans_120 hl (k := 0) rfl (nI_1 _) (by decide) rfl (fun ls hl => ?_)
                    refine lv_goto (tgt := 15) hx hb dX2_takeSpans_123 (by decide) ?_
                    exact ih_15 ((i + 1)) (by omega) (by omega) _ _ _ ls hw (lv_sub hl [0, 1, 2] rfl)
                  · refine lv_aload_n hx hb dX2_takeSpans_112 rfl (lv_at hl 1 rfl) ?_
                    refine tp_get (ci := 1) (C := RX2) (T := TX2) (N := 14) hx hb hts hin_X2 hown hK hw hm_h0 4 ht_h0 (fun _ => rfl) rfl 5 (by decide) rfl (hts (.fieldLink RX2 118 "DayBench$Search" "found" "Z") (by decide +kernel)) (fun _ h9 => h9) dX2_takeSpans_113 (fun v_76 hf_77 hv_78 => ?_)
                    obtain ⟨y_79, ey_79, hb_y_79⟩ := hv_78
                    subst ey_79
                    clear hf_77
                    refine lv_if_eq (tgt := 120) hx hb dX2_takeSpans_116 (by decide) (fun h_80 => ?_) (fun h_80 => ?_)
                    · refine lv_iinc (v := nI (i + 1)) (lv' := [(2, .int (nI (i + 1))), (0, .ref h0), (1, .int 1)]) hx hb dX2_takeSpans_120 hl (k := 0) rfl (nI_1 _) (by decide) rfl (fun ls hl => ?_)
                      refine lv_goto (tgt := 15) hx hb dX2_takeSpans_123 (by decide) ?_
                      exact ih_15 ((i + 1)) (by omega) (by omega) _ _ _ ls hw (lv_sub hl [0, 1, 2] rfl)
                    · subst hQ
                      have hI9 := hw.2.1
                      have hF9 := hw.2.2.1
                      have hS9 := hw.2.2.2
                      rw [hf0] at hF9
                      exact W.vret hx hb hr (fun t ht hW => ⟨⟨_, rfl, ⟨hI9, hF9⟩, hw.at ht⟩, hS9.F ht⟩) hS9.2.2 dX2_takeSpans_119
              · refine lv_aload_n hx hb dX2_takeSpans_91 rfl (lv_at hl 1 rfl) ?_
                refine lv_iload_n hx hb dX2_takeSpans_92 rfl (lv_at hl 2 rfl) ?_
                refine lv_iconst (v := 1) hx hb dX2_takeSpans_93 (by decide) ?_
                refine lv_iadd hx hb dX2_takeSpans_94 ?_
                refine lv_topi (fun x_81 ex_81 => ?_)
                have ex_81 : x_81 = 2 := ex_81.trans (by decide)
                subst ex_81
                refine va_callv (va_runV (As := [.int 2]) (rest := []) ⟨hx, hb, hml, hown, hts⟩ (k_X2_takeSpans_2 l dC dI cI cS cP cA L tg f hN hT hw.2.1 h0 hm_h0 ht_h0) (cwV 1 hts gX2_takeSpans_X2_takeSpans rfl rfl rfl (by decide +kernel) ⟨Nat.le_of_ble_eq_true rfl, Nat.le_of_ble_eq_true rfl⟩) ⟨tPre_blind, tp_recv hK hw hm_h0 4 ht_h0 (ci := 1) (fun _ => rfl) rfl, fun U hU hW => ⟨rfl, tPre_at hw hK hcm hU hW⟩⟩ rfl rfl hl.1 rfl (lv_room (Nat.le_of_ble_eq_true rfl)) dX2_takeSpans_95 ⟨Nat.le_of_ble_eq_true rfl, Nat.le_of_ble_eq_true rfl⟩) hw.2.2.2 (fun q _ h => h) (fun q h => h) (fun f t H locs ht hvm hp hB hz1 hk1 hS1 => ?_)
                obtain ⟨hI1, hF1⟩ := hp
                have hw := hw.back (S' := (fun t => t == 3 || t == 4)) (by decide) hT hI1 hF1 hB ht hS1
                have hf_53 : fld (f b_50) 0 = some (.ref b_55) := by rw [hF1 b_50 hm_b_50 (by rw [ht_b_50]; rfl)]; exact hf_53
                have hf_60 : fld (f b_57) 1 = some (.ref b_62) := by rw [hF1 b_57 hm_b_57 (by rw [ht_b_57]; rfl)]; exact hf_60
                clear hI1 hF1 hB ht hz1 hk1 hS1 hvm
                refine lv_aload_n hx hb dX2_takeSpans_98 rfl (lv_at hl 1 rfl) ?_
                refine tp_get (ci := 1) (C := RX2) (T := TX2) (N := 14) hx hb hts hin_X2 hown hK hw hm_h0 4 ht_h0 (fun _ => rfl) rfl 4 (by decide) rfl (hts (.fieldLink RX2 56 "DayBench$Search" "spent" "Z") (by decide +kernel)) (fun _ h9 => h9) dX2_takeSpans_99 (fun v_83 hf_84 hv_85 => ?_)
                obtain ⟨y_86, ey_86, hb_y_86⟩ := hv_85
                subst ey_86
                clear hf_84
                refine lv_if_ne (tgt := 119) hx hb dX2_takeSpans_102 (by decide) (fun h_87 => ?_) (fun h_87 => ?_)
                · subst hQ
                  have hI9 := hw.2.1
                  have hF9 := hw.2.2.1
                  have hS9 := hw.2.2.2
                  rw [hf0] at hF9
                  exact W.vret hx hb hr (fun t ht hW => ⟨⟨_, rfl, ⟨hI9, hF9⟩, hw.at ht⟩, hS9.F ht⟩) hS9.2.2 dX2_takeSpans_119
                · refine lv_aload_n hx hb dX2_takeSpans_105 rfl (lv_at hl 1 rfl) ?_
                  refine tp_get (ci := 1) (C := RX2) (T := TX2) (N := 14) hx hb hts hin_X2 hown hK hw hm_h0 4 ht_h0 (fun _ => rfl) rfl 6 (by decide) rfl (hts (.fieldLink RX2 115 "DayBench$Search" "tillOne" "Z") (by decide +kernel)) (fun _ h9 => h9) dX2_takeSpans_106 (fun v_88 hf_89 hv_90 => ?_)
                  obtain ⟨y_91, ey_91, hb_y_91⟩ := hv_90
                  subst ey_91
                  clear hf_89
                  refine lv_if_eq (tgt := 120) hx hb dX2_takeSpans_109 (by decide) (fun h_92 => ?_) (fun h_92 => ?_)
                  · refine lv_iinc (v := nI (i + 1)) (lv' := [(2, .int (nI (i + 1))), (0, .ref h0), (1, .int 1)]) hx hb dX2_takeSpans_120 hl (k := 0) rfl (nI_1 _) (by decide) rfl (fun ls hl => ?_)
                    refine lv_goto (tgt := 15) hx hb dX2_takeSpans_123 (by decide) ?_
                    exact ih_15 ((i + 1)) (by omega) (by omega) _ _ _ ls hw (lv_sub hl [0, 1, 2] rfl)
                  · refine lv_aload_n hx hb dX2_takeSpans_112 rfl (lv_at hl 1 rfl) ?_
                    refine tp_get (ci := 1) (C := RX2) (T := TX2) (N := 14) hx hb hts hin_X2 hown hK hw hm_h0 4 ht_h0 (fun _ => rfl) rfl 5 (by decide) rfl (hts (.fieldLink RX2 118 "DayBench$Search" "found" "Z") (by decide +kernel)) (fun _ h9 => h9) dX2_takeSpans_113 (fun v_93 hf_94 hv_95 => ?_)
                    obtain ⟨y_96, ey_96, hb_y_96⟩ := hv_95
                    subst ey_96
                    clear hf_94
                    refine lv_if_eq (tgt := 120) hx hb dX2_takeSpans_116 (by decide) (fun h_97 => ?_) (fun h_97 => ?_)
                    · refine lv_iinc (v := nI (i + 1)) (lv' := [(2, .int (nI (i + 1))), (0, .ref h0), (1, .int 1)]) hx hb dX2_takeSpans_120 hl (k := 0) rfl (nI_1 _) (by decide) rfl (fun ls hl => ?_)
                      refine lv_goto (tgt := 15) hx hb dX2_takeSpans_123 (by decide) ?_
                      exact ih_15 ((i + 1)) (by omega) (by omega) _ _ _ ls hw (lv_sub hl [0, 1, 2] rfl)
                    · subst hQ
                      have hI9 := hw.2.1
                      have hF9 := hw.2.2.1
                      have hS9 := hw.2.2.2
                      rw [hf0] at hF9
                      exact W.vret hx hb hr (fun t ht hW => ⟨⟨_, rfl, ⟨hI9, hF9⟩, hw.at ht⟩, hS9.F ht⟩) hS9.2.2 dX2_takeSpans_119
          · refine lv_aload_n hx hb dX2_takeSpans_38 rfl (lv_at hl 1 rfl) ?_
            refine lv_iconst (v := 1) hx hb dX2_takeSpans_39 (by decide) ?_
            refine tp_put (ci := 1) (C := RX2) (T := TX2) (N := 14) (v := .int 1) (ty := .boolean) hx hb hts hin_X2 tyX2 tyX2_ok nmX2 hown hN hK hw hm_h0 4 ht_h0 rfl (fun _ => rfl) rfl 4 (by decide) rfl (hts (.fieldLink RX2 56 "DayBench$Search" "spent" "Z") (by decide +kernel)) (fun _ h9 => h9) rfl (by decide +kernel) rfl rfl ⟨_, rfl, Or.inr rfl⟩ dX2_takeSpans_40 (fun H locs f hw ho_98 hn_99 hs_100 => ?_)
            have hf_7 := (hs_100 8 (by decide)).trans hf_7
            clear ho_98 hs_100 hn_99
            subst hQ
            have hI9 := hw.2.1
            have hF9 := hw.2.2.1
            have hS9 := hw.2.2.2
            rw [hf0] at hF9
            exact W.vret hx hb hr (fun t ht hW => ⟨⟨_, rfl, ⟨hI9, hF9⟩, hw.at ht⟩, hS9.F ht⟩) hS9.2.2 dX2_takeSpans_43
    exact hl_15 _ 0 (Nat.lt_succ_self _) (by omega) _ _ _ ls hw (lv_sub hl [0, 1, 2] rfl)
  · have nh_5 : ¬ 1 < k_4 := fun q9 => h_5 ((nI_ltI (a := 1) (b := k_4) (by omega) (by omega)).mpr q9)
    refine lv_aload_n hx hb dX2_takeSpans_8 rfl (lv_at hl 0 rfl) ?_
    refine va_callv (va_runV (As := []) (rest := []) ⟨hx, hb, hml, hown, hts⟩ (k_X2_noteWay l dC dI cI cS cP cA L tg f hN hT hw.2.1 h0 hm_h0 ht_h0) (cwV 0 hts gX2_takeSpans_X2_noteWay rfl rfl rfl (by decide +kernel) ⟨Nat.le_of_ble_eq_true rfl, Nat.le_of_ble_eq_true rfl⟩) ⟨tPre_blind, tp_recv hK hw hm_h0 4 ht_h0 (ci := 1) (fun _ => rfl) rfl, fun U hU hW => ⟨rfl, tPre_at hw hK hcm hU hW⟩⟩ rfl rfl hl.1 rfl (lv_room (Nat.le_of_ble_eq_true rfl)) dX2_takeSpans_9 ⟨Nat.le_of_ble_eq_true rfl, Nat.le_of_ble_eq_true rfl⟩) hw.2.2.2 (fun q _ h => h) (fun q h => h) (fun f t H locs ht hvm hp hB hz1 hk1 hS1 => ?_)
    obtain ⟨hI1, hF1⟩ := hp
    have hw := hw.back (S' := (fun t => t == 3 || t == 4)) (by decide) hT hI1 hF1 hB ht hS1
    clear hI1 hF1 hB ht hz1 hk1 hS1 hvm
    subst hQ
    have hI9 := hw.2.1
    have hF9 := hw.2.2.1
    have hS9 := hw.2.2.2
    rw [hf0] at hF9
    exact W.vret hx hb hr (fun t ht hW => ⟨⟨_, rfl, ⟨hI9, hF9⟩, hw.at ht⟩, hS9.F ht⟩) hS9.2.2 dX2_takeSpans_12

set_option maxHeartbeats 4000000 in
set_option maxRecDepth 100000 in
theorem k_X2_takeSpans_0 (l : Launch) (dC : Nat → ClassId) (dI : Nat → Nat → Nat) (cI cS cP cA : ClassId) (L : List Nat) (tg : Nat → Nat) (f : Nat → va_E) (hN : L.Nodup) (hT : ∀ a : Nat, a ∈ L → tg a < 13) (hI : PI cI cS cP cA L tg f) (h0 : Nat) (hm_h0 : h0 ∈ L) (ht_h0 : tg h0 = 4) : Met l yX2_takeSpans wsX2_takeSpans ({ frames := 8, cells := 0, slots := 0, locals := 170 }) (va_Pc [.ref h0, .int 0] (tPre dC dI cI cS cP cA L f)) (va_Qv (fun (f' : Nat → va_E) => PI cI cS cP cA L tg f' ∧ Fr L tg (fun t => t == 3 || t == 4) f f') (fun (f' : Nat → va_E) t => va_P (dC, dI) vwCl (va_pl L f') t.heap) (fun q : Nat => q ∈ L)) 0 0 (fun q : Nat => q ∈ L) := by
  refine Met.ofW (cc := cX2_takeSpans) (maxL := 3) (ret := none) (by decide) rfl ?_
  intro p e s m args below meth c s₁ B hml hv
  obtain ⟨rfl, hP, hK, hcm⟩ := hv
  have hx := B.exec
  have hb := B.bytes
  have hr := B.returns
  have hts := atoms_spec (ws := wsX2_takeSpans) B.pre
  have hown : s.vm.findClass RX2 = some m.cls := findClass_of_methodNamed B.named
  have hlocks := B.notSynchronized
  have hin_X2 : ∀ w ∈ u_ws RX2 TX2 14, w ∈ wsX2_takeSpans := by decide +kernel
  have hin_X4 : ∀ w ∈ u_ws RX4 TX4 3, w ∈ wsX2_takeSpans := by decide +kernel
  have hl := lv_entry ([.ref h0, .int 0]) (n := 3) (Nat.le_of_ble_eq_true rfl)
  rw [lg_entry_eq]
  generalize (lg_sl ([.ref h0, .int 0]) ++ List.replicate (3 - (lg_sl ([.ref h0, .int 0])).length) Slot.unset).toArray = ls at hl ⊢
  have hl : lv_has ls 3 [(0, .ref h0), (1, .int 0)] := hl
  generalize hQ : MQ below (va_Qv (fun (f' : Nat → va_E) => PI cI cS cP cA L tg f' ∧ Fr L tg (fun t => t == 3 || t == 4) f f') (fun (f' : Nat → va_E) t => va_P (dC, dI) vwCl (va_pl L f') t.heap) (fun q : Nat => q ∈ L)) [.ref h0, .int 0].toArray s 0 0 (fun q : Nat => q ∈ L) = Q
  obtain ⟨f0, hf0⟩ : ∃ g : Nat → va_E, g = f := ⟨_, rfl⟩
  have hw : PW dC dI cI cS cP cA L tg (fun t => t == 3 || t == 4) f0 s.heap f s.heap [] := by rw [hf0]; exact PW.start hP hI
  clear hP
  refine lv_iload_n hx hb dX2_takeSpans_0 rfl (lv_at hl 1 rfl) ?_
  refine lv_aload_n hx hb dX2_takeSpans_1 rfl (lv_at hl 0 rfl) ?_
  refine tp_get (ci := 1) (C := RX2) (T := TX2) (N := 14) hx hb hts hin_X2 hown hK hw hm_h0 4 ht_h0 (fun _ => rfl) rfl 3 (by decide) rfl (hts (.fieldLink RX2 49 "DayBench$Search" "events" "I") (by decide +kernel)) (fun _ h9 => h9) dX2_takeSpans_2 (fun v_1 hf_2 hv_3 => ?_)
  obtain ⟨k_4, ek_4, hk_k_4⟩ := hv_3
  subst ek_4
  clear hf_2
  refine lv_icmp_lt (tgt := 13) hx hb dX2_takeSpans_5 (by decide) (fun h_5 => ?_) (fun h_5 => ?_)
  · have nh_5 : 0 < k_4 := (nI_ltI (a := 0) (b := k_4) (by omega) (by omega)).mp h_5
    refine lv_iconst (v := 0) hx hb dX2_takeSpans_13 (by decide) ?_
    refine lv_istore_n (lv' := [(2, .int 0), (0, .ref h0), (1, .int 0)]) hx hb dX2_takeSpans_14 rfl hl (by decide) rfl (fun ls hl => ?_)
    have hl_15 : ∀ (fu : Nat) (i : Nat), 10 - i < fu → (i ≤ 10) → ∀ (f : Nat → va_E) (H : Heap) (locs : List Loc) (ls : Array Slot), PW dC dI cI cS cP cA L tg (fun t => t == 3 || t == 4) f0 s.heap f H locs → lv_has ls 3 [(2, .int (nI i)), (0, .ref h0), (1, .int 0)] → W p l e (headSpec wsX2_takeSpans ({ frames := 8, cells := 0, slots := 0, locals := 170 })).room s m [.ref h0, .int 0].toArray below meth c H locs 0 0 Q (F0 m 15 ls []) := by
      intro fu
      induction fu with
      | zero => intro i hm9; exact absurd hm9 (Nat.not_lt_zero _)
      | succ fu ih_15 =>
        intro i hm_15 h_i f H locs ls hw hl
        refine lv_iload_n hx hb dX2_takeSpans_15 rfl (lv_at hl 0 rfl) ?_
        refine lv_aload_n hx hb dX2_takeSpans_16 rfl (lv_at hl 1 rfl) ?_
        refine tp_get (ci := 1) (C := RX2) (T := TX2) (N := 14) hx hb hts hin_X2 hown hK hw hm_h0 4 ht_h0 (fun _ => rfl) rfl 8 (by decide) rfl (hts (.fieldLink RX2 20 "DayBench$Search" "spans" "[LDayBench$Spans;") (by decide +kernel)) (fun _ h9 => h9) dX2_takeSpans_17 (fun v_6 hf_7 hv_8 => ?_)
        obtain ⟨b_9, eb_9, hm_b_9, ht_b_9⟩ := hv_8
        subst eb_9
        refine lv_iload_n hx hb dX2_takeSpans_20 rfl (lv_at hl 2 rfl) ?_
        refine tp_aald hx hb hK hw hm_b_9 10 ht_b_9 2 (n := 6) (t' := 1) (fun _ => rfl) rfl rfl (by unfold vp_in; decide) dX2_takeSpans_21 (fun b_10 hf_11 hm_b_10 ht_b_10 => ?_)
        clear hf_11
        refine tp_get (ci := 3) (C := RX4) (T := TX4) (N := 3) hx hb hts hin_X4 hown hK hw hm_b_10 1 ht_b_10 (fun _ => rfl) rfl 2 (by decide) rfl (hts (.fieldLink RX2 128 "DayBench$Spans" "size" "I") (by decide +kernel)) (fun _ h9 => h9) dX2_takeSpans_22 (fun v_12 hf_13 hv_14 => ?_)
        obtain ⟨k_15, ek_15, hk_k_15⟩ := hv_14
        subst ek_15
        clear hf_13
        refine lv_icmp_ge (tgt := 126) hx hb dX2_takeSpans_25 (by decide) (fun h_16 => ?_) (fun h_16 => ?_)
        · have nh_16 : k_15 ≤ i := (nI_leI (a := k_15) (b := i) (by omega) (by omega)).mp h_16
          subst hQ
          have hI9 := hw.2.1
          have hF9 := hw.2.2.1
          have hS9 := hw.2.2.2
          rw [hf0] at hF9
          exact W.vret hx hb hr (fun t ht hW => ⟨⟨_, rfl, ⟨hI9, hF9⟩, hw.at ht⟩, hS9.F ht⟩) hS9.2.2 dX2_takeSpans_126
        · have nh_16 : ¬ k_15 ≤ i := fun q9 => h_16 ((nI_leI (a := k_15) (b := i) (by omega) (by omega)).mpr q9)
          refine lv_aload_n hx hb dX2_takeSpans_28 rfl (lv_at hl 1 rfl) ?_
          refine tp_get (ci := 1) (C := RX2) (T := TX2) (N := 14) hx hb hts hin_X2 hown hK hw hm_h0 4 ht_h0 (fun _ => rfl) rfl 2 (by decide) rfl (hts (.fieldLink RX2 53 "DayBench$Search" "looks" "I") (by decide +kernel)) (fun _ h9 => h9) dX2_takeSpans_29 (fun v_17 hf_18 hv_19 => ?_)
          obtain ⟨y_20, ey_20⟩ := hv_19
          subst ey_20
          clear hf_18
          refine lv_sipush (v := 20000) hx hb dX2_takeSpans_32 (by decide) ?_
          refine lv_icmp_lt (tgt := 44) hx hb dX2_takeSpans_35 (by decide) (fun h_21 => ?_) (fun h_21 => ?_)
          · refine lv_aload_n hx hb dX2_takeSpans_44 rfl (lv_at hl 1 rfl) ?_
            refine lv_dup hx hb dX2_takeSpans_45 rfl ?_
            refine tp_get (ci := 1) (C := RX2) (T := TX2) (N := 14) hx hb hts hin_X2 hown hK hw hm_h0 4 ht_h0 (fun _ => rfl) rfl 2 (by decide) rfl (hts (.fieldLink RX2 53 "DayBench$Search" "looks" "I") (by decide +kernel)) (fun _ h9 => h9) dX2_takeSpans_46 (fun v_22 hf_23 hv_24 => ?_)
            obtain ⟨y_25, ey_25⟩ := hv_24
            subst ey_25
            clear hf_23
            refine lv_iconst (v := 1) hx hb dX2_takeSpans_49 (by decide) ?_
            refine lv_iadd hx hb dX2_takeSpans_50 ?_
            refine lv_topi (fun x_26 ex_26 => ?_)
            refine tp_put (ci := 1) (C := RX2) (T := TX2) (N := 14) (v := .int x_26) (ty := .int) hx hb hts hin_X2 tyX2 tyX2_ok nmX2 hown hN hK hw hm_h0 4 ht_h0 rfl (fun _ => rfl) rfl 2 (by decide) rfl (hts (.fieldLink RX2 53 "DayBench$Search" "looks" "I") (by decide +kernel)) (fun _ h9 => h9) rfl (by decide +kernel) rfl rfl ⟨_, rfl⟩ dX2_takeSpans_51 (fun H locs f hw ho_27 hn_28 hs_29 => ?_)
            have hf_7 := (hs_29 8 (by decide)).trans hf_7
            clear ho_27 hs_29 hn_28
            refine lv_aload_n hx hb dX2_takeSpans_54 rfl (lv_at hl 1 rfl) ?_
            refine tp_get (ci := 1) (C := RX2) (T := TX2) (N := 14) hx hb hts hin_X2 hown hK hw hm_h0 4 ht_h0 (fun _ => rfl) rfl 7 (by decide) rfl (hts (.fieldLink RX2 85 "DayBench$Search" "together" "Z") (by decide +kernel)) (fun _ h9 => h9) dX2_takeSpans_55 (fun v_30 hf_31 hv_32 => ?_)
            obtain ⟨y_33, ey_33, hb_y_33⟩ := hv_32
            subst ey_33
            clear hf_31
            refine lv_if_eq (tgt := 98) hx hb dX2_takeSpans_58 (by decide) (fun h_34 => ?_) (fun h_34 => ?_)
            · refine lv_aload_n hx hb dX2_takeSpans_98 rfl (lv_at hl 1 rfl) ?_
              refine tp_get (ci := 1) (C := RX2) (T := TX2) (N := 14) hx hb hts hin_X2 hown hK hw hm_h0 4 ht_h0 (fun _ => rfl) rfl 4 (by decide) rfl (hts (.fieldLink RX2 56 "DayBench$Search" "spent" "Z") (by decide +kernel)) (fun _ h9 => h9) dX2_takeSpans_99 (fun v_35 hf_36 hv_37 => ?_)
              obtain ⟨y_38, ey_38, hb_y_38⟩ := hv_37
              subst ey_38
              clear hf_36
              refine lv_if_ne (tgt := 119) hx hb dX2_takeSpans_102 (by decide) (fun h_39 => ?_) (fun h_39 => ?_)
              · subst hQ
                have hI9 := hw.2.1
                have hF9 := hw.2.2.1
                have hS9 := hw.2.2.2
                rw [hf0] at hF9
                exact W.vret hx hb hr (fun t ht hW => ⟨⟨_, rfl, ⟨hI9, hF9⟩, hw.at ht⟩, hS9.F ht⟩) hS9.2.2 dX2_takeSpans_119
              · refine lv_aload_n hx hb dX2_takeSpans_105 rfl (lv_at hl 1 rfl) ?_
                refine tp_get (ci := 1) (C := RX2) (T := TX2) (N := 14) hx hb hts hin_X2 hown hK hw hm_h0 4 ht_h0 (fun _ => rfl) rfl 6 (by decide) rfl (hts (.fieldLink RX2 115 "DayBench$Search" "tillOne" "Z") (by decide +kernel)) (fun _ h9 => h9) dX2_takeSpans_106 (fun v_40 hf_41 hv_42 => ?_)
                obtain ⟨y_43, ey_43, hb_y_43⟩ := hv_42
                subst ey_43
                clear hf_41
                refine lv_if_eq (tgt := 120) hx hb dX2_takeSpans_109 (by decide) (fun h_44 => ?_) (fun h_44 => ?_)
                · refine lv_iinc (v := nI (i + 1)) (lv' := [(2, .int (nI (i + 1))), (0, .ref h0), (1, .int 0)]) hx hb dX2_takeSpans_120 hl (k := 0) rfl (nI_1 _) (by decide) rfl (fun ls hl => ?_)
                  refine lv_goto (tgt := 15) hx hb dX2_takeSpans_123 (by decide) ?_
                  exact ih_15 ((i + 1)) (by omega) (by omega) _ _ _ ls hw (lv_sub hl [0, 1, 2] rfl)
                · refine lv_aload_n hx hb dX2_takeSpans_112 rfl (lv_at hl 1 rfl) ?_
                  refine tp_get (ci := 1) (C := RX2) (T := TX2) (N := 14) hx hb hts hin_X2 hown hK hw hm_h0 4 ht_h0 (fun _ => rfl) rfl 5 (by decide) rfl (hts (.fieldLink RX2 118 "DayBench$Search" "found" "Z") (by decide +kernel)) (fun _ h9 => h9) dX2_takeSpans_113 (fun v_45 hf_46 hv_47 => ?_)
                  obtain ⟨y_48, ey_48, hb_y_48⟩ := hv_47
                  subst ey_48
                  clear hf_46
                  refine lv_if_eq (tgt := 120) hx hb dX2_takeSpans_116 (by decide) (fun h_49 => ?_) (fun h_49 => ?_)
                  · refine lv_iinc (v := nI (i + 1)) (lv' := [(2, .int (nI (i + 1))), (0, .ref h0), (1, .int 0)]) hx hb dX2_takeSpans_120 hl (k := 0) rfl (nI_1 _) (by decide) rfl (fun ls hl => ?_)
                    refine lv_goto (tgt := 15) hx hb dX2_takeSpans_123 (by decide) ?_
                    exact ih_15 ((i + 1)) (by omega) (by omega) _ _ _ ls hw (lv_sub hl [0, 1, 2] rfl)
                  · subst hQ
                    have hI9 := hw.2.1
                    have hF9 := hw.2.2.1
                    have hS9 := hw.2.2.2
                    rw [hf0] at hF9
                    exact W.vret hx hb hr (fun t ht hW => ⟨⟨_, rfl, ⟨hI9, hF9⟩, hw.at ht⟩, hS9.F ht⟩) hS9.2.2 dX2_takeSpans_119
            · refine lv_aload_n hx hb dX2_takeSpans_61 rfl (lv_at hl 1 rfl) ?_
              refine lv_iload_n hx hb dX2_takeSpans_62 rfl (lv_at hl 2 rfl) ?_
              refine lv_aload_n hx hb dX2_takeSpans_63 rfl (lv_at hl 1 rfl) ?_
              refine tp_getK (ci := 1) (C := RX2) (T := TX2) (N := 14) hx hb hts hin_X2 hown hK hw hm_h0 4 ht_h0 (fun _ => rfl) rfl 8 (by decide) hf_7 (hts (.fieldLink RX2 20 "DayBench$Search" "spans" "[LDayBench$Spans;") (by decide +kernel)) (fun _ h9 => h9) dX2_takeSpans_64 ?_
              refine lv_iload_n hx hb dX2_takeSpans_67 rfl (lv_at hl 2 rfl) ?_
              refine tp_aald hx hb hK hw hm_b_9 10 ht_b_9 2 (n := 6) (t' := 1) (fun _ => rfl) rfl rfl (by unfold vp_in; decide) dX2_takeSpans_68 (fun b_50 hf_51 hm_b_50 ht_b_50 => ?_)
              clear hf_51
              refine tp_get (ci := 3) (C := RX4) (T := TX4) (N := 3) hx hb hts hin_X4 hown hK hw hm_b_50 1 ht_b_50 (fun _ => rfl) rfl 0 (by decide) rfl (hts (.fieldLink RX2 131 "DayBench$Spans" "from" "[I") (by decide +kernel)) (fun _ h9 => h9) dX2_takeSpans_69 (fun v_52 hf_53 hv_54 => ?_)
              obtain ⟨b_55, eb_55, hm_b_55, ht_b_55⟩ := hv_54
              subst eb_55
              refine lv_iload_n hx hb dX2_takeSpans_72 rfl (lv_at hl 0 rfl) ?_
              refine tp_iald hx hb hK hw hm_b_55 2 ht_b_55 (n := 10) (fun _ => rfl) (vp_in_nI (by omega) (by omega)) dX2_takeSpans_73 (fun y_56 => ?_)
              refine lv_aload_n hx hb dX2_takeSpans_74 rfl (lv_at hl 1 rfl) ?_
              refine tp_getK (ci := 1) (C := RX2) (T := TX2) (N := 14) hx hb hts hin_X2 hown hK hw hm_h0 4 ht_h0 (fun _ => rfl) rfl 8 (by decide) hf_7 (hts (.fieldLink RX2 20 "DayBench$Search" "spans" "[LDayBench$Spans;") (by decide +kernel)) (fun _ h9 => h9) dX2_takeSpans_75 ?_
              refine lv_iload_n hx hb dX2_takeSpans_78 rfl (lv_at hl 2 rfl) ?_
              refine tp_aald hx hb hK hw hm_b_9 10 ht_b_9 2 (n := 6) (t' := 1) (fun _ => rfl) rfl rfl (by unfold vp_in; decide) dX2_takeSpans_79 (fun b_57 hf_58 hm_b_57 ht_b_57 => ?_)
              clear hf_58
              refine tp_get (ci := 3) (C := RX4) (T := TX4) (N := 3) hx hb hts hin_X4 hown hK hw hm_b_57 1 ht_b_57 (fun _ => rfl) rfl 1 (by decide) rfl (hts (.fieldLink RX2 134 "DayBench$Spans" "to" "[I") (by decide +kernel)) (fun _ h9 => h9) dX2_takeSpans_80 (fun v_59 hf_60 hv_61 => ?_)
              obtain ⟨b_62, eb_62, hm_b_62, ht_b_62⟩ := hv_61
              subst eb_62
              refine lv_iload_n hx hb dX2_takeSpans_83 rfl (lv_at hl 0 rfl) ?_
              refine tp_iald hx hb hK hw hm_b_62 2 ht_b_62 (n := 10) (fun _ => rfl) (vp_in_nI (by omega) (by omega)) dX2_takeSpans_84 (fun y_63 => ?_)
              refine va_calli (va_runV (As := [.int 0, .int y_56, .int y_63]) (rest := []) ⟨hx, hb, hml, hown, hts⟩ (k_X2_narrow l dC dI cI cS cP cA L tg f hN hT hw.2.1 h0 hm_h0 ht_h0 0 (by first | omega | decide) y_56 y_63) (cwV 3 hts gX2_takeSpans_X2_narrow rfl rfl rfl (by decide +kernel) ⟨Nat.le_of_ble_eq_true rfl, Nat.le_of_ble_eq_true rfl⟩) ⟨tPre_blind, tp_recv hK hw hm_h0 4 ht_h0 (ci := 1) (fun _ => rfl) rfl, fun U hU hW => ⟨rfl, tPre_at hw hK hcm hU hW⟩⟩ rfl rfl hl.1 rfl (lv_room (Nat.le_of_ble_eq_true rfl)) dX2_takeSpans_85 ⟨Nat.le_of_ble_eq_true rfl, Nat.le_of_ble_eq_true rfl⟩) hw.2.2.2 (fun q _ h => h) (fun q h => h) (fun r_64 f t H locs ht hvm hp hB hz1 hk1 hS1 => ?_)
              obtain ⟨hI1, hF1, hr_64⟩ := hp
              have hw := hw.back (S' := (fun t => t == 3)) (by decide) hT hI1 hF1 hB ht hS1
              have hf_7 : fld (f h0) 8 = some (.ref b_9) := by rw [hF1 h0 hm_h0 (by rw [ht_h0]; rfl)]; exact hf_7
              have hf_53 : fld (f b_50) 0 = some (.ref b_55) := by rw [hF1 b_50 hm_b_50 (by rw [ht_b_50]; rfl)]; exact hf_53
              have hf_60 : fld (f b_57) 1 = some (.ref b_62) := by rw [hF1 b_57 hm_b_57 (by rw [ht_b_57]; rfl)]; exact hf_60
              clear hI1 hF1 hB ht hz1 hk1 hS1 hvm
              refine lv_if_eq (tgt := 98) hx hb dX2_takeSpans_88 (by decide) (fun h_65 => ?_) (fun h_65 => ?_)
              · refine lv_aload_n hx hb dX2_takeSpans_98 rfl (lv_at hl 1 rfl) ?_
                refine tp_get (ci := 1) (C := RX2) (T := TX2) (N := 14) hx hb hts hin_X2 hown hK hw hm_h0 4 ht_h0 (fun _ => rfl) rfl 4 (by decide) rfl (hts (.fieldLink RX2 56 "DayBench$Search" "spent" "Z") (by decide +kernel)) (fun _ h9 => h9) dX2_takeSpans_99 (fun v_66 hf_67 hv_68 => ?_)
                obtain ⟨y_69, ey_69, hb_y_69⟩ := hv_68
                subst ey_69
                clear hf_67
                refine lv_if_ne (tgt := 119) hx hb dX2_takeSpans_102 (by decide) (fun h_70 => ?_) (fun h_70 => ?_)
                · subst hQ
                  have hI9 := hw.2.1
                  have hF9 := hw.2.2.1
                  have hS9 := hw.2.2.2
                  rw [hf0] at hF9
                  exact W.vret hx hb hr (fun t ht hW => ⟨⟨_, rfl, ⟨hI9, hF9⟩, hw.at ht⟩, hS9.F ht⟩) hS9.2.2 dX2_takeSpans_119
                · refine lv_aload_n hx hb dX2_takeSpans_105 rfl (lv_at hl 1 rfl) ?_
                  refine tp_get (ci := 1) (C := RX2) (T := TX2) (N := 14) hx hb hts hin_X2 hown hK hw hm_h0 4 ht_h0 (fun _ => rfl) rfl 6 (by decide) rfl (hts (.fieldLink RX2 115 "DayBench$Search" "tillOne" "Z") (by decide +kernel)) (fun _ h9 => h9) dX2_takeSpans_106 (fun v_71 hf_72 hv_73 => ?_)
                  obtain ⟨y_74, ey_74, hb_y_74⟩ := hv_73
                  subst ey_74
                  clear hf_72
                  refine lv_if_eq (tgt := 120) hx hb dX2_takeSpans_109 (by decide) (fun h_75 => ?_) (fun h_75 => ?_)
                  · refine lv_iinc (v := nI (i + 1)) (lv' := [(2, .int (nI (i + 1))), (0, .ref h0), (1, .int 0)]) hx hb dX2_takeSpans_120 hl (k := 0) rfl (nI_1 _) (by decide) rfl (fun ls hl => ?_)
                    refine lv_goto (tgt := 15) hx hb dX2_takeSpans_123 (by decide) ?_
                    exact ih_15 ((i + 1)) (by omega) (by omega) _ _ _ ls hw (lv_sub hl [0, 1, 2] rfl)
                  · refine lv_aload_n hx hb dX2_takeSpans_112 rfl (lv_at hl 1 rfl) ?_
                    refine tp_get (ci := 1) (C := RX2) (T := TX2) (N := 14) hx hb hts hin_X2 hown hK hw hm_h0 4 ht_h0 (fun _ => rfl) rfl 5 (by decide) rfl (hts (.fieldLink RX2 118 "DayBench$Search" "found" "Z") (by decide +kernel)) (fun _ h9 => h9) dX2_takeSpans_113 (fun v_76 hf_77 hv_78 => ?_)
                    obtain ⟨y_79, ey_79, hb_y_79⟩ := hv_78
                    subst ey_79
                    clear hf_77
                    refine lv_if_eq (tgt := 120) hx hb dX2_takeSpans_116 (by decide) (fun h_80 => ?_) (fun h_80 => ?_)
                    · refine lv_iinc (v := nI (i + 1)) (lv' := [(2, .int (nI (i + 1))), (0, .ref h0), (1, .int 0)]) hx hb dX2_takeSpans_120 hl (k := 0) rfl (nI_1 _) (by decide) rfl (fun ls hl => ?_)
                      refine lv_goto (tgt := 15) hx hb dX2_takeSpans_123 (by decide) ?_
                      exact ih_15 ((i + 1)) (by omega) (by omega) _ _ _ ls hw (lv_sub hl [0, 1, 2] rfl)
                    · subst hQ
                      have hI9 := hw.2.1
                      have hF9 := hw.2.2.1
                      have hS9 := hw.2.2.2
                      rw [hf0] at hF9
                      exact W.vret hx hb hr (fun t ht hW => ⟨⟨_, rfl, ⟨hI9, hF9⟩, hw.at ht⟩, hS9.F ht⟩) hS9.2.2 dX2_takeSpans_119
              · refine lv_aload_n hx hb dX2_takeSpans_91 rfl (lv_at hl 1 rfl) ?_
                refine lv_iload_n hx hb dX2_takeSpans_92 rfl (lv_at hl 2 rfl) ?_
                refine lv_iconst (v := 1) hx hb dX2_takeSpans_93 (by decide) ?_
                refine lv_iadd hx hb dX2_takeSpans_94 ?_
                refine lv_topi (fun x_81 ex_81 => ?_)
                have ex_81 : x_81 = 1 := ex_81.trans (by decide)
                subst ex_81
                refine va_callv (va_runV (As := [.int 1]) (rest := []) ⟨hx, hb, hml, hown, hts⟩ (k_X2_takeSpans_1 l dC dI cI cS cP cA L tg f hN hT hw.2.1 h0 hm_h0 ht_h0) (cwV 1 hts gX2_takeSpans_X2_takeSpans rfl rfl rfl (by decide +kernel) ⟨Nat.le_of_ble_eq_true rfl, Nat.le_of_ble_eq_true rfl⟩) ⟨tPre_blind, tp_recv hK hw hm_h0 4 ht_h0 (ci := 1) (fun _ => rfl) rfl, fun U hU hW => ⟨rfl, tPre_at hw hK hcm hU hW⟩⟩ rfl rfl hl.1 rfl (lv_room (Nat.le_of_ble_eq_true rfl)) dX2_takeSpans_95 ⟨Nat.le_of_ble_eq_true rfl, Nat.le_of_ble_eq_true rfl⟩) hw.2.2.2 (fun q _ h => h) (fun q h => h) (fun f t H locs ht hvm hp hB hz1 hk1 hS1 => ?_)
                obtain ⟨hI1, hF1⟩ := hp
                have hw := hw.back (S' := (fun t => t == 3 || t == 4)) (by decide) hT hI1 hF1 hB ht hS1
                have hf_53 : fld (f b_50) 0 = some (.ref b_55) := by rw [hF1 b_50 hm_b_50 (by rw [ht_b_50]; rfl)]; exact hf_53
                have hf_60 : fld (f b_57) 1 = some (.ref b_62) := by rw [hF1 b_57 hm_b_57 (by rw [ht_b_57]; rfl)]; exact hf_60
                clear hI1 hF1 hB ht hz1 hk1 hS1 hvm
                refine lv_aload_n hx hb dX2_takeSpans_98 rfl (lv_at hl 1 rfl) ?_
                refine tp_get (ci := 1) (C := RX2) (T := TX2) (N := 14) hx hb hts hin_X2 hown hK hw hm_h0 4 ht_h0 (fun _ => rfl) rfl 4 (by decide) rfl (hts (.fieldLink RX2 56 "DayBench$Search" "spent" "Z") (by decide +kernel)) (fun _ h9 => h9) dX2_takeSpans_99 (fun v_83 hf_84 hv_85 => ?_)
                obtain ⟨y_86, ey_86, hb_y_86⟩ := hv_85
                subst ey_86
                clear hf_84
                refine lv_if_ne (tgt := 119) hx hb dX2_takeSpans_102 (by decide) (fun h_87 => ?_) (fun h_87 => ?_)
                · subst hQ
                  have hI9 := hw.2.1
                  have hF9 := hw.2.2.1
                  have hS9 := hw.2.2.2
                  rw [hf0] at hF9
                  exact W.vret hx hb hr (fun t ht hW => ⟨⟨_, rfl, ⟨hI9, hF9⟩, hw.at ht⟩, hS9.F ht⟩) hS9.2.2 dX2_takeSpans_119
                · refine lv_aload_n hx hb dX2_takeSpans_105 rfl (lv_at hl 1 rfl) ?_
                  refine tp_get (ci := 1) (C := RX2) (T := TX2) (N := 14) hx hb hts hin_X2 hown hK hw hm_h0 4 ht_h0 (fun _ => rfl) rfl 6 (by decide) rfl (hts (.fieldLink RX2 115 "DayBench$Search" "tillOne" "Z") (by decide +kernel)) (fun _ h9 => h9) dX2_takeSpans_106 (fun v_88 hf_89 hv_90 => ?_)
                  obtain ⟨y_91, ey_91, hb_y_91⟩ := hv_90
                  subst ey_91
                  clear hf_89
                  refine lv_if_eq (tgt := 120) hx hb dX2_takeSpans_109 (by decide) (fun h_92 => ?_) (fun h_92 => ?_)
                  · refine lv_iinc (v := nI (i + 1)) (lv' := [(2, .int (nI (i + 1))), (0, .ref h0), (1, .int 0)]) hx hb dX2_takeSpans_120 hl (k := 0) rfl (nI_1 _) (by decide) rfl (fun ls hl => ?_)
                    refine lv_goto (tgt := 15) hx hb dX2_takeSpans_123 (by decide) ?_
                    exact ih_15 ((i + 1)) (by omega) (by omega) _ _ _ ls hw (lv_sub hl [0, 1, 2] rfl)
                  · refine lv_aload_n hx hb dX2_takeSpans_112 rfl (lv_at hl 1 rfl) ?_
                    refine tp_get (ci := 1) (C := RX2) (T := TX2) (N := 14) hx hb hts hin_X2 hown hK hw hm_h0 4 ht_h0 (fun _ => rfl) rfl 5 (by decide) rfl (hts (.fieldLink RX2 118 "DayBench$Search" "found" "Z") (by decide +kernel)) (fun _ h9 => h9) dX2_takeSpans_113 (fun v_93 hf_94 hv_95 => ?_)
                    obtain ⟨y_96, ey_96, hb_y_96⟩ := hv_95
                    subst ey_96
                    clear hf_94
                    refine lv_if_eq (tgt := 120) hx hb dX2_takeSpans_116 (by decide) (fun h_97 => ?_) (fun h_97 => ?_)
                    · refine lv_iinc (v := nI (i + 1)) (lv' := [(2, .int (nI (i + 1))), (0, .ref h0), (1, .int 0)]) hx hb dX2_takeSpans_120 hl (k := 0) rfl (nI_1 _) (by decide) rfl (fun ls hl => ?_)
                      refine lv_goto (tgt := 15) hx hb dX2_takeSpans_123 (by decide) ?_
                      exact ih_15 ((i + 1)) (by omega) (by omega) _ _ _ ls hw (lv_sub hl [0, 1, 2] rfl)
                    · subst hQ
                      have hI9 := hw.2.1
                      have hF9 := hw.2.2.1
                      have hS9 := hw.2.2.2
                      rw [hf0] at hF9
                      exact W.vret hx hb hr (fun t ht hW => ⟨⟨_, rfl, ⟨hI9, hF9⟩, hw.at ht⟩, hS9.F ht⟩) hS9.2.2 dX2_takeSpans_119
          · refine lv_aload_n hx hb dX2_takeSpans_38 rfl (lv_at hl 1 rfl) ?_
            refine lv_iconst (v := 1) hx hb dX2_takeSpans_39 (by decide) ?_
            refine tp_put (ci := 1) (C := RX2) (T := TX2) (N := 14) (v := .int 1) (ty := .boolean) hx hb hts hin_X2 tyX2 tyX2_ok nmX2 hown hN hK hw hm_h0 4 ht_h0 rfl (fun _ => rfl) rfl 4 (by decide) rfl (hts (.fieldLink RX2 56 "DayBench$Search" "spent" "Z") (by decide +kernel)) (fun _ h9 => h9) rfl (by decide +kernel) rfl rfl ⟨_, rfl, Or.inr rfl⟩ dX2_takeSpans_40 (fun H locs f hw ho_98 hn_99 hs_100 => ?_)
            have hf_7 := (hs_100 8 (by decide)).trans hf_7
            clear ho_98 hs_100 hn_99
            subst hQ
            have hI9 := hw.2.1
            have hF9 := hw.2.2.1
            have hS9 := hw.2.2.2
            rw [hf0] at hF9
            exact W.vret hx hb hr (fun t ht hW => ⟨⟨_, rfl, ⟨hI9, hF9⟩, hw.at ht⟩, hS9.F ht⟩) hS9.2.2 dX2_takeSpans_43
    exact hl_15 _ 0 (Nat.lt_succ_self _) (by omega) _ _ _ ls hw (lv_sub hl [0, 1, 2] rfl)
  · have nh_5 : ¬ 0 < k_4 := fun q9 => h_5 ((nI_ltI (a := 0) (b := k_4) (by omega) (by omega)).mpr q9)
    refine lv_aload_n hx hb dX2_takeSpans_8 rfl (lv_at hl 0 rfl) ?_
    refine va_callv (va_runV (As := []) (rest := []) ⟨hx, hb, hml, hown, hts⟩ (k_X2_noteWay l dC dI cI cS cP cA L tg f hN hT hw.2.1 h0 hm_h0 ht_h0) (cwV 0 hts gX2_takeSpans_X2_noteWay rfl rfl rfl (by decide +kernel) ⟨Nat.le_of_ble_eq_true rfl, Nat.le_of_ble_eq_true rfl⟩) ⟨tPre_blind, tp_recv hK hw hm_h0 4 ht_h0 (ci := 1) (fun _ => rfl) rfl, fun U hU hW => ⟨rfl, tPre_at hw hK hcm hU hW⟩⟩ rfl rfl hl.1 rfl (lv_room (Nat.le_of_ble_eq_true rfl)) dX2_takeSpans_9 ⟨Nat.le_of_ble_eq_true rfl, Nat.le_of_ble_eq_true rfl⟩) hw.2.2.2 (fun q _ h => h) (fun q h => h) (fun f t H locs ht hvm hp hB hz1 hk1 hS1 => ?_)
    obtain ⟨hI1, hF1⟩ := hp
    have hw := hw.back (S' := (fun t => t == 3 || t == 4)) (by decide) hT hI1 hF1 hB ht hS1
    clear hI1 hF1 hB ht hz1 hk1 hS1 hvm
    subst hQ
    have hI9 := hw.2.1
    have hF9 := hw.2.2.1
    have hS9 := hw.2.2.2
    rw [hf0] at hF9
    exact W.vret hx hb hr (fun t ht hW => ⟨⟨_, rfl, ⟨hI9, hF9⟩, hw.at ht⟩, hS9.F ht⟩) hS9.2.2 dX2_takeSpans_12

set_option maxHeartbeats 4000000 in
set_option maxRecDepth 100000 in
theorem k_X2_run (l : Launch) (dC : Nat → ClassId) (dI : Nat → Nat → Nat) (cI cS cP cA : ClassId) (L : List Nat) (tg : Nat → Nat) (f : Nat → va_E) (hN : L.Nodup) (hT : ∀ a : Nat, a ∈ L → tg a < 13) (hI : PI cI cS cP cA L tg f) (h0 : Nat) (hm_h0 : h0 ∈ L) (ht_h0 : tg h0 = 4) (p0 : Int32) (h_p0 : p0 = 0 ∨ p0 = 1) : Met l yX2_run wsX2_run ({ frames := 9, cells := 0, slots := 0, locals := 192 }) (va_Pc [.ref h0, .int p0] (tPre dC dI cI cS cP cA L f)) (va_Qi (fun (r : Int32) (f' : Nat → va_E) => PI cI cS cP cA L tg f' ∧ Fr L tg (fun t => t == 3 || t == 4) f f') (fun (f' : Nat → va_E) t => va_P (dC, dI) vwCl (va_pl L f') t.heap) (fun q : Nat => q ∈ L)) 0 0 (fun q : Nat => q ∈ L) := by
  refine Met.ofW (cc := cX2_run) (maxL := 2) (ret := (some .int)) (by decide) rfl ?_
  intro p e s m args below meth c s₁ B hml hv
  obtain ⟨rfl, hP, hK, hcm⟩ := hv
  have hx := B.exec
  have hb := B.bytes
  have hr := B.returns
  have hts := atoms_spec (ws := wsX2_run) B.pre
  have hown : s.vm.findClass RX2 = some m.cls := findClass_of_methodNamed B.named
  have hlocks := B.notSynchronized
  have hin_X2 : ∀ w ∈ u_ws RX2 TX2 14, w ∈ wsX2_run := by decide +kernel
  have hl := lv_entry ([.ref h0, .int p0]) (n := 2) (Nat.le_of_ble_eq_true rfl)
  rw [lg_entry_eq]
  generalize (lg_sl ([.ref h0, .int p0]) ++ List.replicate (2 - (lg_sl ([.ref h0, .int p0])).length) Slot.unset).toArray = ls at hl ⊢
  have hl : lv_has ls 2 [(0, .ref h0), (1, .int p0)] := hl
  generalize hQ : MQ below (va_Qi (fun (r : Int32) (f' : Nat → va_E) => PI cI cS cP cA L tg f' ∧ Fr L tg (fun t => t == 3 || t == 4) f f') (fun (f' : Nat → va_E) t => va_P (dC, dI) vwCl (va_pl L f') t.heap) (fun q : Nat => q ∈ L)) [.ref h0, .int p0].toArray s 0 0 (fun q : Nat => q ∈ L) = Q
  obtain ⟨f0, hf0⟩ : ∃ g : Nat → va_E, g = f := ⟨_, rfl⟩
  have hw : PW dC dI cI cS cP cA L tg (fun t => t == 3 || t == 4) f0 s.heap f s.heap [] := by rw [hf0]; exact PW.start hP hI
  clear hP
  refine lv_aload_n hx hb dX2_run_0 rfl (lv_at hl 0 rfl) ?_
  refine lv_iload_n hx hb dX2_run_1 rfl (lv_at hl 1 rfl) ?_
  refine tp_put (ci := 1) (C := RX2) (T := TX2) (N := 14) (v := .int p0) (ty := .boolean) hx hb hts hin_X2 tyX2 tyX2_ok nmX2 hown hN hK hw hm_h0 4 ht_h0 rfl (fun _ => rfl) rfl 6 (by decide) rfl (hts (.fieldLink RX2 115 "DayBench$Search" "tillOne" "Z") (by decide +kernel)) (fun _ h9 => h9) rfl (by decide +kernel) (nar_b h_p0) (fit_b h_p0) ⟨_, rfl, h_p0⟩ dX2_run_2 (fun H locs f hw ho_1 hn_2 hs_3 => ?_)
  clear ho_1 hs_3 hn_2
  refine lv_aload_n hx hb dX2_run_5 rfl (lv_at hl 0 rfl) ?_
  refine lv_iconst (v := 0) hx hb dX2_run_6 (by decide) ?_
  refine tp_put (ci := 1) (C := RX2) (T := TX2) (N := 14) (v := .int 0) (ty := .boolean) hx hb hts hin_X2 tyX2 tyX2_ok nmX2 hown hN hK hw hm_h0 4 ht_h0 rfl (fun _ => rfl) rfl 5 (by decide) rfl (hts (.fieldLink RX2 118 "DayBench$Search" "found" "Z") (by decide +kernel)) (fun _ h9 => h9) rfl (by decide +kernel) rfl rfl ⟨_, rfl, Or.inl rfl⟩ dX2_run_7 (fun H locs f hw ho_4 hn_5 hs_6 => ?_)
  clear ho_4 hs_6 hn_5
  refine lv_aload_n hx hb dX2_run_10 rfl (lv_at hl 0 rfl) ?_
  refine lv_iconst (v := 0) hx hb dX2_run_11 (by decide) ?_
  refine va_callv (va_runV (As := [.int 0]) (rest := []) ⟨hx, hb, hml, hown, hts⟩ (k_X2_takeSpans_0 l dC dI cI cS cP cA L tg f hN hT hw.2.1 h0 hm_h0 ht_h0) (cwV 1 hts gX2_run_X2_takeSpans rfl rfl rfl (by decide +kernel) ⟨Nat.le_of_ble_eq_true rfl, Nat.le_of_ble_eq_true rfl⟩) ⟨tPre_blind, tp_recv hK hw hm_h0 4 ht_h0 (ci := 1) (fun _ => rfl) rfl, fun U hU hW => ⟨rfl, tPre_at hw hK hcm hU hW⟩⟩ rfl rfl hl.1 rfl (lv_room (Nat.le_of_ble_eq_true rfl)) dX2_run_12 ⟨Nat.le_of_ble_eq_true rfl, Nat.le_of_ble_eq_true rfl⟩) hw.2.2.2 (fun q _ h => h) (fun q h => h) (fun f t H locs ht hvm hp hB hz1 hk1 hS1 => ?_)
  obtain ⟨hI1, hF1⟩ := hp
  have hw := hw.back (S' := (fun t => t == 3 || t == 4)) (by decide) hT hI1 hF1 hB ht hS1
  clear hI1 hF1 hB ht hz1 hk1 hS1 hvm
  refine lv_aload_n hx hb dX2_run_15 rfl (lv_at hl 0 rfl) ?_
  refine tp_get (ci := 1) (C := RX2) (T := TX2) (N := 14) hx hb hts hin_X2 hown hK hw hm_h0 4 ht_h0 (fun _ => rfl) rfl 4 (by decide) rfl (hts (.fieldLink RX2 56 "DayBench$Search" "spent" "Z") (by decide +kernel)) (fun _ h9 => h9) dX2_run_16 (fun v_8 hf_9 hv_10 => ?_)
  obtain ⟨y_11, ey_11, hb_y_11⟩ := hv_10
  subst ey_11
  clear hf_9
  refine lv_if_eq (tgt := 25) hx hb dX2_run_19 (by decide) (fun h_12 => ?_) (fun h_12 => ?_)
  · refine lv_aload_n hx hb dX2_run_25 rfl (lv_at hl 0 rfl) ?_
    refine tp_get (ci := 1) (C := RX2) (T := TX2) (N := 14) hx hb hts hin_X2 hown hK hw hm_h0 4 ht_h0 (fun _ => rfl) rfl 5 (by decide) rfl (hts (.fieldLink RX2 118 "DayBench$Search" "found" "Z") (by decide +kernel)) (fun _ h9 => h9) dX2_run_26 (fun v_13 hf_14 hv_15 => ?_)
    obtain ⟨y_16, ey_16, hb_y_16⟩ := hv_15
    subst ey_16
    clear hf_14
    refine lv_if_eq (tgt := 36) hx hb dX2_run_29 (by decide) (fun h_17 => ?_) (fun h_17 => ?_)
    · refine lv_iconst (v := 0) hx hb dX2_run_36 (by decide) ?_
      subst hQ
      have hI9 := hw.2.1
      have hF9 := hw.2.2.1
      have hS9 := hw.2.2.2
      rw [hf0] at hF9
      exact W.iret (v := 0) hx hb hr (fun t ht hW => ⟨⟨_, _, rfl, ⟨hI9, hF9⟩, hw.at ht⟩, hS9.F ht⟩) hS9.2.2 dX2_run_37
    · refine lv_iconst (v := 1) hx hb dX2_run_32 (by decide) ?_
      refine lv_goto (tgt := 37) hx hb dX2_run_33 (by decide) ?_
      subst hQ
      have hI9 := hw.2.1
      have hF9 := hw.2.2.1
      have hS9 := hw.2.2.2
      rw [hf0] at hF9
      exact W.iret (v := 1) hx hb hr (fun t ht hW => ⟨⟨_, _, rfl, ⟨hI9, hF9⟩, hw.at ht⟩, hS9.F ht⟩) hS9.2.2 dX2_run_37
  · refine lv_bipush (v := (-2)) hx hb dX2_run_22 (by decide) ?_
    subst hQ
    have hI9 := hw.2.1
    have hF9 := hw.2.2.1
    have hS9 := hw.2.2.2
    rw [hf0] at hF9
    exact W.iret (v := (-2)) hx hb hr (fun t ht hW => ⟨⟨_, _, rfl, ⟨hI9, hF9⟩, hw.at ht⟩, hS9.F ht⟩) hS9.2.2 dX2_run_24

