set_option maxHeartbeats 4000000 in
set_option maxRecDepth 100000 in
theorem k_X2_begin (l : Launch) (dC : Nat → ClassId) (dI : Nat → Nat → Nat) (cI cS cP cA : ClassId) (L : List Nat) (tg : Nat → Nat) (f : Nat → va_E) (hN : L.Nodup) (hT : ∀ a : Nat, a ∈ L → tg a < 13) (hI : PI cI cS cP cA L tg f) (h0 : Nat) (hm_h0 : h0 ∈ L) (ht_h0 : tg h0 = 4) (k0 : Nat) (h_k0 : k0 ≤ 6) : Met l yX2_begin wsX2_begin ({ frames := 1, cells := 0, slots := 0, locals := 14 }) (va_Pc [.ref h0, .int (nI k0)] (tPre dC dI cI cS cP cA L f)) (va_Qv (fun (f' : Nat → va_E) => PI cI cS cP cA L tg f' ∧ Fr L tg (fun t => t == 4) f f') (fun (f' : Nat → va_E) t => va_P (dC, dI) vwCl (va_pl L f') t.heap) (fun q : Nat => q ∈ L)) 0 0 (fun q : Nat => q ∈ L) := by
  refine Met.ofW (cc := cX2_begin) (maxL := 2) (ret := none) (by decide) rfl ?_
  intro p e s m args below meth c s₁ B hml hv
  obtain ⟨rfl, hP, hK, hcm⟩ := hv
  have hx := B.exec
  have hb := B.bytes
  have hr := B.returns
  have hts := atoms_spec (ws := wsX2_begin) B.pre
  have hown : s.vm.findClass RX2 = some m.cls := findClass_of_methodNamed B.named
  have hlocks := B.notSynchronized
  have hin_X2 : ∀ w ∈ u_ws RX2 TX2 14, w ∈ wsX2_begin := by decide +kernel
  have hl := lv_entry ([.ref h0, .int (nI k0)]) (n := 2) (Nat.le_of_ble_eq_true rfl)
  rw [lg_entry_eq]
  generalize (lg_sl ([.ref h0, .int (nI k0)]) ++ List.replicate (2 - (lg_sl ([.ref h0, .int (nI k0)])).length) Slot.unset).toArray = ls at hl ⊢
  have hl : lv_has ls 2 [(0, .ref h0), (1, .int (nI k0))] := hl
  generalize hQ : MQ below (va_Qv (fun (f' : Nat → va_E) => PI cI cS cP cA L tg f' ∧ Fr L tg (fun t => t == 4) f f') (fun (f' : Nat → va_E) t => va_P (dC, dI) vwCl (va_pl L f') t.heap) (fun q : Nat => q ∈ L)) [.ref h0, .int (nI k0)].toArray s 0 0 (fun q : Nat => q ∈ L) = Q
  obtain ⟨f0, hf0⟩ : ∃ g : Nat → va_E, g = f := ⟨_, rfl⟩
  have hw : PW dC dI cI cS cP cA L tg (fun t => t == 4) f0 s.heap f s.heap [] := by rw [hf0]; exact PW.start hP hI
  clear hP
  refine lv_aload_n hx hb dX2_begin_0 rfl (lv_at hl 0 rfl) ?_
  refine lv_iload_n hx hb dX2_begin_1 rfl (lv_at hl 1 rfl) ?_
  refine lv_bipush (v := 6) hx hb dX2_begin_2 (by decide) ?_
  refine va_mmin (own := RX2) (x := (nI k0)) (y := 6) hx hb (hml.trans hl.1.symm) hown (hts (.methodLink RX2 43 Lib.Math.min.name) (by decide +kernel)) (hts (.static Lib.Math.min.name) (by decide +kernel)) (hts (.initialized "java/lang/Math") (by decide +kernel)) (hts (.code Lib.Math.min.name Lib.Math.min.code 2 (some .int)) (by decide +kernel)) (Nat.le_of_ble_eq_true rfl) (Nat.le_of_ble_eq_true rfl) (Nat.le_of_ble_eq_true rfl) (Nat.le_of_ble_eq_true rfl) dX2_begin_4 ?_
  refine lv_topi (fun x9 ex9 => ?_)
  have ex9 : x9 = nI k0 := ex9.trans (if_neg (fun q => absurd ((nI_ltI (a := 6) (b := k0) (by omega) (by omega)).mp q) (by omega)))
  subst ex9
  refine tp_put (ci := 1) (C := RX2) (T := TX2) (N := 14) (v := .int (nI k0)) (ty := .int) hx hb hts hin_X2 tyX2 tyX2_ok nmX2 hown hN hK hw hm_h0 4 ht_h0 rfl (fun _ => rfl) rfl 3 (by decide) rfl (hts (.fieldLink RX2 49 "DayBench$Search" "events" "I") (by decide +kernel)) (fun _ h9 => h9) rfl (by decide +kernel) rfl rfl ⟨k0, rfl, by omega⟩ dX2_begin_7 (fun H locs f hw ho_1 hn_2 hs_3 => ?_)
  clear ho_1 hs_3 hn_2
  refine lv_aload_n hx hb dX2_begin_10 rfl (lv_at hl 0 rfl) ?_
  refine lv_iconst (v := 0) hx hb dX2_begin_11 (by decide) ?_
  refine tp_put (ci := 1) (C := RX2) (T := TX2) (N := 14) (v := .int 0) (ty := .int) hx hb hts hin_X2 tyX2 tyX2_ok nmX2 hown hN hK hw hm_h0 4 ht_h0 rfl (fun _ => rfl) rfl 2 (by decide) rfl (hts (.fieldLink RX2 53 "DayBench$Search" "looks" "I") (by decide +kernel)) (fun _ h9 => h9) rfl (by decide +kernel) rfl rfl ⟨_, rfl⟩ dX2_begin_12 (fun H locs f hw ho_4 hn_5 hs_6 => ?_)
  clear ho_4 hs_6 hn_5
  refine lv_aload_n hx hb dX2_begin_15 rfl (lv_at hl 0 rfl) ?_
  refine lv_iconst (v := 0) hx hb dX2_begin_16 (by decide) ?_
  refine tp_put (ci := 1) (C := RX2) (T := TX2) (N := 14) (v := .int 0) (ty := .boolean) hx hb hts hin_X2 tyX2 tyX2_ok nmX2 hown hN hK hw hm_h0 4 ht_h0 rfl (fun _ => rfl) rfl 4 (by decide) rfl (hts (.fieldLink RX2 56 "DayBench$Search" "spent" "Z") (by decide +kernel)) (fun _ h9 => h9) rfl (by decide +kernel) rfl rfl ⟨_, rfl, Or.inl rfl⟩ dX2_begin_17 (fun H locs f hw ho_7 hn_8 hs_9 => ?_)
  clear ho_7 hs_9 hn_8
  subst hQ
  have hI9 := hw.2.1
  have hF9 := hw.2.2.1
  have hS9 := hw.2.2.2
  rw [hf0] at hF9
  exact W.vret hx hb hr (fun t ht hW => ⟨⟨_, rfl, ⟨hI9, hF9⟩, hw.at ht⟩, hS9.F ht⟩) hS9.2.2 dX2_begin_20

set_option maxHeartbeats 4000000 in
set_option maxRecDepth 100000 in
theorem k_X2_clearTable (l : Launch) (dC : Nat → ClassId) (dI : Nat → Nat → Nat) (cI cS cP cA : ClassId) (L : List Nat) (tg : Nat → Nat) (f : Nat → va_E) (hN : L.Nodup) (hT : ∀ a : Nat, a ∈ L → tg a < 13) (hI : PI cI cS cP cA L tg f) (h0 : Nat) (hm_h0 : h0 ∈ L) (ht_h0 : tg h0 = 4) : Met l yX2_clearTable wsX2_clearTable ({ frames := 2, cells := 0, slots := 0, locals := 37 }) (va_Pc [.ref h0] (tPre dC dI cI cS cP cA L f)) (va_Qv (fun (f' : Nat → va_E) => PI cI cS cP cA L tg f' ∧ Fr L tg (fun t => t == 1 || t == 2 || t == 3) f f') (fun (f' : Nat → va_E) t => va_P (dC, dI) vwCl (va_pl L f') t.heap) (fun q : Nat => q ∈ L)) 0 0 (fun q : Nat => q ∈ L) := by
  refine Met.ofW (cc := cX2_clearTable) (maxL := 3) (ret := none) (by decide) rfl ?_
  intro p e s m args below meth c s₁ B hml hv
  obtain ⟨rfl, hP, hK, hcm⟩ := hv
  have hx := B.exec
  have hb := B.bytes
  have hr := B.returns
  have hts := atoms_spec (ws := wsX2_clearTable) B.pre
  have hown : s.vm.findClass RX2 = some m.cls := findClass_of_methodNamed B.named
  have hlocks := B.notSynchronized
  have hin_X2 : ∀ w ∈ u_ws RX2 TX2 14, w ∈ wsX2_clearTable := by decide +kernel
  have hl := lv_entry ([.ref h0]) (n := 3) (Nat.le_of_ble_eq_true rfl)
  rw [lg_entry_eq]
  generalize (lg_sl ([.ref h0]) ++ List.replicate (3 - (lg_sl ([.ref h0])).length) Slot.unset).toArray = ls at hl ⊢
  have hl : lv_has ls 3 [(0, .ref h0)] := hl
  generalize hQ : MQ below (va_Qv (fun (f' : Nat → va_E) => PI cI cS cP cA L tg f' ∧ Fr L tg (fun t => t == 1 || t == 2 || t == 3) f f') (fun (f' : Nat → va_E) t => va_P (dC, dI) vwCl (va_pl L f') t.heap) (fun q : Nat => q ∈ L)) [.ref h0].toArray s 0 0 (fun q : Nat => q ∈ L) = Q
  obtain ⟨f0, hf0⟩ : ∃ g : Nat → va_E, g = f := ⟨_, rfl⟩
  have hw : PW dC dI cI cS cP cA L tg (fun t => t == 1 || t == 2 || t == 3) f0 s.heap f s.heap [] := by rw [hf0]; exact PW.start hP hI
  clear hP
  refine lv_iconst (v := 0) hx hb dX2_clearTable_0 (by decide) ?_
  refine lv_istore_n (lv' := [(1, .int 0), (0, .ref h0)]) hx hb dX2_clearTable_1 rfl hl (by decide) rfl (fun ls hl => ?_)
  have hl_2 : ∀ (fu : Nat) (i : Nat), 6 - i < fu → (i ≤ 6) → ∀ (f : Nat → va_E) (H : Heap) (locs : List Loc) (ls : Array Slot), PW dC dI cI cS cP cA L tg (fun t => t == 1 || t == 2 || t == 3) f0 s.heap f H locs → lv_has ls 3 [(1, .int (nI i)), (0, .ref h0)] → W p l e (headSpec wsX2_clearTable ({ frames := 2, cells := 0, slots := 0, locals := 37 })).room s m [.ref h0].toArray below meth c H locs 0 0 Q (F0 m 2 ls []) := by
    intro fu
    induction fu with
    | zero => intro i hm9; exact absurd hm9 (Nat.not_lt_zero _)
    | succ fu ih_2 =>
      intro i hm_2 h_i f H locs ls hw hl
      refine lv_iload_n hx hb dX2_clearTable_2 rfl (lv_at hl 0 rfl) ?_
      refine lv_aload_n hx hb dX2_clearTable_3 rfl (lv_at hl 1 rfl) ?_
      refine tp_get (ci := 1) (C := RX2) (T := TX2) (N := 14) hx hb hts hin_X2 hown hK hw hm_h0 4 ht_h0 (fun _ => rfl) rfl 3 (by decide) rfl (hts (.fieldLink RX2 49 "DayBench$Search" "events" "I") (by decide +kernel)) (fun _ h9 => h9) dX2_clearTable_4 (fun v_1 hf_2 hv_3 => ?_)
      obtain ⟨k_4, ek_4, hk_k_4⟩ := hv_3
      subst ek_4
      clear hf_2
      refine lv_icmp_ge (tgt := 72) hx hb dX2_clearTable_7 (by decide) (fun h_5 => ?_) (fun h_5 => ?_)
      · have nh_5 : k_4 ≤ i := (nI_leI (a := k_4) (b := i) (by omega) (by omega)).mp h_5
        subst hQ
        have hI9 := hw.2.1
        have hF9 := hw.2.2.1
        have hS9 := hw.2.2.2
        rw [hf0] at hF9
        exact W.vret hx hb hr (fun t ht hW => ⟨⟨_, rfl, ⟨hI9, hF9⟩, hw.at ht⟩, hS9.F ht⟩) hS9.2.2 dX2_clearTable_72
      · have nh_5 : ¬ k_4 ≤ i := fun q9 => h_5 ((nI_leI (a := k_4) (b := i) (by omega) (by omega)).mpr q9)
        refine lv_aload_n hx hb dX2_clearTable_10 rfl (lv_at hl 1 rfl) ?_
        refine tp_get (ci := 1) (C := RX2) (T := TX2) (N := 14) hx hb hts hin_X2 hown hK hw hm_h0 4 ht_h0 (fun _ => rfl) rfl 8 (by decide) rfl (hts (.fieldLink RX2 20 "DayBench$Search" "spans" "[LDayBench$Spans;") (by decide +kernel)) (fun _ h9 => h9) dX2_clearTable_11 (fun v_6 hf_7 hv_8 => ?_)
        obtain ⟨b_9, eb_9, hm_b_9, ht_b_9⟩ := hv_8
        subst eb_9
        refine lv_iload_n hx hb dX2_clearTable_14 rfl (lv_at hl 0 rfl) ?_
        refine tp_aald hx hb hK hw hm_b_9 10 ht_b_9 2 (n := 6) (t' := 1) (fun _ => rfl) rfl rfl (vp_in_nI (by omega) (by omega)) dX2_clearTable_15 (fun b_10 hf_11 hm_b_10 ht_b_10 => ?_)
        clear hf_11
        refine va_callv (va_runV (As := []) (rest := []) ⟨hx, hb, hml, hown, hts⟩ (k_X4_clear l dC dI cI cS cP cA L tg f hN hT hw.2.1 b_10 hm_b_10 ht_b_10) (cwV 0 hts gX2_clearTable_X4_clear rfl rfl rfl (by decide +kernel) ⟨Nat.le_of_ble_eq_true rfl, Nat.le_of_ble_eq_true rfl⟩) ⟨tPre_blind, tp_recv hK hw hm_b_10 1 ht_b_10 (ci := 3) (fun _ => rfl) rfl, fun U hU hW => ⟨rfl, tPre_at hw hK hcm hU hW⟩⟩ rfl rfl hl.1 rfl (lv_room (Nat.le_of_ble_eq_true rfl)) dX2_clearTable_16 ⟨Nat.le_of_ble_eq_true rfl, Nat.le_of_ble_eq_true rfl⟩) hw.2.2.2 (fun q _ h => h) (fun q h => h) (fun f t H locs ht hvm hp hB hz1 hk1 hS1 => ?_)
        obtain ⟨hI1, hF1⟩ := hp
        have hw := hw.back (S' := (fun t => t == 1)) (by decide) hT hI1 hF1 hB ht hS1
        have hf_7 : fld (f h0) 8 = some (.ref b_9) := by rw [hF1 h0 hm_h0 (by rw [ht_h0]; rfl)]; exact hf_7
        clear hI1 hF1 hB ht hz1 hk1 hS1 hvm
        refine lv_aload_n hx hb dX2_clearTable_19 rfl (lv_at hl 1 rfl) ?_
        refine tp_getK (ci := 1) (C := RX2) (T := TX2) (N := 14) hx hb hts hin_X2 hown hK hw hm_h0 4 ht_h0 (fun _ => rfl) rfl 8 (by decide) hf_7 (hts (.fieldLink RX2 20 "DayBench$Search" "spans" "[LDayBench$Spans;") (by decide +kernel)) (fun _ h9 => h9) dX2_clearTable_20 ?_
        refine lv_iload_n hx hb dX2_clearTable_23 rfl (lv_at hl 0 rfl) ?_
        refine tp_aald hx hb hK hw hm_b_9 10 ht_b_9 2 (n := 6) (t' := 1) (fun _ => rfl) rfl rfl (vp_in_nI (by omega) (by omega)) dX2_clearTable_24 (fun b_13 hf_14 hm_b_13 ht_b_13 => ?_)
        clear hf_14
        refine lv_iconst (v := 0) hx hb dX2_clearTable_25 (by decide) ?_
        refine lv_ldc (own := RX2) (v := 985999) hx hb hown (hts (.constant RX2 94 (985999)) (by decide +kernel)) dX2_clearTable_26 ?_
        refine va_callv (va_runV (As := [.int 0, .int 985999]) (rest := []) ⟨hx, hb, hml, hown, hts⟩ (k_X4_add l dC dI cI cS cP cA L tg f hN hT hw.2.1 b_13 hm_b_13 ht_b_13 0 985999) (cwV 2 hts gX2_clearTable_X4_add rfl rfl rfl (by decide +kernel) ⟨Nat.le_of_ble_eq_true rfl, Nat.le_of_ble_eq_true rfl⟩) ⟨tPre_blind, tp_recv hK hw hm_b_13 1 ht_b_13 (ci := 3) (fun _ => rfl) rfl, fun U hU hW => ⟨rfl, tPre_at hw hK hcm hU hW⟩⟩ rfl rfl hl.1 rfl (lv_room (Nat.le_of_ble_eq_true rfl)) dX2_clearTable_28 ⟨Nat.le_of_ble_eq_true rfl, Nat.le_of_ble_eq_true rfl⟩) hw.2.2.2 (fun q _ h => h) (fun q h => h) (fun f t H locs ht hvm hp hB hz1 hk1 hS1 => ?_)
        obtain ⟨hI1, hF1⟩ := hp
        have hw := hw.back (S' := (fun t => t == 1 || t == 2)) (by decide) hT hI1 hF1 hB ht hS1
        have hf_7 : fld (f h0) 8 = some (.ref b_9) := by rw [hF1 h0 hm_h0 (by rw [ht_h0]; rfl)]; exact hf_7
        clear hI1 hF1 hB ht hz1 hk1 hS1 hvm
        refine lv_iconst (v := 0) hx hb dX2_clearTable_31 (by decide) ?_
        refine lv_istore_n (lv' := [(2, .int 0), (1, .int (nI i)), (0, .ref h0)]) hx hb dX2_clearTable_32 rfl hl (by decide) rfl (fun ls hl => ?_)
        have hl_33 : ∀ (fu : Nat) (j : Nat), 6 - j < fu → (j ≤ 6) → ∀ (f : Nat → va_E) (H : Heap) (locs : List Loc) (ls : Array Slot), PW dC dI cI cS cP cA L tg (fun t => t == 1 || t == 2 || t == 3) f0 s.heap f H locs → lv_has ls 3 [(2, .int (nI j)), (1, .int (nI i)), (0, .ref h0)] → W p l e (headSpec wsX2_clearTable ({ frames := 2, cells := 0, slots := 0, locals := 37 })).room s m [.ref h0].toArray below meth c H locs 0 0 Q (F0 m 33 ls []) := by
          intro fu
          induction fu with
          | zero => intro j hm9; exact absurd hm9 (Nat.not_lt_zero _)
          | succ fu ih_33 =>
            intro j hm_33 h_j f H locs ls hw hl
            refine lv_iload_n hx hb dX2_clearTable_33 rfl (lv_at hl 0 rfl) ?_
            refine lv_aload_n hx hb dX2_clearTable_34 rfl (lv_at hl 2 rfl) ?_
            refine tp_get (ci := 1) (C := RX2) (T := TX2) (N := 14) hx hb hts hin_X2 hown hK hw hm_h0 4 ht_h0 (fun _ => rfl) rfl 3 (by decide) rfl (hts (.fieldLink RX2 49 "DayBench$Search" "events" "I") (by decide +kernel)) (fun _ h9 => h9) dX2_clearTable_35 (fun v_16 hf_17 hv_18 => ?_)
            obtain ⟨k_19, ek_19, hk_k_19⟩ := hv_18
            subst ek_19
            clear hf_17
            refine lv_icmp_ge (tgt := 66) hx hb dX2_clearTable_38 (by decide) (fun h_20 => ?_) (fun h_20 => ?_)
            · have nh_20 : k_19 ≤ j := (nI_leI (a := k_19) (b := j) (by omega) (by omega)).mp h_20
              refine lv_iinc (v := nI (i + 1)) (lv' := [(1, .int (nI (i + 1))), (2, .int (nI j)), (0, .ref h0)]) hx hb dX2_clearTable_66 hl (k := 1) rfl (nI_1 _) (by decide) rfl (fun ls hl => ?_)
              refine lv_goto (tgt := 2) hx hb dX2_clearTable_69 (by decide) ?_
              exact ih_2 ((i + 1)) (by omega) (by omega) _ _ _ ls hw (lv_sub hl [0, 2] rfl)
            · have nh_20 : ¬ k_19 ≤ j := fun q9 => h_20 ((nI_leI (a := k_19) (b := j) (by omega) (by omega)).mpr q9)
              refine lv_aload_n hx hb dX2_clearTable_41 rfl (lv_at hl 2 rfl) ?_
              refine tp_get (ci := 1) (C := RX2) (T := TX2) (N := 14) hx hb hts hin_X2 hown hK hw hm_h0 4 ht_h0 (fun _ => rfl) rfl 11 (by decide) rfl (hts (.fieldLink RX2 34 "DayBench$Search" "apart" "[[I") (by decide +kernel)) (fun _ h9 => h9) dX2_clearTable_42 (fun v_21 hf_22 hv_23 => ?_)
              obtain ⟨b_24, eb_24, hm_b_24, ht_b_24⟩ := hv_23
              subst eb_24
              refine lv_iload_n hx hb dX2_clearTable_45 rfl (lv_at hl 1 rfl) ?_
              refine tp_aald hx hb hK hw hm_b_24 11 ht_b_24 3 (n := 6) (t' := 3) (fun _ => rfl) rfl rfl (vp_in_nI (by omega) (by omega)) dX2_clearTable_46 (fun b_25 hf_26 hm_b_25 ht_b_25 => ?_)
              clear hf_26
              refine lv_iload_n hx hb dX2_clearTable_47 rfl (lv_at hl 0 rfl) ?_
              refine lv_iload_n hx hb dX2_clearTable_48 rfl (lv_at hl 1 rfl) ?_
              refine lv_iload_n hx hb dX2_clearTable_49 rfl (lv_at hl 0 rfl) ?_
              refine lv_icmp_ne (tgt := 57) hx hb dX2_clearTable_50 (by decide) (fun h_27 => ?_) (fun h_27 => ?_)
              · have nh_27 : ¬ i = j := fun q9 => h_27 ((nI_eq (a := i) (b := j) (by omega) (by omega)).mpr q9)
                refine lv_ldc (own := RX2) (v := 985999) hx hb hown (hts (.constant RX2 94 (985999)) (by decide +kernel)) dX2_clearTable_57 ?_
                refine tp_iast hx hb hN hK hw hm_b_25 3 ht_b_25 rfl (n := 6) (fun _ => rfl) (vp_in_nI (by omega) (by omega)) dX2_clearTable_59 (fun H locs f hw ho_28 => ?_)
                have hf_22 : fld (f h0) 11 = some (.ref b_24) := by rw [ho_28 h0 (tne ht_h0 ht_b_25 (by decide))]; exact hf_22
                clear ho_28
                refine lv_iinc (v := nI (j + 1)) (lv' := [(2, .int (nI (j + 1))), (1, .int (nI i)), (0, .ref h0)]) hx hb dX2_clearTable_60 hl (k := 0) rfl (nI_1 _) (by decide) rfl (fun ls hl => ?_)
                refine lv_goto (tgt := 33) hx hb dX2_clearTable_63 (by decide) ?_
                exact ih_33 ((j + 1)) (by omega) (by omega) _ _ _ ls hw (lv_sub hl [0, 1, 2] rfl)
              · have nh_27 : i = j := (nI_eq (a := i) (b := j) (by omega) (by omega)).mp h_27
                refine lv_iconst (v := 0) hx hb dX2_clearTable_53 (by decide) ?_
                refine lv_goto (tgt := 59) hx hb dX2_clearTable_54 (by decide) ?_
                refine tp_iast hx hb hN hK hw hm_b_25 3 ht_b_25 rfl (n := 6) (fun _ => rfl) (vp_in_nI (by omega) (by omega)) dX2_clearTable_59 (fun H locs f hw ho_29 => ?_)
                have hf_22 : fld (f h0) 11 = some (.ref b_24) := by rw [ho_29 h0 (tne ht_h0 ht_b_25 (by decide))]; exact hf_22
                clear ho_29
                refine lv_iinc (v := nI (j + 1)) (lv' := [(2, .int (nI (j + 1))), (1, .int (nI i)), (0, .ref h0)]) hx hb dX2_clearTable_60 hl (k := 0) rfl (nI_1 _) (by decide) rfl (fun ls hl => ?_)
                refine lv_goto (tgt := 33) hx hb dX2_clearTable_63 (by decide) ?_
                exact ih_33 ((j + 1)) (by omega) (by omega) _ _ _ ls hw (lv_sub hl [0, 1, 2] rfl)
        exact hl_33 _ 0 (Nat.lt_succ_self _) (by omega) _ _ _ ls hw (lv_sub hl [0, 1, 2] rfl)
  exact hl_2 _ 0 (Nat.lt_succ_self _) (by omega) _ _ _ ls hw (lv_sub hl [0, 1] rfl)

set_option maxHeartbeats 4000000 in
set_option maxRecDepth 100000 in
theorem k_X2_layBehind (l : Launch) (dC : Nat → ClassId) (dI : Nat → Nat → Nat) (cI cS cP cA : ClassId) (L : List Nat) (tg : Nat → Nat) (f : Nat → va_E) (hN : L.Nodup) (hT : ∀ a : Nat, a ∈ L → tg a < 13) (hI : PI cI cS cP cA L tg f) (h0 : Nat) (hm_h0 : h0 ∈ L) (ht_h0 : tg h0 = 4) (a1 : Nat) (hm_a1 : a1 ∈ L) (ht_a1 : tg a1 = 0) : Met l yX2_layBehind wsX2_layBehind ({ frames := 1, cells := 0, slots := 0, locals := 15 }) (va_Pc [.ref h0, .ref a1] (tPre dC dI cI cS cP cA L f)) (va_Qv (fun (f' : Nat → va_E) => PI cI cS cP cA L tg f' ∧ Fr L tg (fun t => t == 3) f f') (fun (f' : Nat → va_E) t => va_P (dC, dI) vwCl (va_pl L f') t.heap) (fun q : Nat => q ∈ L)) 0 0 (fun q : Nat => q ∈ L) := by
  refine Met.ofW (cc := cX2_layBehind) (maxL := 4) (ret := none) (by decide) rfl ?_
  intro p e s m args below meth c s₁ B hml hv
  obtain ⟨rfl, hP, hK, hcm⟩ := hv
  have hx := B.exec
  have hb := B.bytes
  have hr := B.returns
  have hts := atoms_spec (ws := wsX2_layBehind) B.pre
  have hown : s.vm.findClass RX2 = some m.cls := findClass_of_methodNamed B.named
  have hlocks := B.notSynchronized
  have hin_X1 : ∀ w ∈ u_ws RX1 TX1 9, w ∈ wsX2_layBehind := by decide +kernel
  have hin_X2 : ∀ w ∈ u_ws RX2 TX2 14, w ∈ wsX2_layBehind := by decide +kernel
  have hl := lv_entry ([.ref h0, .ref a1]) (n := 4) (Nat.le_of_ble_eq_true rfl)
  rw [lg_entry_eq]
  generalize (lg_sl ([.ref h0, .ref a1]) ++ List.replicate (4 - (lg_sl ([.ref h0, .ref a1])).length) Slot.unset).toArray = ls at hl ⊢
  have hl : lv_has ls 4 [(0, .ref h0), (1, .ref a1)] := hl
  generalize hQ : MQ below (va_Qv (fun (f' : Nat → va_E) => PI cI cS cP cA L tg f' ∧ Fr L tg (fun t => t == 3) f f') (fun (f' : Nat → va_E) t => va_P (dC, dI) vwCl (va_pl L f') t.heap) (fun q : Nat => q ∈ L)) [.ref h0, .ref a1].toArray s 0 0 (fun q : Nat => q ∈ L) = Q
  obtain ⟨f0, hf0⟩ : ∃ g : Nat → va_E, g = f := ⟨_, rfl⟩
  have hw : PW dC dI cI cS cP cA L tg (fun t => t == 3) f0 s.heap f s.heap [] := by rw [hf0]; exact PW.start hP hI
  clear hP
  refine lv_aload_n hx hb dX2_layBehind_0 rfl (lv_at hl 1 rfl) ?_
  refine tp_get (ci := 0) (C := RX1) (T := TX1) (N := 9) hx hb hts hin_X1 hown hK hw hm_a1 0 ht_a1 (fun _ => rfl) rfl 1 (by decide) rfl (hts (.fieldLink RX2 72 "DayBench$Saying" "event" "I") (by decide +kernel)) (fun _ h9 => h9) dX2_layBehind_1 (fun v_1 hf_2 hv_3 => ?_)
  obtain ⟨k_4, ek_4, hk_k_4⟩ := hv_3
  subst ek_4
  clear hf_2
  refine lv_istore_n (lv' := [(2, .int (nI k_4)), (0, .ref h0), (1, .ref a1)]) hx hb dX2_layBehind_4 rfl hl (by decide) rfl (fun ls hl => ?_)
  refine lv_aload_n hx hb dX2_layBehind_5 rfl (lv_at hl 2 rfl) ?_
  refine tp_get (ci := 0) (C := RX1) (T := TX1) (N := 9) hx hb hts hin_X1 hown hK hw hm_a1 0 ht_a1 (fun _ => rfl) rfl 8 (by decide) rfl (hts (.fieldLink RX2 99 "DayBench$Saying" "behindEvent" "I") (by decide +kernel)) (fun _ h9 => h9) dX2_layBehind_6 (fun v_5 hf_6 hv_7 => ?_)
  obtain ⟨k_8, ek_8, hk_k_8⟩ := hv_7
  subst ek_8
  clear hf_6
  refine lv_istore_n (lv' := [(3, .int (nI k_8)), (2, .int (nI k_4)), (0, .ref h0), (1, .ref a1)]) hx hb dX2_layBehind_9 rfl hl (by decide) rfl (fun ls hl => ?_)
  refine lv_aload_n hx hb dX2_layBehind_10 rfl (lv_at hl 2 rfl) ?_
  refine tp_get (ci := 1) (C := RX2) (T := TX2) (N := 14) hx hb hts hin_X2 hown hK hw hm_h0 4 ht_h0 (fun _ => rfl) rfl 11 (by decide) rfl (hts (.fieldLink RX2 34 "DayBench$Search" "apart" "[[I") (by decide +kernel)) (fun _ h9 => h9) dX2_layBehind_11 (fun v_9 hf_10 hv_11 => ?_)
  obtain ⟨b_12, eb_12, hm_b_12, ht_b_12⟩ := hv_11
  subst eb_12
  refine lv_iload_n hx hb dX2_layBehind_14 rfl (lv_at hl 0 rfl) ?_
  refine tp_aald hx hb hK hw hm_b_12 11 ht_b_12 3 (n := 6) (t' := 3) (fun _ => rfl) rfl rfl (vp_in_nI (by omega) (by omega)) dX2_layBehind_15 (fun b_13 hf_14 hm_b_13 ht_b_13 => ?_)
  clear hf_14
  refine lv_iload_n hx hb dX2_layBehind_16 rfl (lv_at hl 1 rfl) ?_
  refine lv_aload_n hx hb dX2_layBehind_17 rfl (lv_at hl 2 rfl) ?_
  refine tp_getK (ci := 1) (C := RX2) (T := TX2) (N := 14) hx hb hts hin_X2 hown hK hw hm_h0 4 ht_h0 (fun _ => rfl) rfl 11 (by decide) hf_10 (hts (.fieldLink RX2 34 "DayBench$Search" "apart" "[[I") (by decide +kernel)) (fun _ h9 => h9) dX2_layBehind_18 ?_
  refine lv_iload_n hx hb dX2_layBehind_21 rfl (lv_at hl 0 rfl) ?_
  refine tp_aald hx hb hK hw hm_b_12 11 ht_b_12 3 (n := 6) (t' := 3) (fun _ => rfl) rfl rfl (vp_in_nI (by omega) (by omega)) dX2_layBehind_22 (fun b_15 hf_16 hm_b_15 ht_b_15 => ?_)
  clear hf_16
  refine lv_iload_n hx hb dX2_layBehind_23 rfl (lv_at hl 1 rfl) ?_
  refine tp_iald hx hb hK hw hm_b_15 3 ht_b_15 (n := 6) (fun _ => rfl) (vp_in_nI (by omega) (by omega)) dX2_layBehind_24 (fun y_17 => ?_)
  refine lv_aload_n hx hb dX2_layBehind_25 rfl (lv_at hl 3 rfl) ?_
  refine tp_get (ci := 0) (C := RX1) (T := TX1) (N := 9) hx hb hts hin_X1 hown hK hw hm_a1 0 ht_a1 (fun _ => rfl) rfl 7 (by decide) rfl (hts (.fieldLink RX2 102 "DayBench$Saying" "mostBehind" "I") (by decide +kernel)) (fun _ h9 => h9) dX2_layBehind_26 (fun v_18 hf_19 hv_20 => ?_)
  obtain ⟨y_21, ey_21⟩ := hv_20
  subst ey_21
  clear hf_19
  refine va_mmin (own := RX2) (x := y_17) (y := y_21) hx hb (hml.trans hl.1.symm) hown (hts (.methodLink RX2 43 Lib.Math.min.name) (by decide +kernel)) (hts (.static Lib.Math.min.name) (by decide +kernel)) (hts (.initialized "java/lang/Math") (by decide +kernel)) (hts (.code Lib.Math.min.name Lib.Math.min.code 2 (some .int)) (by decide +kernel)) (Nat.le_of_ble_eq_true rfl) (Nat.le_of_ble_eq_true rfl) (Nat.le_of_ble_eq_true rfl) (Nat.le_of_ble_eq_true rfl) dX2_layBehind_29 ?_
  refine tp_iast hx hb hN hK hw hm_b_13 3 ht_b_13 rfl (n := 6) (fun _ => rfl) (vp_in_nI (by omega) (by omega)) dX2_layBehind_32 (fun H locs f hw ho_22 => ?_)
  have hf_10 : fld (f h0) 11 = some (.ref b_12) := by rw [ho_22 h0 (tne ht_h0 ht_b_13 (by decide))]; exact hf_10
  clear ho_22
  refine lv_aload_n hx hb dX2_layBehind_33 rfl (lv_at hl 2 rfl) ?_
  refine tp_getK (ci := 1) (C := RX2) (T := TX2) (N := 14) hx hb hts hin_X2 hown hK hw hm_h0 4 ht_h0 (fun _ => rfl) rfl 11 (by decide) hf_10 (hts (.fieldLink RX2 34 "DayBench$Search" "apart" "[[I") (by decide +kernel)) (fun _ h9 => h9) dX2_layBehind_34 ?_
  refine lv_iload_n hx hb dX2_layBehind_37 rfl (lv_at hl 1 rfl) ?_
  refine tp_aald hx hb hK hw hm_b_12 11 ht_b_12 3 (n := 6) (t' := 3) (fun _ => rfl) rfl rfl (vp_in_nI (by omega) (by omega)) dX2_layBehind_38 (fun b_23 hf_24 hm_b_23 ht_b_23 => ?_)
  clear hf_24
  refine lv_iload_n hx hb dX2_layBehind_39 rfl (lv_at hl 0 rfl) ?_
  refine lv_aload_n hx hb dX2_layBehind_40 rfl (lv_at hl 2 rfl) ?_
  refine tp_getK (ci := 1) (C := RX2) (T := TX2) (N := 14) hx hb hts hin_X2 hown hK hw hm_h0 4 ht_h0 (fun _ => rfl) rfl 11 (by decide) hf_10 (hts (.fieldLink RX2 34 "DayBench$Search" "apart" "[[I") (by decide +kernel)) (fun _ h9 => h9) dX2_layBehind_41 ?_
  refine lv_iload_n hx hb dX2_layBehind_44 rfl (lv_at hl 1 rfl) ?_
  refine tp_aald hx hb hK hw hm_b_12 11 ht_b_12 3 (n := 6) (t' := 3) (fun _ => rfl) rfl rfl (vp_in_nI (by omega) (by omega)) dX2_layBehind_45 (fun b_25 hf_26 hm_b_25 ht_b_25 => ?_)
  clear hf_26
  refine lv_iload_n hx hb dX2_layBehind_46 rfl (lv_at hl 0 rfl) ?_
  refine tp_iald hx hb hK hw hm_b_25 3 ht_b_25 (n := 6) (fun _ => rfl) (vp_in_nI (by omega) (by omega)) dX2_layBehind_47 (fun y_27 => ?_)
  refine lv_aload_n hx hb dX2_layBehind_48 rfl (lv_at hl 3 rfl) ?_
  refine tp_get (ci := 0) (C := RX1) (T := TX1) (N := 9) hx hb hts hin_X1 hown hK hw hm_a1 0 ht_a1 (fun _ => rfl) rfl 6 (by decide) rfl (hts (.fieldLink RX2 105 "DayBench$Saying" "leastBehind" "I") (by decide +kernel)) (fun _ h9 => h9) dX2_layBehind_49 (fun v_28 hf_29 hv_30 => ?_)
  obtain ⟨y_31, ey_31⟩ := hv_30
  subst ey_31
  clear hf_29
  refine lv_ineg hx hb dX2_layBehind_52 ?_
  refine va_mmin (own := RX2) (x := y_27) (y := (-y_31)) hx hb (hml.trans hl.1.symm) hown (hts (.methodLink RX2 43 Lib.Math.min.name) (by decide +kernel)) (hts (.static Lib.Math.min.name) (by decide +kernel)) (hts (.initialized "java/lang/Math") (by decide +kernel)) (hts (.code Lib.Math.min.name Lib.Math.min.code 2 (some .int)) (by decide +kernel)) (Nat.le_of_ble_eq_true rfl) (Nat.le_of_ble_eq_true rfl) (Nat.le_of_ble_eq_true rfl) (Nat.le_of_ble_eq_true rfl) dX2_layBehind_53 ?_
  refine tp_iast hx hb hN hK hw hm_b_23 3 ht_b_23 rfl (n := 6) (fun _ => rfl) (vp_in_nI (by omega) (by omega)) dX2_layBehind_56 (fun H locs f hw ho_32 => ?_)
  have hf_10 : fld (f h0) 11 = some (.ref b_12) := by rw [ho_32 h0 (tne ht_h0 ht_b_23 (by decide))]; exact hf_10
  clear ho_32
  subst hQ
  have hI9 := hw.2.1
  have hF9 := hw.2.2.1
  have hS9 := hw.2.2.2
  rw [hf0] at hF9
  exact W.vret hx hb hr (fun t ht hW => ⟨⟨_, rfl, ⟨hI9, hF9⟩, hw.at ht⟩, hS9.F ht⟩) hS9.2.2 dX2_layBehind_57

set_option maxHeartbeats 4000000 in
set_option maxRecDepth 100000 in
theorem k_X2_keepCommon (l : Launch) (dC : Nat → ClassId) (dI : Nat → Nat → Nat) (cI cS cP cA : ClassId) (L : List Nat) (tg : Nat → Nat) (f : Nat → va_E) (hN : L.Nodup) (hT : ∀ a : Nat, a ∈ L → tg a < 13) (hI : PI cI cS cP cA L tg f) (h0 : Nat) (hm_h0 : h0 ∈ L) (ht_h0 : tg h0 = 4) (k0 : Nat) (h_k0 : k0 ≤ 5) (a1 : Nat) (hm_a1 : a1 ∈ L) (ht_a1 : tg a1 = 1) : Met l yX2_keepCommon wsX2_keepCommon ({ frames := 3, cells := 0, slots := 0, locals := 61 }) (va_Pc [.ref h0, .int (nI k0), .ref a1] (tPre dC dI cI cS cP cA L f)) (va_Qv (fun (f' : Nat → va_E) => PI cI cS cP cA L tg f' ∧ Fr L tg (fun t => t == 1 || t == 2 || t == 4 || t == 10) f f') (fun (f' : Nat → va_E) t => va_P (dC, dI) vwCl (va_pl L f') t.heap) (fun q : Nat => q ∈ L)) 0 0 (fun q : Nat => q ∈ L) := by
  refine Met.ofW (cc := cX2_keepCommon) (maxL := 4) (ret := none) (by decide) rfl ?_
  intro p e s m args below meth c s₁ B hml hv
  obtain ⟨rfl, hP, hK, hcm⟩ := hv
  have hx := B.exec
  have hb := B.bytes
  have hr := B.returns
  have hts := atoms_spec (ws := wsX2_keepCommon) B.pre
  have hown : s.vm.findClass RX2 = some m.cls := findClass_of_methodNamed B.named
  have hlocks := B.notSynchronized
  have hin_X2 : ∀ w ∈ u_ws RX2 TX2 14, w ∈ wsX2_keepCommon := by decide +kernel
  have hl := lv_entry ([.ref h0, .int (nI k0), .ref a1]) (n := 4) (Nat.le_of_ble_eq_true rfl)
  rw [lg_entry_eq]
  generalize (lg_sl ([.ref h0, .int (nI k0), .ref a1]) ++ List.replicate (4 - (lg_sl ([.ref h0, .int (nI k0), .ref a1])).length) Slot.unset).toArray = ls at hl ⊢
  have hl : lv_has ls 4 [(0, .ref h0), (1, .int (nI k0)), (2, .ref a1)] := hl
  generalize hQ : MQ below (va_Qv (fun (f' : Nat → va_E) => PI cI cS cP cA L tg f' ∧ Fr L tg (fun t => t == 1 || t == 2 || t == 4 || t == 10) f f') (fun (f' : Nat → va_E) t => va_P (dC, dI) vwCl (va_pl L f') t.heap) (fun q : Nat => q ∈ L)) [.ref h0, .int (nI k0), .ref a1].toArray s 0 0 (fun q : Nat => q ∈ L) = Q
  obtain ⟨f0, hf0⟩ : ∃ g : Nat → va_E, g = f := ⟨_, rfl⟩
  have hw : PW dC dI cI cS cP cA L tg (fun t => t == 1 || t == 2 || t == 4 || t == 10) f0 s.heap f s.heap [] := by rw [hf0]; exact PW.start hP hI
  clear hP
  refine lv_aload_n hx hb dX2_keepCommon_0 rfl (lv_at hl 0 rfl) ?_
  refine tp_get (ci := 1) (C := RX2) (T := TX2) (N := 14) hx hb hts hin_X2 hown hK hw hm_h0 4 ht_h0 (fun _ => rfl) rfl 8 (by decide) rfl (hts (.fieldLink RX2 20 "DayBench$Search" "spans" "[LDayBench$Spans;") (by decide +kernel)) (fun _ h9 => h9) dX2_keepCommon_1 (fun v_1 hf_2 hv_3 => ?_)
  obtain ⟨b_4, eb_4, hm_b_4, ht_b_4⟩ := hv_3
  subst eb_4
  refine lv_iload_n hx hb dX2_keepCommon_4 rfl (lv_at hl 1 rfl) ?_
  refine tp_aald hx hb hK hw hm_b_4 10 ht_b_4 2 (n := 6) (t' := 1) (fun _ => rfl) rfl rfl (vp_in_nI (by omega) (by omega)) dX2_keepCommon_5 (fun b_5 hf_6 hm_b_5 ht_b_5 => ?_)
  clear hf_6
  refine lv_astore_n (lv' := [(3, .ref b_5), (0, .ref h0), (1, .int (nI k0)), (2, .ref a1)]) hx hb dX2_keepCommon_6 rfl hl (by decide) rfl (fun ls hl => ?_)
  refine lv_aload_n hx hb dX2_keepCommon_7 rfl (lv_at hl 1 rfl) ?_
  refine tp_get (ci := 1) (C := RX2) (T := TX2) (N := 14) hx hb hts hin_X2 hown hK hw hm_h0 4 ht_h0 (fun _ => rfl) rfl 9 (by decide) rfl (hts (.fieldLink RX2 25 "DayBench$Search" "spare" "LDayBench$Spans;") (by decide +kernel)) (fun _ h9 => h9) dX2_keepCommon_8 (fun v_7 hf_8 hv_9 => ?_)
  obtain ⟨b_10, eb_10, hm_b_10, ht_b_10⟩ := hv_9
  subst eb_10
  refine lv_aload_n hx hb dX2_keepCommon_11 rfl (lv_at hl 0 rfl) ?_
  refine lv_aload_n hx hb dX2_keepCommon_12 rfl (lv_at hl 3 rfl) ?_
  refine va_callv (va_runV (As := [.ref b_5, .ref a1]) (rest := []) ⟨hx, hb, hml, hown, hts⟩ (k_X4_setToCommon l dC dI cI cS cP cA L tg f hN hT hw.2.1 b_10 hm_b_10 ht_b_10 b_5 hm_b_5 ht_b_5 a1 hm_a1 ht_a1) (cwV 2 hts gX2_keepCommon_X4_setToCommon rfl rfl rfl (by decide +kernel) ⟨Nat.le_of_ble_eq_true rfl, Nat.le_of_ble_eq_true rfl⟩) ⟨tPre_blind, tp_recv hK hw hm_b_10 1 ht_b_10 (ci := 3) (fun _ => rfl) rfl, fun U hU hW => ⟨rfl, tPre_at hw hK hcm hU hW⟩⟩ rfl rfl hl.1 rfl (lv_room (Nat.le_of_ble_eq_true rfl)) dX2_keepCommon_13 ⟨Nat.le_of_ble_eq_true rfl, Nat.le_of_ble_eq_true rfl⟩) hw.2.2.2 (fun q _ h => h) (fun q h => h) (fun f t H locs ht hvm hp hB hz1 hk1 hS1 => ?_)
  obtain ⟨hI1, hF1⟩ := hp
  have hw := hw.back (S' := (fun t => t == 1 || t == 2)) (by decide) hT hI1 hF1 hB ht hS1
  have hf_2 : fld (f h0) 8 = some (.ref b_4) := by rw [hF1 h0 hm_h0 (by rw [ht_h0]; rfl)]; exact hf_2
  have hf_8 : fld (f h0) 9 = some (.ref b_10) := by rw [hF1 h0 hm_h0 (by rw [ht_h0]; rfl)]; exact hf_8
  clear hI1 hF1 hB ht hz1 hk1 hS1 hvm
  refine lv_aload_n hx hb dX2_keepCommon_16 rfl (lv_at hl 1 rfl) ?_
  refine tp_getK (ci := 1) (C := RX2) (T := TX2) (N := 14) hx hb hts hin_X2 hown hK hw hm_h0 4 ht_h0 (fun _ => rfl) rfl 8 (by decide) hf_2 (hts (.fieldLink RX2 20 "DayBench$Search" "spans" "[LDayBench$Spans;") (by decide +kernel)) (fun _ h9 => h9) dX2_keepCommon_17 ?_
  refine lv_iload_n hx hb dX2_keepCommon_20 rfl (lv_at hl 2 rfl) ?_
  refine lv_aload_n hx hb dX2_keepCommon_21 rfl (lv_at hl 1 rfl) ?_
  refine tp_getK (ci := 1) (C := RX2) (T := TX2) (N := 14) hx hb hts hin_X2 hown hK hw hm_h0 4 ht_h0 (fun _ => rfl) rfl 9 (by decide) hf_8 (hts (.fieldLink RX2 25 "DayBench$Search" "spare" "LDayBench$Spans;") (by decide +kernel)) (fun _ h9 => h9) dX2_keepCommon_22 ?_
  refine tp_aast (r := (RX4, TX4, 3)) (ci := 3) hx hb hN hK hw hm_b_4 10 ht_b_4 rfl 2 (n := 6) (t' := 1) (fun _ => rfl) rfl hm_b_10 ht_b_10 (fun _ => rfl) rfl (vp_in_nI (by omega) (by omega)) dX2_keepCommon_25 (fun H locs f hw ho_12 => ?_)
  have hf_2 : fld (f h0) 8 = some (.ref b_4) := by rw [ho_12 h0 (tne ht_h0 ht_b_4 (by decide))]; exact hf_2
  have hf_8 : fld (f h0) 9 = some (.ref b_10) := by rw [ho_12 h0 (tne ht_h0 ht_b_4 (by decide))]; exact hf_8
  clear ho_12
  refine lv_aload_n hx hb dX2_keepCommon_26 rfl (lv_at hl 1 rfl) ?_
  refine lv_aload_n hx hb dX2_keepCommon_27 rfl (lv_at hl 0 rfl) ?_
  refine tp_put (ci := 1) (C := RX2) (T := TX2) (N := 14) (v := .ref b_5) (ty := (.object "DayBench$Spans")) hx hb hts hin_X2 tyX2 tyX2_ok nmX2 hown hN hK hw hm_h0 4 ht_h0 rfl (fun _ => rfl) rfl 9 (by decide) rfl (hts (.fieldLink RX2 25 "DayBench$Search" "spare" "LDayBench$Spans;") (by decide +kernel)) (fun _ h9 => h9) rfl (by decide +kernel) rfl rfl ⟨_, rfl, hm_b_5, ht_b_5⟩ dX2_keepCommon_28 (fun H locs f hw ho_13 hn_14 hs_15 => ?_)
  have hf_2 := (hs_15 8 (by decide)).trans hf_2
  clear ho_13 hs_15
  subst hQ
  have hI9 := hw.2.1
  have hF9 := hw.2.2.1
  have hS9 := hw.2.2.2
  rw [hf0] at hF9
  exact W.vret hx hb hr (fun t ht hW => ⟨⟨_, rfl, ⟨hI9, hF9⟩, hw.at ht⟩, hS9.F ht⟩) hS9.2.2 dX2_keepCommon_31

set_option maxHeartbeats 4000000 in
set_option maxRecDepth 100000 in
theorem k_X2_find (l : Launch) (dC : Nat → ClassId) (dI : Nat → Nat → Nat) (cI cS cP cA : ClassId) (L : List Nat) (tg : Nat → Nat) (f : Nat → va_E) (hN : L.Nodup) (hT : ∀ a : Nat, a ∈ L → tg a < 13) (hI : PI cI cS cP cA L tg f) (h0 : Nat) (hm_h0 : h0 ∈ L) (ht_h0 : tg h0 = 4) (p0 : Int32) (p1 : Int32) : Met l yX2_find wsX2_find ({ frames := 4, cells := 0, slots := 0, locals := 84 }) (va_Pc [.ref h0, .int p0, .int p1] (tPre dC dI cI cS cP cA L f)) (va_Qv (fun (f' : Nat → va_E) => PI cI cS cP cA L tg f' ∧ Fr L tg (fun t => t == 1 || t == 2 || t == 4 || t == 10) f f') (fun (f' : Nat → va_E) t => va_P (dC, dI) vwCl (va_pl L f') t.heap) (fun q : Nat => q ∈ L)) 0 0 (fun q : Nat => q ∈ L) := by
  refine Met.ofW (cc := cX2_find) (maxL := 3) (ret := none) (by decide) rfl ?_
  intro p e s m args below meth c s₁ B hml hv
  obtain ⟨rfl, hP, hK, hcm⟩ := hv
  have hx := B.exec
  have hb := B.bytes
  have hr := B.returns
  have hts := atoms_spec (ws := wsX2_find) B.pre
  have hown : s.vm.findClass RX2 = some m.cls := findClass_of_methodNamed B.named
  have hlocks := B.notSynchronized
  have hin_X2 : ∀ w ∈ u_ws RX2 TX2 14, w ∈ wsX2_find := by decide +kernel
  have hl := lv_entry ([.ref h0, .int p0, .int p1]) (n := 3) (Nat.le_of_ble_eq_true rfl)
  rw [lg_entry_eq]
  generalize (lg_sl ([.ref h0, .int p0, .int p1]) ++ List.replicate (3 - (lg_sl ([.ref h0, .int p0, .int p1])).length) Slot.unset).toArray = ls at hl ⊢
  have hl : lv_has ls 3 [(0, .ref h0), (1, .int p0), (2, .int p1)] := hl
  generalize hQ : MQ below (va_Qv (fun (f' : Nat → va_E) => PI cI cS cP cA L tg f' ∧ Fr L tg (fun t => t == 1 || t == 2 || t == 4 || t == 10) f f') (fun (f' : Nat → va_E) t => va_P (dC, dI) vwCl (va_pl L f') t.heap) (fun q : Nat => q ∈ L)) [.ref h0, .int p0, .int p1].toArray s 0 0 (fun q : Nat => q ∈ L) = Q
  obtain ⟨f0, hf0⟩ : ∃ g : Nat → va_E, g = f := ⟨_, rfl⟩
  have hw : PW dC dI cI cS cP cA L tg (fun t => t == 1 || t == 2 || t == 4 || t == 10) f0 s.heap f s.heap [] := by rw [hf0]; exact PW.start hP hI
  clear hP
  refine lv_iload_n hx hb dX2_find_0 rfl (lv_at hl 1 rfl) ?_
  refine lv_if_lt (tgt := 37) hx hb dX2_find_1 (by decide) (fun h_1 => ?_) (fun h_1 => ?_)
  · subst hQ
    have hI9 := hw.2.1
    have hF9 := hw.2.2.1
    have hS9 := hw.2.2.2
    rw [hf0] at hF9
    exact W.vret hx hb hr (fun t ht hW => ⟨⟨_, rfl, ⟨hI9, hF9⟩, hw.at ht⟩, hS9.F ht⟩) hS9.2.2 dX2_find_37
  · refine lv_iload_n hx hb dX2_find_4 rfl (lv_at hl 1 rfl) ?_
    refine lv_aload_n hx hb dX2_find_5 rfl (lv_at hl 0 rfl) ?_
    refine tp_get (ci := 1) (C := RX2) (T := TX2) (N := 14) hx hb hts hin_X2 hown hK hw hm_h0 4 ht_h0 (fun _ => rfl) rfl 3 (by decide) rfl (hts (.fieldLink RX2 49 "DayBench$Search" "events" "I") (by decide +kernel)) (fun _ h9 => h9) dX2_find_6 (fun v_2 hf_3 hv_4 => ?_)
    obtain ⟨k_5, ek_5, hk_k_5⟩ := hv_4
    subst ek_5
    clear hf_3
    refine lv_icmp_ge (tgt := 37) hx hb dX2_find_9 (by decide) (fun h_6 => ?_) (fun h_6 => ?_)
    · subst hQ
      have hI9 := hw.2.1
      have hF9 := hw.2.2.1
      have hS9 := hw.2.2.2
      rw [hf0] at hF9
      exact W.vret hx hb hr (fun t ht hW => ⟨⟨_, rfl, ⟨hI9, hF9⟩, hw.at ht⟩, hS9.F ht⟩) hS9.2.2 dX2_find_37
    · obtain ⟨k_7, hk_7, ek_7⟩ := lt_nI (M := 6) h_1 h_6 (by omega) (by omega)
      rw [ek_7] at hl
      refine lv_aload_n hx hb dX2_find_12 rfl (lv_at hl 0 rfl) ?_
      refine tp_get (ci := 1) (C := RX2) (T := TX2) (N := 14) hx hb hts hin_X2 hown hK hw hm_h0 4 ht_h0 (fun _ => rfl) rfl 10 (by decide) rfl (hts (.fieldLink RX2 29 "DayBench$Search" "findSpan" "LDayBench$Spans;") (by decide +kernel)) (fun _ h9 => h9) dX2_find_13 (fun v_8 hf_9 hv_10 => ?_)
      obtain ⟨b_11, eb_11, hm_b_11, ht_b_11⟩ := hv_10
      subst eb_11
      refine va_callv (va_runV (As := []) (rest := []) ⟨hx, hb, hml, hown, hts⟩ (k_X4_clear l dC dI cI cS cP cA L tg f hN hT hw.2.1 b_11 hm_b_11 ht_b_11) (cwV 0 hts gX2_find_X4_clear rfl rfl rfl (by decide +kernel) ⟨Nat.le_of_ble_eq_true rfl, Nat.le_of_ble_eq_true rfl⟩) ⟨tPre_blind, tp_recv hK hw hm_b_11 1 ht_b_11 (ci := 3) (fun _ => rfl) rfl, fun U hU hW => ⟨rfl, tPre_at hw hK hcm hU hW⟩⟩ rfl rfl hl.1 rfl (lv_room (Nat.le_of_ble_eq_true rfl)) dX2_find_16 ⟨Nat.le_of_ble_eq_true rfl, Nat.le_of_ble_eq_true rfl⟩) hw.2.2.2 (fun q _ h => h) (fun q h => h) (fun f t H locs ht hvm hp hB hz1 hk1 hS1 => ?_)
      obtain ⟨hI1, hF1⟩ := hp
      have hw := hw.back (S' := (fun t => t == 1)) (by decide) hT hI1 hF1 hB ht hS1
      have hf_9 : fld (f h0) 10 = some (.ref b_11) := by rw [hF1 h0 hm_h0 (by rw [ht_h0]; rfl)]; exact hf_9
      clear hI1 hF1 hB ht hz1 hk1 hS1 hvm
      refine lv_aload_n hx hb dX2_find_19 rfl (lv_at hl 0 rfl) ?_
      refine tp_getK (ci := 1) (C := RX2) (T := TX2) (N := 14) hx hb hts hin_X2 hown hK hw hm_h0 4 ht_h0 (fun _ => rfl) rfl 10 (by decide) hf_9 (hts (.fieldLink RX2 29 "DayBench$Search" "findSpan" "LDayBench$Spans;") (by decide +kernel)) (fun _ h9 => h9) dX2_find_20 ?_
      refine lv_iload_n hx hb dX2_find_23 rfl (lv_at hl 2 rfl) ?_
      refine lv_iload_n hx hb dX2_find_24 rfl (lv_at hl 2 rfl) ?_
      refine va_callv (va_runV (As := [.int p1, .int p1]) (rest := []) ⟨hx, hb, hml, hown, hts⟩ (k_X4_add l dC dI cI cS cP cA L tg f hN hT hw.2.1 b_11 hm_b_11 ht_b_11 p1 p1) (cwV 2 hts gX2_find_X4_add rfl rfl rfl (by decide +kernel) ⟨Nat.le_of_ble_eq_true rfl, Nat.le_of_ble_eq_true rfl⟩) ⟨tPre_blind, tp_recv hK hw hm_b_11 1 ht_b_11 (ci := 3) (fun _ => rfl) rfl, fun U hU hW => ⟨rfl, tPre_at hw hK hcm hU hW⟩⟩ rfl rfl hl.1 rfl (lv_room (Nat.le_of_ble_eq_true rfl)) dX2_find_25 ⟨Nat.le_of_ble_eq_true rfl, Nat.le_of_ble_eq_true rfl⟩) hw.2.2.2 (fun q _ h => h) (fun q h => h) (fun f t H locs ht hvm hp hB hz1 hk1 hS1 => ?_)
      obtain ⟨hI1, hF1⟩ := hp
      have hw := hw.back (S' := (fun t => t == 1 || t == 2)) (by decide) hT hI1 hF1 hB ht hS1
      have hf_9 : fld (f h0) 10 = some (.ref b_11) := by rw [hF1 h0 hm_h0 (by rw [ht_h0]; rfl)]; exact hf_9
      clear hI1 hF1 hB ht hz1 hk1 hS1 hvm
      refine lv_aload_n hx hb dX2_find_28 rfl (lv_at hl 0 rfl) ?_
      refine lv_iload_n hx hb dX2_find_29 rfl (lv_at hl 1 rfl) ?_
      refine lv_aload_n hx hb dX2_find_30 rfl (lv_at hl 0 rfl) ?_
      refine tp_getK (ci := 1) (C := RX2) (T := TX2) (N := 14) hx hb hts hin_X2 hown hK hw hm_h0 4 ht_h0 (fun _ => rfl) rfl 10 (by decide) hf_9 (hts (.fieldLink RX2 29 "DayBench$Search" "findSpan" "LDayBench$Spans;") (by decide +kernel)) (fun _ h9 => h9) dX2_find_31 ?_
      refine va_callv (va_runV (As := [.int (nI k_7), .ref b_11]) (rest := []) ⟨hx, hb, hml, hown, hts⟩ (k_X2_keepCommon l dC dI cI cS cP cA L tg f hN hT hw.2.1 h0 hm_h0 ht_h0 k_7 (by first | omega | decide) b_11 hm_b_11 ht_b_11) (cwV 2 hts gX2_find_X2_keepCommon rfl rfl rfl (by decide +kernel) ⟨Nat.le_of_ble_eq_true rfl, Nat.le_of_ble_eq_true rfl⟩) ⟨tPre_blind, tp_recv hK hw hm_h0 4 ht_h0 (ci := 1) (fun _ => rfl) rfl, fun U hU hW => ⟨rfl, tPre_at hw hK hcm hU hW⟩⟩ rfl rfl hl.1 rfl (lv_room (Nat.le_of_ble_eq_true rfl)) dX2_find_34 ⟨Nat.le_of_ble_eq_true rfl, Nat.le_of_ble_eq_true rfl⟩) hw.2.2.2 (fun q _ h => h) (fun q h => h) (fun f t H locs ht hvm hp hB hz1 hk1 hS1 => ?_)
      obtain ⟨hI1, hF1⟩ := hp
      have hw := hw.back (S' := (fun t => t == 1 || t == 2 || t == 4 || t == 10)) (by decide) hT hI1 hF1 hB ht hS1
      clear hI1 hF1 hB ht hz1 hk1 hS1 hvm
      subst hQ
      have hI9 := hw.2.1
      have hF9 := hw.2.2.1
      have hS9 := hw.2.2.2
      rw [hf0] at hF9
      exact W.vret hx hb hr (fun t ht hW => ⟨⟨_, rfl, ⟨hI9, hF9⟩, hw.at ht⟩, hS9.F ht⟩) hS9.2.2 dX2_find_37

set_option maxHeartbeats 4000000 in
set_option maxRecDepth 100000 in
theorem k_X2_closeApart (l : Launch) (dC : Nat → ClassId) (dI : Nat → Nat → Nat) (cI cS cP cA : ClassId) (L : List Nat) (tg : Nat → Nat) (f : Nat → va_E) (hN : L.Nodup) (hT : ∀ a : Nat, a ∈ L → tg a < 13) (hI : PI cI cS cP cA L tg f) (h0 : Nat) (hm_h0 : h0 ∈ L) (ht_h0 : tg h0 = 4) : Met l yX2_closeApart wsX2_closeApart ({ frames := 1, cells := 0, slots := 0, locals := 15 }) (va_Pc [.ref h0] (tPre dC dI cI cS cP cA L f)) (va_Qi (fun (r : Int32) (f' : Nat → va_E) => PI cI cS cP cA L tg f' ∧ Fr L tg (fun t => t == 3) f f' ∧ (r = 0 ∨ r = 1)) (fun (f' : Nat → va_E) t => va_P (dC, dI) vwCl (va_pl L f') t.heap) (fun q : Nat => q ∈ L)) 0 0 (fun q : Nat => q ∈ L) := by
  refine Met.ofW (cc := cX2_closeApart) (maxL := 4) (ret := (some .boolean)) (by decide) rfl ?_
  intro p e s m args below meth c s₁ B hml hv
  obtain ⟨rfl, hP, hK, hcm⟩ := hv
  have hx := B.exec
  have hb := B.bytes
  have hr := B.returns
  have hts := atoms_spec (ws := wsX2_closeApart) B.pre
  have hown : s.vm.findClass RX2 = some m.cls := findClass_of_methodNamed B.named
  have hlocks := B.notSynchronized
  have hin_X2 : ∀ w ∈ u_ws RX2 TX2 14, w ∈ wsX2_closeApart := by decide +kernel
  have hl := lv_entry ([.ref h0]) (n := 4) (Nat.le_of_ble_eq_true rfl)
  rw [lg_entry_eq]
  generalize (lg_sl ([.ref h0]) ++ List.replicate (4 - (lg_sl ([.ref h0])).length) Slot.unset).toArray = ls at hl ⊢
  have hl : lv_has ls 4 [(0, .ref h0)] := hl
  generalize hQ : MQ below (va_Qi (fun (r : Int32) (f' : Nat → va_E) => PI cI cS cP cA L tg f' ∧ Fr L tg (fun t => t == 3) f f' ∧ (r = 0 ∨ r = 1)) (fun (f' : Nat → va_E) t => va_P (dC, dI) vwCl (va_pl L f') t.heap) (fun q : Nat => q ∈ L)) [.ref h0].toArray s 0 0 (fun q : Nat => q ∈ L) = Q
  obtain ⟨f0, hf0⟩ : ∃ g : Nat → va_E, g = f := ⟨_, rfl⟩
  have hw : PW dC dI cI cS cP cA L tg (fun t => t == 3) f0 s.heap f s.heap [] := by rw [hf0]; exact PW.start hP hI
  clear hP
  refine lv_iconst (v := 0) hx hb dX2_closeApart_0 (by decide) ?_
  refine lv_istore_n (lv' := [(1, .int 0), (0, .ref h0)]) hx hb dX2_closeApart_1 rfl hl (by decide) rfl (fun ls hl => ?_)
  have hl_2 : ∀ (fu : Nat) (k : Nat), 6 - k < fu → (k ≤ 6) → ∀ (f : Nat → va_E) (H : Heap) (locs : List Loc) (ls : Array Slot), PW dC dI cI cS cP cA L tg (fun t => t == 3) f0 s.heap f H locs → lv_has ls 4 [(1, .int (nI k)), (0, .ref h0)] → W p l e (headSpec wsX2_closeApart ({ frames := 1, cells := 0, slots := 0, locals := 15 })).room s m [.ref h0].toArray below meth c H locs 0 0 Q (F0 m 2 ls []) := by
    intro fu
    induction fu with
    | zero => intro k hm9; exact absurd hm9 (Nat.not_lt_zero _)
    | succ fu ih_2 =>
      intro k hm_2 h_k f H locs ls hw hl
      refine lv_iload_n hx hb dX2_closeApart_2 rfl (lv_at hl 0 rfl) ?_
      refine lv_aload_n hx hb dX2_closeApart_3 rfl (lv_at hl 1 rfl) ?_
      refine tp_get (ci := 1) (C := RX2) (T := TX2) (N := 14) hx hb hts hin_X2 hown hK hw hm_h0 4 ht_h0 (fun _ => rfl) rfl 3 (by decide) rfl (hts (.fieldLink RX2 49 "DayBench$Search" "events" "I") (by decide +kernel)) (fun _ h9 => h9) dX2_closeApart_4 (fun v_1 hf_2 hv_3 => ?_)
      obtain ⟨k_4, ek_4, hk_k_4⟩ := hv_3
      subst ek_4
      clear hf_2
      refine lv_icmp_ge (tgt := 113) hx hb dX2_closeApart_7 (by decide) (fun h_5 => ?_) (fun h_5 => ?_)
      · have nh_5 : k_4 ≤ k := (nI_leI (a := k_4) (b := k) (by omega) (by omega)).mp h_5
        refine lv_iconst (v := 1) hx hb dX2_closeApart_113 (by decide) ?_
        subst hQ
        have hI9 := hw.2.1
        have hF9 := hw.2.2.1
        have hS9 := hw.2.2.2
        rw [hf0] at hF9
        exact W.zret (v := 1) hx hb hr rfl (fun t ht hW => ⟨⟨_, _, rfl, ⟨hI9, hF9, Or.inr rfl⟩, hw.at ht⟩, hS9.F ht⟩) hS9.2.2 dX2_closeApart_114
      · have nh_5 : ¬ k_4 ≤ k := fun q9 => h_5 ((nI_leI (a := k_4) (b := k) (by omega) (by omega)).mpr q9)
        refine lv_iconst (v := 0) hx hb dX2_closeApart_10 (by decide) ?_
        refine lv_istore_n (lv' := [(2, .int 0), (1, .int (nI k)), (0, .ref h0)]) hx hb dX2_closeApart_11 rfl hl (by decide) rfl (fun ls hl => ?_)
        have hl_12 : ∀ (fu : Nat) (i : Nat), 6 - i < fu → (i ≤ 6) → ∀ (f : Nat → va_E) (H : Heap) (locs : List Loc) (ls : Array Slot), PW dC dI cI cS cP cA L tg (fun t => t == 3) f0 s.heap f H locs → lv_has ls 4 [(2, .int (nI i)), (1, .int (nI k)), (0, .ref h0)] → W p l e (headSpec wsX2_closeApart ({ frames := 1, cells := 0, slots := 0, locals := 15 })).room s m [.ref h0].toArray below meth c H locs 0 0 Q (F0 m 12 ls []) := by
          intro fu
          induction fu with
          | zero => intro i hm9; exact absurd hm9 (Nat.not_lt_zero _)
          | succ fu ih_12 =>
            intro i hm_12 h_i f H locs ls hw hl
            refine lv_iload_n hx hb dX2_closeApart_12 rfl (lv_at hl 0 rfl) ?_
            refine lv_aload_n hx hb dX2_closeApart_13 rfl (lv_at hl 2 rfl) ?_
            refine tp_get (ci := 1) (C := RX2) (T := TX2) (N := 14) hx hb hts hin_X2 hown hK hw hm_h0 4 ht_h0 (fun _ => rfl) rfl 3 (by decide) rfl (hts (.fieldLink RX2 49 "DayBench$Search" "events" "I") (by decide +kernel)) (fun _ h9 => h9) dX2_closeApart_14 (fun v_6 hf_7 hv_8 => ?_)
            obtain ⟨k_9, ek_9, hk_k_9⟩ := hv_8
            subst ek_9
            clear hf_7
            refine lv_icmp_ge (tgt := 78) hx hb dX2_closeApart_17 (by decide) (fun h_10 => ?_) (fun h_10 => ?_)
            · have nh_10 : k_9 ≤ i := (nI_leI (a := k_9) (b := i) (by omega) (by omega)).mp h_10
              refine lv_iconst (v := 0) hx hb dX2_closeApart_78 (by decide) ?_
              refine lv_istore_n (lv' := [(2, .int 0), (1, .int (nI k)), (0, .ref h0)]) hx hb dX2_closeApart_79 rfl hl (by decide) rfl (fun ls hl => ?_)
              have hl_80 : ∀ (fu : Nat) (i2 : Nat), 6 - i2 < fu → (i2 ≤ 6) → ∀ (f : Nat → va_E) (H : Heap) (locs : List Loc) (ls : Array Slot), PW dC dI cI cS cP cA L tg (fun t => t == 3) f0 s.heap f H locs → lv_has ls 4 [(2, .int (nI i2)), (1, .int (nI k)), (0, .ref h0)] → W p l e (headSpec wsX2_closeApart ({ frames := 1, cells := 0, slots := 0, locals := 15 })).room s m [.ref h0].toArray below meth c H locs 0 0 Q (F0 m 80 ls []) := by
                intro fu
                induction fu with
                | zero => intro i2 hm9; exact absurd hm9 (Nat.not_lt_zero _)
                | succ fu ih_80 =>
                  intro i2 hm_80 h_i2 f H locs ls hw hl
                  refine lv_iload_n hx hb dX2_closeApart_80 rfl (lv_at hl 0 rfl) ?_
                  refine lv_aload_n hx hb dX2_closeApart_81 rfl (lv_at hl 2 rfl) ?_
                  refine tp_get (ci := 1) (C := RX2) (T := TX2) (N := 14) hx hb hts hin_X2 hown hK hw hm_h0 4 ht_h0 (fun _ => rfl) rfl 3 (by decide) rfl (hts (.fieldLink RX2 49 "DayBench$Search" "events" "I") (by decide +kernel)) (fun _ h9 => h9) dX2_closeApart_82 (fun v_11 hf_12 hv_13 => ?_)
                  obtain ⟨k_14, ek_14, hk_k_14⟩ := hv_13
                  subst ek_14
                  clear hf_12
                  refine lv_icmp_ge (tgt := 107) hx hb dX2_closeApart_85 (by decide) (fun h_15 => ?_) (fun h_15 => ?_)
                  · have nh_15 : k_14 ≤ i2 := (nI_leI (a := k_14) (b := i2) (by omega) (by omega)).mp h_15
                    refine lv_iinc (v := nI (k + 1)) (lv' := [(1, .int (nI (k + 1))), (2, .int (nI i2)), (0, .ref h0)]) hx hb dX2_closeApart_107 hl (k := 1) rfl (nI_1 _) (by decide) rfl (fun ls hl => ?_)
                    refine lv_goto (tgt := 2) hx hb dX2_closeApart_110 (by decide) ?_
                    exact ih_2 ((k + 1)) (by omega) (by omega) _ _ _ ls hw (lv_sub hl [0, 2] rfl)
                  · have nh_15 : ¬ k_14 ≤ i2 := fun q9 => h_15 ((nI_leI (a := k_14) (b := i2) (by omega) (by omega)).mpr q9)
                    refine lv_aload_n hx hb dX2_closeApart_88 rfl (lv_at hl 2 rfl) ?_
                    refine tp_get (ci := 1) (C := RX2) (T := TX2) (N := 14) hx hb hts hin_X2 hown hK hw hm_h0 4 ht_h0 (fun _ => rfl) rfl 11 (by decide) rfl (hts (.fieldLink RX2 34 "DayBench$Search" "apart" "[[I") (by decide +kernel)) (fun _ h9 => h9) dX2_closeApart_89 (fun v_16 hf_17 hv_18 => ?_)
                    obtain ⟨b_19, eb_19, hm_b_19, ht_b_19⟩ := hv_18
                    subst eb_19
                    refine lv_iload_n hx hb dX2_closeApart_92 rfl (lv_at hl 0 rfl) ?_
                    refine tp_aald hx hb hK hw hm_b_19 11 ht_b_19 3 (n := 6) (t' := 3) (fun _ => rfl) rfl rfl (vp_in_nI (by omega) (by omega)) dX2_closeApart_93 (fun b_20 hf_21 hm_b_20 ht_b_20 => ?_)
                    clear hf_21
                    refine lv_iload_n hx hb dX2_closeApart_94 rfl (lv_at hl 0 rfl) ?_
                    refine tp_iald hx hb hK hw hm_b_20 3 ht_b_20 (n := 6) (fun _ => rfl) (vp_in_nI (by omega) (by omega)) dX2_closeApart_95 (fun y_22 => ?_)
                    refine lv_if_ge (tgt := 101) hx hb dX2_closeApart_96 (by decide) (fun h_23 => ?_) (fun h_23 => ?_)
                    · refine lv_iinc (v := nI (i2 + 1)) (lv' := [(2, .int (nI (i2 + 1))), (1, .int (nI k)), (0, .ref h0)]) hx hb dX2_closeApart_101 hl (k := 0) rfl (nI_1 _) (by decide) rfl (fun ls hl => ?_)
                      refine lv_goto (tgt := 80) hx hb dX2_closeApart_104 (by decide) ?_
                      exact ih_80 ((i2 + 1)) (by omega) (by omega) _ _ _ ls hw (lv_sub hl [0, 1, 2] rfl)
                    · refine lv_iconst (v := 0) hx hb dX2_closeApart_99 (by decide) ?_
                      subst hQ
                      have hI9 := hw.2.1
                      have hF9 := hw.2.2.1
                      have hS9 := hw.2.2.2
                      rw [hf0] at hF9
                      exact W.zret (v := 0) hx hb hr rfl (fun t ht hW => ⟨⟨_, _, rfl, ⟨hI9, hF9, Or.inl rfl⟩, hw.at ht⟩, hS9.F ht⟩) hS9.2.2 dX2_closeApart_100
              exact hl_80 _ 0 (Nat.lt_succ_self _) (by omega) _ _ _ ls hw (lv_sub hl [0, 1, 2] rfl)
            · have nh_10 : ¬ k_9 ≤ i := fun q9 => h_10 ((nI_leI (a := k_9) (b := i) (by omega) (by omega)).mpr q9)
              refine lv_iconst (v := 0) hx hb dX2_closeApart_20 (by decide) ?_
              refine lv_istore_n (lv' := [(3, .int 0), (2, .int (nI i)), (1, .int (nI k)), (0, .ref h0)]) hx hb dX2_closeApart_21 rfl hl (by decide) rfl (fun ls hl => ?_)
              have hl_22 : ∀ (fu : Nat) (j : Nat), 6 - j < fu → (j ≤ 6) → ∀ (f : Nat → va_E) (H : Heap) (locs : List Loc) (ls : Array Slot), PW dC dI cI cS cP cA L tg (fun t => t == 3) f0 s.heap f H locs → lv_has ls 4 [(3, .int (nI j)), (2, .int (nI i)), (1, .int (nI k)), (0, .ref h0)] → W p l e (headSpec wsX2_closeApart ({ frames := 1, cells := 0, slots := 0, locals := 15 })).room s m [.ref h0].toArray below meth c H locs 0 0 Q (F0 m 22 ls []) := by
                intro fu
                induction fu with
                | zero => intro j hm9; exact absurd hm9 (Nat.not_lt_zero _)
                | succ fu ih_22 =>
                  intro j hm_22 h_j f H locs ls hw hl
                  refine lv_iload_n hx hb dX2_closeApart_22 rfl (lv_at hl 0 rfl) ?_
                  refine lv_aload_n hx hb dX2_closeApart_23 rfl (lv_at hl 3 rfl) ?_
                  refine tp_get (ci := 1) (C := RX2) (T := TX2) (N := 14) hx hb hts hin_X2 hown hK hw hm_h0 4 ht_h0 (fun _ => rfl) rfl 3 (by decide) rfl (hts (.fieldLink RX2 49 "DayBench$Search" "events" "I") (by decide +kernel)) (fun _ h9 => h9) dX2_closeApart_24 (fun v_24 hf_25 hv_26 => ?_)
                  obtain ⟨k_27, ek_27, hk_k_27⟩ := hv_26
                  subst ek_27
                  clear hf_25
                  refine lv_icmp_ge (tgt := 72) hx hb dX2_closeApart_27 (by decide) (fun h_28 => ?_) (fun h_28 => ?_)
                  · have nh_28 : k_27 ≤ j := (nI_leI (a := k_27) (b := j) (by omega) (by omega)).mp h_28
                    refine lv_iinc (v := nI (i + 1)) (lv' := [(2, .int (nI (i + 1))), (3, .int (nI j)), (1, .int (nI k)), (0, .ref h0)]) hx hb dX2_closeApart_72 hl (k := 1) rfl (nI_1 _) (by decide) rfl (fun ls hl => ?_)
                    refine lv_goto (tgt := 12) hx hb dX2_closeApart_75 (by decide) ?_
                    exact ih_12 ((i + 1)) (by omega) (by omega) _ _ _ ls hw (lv_sub hl [0, 2, 3] rfl)
                  · have nh_28 : ¬ k_27 ≤ j := fun q9 => h_28 ((nI_leI (a := k_27) (b := j) (by omega) (by omega)).mpr q9)
                    refine lv_aload_n hx hb dX2_closeApart_30 rfl (lv_at hl 3 rfl) ?_
                    refine tp_get (ci := 1) (C := RX2) (T := TX2) (N := 14) hx hb hts hin_X2 hown hK hw hm_h0 4 ht_h0 (fun _ => rfl) rfl 11 (by decide) rfl (hts (.fieldLink RX2 34 "DayBench$Search" "apart" "[[I") (by decide +kernel)) (fun _ h9 => h9) dX2_closeApart_31 (fun v_29 hf_30 hv_31 => ?_)
                    obtain ⟨b_32, eb_32, hm_b_32, ht_b_32⟩ := hv_31
                    subst eb_32
                    refine lv_iload_n hx hb dX2_closeApart_34 rfl (lv_at hl 1 rfl) ?_
                    refine tp_aald hx hb hK hw hm_b_32 11 ht_b_32 3 (n := 6) (t' := 3) (fun _ => rfl) rfl rfl (vp_in_nI (by omega) (by omega)) dX2_closeApart_35 (fun b_33 hf_34 hm_b_33 ht_b_33 => ?_)
                    clear hf_34
                    refine lv_iload_n hx hb dX2_closeApart_36 rfl (lv_at hl 0 rfl) ?_
                    refine lv_aload_n hx hb dX2_closeApart_37 rfl (lv_at hl 3 rfl) ?_
                    refine tp_getK (ci := 1) (C := RX2) (T := TX2) (N := 14) hx hb hts hin_X2 hown hK hw hm_h0 4 ht_h0 (fun _ => rfl) rfl 11 (by decide) hf_30 (hts (.fieldLink RX2 34 "DayBench$Search" "apart" "[[I") (by decide +kernel)) (fun _ h9 => h9) dX2_closeApart_38 ?_
                    refine lv_iload_n hx hb dX2_closeApart_41 rfl (lv_at hl 1 rfl) ?_
                    refine tp_aald hx hb hK hw hm_b_32 11 ht_b_32 3 (n := 6) (t' := 3) (fun _ => rfl) rfl rfl (vp_in_nI (by omega) (by omega)) dX2_closeApart_42 (fun b_35 hf_36 hm_b_35 ht_b_35 => ?_)
                    clear hf_36
                    refine lv_iload_n hx hb dX2_closeApart_43 rfl (lv_at hl 0 rfl) ?_
                    refine tp_iald hx hb hK hw hm_b_35 3 ht_b_35 (n := 6) (fun _ => rfl) (vp_in_nI (by omega) (by omega)) dX2_closeApart_44 (fun y_37 => ?_)
                    refine lv_aload_n hx hb dX2_closeApart_45 rfl (lv_at hl 3 rfl) ?_
                    refine tp_getK (ci := 1) (C := RX2) (T := TX2) (N := 14) hx hb hts hin_X2 hown hK hw hm_h0 4 ht_h0 (fun _ => rfl) rfl 11 (by decide) hf_30 (hts (.fieldLink RX2 34 "DayBench$Search" "apart" "[[I") (by decide +kernel)) (fun _ h9 => h9) dX2_closeApart_46 ?_
                    refine lv_iload_n hx hb dX2_closeApart_49 rfl (lv_at hl 1 rfl) ?_
                    refine tp_aald hx hb hK hw hm_b_32 11 ht_b_32 3 (n := 6) (t' := 3) (fun _ => rfl) rfl rfl (vp_in_nI (by omega) (by omega)) dX2_closeApart_50 (fun b_38 hf_39 hm_b_38 ht_b_38 => ?_)
                    clear hf_39
                    refine lv_iload_n hx hb dX2_closeApart_51 rfl (lv_at hl 2 rfl) ?_
                    refine tp_iald hx hb hK hw hm_b_38 3 ht_b_38 (n := 6) (fun _ => rfl) (vp_in_nI (by omega) (by omega)) dX2_closeApart_52 (fun y_40 => ?_)
                    refine lv_aload_n hx hb dX2_closeApart_53 rfl (lv_at hl 3 rfl) ?_
                    refine tp_getK (ci := 1) (C := RX2) (T := TX2) (N := 14) hx hb hts hin_X2 hown hK hw hm_h0 4 ht_h0 (fun _ => rfl) rfl 11 (by decide) hf_30 (hts (.fieldLink RX2 34 "DayBench$Search" "apart" "[[I") (by decide +kernel)) (fun _ h9 => h9) dX2_closeApart_54 ?_
                    refine lv_iload_n hx hb dX2_closeApart_57 rfl (lv_at hl 2 rfl) ?_
                    refine tp_aald hx hb hK hw hm_b_32 11 ht_b_32 3 (n := 6) (t' := 3) (fun _ => rfl) rfl rfl (vp_in_nI (by omega) (by omega)) dX2_closeApart_58 (fun b_41 hf_42 hm_b_41 ht_b_41 => ?_)
                    clear hf_42
                    refine lv_iload_n hx hb dX2_closeApart_59 rfl (lv_at hl 0 rfl) ?_
                    refine tp_iald hx hb hK hw hm_b_41 3 ht_b_41 (n := 6) (fun _ => rfl) (vp_in_nI (by omega) (by omega)) dX2_closeApart_60 (fun y_43 => ?_)
                    refine lv_iadd hx hb dX2_closeApart_61 ?_
                    refine va_mmin (own := RX2) (x := y_37) (y := (y_40 + y_43)) hx hb (hml.trans hl.1.symm) hown (hts (.methodLink RX2 43 Lib.Math.min.name) (by decide +kernel)) (hts (.static Lib.Math.min.name) (by decide +kernel)) (hts (.initialized "java/lang/Math") (by decide +kernel)) (hts (.code Lib.Math.min.name Lib.Math.min.code 2 (some .int)) (by decide +kernel)) (Nat.le_of_ble_eq_true rfl) (Nat.le_of_ble_eq_true rfl) (Nat.le_of_ble_eq_true rfl) (Nat.le_of_ble_eq_true rfl) dX2_closeApart_62 ?_
                    refine tp_iast hx hb hN hK hw hm_b_33 3 ht_b_33 rfl (n := 6) (fun _ => rfl) (vp_in_nI (by omega) (by omega)) dX2_closeApart_65 (fun H locs f hw ho_44 => ?_)
                    have hf_30 : fld (f h0) 11 = some (.ref b_32) := by rw [ho_44 h0 (tne ht_h0 ht_b_33 (by decide))]; exact hf_30
                    clear ho_44
                    refine lv_iinc (v := nI (j + 1)) (lv' := [(3, .int (nI (j + 1))), (2, .int (nI i)), (1, .int (nI k)), (0, .ref h0)]) hx hb dX2_closeApart_66 hl (k := 0) rfl (nI_1 _) (by decide) rfl (fun ls hl => ?_)
                    refine lv_goto (tgt := 22) hx hb dX2_closeApart_69 (by decide) ?_
                    exact ih_22 ((j + 1)) (by omega) (by omega) _ _ _ ls hw (lv_sub hl [0, 1, 2, 3] rfl)
              exact hl_22 _ 0 (Nat.lt_succ_self _) (by omega) _ _ _ ls hw (lv_sub hl [0, 1, 2, 3] rfl)
        exact hl_12 _ 0 (Nat.lt_succ_self _) (by omega) _ _ _ ls hw (lv_sub hl [0, 1, 2] rfl)
  exact hl_2 _ 0 (Nat.lt_succ_self _) (by omega) _ _ _ ls hw (lv_sub hl [0, 1] rfl)

