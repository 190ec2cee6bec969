set_option maxHeartbeats 4000000 in
set_option maxRecDepth 100000 in
theorem k_X5_settles (l : Launch) (dC : Nat → ClassId) (dI : Nat → Nat → Nat) (cI cS cP cA : ClassId) (L : List Nat) (tg : Nat → Nat) (f : Nat → va_E) (hN : L.Nodup) (hT : ∀ a : Nat, a ∈ L → tg a < 13) (hI : PI cI cS cP cA L tg f) (h0 : Nat) (hm_h0 : h0 ∈ L) (ht_h0 : tg h0 = 6) : Met l yX5_settles wsX5_settles ({ frames := 12, cells := 0, slots := 0, locals := 261 }) (va_Pc [.ref h0] (tPre dC dI cI cS cP cA L f)) (va_Qi (fun (r : Int32) (f' : Nat → va_E) => PI cI cS cP cA L tg f' ∧ Fr L tg (fun t => t == 1 || t == 2 || t == 3 || t == 4 || t == 10) f f') (fun (f' : Nat → va_E) t => va_P (dC, dI) vwCl (va_pl L f') t.heap) (fun q : Nat => q ∈ L)) 0 0 (fun q : Nat => q ∈ L) := by
  refine Met.ofW (cc := cX5_settles) (maxL := 6) (ret := (some .int)) (by decide) rfl ?_
  intro p e s m args below meth c s₁ B hml hv
  obtain ⟨rfl, hP, hK, hcm⟩ := hv
  have hx := B.exec
  have hb := B.bytes
  have hr := B.returns
  have hts := atoms_spec (ws := wsX5_settles) B.pre
  have hown : s.vm.findClass RX5 = some m.cls := findClass_of_methodNamed B.named
  have hlocks := B.notSynchronized
  have hin_X5 : ∀ w ∈ u_ws RX5 TX5 11, w ∈ wsX5_settles := by decide +kernel
  have hin_X2 : ∀ w ∈ u_ws RX2 TX2 14, w ∈ wsX5_settles := by decide +kernel
  have hl := lv_entry ([.ref h0]) (n := 6) (Nat.le_of_ble_eq_true rfl)
  rw [lg_entry_eq]
  generalize (lg_sl ([.ref h0]) ++ List.replicate (6 - (lg_sl ([.ref h0])).length) Slot.unset).toArray = ls at hl ⊢
  have hl : lv_has ls 6 [(0, .ref h0)] := hl
  generalize hQ : MQ below (va_Qi (fun (r : Int32) (f' : Nat → va_E) => PI cI cS cP cA L tg f' ∧ Fr L tg (fun t => t == 1 || t == 2 || t == 3 || t == 4 || t == 10) f f') (fun (f' : Nat → va_E) t => va_P (dC, dI) vwCl (va_pl L f') t.heap) (fun q : Nat => q ∈ L)) [.ref h0].toArray s 0 0 (fun q : Nat => q ∈ L) = Q
  obtain ⟨f0, hf0⟩ : ∃ g : Nat → va_E, g = f := ⟨_, rfl⟩
  have hw : PW dC dI cI cS cP cA L tg (fun t => t == 1 || t == 2 || t == 3 || t == 4 || t == 10) f0 s.heap f s.heap [] := by rw [hf0]; exact PW.start hP hI
  clear hP
  refine lv_aload_n hx hb dX5_settles_0 rfl (lv_at hl 0 rfl) ?_
  refine lv_iconst (v := (-1)) hx hb dX5_settles_1 (by decide) ?_
  refine lv_iconst (v := (-1)) hx hb dX5_settles_2 (by decide) ?_
  refine va_calli (va_runV (As := [.int ((-1)), .int ((-1))]) (rest := []) ⟨hx, hb, hml, hown, hts⟩ (k_X5_askWidth l dC dI cI cS cP cA L tg f hN hT hw.2.1 h0 hm_h0 ht_h0 ((-1)) ((-1))) (cwV 2 hts gX5_settles_X5_askWidth rfl rfl rfl (by decide +kernel) ⟨Nat.le_of_ble_eq_true rfl, Nat.le_of_ble_eq_true rfl⟩) ⟨tPre_blind, tp_recv hK hw hm_h0 6 ht_h0 (ci := 4) (fun _ => rfl) rfl, fun U hU hW => ⟨rfl, tPre_at hw hK hcm hU hW⟩⟩ rfl rfl hl.1 rfl (lv_room (Nat.le_of_ble_eq_true rfl)) dX5_settles_3 ⟨Nat.le_of_ble_eq_true rfl, Nat.le_of_ble_eq_true rfl⟩) hw.2.2.2 (fun q _ h => h) (fun q h => h) (fun r_1 f t H locs ht hvm hp hB hz1 hk1 hS1 => ?_)
  obtain ⟨hI1, hF1⟩ := hp
  have hw := hw.back (S' := (fun t => t == 1 || t == 2 || t == 3 || t == 4 || t == 10)) (by decide) hT hI1 hF1 hB ht hS1
  clear hI1 hF1 hB ht hz1 hk1 hS1 hvm
  refine lv_istore_n (lv' := [(1, .int r_1), (0, .ref h0)]) hx hb dX5_settles_6 rfl hl (by decide) rfl (fun ls hl => ?_)
  refine lv_iload_n hx hb dX5_settles_7 rfl (lv_at hl 0 rfl) ?_
  refine lv_if_ge (tgt := 13) hx hb dX5_settles_8 (by decide) (fun h_2 => ?_) (fun h_2 => ?_)
  · refine lv_aload_n hx hb dX5_settles_13 rfl (lv_at hl 1 rfl) ?_
    refine tp_get (ci := 4) (C := RX5) (T := TX5) (N := 11) hx hb hts hin_X5 hown hK hw hm_h0 6 ht_h0 (fun _ => rfl) rfl 7 (by decide) rfl (hts (.fieldLink RX5 29 "DayBench" "search" "LDayBench$Search;") (by decide +kernel)) (fun _ h9 => h9) dX5_settles_14 (fun v_3 hf_4 hv_5 => ?_)
    obtain ⟨b_6, eb_6, hm_b_6, ht_b_6⟩ := hv_5
    subst eb_6
    refine tp_get (ci := 1) (C := RX2) (T := TX2) (N := 14) hx hb hts hin_X2 hown hK hw hm_b_6 4 ht_b_6 (fun _ => rfl) rfl 0 (by decide) rfl (hts (.fieldLink RX5 142 "DayBench$Search" "earliest" "[I") (by decide +kernel)) (fun _ h9 => h9) dX5_settles_17 (fun v_7 hf_8 hv_9 => ?_)
    obtain ⟨b_10, eb_10, hm_b_10, ht_b_10⟩ := hv_9
    subst eb_10
    refine lv_iconst (v := 0) hx hb dX5_settles_20 (by decide) ?_
    refine lv_aload_n hx hb dX5_settles_21 rfl (lv_at hl 1 rfl) ?_
    refine tp_get (ci := 4) (C := RX5) (T := TX5) (N := 11) hx hb hts hin_X5 hown hK hw hm_h0 6 ht_h0 (fun _ => rfl) rfl 9 (by decide) rfl (hts (.fieldLink RX5 40 "DayBench" "heldFirst" "[I") (by decide +kernel)) (fun _ h9 => h9) dX5_settles_22 (fun v_11 hf_12 hv_13 => ?_)
    obtain ⟨b_14, eb_14, hm_b_14, ht_b_14⟩ := hv_13
    subst eb_14
    refine lv_iconst (v := 0) hx hb dX5_settles_25 (by decide) ?_
    refine lv_bipush (v := 6) hx hb dX5_settles_26 (by decide) ?_
    refine tp_copyi (own := RX5) hx hb (hml.trans hl.1.symm) hown (hts (.methodLink RX5 213 arraycopyName) (by decide +kernel)) (hts (.native arraycopyName) (by decide +kernel)) (hts (.static arraycopyName) (by decide +kernel)) (hts (.initialized "java/lang/System") (by decide +kernel)) hN hK hw hm_b_10 3 ht_b_10 hm_b_14 3 ht_b_14 rfl (n0 := 6) (n1 := 6) (fun _ => rfl) (fun _ => rfl) (by decide) (by decide) (by decide) (by decide) (by decide) (Nat.le_of_ble_eq_true rfl) (Nat.le_of_ble_eq_true rfl) dX5_settles_28 (fun H locs f hw ho_15 => ?_)
    have hf_4 : fld (f h0) 7 = some (.ref b_6) := by rw [ho_15 h0 (tne ht_h0 ht_b_14 (by decide))]; exact hf_4
    have hf_8 : fld (f b_6) 0 = some (.ref b_10) := by rw [ho_15 b_6 (tne ht_b_6 ht_b_14 (by decide))]; exact hf_8
    have hf_12 : fld (f h0) 9 = some (.ref b_14) := by rw [ho_15 h0 (tne ht_h0 ht_b_14 (by decide))]; exact hf_12
    clear ho_15
    refine lv_aload_n hx hb dX5_settles_31 rfl (lv_at hl 1 rfl) ?_
    refine tp_getK (ci := 4) (C := RX5) (T := TX5) (N := 11) hx hb hts hin_X5 hown hK hw hm_h0 6 ht_h0 (fun _ => rfl) rfl 7 (by decide) hf_4 (hts (.fieldLink RX5 29 "DayBench" "search" "LDayBench$Search;") (by decide +kernel)) (fun _ h9 => h9) dX5_settles_32 ?_
    refine tp_get (ci := 1) (C := RX2) (T := TX2) (N := 14) hx hb hts hin_X2 hown hK hw hm_b_6 4 ht_b_6 (fun _ => rfl) rfl 1 (by decide) rfl (hts (.fieldLink RX5 145 "DayBench$Search" "latest" "[I") (by decide +kernel)) (fun _ h9 => h9) dX5_settles_35 (fun v_16 hf_17 hv_18 => ?_)
    obtain ⟨b_19, eb_19, hm_b_19, ht_b_19⟩ := hv_18
    subst eb_19
    refine lv_iconst (v := 0) hx hb dX5_settles_38 (by decide) ?_
    refine lv_aload_n hx hb dX5_settles_39 rfl (lv_at hl 1 rfl) ?_
    refine tp_get (ci := 4) (C := RX5) (T := TX5) (N := 11) hx hb hts hin_X5 hown hK hw hm_h0 6 ht_h0 (fun _ => rfl) rfl 10 (by decide) rfl (hts (.fieldLink RX5 43 "DayBench" "heldLast" "[I") (by decide +kernel)) (fun _ h9 => h9) dX5_settles_40 (fun v_20 hf_21 hv_22 => ?_)
    obtain ⟨b_23, eb_23, hm_b_23, ht_b_23⟩ := hv_22
    subst eb_23
    refine lv_iconst (v := 0) hx hb dX5_settles_43 (by decide) ?_
    refine lv_bipush (v := 6) hx hb dX5_settles_44 (by decide) ?_
    refine tp_copyi (own := RX5) hx hb (hml.trans hl.1.symm) hown (hts (.methodLink RX5 213 arraycopyName) (by decide +kernel)) (hts (.native arraycopyName) (by decide +kernel)) (hts (.static arraycopyName) (by decide +kernel)) (hts (.initialized "java/lang/System") (by decide +kernel)) hN hK hw hm_b_19 3 ht_b_19 hm_b_23 3 ht_b_23 rfl (n0 := 6) (n1 := 6) (fun _ => rfl) (fun _ => rfl) (by decide) (by decide) (by decide) (by decide) (by decide) (Nat.le_of_ble_eq_true rfl) (Nat.le_of_ble_eq_true rfl) dX5_settles_46 (fun H locs f hw ho_24 => ?_)
    have hf_4 : fld (f h0) 7 = some (.ref b_6) := by rw [ho_24 h0 (tne ht_h0 ht_b_23 (by decide))]; exact hf_4
    have hf_8 : fld (f b_6) 0 = some (.ref b_10) := by rw [ho_24 b_6 (tne ht_b_6 ht_b_23 (by decide))]; exact hf_8
    have hf_12 : fld (f h0) 9 = some (.ref b_14) := by rw [ho_24 h0 (tne ht_h0 ht_b_23 (by decide))]; exact hf_12
    have hf_17 : fld (f b_6) 1 = some (.ref b_19) := by rw [ho_24 b_6 (tne ht_b_6 ht_b_23 (by decide))]; exact hf_17
    have hf_21 : fld (f h0) 10 = some (.ref b_23) := by rw [ho_24 h0 (tne ht_h0 ht_b_23 (by decide))]; exact hf_21
    clear ho_24
    refine lv_iconst (v := (-1)) hx hb dX5_settles_49 (by decide) ?_
    refine lv_istore_n (lv' := [(2, .int ((-1))), (1, .int r_1), (0, .ref h0)]) hx hb dX5_settles_50 rfl hl (by decide) rfl (fun ls hl => ?_)
    refine lv_iconst (v := 0) hx hb dX5_settles_51 (by decide) ?_
    refine lv_istore_n (lv' := [(3, .int 0), (2, .int ((-1))), (1, .int r_1), (0, .ref h0)]) hx hb dX5_settles_52 rfl hl (by decide) rfl (fun ls hl => ?_)
    refine lv_iconst (v := 0) hx hb dX5_settles_53 (by decide) ?_
    refine lv_istore (lv' := [(4, .int 0), (3, .int 0), (2, .int ((-1))), (1, .int r_1), (0, .ref h0)]) hx hb dX5_settles_54 hl (by decide) rfl (fun ls hl => ?_)
    have hl_56 : ∀ (fu : Nat) (be : Int32) (le : Int32) (i : Nat), 6 - i < fu → (i ≤ 6) → ∀ (f : Nat → va_E) (H : Heap) (locs : List Loc) (ls : Array Slot), PW dC dI cI cS cP cA L tg (fun t => t == 1 || t == 2 || t == 3 || t == 4 || t == 10) f0 s.heap f H locs → lv_has ls 6 [(4, .int (nI i)), (3, .int le), (2, .int be), (1, .int r_1), (0, .ref h0)] → W p l e (headSpec wsX5_settles ({ frames := 12, cells := 0, slots := 0, locals := 261 })).room s m [.ref h0].toArray below meth c H locs 0 0 Q (F0 m 56 ls []) := by
      intro fu
      induction fu with
      | zero => intro be le i hm9; exact absurd hm9 (Nat.not_lt_zero _)
      | succ fu ih_56 =>
        intro be le i hm_56 h_i f H locs ls hw hl
        refine lv_iload hx hb dX5_settles_56 (lv_at hl 0 rfl) ?_
        refine lv_aload_n hx hb dX5_settles_58 rfl (lv_at hl 4 rfl) ?_
        refine tp_get (ci := 4) (C := RX5) (T := TX5) (N := 11) hx hb hts hin_X5 hown hK hw hm_h0 6 ht_h0 (fun _ => rfl) rfl 4 (by decide) rfl (hts (.fieldLink RX5 71 "DayBench" "events" "I") (by decide +kernel)) (fun _ h9 => h9) dX5_settles_59 (fun v_25 hf_26 hv_27 => ?_)
        obtain ⟨k_28, ek_28, hk_k_28⟩ := hv_27
        subst ek_28
        clear hf_26
        refine lv_icmp_ge (tgt := 123) hx hb dX5_settles_62 (by decide) (fun h_29 => ?_) (fun h_29 => ?_)
        · have nh_29 : k_28 ≤ i := (nI_leI (a := k_28) (b := i) (by omega) (by omega)).mp h_29
          refine lv_iload_n hx hb dX5_settles_123 rfl (lv_at hl 2 rfl) ?_
          subst hQ
          have hI9 := hw.2.1
          have hF9 := hw.2.2.1
          have hS9 := hw.2.2.2
          rw [hf0] at hF9
          exact W.iret (v := be) hx hb hr (fun t ht hW => ⟨⟨_, _, rfl, ⟨hI9, hF9⟩, hw.at ht⟩, hS9.F ht⟩) hS9.2.2 dX5_settles_124
        · have nh_29 : ¬ k_28 ≤ i := fun q9 => h_29 ((nI_leI (a := k_28) (b := i) (by omega) (by omega)).mpr q9)
          refine lv_aload_n hx hb dX5_settles_65 rfl (lv_at hl 4 rfl) ?_
          refine tp_get (ci := 4) (C := RX5) (T := TX5) (N := 11) hx hb hts hin_X5 hown hK hw hm_h0 6 ht_h0 (fun _ => rfl) rfl 9 (by decide) rfl (hts (.fieldLink RX5 40 "DayBench" "heldFirst" "[I") (by decide +kernel)) (fun _ h9 => h9) dX5_settles_66 (fun v_30 hf_31 hv_32 => ?_)
          obtain ⟨b_33, eb_33, hm_b_33, ht_b_33⟩ := hv_32
          subst eb_33
          refine lv_iload hx hb dX5_settles_69 (lv_at hl 0 rfl) ?_
          refine tp_iald hx hb hK hw hm_b_33 3 ht_b_33 (n := 6) (fun _ => rfl) (vp_in_nI (by omega) (by omega)) dX5_settles_71 (fun y_34 => ?_)
          refine lv_aload_n hx hb dX5_settles_72 rfl (lv_at hl 4 rfl) ?_
          refine tp_get (ci := 4) (C := RX5) (T := TX5) (N := 11) hx hb hts hin_X5 hown hK hw hm_h0 6 ht_h0 (fun _ => rfl) rfl 10 (by decide) rfl (hts (.fieldLink RX5 43 "DayBench" "heldLast" "[I") (by decide +kernel)) (fun _ h9 => h9) dX5_settles_73 (fun v_35 hf_36 hv_37 => ?_)
          obtain ⟨b_38, eb_38, hm_b_38, ht_b_38⟩ := hv_37
          subst eb_38
          refine lv_iload hx hb dX5_settles_76 (lv_at hl 0 rfl) ?_
          refine tp_iald hx hb hK hw hm_b_38 3 ht_b_38 (n := 6) (fun _ => rfl) (vp_in_nI (by omega) (by omega)) dX5_settles_78 (fun y_39 => ?_)
          refine lv_icmp_eq (tgt := 117) hx hb dX5_settles_79 (by decide) (fun h_40 => ?_) (fun h_40 => ?_)
          · refine lv_iinc (v := nI (i + 1)) (lv' := [(4, .int (nI (i + 1))), (3, .int le), (2, .int be), (1, .int r_1), (0, .ref h0)]) hx hb dX5_settles_117 hl (k := 0) rfl (nI_1 _) (by decide) rfl (fun ls hl => ?_)
            refine lv_goto (tgt := 56) hx hb dX5_settles_120 (by decide) ?_
            exact ih_56 be le ((i + 1)) (by omega) (by omega) _ _ _ ls hw (lv_sub hl [0, 1, 2, 3, 4] rfl)
          · refine lv_aload_n hx hb dX5_settles_82 rfl (lv_at hl 4 rfl) ?_
            refine lv_iload hx hb dX5_settles_83 (lv_at hl 0 rfl) ?_
            refine va_calli (va_runV (As := [.int (nI i)]) (rest := []) ⟨hx, hb, hml, hown, hts⟩ (k_X5_greaterWidth l dC dI cI cS cP cA L tg f hN hT hw.2.1 h0 hm_h0 ht_h0 i (by first | omega | decide)) (cwV 1 hts gX5_settles_X5_greaterWidth rfl rfl rfl (by decide +kernel) ⟨Nat.le_of_ble_eq_true rfl, Nat.le_of_ble_eq_true rfl⟩) ⟨tPre_blind, tp_recv hK hw hm_h0 6 ht_h0 (ci := 4) (fun _ => rfl) rfl, fun U hU hW => ⟨rfl, tPre_at hw hK hcm hU hW⟩⟩ rfl rfl hl.1 rfl (lv_room (Nat.le_of_ble_eq_true rfl)) dX5_settles_85 ⟨Nat.le_of_ble_eq_true rfl, Nat.le_of_ble_eq_true rfl⟩) hw.2.2.2 (fun q _ h => h) (fun q h => h) (fun r_41 f t H locs ht hvm hp hB hz1 hk1 hS1 => ?_)
            obtain ⟨hI1, hF1⟩ := hp
            have hw := hw.back (S' := (fun t => t == 1 || t == 2 || t == 3 || t == 4 || t == 10)) (by decide) hT hI1 hF1 hB ht hS1
            have hf_31 : fld (f h0) 9 = some (.ref b_33) := by rw [hF1 h0 hm_h0 (by rw [ht_h0]; rfl)]; exact hf_31
            have hf_36 : fld (f h0) 10 = some (.ref b_38) := by rw [hF1 h0 hm_h0 (by rw [ht_h0]; rfl)]; exact hf_36
            clear hI1 hF1 hB ht hz1 hk1 hS1 hvm
            refine lv_istore (lv' := [(5, .int r_41), (4, .int (nI i)), (3, .int le), (2, .int be), (1, .int r_1), (0, .ref h0)]) hx hb dX5_settles_88 hl (by decide) rfl (fun ls hl => ?_)
            refine lv_iload hx hb dX5_settles_90 (lv_at hl 0 rfl) ?_
            refine lv_bipush (v := (-2)) hx hb dX5_settles_92 (by decide) ?_
            refine lv_icmp_ne (tgt := 100) hx hb dX5_settles_94 (by decide) (fun h_42 => ?_) (fun h_42 => ?_)
            · refine lv_iload_n hx hb dX5_settles_100 rfl (lv_at hl 3 rfl) ?_
              refine lv_iconst (v := (-1)) hx hb dX5_settles_101 (by decide) ?_
              refine lv_icmp_eq (tgt := 111) hx hb dX5_settles_102 (by decide) (fun h_43 => ?_) (fun h_43 => ?_)
              · refine lv_iload hx hb dX5_settles_111 (lv_at hl 1 rfl) ?_
                refine lv_istore_n (lv' := [(2, .int (nI i)), (5, .int r_41), (4, .int (nI i)), (3, .int le), (1, .int r_1), (0, .ref h0)]) hx hb dX5_settles_113 rfl hl (by decide) rfl (fun ls hl => ?_)
                refine lv_iload hx hb dX5_settles_114 (lv_at hl 1 rfl) ?_
                refine lv_istore_n (lv' := [(3, .int r_41), (2, .int (nI i)), (5, .int r_41), (4, .int (nI i)), (1, .int r_1), (0, .ref h0)]) hx hb dX5_settles_116 rfl hl (by decide) rfl (fun ls hl => ?_)
                refine lv_iinc (v := nI (i + 1)) (lv' := [(4, .int (nI (i + 1))), (3, .int r_41), (2, .int (nI i)), (5, .int r_41), (1, .int r_1), (0, .ref h0)]) hx hb dX5_settles_117 hl (k := 3) rfl (nI_1 _) (by decide) rfl (fun ls hl => ?_)
                refine lv_goto (tgt := 56) hx hb dX5_settles_120 (by decide) ?_
                exact ih_56 (nI i) r_41 ((i + 1)) (by omega) (by omega) _ _ _ ls hw (lv_sub hl [0, 1, 2, 4, 5] rfl)
              · refine lv_iload hx hb dX5_settles_105 (lv_at hl 0 rfl) ?_
                refine lv_iload_n hx hb dX5_settles_107 rfl (lv_at hl 2 rfl) ?_
                refine lv_icmp_ge (tgt := 117) hx hb dX5_settles_108 (by decide) (fun h_44 => ?_) (fun h_44 => ?_)
                · refine lv_iinc (v := nI (i + 1)) (lv' := [(4, .int (nI (i + 1))), (5, .int r_41), (3, .int le), (2, .int be), (1, .int r_1), (0, .ref h0)]) hx hb dX5_settles_117 hl (k := 1) rfl (nI_1 _) (by decide) rfl (fun ls hl => ?_)
                  refine lv_goto (tgt := 56) hx hb dX5_settles_120 (by decide) ?_
                  exact ih_56 be le ((i + 1)) (by omega) (by omega) _ _ _ ls hw (lv_sub hl [0, 2, 3, 4, 5] rfl)
                · refine lv_iload hx hb dX5_settles_111 (lv_at hl 1 rfl) ?_
                  refine lv_istore_n (lv' := [(2, .int (nI i)), (5, .int r_41), (4, .int (nI i)), (3, .int le), (1, .int r_1), (0, .ref h0)]) hx hb dX5_settles_113 rfl hl (by decide) rfl (fun ls hl => ?_)
                  refine lv_iload hx hb dX5_settles_114 (lv_at hl 1 rfl) ?_
                  refine lv_istore_n (lv' := [(3, .int r_41), (2, .int (nI i)), (5, .int r_41), (4, .int (nI i)), (1, .int r_1), (0, .ref h0)]) hx hb dX5_settles_116 rfl hl (by decide) rfl (fun ls hl => ?_)
                  refine lv_iinc (v := nI (i + 1)) (lv' := [(4, .int (nI (i + 1))), (3, .int r_41), (2, .int (nI i)), (5, .int r_41), (1, .int r_1), (0, .ref h0)]) hx hb dX5_settles_117 hl (k := 3) rfl (nI_1 _) (by decide) rfl (fun ls hl => ?_)
                  refine lv_goto (tgt := 56) hx hb dX5_settles_120 (by decide) ?_
                  exact ih_56 (nI i) r_41 ((i + 1)) (by omega) (by omega) _ _ _ ls hw (lv_sub hl [0, 1, 2, 4, 5] rfl)
            · refine lv_bipush (v := (-2)) hx hb dX5_settles_97 (by decide) ?_
              subst hQ
              have hI9 := hw.2.1
              have hF9 := hw.2.2.1
              have hS9 := hw.2.2.2
              rw [hf0] at hF9
              exact W.iret (v := (-2)) hx hb hr (fun t ht hW => ⟨⟨_, _, rfl, ⟨hI9, hF9⟩, hw.at ht⟩, hS9.F ht⟩) hS9.2.2 dX5_settles_99
    exact hl_56 _ ((-1)) 0 0 (Nat.lt_succ_self _) (by omega) _ _ _ ls hw (lv_sub hl [0, 1, 2, 3, 4] rfl)
  · refine lv_iload_n hx hb dX5_settles_11 rfl (lv_at hl 0 rfl) ?_
    subst hQ
    have hI9 := hw.2.1
    have hF9 := hw.2.2.1
    have hS9 := hw.2.2.2
    rw [hf0] at hF9
    exact W.iret (v := r_1) hx hb hr (fun t ht hW => ⟨⟨_, _, rfl, ⟨hI9, hF9⟩, hw.at ht⟩, hS9.F ht⟩) hS9.2.2 dX5_settles_12

set_option maxHeartbeats 4000000 in
set_option maxRecDepth 100000 in
theorem k_X5_count (l : Launch) (dC : Nat → ClassId) (dI : Nat → Nat → Nat) (cI cS cP cA : ClassId) (L : List Nat) (tg : Nat → Nat) (f : Nat → va_E) (hN : L.Nodup) (hT : ∀ a : Nat, a ∈ L → tg a < 13) (hI : PI cI cS cP cA L tg f) (h0 : Nat) (hm_h0 : h0 ∈ L) (ht_h0 : tg h0 = 6) (p0 : Int32) : Met l yX5_count wsX5_count ({ frames := 0, cells := 0, slots := 0, locals := 0 }) (va_Pc [.ref h0, .int p0] (tPre dC dI cI cS cP cA L f)) (vp_Si (fun r => True)) 0 0 (fun _ => False) := by
  refine Met.ofW (cc := cX5_count) (maxL := 2) (ret := (some .int)) (by decide) rfl ?_
  intro p e s m args below meth c s₁ B hml hv
  obtain ⟨rfl, hP, hK, hcm⟩ := hv
  have hx := B.exec
  have hb := B.bytes
  have hr := B.returns
  have hts := atoms_spec (ws := wsX5_count) B.pre
  have hown : s.vm.findClass RX5 = some m.cls := findClass_of_methodNamed B.named
  have hlocks := B.notSynchronized
  have hin_X5 : ∀ w ∈ u_ws RX5 TX5 11, w ∈ wsX5_count := by decide +kernel
  have hin_X2 : ∀ w ∈ u_ws RX2 TX2 14, w ∈ wsX5_count := by decide +kernel
  have hl := lv_entry ([.ref h0, .int p0]) (n := 2) (Nat.le_of_ble_eq_true rfl)
  rw [lg_entry_eq]
  generalize (lg_sl ([.ref h0, .int p0]) ++ List.replicate (2 - (lg_sl ([.ref h0, .int p0])).length) Slot.unset).toArray = ls at hl ⊢
  have hl : lv_has ls 2 [(0, .ref h0), (1, .int p0)] := hl
  generalize hQ : MQ below (vp_Si (fun r => True)) [.ref h0, .int p0].toArray s 0 0 (fun _ => False) = Q
  obtain ⟨f0, hf0⟩ : ∃ g : Nat → va_E, g = f := ⟨_, rfl⟩
  have hw : PW dC dI cI cS cP cA L tg (fun _ => false) f0 s.heap f s.heap [] := by rw [hf0]; exact PW.start hP hI
  clear hP
  refine lv_iload_n hx hb dX5_count_0 rfl (lv_at hl 1 rfl) ?_
  by_cases h_1 : p0 = 0
  · refine lv_tableIn (tgt := 32) hx hb dX5_count_1 (by rw [h_1]; decide) (by rw [h_1]; decide) (by rw [h_1]; rfl) (by decide) ?_
    refine lv_aload_n hx hb dX5_count_32 rfl (lv_at hl 0 rfl) ?_
    refine tp_get (ci := 4) (C := RX5) (T := TX5) (N := 11) hx hb hts hin_X5 hown hK hw hm_h0 6 ht_h0 (fun _ => rfl) rfl 3 (by decide) rfl (hts (.fieldLink RX5 59 "DayBench" "kings" "I") (by decide +kernel)) (fun _ h9 => h9) dX5_count_33 (fun v_2 hf_3 hv_4 => ?_)
    obtain ⟨k_5, ek_5, hk_k_5⟩ := hv_4
    subst ek_5
    clear hf_3
    subst hQ
    exact W.iret (v := nI k_5) hx hb hr (fun t ht hW => ⟨_, rfl, trivial, ht⟩) (fun _ h => by cases h) dX5_count_36
  by_cases h_6 : p0 = 1
  · refine lv_tableIn (tgt := 37) hx hb dX5_count_1 (by rw [h_6]; decide) (by rw [h_6]; decide) (by rw [h_6]; rfl) (by decide) ?_
    refine lv_aload_n hx hb dX5_count_37 rfl (lv_at hl 0 rfl) ?_
    refine tp_get (ci := 4) (C := RX5) (T := TX5) (N := 11) hx hb hts hin_X5 hown hK hw hm_h0 6 ht_h0 (fun _ => rfl) rfl 4 (by decide) rfl (hts (.fieldLink RX5 71 "DayBench" "events" "I") (by decide +kernel)) (fun _ h9 => h9) dX5_count_38 (fun v_7 hf_8 hv_9 => ?_)
    obtain ⟨k_10, ek_10, hk_k_10⟩ := hv_9
    subst ek_10
    clear hf_8
    subst hQ
    exact W.iret (v := nI k_10) hx hb hr (fun t ht hW => ⟨_, rfl, trivial, ht⟩) (fun _ h => by cases h) dX5_count_41
  by_cases h_11 : p0 = 2
  · refine lv_tableIn (tgt := 42) hx hb dX5_count_1 (by rw [h_11]; decide) (by rw [h_11]; decide) (by rw [h_11]; rfl) (by decide) ?_
    refine lv_aload_n hx hb dX5_count_42 rfl (lv_at hl 0 rfl) ?_
    refine tp_get (ci := 4) (C := RX5) (T := TX5) (N := 11) hx hb hts hin_X5 hown hK hw hm_h0 6 ht_h0 (fun _ => rfl) rfl 6 (by decide) rfl (hts (.fieldLink RX5 74 "DayBench" "sayingsMade" "I") (by decide +kernel)) (fun _ h9 => h9) dX5_count_43 (fun v_12 hf_13 hv_14 => ?_)
    obtain ⟨k_15, ek_15, hk_k_15⟩ := hv_14
    subst ek_15
    clear hf_13
    subst hQ
    exact W.iret (v := nI k_15) hx hb hr (fun t ht hW => ⟨_, rfl, trivial, ht⟩) (fun _ h => by cases h) dX5_count_46
  by_cases h_16 : p0 = 3
  · refine lv_tableIn (tgt := 47) hx hb dX5_count_1 (by rw [h_16]; decide) (by rw [h_16]; decide) (by rw [h_16]; rfl) (by decide) ?_
    refine lv_aload_n hx hb dX5_count_47 rfl (lv_at hl 0 rfl) ?_
    refine tp_get (ci := 4) (C := RX5) (T := TX5) (N := 11) hx hb hts hin_X5 hown hK hw hm_h0 6 ht_h0 (fun _ => rfl) rfl 7 (by decide) rfl (hts (.fieldLink RX5 29 "DayBench" "search" "LDayBench$Search;") (by decide +kernel)) (fun _ h9 => h9) dX5_count_48 (fun v_17 hf_18 hv_19 => ?_)
    obtain ⟨b_20, eb_20, hm_b_20, ht_b_20⟩ := hv_19
    subst eb_20
    refine tp_get (ci := 1) (C := RX2) (T := TX2) (N := 14) hx hb hts hin_X2 hown hK hw hm_b_20 4 ht_b_20 (fun _ => rfl) rfl 2 (by decide) rfl (hts (.fieldLink RX5 222 "DayBench$Search" "looks" "I") (by decide +kernel)) (fun _ h9 => h9) dX5_count_51 (fun v_21 hf_22 hv_23 => ?_)
    obtain ⟨y_24, ey_24⟩ := hv_23
    subst ey_24
    clear hf_22
    subst hQ
    exact W.iret (v := y_24) hx hb hr (fun t ht hW => ⟨_, rfl, trivial, ht⟩) (fun _ h => by cases h) dX5_count_54
  refine lv_tableOut (tgt := 55) hx hb dX5_count_1 (sw_out4 h_1 h_6 h_11 h_16) (by decide) ?_
  refine lv_iconst (v := (-1)) hx hb dX5_count_55 (by decide) ?_
  subst hQ
  exact W.iret (v := (-1)) hx hb hr (fun t ht hW => ⟨_, rfl, trivial, ht⟩) (fun _ h => by cases h) dX5_count_56

set_option maxHeartbeats 4000000 in
set_option maxRecDepth 100000 in
theorem k_X5_slipped (l : Launch) (dC : Nat → ClassId) (dI : Nat → Nat → Nat) (cI cS cP cA : ClassId) (L : List Nat) (tg : Nat → Nat) (f : Nat → va_E) (hN : L.Nodup) (hT : ∀ a : Nat, a ∈ L → tg a < 13) (hI : PI cI cS cP cA L tg f) (h0 : Nat) (hm_h0 : h0 ∈ L) (ht_h0 : tg h0 = 6) (p0 : Int32) : Met l yX5_slipped wsX5_slipped ({ frames := 0, cells := 0, slots := 0, locals := 0 }) (va_Pc [.ref h0, .int p0] (tPre dC dI cI cS cP cA L f)) (vp_Si (fun r => True)) 0 0 (fun _ => False) := by
  refine Met.ofW (cc := cX5_slipped) (maxL := 2) (ret := (some .int)) (by decide) rfl ?_
  intro p e s m args below meth c s₁ B hml hv
  obtain ⟨rfl, hP, hK, hcm⟩ := hv
  have hx := B.exec
  have hb := B.bytes
  have hr := B.returns
  have hts := atoms_spec (ws := wsX5_slipped) B.pre
  have hown : s.vm.findClass RX5 = some m.cls := findClass_of_methodNamed B.named
  have hlocks := B.notSynchronized
  have hin_X5 : ∀ w ∈ u_ws RX5 TX5 11, w ∈ wsX5_slipped := by decide +kernel
  have hin_X3 : ∀ w ∈ u_ws RX3 TX3 9, w ∈ wsX5_slipped := by decide +kernel
  have hl := lv_entry ([.ref h0, .int p0]) (n := 2) (Nat.le_of_ble_eq_true rfl)
  rw [lg_entry_eq]
  generalize (lg_sl ([.ref h0, .int p0]) ++ List.replicate (2 - (lg_sl ([.ref h0, .int p0])).length) Slot.unset).toArray = ls at hl ⊢
  have hl : lv_has ls 2 [(0, .ref h0), (1, .int p0)] := hl
  generalize hQ : MQ below (vp_Si (fun r => True)) [.ref h0, .int p0].toArray s 0 0 (fun _ => False) = Q
  obtain ⟨f0, hf0⟩ : ∃ g : Nat → va_E, g = f := ⟨_, rfl⟩
  have hw : PW dC dI cI cS cP cA L tg (fun _ => false) f0 s.heap f s.heap [] := by rw [hf0]; exact PW.start hP hI
  clear hP
  refine lv_iload_n hx hb dX5_slipped_0 rfl (lv_at hl 1 rfl) ?_
  refine lv_iconst (v := (-1)) hx hb dX5_slipped_1 (by decide) ?_
  refine lv_icmp_ne (tgt := 13) hx hb dX5_slipped_2 (by decide) (fun h_1 => ?_) (fun h_1 => ?_)
  · refine lv_iload_n hx hb dX5_slipped_13 rfl (lv_at hl 1 rfl) ?_
    refine lv_if_lt (tgt := 40) hx hb dX5_slipped_14 (by decide) (fun h_2 => ?_) (fun h_2 => ?_)
    · refine lv_iconst (v := (-1)) hx hb dX5_slipped_40 (by decide) ?_
      subst hQ
      exact W.iret (v := (-1)) hx hb hr (fun t ht hW => ⟨_, rfl, trivial, ht⟩) (fun _ h => by cases h) dX5_slipped_41
    · refine lv_iload_n hx hb dX5_slipped_17 rfl (lv_at hl 1 rfl) ?_
      refine lv_aload_n hx hb dX5_slipped_18 rfl (lv_at hl 0 rfl) ?_
      refine tp_get (ci := 4) (C := RX5) (T := TX5) (N := 11) hx hb hts hin_X5 hown hK hw hm_h0 6 ht_h0 (fun _ => rfl) rfl 8 (by decide) rfl (hts (.fieldLink RX5 36 "DayBench" "slipSets" "LDayBench$SlipSets;") (by decide +kernel)) (fun _ h9 => h9) dX5_slipped_19 (fun v_3 hf_4 hv_5 => ?_)
      obtain ⟨b_6, eb_6, hm_b_6, ht_b_6⟩ := hv_5
      subst eb_6
      refine tp_get (ci := 2) (C := RX3) (T := TX3) (N := 9) hx hb hts hin_X3 hown hK hw hm_b_6 5 ht_b_6 (fun _ => rfl) rfl 2 (by decide) rfl (hts (.fieldLink RX5 203 "DayBench$SlipSets" "told" "I") (by decide +kernel)) (fun _ h9 => h9) dX5_slipped_22 (fun v_7 hf_8 hv_9 => ?_)
      obtain ⟨k_10, ek_10, hk_k_10⟩ := hv_9
      subst ek_10
      clear hf_8
      refine lv_icmp_ge (tgt := 40) hx hb dX5_slipped_25 (by decide) (fun h_11 => ?_) (fun h_11 => ?_)
      · refine lv_iconst (v := (-1)) hx hb dX5_slipped_40 (by decide) ?_
        subst hQ
        exact W.iret (v := (-1)) hx hb hr (fun t ht hW => ⟨_, rfl, trivial, ht⟩) (fun _ h => by cases h) dX5_slipped_41
      · obtain ⟨k_12, hk_12, ek_12⟩ := lt_nI (M := 924) h_2 h_11 (by omega) (by omega)
        rw [ek_12] at hl
        refine lv_aload_n hx hb dX5_slipped_28 rfl (lv_at hl 0 rfl) ?_
        refine tp_getK (ci := 4) (C := RX5) (T := TX5) (N := 11) hx hb hts hin_X5 hown hK hw hm_h0 6 ht_h0 (fun _ => rfl) rfl 8 (by decide) hf_4 (hts (.fieldLink RX5 36 "DayBench" "slipSets" "LDayBench$SlipSets;") (by decide +kernel)) (fun _ h9 => h9) dX5_slipped_29 ?_
        refine tp_get (ci := 2) (C := RX3) (T := TX3) (N := 9) hx hb hts hin_X3 hown hK hw hm_b_6 5 ht_b_6 (fun _ => rfl) rfl 3 (by decide) rfl (hts (.fieldLink RX5 206 "DayBench$SlipSets" "toldSets" "[I") (by decide +kernel)) (fun _ h9 => h9) dX5_slipped_32 (fun v_13 hf_14 hv_15 => ?_)
        obtain ⟨b_16, eb_16, hm_b_16, ht_b_16⟩ := hv_15
        subst eb_16
        refine lv_iload_n hx hb dX5_slipped_35 rfl (lv_at hl 1 rfl) ?_
        refine tp_iald hx hb hK hw hm_b_16 8 ht_b_16 (n := 924) (fun _ => rfl) (vp_in_nI (by omega) (by omega)) dX5_slipped_36 (fun y_17 => ?_)
        refine lv_goto (tgt := 41) hx hb dX5_slipped_37 (by decide) ?_
        subst hQ
        exact W.iret (v := y_17) hx hb hr (fun t ht hW => ⟨_, rfl, trivial, ht⟩) (fun _ h => by cases h) dX5_slipped_41
  · refine lv_aload_n hx hb dX5_slipped_5 rfl (lv_at hl 0 rfl) ?_
    refine tp_get (ci := 4) (C := RX5) (T := TX5) (N := 11) hx hb hts hin_X5 hown hK hw hm_h0 6 ht_h0 (fun _ => rfl) rfl 8 (by decide) rfl (hts (.fieldLink RX5 36 "DayBench" "slipSets" "LDayBench$SlipSets;") (by decide +kernel)) (fun _ h9 => h9) dX5_slipped_6 (fun v_18 hf_19 hv_20 => ?_)
    obtain ⟨b_21, eb_21, hm_b_21, ht_b_21⟩ := hv_20
    subst eb_21
    refine tp_get (ci := 2) (C := RX3) (T := TX3) (N := 9) hx hb hts hin_X3 hown hK hw hm_b_21 5 ht_b_21 (fun _ => rfl) rfl 2 (by decide) rfl (hts (.fieldLink RX5 203 "DayBench$SlipSets" "told" "I") (by decide +kernel)) (fun _ h9 => h9) dX5_slipped_9 (fun v_22 hf_23 hv_24 => ?_)
    obtain ⟨k_25, ek_25, hk_k_25⟩ := hv_24
    subst ek_25
    clear hf_23
    subst hQ
    exact W.iret (v := nI k_25) hx hb hr (fun t ht hW => ⟨_, rfl, trivial, ht⟩) (fun _ h => by cases h) dX5_slipped_12

set_option maxHeartbeats 4000000 in
set_option maxRecDepth 100000 in
theorem k_X5_gatherGroups (l : Launch) (dC : Nat → ClassId) (dI : Nat → Nat → Nat) (cI cS cP cA : ClassId) (L : List Nat) (tg : Nat → Nat) (f : Nat → va_E) (hN : L.Nodup) (hT : ∀ a : Nat, a ∈ L → tg a < 13) (hI : PI cI cS cP cA L tg f) (h0 : Nat) (hm_h0 : h0 ∈ L) (ht_h0 : tg h0 = 6) (p0 : Int32) : Met l yX5_gatherGroups wsX5_gatherGroups ({ frames := 1, cells := 0, slots := 0, locals := 23 }) (va_Pc [.ref h0, .int p0] (tPre dC dI cI cS cP cA L f)) (va_Qv (fun (f' : Nat → va_E) => PI cI cS cP cA L tg f' ∧ Fr L tg (fun t => t == 5 || t == 7) f f') (fun (f' : Nat → va_E) t => va_P (dC, dI) vwCl (va_pl L f') t.heap) (fun q : Nat => q ∈ L)) 0 0 (fun q : Nat => q ∈ L) := by
  refine Met.ofW (cc := cX5_gatherGroups) (maxL := 5) (ret := none) (by decide) rfl ?_
  intro p e s m args below meth c s₁ B hml hv
  obtain ⟨rfl, hP, hK, hcm⟩ := hv
  have hx := B.exec
  have hb := B.bytes
  have hr := B.returns
  have hts := atoms_spec (ws := wsX5_gatherGroups) B.pre
  have hown : s.vm.findClass RX5 = some m.cls := findClass_of_methodNamed B.named
  have hlocks := B.notSynchronized
  have hin_X5 : ∀ w ∈ u_ws RX5 TX5 11, w ∈ wsX5_gatherGroups := by decide +kernel
  have hin_X1 : ∀ w ∈ u_ws RX1 TX1 9, w ∈ wsX5_gatherGroups := by decide +kernel
  have hl := lv_entry ([.ref h0, .int p0]) (n := 5) (Nat.le_of_ble_eq_true rfl)
  rw [lg_entry_eq]
  generalize (lg_sl ([.ref h0, .int p0]) ++ List.replicate (5 - (lg_sl ([.ref h0, .int p0])).length) Slot.unset).toArray = ls at hl ⊢
  have hl : lv_has ls 5 [(0, .ref h0), (1, .int p0)] := hl
  generalize hQ : MQ below (va_Qv (fun (f' : Nat → va_E) => PI cI cS cP cA L tg f' ∧ Fr L tg (fun t => t == 5 || t == 7) f f') (fun (f' : Nat → va_E) t => va_P (dC, dI) vwCl (va_pl L f') t.heap) (fun q : Nat => q ∈ L)) [.ref h0, .int p0].toArray s 0 0 (fun q : Nat => q ∈ L) = Q
  obtain ⟨f0, hf0⟩ : ∃ g : Nat → va_E, g = f := ⟨_, rfl⟩
  have hw : PW dC dI cI cS cP cA L tg (fun t => t == 5 || t == 7) f0 s.heap f s.heap [] := by rw [hf0]; exact PW.start hP hI
  clear hP
  refine lv_aload_n hx hb dX5_gatherGroups_0 rfl (lv_at hl 0 rfl) ?_
  refine tp_get (ci := 4) (C := RX5) (T := TX5) (N := 11) hx hb hts hin_X5 hown hK hw hm_h0 6 ht_h0 (fun _ => rfl) rfl 8 (by decide) rfl (hts (.fieldLink RX5 36 "DayBench" "slipSets" "LDayBench$SlipSets;") (by decide +kernel)) (fun _ h9 => h9) dX5_gatherGroups_1 (fun v_1 hf_2 hv_3 => ?_)
  obtain ⟨b_4, eb_4, hm_b_4, ht_b_4⟩ := hv_3
  subst eb_4
  refine va_callv (va_runV (As := []) (rest := []) ⟨hx, hb, hml, hown, hts⟩ (k_X3_begin l dC dI cI cS cP cA L tg f hN hT hw.2.1 b_4 hm_b_4 ht_b_4) (cwV 0 hts gX5_gatherGroups_X3_begin rfl rfl rfl (by decide +kernel) ⟨Nat.le_of_ble_eq_true rfl, Nat.le_of_ble_eq_true rfl⟩) ⟨tPre_blind, tp_recv hK hw hm_b_4 5 ht_b_4 (ci := 2) (fun _ => rfl) rfl, fun U hU hW => ⟨rfl, tPre_at hw hK hcm hU hW⟩⟩ rfl rfl hl.1 rfl (lv_room (Nat.le_of_ble_eq_true rfl)) dX5_gatherGroups_4 ⟨Nat.le_of_ble_eq_true rfl, Nat.le_of_ble_eq_true rfl⟩) hw.2.2.2 (fun q _ h => h) (fun q h => h) (fun f t H locs ht hvm hp hB hz1 hk1 hS1 => ?_)
  obtain ⟨hI1, hF1⟩ := hp
  have hw := hw.back (S' := (fun t => t == 5)) (by decide) hT hI1 hF1 hB ht hS1
  have hf_2 : fld (f h0) 8 = some (.ref b_4) := by rw [hF1 h0 hm_h0 (by rw [ht_h0]; rfl)]; exact hf_2
  clear hI1 hF1 hB ht hz1 hk1 hS1 hvm
  refine lv_iconst (v := 0) hx hb dX5_gatherGroups_7 (by decide) ?_
  refine lv_istore_n (lv' := [(2, .int 0), (0, .ref h0), (1, .int p0)]) hx hb dX5_gatherGroups_8 rfl hl (by decide) rfl (fun ls hl => ?_)
  have hl_9 : ∀ (fu : Nat) (i : Nat), 12 - i < fu → (i ≤ 12) → ∀ (f : Nat → va_E) (H : Heap) (locs : List Loc) (ls : Array Slot), PW dC dI cI cS cP cA L tg (fun t => t == 5 || t == 7) f0 s.heap f H locs → lv_has ls 5 [(2, .int (nI i)), (0, .ref h0), (1, .int p0)] → W p l e (headSpec wsX5_gatherGroups ({ frames := 1, cells := 0, slots := 0, locals := 23 })).room s m [.ref h0, .int p0].toArray below meth c H locs 0 0 Q (F0 m 9 ls []) := by
    intro fu
    induction fu with
    | zero => intro i hm9; exact absurd hm9 (Nat.not_lt_zero _)
    | succ fu ih_9 =>
      intro i hm_9 h_i f H locs ls hw hl
      refine lv_iload_n hx hb dX5_gatherGroups_9 rfl (lv_at hl 0 rfl) ?_
      refine lv_aload_n hx hb dX5_gatherGroups_10 rfl (lv_at hl 1 rfl) ?_
      refine tp_get (ci := 4) (C := RX5) (T := TX5) (N := 11) hx hb hts hin_X5 hown hK hw hm_h0 6 ht_h0 (fun _ => rfl) rfl 6 (by decide) rfl (hts (.fieldLink RX5 74 "DayBench" "sayingsMade" "I") (by decide +kernel)) (fun _ h9 => h9) dX5_gatherGroups_11 (fun v_6 hf_7 hv_8 => ?_)
      obtain ⟨k_9, ek_9, hk_k_9⟩ := hv_8
      subst ek_9
      clear hf_7
      refine lv_icmp_ge (tgt := 84) hx hb dX5_gatherGroups_14 (by decide) (fun h_10 => ?_) (fun h_10 => ?_)
      · have nh_10 : k_9 ≤ i := (nI_leI (a := k_9) (b := i) (by omega) (by omega)).mp h_10
        subst hQ
        have hI9 := hw.2.1
        have hF9 := hw.2.2.1
        have hS9 := hw.2.2.2
        rw [hf0] at hF9
        exact W.vret hx hb hr (fun t ht hW => ⟨⟨_, rfl, ⟨hI9, hF9⟩, hw.at ht⟩, hS9.F ht⟩) hS9.2.2 dX5_gatherGroups_84
      · have nh_10 : ¬ k_9 ≤ i := fun q9 => h_10 ((nI_leI (a := k_9) (b := i) (by omega) (by omega)).mpr q9)
        refine lv_iconst (v := 0) hx hb dX5_gatherGroups_17 (by decide) ?_
        refine lv_istore_n (lv' := [(3, .int 0), (2, .int (nI i)), (0, .ref h0), (1, .int p0)]) hx hb dX5_gatherGroups_18 rfl hl (by decide) rfl (fun ls hl => ?_)
        refine lv_iload_n hx hb dX5_gatherGroups_19 rfl (lv_at hl 1 rfl) ?_
        refine lv_istore (lv' := [(4, .int (nI i)), (3, .int 0), (2, .int (nI i)), (0, .ref h0), (1, .int p0)]) hx hb dX5_gatherGroups_20 hl (by decide) rfl (fun ls hl => ?_)
        have hl_22 : ∀ (fu : Nat) (ac : Int32) (j : Nat), 12 - j < fu → (j ≤ 12) → ∀ (f : Nat → va_E) (H : Heap) (locs : List Loc) (ls : Array Slot), PW dC dI cI cS cP cA L tg (fun t => t == 5 || t == 7) f0 s.heap f H locs → lv_has ls 5 [(4, .int (nI j)), (3, .int ac), (2, .int (nI i)), (0, .ref h0), (1, .int p0)] → W p l e (headSpec wsX5_gatherGroups ({ frames := 1, cells := 0, slots := 0, locals := 23 })).room s m [.ref h0, .int p0].toArray below meth c H locs 0 0 Q (F0 m 22 ls []) := by
          intro fu
          induction fu with
          | zero => intro ac j hm9; exact absurd hm9 (Nat.not_lt_zero _)
          | succ fu ih_22 =>
            intro ac j hm_22 h_j f H locs ls hw hl
            refine lv_iload hx hb dX5_gatherGroups_22 (lv_at hl 0 rfl) ?_
            refine lv_aload_n hx hb dX5_gatherGroups_24 rfl (lv_at hl 3 rfl) ?_
            refine tp_get (ci := 4) (C := RX5) (T := TX5) (N := 11) hx hb hts hin_X5 hown hK hw hm_h0 6 ht_h0 (fun _ => rfl) rfl 6 (by decide) rfl (hts (.fieldLink RX5 74 "DayBench" "sayingsMade" "I") (by decide +kernel)) (fun _ h9 => h9) dX5_gatherGroups_25 (fun v_11 hf_12 hv_13 => ?_)
            obtain ⟨k_14, ek_14, hk_k_14⟩ := hv_13
            subst ek_14
            clear hf_12
            refine lv_icmp_ge (tgt := 54) hx hb dX5_gatherGroups_28 (by decide) (fun h_15 => ?_) (fun h_15 => ?_)
            · have nh_15 : k_14 ≤ j := (nI_leI (a := k_14) (b := j) (by omega) (by omega)).mp h_15
              refine lv_iload_n hx hb dX5_gatherGroups_54 rfl (lv_at hl 1 rfl) ?_
              refine lv_iload_n hx hb dX5_gatherGroups_55 rfl (lv_at hl 4 rfl) ?_
              refine lv_iand hx hb dX5_gatherGroups_56 ?_
              refine lv_if_eq (tgt := 78) hx hb dX5_gatherGroups_57 (by decide) (fun h_16 => ?_) (fun h_16 => ?_)
              · refine lv_iinc (v := nI (i + 1)) (lv' := [(2, .int (nI (i + 1))), (4, .int (nI j)), (3, .int ac), (0, .ref h0), (1, .int p0)]) hx hb dX5_gatherGroups_78 hl (k := 2) rfl (nI_1 _) (by decide) rfl (fun ls hl => ?_)
                refine lv_goto (tgt := 9) hx hb dX5_gatherGroups_81 (by decide) ?_
                exact ih_9 ((i + 1)) (by omega) (by omega) _ _ _ ls hw (lv_sub hl [0, 3, 4] rfl)
              · refine lv_aload_n hx hb dX5_gatherGroups_60 rfl (lv_at hl 3 rfl) ?_
                refine tp_get (ci := 4) (C := RX5) (T := TX5) (N := 11) hx hb hts hin_X5 hown hK hw hm_h0 6 ht_h0 (fun _ => rfl) rfl 8 (by decide) rfl (hts (.fieldLink RX5 36 "DayBench" "slipSets" "LDayBench$SlipSets;") (by decide +kernel)) (fun _ h9 => h9) dX5_gatherGroups_61 (fun v_17 hf_18 hv_19 => ?_)
                obtain ⟨b_20, eb_20, hm_b_20, ht_b_20⟩ := hv_19
                subst eb_20
                refine lv_iload_n hx hb dX5_gatherGroups_64 rfl (lv_at hl 2 rfl) ?_
                refine lv_iload_n hx hb dX5_gatherGroups_65 rfl (lv_at hl 1 rfl) ?_
                refine lv_aload_n hx hb dX5_gatherGroups_66 rfl (lv_at hl 3 rfl) ?_
                refine tp_get (ci := 4) (C := RX5) (T := TX5) (N := 11) hx hb hts hin_X5 hown hK hw hm_h0 6 ht_h0 (fun _ => rfl) rfl 5 (by decide) rfl (hts (.fieldLink RX5 21 "DayBench" "sayings" "[LDayBench$Saying;") (by decide +kernel)) (fun _ h9 => h9) dX5_gatherGroups_67 (fun v_21 hf_22 hv_23 => ?_)
                obtain ⟨b_24, eb_24, hm_b_24, ht_b_24⟩ := hv_23
                subst eb_24
                refine lv_iload_n hx hb dX5_gatherGroups_70 rfl (lv_at hl 2 rfl) ?_
                refine tp_aald hx hb hK hw hm_b_24 9 ht_b_24 1 (n := 12) (t' := 0) (fun _ => rfl) rfl rfl (vp_in_nI (by omega) (by omega)) dX5_gatherGroups_71 (fun b_25 hf_26 hm_b_25 ht_b_25 => ?_)
                clear hf_26
                refine tp_get (ci := 0) (C := RX1) (T := TX1) (N := 9) hx hb hts hin_X1 hown hK hw hm_b_25 0 ht_b_25 (fun _ => rfl) rfl 3 (by decide) rfl (hts (.fieldLink RX5 123 "DayBench$Saying" "weight" "I") (by decide +kernel)) (fun _ h9 => h9) dX5_gatherGroups_72 (fun v_27 hf_28 hv_29 => ?_)
                obtain ⟨y_30, ey_30⟩ := hv_29
                subst ey_30
                clear hf_28
                refine va_callv (va_runV (As := [.int (nI i), .int ac, .int y_30]) (rest := []) ⟨hx, hb, hml, hown, hts⟩ (k_X3_addGroup l dC dI cI cS cP cA L tg f hN hT hw.2.1 b_20 hm_b_20 ht_b_20 (nI i) ac y_30) (cwV 3 hts gX5_gatherGroups_X3_addGroup rfl rfl rfl (by decide +kernel) ⟨Nat.le_of_ble_eq_true rfl, Nat.le_of_ble_eq_true rfl⟩) ⟨tPre_blind, tp_recv hK hw hm_b_20 5 ht_b_20 (ci := 2) (fun _ => rfl) rfl, fun U hU hW => ⟨rfl, tPre_at hw hK hcm hU hW⟩⟩ rfl rfl hl.1 rfl (lv_room (Nat.le_of_ble_eq_true rfl)) dX5_gatherGroups_75 ⟨Nat.le_of_ble_eq_true rfl, Nat.le_of_ble_eq_true rfl⟩) hw.2.2.2 (fun q _ h => h) (fun q h => h) (fun f t H locs ht hvm hp hB hz1 hk1 hS1 => ?_)
                obtain ⟨hI1, hF1⟩ := hp
                have hw := hw.back (S' := (fun t => t == 5 || t == 7)) (by decide) hT hI1 hF1 hB ht hS1
                have hf_18 : fld (f h0) 8 = some (.ref b_20) := by rw [hF1 h0 hm_h0 (by rw [ht_h0]; rfl)]; exact hf_18
                have hf_22 : fld (f h0) 5 = some (.ref b_24) := by rw [hF1 h0 hm_h0 (by rw [ht_h0]; rfl)]; exact hf_22
                clear hI1 hF1 hB ht hz1 hk1 hS1 hvm
                refine lv_iinc (v := nI (i + 1)) (lv' := [(2, .int (nI (i + 1))), (4, .int (nI j)), (3, .int ac), (0, .ref h0), (1, .int p0)]) hx hb dX5_gatherGroups_78 hl (k := 2) rfl (nI_1 _) (by decide) rfl (fun ls hl => ?_)
                refine lv_goto (tgt := 9) hx hb dX5_gatherGroups_81 (by decide) ?_
                exact ih_9 ((i + 1)) (by omega) (by omega) _ _ _ ls hw (lv_sub hl [0, 3, 4] rfl)
            · have nh_15 : ¬ k_14 ≤ j := fun q9 => h_15 ((nI_leI (a := k_14) (b := j) (by omega) (by omega)).mpr q9)
              refine lv_aload_n hx hb dX5_gatherGroups_31 rfl (lv_at hl 3 rfl) ?_
              refine lv_iload hx hb dX5_gatherGroups_32 (lv_at hl 0 rfl) ?_
              refine vp_callSi (va_Run.run (va_runV (As := [.int (nI j)]) (rest := []) ⟨hx, hb, hml, hown, hts⟩ (k_X5_rootOf l dC dI cI cS cP cA L tg f hN hT hw.2.1 h0 hm_h0 ht_h0 j (by first | omega | decide)) (cwV 1 hts gX5_gatherGroups_X5_rootOf rfl rfl rfl (by decide +kernel) ⟨Nat.le_of_ble_eq_true rfl, Nat.le_of_ble_eq_true rfl⟩) ⟨tPre_blind, tp_recv hK hw hm_h0 6 ht_h0 (ci := 4) (fun _ => rfl) rfl, fun U hU hW => ⟨rfl, tPre_at hw hK hcm hU hW⟩⟩ rfl rfl hl.1 rfl (lv_room (Nat.le_of_ble_eq_true rfl)) dX5_gatherGroups_34 ⟨Nat.le_of_ble_eq_true rfl, Nat.le_of_ble_eq_true rfl⟩)) (fun r_32 hr_32 => ?_)
              refine lv_iload_n hx hb dX5_gatherGroups_37 rfl (lv_at hl 2 rfl) ?_
              refine lv_icmp_ne (tgt := 48) hx hb dX5_gatherGroups_38 (by decide) (fun h_33 => ?_) (fun h_33 => ?_)
              · refine lv_iinc (v := nI (j + 1)) (lv' := [(4, .int (nI (j + 1))), (3, .int ac), (2, .int (nI i)), (0, .ref h0), (1, .int p0)]) hx hb dX5_gatherGroups_48 hl (k := 0) rfl (nI_1 _) (by decide) rfl (fun ls hl => ?_)
                refine lv_goto (tgt := 22) hx hb dX5_gatherGroups_51 (by decide) ?_
                exact ih_22 ac ((j + 1)) (by omega) (by omega) _ _ _ ls hw (lv_sub hl [0, 1, 2, 3, 4] rfl)
              · refine lv_iload_n hx hb dX5_gatherGroups_41 rfl (lv_at hl 1 rfl) ?_
                refine lv_iconst (v := 1) hx hb dX5_gatherGroups_42 (by decide) ?_
                refine lv_iload hx hb dX5_gatherGroups_43 (lv_at hl 0 rfl) ?_
                refine lv_ishl hx hb dX5_gatherGroups_45 ?_
                refine lv_ior hx hb dX5_gatherGroups_46 ?_
                refine lv_topi (fun x_34 ex_34 => ?_)
                refine lv_istore_n (lv' := [(3, .int x_34), (4, .int (nI j)), (2, .int (nI i)), (0, .ref h0), (1, .int p0)]) hx hb dX5_gatherGroups_47 rfl hl (by decide) rfl (fun ls hl => ?_)
                refine lv_iinc (v := nI (j + 1)) (lv' := [(4, .int (nI (j + 1))), (3, .int x_34), (2, .int (nI i)), (0, .ref h0), (1, .int p0)]) hx hb dX5_gatherGroups_48 hl (k := 1) rfl (nI_1 _) (by decide) rfl (fun ls hl => ?_)
                refine lv_goto (tgt := 22) hx hb dX5_gatherGroups_51 (by decide) ?_
                exact ih_22 x_34 ((j + 1)) (by omega) (by omega) _ _ _ ls hw (lv_sub hl [0, 1, 2, 3, 4] rfl)
        exact hl_22 _ 0 i (Nat.lt_succ_self _) (by omega) _ _ _ ls hw (lv_sub hl [0, 1, 2, 3, 4] rfl)
  exact hl_9 _ 0 (Nat.lt_succ_self _) (by omega) _ _ _ ls hw (lv_sub hl [0, 1, 2] rfl)

set_option maxHeartbeats 4000000 in
set_option maxRecDepth 100000 in
theorem k_X5_quarrelWith_0 (l : Launch) (dC : Nat → ClassId) (dI : Nat → Nat → Nat) (cI cS cP cA : ClassId) (L : List Nat) (tg : Nat → Nat) (f : Nat → va_E) (hN : L.Nodup) (hT : ∀ a : Nat, a ∈ L → tg a < 13) (hI : PI cI cS cP cA L tg f) (h0 : Nat) (hm_h0 : h0 ∈ L) (ht_h0 : tg h0 = 6) (p0 : Int32) (k2 : Nat) (h_k2 : k2 ≤ 12) (p3 : Int32) : Met l yX5_quarrelWith wsX5_quarrelWith ({ frames := 11, cells := 0, slots := 0, locals := 234 }) (va_Pc [.ref h0, .int p0, .int 0, .int (nI k2), .int p3] (tPre dC dI cI cS cP cA L f)) (va_Qi (fun (r : Int32) (f' : Nat → va_E) => PI cI cS cP cA L tg f' ∧ Fr L tg (fun t => t == 1 || t == 2 || t == 3 || t == 4 || t == 10) f f') (fun (f' : Nat → va_E) t => va_P (dC, dI) vwCl (va_pl L f') t.heap) (fun q : Nat => q ∈ L)) 0 0 (fun q : Nat => q ∈ L) := by
  refine Met.ofW (cc := cX5_quarrelWith) (maxL := 7) (ret := (some .int)) (by decide) rfl ?_
  intro p e s m args below meth c s₁ B hml hv
  obtain ⟨rfl, hP, hK, hcm⟩ := hv
  have hx := B.exec
  have hb := B.bytes
  have hr := B.returns
  have hts := atoms_spec (ws := wsX5_quarrelWith) B.pre
  have hown : s.vm.findClass RX5 = some m.cls := findClass_of_methodNamed B.named
  have hlocks := B.notSynchronized
  have hl := lv_entry ([.ref h0, .int p0, .int 0, .int (nI k2), .int p3]) (n := 7) (Nat.le_of_ble_eq_true rfl)
  rw [lg_entry_eq]
  generalize (lg_sl ([.ref h0, .int p0, .int 0, .int (nI k2), .int p3]) ++ List.replicate (7 - (lg_sl ([.ref h0, .int p0, .int 0, .int (nI k2), .int p3])).length) Slot.unset).toArray = ls at hl ⊢
  have hl : lv_has ls 7 [(0, .ref h0), (1, .int p0), (2, .int 0), (3, .int (nI k2)), (4, .int p3)] := hl
  generalize hQ : MQ below (va_Qi (fun (r : Int32) (f' : Nat → va_E) => PI cI cS cP cA L tg f' ∧ Fr L tg (fun t => t == 1 || t == 2 || t == 3 || t == 4 || t == 10) f f') (fun (f' : Nat → va_E) t => va_P (dC, dI) vwCl (va_pl L f') t.heap) (fun q : Nat => q ∈ L)) [.ref h0, .int p0, .int 0, .int (nI k2), .int p3].toArray s 0 0 (fun q : Nat => q ∈ L) = Q
  obtain ⟨f0, hf0⟩ : ∃ g : Nat → va_E, g = f := ⟨_, rfl⟩
  have hw : PW dC dI cI cS cP cA L tg (fun t => t == 1 || t == 2 || t == 3 || t == 4 || t == 10) f0 s.heap f s.heap [] := by rw [hf0]; exact PW.start hP hI
  clear hP
  refine lv_iload_n hx hb dX5_quarrelWith_0 rfl (lv_at hl 2 rfl) ?_
  refine lv_if_gt (tgt := 33) hx hb dX5_quarrelWith_1 (by decide) (fun h_1 => ?_) (fun h_1 => ?_)
  · exact (by first | exact absurd h_1 (by decide) | exact absurd (by decide) h_1)
  · refine lv_aload_n hx hb dX5_quarrelWith_4 rfl (lv_at hl 0 rfl) ?_
    refine lv_iload_n hx hb dX5_quarrelWith_5 rfl (lv_at hl 1 rfl) ?_
    refine va_calli (va_runV (As := [.int p0]) (rest := []) ⟨hx, hb, hml, hown, hts⟩ (k_X5_askSet l dC dI cI cS cP cA L tg f hN hT hw.2.1 h0 hm_h0 ht_h0 p0) (cwV 1 hts gX5_quarrelWith_X5_askSet rfl rfl rfl (by decide +kernel) ⟨Nat.le_of_ble_eq_true rfl, Nat.le_of_ble_eq_true rfl⟩) ⟨tPre_blind, tp_recv hK hw hm_h0 6 ht_h0 (ci := 4) (fun _ => rfl) rfl, fun U hU hW => ⟨rfl, tPre_at hw hK hcm hU hW⟩⟩ rfl rfl hl.1 rfl (lv_room (Nat.le_of_ble_eq_true rfl)) dX5_quarrelWith_6 ⟨Nat.le_of_ble_eq_true rfl, Nat.le_of_ble_eq_true rfl⟩) hw.2.2.2 (fun q _ h => h) (fun q h => h) (fun r_2 f t H locs ht hvm hp hB hz1 hk1 hS1 => ?_)
    obtain ⟨hI1, hF1⟩ := hp
    have hw := hw.back (S' := (fun t => t == 1 || t == 2 || t == 3 || t == 4 || t == 10)) (by decide) hT hI1 hF1 hB ht hS1
    clear hI1 hF1 hB ht hz1 hk1 hS1 hvm
    refine lv_istore (lv' := [(5, .int r_2), (0, .ref h0), (1, .int p0), (2, .int 0), (3, .int (nI k2)), (4, .int p3)]) hx hb dX5_quarrelWith_9 hl (by decide) rfl (fun ls hl => ?_)
    refine lv_iload hx hb dX5_quarrelWith_11 (lv_at hl 0 rfl) ?_
    refine lv_bipush (v := (-2)) hx hb dX5_quarrelWith_13 (by decide) ?_
    refine lv_icmp_ne (tgt := 21) hx hb dX5_quarrelWith_15 (by decide) (fun h_3 => ?_) (fun h_3 => ?_)
    · refine lv_iload hx hb dX5_quarrelWith_21 (lv_at hl 0 rfl) ?_
      refine lv_iconst (v := 1) hx hb dX5_quarrelWith_23 (by decide) ?_
      refine lv_icmp_ne (tgt := 31) hx hb dX5_quarrelWith_24 (by decide) (fun h_4 => ?_) (fun h_4 => ?_)
      · refine lv_iload_n hx hb dX5_quarrelWith_31 rfl (lv_at hl 2 rfl) ?_
        subst hQ
        have hI9 := hw.2.1
        have hF9 := hw.2.2.1
        have hS9 := hw.2.2.2
        rw [hf0] at hF9
        exact W.iret (v := p0) hx hb hr (fun t ht hW => ⟨⟨_, _, rfl, ⟨hI9, hF9⟩, hw.at ht⟩, hS9.F ht⟩) hS9.2.2 dX5_quarrelWith_32
      · refine lv_iconst (v := 0) hx hb dX5_quarrelWith_27 (by decide) ?_
        refine lv_goto (tgt := 32) hx hb dX5_quarrelWith_28 (by decide) ?_
        subst hQ
        have hI9 := hw.2.1
        have hF9 := hw.2.2.1
        have hS9 := hw.2.2.2
        rw [hf0] at hF9
        exact W.iret (v := 0) hx hb hr (fun t ht hW => ⟨⟨_, _, rfl, ⟨hI9, hF9⟩, hw.at ht⟩, hS9.F ht⟩) hS9.2.2 dX5_quarrelWith_32
    · refine lv_bipush (v := (-2)) hx hb dX5_quarrelWith_18 (by decide) ?_
      subst hQ
      have hI9 := hw.2.1
      have hF9 := hw.2.2.1
      have hS9 := hw.2.2.2
      rw [hf0] at hF9
      exact W.iret (v := (-2)) hx hb hr (fun t ht hW => ⟨⟨_, _, rfl, ⟨hI9, hF9⟩, hw.at ht⟩, hS9.F ht⟩) hS9.2.2 dX5_quarrelWith_20

set_option maxHeartbeats 4000000 in
set_option maxRecDepth 100000 in
theorem k_X5_quarrelWith_1 (l : Launch) (dC : Nat → ClassId) (dI : Nat → Nat → Nat) (cI cS cP cA : ClassId) (L : List Nat) (tg : Nat → Nat) (f : Nat → va_E) (hN : L.Nodup) (hT : ∀ a : Nat, a ∈ L → tg a < 13) (hI : PI cI cS cP cA L tg f) (h0 : Nat) (hm_h0 : h0 ∈ L) (ht_h0 : tg h0 = 6) (p0 : Int32) (k2 : Nat) (h_k2 : k2 ≤ 12) (p3 : Int32) : Met l yX5_quarrelWith wsX5_quarrelWith ({ frames := 12, cells := 0, slots := 0, locals := 260 }) (va_Pc [.ref h0, .int p0, .int 1, .int (nI k2), .int p3] (tPre dC dI cI cS cP cA L f)) (va_Qi (fun (r : Int32) (f' : Nat → va_E) => PI cI cS cP cA L tg f' ∧ Fr L tg (fun t => t == 1 || t == 2 || t == 3 || t == 4 || t == 10) f f') (fun (f' : Nat → va_E) t => va_P (dC, dI) vwCl (va_pl L f') t.heap) (fun q : Nat => q ∈ L)) 0 0 (fun q : Nat => q ∈ L) := by
  refine Met.ofW (cc := cX5_quarrelWith) (maxL := 7) (ret := (some .int)) (by decide) rfl ?_
  intro p e s m args below meth c s₁ B hml hv
  obtain ⟨rfl, hP, hK, hcm⟩ := hv
  have hx := B.exec
  have hb := B.bytes
  have hr := B.returns
  have hts := atoms_spec (ws := wsX5_quarrelWith) B.pre
  have hown : s.vm.findClass RX5 = some m.cls := findClass_of_methodNamed B.named
  have hlocks := B.notSynchronized
  have hin_X5 : ∀ w ∈ u_ws RX5 TX5 11, w ∈ wsX5_quarrelWith := by decide +kernel
  have hl := lv_entry ([.ref h0, .int p0, .int 1, .int (nI k2), .int p3]) (n := 7) (Nat.le_of_ble_eq_true rfl)
  rw [lg_entry_eq]
  generalize (lg_sl ([.ref h0, .int p0, .int 1, .int (nI k2), .int p3]) ++ List.replicate (7 - (lg_sl ([.ref h0, .int p0, .int 1, .int (nI k2), .int p3])).length) Slot.unset).toArray = ls at hl ⊢
  have hl : lv_has ls 7 [(0, .ref h0), (1, .int p0), (2, .int 1), (3, .int (nI k2)), (4, .int p3)] := hl
  generalize hQ : MQ below (va_Qi (fun (r : Int32) (f' : Nat → va_E) => PI cI cS cP cA L tg f' ∧ Fr L tg (fun t => t == 1 || t == 2 || t == 3 || t == 4 || t == 10) f f') (fun (f' : Nat → va_E) t => va_P (dC, dI) vwCl (va_pl L f') t.heap) (fun q : Nat => q ∈ L)) [.ref h0, .int p0, .int 1, .int (nI k2), .int p3].toArray s 0 0 (fun q : Nat => q ∈ L) = Q
  obtain ⟨f0, hf0⟩ : ∃ g : Nat → va_E, g = f := ⟨_, rfl⟩
  have hw : PW dC dI cI cS cP cA L tg (fun t => t == 1 || t == 2 || t == 3 || t == 4 || t == 10) f0 s.heap f s.heap [] := by rw [hf0]; exact PW.start hP hI
  clear hP
  refine lv_iload_n hx hb dX5_quarrelWith_0 rfl (lv_at hl 2 rfl) ?_
  refine lv_if_gt (tgt := 33) hx hb dX5_quarrelWith_1 (by decide) (fun h_1 => ?_) (fun h_1 => ?_)
  · refine lv_iload_n hx hb dX5_quarrelWith_33 rfl (lv_at hl 3 rfl) ?_
    refine lv_istore (lv' := [(5, .int (nI k2)), (0, .ref h0), (1, .int p0), (2, .int 1), (3, .int (nI k2)), (4, .int p3)]) hx hb dX5_quarrelWith_34 hl (by decide) rfl (fun ls hl => ?_)
    have hl_36 : ∀ (fu : Nat) (i : Nat), 12 - i < fu → (i ≤ 12) → ∀ (f : Nat → va_E) (H : Heap) (locs : List Loc) (ls : Array Slot), PW dC dI cI cS cP cA L tg (fun t => t == 1 || t == 2 || t == 3 || t == 4 || t == 10) f0 s.heap f H locs → lv_has ls 7 [(5, .int (nI i)), (0, .ref h0), (1, .int p0), (2, .int 1), (3, .int (nI k2)), (4, .int p3)] → W p l e (headSpec wsX5_quarrelWith ({ frames := 12, cells := 0, slots := 0, locals := 260 })).room s m [.ref h0, .int p0, .int 1, .int (nI k2), .int p3].toArray below meth c H locs 0 0 Q (F0 m 36 ls []) := by
      intro fu
      induction fu with
      | zero => intro i hm9; exact absurd hm9 (Nat.not_lt_zero _)
      | succ fu ih_36 =>
        intro i hm_36 h_i f H locs ls hw hl
        refine lv_iload hx hb dX5_quarrelWith_36 (lv_at hl 0 rfl) ?_
        refine lv_aload_n hx hb dX5_quarrelWith_38 rfl (lv_at hl 1 rfl) ?_
        refine tp_get (ci := 4) (C := RX5) (T := TX5) (N := 11) hx hb hts hin_X5 hown hK hw hm_h0 6 ht_h0 (fun _ => rfl) rfl 6 (by decide) rfl (hts (.fieldLink RX5 74 "DayBench" "sayingsMade" "I") (by decide +kernel)) (fun _ h9 => h9) dX5_quarrelWith_39 (fun v_2 hf_3 hv_4 => ?_)
        obtain ⟨k_5, ek_5, hk_k_5⟩ := hv_4
        subst ek_5
        clear hf_3
        refine lv_icmp_ge (tgt := 90) hx hb dX5_quarrelWith_42 (by decide) (fun h_6 => ?_) (fun h_6 => ?_)
        · have nh_6 : k_5 ≤ i := (nI_leI (a := k_5) (b := i) (by omega) (by omega)).mp h_6
          refine lv_iconst (v := 0) hx hb dX5_quarrelWith_90 (by decide) ?_
          subst hQ
          have hI9 := hw.2.1
          have hF9 := hw.2.2.1
          have hS9 := hw.2.2.2
          rw [hf0] at hF9
          exact W.iret (v := 0) hx hb hr (fun t ht hW => ⟨⟨_, _, rfl, ⟨hI9, hF9⟩, hw.at ht⟩, hS9.F ht⟩) hS9.2.2 dX5_quarrelWith_91
        · have nh_6 : ¬ k_5 ≤ i := fun q9 => h_6 ((nI_leI (a := k_5) (b := i) (by omega) (by omega)).mpr q9)
          refine lv_iload hx hb dX5_quarrelWith_45 (lv_at hl 5 rfl) ?_
          refine lv_iload hx hb dX5_quarrelWith_47 (lv_at hl 0 rfl) ?_
          refine lv_ishr hx hb dX5_quarrelWith_49 ?_
          refine lv_iconst (v := 1) hx hb dX5_quarrelWith_50 (by decide) ?_
          refine lv_iand hx hb dX5_quarrelWith_51 ?_
          refine lv_if_eq (tgt := 84) hx hb dX5_quarrelWith_52 (by decide) (fun h_7 => ?_) (fun h_7 => ?_)
          · refine lv_iinc (v := nI (i + 1)) (lv' := [(5, .int (nI (i + 1))), (0, .ref h0), (1, .int p0), (2, .int 1), (3, .int (nI k2)), (4, .int p3)]) hx hb dX5_quarrelWith_84 hl (k := 0) rfl (nI_1 _) (by decide) rfl (fun ls hl => ?_)
            refine lv_goto (tgt := 36) hx hb dX5_quarrelWith_87 (by decide) ?_
            exact ih_36 ((i + 1)) (by omega) (by omega) _ _ _ ls hw (lv_sub hl [0, 1, 2, 3, 4, 5] rfl)
          · refine lv_aload_n hx hb dX5_quarrelWith_55 rfl (lv_at hl 1 rfl) ?_
            refine lv_iload_n hx hb dX5_quarrelWith_56 rfl (lv_at hl 2 rfl) ?_
            refine lv_iconst (v := 1) hx hb dX5_quarrelWith_57 (by decide) ?_
            refine lv_iload hx hb dX5_quarrelWith_58 (lv_at hl 0 rfl) ?_
            refine lv_ishl hx hb dX5_quarrelWith_60 ?_
            refine lv_ior hx hb dX5_quarrelWith_61 ?_
            refine lv_iload_n hx hb dX5_quarrelWith_62 rfl (lv_at hl 3 rfl) ?_
            refine lv_iconst (v := 1) hx hb dX5_quarrelWith_63 (by decide) ?_
            refine lv_isub hx hb dX5_quarrelWith_64 ?_
            refine lv_topi (fun x_8 ex_8 => ?_)
            have ex_8 : x_8 = 0 := ex_8.trans (by decide)
            subst ex_8
            refine lv_iload hx hb dX5_quarrelWith_65 (lv_at hl 0 rfl) ?_
            refine lv_iconst (v := 1) hx hb dX5_quarrelWith_67 (by decide) ?_
            refine lv_iadd hx hb dX5_quarrelWith_68 ?_
            refine lv_topi (fun x_9 ex_9 => ?_)
            have ex_9 : x_9 = nI (i + 1) := ex_9.trans (nI_1 _)
            subst ex_9
            refine lv_iload hx hb dX5_quarrelWith_69 (lv_at hl 5 rfl) ?_
            refine va_calli (va_runV (As := [.int (p0 ||| (1 <<< ((nI i) &&& 31))), .int 0, .int (nI (i + 1)), .int p3]) (rest := []) ⟨hx, hb, hml, hown, hts⟩ (k_X5_quarrelWith_0 l dC dI cI cS cP cA L tg f hN hT hw.2.1 h0 hm_h0 ht_h0 (p0 ||| (1 <<< ((nI i) &&& 31))) ((i + 1)) (by first | omega | decide) p3) (cwV 4 hts gX5_quarrelWith_X5_quarrelWith rfl rfl rfl (by decide +kernel) ⟨Nat.le_of_ble_eq_true rfl, Nat.le_of_ble_eq_true rfl⟩) ⟨tPre_blind, tp_recv hK hw hm_h0 6 ht_h0 (ci := 4) (fun _ => rfl) rfl, fun U hU hW => ⟨rfl, tPre_at hw hK hcm hU hW⟩⟩ rfl rfl hl.1 rfl (lv_room (Nat.le_of_ble_eq_true rfl)) dX5_quarrelWith_71 ⟨Nat.le_of_ble_eq_true rfl, Nat.le_of_ble_eq_true rfl⟩) hw.2.2.2 (fun q _ h => h) (fun q h => h) (fun r_10 f t H locs ht hvm hp hB hz1 hk1 hS1 => ?_)
            obtain ⟨hI1, hF1⟩ := hp
            have hw := hw.back (S' := (fun t => t == 1 || t == 2 || t == 3 || t == 4 || t == 10)) (by decide) hT hI1 hF1 hB ht hS1
            clear hI1 hF1 hB ht hz1 hk1 hS1 hvm
            refine lv_istore (lv' := [(6, .int r_10), (5, .int (nI i)), (0, .ref h0), (1, .int p0), (2, .int 1), (3, .int (nI k2)), (4, .int p3)]) hx hb dX5_quarrelWith_74 hl (by decide) rfl (fun ls hl => ?_)
            refine lv_iload hx hb dX5_quarrelWith_76 (lv_at hl 0 rfl) ?_
            refine lv_if_eq (tgt := 84) hx hb dX5_quarrelWith_78 (by decide) (fun h_11 => ?_) (fun h_11 => ?_)
            · refine lv_iinc (v := nI (i + 1)) (lv' := [(5, .int (nI (i + 1))), (6, .int r_10), (0, .ref h0), (1, .int p0), (2, .int 1), (3, .int (nI k2)), (4, .int p3)]) hx hb dX5_quarrelWith_84 hl (k := 1) rfl (nI_1 _) (by decide) rfl (fun ls hl => ?_)
              refine lv_goto (tgt := 36) hx hb dX5_quarrelWith_87 (by decide) ?_
              exact ih_36 ((i + 1)) (by omega) (by omega) _ _ _ ls hw (lv_sub hl [0, 2, 3, 4, 5, 6] rfl)
            · refine lv_iload hx hb dX5_quarrelWith_81 (lv_at hl 0 rfl) ?_
              subst hQ
              have hI9 := hw.2.1
              have hF9 := hw.2.2.1
              have hS9 := hw.2.2.2
              rw [hf0] at hF9
              exact W.iret (v := r_10) hx hb hr (fun t ht hW => ⟨⟨_, _, rfl, ⟨hI9, hF9⟩, hw.at ht⟩, hS9.F ht⟩) hS9.2.2 dX5_quarrelWith_83
    exact hl_36 _ k2 (Nat.lt_succ_self _) (by omega) _ _ _ ls hw (lv_sub hl [0, 1, 2, 3, 4, 5] rfl)
  · exact (by first | exact absurd h_1 (by decide) | exact absurd (by decide) h_1)

