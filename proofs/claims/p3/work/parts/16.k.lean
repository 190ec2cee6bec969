set_option maxHeartbeats 4000000 in
set_option maxRecDepth 100000 in
theorem k_X5_quarrelWith_2 (l : Launch) (dC : Nat → ClassId) (dI : Nat → Nat → Nat) (cI cS cP cA : ClassId) (L : List Nat) (tg : Nat → Nat) (f : Nat → va_E) (hN : L.Nodup) (hT : ∀ a : Nat, a ∈ L → tg a < 13) (hI : PI cI cS cP cA L tg f) (h0 : Nat) (hm_h0 : h0 ∈ L) (ht_h0 : tg h0 = 6) (p0 : Int32) (k2 : Nat) (h_k2 : k2 ≤ 12) (p3 : Int32) : Met l yX5_quarrelWith wsX5_quarrelWith ({ frames := 13, cells := 0, slots := 0, locals := 286 }) (va_Pc [.ref h0, .int p0, .int 2, .int (nI k2), .int p3] (tPre dC dI cI cS cP cA L f)) (va_Qi (fun (r : Int32) (f' : Nat → va_E) => PI cI cS cP cA L tg f' ∧ Fr L tg (fun t => t == 1 || t == 2 || t == 3 || t == 4 || t == 10) f f') (fun (f' : Nat → va_E) t => va_P (dC, dI) vwCl (va_pl L f') t.heap) (fun q : Nat => q ∈ L)) 0 0 (fun q : Nat => q ∈ L) := by
  refine Met.ofW (cc := cX5_quarrelWith) (maxL := 7) (ret := (some .int)) (by decide) rfl ?_
  intro p e s m args below meth c s₁ B hml hv
  obtain ⟨rfl, hP, hK, hcm⟩ := hv
  have hx := B.exec
  have hb := B.bytes
  have hr := B.returns
  have hts := atoms_spec (ws := wsX5_quarrelWith) B.pre
  have hown : s.vm.findClass RX5 = some m.cls := findClass_of_methodNamed B.named
  have hlocks := B.notSynchronized
  have hin_X5 : ∀ w ∈ u_ws RX5 TX5 11, w ∈ wsX5_quarrelWith := by decide +kernel
  have hl := lv_entry ([.ref h0, .int p0, .int 2, .int (nI k2), .int p3]) (n := 7) (Nat.le_of_ble_eq_true rfl)
  rw [lg_entry_eq]
  generalize (lg_sl ([.ref h0, .int p0, .int 2, .int (nI k2), .int p3]) ++ List.replicate (7 - (lg_sl ([.ref h0, .int p0, .int 2, .int (nI k2), .int p3])).length) Slot.unset).toArray = ls at hl ⊢
  have hl : lv_has ls 7 [(0, .ref h0), (1, .int p0), (2, .int 2), (3, .int (nI k2)), (4, .int p3)] := hl
  generalize hQ : MQ below (va_Qi (fun (r : Int32) (f' : Nat → va_E) => PI cI cS cP cA L tg f' ∧ Fr L tg (fun t => t == 1 || t == 2 || t == 3 || t == 4 || t == 10) f f') (fun (f' : Nat → va_E) t => va_P (dC, dI) vwCl (va_pl L f') t.heap) (fun q : Nat => q ∈ L)) [.ref h0, .int p0, .int 2, .int (nI k2), .int p3].toArray s 0 0 (fun q : Nat => q ∈ L) = Q
  obtain ⟨f0, hf0⟩ : ∃ g : Nat → va_E, g = f := ⟨_, rfl⟩
  have hw : PW dC dI cI cS cP cA L tg (fun t => t == 1 || t == 2 || t == 3 || t == 4 || t == 10) f0 s.heap f s.heap [] := by rw [hf0]; exact PW.start hP hI
  clear hP
  refine lv_iload_n hx hb dX5_quarrelWith_0 rfl (lv_at hl 2 rfl) ?_
  refine lv_if_gt (tgt := 33) hx hb dX5_quarrelWith_1 (by decide) (fun h_1 => ?_) (fun h_1 => ?_)
  · refine lv_iload_n hx hb dX5_quarrelWith_33 rfl (lv_at hl 3 rfl) ?_
    refine lv_istore (lv' := [(5, .int (nI k2)), (0, .ref h0), (1, .int p0), (2, .int 2), (3, .int (nI k2)), (4, .int p3)]) hx hb dX5_quarrelWith_34 hl (by decide) rfl (fun ls hl => ?_)
    have hl_36 : ∀ (fu : Nat) (i : Nat), 12 - i < fu → (i ≤ 12) → ∀ (f : Nat → va_E) (H : Heap) (locs : List Loc) (ls : Array Slot), PW dC dI cI cS cP cA L tg (fun t => t == 1 || t == 2 || t == 3 || t == 4 || t == 10) f0 s.heap f H locs → lv_has ls 7 [(5, .int (nI i)), (0, .ref h0), (1, .int p0), (2, .int 2), (3, .int (nI k2)), (4, .int p3)] → W p l e (headSpec wsX5_quarrelWith ({ frames := 13, cells := 0, slots := 0, locals := 286 })).room s m [.ref h0, .int p0, .int 2, .int (nI k2), .int p3].toArray below meth c H locs 0 0 Q (F0 m 36 ls []) := by
      intro fu
      induction fu with
      | zero => intro i hm9; exact absurd hm9 (Nat.not_lt_zero _)
      | succ fu ih_36 =>
        intro i hm_36 h_i f H locs ls hw hl
        refine lv_iload hx hb dX5_quarrelWith_36 (lv_at hl 0 rfl) ?_
        refine lv_aload_n hx hb dX5_quarrelWith_38 rfl (lv_at hl 1 rfl) ?_
        refine tp_get (ci := 4) (C := RX5) (T := TX5) (N := 11) hx hb hts hin_X5 hown hK hw hm_h0 6 ht_h0 (fun _ => rfl) rfl 6 (by decide) rfl (hts (.fieldLink RX5 74 "DayBench" "sayingsMade" "I") (by decide +kernel)) (fun _ h9 => h9) dX5_quarrelWith_39 (fun v_2 hf_3 hv_4 => ?_)
        obtain ⟨k_5, ek_5, hk_k_5⟩ := hv_4
        subst ek_5
        clear hf_3
        refine lv_icmp_ge (tgt := 90) hx hb dX5_quarrelWith_42 (by decide) (fun h_6 => ?_) (fun h_6 => ?_)
        · have nh_6 : k_5 ≤ i := (nI_leI (a := k_5) (b := i) (by omega) (by omega)).mp h_6
          refine lv_iconst (v := 0) hx hb dX5_quarrelWith_90 (by decide) ?_
          subst hQ
          have hI9 := hw.2.1
          have hF9 := hw.2.2.1
          have hS9 := hw.2.2.2
          rw [hf0] at hF9
          exact W.iret (v := 0) hx hb hr (fun t ht hW => ⟨⟨_, _, rfl, ⟨hI9, hF9⟩, hw.at ht⟩, hS9.F ht⟩) hS9.2.2 dX5_quarrelWith_91
        · have nh_6 : ¬ k_5 ≤ i := fun q9 => h_6 ((nI_leI (a := k_5) (b := i) (by omega) (by omega)).mpr q9)
          refine lv_iload hx hb dX5_quarrelWith_45 (lv_at hl 5 rfl) ?_
          refine lv_iload hx hb dX5_quarrelWith_47 (lv_at hl 0 rfl) ?_
          refine lv_ishr hx hb dX5_quarrelWith_49 ?_
          refine lv_iconst (v := 1) hx hb dX5_quarrelWith_50 (by decide) ?_
          refine lv_iand hx hb dX5_quarrelWith_51 ?_
          refine lv_if_eq (tgt := 84) hx hb dX5_quarrelWith_52 (by decide) (fun h_7 => ?_) (fun h_7 => ?_)
          · refine lv_iinc (v := nI (i + 1)) (lv' := [(5, .int (nI (i + 1))), (0, .ref h0), (1, .int p0), (2, .int 2), (3, .int (nI k2)), (4, .int p3)]) hx hb dX5_quarrelWith_84 hl (k := 0) rfl (nI_1 _) (by decide) rfl (fun ls hl => ?_)
            refine lv_goto (tgt := 36) hx hb dX5_quarrelWith_87 (by decide) ?_
            exact ih_36 ((i + 1)) (by omega) (by omega) _ _ _ ls hw (lv_sub hl [0, 1, 2, 3, 4, 5] rfl)
          · refine lv_aload_n hx hb dX5_quarrelWith_55 rfl (lv_at hl 1 rfl) ?_
            refine lv_iload_n hx hb dX5_quarrelWith_56 rfl (lv_at hl 2 rfl) ?_
            refine lv_iconst (v := 1) hx hb dX5_quarrelWith_57 (by decide) ?_
            refine lv_iload hx hb dX5_quarrelWith_58 (lv_at hl 0 rfl) ?_
            refine lv_ishl hx hb dX5_quarrelWith_60 ?_
            refine lv_ior hx hb dX5_quarrelWith_61 ?_
            refine lv_iload_n hx hb dX5_quarrelWith_62 rfl (lv_at hl 3 rfl) ?_
            refine lv_iconst (v := 1) hx hb dX5_quarrelWith_63 (by decide) ?_
            refine lv_isub hx hb dX5_quarrelWith_64 ?_
            refine lv_topi (fun x_8 ex_8 => ?_)
            have ex_8 : x_8 = 1 := ex_8.trans (by decide)
            subst ex_8
            refine lv_iload hx hb dX5_quarrelWith_65 (lv_at hl 0 rfl) ?_
            refine lv_iconst (v := 1) hx hb dX5_quarrelWith_67 (by decide) ?_
            refine lv_iadd hx hb dX5_quarrelWith_68 ?_
            refine lv_topi (fun x_9 ex_9 => ?_)
            have ex_9 : x_9 = nI (i + 1) := ex_9.trans (nI_1 _)
            subst ex_9
            refine lv_iload hx hb dX5_quarrelWith_69 (lv_at hl 5 rfl) ?_
            refine va_calli (va_runV (As := [.int (p0 ||| (1 <<< ((nI i) &&& 31))), .int 1, .int (nI (i + 1)), .int p3]) (rest := []) ⟨hx, hb, hml, hown, hts⟩ (k_X5_quarrelWith_1 l dC dI cI cS cP cA L tg f hN hT hw.2.1 h0 hm_h0 ht_h0 (p0 ||| (1 <<< ((nI i) &&& 31))) ((i + 1)) (by first | omega | decide) p3) (cwV 4 hts gX5_quarrelWith_X5_quarrelWith rfl rfl rfl (by decide +kernel) ⟨Nat.le_of_ble_eq_true rfl, Nat.le_of_ble_eq_true rfl⟩) ⟨tPre_blind, tp_recv hK hw hm_h0 6 ht_h0 (ci := 4) (fun _ => rfl) rfl, fun U hU hW => ⟨rfl, tPre_at hw hK hcm hU hW⟩⟩ rfl rfl hl.1 rfl (lv_room (Nat.le_of_ble_eq_true rfl)) dX5_quarrelWith_71 ⟨Nat.le_of_ble_eq_true rfl, Nat.le_of_ble_eq_true rfl⟩) hw.2.2.2 (fun q _ h => h) (fun q h => h) (fun r_10 f t H locs ht hvm hp hB hz1 hk1 hS1 => ?_)
            obtain ⟨hI1, hF1⟩ := hp
            have hw := hw.back (S' := (fun t => t == 1 || t == 2 || t == 3 || t == 4 || t == 10)) (by decide) hT hI1 hF1 hB ht hS1
            clear hI1 hF1 hB ht hz1 hk1 hS1 hvm
            refine lv_istore (lv' := [(6, .int r_10), (5, .int (nI i)), (0, .ref h0), (1, .int p0), (2, .int 2), (3, .int (nI k2)), (4, .int p3)]) hx hb dX5_quarrelWith_74 hl (by decide) rfl (fun ls hl => ?_)
            refine lv_iload hx hb dX5_quarrelWith_76 (lv_at hl 0 rfl) ?_
            refine lv_if_eq (tgt := 84) hx hb dX5_quarrelWith_78 (by decide) (fun h_11 => ?_) (fun h_11 => ?_)
            · refine lv_iinc (v := nI (i + 1)) (lv' := [(5, .int (nI (i + 1))), (6, .int r_10), (0, .ref h0), (1, .int p0), (2, .int 2), (3, .int (nI k2)), (4, .int p3)]) hx hb dX5_quarrelWith_84 hl (k := 1) rfl (nI_1 _) (by decide) rfl (fun ls hl => ?_)
              refine lv_goto (tgt := 36) hx hb dX5_quarrelWith_87 (by decide) ?_
              exact ih_36 ((i + 1)) (by omega) (by omega) _ _ _ ls hw (lv_sub hl [0, 2, 3, 4, 5, 6] rfl)
            · refine lv_iload hx hb dX5_quarrelWith_81 (lv_at hl 0 rfl) ?_
              subst hQ
              have hI9 := hw.2.1
              have hF9 := hw.2.2.1
              have hS9 := hw.2.2.2
              rw [hf0] at hF9
              exact W.iret (v := r_10) hx hb hr (fun t ht hW => ⟨⟨_, _, rfl, ⟨hI9, hF9⟩, hw.at ht⟩, hS9.F ht⟩) hS9.2.2 dX5_quarrelWith_83
    exact hl_36 _ k2 (Nat.lt_succ_self _) (by omega) _ _ _ ls hw (lv_sub hl [0, 1, 2, 3, 4, 5] rfl)
  · exact (by first | exact absurd h_1 (by decide) | exact absurd (by decide) h_1)

set_option maxHeartbeats 4000000 in
set_option maxRecDepth 100000 in
theorem k_X5_quarrelWith_3 (l : Launch) (dC : Nat → ClassId) (dI : Nat → Nat → Nat) (cI cS cP cA : ClassId) (L : List Nat) (tg : Nat → Nat) (f : Nat → va_E) (hN : L.Nodup) (hT : ∀ a : Nat, a ∈ L → tg a < 13) (hI : PI cI cS cP cA L tg f) (h0 : Nat) (hm_h0 : h0 ∈ L) (ht_h0 : tg h0 = 6) (p0 : Int32) (k2 : Nat) (h_k2 : k2 ≤ 12) (p3 : Int32) : Met l yX5_quarrelWith wsX5_quarrelWith ({ frames := 14, cells := 0, slots := 0, locals := 312 }) (va_Pc [.ref h0, .int p0, .int 3, .int (nI k2), .int p3] (tPre dC dI cI cS cP cA L f)) (va_Qi (fun (r : Int32) (f' : Nat → va_E) => PI cI cS cP cA L tg f' ∧ Fr L tg (fun t => t == 1 || t == 2 || t == 3 || t == 4 || t == 10) f f') (fun (f' : Nat → va_E) t => va_P (dC, dI) vwCl (va_pl L f') t.heap) (fun q : Nat => q ∈ L)) 0 0 (fun q : Nat => q ∈ L) := by
  refine Met.ofW (cc := cX5_quarrelWith) (maxL := 7) (ret := (some .int)) (by decide) rfl ?_
  intro p e s m args below meth c s₁ B hml hv
  obtain ⟨rfl, hP, hK, hcm⟩ := hv
  have hx := B.exec
  have hb := B.bytes
  have hr := B.returns
  have hts := atoms_spec (ws := wsX5_quarrelWith) B.pre
  have hown : s.vm.findClass RX5 = some m.cls := findClass_of_methodNamed B.named
  have hlocks := B.notSynchronized
  have hin_X5 : ∀ w ∈ u_ws RX5 TX5 11, w ∈ wsX5_quarrelWith := by decide +kernel
  have hl := lv_entry ([.ref h0, .int p0, .int 3, .int (nI k2), .int p3]) (n := 7) (Nat.le_of_ble_eq_true rfl)
  rw [lg_entry_eq]
  generalize (lg_sl ([.ref h0, .int p0, .int 3, .int (nI k2), .int p3]) ++ List.replicate (7 - (lg_sl ([.ref h0, .int p0, .int 3, .int (nI k2), .int p3])).length) Slot.unset).toArray = ls at hl ⊢
  have hl : lv_has ls 7 [(0, .ref h0), (1, .int p0), (2, .int 3), (3, .int (nI k2)), (4, .int p3)] := hl
  generalize hQ : MQ below (va_Qi (fun (r : Int32) (f' : Nat → va_E) => PI cI cS cP cA L tg f' ∧ Fr L tg (fun t => t == 1 || t == 2 || t == 3 || t == 4 || t == 10) f f') (fun (f' : Nat → va_E) t => va_P (dC, dI) vwCl (va_pl L f') t.heap) (fun q : Nat => q ∈ L)) [.ref h0, .int p0, .int 3, .int (nI k2), .int p3].toArray s 0 0 (fun q : Nat => q ∈ L) = Q
  obtain ⟨f0, hf0⟩ : ∃ g : Nat → va_E, g = f := ⟨_, rfl⟩
  have hw : PW dC dI cI cS cP cA L tg (fun t => t == 1 || t == 2 || t == 3 || t == 4 || t == 10) f0 s.heap f s.heap [] := by rw [hf0]; exact PW.start hP hI
  clear hP
  refine lv_iload_n hx hb dX5_quarrelWith_0 rfl (lv_at hl 2 rfl) ?_
  refine lv_if_gt (tgt := 33) hx hb dX5_quarrelWith_1 (by decide) (fun h_1 => ?_) (fun h_1 => ?_)
  · refine lv_iload_n hx hb dX5_quarrelWith_33 rfl (lv_at hl 3 rfl) ?_
    refine lv_istore (lv' := [(5, .int (nI k2)), (0, .ref h0), (1, .int p0), (2, .int 3), (3, .int (nI k2)), (4, .int p3)]) hx hb dX5_quarrelWith_34 hl (by decide) rfl (fun ls hl => ?_)
    have hl_36 : ∀ (fu : Nat) (i : Nat), 12 - i < fu → (i ≤ 12) → ∀ (f : Nat → va_E) (H : Heap) (locs : List Loc) (ls : Array Slot), PW dC dI cI cS cP cA L tg (fun t => t == 1 || t == 2 || t == 3 || t == 4 || t == 10) f0 s.heap f H locs → lv_has ls 7 [(5, .int (nI i)), (0, .ref h0), (1, .int p0), (2, .int 3), (3, .int (nI k2)), (4, .int p3)] → W p l e (headSpec wsX5_quarrelWith ({ frames := 14, cells := 0, slots := 0, locals := 312 })).room s m [.ref h0, .int p0, .int 3, .int (nI k2), .int p3].toArray below meth c H locs 0 0 Q (F0 m 36 ls []) := by
      intro fu
      induction fu with
      | zero => intro i hm9; exact absurd hm9 (Nat.not_lt_zero _)
      | succ fu ih_36 =>
        intro i hm_36 h_i f H locs ls hw hl
        refine lv_iload hx hb dX5_quarrelWith_36 (lv_at hl 0 rfl) ?_
        refine lv_aload_n hx hb dX5_quarrelWith_38 rfl (lv_at hl 1 rfl) ?_
        refine tp_get (ci := 4) (C := RX5) (T := TX5) (N := 11) hx hb hts hin_X5 hown hK hw hm_h0 6 ht_h0 (fun _ => rfl) rfl 6 (by decide) rfl (hts (.fieldLink RX5 74 "DayBench" "sayingsMade" "I") (by decide +kernel)) (fun _ h9 => h9) dX5_quarrelWith_39 (fun v_2 hf_3 hv_4 => ?_)
        obtain ⟨k_5, ek_5, hk_k_5⟩ := hv_4
        subst ek_5
        clear hf_3
        refine lv_icmp_ge (tgt := 90) hx hb dX5_quarrelWith_42 (by decide) (fun h_6 => ?_) (fun h_6 => ?_)
        · have nh_6 : k_5 ≤ i := (nI_leI (a := k_5) (b := i) (by omega) (by omega)).mp h_6
          refine lv_iconst (v := 0) hx hb dX5_quarrelWith_90 (by decide) ?_
          subst hQ
          have hI9 := hw.2.1
          have hF9 := hw.2.2.1
          have hS9 := hw.2.2.2
          rw [hf0] at hF9
          exact W.iret (v := 0) hx hb hr (fun t ht hW => ⟨⟨_, _, rfl, ⟨hI9, hF9⟩, hw.at ht⟩, hS9.F ht⟩) hS9.2.2 dX5_quarrelWith_91
        · have nh_6 : ¬ k_5 ≤ i := fun q9 => h_6 ((nI_leI (a := k_5) (b := i) (by omega) (by omega)).mpr q9)
          refine lv_iload hx hb dX5_quarrelWith_45 (lv_at hl 5 rfl) ?_
          refine lv_iload hx hb dX5_quarrelWith_47 (lv_at hl 0 rfl) ?_
          refine lv_ishr hx hb dX5_quarrelWith_49 ?_
          refine lv_iconst (v := 1) hx hb dX5_quarrelWith_50 (by decide) ?_
          refine lv_iand hx hb dX5_quarrelWith_51 ?_
          refine lv_if_eq (tgt := 84) hx hb dX5_quarrelWith_52 (by decide) (fun h_7 => ?_) (fun h_7 => ?_)
          · refine lv_iinc (v := nI (i + 1)) (lv' := [(5, .int (nI (i + 1))), (0, .ref h0), (1, .int p0), (2, .int 3), (3, .int (nI k2)), (4, .int p3)]) hx hb dX5_quarrelWith_84 hl (k := 0) rfl (nI_1 _) (by decide) rfl (fun ls hl => ?_)
            refine lv_goto (tgt := 36) hx hb dX5_quarrelWith_87 (by decide) ?_
            exact ih_36 ((i + 1)) (by omega) (by omega) _ _ _ ls hw (lv_sub hl [0, 1, 2, 3, 4, 5] rfl)
          · refine lv_aload_n hx hb dX5_quarrelWith_55 rfl (lv_at hl 1 rfl) ?_
            refine lv_iload_n hx hb dX5_quarrelWith_56 rfl (lv_at hl 2 rfl) ?_
            refine lv_iconst (v := 1) hx hb dX5_quarrelWith_57 (by decide) ?_
            refine lv_iload hx hb dX5_quarrelWith_58 (lv_at hl 0 rfl) ?_
            refine lv_ishl hx hb dX5_quarrelWith_60 ?_
            refine lv_ior hx hb dX5_quarrelWith_61 ?_
            refine lv_iload_n hx hb dX5_quarrelWith_62 rfl (lv_at hl 3 rfl) ?_
            refine lv_iconst (v := 1) hx hb dX5_quarrelWith_63 (by decide) ?_
            refine lv_isub hx hb dX5_quarrelWith_64 ?_
            refine lv_topi (fun x_8 ex_8 => ?_)
            have ex_8 : x_8 = 2 := ex_8.trans (by decide)
            subst ex_8
            refine lv_iload hx hb dX5_quarrelWith_65 (lv_at hl 0 rfl) ?_
            refine lv_iconst (v := 1) hx hb dX5_quarrelWith_67 (by decide) ?_
            refine lv_iadd hx hb dX5_quarrelWith_68 ?_
            refine lv_topi (fun x_9 ex_9 => ?_)
            have ex_9 : x_9 = nI (i + 1) := ex_9.trans (nI_1 _)
            subst ex_9
            refine lv_iload hx hb dX5_quarrelWith_69 (lv_at hl 5 rfl) ?_
            refine va_calli (va_runV (As := [.int (p0 ||| (1 <<< ((nI i) &&& 31))), .int 2, .int (nI (i + 1)), .int p3]) (rest := []) ⟨hx, hb, hml, hown, hts⟩ (k_X5_quarrelWith_2 l dC dI cI cS cP cA L tg f hN hT hw.2.1 h0 hm_h0 ht_h0 (p0 ||| (1 <<< ((nI i) &&& 31))) ((i + 1)) (by first | omega | decide) p3) (cwV 4 hts gX5_quarrelWith_X5_quarrelWith rfl rfl rfl (by decide +kernel) ⟨Nat.le_of_ble_eq_true rfl, Nat.le_of_ble_eq_true rfl⟩) ⟨tPre_blind, tp_recv hK hw hm_h0 6 ht_h0 (ci := 4) (fun _ => rfl) rfl, fun U hU hW => ⟨rfl, tPre_at hw hK hcm hU hW⟩⟩ rfl rfl hl.1 rfl (lv_room (Nat.le_of_ble_eq_true rfl)) dX5_quarrelWith_71 ⟨Nat.le_of_ble_eq_true rfl, Nat.le_of_ble_eq_true rfl⟩) hw.2.2.2 (fun q _ h => h) (fun q h => h) (fun r_10 f t H locs ht hvm hp hB hz1 hk1 hS1 => ?_)
            obtain ⟨hI1, hF1⟩ := hp
            have hw := hw.back (S' := (fun t => t == 1 || t == 2 || t == 3 || t == 4 || t == 10)) (by decide) hT hI1 hF1 hB ht hS1
            clear hI1 hF1 hB ht hz1 hk1 hS1 hvm
            refine lv_istore (lv' := [(6, .int r_10), (5, .int (nI i)), (0, .ref h0), (1, .int p0), (2, .int 3), (3, .int (nI k2)), (4, .int p3)]) hx hb dX5_quarrelWith_74 hl (by decide) rfl (fun ls hl => ?_)
            refine lv_iload hx hb dX5_quarrelWith_76 (lv_at hl 0 rfl) ?_
            refine lv_if_eq (tgt := 84) hx hb dX5_quarrelWith_78 (by decide) (fun h_11 => ?_) (fun h_11 => ?_)
            · refine lv_iinc (v := nI (i + 1)) (lv' := [(5, .int (nI (i + 1))), (6, .int r_10), (0, .ref h0), (1, .int p0), (2, .int 3), (3, .int (nI k2)), (4, .int p3)]) hx hb dX5_quarrelWith_84 hl (k := 1) rfl (nI_1 _) (by decide) rfl (fun ls hl => ?_)
              refine lv_goto (tgt := 36) hx hb dX5_quarrelWith_87 (by decide) ?_
              exact ih_36 ((i + 1)) (by omega) (by omega) _ _ _ ls hw (lv_sub hl [0, 2, 3, 4, 5, 6] rfl)
            · refine lv_iload hx hb dX5_quarrelWith_81 (lv_at hl 0 rfl) ?_
              subst hQ
              have hI9 := hw.2.1
              have hF9 := hw.2.2.1
              have hS9 := hw.2.2.2
              rw [hf0] at hF9
              exact W.iret (v := r_10) hx hb hr (fun t ht hW => ⟨⟨_, _, rfl, ⟨hI9, hF9⟩, hw.at ht⟩, hS9.F ht⟩) hS9.2.2 dX5_quarrelWith_83
    exact hl_36 _ k2 (Nat.lt_succ_self _) (by omega) _ _ _ ls hw (lv_sub hl [0, 1, 2, 3, 4, 5] rfl)
  · exact (by first | exact absurd h_1 (by decide) | exact absurd (by decide) h_1)

set_option maxHeartbeats 4000000 in
set_option maxRecDepth 100000 in
theorem k_X5_quarrelWith_4 (l : Launch) (dC : Nat → ClassId) (dI : Nat → Nat → Nat) (cI cS cP cA : ClassId) (L : List Nat) (tg : Nat → Nat) (f : Nat → va_E) (hN : L.Nodup) (hT : ∀ a : Nat, a ∈ L → tg a < 13) (hI : PI cI cS cP cA L tg f) (h0 : Nat) (hm_h0 : h0 ∈ L) (ht_h0 : tg h0 = 6) (p0 : Int32) (k2 : Nat) (h_k2 : k2 ≤ 12) (p3 : Int32) : Met l yX5_quarrelWith wsX5_quarrelWith ({ frames := 15, cells := 0, slots := 0, locals := 338 }) (va_Pc [.ref h0, .int p0, .int 4, .int (nI k2), .int p3] (tPre dC dI cI cS cP cA L f)) (va_Qi (fun (r : Int32) (f' : Nat → va_E) => PI cI cS cP cA L tg f' ∧ Fr L tg (fun t => t == 1 || t == 2 || t == 3 || t == 4 || t == 10) f f') (fun (f' : Nat → va_E) t => va_P (dC, dI) vwCl (va_pl L f') t.heap) (fun q : Nat => q ∈ L)) 0 0 (fun q : Nat => q ∈ L) := by
  refine Met.ofW (cc := cX5_quarrelWith) (maxL := 7) (ret := (some .int)) (by decide) rfl ?_
  intro p e s m args below meth c s₁ B hml hv
  obtain ⟨rfl, hP, hK, hcm⟩ := hv
  have hx := B.exec
  have hb := B.bytes
  have hr := B.returns
  have hts := atoms_spec (ws := wsX5_quarrelWith) B.pre
  have hown : s.vm.findClass RX5 = some m.cls := findClass_of_methodNamed B.named
  have hlocks := B.notSynchronized
  have hin_X5 : ∀ w ∈ u_ws RX5 TX5 11, w ∈ wsX5_quarrelWith := by decide +kernel
  have hl := lv_entry ([.ref h0, .int p0, .int 4, .int (nI k2), .int p3]) (n := 7) (Nat.le_of_ble_eq_true rfl)
  rw [lg_entry_eq]
  generalize (lg_sl ([.ref h0, .int p0, .int 4, .int (nI k2), .int p3]) ++ List.replicate (7 - (lg_sl ([.ref h0, .int p0, .int 4, .int (nI k2), .int p3])).length) Slot.unset).toArray = ls at hl ⊢
  have hl : lv_has ls 7 [(0, .ref h0), (1, .int p0), (2, .int 4), (3, .int (nI k2)), (4, .int p3)] := hl
  generalize hQ : MQ below (va_Qi (fun (r : Int32) (f' : Nat → va_E) => PI cI cS cP cA L tg f' ∧ Fr L tg (fun t => t == 1 || t == 2 || t == 3 || t == 4 || t == 10) f f') (fun (f' : Nat → va_E) t => va_P (dC, dI) vwCl (va_pl L f') t.heap) (fun q : Nat => q ∈ L)) [.ref h0, .int p0, .int 4, .int (nI k2), .int p3].toArray s 0 0 (fun q : Nat => q ∈ L) = Q
  obtain ⟨f0, hf0⟩ : ∃ g : Nat → va_E, g = f := ⟨_, rfl⟩
  have hw : PW dC dI cI cS cP cA L tg (fun t => t == 1 || t == 2 || t == 3 || t == 4 || t == 10) f0 s.heap f s.heap [] := by rw [hf0]; exact PW.start hP hI
  clear hP
  refine lv_iload_n hx hb dX5_quarrelWith_0 rfl (lv_at hl 2 rfl) ?_
  refine lv_if_gt (tgt := 33) hx hb dX5_quarrelWith_1 (by decide) (fun h_1 => ?_) (fun h_1 => ?_)
  · refine lv_iload_n hx hb dX5_quarrelWith_33 rfl (lv_at hl 3 rfl) ?_
    refine lv_istore (lv' := [(5, .int (nI k2)), (0, .ref h0), (1, .int p0), (2, .int 4), (3, .int (nI k2)), (4, .int p3)]) hx hb dX5_quarrelWith_34 hl (by decide) rfl (fun ls hl => ?_)
    have hl_36 : ∀ (fu : Nat) (i : Nat), 12 - i < fu → (i ≤ 12) → ∀ (f : Nat → va_E) (H : Heap) (locs : List Loc) (ls : Array Slot), PW dC dI cI cS cP cA L tg (fun t => t == 1 || t == 2 || t == 3 || t == 4 || t == 10) f0 s.heap f H locs → lv_has ls 7 [(5, .int (nI i)), (0, .ref h0), (1, .int p0), (2, .int 4), (3, .int (nI k2)), (4, .int p3)] → W p l e (headSpec wsX5_quarrelWith ({ frames := 15, cells := 0, slots := 0, locals := 338 })).room s m [.ref h0, .int p0, .int 4, .int (nI k2), .int p3].toArray below meth c H locs 0 0 Q (F0 m 36 ls []) := by
      intro fu
      induction fu with
      | zero => intro i hm9; exact absurd hm9 (Nat.not_lt_zero _)
      | succ fu ih_36 =>
        intro i hm_36 h_i f H locs ls hw hl
        refine lv_iload hx hb dX5_quarrelWith_36 (lv_at hl 0 rfl) ?_
        refine lv_aload_n hx hb dX5_quarrelWith_38 rfl (lv_at hl 1 rfl) ?_
        refine tp_get (ci := 4) (C := RX5) (T := TX5) (N := 11) hx hb hts hin_X5 hown hK hw hm_h0 6 ht_h0 (fun _ => rfl) rfl 6 (by decide) rfl (hts (.fieldLink RX5 74 "DayBench" "sayingsMade" "I") (by decide +kernel)) (fun _ h9 => h9) dX5_quarrelWith_39 (fun v_2 hf_3 hv_4 => ?_)
        obtain ⟨k_5, ek_5, hk_k_5⟩ := hv_4
        subst ek_5
        clear hf_3
        refine lv_icmp_ge (tgt := 90) hx hb dX5_quarrelWith_42 (by decide) (fun h_6 => ?_) (fun h_6 => ?_)
        · have nh_6 : k_5 ≤ i := (nI_leI (a := k_5) (b := i) (by omega) (by omega)).mp h_6
          refine lv_iconst (v := 0) hx hb dX5_quarrelWith_90 (by decide) ?_
          subst hQ
          have hI9 := hw.2.1
          have hF9 := hw.2.2.1
          have hS9 := hw.2.2.2
          rw [hf0] at hF9
          exact W.iret (v := 0) hx hb hr (fun t ht hW => ⟨⟨_, _, rfl, ⟨hI9, hF9⟩, hw.at ht⟩, hS9.F ht⟩) hS9.2.2 dX5_quarrelWith_91
        · have nh_6 : ¬ k_5 ≤ i := fun q9 => h_6 ((nI_leI (a := k_5) (b := i) (by omega) (by omega)).mpr q9)
          refine lv_iload hx hb dX5_quarrelWith_45 (lv_at hl 5 rfl) ?_
          refine lv_iload hx hb dX5_quarrelWith_47 (lv_at hl 0 rfl) ?_
          refine lv_ishr hx hb dX5_quarrelWith_49 ?_
          refine lv_iconst (v := 1) hx hb dX5_quarrelWith_50 (by decide) ?_
          refine lv_iand hx hb dX5_quarrelWith_51 ?_
          refine lv_if_eq (tgt := 84) hx hb dX5_quarrelWith_52 (by decide) (fun h_7 => ?_) (fun h_7 => ?_)
          · refine lv_iinc (v := nI (i + 1)) (lv' := [(5, .int (nI (i + 1))), (0, .ref h0), (1, .int p0), (2, .int 4), (3, .int (nI k2)), (4, .int p3)]) hx hb dX5_quarrelWith_84 hl (k := 0) rfl (nI_1 _) (by decide) rfl (fun ls hl => ?_)
            refine lv_goto (tgt := 36) hx hb dX5_quarrelWith_87 (by decide) ?_
            exact ih_36 ((i + 1)) (by omega) (by omega) _ _ _ ls hw (lv_sub hl [0, 1, 2, 3, 4, 5] rfl)
          · refine lv_aload_n hx hb dX5_quarrelWith_55 rfl (lv_at hl 1 rfl) ?_
            refine lv_iload_n hx hb dX5_quarrelWith_56 rfl (lv_at hl 2 rfl) ?_
            refine lv_iconst (v := 1) hx hb dX5_quarrelWith_57 (by decide) ?_
            refine lv_iload hx hb dX5_quarrelWith_58 (lv_at hl 0 rfl) ?_
            refine lv_ishl hx hb dX5_quarrelWith_60 ?_
            refine lv_ior hx hb dX5_quarrelWith_61 ?_
            refine lv_iload_n hx hb dX5_quarrelWith_62 rfl (lv_at hl 3 rfl) ?_
            refine lv_iconst (v := 1) hx hb dX5_quarrelWith_63 (by decide) ?_
            refine lv_isub hx hb dX5_quarrelWith_64 ?_
            refine lv_topi (fun x_8 ex_8 => ?_)
            have ex_8 : x_8 = 3 := ex_8.trans (by decide)
            subst ex_8
            refine lv_iload hx hb dX5_quarrelWith_65 (lv_at hl 0 rfl) ?_
            refine lv_iconst (v := 1) hx hb dX5_quarrelWith_67 (by decide) ?_
            refine lv_iadd hx hb dX5_quarrelWith_68 ?_
            refine lv_topi (fun x_9 ex_9 => ?_)
            have ex_9 : x_9 = nI (i + 1) := ex_9.trans (nI_1 _)
            subst ex_9
            refine lv_iload hx hb dX5_quarrelWith_69 (lv_at hl 5 rfl) ?_
            refine va_calli (va_runV (As := [.int (p0 ||| (1 <<< ((nI i) &&& 31))), .int 3, .int (nI (i + 1)), .int p3]) (rest := []) ⟨hx, hb, hml, hown, hts⟩ (k_X5_quarrelWith_3 l dC dI cI cS cP cA L tg f hN hT hw.2.1 h0 hm_h0 ht_h0 (p0 ||| (1 <<< ((nI i) &&& 31))) ((i + 1)) (by first | omega | decide) p3) (cwV 4 hts gX5_quarrelWith_X5_quarrelWith rfl rfl rfl (by decide +kernel) ⟨Nat.le_of_ble_eq_true rfl, Nat.le_of_ble_eq_true rfl⟩) ⟨tPre_blind, tp_recv hK hw hm_h0 6 ht_h0 (ci := 4) (fun _ => rfl) rfl, fun U hU hW => ⟨rfl, tPre_at hw hK hcm hU hW⟩⟩ rfl rfl hl.1 rfl (lv_room (Nat.le_of_ble_eq_true rfl)) dX5_quarrelWith_71 ⟨Nat.le_of_ble_eq_true rfl, Nat.le_of_ble_eq_true rfl⟩) hw.2.2.2 (fun q _ h => h) (fun q h => h) (fun r_10 f t H locs ht hvm hp hB hz1 hk1 hS1 => ?_)
            obtain ⟨hI1, hF1⟩ := hp
            have hw := hw.back (S' := (fun t => t == 1 || t == 2 || t == 3 || t == 4 || t == 10)) (by decide) hT hI1 hF1 hB ht hS1
            clear hI1 hF1 hB ht hz1 hk1 hS1 hvm
            refine lv_istore (lv' := [(6, .int r_10), (5, .int (nI i)), (0, .ref h0), (1, .int p0), (2, .int 4), (3, .int (nI k2)), (4, .int p3)]) hx hb dX5_quarrelWith_74 hl (by decide) rfl (fun ls hl => ?_)
            refine lv_iload hx hb dX5_quarrelWith_76 (lv_at hl 0 rfl) ?_
            refine lv_if_eq (tgt := 84) hx hb dX5_quarrelWith_78 (by decide) (fun h_11 => ?_) (fun h_11 => ?_)
            · refine lv_iinc (v := nI (i + 1)) (lv' := [(5, .int (nI (i + 1))), (6, .int r_10), (0, .ref h0), (1, .int p0), (2, .int 4), (3, .int (nI k2)), (4, .int p3)]) hx hb dX5_quarrelWith_84 hl (k := 1) rfl (nI_1 _) (by decide) rfl (fun ls hl => ?_)
              refine lv_goto (tgt := 36) hx hb dX5_quarrelWith_87 (by decide) ?_
              exact ih_36 ((i + 1)) (by omega) (by omega) _ _ _ ls hw (lv_sub hl [0, 2, 3, 4, 5, 6] rfl)
            · refine lv_iload hx hb dX5_quarrelWith_81 (lv_at hl 0 rfl) ?_
              subst hQ
              have hI9 := hw.2.1
              have hF9 := hw.2.2.1
              have hS9 := hw.2.2.2
              rw [hf0] at hF9
              exact W.iret (v := r_10) hx hb hr (fun t ht hW => ⟨⟨_, _, rfl, ⟨hI9, hF9⟩, hw.at ht⟩, hS9.F ht⟩) hS9.2.2 dX5_quarrelWith_83
    exact hl_36 _ k2 (Nat.lt_succ_self _) (by omega) _ _ _ ls hw (lv_sub hl [0, 1, 2, 3, 4, 5] rfl)
  · exact (by first | exact absurd h_1 (by decide) | exact absurd (by decide) h_1)

set_option maxHeartbeats 4000000 in
set_option maxRecDepth 100000 in
theorem k_X5_quarrelWith_5 (l : Launch) (dC : Nat → ClassId) (dI : Nat → Nat → Nat) (cI cS cP cA : ClassId) (L : List Nat) (tg : Nat → Nat) (f : Nat → va_E) (hN : L.Nodup) (hT : ∀ a : Nat, a ∈ L → tg a < 13) (hI : PI cI cS cP cA L tg f) (h0 : Nat) (hm_h0 : h0 ∈ L) (ht_h0 : tg h0 = 6) (p0 : Int32) (k2 : Nat) (h_k2 : k2 ≤ 12) (p3 : Int32) : Met l yX5_quarrelWith wsX5_quarrelWith ({ frames := 16, cells := 0, slots := 0, locals := 364 }) (va_Pc [.ref h0, .int p0, .int 5, .int (nI k2), .int p3] (tPre dC dI cI cS cP cA L f)) (va_Qi (fun (r : Int32) (f' : Nat → va_E) => PI cI cS cP cA L tg f' ∧ Fr L tg (fun t => t == 1 || t == 2 || t == 3 || t == 4 || t == 10) f f') (fun (f' : Nat → va_E) t => va_P (dC, dI) vwCl (va_pl L f') t.heap) (fun q : Nat => q ∈ L)) 0 0 (fun q : Nat => q ∈ L) := by
  refine Met.ofW (cc := cX5_quarrelWith) (maxL := 7) (ret := (some .int)) (by decide) rfl ?_
  intro p e s m args below meth c s₁ B hml hv
  obtain ⟨rfl, hP, hK, hcm⟩ := hv
  have hx := B.exec
  have hb := B.bytes
  have hr := B.returns
  have hts := atoms_spec (ws := wsX5_quarrelWith) B.pre
  have hown : s.vm.findClass RX5 = some m.cls := findClass_of_methodNamed B.named
  have hlocks := B.notSynchronized
  have hin_X5 : ∀ w ∈ u_ws RX5 TX5 11, w ∈ wsX5_quarrelWith := by decide +kernel
  have hl := lv_entry ([.ref h0, .int p0, .int 5, .int (nI k2), .int p3]) (n := 7) (Nat.le_of_ble_eq_true rfl)
  rw [lg_entry_eq]
  generalize (lg_sl ([.ref h0, .int p0, .int 5, .int (nI k2), .int p3]) ++ List.replicate (7 - (lg_sl ([.ref h0, .int p0, .int 5, .int (nI k2), .int p3])).length) Slot.unset).toArray = ls at hl ⊢
  have hl : lv_has ls 7 [(0, .ref h0), (1, .int p0), (2, .int 5), (3, .int (nI k2)), (4, .int p3)] := hl
  generalize hQ : MQ below (va_Qi (fun (r : Int32) (f' : Nat → va_E) => PI cI cS cP cA L tg f' ∧ Fr L tg (fun t => t == 1 || t == 2 || t == 3 || t == 4 || t == 10) f f') (fun (f' : Nat → va_E) t => va_P (dC, dI) vwCl (va_pl L f') t.heap) (fun q : Nat => q ∈ L)) [.ref h0, .int p0, .int 5, .int (nI k2), .int p3].toArray s 0 0 (fun q : Nat => q ∈ L) = Q
  obtain ⟨f0, hf0⟩ : ∃ g : Nat → va_E, g = f := ⟨_, rfl⟩
  have hw : PW dC dI cI cS cP cA L tg (fun t => t == 1 || t == 2 || t == 3 || t == 4 || t == 10) f0 s.heap f s.heap [] := by rw [hf0]; exact PW.start hP hI
  clear hP
  refine lv_iload_n hx hb dX5_quarrelWith_0 rfl (lv_at hl 2 rfl) ?_
  refine lv_if_gt (tgt := 33) hx hb dX5_quarrelWith_1 (by decide) (fun h_1 => ?_) (fun h_1 => ?_)
  · refine lv_iload_n hx hb dX5_quarrelWith_33 rfl (lv_at hl 3 rfl) ?_
    refine lv_istore (lv' := [(5, .int (nI k2)), (0, .ref h0), (1, .int p0), (2, .int 5), (3, .int (nI k2)), (4, .int p3)]) hx hb dX5_quarrelWith_34 hl (by decide) rfl (fun ls hl => ?_)
    have hl_36 : ∀ (fu : Nat) (i : Nat), 12 - i < fu → (i ≤ 12) → ∀ (f : Nat → va_E) (H : Heap) (locs : List Loc) (ls : Array Slot), PW dC dI cI cS cP cA L tg (fun t => t == 1 || t == 2 || t == 3 || t == 4 || t == 10) f0 s.heap f H locs → lv_has ls 7 [(5, .int (nI i)), (0, .ref h0), (1, .int p0), (2, .int 5), (3, .int (nI k2)), (4, .int p3)] → W p l e (headSpec wsX5_quarrelWith ({ frames := 16, cells := 0, slots := 0, locals := 364 })).room s m [.ref h0, .int p0, .int 5, .int (nI k2), .int p3].toArray below meth c H locs 0 0 Q (F0 m 36 ls []) := by
      intro fu
      induction fu with
      | zero => intro i hm9; exact absurd hm9 (Nat.not_lt_zero _)
      | succ fu ih_36 =>
        intro i hm_36 h_i f H locs ls hw hl
        refine lv_iload hx hb dX5_quarrelWith_36 (lv_at hl 0 rfl) ?_
        refine lv_aload_n hx hb dX5_quarrelWith_38 rfl (lv_at hl 1 rfl) ?_
        refine tp_get (ci := 4) (C := RX5) (T := TX5) (N := 11) hx hb hts hin_X5 hown hK hw hm_h0 6 ht_h0 (fun _ => rfl) rfl 6 (by decide) rfl (hts (.fieldLink RX5 74 "DayBench" "sayingsMade" "I") (by decide +kernel)) (fun _ h9 => h9) dX5_quarrelWith_39 (fun v_2 hf_3 hv_4 => ?_)
        obtain ⟨k_5, ek_5, hk_k_5⟩ := hv_4
        subst ek_5
        clear hf_3
        refine lv_icmp_ge (tgt := 90) hx hb dX5_quarrelWith_42 (by decide) (fun h_6 => ?_) (fun h_6 => ?_)
        · have nh_6 : k_5 ≤ i := (nI_leI (a := k_5) (b := i) (by omega) (by omega)).mp h_6
          refine lv_iconst (v := 0) hx hb dX5_quarrelWith_90 (by decide) ?_
          subst hQ
          have hI9 := hw.2.1
          have hF9 := hw.2.2.1
          have hS9 := hw.2.2.2
          rw [hf0] at hF9
          exact W.iret (v := 0) hx hb hr (fun t ht hW => ⟨⟨_, _, rfl, ⟨hI9, hF9⟩, hw.at ht⟩, hS9.F ht⟩) hS9.2.2 dX5_quarrelWith_91
        · have nh_6 : ¬ k_5 ≤ i := fun q9 => h_6 ((nI_leI (a := k_5) (b := i) (by omega) (by omega)).mpr q9)
          refine lv_iload hx hb dX5_quarrelWith_45 (lv_at hl 5 rfl) ?_
          refine lv_iload hx hb dX5_quarrelWith_47 (lv_at hl 0 rfl) ?_
          refine lv_ishr hx hb dX5_quarrelWith_49 ?_
          refine lv_iconst (v := 1) hx hb dX5_quarrelWith_50 (by decide) ?_
          refine lv_iand hx hb dX5_quarrelWith_51 ?_
          refine lv_if_eq (tgt := 84) hx hb dX5_quarrelWith_52 (by decide) (fun h_7 => ?_) (fun h_7 => ?_)
          · refine lv_iinc (v := nI (i + 1)) (lv' := [(5, .int (nI (i + 1))), (0, .ref h0), (1, .int p0), (2, .int 5), (3, .int (nI k2)), (4, .int p3)]) hx hb dX5_quarrelWith_84 hl (k := 0) rfl (nI_1 _) (by decide) rfl (fun ls hl => ?_)
            refine lv_goto (tgt := 36) hx hb dX5_quarrelWith_87 (by decide) ?_
            exact ih_36 ((i + 1)) (by omega) (by omega) _ _ _ ls hw (lv_sub hl [0, 1, 2, 3, 4, 5] rfl)
          · refine lv_aload_n hx hb dX5_quarrelWith_55 rfl (lv_at hl 1 rfl) ?_
            refine lv_iload_n hx hb dX5_quarrelWith_56 rfl (lv_at hl 2 rfl) ?_
            refine lv_iconst (v := 1) hx hb dX5_quarrelWith_57 (by decide) ?_
            refine lv_iload hx hb dX5_quarrelWith_58 (lv_at hl 0 rfl) ?_
            refine lv_ishl hx hb dX5_quarrelWith_60 ?_
            refine lv_ior hx hb dX5_quarrelWith_61 ?_
            refine lv_iload_n hx hb dX5_quarrelWith_62 rfl (lv_at hl 3 rfl) ?_
            refine lv_iconst (v := 1) hx hb dX5_quarrelWith_63 (by decide) ?_
            refine lv_isub hx hb dX5_quarrelWith_64 ?_
            refine lv_topi (fun x_8 ex_8 => ?_)
            have ex_8 : x_8 = 4 := ex_8.trans (by decide)
            subst ex_8
            refine lv_iload hx hb dX5_quarrelWith_65 (lv_at hl 0 rfl) ?_
            refine lv_iconst (v := 1) hx hb dX5_quarrelWith_67 (by decide) ?_
            refine lv_iadd hx hb dX5_quarrelWith_68 ?_
            refine lv_topi (fun x_9 ex_9 => ?_)
            have ex_9 : x_9 = nI (i + 1) := ex_9.trans (nI_1 _)
            subst ex_9
            refine lv_iload hx hb dX5_quarrelWith_69 (lv_at hl 5 rfl) ?_
            refine va_calli (va_runV (As := [.int (p0 ||| (1 <<< ((nI i) &&& 31))), .int 4, .int (nI (i + 1)), .int p3]) (rest := []) ⟨hx, hb, hml, hown, hts⟩ (k_X5_quarrelWith_4 l dC dI cI cS cP cA L tg f hN hT hw.2.1 h0 hm_h0 ht_h0 (p0 ||| (1 <<< ((nI i) &&& 31))) ((i + 1)) (by first | omega | decide) p3) (cwV 4 hts gX5_quarrelWith_X5_quarrelWith rfl rfl rfl (by decide +kernel) ⟨Nat.le_of_ble_eq_true rfl, Nat.le_of_ble_eq_true rfl⟩) ⟨tPre_blind, tp_recv hK hw hm_h0 6 ht_h0 (ci := 4) (fun _ => rfl) rfl, fun U hU hW => ⟨rfl, tPre_at hw hK hcm hU hW⟩⟩ rfl rfl hl.1 rfl (lv_room (Nat.le_of_ble_eq_true rfl)) dX5_quarrelWith_71 ⟨Nat.le_of_ble_eq_true rfl, Nat.le_of_ble_eq_true rfl⟩) hw.2.2.2 (fun q _ h => h) (fun q h => h) (fun r_10 f t H locs ht hvm hp hB hz1 hk1 hS1 => ?_)
            obtain ⟨hI1, hF1⟩ := hp
            have hw := hw.back (S' := (fun t => t == 1 || t == 2 || t == 3 || t == 4 || t == 10)) (by decide) hT hI1 hF1 hB ht hS1
            clear hI1 hF1 hB ht hz1 hk1 hS1 hvm
            refine lv_istore (lv' := [(6, .int r_10), (5, .int (nI i)), (0, .ref h0), (1, .int p0), (2, .int 5), (3, .int (nI k2)), (4, .int p3)]) hx hb dX5_quarrelWith_74 hl (by decide) rfl (fun ls hl => ?_)
            refine lv_iload hx hb dX5_quarrelWith_76 (lv_at hl 0 rfl) ?_
            refine lv_if_eq (tgt := 84) hx hb dX5_quarrelWith_78 (by decide) (fun h_11 => ?_) (fun h_11 => ?_)
            · refine lv_iinc (v := nI (i + 1)) (lv' := [(5, .int (nI (i + 1))), (6, .int r_10), (0, .ref h0), (1, .int p0), (2, .int 5), (3, .int (nI k2)), (4, .int p3)]) hx hb dX5_quarrelWith_84 hl (k := 1) rfl (nI_1 _) (by decide) rfl (fun ls hl => ?_)
              refine lv_goto (tgt := 36) hx hb dX5_quarrelWith_87 (by decide) ?_
              exact ih_36 ((i + 1)) (by omega) (by omega) _ _ _ ls hw (lv_sub hl [0, 2, 3, 4, 5, 6] rfl)
            · refine lv_iload hx hb dX5_quarrelWith_81 (lv_at hl 0 rfl) ?_
              subst hQ
              have hI9 := hw.2.1
              have hF9 := hw.2.2.1
              have hS9 := hw.2.2.2
              rw [hf0] at hF9
              exact W.iret (v := r_10) hx hb hr (fun t ht hW => ⟨⟨_, _, rfl, ⟨hI9, hF9⟩, hw.at ht⟩, hS9.F ht⟩) hS9.2.2 dX5_quarrelWith_83
    exact hl_36 _ k2 (Nat.lt_succ_self _) (by omega) _ _ _ ls hw (lv_sub hl [0, 1, 2, 3, 4, 5] rfl)
  · exact (by first | exact absurd h_1 (by decide) | exact absurd (by decide) h_1)

set_option maxHeartbeats 4000000 in
set_option maxRecDepth 100000 in
theorem k_X5_quarrelWith_6 (l : Launch) (dC : Nat → ClassId) (dI : Nat → Nat → Nat) (cI cS cP cA : ClassId) (L : List Nat) (tg : Nat → Nat) (f : Nat → va_E) (hN : L.Nodup) (hT : ∀ a : Nat, a ∈ L → tg a < 13) (hI : PI cI cS cP cA L tg f) (h0 : Nat) (hm_h0 : h0 ∈ L) (ht_h0 : tg h0 = 6) (p0 : Int32) (k2 : Nat) (h_k2 : k2 ≤ 12) (p3 : Int32) : Met l yX5_quarrelWith wsX5_quarrelWith ({ frames := 17, cells := 0, slots := 0, locals := 390 }) (va_Pc [.ref h0, .int p0, .int 6, .int (nI k2), .int p3] (tPre dC dI cI cS cP cA L f)) (va_Qi (fun (r : Int32) (f' : Nat → va_E) => PI cI cS cP cA L tg f' ∧ Fr L tg (fun t => t == 1 || t == 2 || t == 3 || t == 4 || t == 10) f f') (fun (f' : Nat → va_E) t => va_P (dC, dI) vwCl (va_pl L f') t.heap) (fun q : Nat => q ∈ L)) 0 0 (fun q : Nat => q ∈ L) := by
  refine Met.ofW (cc := cX5_quarrelWith) (maxL := 7) (ret := (some .int)) (by decide) rfl ?_
  intro p e s m args below meth c s₁ B hml hv
  obtain ⟨rfl, hP, hK, hcm⟩ := hv
  have hx := B.exec
  have hb := B.bytes
  have hr := B.returns
  have hts := atoms_spec (ws := wsX5_quarrelWith) B.pre
  have hown : s.vm.findClass RX5 = some m.cls := findClass_of_methodNamed B.named
  have hlocks := B.notSynchronized
  have hin_X5 : ∀ w ∈ u_ws RX5 TX5 11, w ∈ wsX5_quarrelWith := by decide +kernel
  have hl := lv_entry ([.ref h0, .int p0, .int 6, .int (nI k2), .int p3]) (n := 7) (Nat.le_of_ble_eq_true rfl)
  rw [lg_entry_eq]
  generalize (lg_sl ([.ref h0, .int p0, .int 6, .int (nI k2), .int p3]) ++ List.replicate (7 - (lg_sl ([.ref h0, .int p0, .int 6, .int (nI k2), .int p3])).length) Slot.unset).toArray = ls at hl ⊢
  have hl : lv_has ls 7 [(0, .ref h0), (1, .int p0), (2, .int 6), (3, .int (nI k2)), (4, .int p3)] := hl
  generalize hQ : MQ below (va_Qi (fun (r : Int32) (f' : Nat → va_E) => PI cI cS cP cA L tg f' ∧ Fr L tg (fun t => t == 1 || t == 2 || t == 3 || t == 4 || t == 10) f f') (fun (f' : Nat → va_E) t => va_P (dC, dI) vwCl (va_pl L f') t.heap) (fun q : Nat => q ∈ L)) [.ref h0, .int p0, .int 6, .int (nI k2), .int p3].toArray s 0 0 (fun q : Nat => q ∈ L) = Q
  obtain ⟨f0, hf0⟩ : ∃ g : Nat → va_E, g = f := ⟨_, rfl⟩
  have hw : PW dC dI cI cS cP cA L tg (fun t => t == 1 || t == 2 || t == 3 || t == 4 || t == 10) f0 s.heap f s.heap [] := by rw [hf0]; exact PW.start hP hI
  clear hP
  refine lv_iload_n hx hb dX5_quarrelWith_0 rfl (lv_at hl 2 rfl) ?_
  refine lv_if_gt (tgt := 33) hx hb dX5_quarrelWith_1 (by decide) (fun h_1 => ?_) (fun h_1 => ?_)
  · refine lv_iload_n hx hb dX5_quarrelWith_33 rfl (lv_at hl 3 rfl) ?_
    refine lv_istore (lv' := [(5, .int (nI k2)), (0, .ref h0), (1, .int p0), (2, .int 6), (3, .int (nI k2)), (4, .int p3)]) hx hb dX5_quarrelWith_34 hl (by decide) rfl (fun ls hl => ?_)
    have hl_36 : ∀ (fu : Nat) (i : Nat), 12 - i < fu → (i ≤ 12) → ∀ (f : Nat → va_E) (H : Heap) (locs : List Loc) (ls : Array Slot), PW dC dI cI cS cP cA L tg (fun t => t == 1 || t == 2 || t == 3 || t == 4 || t == 10) f0 s.heap f H locs → lv_has ls 7 [(5, .int (nI i)), (0, .ref h0), (1, .int p0), (2, .int 6), (3, .int (nI k2)), (4, .int p3)] → W p l e (headSpec wsX5_quarrelWith ({ frames := 17, cells := 0, slots := 0, locals := 390 })).room s m [.ref h0, .int p0, .int 6, .int (nI k2), .int p3].toArray below meth c H locs 0 0 Q (F0 m 36 ls []) := by
      intro fu
      induction fu with
      | zero => intro i hm9; exact absurd hm9 (Nat.not_lt_zero _)
      | succ fu ih_36 =>
        intro i hm_36 h_i f H locs ls hw hl
        refine lv_iload hx hb dX5_quarrelWith_36 (lv_at hl 0 rfl) ?_
        refine lv_aload_n hx hb dX5_quarrelWith_38 rfl (lv_at hl 1 rfl) ?_
        refine tp_get (ci := 4) (C := RX5) (T := TX5) (N := 11) hx hb hts hin_X5 hown hK hw hm_h0 6 ht_h0 (fun _ => rfl) rfl 6 (by decide) rfl (hts (.fieldLink RX5 74 "DayBench" "sayingsMade" "I") (by decide +kernel)) (fun _ h9 => h9) dX5_quarrelWith_39 (fun v_2 hf_3 hv_4 => ?_)
        obtain ⟨k_5, ek_5, hk_k_5⟩ := hv_4
        subst ek_5
        clear hf_3
        refine lv_icmp_ge (tgt := 90) hx hb dX5_quarrelWith_42 (by decide) (fun h_6 => ?_) (fun h_6 => ?_)
        · have nh_6 : k_5 ≤ i := (nI_leI (a := k_5) (b := i) (by omega) (by omega)).mp h_6
          refine lv_iconst (v := 0) hx hb dX5_quarrelWith_90 (by decide) ?_
          subst hQ
          have hI9 := hw.2.1
          have hF9 := hw.2.2.1
          have hS9 := hw.2.2.2
          rw [hf0] at hF9
          exact W.iret (v := 0) hx hb hr (fun t ht hW => ⟨⟨_, _, rfl, ⟨hI9, hF9⟩, hw.at ht⟩, hS9.F ht⟩) hS9.2.2 dX5_quarrelWith_91
        · have nh_6 : ¬ k_5 ≤ i := fun q9 => h_6 ((nI_leI (a := k_5) (b := i) (by omega) (by omega)).mpr q9)
          refine lv_iload hx hb dX5_quarrelWith_45 (lv_at hl 5 rfl) ?_
          refine lv_iload hx hb dX5_quarrelWith_47 (lv_at hl 0 rfl) ?_
          refine lv_ishr hx hb dX5_quarrelWith_49 ?_
          refine lv_iconst (v := 1) hx hb dX5_quarrelWith_50 (by decide) ?_
          refine lv_iand hx hb dX5_quarrelWith_51 ?_
          refine lv_if_eq (tgt := 84) hx hb dX5_quarrelWith_52 (by decide) (fun h_7 => ?_) (fun h_7 => ?_)
          · refine lv_iinc (v := nI (i + 1)) (lv' := [(5, .int (nI (i + 1))), (0, .ref h0), (1, .int p0), (2, .int 6), (3, .int (nI k2)), (4, .int p3)]) hx hb dX5_quarrelWith_84 hl (k := 0) rfl (nI_1 _) (by decide) rfl (fun ls hl => ?_)
            refine lv_goto (tgt := 36) hx hb dX5_quarrelWith_87 (by decide) ?_
            exact ih_36 ((i + 1)) (by omega) (by omega) _ _ _ ls hw (lv_sub hl [0, 1, 2, 3, 4, 5] rfl)
          · refine lv_aload_n hx hb dX5_quarrelWith_55 rfl (lv_at hl 1 rfl) ?_
            refine lv_iload_n hx hb dX5_quarrelWith_56 rfl (lv_at hl 2 rfl) ?_
            refine lv_iconst (v := 1) hx hb dX5_quarrelWith_57 (by decide) ?_
            refine lv_iload hx hb dX5_quarrelWith_58 (lv_at hl 0 rfl) ?_
            refine lv_ishl hx hb dX5_quarrelWith_60 ?_
            refine lv_ior hx hb dX5_quarrelWith_61 ?_
            refine lv_iload_n hx hb dX5_quarrelWith_62 rfl (lv_at hl 3 rfl) ?_
            refine lv_iconst (v := 1) hx hb dX5_quarrelWith_63 (by decide) ?_
            refine lv_isub hx hb dX5_quarrelWith_64 ?_
            refine lv_topi (fun x_8 ex_8 => ?_)
            have ex_8 : x_8 = 5 := ex_8.trans (by decide)
            subst ex_8
            refine lv_iload hx hb dX5_quarrelWith_65 (lv_at hl 0 rfl) ?_
            refine lv_iconst (v := 1) hx hb dX5_quarrelWith_67 (by decide) ?_
            refine lv_iadd hx hb dX5_quarrelWith_68 ?_
            refine lv_topi (fun x_9 ex_9 => ?_)
            have ex_9 : x_9 = nI (i + 1) := ex_9.trans (nI_1 _)
            subst ex_9
            refine lv_iload hx hb dX5_quarrelWith_69 (lv_at hl 5 rfl) ?_
            refine va_calli (va_runV (As := [.int (p0 ||| (1 <<< ((nI i) &&& 31))), .int 5, .int (nI (i + 1)), .int p3]) (rest := []) ⟨hx, hb, hml, hown, hts⟩ (k_X5_quarrelWith_5 l dC dI cI cS cP cA L tg f hN hT hw.2.1 h0 hm_h0 ht_h0 (p0 ||| (1 <<< ((nI i) &&& 31))) ((i + 1)) (by first | omega | decide) p3) (cwV 4 hts gX5_quarrelWith_X5_quarrelWith rfl rfl rfl (by decide +kernel) ⟨Nat.le_of_ble_eq_true rfl, Nat.le_of_ble_eq_true rfl⟩) ⟨tPre_blind, tp_recv hK hw hm_h0 6 ht_h0 (ci := 4) (fun _ => rfl) rfl, fun U hU hW => ⟨rfl, tPre_at hw hK hcm hU hW⟩⟩ rfl rfl hl.1 rfl (lv_room (Nat.le_of_ble_eq_true rfl)) dX5_quarrelWith_71 ⟨Nat.le_of_ble_eq_true rfl, Nat.le_of_ble_eq_true rfl⟩) hw.2.2.2 (fun q _ h => h) (fun q h => h) (fun r_10 f t H locs ht hvm hp hB hz1 hk1 hS1 => ?_)
            obtain ⟨hI1, hF1⟩ := hp
            have hw := hw.back (S' := (fun t => t == 1 || t == 2 || t == 3 || t == 4 || t == 10)) (by decide) hT hI1 hF1 hB ht hS1
            clear hI1 hF1 hB ht hz1 hk1 hS1 hvm
            refine lv_istore (lv' := [(6, .int r_10), (5, .int (nI i)), (0, .ref h0), (1, .int p0), (2, .int 6), (3, .int (nI k2)), (4, .int p3)]) hx hb dX5_quarrelWith_74 hl (by decide) rfl (fun ls hl => ?_)
            refine lv_iload hx hb dX5_quarrelWith_76 (lv_at hl 0 rfl) ?_
            refine lv_if_eq (tgt := 84) hx hb dX5_quarrelWith_78 (by decide) (fun h_11 => ?_) (fun h_11 => ?_)
            · refine lv_iinc (v := nI (i + 1)) (lv' := [(5, .int (nI (i + 1))), (6, .int r_10), (0, .ref h0), (1, .int p0), (2, .int 6), (3, .int (nI k2)), (4, .int p3)]) hx hb dX5_quarrelWith_84 hl (k := 1) rfl (nI_1 _) (by decide) rfl (fun ls hl => ?_)
              refine lv_goto (tgt := 36) hx hb dX5_quarrelWith_87 (by decide) ?_
              exact ih_36 ((i + 1)) (by omega) (by omega) _ _ _ ls hw (lv_sub hl [0, 2, 3, 4, 5, 6] rfl)
            · refine lv_iload hx hb dX5_quarrelWith_81 (lv_at hl 0 rfl) ?_
              subst hQ
              have hI9 := hw.2.1
              have hF9 := hw.2.2.1
              have hS9 := hw.2.2.2
              rw [hf0] at hF9
              exact W.iret (v := r_10) hx hb hr (fun t ht hW => ⟨⟨_, _, rfl, ⟨hI9, hF9⟩, hw.at ht⟩, hS9.F ht⟩) hS9.2.2 dX5_quarrelWith_83
    exact hl_36 _ k2 (Nat.lt_succ_self _) (by omega) _ _ _ ls hw (lv_sub hl [0, 1, 2, 3, 4, 5] rfl)
  · exact (by first | exact absurd h_1 (by decide) | exact absurd (by decide) h_1)

set_option maxHeartbeats 4000000 in
set_option maxRecDepth 100000 in
theorem k_X5_quarrelWith_7 (l : Launch) (dC : Nat → ClassId) (dI : Nat → Nat → Nat) (cI cS cP cA : ClassId) (L : List Nat) (tg : Nat → Nat) (f : Nat → va_E) (hN : L.Nodup) (hT : ∀ a : Nat, a ∈ L → tg a < 13) (hI : PI cI cS cP cA L tg f) (h0 : Nat) (hm_h0 : h0 ∈ L) (ht_h0 : tg h0 = 6) (p0 : Int32) (k2 : Nat) (h_k2 : k2 ≤ 12) (p3 : Int32) : Met l yX5_quarrelWith wsX5_quarrelWith ({ frames := 18, cells := 0, slots := 0, locals := 416 }) (va_Pc [.ref h0, .int p0, .int 7, .int (nI k2), .int p3] (tPre dC dI cI cS cP cA L f)) (va_Qi (fun (r : Int32) (f' : Nat → va_E) => PI cI cS cP cA L tg f' ∧ Fr L tg (fun t => t == 1 || t == 2 || t == 3 || t == 4 || t == 10) f f') (fun (f' : Nat → va_E) t => va_P (dC, dI) vwCl (va_pl L f') t.heap) (fun q : Nat => q ∈ L)) 0 0 (fun q : Nat => q ∈ L) := by
  refine Met.ofW (cc := cX5_quarrelWith) (maxL := 7) (ret := (some .int)) (by decide) rfl ?_
  intro p e s m args below meth c s₁ B hml hv
  obtain ⟨rfl, hP, hK, hcm⟩ := hv
  have hx := B.exec
  have hb := B.bytes
  have hr := B.returns
  have hts := atoms_spec (ws := wsX5_quarrelWith) B.pre
  have hown : s.vm.findClass RX5 = some m.cls := findClass_of_methodNamed B.named
  have hlocks := B.notSynchronized
  have hin_X5 : ∀ w ∈ u_ws RX5 TX5 11, w ∈ wsX5_quarrelWith := by decide +kernel
  have hl := lv_entry ([.ref h0, .int p0, .int 7, .int (nI k2), .int p3]) (n := 7) (Nat.le_of_ble_eq_true rfl)
  rw [lg_entry_eq]
  generalize (lg_sl ([.ref h0, .int p0, .int 7, .int (nI k2), .int p3]) ++ List.replicate (7 - (lg_sl ([.ref h0, .int p0, .int 7, .int (nI k2), .int p3])).length) Slot.unset).toArray = ls at hl ⊢
  have hl : lv_has ls 7 [(0, .ref h0), (1, .int p0), (2, .int 7), (3, .int (nI k2)), (4, .int p3)] := hl
  generalize hQ : MQ below (va_Qi (fun (r : Int32) (f' : Nat → va_E) => PI cI cS cP cA L tg f' ∧ Fr L tg (fun t => t == 1 || t == 2 || t == 3 || t == 4 || t == 10) f f') (fun (f' : Nat → va_E) t => va_P (dC, dI) vwCl (va_pl L f') t.heap) (fun q : Nat => q ∈ L)) [.ref h0, .int p0, .int 7, .int (nI k2), .int p3].toArray s 0 0 (fun q : Nat => q ∈ L) = Q
  obtain ⟨f0, hf0⟩ : ∃ g : Nat → va_E, g = f := ⟨_, rfl⟩
  have hw : PW dC dI cI cS cP cA L tg (fun t => t == 1 || t == 2 || t == 3 || t == 4 || t == 10) f0 s.heap f s.heap [] := by rw [hf0]; exact PW.start hP hI
  clear hP
  refine lv_iload_n hx hb dX5_quarrelWith_0 rfl (lv_at hl 2 rfl) ?_
  refine lv_if_gt (tgt := 33) hx hb dX5_quarrelWith_1 (by decide) (fun h_1 => ?_) (fun h_1 => ?_)
  · refine lv_iload_n hx hb dX5_quarrelWith_33 rfl (lv_at hl 3 rfl) ?_
    refine lv_istore (lv' := [(5, .int (nI k2)), (0, .ref h0), (1, .int p0), (2, .int 7), (3, .int (nI k2)), (4, .int p3)]) hx hb dX5_quarrelWith_34 hl (by decide) rfl (fun ls hl => ?_)
    have hl_36 : ∀ (fu : Nat) (i : Nat), 12 - i < fu → (i ≤ 12) → ∀ (f : Nat → va_E) (H : Heap) (locs : List Loc) (ls : Array Slot), PW dC dI cI cS cP cA L tg (fun t => t == 1 || t == 2 || t == 3 || t == 4 || t == 10) f0 s.heap f H locs → lv_has ls 7 [(5, .int (nI i)), (0, .ref h0), (1, .int p0), (2, .int 7), (3, .int (nI k2)), (4, .int p3)] → W p l e (headSpec wsX5_quarrelWith ({ frames := 18, cells := 0, slots := 0, locals := 416 })).room s m [.ref h0, .int p0, .int 7, .int (nI k2), .int p3].toArray below meth c H locs 0 0 Q (F0 m 36 ls []) := by
      intro fu
      induction fu with
      | zero => intro i hm9; exact absurd hm9 (Nat.not_lt_zero _)
      | succ fu ih_36 =>
        intro i hm_36 h_i f H locs ls hw hl
        refine lv_iload hx hb dX5_quarrelWith_36 (lv_at hl 0 rfl) ?_
        refine lv_aload_n hx hb dX5_quarrelWith_38 rfl (lv_at hl 1 rfl) ?_
        refine tp_get (ci := 4) (C := RX5) (T := TX5) (N := 11) hx hb hts hin_X5 hown hK hw hm_h0 6 ht_h0 (fun _ => rfl) rfl 6 (by decide) rfl (hts (.fieldLink RX5 74 "DayBench" "sayingsMade" "I") (by decide +kernel)) (fun _ h9 => h9) dX5_quarrelWith_39 (fun v_2 hf_3 hv_4 => ?_)
        obtain ⟨k_5, ek_5, hk_k_5⟩ := hv_4
        subst ek_5
        clear hf_3
        refine lv_icmp_ge (tgt := 90) hx hb dX5_quarrelWith_42 (by decide) (fun h_6 => ?_) (fun h_6 => ?_)
        · have nh_6 : k_5 ≤ i := (nI_leI (a := k_5) (b := i) (by omega) (by omega)).mp h_6
          refine lv_iconst (v := 0) hx hb dX5_quarrelWith_90 (by decide) ?_
          subst hQ
          have hI9 := hw.2.1
          have hF9 := hw.2.2.1
          have hS9 := hw.2.2.2
          rw [hf0] at hF9
          exact W.iret (v := 0) hx hb hr (fun t ht hW => ⟨⟨_, _, rfl, ⟨hI9, hF9⟩, hw.at ht⟩, hS9.F ht⟩) hS9.2.2 dX5_quarrelWith_91
        · have nh_6 : ¬ k_5 ≤ i := fun q9 => h_6 ((nI_leI (a := k_5) (b := i) (by omega) (by omega)).mpr q9)
          refine lv_iload hx hb dX5_quarrelWith_45 (lv_at hl 5 rfl) ?_
          refine lv_iload hx hb dX5_quarrelWith_47 (lv_at hl 0 rfl) ?_
          refine lv_ishr hx hb dX5_quarrelWith_49 ?_
          refine lv_iconst (v := 1) hx hb dX5_quarrelWith_50 (by decide) ?_
          refine lv_iand hx hb dX5_quarrelWith_51 ?_
          refine lv_if_eq (tgt := 84) hx hb dX5_quarrelWith_52 (by decide) (fun h_7 => ?_) (fun h_7 => ?_)
          · refine lv_iinc (v := nI (i + 1)) (lv' := [(5, .int (nI (i + 1))), (0, .ref h0), (1, .int p0), (2, .int 7), (3, .int (nI k2)), (4, .int p3)]) hx hb dX5_quarrelWith_84 hl (k := 0) rfl (nI_1 _) (by decide) rfl (fun ls hl => ?_)
            refine lv_goto (tgt := 36) hx hb dX5_quarrelWith_87 (by decide) ?_
            exact ih_36 ((i + 1)) (by omega) (by omega) _ _ _ ls hw (lv_sub hl [0, 1, 2, 3, 4, 5] rfl)
          · refine lv_aload_n hx hb dX5_quarrelWith_55 rfl (lv_at hl 1 rfl) ?_
            refine lv_iload_n hx hb dX5_quarrelWith_56 rfl (lv_at hl 2 rfl) ?_
            refine lv_iconst (v := 1) hx hb dX5_quarrelWith_57 (by decide) ?_
            refine lv_iload hx hb dX5_quarrelWith_58 (lv_at hl 0 rfl) ?_
            refine lv_ishl hx hb dX5_quarrelWith_60 ?_
            refine lv_ior hx hb dX5_quarrelWith_61 ?_
            refine lv_iload_n hx hb dX5_quarrelWith_62 rfl (lv_at hl 3 rfl) ?_
            refine lv_iconst (v := 1) hx hb dX5_quarrelWith_63 (by decide) ?_
            refine lv_isub hx hb dX5_quarrelWith_64 ?_
            refine lv_topi (fun x_8 ex_8 => ?_)
            have ex_8 : x_8 = 6 := ex_8.trans (by decide)
            subst ex_8
            refine lv_iload hx hb dX5_quarrelWith_65 (lv_at hl 0 rfl) ?_
            refine lv_iconst (v := 1) hx hb dX5_quarrelWith_67 (by decide) ?_
            refine lv_iadd hx hb dX5_quarrelWith_68 ?_
            refine lv_topi (fun x_9 ex_9 => ?_)
            have ex_9 : x_9 = nI (i + 1) := ex_9.trans (nI_1 _)
            subst ex_9
            refine lv_iload hx hb dX5_quarrelWith_69 (lv_at hl 5 rfl) ?_
            refine va_calli (va_runV (As := [.int (p0 ||| (1 <<< ((nI i) &&& 31))), .int 6, .int (nI (i + 1)), .int p3]) (rest := []) ⟨hx, hb, hml, hown, hts⟩ (k_X5_quarrelWith_6 l dC dI cI cS cP cA L tg f hN hT hw.2.1 h0 hm_h0 ht_h0 (p0 ||| (1 <<< ((nI i) &&& 31))) ((i + 1)) (by first | omega | decide) p3) (cwV 4 hts gX5_quarrelWith_X5_quarrelWith rfl rfl rfl (by decide +kernel) ⟨Nat.le_of_ble_eq_true rfl, Nat.le_of_ble_eq_true rfl⟩) ⟨tPre_blind, tp_recv hK hw hm_h0 6 ht_h0 (ci := 4) (fun _ => rfl) rfl, fun U hU hW => ⟨rfl, tPre_at hw hK hcm hU hW⟩⟩ rfl rfl hl.1 rfl (lv_room (Nat.le_of_ble_eq_true rfl)) dX5_quarrelWith_71 ⟨Nat.le_of_ble_eq_true rfl, Nat.le_of_ble_eq_true rfl⟩) hw.2.2.2 (fun q _ h => h) (fun q h => h) (fun r_10 f t H locs ht hvm hp hB hz1 hk1 hS1 => ?_)
            obtain ⟨hI1, hF1⟩ := hp
            have hw := hw.back (S' := (fun t => t == 1 || t == 2 || t == 3 || t == 4 || t == 10)) (by decide) hT hI1 hF1 hB ht hS1
            clear hI1 hF1 hB ht hz1 hk1 hS1 hvm
            refine lv_istore (lv' := [(6, .int r_10), (5, .int (nI i)), (0, .ref h0), (1, .int p0), (2, .int 7), (3, .int (nI k2)), (4, .int p3)]) hx hb dX5_quarrelWith_74 hl (by decide) rfl (fun ls hl => ?_)
            refine lv_iload hx hb dX5_quarrelWith_76 (lv_at hl 0 rfl) ?_
            refine lv_if_eq (tgt := 84) hx hb dX5_quarrelWith_78 (by decide) (fun h_11 => ?_) (fun h_11 => ?_)
            · refine lv_iinc (v := nI (i + 1)) (lv' := [(5, .int (nI (i + 1))), (6, .int r_10), (0, .ref h0), (1, .int p0), (2, .int 7), (3, .int (nI k2)), (4, .int p3)]) hx hb dX5_quarrelWith_84 hl (k := 1) rfl (nI_1 _) (by decide) rfl (fun ls hl => ?_)
              refine lv_goto (tgt := 36) hx hb dX5_quarrelWith_87 (by decide) ?_
              exact ih_36 ((i + 1)) (by omega) (by omega) _ _ _ ls hw (lv_sub hl [0, 2, 3, 4, 5, 6] rfl)
            · refine lv_iload hx hb dX5_quarrelWith_81 (lv_at hl 0 rfl) ?_
              subst hQ
              have hI9 := hw.2.1
              have hF9 := hw.2.2.1
              have hS9 := hw.2.2.2
              rw [hf0] at hF9
              exact W.iret (v := r_10) hx hb hr (fun t ht hW => ⟨⟨_, _, rfl, ⟨hI9, hF9⟩, hw.at ht⟩, hS9.F ht⟩) hS9.2.2 dX5_quarrelWith_83
    exact hl_36 _ k2 (Nat.lt_succ_self _) (by omega) _ _ _ ls hw (lv_sub hl [0, 1, 2, 3, 4, 5] rfl)
  · exact (by first | exact absurd h_1 (by decide) | exact absurd (by decide) h_1)

