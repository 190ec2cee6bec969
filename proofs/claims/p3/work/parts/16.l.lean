set_option maxHeartbeats 4000000 in
set_option maxRecDepth 100000 in
theorem k_X5_quarrelWith_8 (l : Launch) (dC : Nat → ClassId) (dI : Nat → Nat → Nat) (cI cS cP cA : ClassId) (L : List Nat) (tg : Nat → Nat) (f : Nat → va_E) (hN : L.Nodup) (hT : ∀ a : Nat, a ∈ L → tg a < 13) (hI : PI cI cS cP cA L tg f) (h0 : Nat) (hm_h0 : h0 ∈ L) (ht_h0 : tg h0 = 6) (p0 : Int32) (k2 : Nat) (h_k2 : k2 ≤ 12) (p3 : Int32) : Met l yX5_quarrelWith wsX5_quarrelWith ({ frames := 19, cells := 0, slots := 0, locals := 442 }) (va_Pc [.ref h0, .int p0, .int 8, .int (nI k2), .int p3] (tPre dC dI cI cS cP cA L f)) (va_Qi (fun (r : Int32) (f' : Nat → va_E) => PI cI cS cP cA L tg f' ∧ Fr L tg (fun t => t == 1 || t == 2 || t == 3 || t == 4 || t == 10) f f') (fun (f' : Nat → va_E) t => va_P (dC, dI) vwCl (va_pl L f') t.heap) (fun q : Nat => q ∈ L)) 0 0 (fun q : Nat => q ∈ L) := by
  refine Met.ofW (cc := cX5_quarrelWith) (maxL := 7) (ret := (some .int)) (by decide) rfl ?_
  intro p e s m args below meth c s₁ B hml hv
  obtain ⟨rfl, hP, hK, hcm⟩ := hv
  have hx := B.exec
  have hb := B.bytes
  have hr := B.returns
  have hts := atoms_spec (ws := wsX5_quarrelWith) B.pre
  have hown : s.vm.findClass RX5 = some m.cls := findClass_of_methodNamed B.named
  have hlocks := B.notSynchronized
  have hin_X5 : ∀ w ∈ u_ws RX5 TX5 11, w ∈ wsX5_quarrelWith := by decide +kernel
  have hl := lv_entry ([.ref h0, .int p0, .int 8, .int (nI k2), .int p3]) (n := 7) (Nat.le_of_ble_eq_true rfl)
  rw [lg_entry_eq]
  generalize (lg_sl ([.ref h0, .int p0, .int 8, .int (nI k2), .int p3]) ++ List.replicate (7 - (lg_sl ([.ref h0, .int p0, .int 8, .int (nI k2), .int p3])).length) Slot.unset).toArray = ls at hl ⊢
  have hl : lv_has ls 7 [(0, .ref h0), (1, .int p0), (2, .int 8), (3, .int (nI k2)), (4, .int p3)] := hl
  generalize hQ : MQ below (va_Qi (fun (r : Int32) (f' : Nat → va_E) => PI cI cS cP cA L tg f' ∧ Fr L tg (fun t => t == 1 || t == 2 || t == 3 || t == 4 || t == 10) f f') (fun (f' : Nat → va_E) t => va_P (dC, dI) vwCl (va_pl L f') t.heap) (fun q : Nat => q ∈ L)) [.ref h0, .int p0, .int 8, .int (nI k2), .int p3].toArray s 0 0 (fun q : Nat => q ∈ L) = Q
  obtain ⟨f0, hf0⟩ : ∃ g : Nat → va_E, g = f := ⟨_, rfl⟩
  have hw : PW dC dI cI cS cP cA L tg (fun t => t == 1 || t == 2 || t == 3 || t == 4 || t == 10) f0 s.heap f s.heap [] := by rw [hf0]; exact PW.start hP hI
  clear hP
  refine lv_iload_n hx hb dX5_quarrelWith_0 rfl (lv_at hl 2 rfl) ?_
  refine lv_if_gt (tgt := 33) hx hb dX5_quarrelWith_1 (by decide) (fun h_1 => ?_) (fun h_1 => ?_)
  · refine lv_iload_n hx hb dX5_quarrelWith_33 rfl (lv_at hl 3 rfl) ?_
    refine lv_istore (lv' := [(5, .int (nI k2)), (0, .ref h0), (1, .int p0), (2, .int 8), (3, .int (nI k2)), (4, .int p3)]) hx hb dX5_quarrelWith_34 hl (by decide) rfl (fun ls hl => ?_)
    have hl_36 : ∀ (fu : Nat) (i : Nat), 12 - i < fu → (i ≤ 12) → ∀ (f : Nat → va_E) (H : Heap) (locs : List Loc) (ls : Array Slot), PW dC dI cI cS cP cA L tg (fun t => t == 1 || t == 2 || t == 3 || t == 4 || t == 10) f0 s.heap f H locs → lv_has ls 7 [(5, .int (nI i)), (0, .ref h0), (1, .int p0), (2, .int 8), (3, .int (nI k2)), (4, .int p3)] → W p l e (headSpec wsX5_quarrelWith ({ frames := 19, cells := 0, slots := 0, locals := 442 })).room s m [.ref h0, .int p0, .int 8, .int (nI k2), .int p3].toArray below meth c H locs 0 0 Q (F0 m 36 ls []) := by
      intro fu
      induction fu with
      | zero => intro i hm9; exact absurd hm9 (Nat.not_lt_zero _)
      | succ fu ih_36 =>
        intro i hm_36 h_i f H locs ls hw hl
        refine lv_iload hx hb dX5_quarrelWith_36 (lv_at hl 0 rfl) ?_
        refine lv_aload_n hx hb dX5_quarrelWith_38 rfl (lv_at hl 1 rfl) ?_
        refine tp_get (ci := 4) (C := RX5) (T := TX5) (N := 11) hx hb hts hin_X5 hown hK hw hm_h0 6 ht_h0 (fun _ => rfl) rfl 6 (by decide) rfl (hts (.fieldLink RX5 74 "DayBench" "sayingsMade" "I") (by decide +kernel)) (fun _ h9 => h9) dX5_quarrelWith_39 (fun v_2 hf_3 hv_4 => ?_)
        obtain ⟨k_5, ek_5, hk_k_5⟩ := hv_4
        subst ek_5
        clear hf_3
        refine lv_icmp_ge (tgt := 90) hx hb dX5_quarrelWith_42 (by decide) (fun h_6 => ?_) (fun h_6 => ?_)
        · have nh_6 : k_5 ≤ i := (nI_leI (a := k_5) (b := i) (by omega) (by omega)).mp h_6
          refine lv_iconst (v := 0) hx hb dX5_quarrelWith_90 (by decide) ?_
          subst hQ
          have hI9 := hw.2.1
          have hF9 := hw.2.2.1
          have hS9 := hw.2.2.2
          rw [hf0] at hF9
          exact W.iret (v := 0) hx hb hr (fun t ht hW => ⟨⟨_, _, rfl, ⟨hI9, hF9⟩, hw.at ht⟩, hS9.F ht⟩) hS9.2.2 dX5_quarrelWith_91
        · have nh_6 : ¬ k_5 ≤ i := fun q9 => h_6 ((nI_leI (a := k_5) (b := i) (by omega) (by omega)).mpr q9)
          refine lv_iload hx hb dX5_quarrelWith_45 (lv_at hl 5 rfl) ?_
          refine lv_iload hx hb dX5_quarrelWith_47 (lv_at hl 0 rfl) ?_
          refine lv_ishr hx hb dX5_quarrelWith_49 ?_
          refine lv_iconst (v := 1) hx hb dX5_quarrelWith_50 (by decide) ?_
          refine lv_iand hx hb dX5_quarrelWith_51 ?_
          refine lv_if_eq (tgt := 84) hx hb dX5_quarrelWith_52 (by decide) (fun h_7 => ?_) (fun h_7 => ?_)
          · refine lv_iinc (v := nI (i + 1)) (lv' := [(5, .int (nI (i + 1))), (0, .ref h0), (1, .int p0), (2, .int 8), (3, .int (nI k2)), (4, .int p3)]) hx hb dX5_quarrelWith_84 hl (k := 0) rfl (nI_1 _) (by decide) rfl (fun ls hl => ?_)
            refine lv_goto (tgt := 36) hx hb dX5_quarrelWith_87 (by decide) ?_
            exact ih_36 ((i + 1)) (by omega) (by omega) _ _ _ ls hw (lv_sub hl [0, 1, 2, 3, 4, 5] rfl)
          · refine lv_aload_n hx hb dX5_quarrelWith_55 rfl (lv_at hl 1 rfl) ?_
            refine lv_iload_n hx hb dX5_quarrelWith_56 rfl (lv_at hl 2 rfl) ?_
            refine lv_iconst (v := 1) hx hb dX5_quarrelWith_57 (by decide) ?_
            refine lv_iload hx hb dX5_quarrelWith_58 (lv_at hl 0 rfl) ?_
            refine lv_ishl hx hb dX5_quarrelWith_60 ?_
            refine lv_ior hx hb dX5_quarrelWith_61 ?_
            refine lv_iload_n hx hb dX5_quarrelWith_62 rfl (lv_at hl 3 rfl) ?_
            refine lv_iconst (v := 1) hx hb dX5_quarrelWith_63 (by decide) ?_
            refine lv_isub hx hb dX5_quarrelWith_64 ?_
            refine lv_topi (fun x_8 ex_8 => ?_)
            have ex_8 : x_8 = 7 := ex_8.trans (by decide)
            subst ex_8
            refine lv_iload hx hb dX5_quarrelWith_65 (lv_at hl 0 rfl) ?_
            refine lv_iconst (v := 1) hx hb dX5_quarrelWith_67 (by decide) ?_
            refine lv_iadd hx hb dX5_quarrelWith_68 ?_
            refine lv_topi (fun x_9 ex_9 => ?_)
            have ex_9 : x_9 = nI (i + 1) := ex_9.trans (nI_1 _)
            subst ex_9
            refine lv_iload hx hb dX5_quarrelWith_69 (lv_at hl 5 rfl) ?_
            refine va_calli (va_runV (As := [.int (p0 ||| (1 <<< ((nI i) &&& 31))), .int 7, .int (nI (i + 1)), .int p3]) (rest := []) ⟨hx, hb, hml, hown, hts⟩ (k_X5_quarrelWith_7 l dC dI cI cS cP cA L tg f hN hT hw.2.1 h0 hm_h0 ht_h0 (p0 ||| (1 <<< ((nI i) &&& 31))) ((i + 1)) (by first | omega | decide) p3) (cwV 4 hts gX5_quarrelWith_X5_quarrelWith rfl rfl rfl (by decide +kernel) ⟨Nat.le_of_ble_eq_true rfl, Nat.le_of_ble_eq_true rfl⟩) ⟨tPre_blind, tp_recv hK hw hm_h0 6 ht_h0 (ci := 4) (fun _ => rfl) rfl, fun U hU hW => ⟨rfl, tPre_at hw hK hcm hU hW⟩⟩ rfl rfl hl.1 rfl (lv_room (Nat.le_of_ble_eq_true rfl)) dX5_quarrelWith_71 ⟨Nat.le_of_ble_eq_true rfl, Nat.le_of_ble_eq_true rfl⟩) hw.2.2.2 (fun q _ h => h) (fun q h => h) (fun r_10 f t H locs ht hvm hp hB hz1 hk1 hS1 => ?_)
            obtain ⟨hI1, hF1⟩ := hp
            have hw := hw.back (S' := (fun t => t == 1 || t == 2 || t == 3 || t == 4 || t == 10)) (by decide) hT hI1 hF1 hB ht hS1
            clear hI1 hF1 hB ht hz1 hk1 hS1 hvm
            refine lv_istore (lv' := [(6, .int r_10), (5, .int (nI i)), (0, .ref h0), (1, .int p0), (2, .int 8), (3, .int (nI k2)), (4, .int p3)]) hx hb dX5_quarrelWith_74 hl (by decide) rfl (fun ls hl => ?_)
            refine lv_iload hx hb dX5_quarrelWith_76 (lv_at hl 0 rfl) ?_
            refine lv_if_eq (tgt := 84) hx hb dX5_quarrelWith_78 (by decide) (fun h_11 => ?_) (fun h_11 => ?_)
            · refine lv_iinc (v := nI (i + 1)) (lv' := [(5, .int (nI (i + 1))), (6, .int r_10), (0, .ref h0), (1, .int p0), (2, .int 8), (3, .int (nI k2)), (4, .int p3)]) hx hb dX5_quarrelWith_84 hl (k := 1) rfl (nI_1 _) (by decide) rfl (fun ls hl => ?_)
              refine lv_goto (tgt := 36) hx hb dX5_quarrelWith_87 (by decide) ?_
              exact ih_36 ((i + 1)) (by omega) (by omega) _ _ _ ls hw (lv_sub hl [0, 2, 3, 4, 5, 6] rfl)
            · refine lv_iload hx hb dX5_quarrelWith_81 (lv_at hl 0 rfl) ?_
              subst hQ
              have hI9 := hw.2.1
              have hF9 := hw.2.2.1
              have hS9 := hw.2.2.2
              rw [hf0] at hF9
              exact W.iret (v := r_10) hx hb hr (fun t ht hW => ⟨⟨_, _, rfl, ⟨hI9, hF9⟩, hw.at ht⟩, hS9.F ht⟩) hS9.2.2 dX5_quarrelWith_83
    exact hl_36 _ k2 (Nat.lt_succ_self _) (by omega) _ _ _ ls hw (lv_sub hl [0, 1, 2, 3, 4, 5] rfl)
  · exact (by first | exact absurd h_1 (by decide) | exact absurd (by decide) h_1)

set_option maxHeartbeats 4000000 in
set_option maxRecDepth 100000 in
theorem k_X5_quarrelWith_9 (l : Launch) (dC : Nat → ClassId) (dI : Nat → Nat → Nat) (cI cS cP cA : ClassId) (L : List Nat) (tg : Nat → Nat) (f : Nat → va_E) (hN : L.Nodup) (hT : ∀ a : Nat, a ∈ L → tg a < 13) (hI : PI cI cS cP cA L tg f) (h0 : Nat) (hm_h0 : h0 ∈ L) (ht_h0 : tg h0 = 6) (p0 : Int32) (k2 : Nat) (h_k2 : k2 ≤ 12) (p3 : Int32) : Met l yX5_quarrelWith wsX5_quarrelWith ({ frames := 20, cells := 0, slots := 0, locals := 468 }) (va_Pc [.ref h0, .int p0, .int 9, .int (nI k2), .int p3] (tPre dC dI cI cS cP cA L f)) (va_Qi (fun (r : Int32) (f' : Nat → va_E) => PI cI cS cP cA L tg f' ∧ Fr L tg (fun t => t == 1 || t == 2 || t == 3 || t == 4 || t == 10) f f') (fun (f' : Nat → va_E) t => va_P (dC, dI) vwCl (va_pl L f') t.heap) (fun q : Nat => q ∈ L)) 0 0 (fun q : Nat => q ∈ L) := by
  refine Met.ofW (cc := cX5_quarrelWith) (maxL := 7) (ret := (some .int)) (by decide) rfl ?_
  intro p e s m args below meth c s₁ B hml hv
  obtain ⟨rfl, hP, hK, hcm⟩ := hv
  have hx := B.exec
  have hb := B.bytes
  have hr := B.returns
  have hts := atoms_spec (ws := wsX5_quarrelWith) B.pre
  have hown : s.vm.findClass RX5 = some m.cls := findClass_of_methodNamed B.named
  have hlocks := B.notSynchronized
  have hin_X5 : ∀ w ∈ u_ws RX5 TX5 11, w ∈ wsX5_quarrelWith := by decide +kernel
  have hl := lv_entry ([.ref h0, .int p0, .int 9, .int (nI k2), .int p3]) (n := 7) (Nat.le_of_ble_eq_true rfl)
  rw [lg_entry_eq]
  generalize (lg_sl ([.ref h0, .int p0, .int 9, .int (nI k2), .int p3]) ++ List.replicate (7 - (lg_sl ([.ref h0, .int p0, .int 9, .int (nI k2), .int p3])).length) Slot.unset).toArray = ls at hl ⊢
  have hl : lv_has ls 7 [(0, .ref h0), (1, .int p0), (2, .int 9), (3, .int (nI k2)), (4, .int p3)] := hl
  generalize hQ : MQ below (va_Qi (fun (r : Int32) (f' : Nat → va_E) => PI cI cS cP cA L tg f' ∧ Fr L tg (fun t => t == 1 || t == 2 || t == 3 || t == 4 || t == 10) f f') (fun (f' : Nat → va_E) t => va_P (dC, dI) vwCl (va_pl L f') t.heap) (fun q : Nat => q ∈ L)) [.ref h0, .int p0, .int 9, .int (nI k2), .int p3].toArray s 0 0 (fun q : Nat => q ∈ L) = Q
  obtain ⟨f0, hf0⟩ : ∃ g : Nat → va_E, g = f := ⟨_, rfl⟩
  have hw : PW dC dI cI cS cP cA L tg (fun t => t == 1 || t == 2 || t == 3 || t == 4 || t == 10) f0 s.heap f s.heap [] := by rw [hf0]; exact PW.start hP hI
  clear hP
  refine lv_iload_n hx hb dX5_quarrelWith_0 rfl (lv_at hl 2 rfl) ?_
  refine lv_if_gt (tgt := 33) hx hb dX5_quarrelWith_1 (by decide) (fun h_1 => ?_) (fun h_1 => ?_)
  · refine lv_iload_n hx hb dX5_quarrelWith_33 rfl (lv_at hl 3 rfl) ?_
    refine lv_istore (lv' := [(5, .int (nI k2)), (0, .ref h0), (1, .int p0), (2, .int 9), (3, .int (nI k2)), (4, .int p3)]) hx hb dX5_quarrelWith_34 hl (by decide) rfl (fun ls hl => ?_)
    have hl_36 : ∀ (fu : Nat) (i : Nat), 12 - i < fu → (i ≤ 12) → ∀ (f : Nat → va_E) (H : Heap) (locs : List Loc) (ls : Array Slot), PW dC dI cI cS cP cA L tg (fun t => t == 1 || t == 2 || t == 3 || t == 4 || t == 10) f0 s.heap f H locs → lv_has ls 7 [(5, .int (nI i)), (0, .ref h0), (1, .int p0), (2, .int 9), (3, .int (nI k2)), (4, .int p3)] → W p l e (headSpec wsX5_quarrelWith ({ frames := 20, cells := 0, slots := 0, locals := 468 })).room s m [.ref h0, .int p0, .int 9, .int (nI k2), .int p3].toArray below meth c H locs 0 0 Q (F0 m 36 ls []) := by
      intro fu
      induction fu with
      | zero => intro i hm9; exact absurd hm9 (Nat.not_lt_zero _)
      | succ fu ih_36 =>
        intro i hm_36 h_i f H locs ls hw hl
        refine lv_iload hx hb dX5_quarrelWith_36 (lv_at hl 0 rfl) ?_
        refine lv_aload_n hx hb dX5_quarrelWith_38 rfl (lv_at hl 1 rfl) ?_
        refine tp_get (ci := 4) (C := RX5) (T := TX5) (N := 11) hx hb hts hin_X5 hown hK hw hm_h0 6 ht_h0 (fun _ => rfl) rfl 6 (by decide) rfl (hts (.fieldLink RX5 74 "DayBench" "sayingsMade" "I") (by decide +kernel)) (fun _ h9 => h9) dX5_quarrelWith_39 (fun v_2 hf_3 hv_4 => ?_)
        obtain ⟨k_5, ek_5, hk_k_5⟩ := hv_4
        subst ek_5
        clear hf_3
        refine lv_icmp_ge (tgt := 90) hx hb dX5_quarrelWith_42 (by decide) (fun h_6 => ?_) (fun h_6 => ?_)
        · have nh_6 : k_5 ≤ i := (nI_leI (a := k_5) (b := i) (by omega) (by omega)).mp h_6
          refine lv_iconst (v := 0) hx hb dX5_quarrelWith_90 (by decide) ?_
          subst hQ
          have hI9 := hw.2.1
          have hF9 := hw.2.2.1
          have hS9 := hw.2.2.2
          rw [hf0] at hF9
          exact W.iret (v := 0) hx hb hr (fun t ht hW => ⟨⟨_, _, rfl, ⟨hI9, hF9⟩, hw.at ht⟩, hS9.F ht⟩) hS9.2.2 dX5_quarrelWith_91
        · have nh_6 : ¬ k_5 ≤ i := fun q9 => h_6 ((nI_leI (a := k_5) (b := i) (by omega) (by omega)).mpr q9)
          refine lv_iload hx hb dX5_quarrelWith_45 (lv_at hl 5 rfl) ?_
          refine lv_iload hx hb dX5_quarrelWith_47 (lv_at hl 0 rfl) ?_
          refine lv_ishr hx hb dX5_quarrelWith_49 ?_
          refine lv_iconst (v := 1) hx hb dX5_quarrelWith_50 (by decide) ?_
          refine lv_iand hx hb dX5_quarrelWith_51 ?_
          refine lv_if_eq (tgt := 84) hx hb dX5_quarrelWith_52 (by decide) (fun h_7 => ?_) (fun h_7 => ?_)
          · refine lv_iinc (v := nI (i + 1)) (lv' := [(5, .int (nI (i + 1))), (0, .ref h0), (1, .int p0), (2, .int 9), (3, .int (nI k2)), (4, .int p3)]) hx hb dX5_quarrelWith_84 hl (k := 0) rfl (nI_1 _) (by decide) rfl (fun ls hl => ?_)
            refine lv_goto (tgt := 36) hx hb dX5_quarrelWith_87 (by decide) ?_
            exact ih_36 ((i + 1)) (by omega) (by omega) _ _ _ ls hw (lv_sub hl [0, 1, 2, 3, 4, 5] rfl)
          · refine lv_aload_n hx hb dX5_quarrelWith_55 rfl (lv_at hl 1 rfl) ?_
            refine lv_iload_n hx hb dX5_quarrelWith_56 rfl (lv_at hl 2 rfl) ?_
            refine lv_iconst (v := 1) hx hb dX5_quarrelWith_57 (by decide) ?_
            refine lv_iload hx hb dX5_quarrelWith_58 (lv_at hl 0 rfl) ?_
            refine lv_ishl hx hb dX5_quarrelWith_60 ?_
            refine lv_ior hx hb dX5_quarrelWith_61 ?_
            refine lv_iload_n hx hb dX5_quarrelWith_62 rfl (lv_at hl 3 rfl) ?_
            refine lv_iconst (v := 1) hx hb dX5_quarrelWith_63 (by decide) ?_
            refine lv_isub hx hb dX5_quarrelWith_64 ?_
            refine lv_topi (fun x_8 ex_8 => ?_)
            have ex_8 : x_8 = 8 := ex_8.trans (by decide)
            subst ex_8
            refine lv_iload hx hb dX5_quarrelWith_65 (lv_at hl 0 rfl) ?_
            refine lv_iconst (v := 1) hx hb dX5_quarrelWith_67 (by decide) ?_
            refine lv_iadd hx hb dX5_quarrelWith_68 ?_
            refine lv_topi (fun x_9 ex_9 => ?_)
            have ex_9 : x_9 = nI (i + 1) := ex_9.trans (nI_1 _)
            subst ex_9
            refine lv_iload hx hb dX5_quarrelWith_69 (lv_at hl 5 rfl) ?_
            refine va_calli (va_runV (As := [.int (p0 ||| (1 <<< ((nI i) &&& 31))), .int 8, .int (nI (i + 1)), .int p3]) (rest := []) ⟨hx, hb, hml, hown, hts⟩ (k_X5_quarrelWith_8 l dC dI cI cS cP cA L tg f hN hT hw.2.1 h0 hm_h0 ht_h0 (p0 ||| (1 <<< ((nI i) &&& 31))) ((i + 1)) (by first | omega | decide) p3) (cwV 4 hts gX5_quarrelWith_X5_quarrelWith rfl rfl rfl (by decide +kernel) ⟨Nat.le_of_ble_eq_true rfl, Nat.le_of_ble_eq_true rfl⟩) ⟨tPre_blind, tp_recv hK hw hm_h0 6 ht_h0 (ci := 4) (fun _ => rfl) rfl, fun U hU hW => ⟨rfl, tPre_at hw hK hcm hU hW⟩⟩ rfl rfl hl.1 rfl (lv_room (Nat.le_of_ble_eq_true rfl)) dX5_quarrelWith_71 ⟨Nat.le_of_ble_eq_true rfl, Nat.le_of_ble_eq_true rfl⟩) hw.2.2.2 (fun q _ h => h) (fun q h => h) (fun r_10 f t H locs ht hvm hp hB hz1 hk1 hS1 => ?_)
            obtain ⟨hI1, hF1⟩ := hp
            have hw := hw.back (S' := (fun t => t == 1 || t == 2 || t == 3 || t == 4 || t == 10)) (by decide) hT hI1 hF1 hB ht hS1
            clear hI1 hF1 hB ht hz1 hk1 hS1 hvm
            refine lv_istore (lv' := [(6, .int r_10), (5, .int (nI i)), (0, .ref h0), (1, .int p0), (2, .int 9), (3, .int (nI k2)), (4, .int p3)]) hx hb dX5_quarrelWith_74 hl (by decide) rfl (fun ls hl => ?_)
            refine lv_iload hx hb dX5_quarrelWith_76 (lv_at hl 0 rfl) ?_
            refine lv_if_eq (tgt := 84) hx hb dX5_quarrelWith_78 (by decide) (fun h_11 => ?_) (fun h_11 => ?_)
            · refine lv_iinc (v := nI (i + 1)) (lv' := [(5, .int (nI (i + 1))), (6, .int r_10), (0, .ref h0), (1, .int p0), (2, .int 9), (3, .int (nI k2)), (4, .int p3)]) hx hb dX5_quarrelWith_84 hl (k := 1) rfl (nI_1 _) (by decide) rfl (fun ls hl => ?_)
              refine lv_goto (tgt := 36) hx hb dX5_quarrelWith_87 (by decide) ?_
              exact ih_36 ((i + 1)) (by omega) (by omega) _ _ _ ls hw (lv_sub hl [0, 2, 3, 4, 5, 6] rfl)
            · refine lv_iload hx hb dX5_quarrelWith_81 (lv_at hl 0 rfl) ?_
              subst hQ
              have hI9 := hw.2.1
              have hF9 := hw.2.2.1
              have hS9 := hw.2.2.2
              rw [hf0] at hF9
              exact W.iret (v := r_10) hx hb hr (fun t ht hW => ⟨⟨_, _, rfl, ⟨hI9, hF9⟩, hw.at ht⟩, hS9.F ht⟩) hS9.2.2 dX5_quarrelWith_83
    exact hl_36 _ k2 (Nat.lt_succ_self _) (by omega) _ _ _ ls hw (lv_sub hl [0, 1, 2, 3, 4, 5] rfl)
  · exact (by first | exact absurd h_1 (by decide) | exact absurd (by decide) h_1)

set_option maxHeartbeats 4000000 in
set_option maxRecDepth 100000 in
theorem k_X5_quarrelWith_10 (l : Launch) (dC : Nat → ClassId) (dI : Nat → Nat → Nat) (cI cS cP cA : ClassId) (L : List Nat) (tg : Nat → Nat) (f : Nat → va_E) (hN : L.Nodup) (hT : ∀ a : Nat, a ∈ L → tg a < 13) (hI : PI cI cS cP cA L tg f) (h0 : Nat) (hm_h0 : h0 ∈ L) (ht_h0 : tg h0 = 6) (p0 : Int32) (k2 : Nat) (h_k2 : k2 ≤ 12) (p3 : Int32) : Met l yX5_quarrelWith wsX5_quarrelWith ({ frames := 21, cells := 0, slots := 0, locals := 494 }) (va_Pc [.ref h0, .int p0, .int 10, .int (nI k2), .int p3] (tPre dC dI cI cS cP cA L f)) (va_Qi (fun (r : Int32) (f' : Nat → va_E) => PI cI cS cP cA L tg f' ∧ Fr L tg (fun t => t == 1 || t == 2 || t == 3 || t == 4 || t == 10) f f') (fun (f' : Nat → va_E) t => va_P (dC, dI) vwCl (va_pl L f') t.heap) (fun q : Nat => q ∈ L)) 0 0 (fun q : Nat => q ∈ L) := by
  refine Met.ofW (cc := cX5_quarrelWith) (maxL := 7) (ret := (some .int)) (by decide) rfl ?_
  intro p e s m args below meth c s₁ B hml hv
  obtain ⟨rfl, hP, hK, hcm⟩ := hv
  have hx := B.exec
  have hb := B.bytes
  have hr := B.returns
  have hts := atoms_spec (ws := wsX5_quarrelWith) B.pre
  have hown : s.vm.findClass RX5 = some m.cls := findClass_of_methodNamed B.named
  have hlocks := B.notSynchronized
  have hin_X5 : ∀ w ∈ u_ws RX5 TX5 11, w ∈ wsX5_quarrelWith := by decide +kernel
  have hl := lv_entry ([.ref h0, .int p0, .int 10, .int (nI k2), .int p3]) (n := 7) (Nat.le_of_ble_eq_true rfl)
  rw [lg_entry_eq]
  generalize (lg_sl ([.ref h0, .int p0, .int 10, .int (nI k2), .int p3]) ++ List.replicate (7 - (lg_sl ([.ref h0, .int p0, .int 10, .int (nI k2), .int p3])).length) Slot.unset).toArray = ls at hl ⊢
  have hl : lv_has ls 7 [(0, .ref h0), (1, .int p0), (2, .int 10), (3, .int (nI k2)), (4, .int p3)] := hl
  generalize hQ : MQ below (va_Qi (fun (r : Int32) (f' : Nat → va_E) => PI cI cS cP cA L tg f' ∧ Fr L tg (fun t => t == 1 || t == 2 || t == 3 || t == 4 || t == 10) f f') (fun (f' : Nat → va_E) t => va_P (dC, dI) vwCl (va_pl L f') t.heap) (fun q : Nat => q ∈ L)) [.ref h0, .int p0, .int 10, .int (nI k2), .int p3].toArray s 0 0 (fun q : Nat => q ∈ L) = Q
  obtain ⟨f0, hf0⟩ : ∃ g : Nat → va_E, g = f := ⟨_, rfl⟩
  have hw : PW dC dI cI cS cP cA L tg (fun t => t == 1 || t == 2 || t == 3 || t == 4 || t == 10) f0 s.heap f s.heap [] := by rw [hf0]; exact PW.start hP hI
  clear hP
  refine lv_iload_n hx hb dX5_quarrelWith_0 rfl (lv_at hl 2 rfl) ?_
  refine lv_if_gt (tgt := 33) hx hb dX5_quarrelWith_1 (by decide) (fun h_1 => ?_) (fun h_1 => ?_)
  · refine lv_iload_n hx hb dX5_quarrelWith_33 rfl (lv_at hl 3 rfl) ?_
    refine lv_istore (lv' := [(5, .int (nI k2)), (0, .ref h0), (1, .int p0), (2, .int 10), (3, .int (nI k2)), (4, .int p3)]) hx hb dX5_quarrelWith_34 hl (by decide) rfl (fun ls hl => ?_)
    have hl_36 : ∀ (fu : Nat) (i : Nat), 12 - i < fu → (i ≤ 12) → ∀ (f : Nat → va_E) (H : Heap) (locs : List Loc) (ls : Array Slot), PW dC dI cI cS cP cA L tg (fun t => t == 1 || t == 2 || t == 3 || t == 4 || t == 10) f0 s.heap f H locs → lv_has ls 7 [(5, .int (nI i)), (0, .ref h0), (1, .int p0), (2, .int 10), (3, .int (nI k2)), (4, .int p3)] → W p l e (headSpec wsX5_quarrelWith ({ frames := 21, cells := 0, slots := 0, locals := 494 })).room s m [.ref h0, .int p0, .int 10, .int (nI k2), .int p3].toArray below meth c H locs 0 0 Q (F0 m 36 ls []) := by
      intro fu
      induction fu with
      | zero => intro i hm9; exact absurd hm9 (Nat.not_lt_zero _)
      | succ fu ih_36 =>
        intro i hm_36 h_i f H locs ls hw hl
        refine lv_iload hx hb dX5_quarrelWith_36 (lv_at hl 0 rfl) ?_
        refine lv_aload_n hx hb dX5_quarrelWith_38 rfl (lv_at hl 1 rfl) ?_
        refine tp_get (ci := 4) (C := RX5) (T := TX5) (N := 11) hx hb hts hin_X5 hown hK hw hm_h0 6 ht_h0 (fun _ => rfl) rfl 6 (by decide) rfl (hts (.fieldLink RX5 74 "DayBench" "sayingsMade" "I") (by decide +kernel)) (fun _ h9 => h9) dX5_quarrelWith_39 (fun v_2 hf_3 hv_4 => ?_)
        obtain ⟨k_5, ek_5, hk_k_5⟩ := hv_4
        subst ek_5
        clear hf_3
        refine lv_icmp_ge (tgt := 90) hx hb dX5_quarrelWith_42 (by decide) (fun h_6 => ?_) (fun h_6 => ?_)
        · have nh_6 : k_5 ≤ i := (nI_leI (a := k_5) (b := i) (by omega) (by omega)).mp h_6
          refine lv_iconst (v := 0) hx hb dX5_quarrelWith_90 (by decide) ?_
          subst hQ
          have hI9 := hw.2.1
          have hF9 := hw.2.2.1
          have hS9 := hw.2.2.2
          rw [hf0] at hF9
          exact W.iret (v := 0) hx hb hr (fun t ht hW => ⟨⟨_, _, rfl, ⟨hI9, hF9⟩, hw.at ht⟩, hS9.F ht⟩) hS9.2.2 dX5_quarrelWith_91
        · have nh_6 : ¬ k_5 ≤ i := fun q9 => h_6 ((nI_leI (a := k_5) (b := i) (by omega) (by omega)).mpr q9)
          refine lv_iload hx hb dX5_quarrelWith_45 (lv_at hl 5 rfl) ?_
          refine lv_iload hx hb dX5_quarrelWith_47 (lv_at hl 0 rfl) ?_
          refine lv_ishr hx hb dX5_quarrelWith_49 ?_
          refine lv_iconst (v := 1) hx hb dX5_quarrelWith_50 (by decide) ?_
          refine lv_iand hx hb dX5_quarrelWith_51 ?_
          refine lv_if_eq (tgt := 84) hx hb dX5_quarrelWith_52 (by decide) (fun h_7 => ?_) (fun h_7 => ?_)
          · refine lv_iinc (v := nI (i + 1)) (lv' := [(5, .int (nI (i + 1))), (0, .ref h0), (1, .int p0), (2, .int 10), (3, .int (nI k2)), (4, .int p3)]) hx hb dX5_quarrelWith_84 hl (k := 0) rfl (nI_1 _) (by decide) rfl (fun ls hl => ?_)
            refine lv_goto (tgt := 36) hx hb dX5_quarrelWith_87 (by decide) ?_
            exact ih_36 ((i + 1)) (by omega) (by omega) _ _ _ ls hw (lv_sub hl [0, 1, 2, 3, 4, 5] rfl)
          · refine lv_aload_n hx hb dX5_quarrelWith_55 rfl (lv_at hl 1 rfl) ?_
            refine lv_iload_n hx hb dX5_quarrelWith_56 rfl (lv_at hl 2 rfl) ?_
            refine lv_iconst (v := 1) hx hb dX5_quarrelWith_57 (by decide) ?_
            refine lv_iload hx hb dX5_quarrelWith_58 (lv_at hl 0 rfl) ?_
            refine lv_ishl hx hb dX5_quarrelWith_60 ?_
            refine lv_ior hx hb dX5_quarrelWith_61 ?_
            refine lv_iload_n hx hb dX5_quarrelWith_62 rfl (lv_at hl 3 rfl) ?_
            refine lv_iconst (v := 1) hx hb dX5_quarrelWith_63 (by decide) ?_
            refine lv_isub hx hb dX5_quarrelWith_64 ?_
            refine lv_topi (fun x_8 ex_8 => ?_)
            have ex_8 : x_8 = 9 := ex_8.trans (by decide)
            subst ex_8
            refine lv_iload hx hb dX5_quarrelWith_65 (lv_at hl 0 rfl) ?_
            refine lv_iconst (v := 1) hx hb dX5_quarrelWith_67 (by decide) ?_
            refine lv_iadd hx hb dX5_quarrelWith_68 ?_
            refine lv_topi (fun x_9 ex_9 => ?_)
            have ex_9 : x_9 = nI (i + 1) := ex_9.trans (nI_1 _)
            subst ex_9
            refine lv_iload hx hb dX5_quarrelWith_69 (lv_at hl 5 rfl) ?_
            refine va_calli (va_runV (As := [.int (p0 ||| (1 <<< ((nI i) &&& 31))), .int 9, .int (nI (i + 1)), .int p3]) (rest := []) ⟨hx, hb, hml, hown, hts⟩ (k_X5_quarrelWith_9 l dC dI cI cS cP cA L tg f hN hT hw.2.1 h0 hm_h0 ht_h0 (p0 ||| (1 <<< ((nI i) &&& 31))) ((i + 1)) (by first | omega | decide) p3) (cwV 4 hts gX5_quarrelWith_X5_quarrelWith rfl rfl rfl (by decide +kernel) ⟨Nat.le_of_ble_eq_true rfl, Nat.le_of_ble_eq_true rfl⟩) ⟨tPre_blind, tp_recv hK hw hm_h0 6 ht_h0 (ci := 4) (fun _ => rfl) rfl, fun U hU hW => ⟨rfl, tPre_at hw hK hcm hU hW⟩⟩ rfl rfl hl.1 rfl (lv_room (Nat.le_of_ble_eq_true rfl)) dX5_quarrelWith_71 ⟨Nat.le_of_ble_eq_true rfl, Nat.le_of_ble_eq_true rfl⟩) hw.2.2.2 (fun q _ h => h) (fun q h => h) (fun r_10 f t H locs ht hvm hp hB hz1 hk1 hS1 => ?_)
            obtain ⟨hI1, hF1⟩ := hp
            have hw := hw.back (S' := (fun t => t == 1 || t == 2 || t == 3 || t == 4 || t == 10)) (by decide) hT hI1 hF1 hB ht hS1
            clear hI1 hF1 hB ht hz1 hk1 hS1 hvm
            refine lv_istore (lv' := [(6, .int r_10), (5, .int (nI i)), (0, .ref h0), (1, .int p0), (2, .int 10), (3, .int (nI k2)), (4, .int p3)]) hx hb dX5_quarrelWith_74 hl (by decide) rfl (fun ls hl => ?_)
            refine lv_iload hx hb dX5_quarrelWith_76 (lv_at hl 0 rfl) ?_
            refine lv_if_eq (tgt := 84) hx hb dX5_quarrelWith_78 (by decide) (fun h_11 => ?_) (fun h_11 => ?_)
            · refine lv_iinc (v := nI (i + 1)) (lv' := [(5, .int (nI (i + 1))), (6, .int r_10), (0, .ref h0), (1, .int p0), (2, .int 10), (3, .int (nI k2)), (4, .int p3)]) hx hb dX5_quarrelWith_84 hl (k := 1) rfl (nI_1 _) (by decide) rfl (fun ls hl => ?_)
              refine lv_goto (tgt := 36) hx hb dX5_quarrelWith_87 (by decide) ?_
              exact ih_36 ((i + 1)) (by omega) (by omega) _ _ _ ls hw (lv_sub hl [0, 2, 3, 4, 5, 6] rfl)
            · refine lv_iload hx hb dX5_quarrelWith_81 (lv_at hl 0 rfl) ?_
              subst hQ
              have hI9 := hw.2.1
              have hF9 := hw.2.2.1
              have hS9 := hw.2.2.2
              rw [hf0] at hF9
              exact W.iret (v := r_10) hx hb hr (fun t ht hW => ⟨⟨_, _, rfl, ⟨hI9, hF9⟩, hw.at ht⟩, hS9.F ht⟩) hS9.2.2 dX5_quarrelWith_83
    exact hl_36 _ k2 (Nat.lt_succ_self _) (by omega) _ _ _ ls hw (lv_sub hl [0, 1, 2, 3, 4, 5] rfl)
  · exact (by first | exact absurd h_1 (by decide) | exact absurd (by decide) h_1)

set_option maxHeartbeats 4000000 in
set_option maxRecDepth 100000 in
theorem k_X5_quarrelWith_11 (l : Launch) (dC : Nat → ClassId) (dI : Nat → Nat → Nat) (cI cS cP cA : ClassId) (L : List Nat) (tg : Nat → Nat) (f : Nat → va_E) (hN : L.Nodup) (hT : ∀ a : Nat, a ∈ L → tg a < 13) (hI : PI cI cS cP cA L tg f) (h0 : Nat) (hm_h0 : h0 ∈ L) (ht_h0 : tg h0 = 6) (p0 : Int32) (k2 : Nat) (h_k2 : k2 ≤ 12) (p3 : Int32) : Met l yX5_quarrelWith wsX5_quarrelWith ({ frames := 22, cells := 0, slots := 0, locals := 520 }) (va_Pc [.ref h0, .int p0, .int 11, .int (nI k2), .int p3] (tPre dC dI cI cS cP cA L f)) (va_Qi (fun (r : Int32) (f' : Nat → va_E) => PI cI cS cP cA L tg f' ∧ Fr L tg (fun t => t == 1 || t == 2 || t == 3 || t == 4 || t == 10) f f') (fun (f' : Nat → va_E) t => va_P (dC, dI) vwCl (va_pl L f') t.heap) (fun q : Nat => q ∈ L)) 0 0 (fun q : Nat => q ∈ L) := by
  refine Met.ofW (cc := cX5_quarrelWith) (maxL := 7) (ret := (some .int)) (by decide) rfl ?_
  intro p e s m args below meth c s₁ B hml hv
  obtain ⟨rfl, hP, hK, hcm⟩ := hv
  have hx := B.exec
  have hb := B.bytes
  have hr := B.returns
  have hts := atoms_spec (ws := wsX5_quarrelWith) B.pre
  have hown : s.vm.findClass RX5 = some m.cls := findClass_of_methodNamed B.named
  have hlocks := B.notSynchronized
  have hin_X5 : ∀ w ∈ u_ws RX5 TX5 11, w ∈ wsX5_quarrelWith := by decide +kernel
  have hl := lv_entry ([.ref h0, .int p0, .int 11, .int (nI k2), .int p3]) (n := 7) (Nat.le_of_ble_eq_true rfl)
  rw [lg_entry_eq]
  generalize (lg_sl ([.ref h0, .int p0, .int 11, .int (nI k2), .int p3]) ++ List.replicate (7 - (lg_sl ([.ref h0, .int p0, .int 11, .int (nI k2), .int p3])).length) Slot.unset).toArray = ls at hl ⊢
  have hl : lv_has ls 7 [(0, .ref h0), (1, .int p0), (2, .int 11), (3, .int (nI k2)), (4, .int p3)] := hl
  generalize hQ : MQ below (va_Qi (fun (r : Int32) (f' : Nat → va_E) => PI cI cS cP cA L tg f' ∧ Fr L tg (fun t => t == 1 || t == 2 || t == 3 || t == 4 || t == 10) f f') (fun (f' : Nat → va_E) t => va_P (dC, dI) vwCl (va_pl L f') t.heap) (fun q : Nat => q ∈ L)) [.ref h0, .int p0, .int 11, .int (nI k2), .int p3].toArray s 0 0 (fun q : Nat => q ∈ L) = Q
  obtain ⟨f0, hf0⟩ : ∃ g : Nat → va_E, g = f := ⟨_, rfl⟩
  have hw : PW dC dI cI cS cP cA L tg (fun t => t == 1 || t == 2 || t == 3 || t == 4 || t == 10) f0 s.heap f s.heap [] := by rw [hf0]; exact PW.start hP hI
  clear hP
  refine lv_iload_n hx hb dX5_quarrelWith_0 rfl (lv_at hl 2 rfl) ?_
  refine lv_if_gt (tgt := 33) hx hb dX5_quarrelWith_1 (by decide) (fun h_1 => ?_) (fun h_1 => ?_)
  · refine lv_iload_n hx hb dX5_quarrelWith_33 rfl (lv_at hl 3 rfl) ?_
    refine lv_istore (lv' := [(5, .int (nI k2)), (0, .ref h0), (1, .int p0), (2, .int 11), (3, .int (nI k2)), (4, .int p3)]) hx hb dX5_quarrelWith_34 hl (by decide) rfl (fun ls hl => ?_)
    have hl_36 : ∀ (fu : Nat) (i : Nat), 12 - i < fu → (i ≤ 12) → ∀ (f : Nat → va_E) (H : Heap) (locs : List Loc) (ls : Array Slot), PW dC dI cI cS cP cA L tg (fun t => t == 1 || t == 2 || t == 3 || t == 4 || t == 10) f0 s.heap f H locs → lv_has ls 7 [(5, .int (nI i)), (0, .ref h0), (1, .int p0), (2, .int 11), (3, .int (nI k2)), (4, .int p3)] → W p l e (headSpec wsX5_quarrelWith ({ frames := 22, cells := 0, slots := 0, locals := 520 })).room s m [.ref h0, .int p0, .int 11, .int (nI k2), .int p3].toArray below meth c H locs 0 0 Q (F0 m 36 ls []) := by
      intro fu
      induction fu with
      | zero => intro i hm9; exact absurd hm9 (Nat.not_lt_zero _)
      | succ fu ih_36 =>
        intro i hm_36 h_i f H locs ls hw hl
        refine lv_iload hx hb dX5_quarrelWith_36 (lv_at hl 0 rfl) ?_
        refine lv_aload_n hx hb dX5_quarrelWith_38 rfl (lv_at hl 1 rfl) ?_
        refine tp_get (ci := 4) (C := RX5) (T := TX5) (N := 11) hx hb hts hin_X5 hown hK hw hm_h0 6 ht_h0 (fun _ => rfl) rfl 6 (by decide) rfl (hts (.fieldLink RX5 74 "DayBench" "sayingsMade" "I") (by decide +kernel)) (fun _ h9 => h9) dX5_quarrelWith_39 (fun v_2 hf_3 hv_4 => ?_)
        obtain ⟨k_5, ek_5, hk_k_5⟩ := hv_4
        subst ek_5
        clear hf_3
        refine lv_icmp_ge (tgt := 90) hx hb dX5_quarrelWith_42 (by decide) (fun h_6 => ?_) (fun h_6 => ?_)
        · have nh_6 : k_5 ≤ i := (nI_leI (a := k_5) (b := i) (by omega) (by omega)).mp h_6
          refine lv_iconst (v := 0) hx hb dX5_quarrelWith_90 (by decide) ?_
          subst hQ
          have hI9 := hw.2.1
          have hF9 := hw.2.2.1
          have hS9 := hw.2.2.2
          rw [hf0] at hF9
          exact W.iret (v := 0) hx hb hr (fun t ht hW => ⟨⟨_, _, rfl, ⟨hI9, hF9⟩, hw.at ht⟩, hS9.F ht⟩) hS9.2.2 dX5_quarrelWith_91
        · have nh_6 : ¬ k_5 ≤ i := fun q9 => h_6 ((nI_leI (a := k_5) (b := i) (by omega) (by omega)).mpr q9)
          refine lv_iload hx hb dX5_quarrelWith_45 (lv_at hl 5 rfl) ?_
          refine lv_iload hx hb dX5_quarrelWith_47 (lv_at hl 0 rfl) ?_
          refine lv_ishr hx hb dX5_quarrelWith_49 ?_
          refine lv_iconst (v := 1) hx hb dX5_quarrelWith_50 (by decide) ?_
          refine lv_iand hx hb dX5_quarrelWith_51 ?_
          refine lv_if_eq (tgt := 84) hx hb dX5_quarrelWith_52 (by decide) (fun h_7 => ?_) (fun h_7 => ?_)
          · refine lv_iinc (v := nI (i + 1)) (lv' := [(5, .int (nI (i + 1))), (0, .ref h0), (1, .int p0), (2, .int 11), (3, .int (nI k2)), (4, .int p3)]) hx hb dX5_quarrelWith_84 hl (k := 0) rfl (nI_1 _) (by decide) rfl (fun ls hl => ?_)
            refine lv_goto (tgt := 36) hx hb dX5_quarrelWith_87 (by decide) ?_
            exact ih_36 ((i + 1)) (by omega) (by omega) _ _ _ ls hw (lv_sub hl [0, 1, 2, 3, 4, 5] rfl)
          · refine lv_aload_n hx hb dX5_quarrelWith_55 rfl (lv_at hl 1 rfl) ?_
            refine lv_iload_n hx hb dX5_quarrelWith_56 rfl (lv_at hl 2 rfl) ?_
            refine lv_iconst (v := 1) hx hb dX5_quarrelWith_57 (by decide) ?_
            refine lv_iload hx hb dX5_quarrelWith_58 (lv_at hl 0 rfl) ?_
            refine lv_ishl hx hb dX5_quarrelWith_60 ?_
            refine lv_ior hx hb dX5_quarrelWith_61 ?_
            refine lv_iload_n hx hb dX5_quarrelWith_62 rfl (lv_at hl 3 rfl) ?_
            refine lv_iconst (v := 1) hx hb dX5_quarrelWith_63 (by decide) ?_
            refine lv_isub hx hb dX5_quarrelWith_64 ?_
            refine lv_topi (fun x_8 ex_8 => ?_)
            have ex_8 : x_8 = 10 := ex_8.trans (by decide)
            subst ex_8
            refine lv_iload hx hb dX5_quarrelWith_65 (lv_at hl 0 rfl) ?_
            refine lv_iconst (v := 1) hx hb dX5_quarrelWith_67 (by decide) ?_
            refine lv_iadd hx hb dX5_quarrelWith_68 ?_
            refine lv_topi (fun x_9 ex_9 => ?_)
            have ex_9 : x_9 = nI (i + 1) := ex_9.trans (nI_1 _)
            subst ex_9
            refine lv_iload hx hb dX5_quarrelWith_69 (lv_at hl 5 rfl) ?_
            refine va_calli (va_runV (As := [.int (p0 ||| (1 <<< ((nI i) &&& 31))), .int 10, .int (nI (i + 1)), .int p3]) (rest := []) ⟨hx, hb, hml, hown, hts⟩ (k_X5_quarrelWith_10 l dC dI cI cS cP cA L tg f hN hT hw.2.1 h0 hm_h0 ht_h0 (p0 ||| (1 <<< ((nI i) &&& 31))) ((i + 1)) (by first | omega | decide) p3) (cwV 4 hts gX5_quarrelWith_X5_quarrelWith rfl rfl rfl (by decide +kernel) ⟨Nat.le_of_ble_eq_true rfl, Nat.le_of_ble_eq_true rfl⟩) ⟨tPre_blind, tp_recv hK hw hm_h0 6 ht_h0 (ci := 4) (fun _ => rfl) rfl, fun U hU hW => ⟨rfl, tPre_at hw hK hcm hU hW⟩⟩ rfl rfl hl.1 rfl (lv_room (Nat.le_of_ble_eq_true rfl)) dX5_quarrelWith_71 ⟨Nat.le_of_ble_eq_true rfl, Nat.le_of_ble_eq_true rfl⟩) hw.2.2.2 (fun q _ h => h) (fun q h => h) (fun r_10 f t H locs ht hvm hp hB hz1 hk1 hS1 => ?_)
            obtain ⟨hI1, hF1⟩ := hp
            have hw := hw.back (S' := (fun t => t == 1 || t == 2 || t == 3 || t == 4 || t == 10)) (by decide) hT hI1 hF1 hB ht hS1
            clear hI1 hF1 hB ht hz1 hk1 hS1 hvm
            refine lv_istore (lv' := [(6, .int r_10), (5, .int (nI i)), (0, .ref h0), (1, .int p0), (2, .int 11), (3, .int (nI k2)), (4, .int p3)]) hx hb dX5_quarrelWith_74 hl (by decide) rfl (fun ls hl => ?_)
            refine lv_iload hx hb dX5_quarrelWith_76 (lv_at hl 0 rfl) ?_
            refine lv_if_eq (tgt := 84) hx hb dX5_quarrelWith_78 (by decide) (fun h_11 => ?_) (fun h_11 => ?_)
            · refine lv_iinc (v := nI (i + 1)) (lv' := [(5, .int (nI (i + 1))), (6, .int r_10), (0, .ref h0), (1, .int p0), (2, .int 11), (3, .int (nI k2)), (4, .int p3)]) hx hb dX5_quarrelWith_84 hl (k := 1) rfl (nI_1 _) (by decide) rfl (fun ls hl => ?_)
              refine lv_goto (tgt := 36) hx hb dX5_quarrelWith_87 (by decide) ?_
              exact ih_36 ((i + 1)) (by omega) (by omega) _ _ _ ls hw (lv_sub hl [0, 2, 3, 4, 5, 6] rfl)
            · refine lv_iload hx hb dX5_quarrelWith_81 (lv_at hl 0 rfl) ?_
              subst hQ
              have hI9 := hw.2.1
              have hF9 := hw.2.2.1
              have hS9 := hw.2.2.2
              rw [hf0] at hF9
              exact W.iret (v := r_10) hx hb hr (fun t ht hW => ⟨⟨_, _, rfl, ⟨hI9, hF9⟩, hw.at ht⟩, hS9.F ht⟩) hS9.2.2 dX5_quarrelWith_83
    exact hl_36 _ k2 (Nat.lt_succ_self _) (by omega) _ _ _ ls hw (lv_sub hl [0, 1, 2, 3, 4, 5] rfl)
  · exact (by first | exact absurd h_1 (by decide) | exact absurd (by decide) h_1)

set_option maxHeartbeats 4000000 in
set_option maxRecDepth 100000 in
theorem k_X5_quarrelWith_12 (l : Launch) (dC : Nat → ClassId) (dI : Nat → Nat → Nat) (cI cS cP cA : ClassId) (L : List Nat) (tg : Nat → Nat) (f : Nat → va_E) (hN : L.Nodup) (hT : ∀ a : Nat, a ∈ L → tg a < 13) (hI : PI cI cS cP cA L tg f) (h0 : Nat) (hm_h0 : h0 ∈ L) (ht_h0 : tg h0 = 6) (p0 : Int32) (k2 : Nat) (h_k2 : k2 ≤ 12) (p3 : Int32) : Met l yX5_quarrelWith wsX5_quarrelWith ({ frames := 23, cells := 0, slots := 0, locals := 546 }) (va_Pc [.ref h0, .int p0, .int 12, .int (nI k2), .int p3] (tPre dC dI cI cS cP cA L f)) (va_Qi (fun (r : Int32) (f' : Nat → va_E) => PI cI cS cP cA L tg f' ∧ Fr L tg (fun t => t == 1 || t == 2 || t == 3 || t == 4 || t == 10) f f') (fun (f' : Nat → va_E) t => va_P (dC, dI) vwCl (va_pl L f') t.heap) (fun q : Nat => q ∈ L)) 0 0 (fun q : Nat => q ∈ L) := by
  refine Met.ofW (cc := cX5_quarrelWith) (maxL := 7) (ret := (some .int)) (by decide) rfl ?_
  intro p e s m args below meth c s₁ B hml hv
  obtain ⟨rfl, hP, hK, hcm⟩ := hv
  have hx := B.exec
  have hb := B.bytes
  have hr := B.returns
  have hts := atoms_spec (ws := wsX5_quarrelWith) B.pre
  have hown : s.vm.findClass RX5 = some m.cls := findClass_of_methodNamed B.named
  have hlocks := B.notSynchronized
  have hin_X5 : ∀ w ∈ u_ws RX5 TX5 11, w ∈ wsX5_quarrelWith := by decide +kernel
  have hl := lv_entry ([.ref h0, .int p0, .int 12, .int (nI k2), .int p3]) (n := 7) (Nat.le_of_ble_eq_true rfl)
  rw [lg_entry_eq]
  generalize (lg_sl ([.ref h0, .int p0, .int 12, .int (nI k2), .int p3]) ++ List.replicate (7 - (lg_sl ([.ref h0, .int p0, .int 12, .int (nI k2), .int p3])).length) Slot.unset).toArray = ls at hl ⊢
  have hl : lv_has ls 7 [(0, .ref h0), (1, .int p0), (2, .int 12), (3, .int (nI k2)), (4, .int p3)] := hl
  generalize hQ : MQ below (va_Qi (fun (r : Int32) (f' : Nat → va_E) => PI cI cS cP cA L tg f' ∧ Fr L tg (fun t => t == 1 || t == 2 || t == 3 || t == 4 || t == 10) f f') (fun (f' : Nat → va_E) t => va_P (dC, dI) vwCl (va_pl L f') t.heap) (fun q : Nat => q ∈ L)) [.ref h0, .int p0, .int 12, .int (nI k2), .int p3].toArray s 0 0 (fun q : Nat => q ∈ L) = Q
  obtain ⟨f0, hf0⟩ : ∃ g : Nat → va_E, g = f := ⟨_, rfl⟩
  have hw : PW dC dI cI cS cP cA L tg (fun t => t == 1 || t == 2 || t == 3 || t == 4 || t == 10) f0 s.heap f s.heap [] := by rw [hf0]; exact PW.start hP hI
  clear hP
  refine lv_iload_n hx hb dX5_quarrelWith_0 rfl (lv_at hl 2 rfl) ?_
  refine lv_if_gt (tgt := 33) hx hb dX5_quarrelWith_1 (by decide) (fun h_1 => ?_) (fun h_1 => ?_)
  · refine lv_iload_n hx hb dX5_quarrelWith_33 rfl (lv_at hl 3 rfl) ?_
    refine lv_istore (lv' := [(5, .int (nI k2)), (0, .ref h0), (1, .int p0), (2, .int 12), (3, .int (nI k2)), (4, .int p3)]) hx hb dX5_quarrelWith_34 hl (by decide) rfl (fun ls hl => ?_)
    have hl_36 : ∀ (fu : Nat) (i : Nat), 12 - i < fu → (i ≤ 12) → ∀ (f : Nat → va_E) (H : Heap) (locs : List Loc) (ls : Array Slot), PW dC dI cI cS cP cA L tg (fun t => t == 1 || t == 2 || t == 3 || t == 4 || t == 10) f0 s.heap f H locs → lv_has ls 7 [(5, .int (nI i)), (0, .ref h0), (1, .int p0), (2, .int 12), (3, .int (nI k2)), (4, .int p3)] → W p l e (headSpec wsX5_quarrelWith ({ frames := 23, cells := 0, slots := 0, locals := 546 })).room s m [.ref h0, .int p0, .int 12, .int (nI k2), .int p3].toArray below meth c H locs 0 0 Q (F0 m 36 ls []) := by
      intro fu
      induction fu with
      | zero => intro i hm9; exact absurd hm9 (Nat.not_lt_zero _)
      | succ fu ih_36 =>
        intro i hm_36 h_i f H locs ls hw hl
        refine lv_iload hx hb dX5_quarrelWith_36 (lv_at hl 0 rfl) ?_
        refine lv_aload_n hx hb dX5_quarrelWith_38 rfl (lv_at hl 1 rfl) ?_
        refine tp_get (ci := 4) (C := RX5) (T := TX5) (N := 11) hx hb hts hin_X5 hown hK hw hm_h0 6 ht_h0 (fun _ => rfl) rfl 6 (by decide) rfl (hts (.fieldLink RX5 74 "DayBench" "sayingsMade" "I") (by decide +kernel)) (fun _ h9 => h9) dX5_quarrelWith_39 (fun v_2 hf_3 hv_4 => ?_)
        obtain ⟨k_5, ek_5, hk_k_5⟩ := hv_4
        subst ek_5
        clear hf_3
        refine lv_icmp_ge (tgt := 90) hx hb dX5_quarrelWith_42 (by decide) (fun h_6 => ?_) (fun h_6 => ?_)
        · have nh_6 : k_5 ≤ i := (nI_leI (a := k_5) (b := i) (by omega) (by omega)).mp h_6
          refine lv_iconst (v := 0) hx hb dX5_quarrelWith_90 (by decide) ?_
          subst hQ
          have hI9 := hw.2.1
          have hF9 := hw.2.2.1
          have hS9 := hw.2.2.2
          rw [hf0] at hF9
          exact W.iret (v := 0) hx hb hr (fun t ht hW => ⟨⟨_, _, rfl, ⟨hI9, hF9⟩, hw.at ht⟩, hS9.F ht⟩) hS9.2.2 dX5_quarrelWith_91
        · have nh_6 : ¬ k_5 ≤ i := fun q9 => h_6 ((nI_leI (a := k_5) (b := i) (by omega) (by omega)).mpr q9)
          refine lv_iload hx hb dX5_quarrelWith_45 (lv_at hl 5 rfl) ?_
          refine lv_iload hx hb dX5_quarrelWith_47 (lv_at hl 0 rfl) ?_
          refine lv_ishr hx hb dX5_quarrelWith_49 ?_
          refine lv_iconst (v := 1) hx hb dX5_quarrelWith_50 (by decide) ?_
          refine lv_iand hx hb dX5_quarrelWith_51 ?_
          refine lv_if_eq (tgt := 84) hx hb dX5_quarrelWith_52 (by decide) (fun h_7 => ?_) (fun h_7 => ?_)
          · refine lv_iinc (v := nI (i + 1)) (lv' := [(5, .int (nI (i + 1))), (0, .ref h0), (1, .int p0), (2, .int 12), (3, .int (nI k2)), (4, .int p3)]) hx hb dX5_quarrelWith_84 hl (k := 0) rfl (nI_1 _) (by decide) rfl (fun ls hl => ?_)
            refine lv_goto (tgt := 36) hx hb dX5_quarrelWith_87 (by decide) ?_
            exact ih_36 ((i + 1)) (by omega) (by omega) _ _ _ ls hw (lv_sub hl [0, 1, 2, 3, 4, 5] rfl)
          · refine lv_aload_n hx hb dX5_quarrelWith_55 rfl (lv_at hl 1 rfl) ?_
            refine lv_iload_n hx hb dX5_quarrelWith_56 rfl (lv_at hl 2 rfl) ?_
            refine lv_iconst (v := 1) hx hb dX5_quarrelWith_57 (by decide) ?_
            refine lv_iload hx hb dX5_quarrelWith_58 (lv_at hl 0 rfl) ?_
            refine lv_ishl hx hb dX5_quarrelWith_60 ?_
            refine lv_ior hx hb dX5_quarrelWith_61 ?_
            refine lv_iload_n hx hb dX5_quarrelWith_62 rfl (lv_at hl 3 rfl) ?_
            refine lv_iconst (v := 1) hx hb dX5_quarrelWith_63 (by decide) ?_
            refine lv_isub hx hb dX5_quarrelWith_64 ?_
            refine lv_topi (fun x_8 ex_8 => ?_)
            have ex_8 : x_8 = 11 := ex_8.trans (by decide)
            subst ex_8
            refine lv_iload hx hb dX5_quarrelWith_65 (lv_at hl 0 rfl) ?_
            refine lv_iconst (v := 1) hx hb dX5_quarrelWith_67 (by decide) ?_
            refine lv_iadd hx hb dX5_quarrelWith_68 ?_
            refine lv_topi (fun x_9 ex_9 => ?_)
            have ex_9 : x_9 = nI (i + 1) := ex_9.trans (nI_1 _)
            subst ex_9
            refine lv_iload hx hb dX5_quarrelWith_69 (lv_at hl 5 rfl) ?_
            refine va_calli (va_runV (As := [.int (p0 ||| (1 <<< ((nI i) &&& 31))), .int 11, .int (nI (i + 1)), .int p3]) (rest := []) ⟨hx, hb, hml, hown, hts⟩ (k_X5_quarrelWith_11 l dC dI cI cS cP cA L tg f hN hT hw.2.1 h0 hm_h0 ht_h0 (p0 ||| (1 <<< ((nI i) &&& 31))) ((i + 1)) (by first | omega | decide) p3) (cwV 4 hts gX5_quarrelWith_X5_quarrelWith rfl rfl rfl (by decide +kernel) ⟨Nat.le_of_ble_eq_true rfl, Nat.le_of_ble_eq_true rfl⟩) ⟨tPre_blind, tp_recv hK hw hm_h0 6 ht_h0 (ci := 4) (fun _ => rfl) rfl, fun U hU hW => ⟨rfl, tPre_at hw hK hcm hU hW⟩⟩ rfl rfl hl.1 rfl (lv_room (Nat.le_of_ble_eq_true rfl)) dX5_quarrelWith_71 ⟨Nat.le_of_ble_eq_true rfl, Nat.le_of_ble_eq_true rfl⟩) hw.2.2.2 (fun q _ h => h) (fun q h => h) (fun r_10 f t H locs ht hvm hp hB hz1 hk1 hS1 => ?_)
            obtain ⟨hI1, hF1⟩ := hp
            have hw := hw.back (S' := (fun t => t == 1 || t == 2 || t == 3 || t == 4 || t == 10)) (by decide) hT hI1 hF1 hB ht hS1
            clear hI1 hF1 hB ht hz1 hk1 hS1 hvm
            refine lv_istore (lv' := [(6, .int r_10), (5, .int (nI i)), (0, .ref h0), (1, .int p0), (2, .int 12), (3, .int (nI k2)), (4, .int p3)]) hx hb dX5_quarrelWith_74 hl (by decide) rfl (fun ls hl => ?_)
            refine lv_iload hx hb dX5_quarrelWith_76 (lv_at hl 0 rfl) ?_
            refine lv_if_eq (tgt := 84) hx hb dX5_quarrelWith_78 (by decide) (fun h_11 => ?_) (fun h_11 => ?_)
            · refine lv_iinc (v := nI (i + 1)) (lv' := [(5, .int (nI (i + 1))), (6, .int r_10), (0, .ref h0), (1, .int p0), (2, .int 12), (3, .int (nI k2)), (4, .int p3)]) hx hb dX5_quarrelWith_84 hl (k := 1) rfl (nI_1 _) (by decide) rfl (fun ls hl => ?_)
              refine lv_goto (tgt := 36) hx hb dX5_quarrelWith_87 (by decide) ?_
              exact ih_36 ((i + 1)) (by omega) (by omega) _ _ _ ls hw (lv_sub hl [0, 2, 3, 4, 5, 6] rfl)
            · refine lv_iload hx hb dX5_quarrelWith_81 (lv_at hl 0 rfl) ?_
              subst hQ
              have hI9 := hw.2.1
              have hF9 := hw.2.2.1
              have hS9 := hw.2.2.2
              rw [hf0] at hF9
              exact W.iret (v := r_10) hx hb hr (fun t ht hW => ⟨⟨_, _, rfl, ⟨hI9, hF9⟩, hw.at ht⟩, hS9.F ht⟩) hS9.2.2 dX5_quarrelWith_83
    exact hl_36 _ k2 (Nat.lt_succ_self _) (by omega) _ _ _ ls hw (lv_sub hl [0, 1, 2, 3, 4, 5] rfl)
  · exact (by first | exact absurd h_1 (by decide) | exact absurd (by decide) h_1)

theorem k_X5_quarrelWith (l : Launch) (dC : Nat → ClassId) (dI : Nat → Nat → Nat) (cI cS cP cA : ClassId) (L : List Nat) (tg : Nat → Nat) (f : Nat → va_E) (hN : L.Nodup) (hT : ∀ a : Nat, a ∈ L → tg a < 13) (hI : PI cI cS cP cA L tg f) (h0 : Nat) (hm_h0 : h0 ∈ L) (ht_h0 : tg h0 = 6) (p0 : Int32) (d : Nat) (h_d : d ≤ 12) (k2 : Nat) (h_k2 : k2 ≤ 12) (p3 : Int32) : Met l yX5_quarrelWith wsX5_quarrelWith ({ frames := 23, cells := 0, slots := 0, locals := 546 }) (va_Pc [.ref h0, .int p0, .int (nI d), .int (nI k2), .int p3] (tPre dC dI cI cS cP cA L f)) (va_Qi (fun (r : Int32) (f' : Nat → va_E) => PI cI cS cP cA L tg f' ∧ Fr L tg (fun t => t == 1 || t == 2 || t == 3 || t == 4 || t == 10) f f') (fun (f' : Nat → va_E) t => va_P (dC, dI) vwCl (va_pl L f') t.heap) (fun q : Nat => q ∈ L)) 0 0 (fun q : Nat => q ∈ L) := by
  match d, h_d with
  | 0, _ => exact met_room (k_X5_quarrelWith_0 l dC dI cI cS cP cA L tg f hN hT hI h0 hm_h0 ht_h0 p0 k2 h_k2 p3) (by decide) (by decide) (by decide) (by decide)
  | 1, _ => exact met_room (k_X5_quarrelWith_1 l dC dI cI cS cP cA L tg f hN hT hI h0 hm_h0 ht_h0 p0 k2 h_k2 p3) (by decide) (by decide) (by decide) (by decide)
  | 2, _ => exact met_room (k_X5_quarrelWith_2 l dC dI cI cS cP cA L tg f hN hT hI h0 hm_h0 ht_h0 p0 k2 h_k2 p3) (by decide) (by decide) (by decide) (by decide)
  | 3, _ => exact met_room (k_X5_quarrelWith_3 l dC dI cI cS cP cA L tg f hN hT hI h0 hm_h0 ht_h0 p0 k2 h_k2 p3) (by decide) (by decide) (by decide) (by decide)
  | 4, _ => exact met_room (k_X5_quarrelWith_4 l dC dI cI cS cP cA L tg f hN hT hI h0 hm_h0 ht_h0 p0 k2 h_k2 p3) (by decide) (by decide) (by decide) (by decide)
  | 5, _ => exact met_room (k_X5_quarrelWith_5 l dC dI cI cS cP cA L tg f hN hT hI h0 hm_h0 ht_h0 p0 k2 h_k2 p3) (by decide) (by decide) (by decide) (by decide)
  | 6, _ => exact met_room (k_X5_quarrelWith_6 l dC dI cI cS cP cA L tg f hN hT hI h0 hm_h0 ht_h0 p0 k2 h_k2 p3) (by decide) (by decide) (by decide) (by decide)
  | 7, _ => exact met_room (k_X5_quarrelWith_7 l dC dI cI cS cP cA L tg f hN hT hI h0 hm_h0 ht_h0 p0 k2 h_k2 p3) (by decide) (by decide) (by decide) (by decide)
  | 8, _ => exact met_room (k_X5_quarrelWith_8 l dC dI cI cS cP cA L tg f hN hT hI h0 hm_h0 ht_h0 p0 k2 h_k2 p3) (by decide) (by decide) (by decide) (by decide)
  | 9, _ => exact met_room (k_X5_quarrelWith_9 l dC dI cI cS cP cA L tg f hN hT hI h0 hm_h0 ht_h0 p0 k2 h_k2 p3) (by decide) (by decide) (by decide) (by decide)
  | 10, _ => exact met_room (k_X5_quarrelWith_10 l dC dI cI cS cP cA L tg f hN hT hI h0 hm_h0 ht_h0 p0 k2 h_k2 p3) (by decide) (by decide) (by decide) (by decide)
  | 11, _ => exact met_room (k_X5_quarrelWith_11 l dC dI cI cS cP cA L tg f hN hT hI h0 hm_h0 ht_h0 p0 k2 h_k2 p3) (by decide) (by decide) (by decide) (by decide)
  | 12, _ => exact met_room (k_X5_quarrelWith_12 l dC dI cI cS cP cA L tg f hN hT hI h0 hm_h0 ht_h0 p0 k2 h_k2 p3) (by decide) (by decide) (by decide) (by decide)
  | (n + 13), h => exact absurd h (by omega)

set_option maxHeartbeats 4000000 in
set_option maxRecDepth 100000 in
theorem k_X5_quarrel (l : Launch) (dC : Nat → ClassId) (dI : Nat → Nat → Nat) (cI cS cP cA : ClassId) (L : List Nat) (tg : Nat → Nat) (f : Nat → va_E) (hN : L.Nodup) (hT : ∀ a : Nat, a ∈ L → tg a < 13) (hI : PI cI cS cP cA L tg f) (h0 : Nat) (hm_h0 : h0 ∈ L) (ht_h0 : tg h0 = 6) : Met l yX5_quarrel wsX5_quarrel ({ frames := 24, cells := 0, slots := 0, locals := 572 }) (va_Pc [.ref h0] (tPre dC dI cI cS cP cA L f)) (va_Qi (fun (r : Int32) (f' : Nat → va_E) => PI cI cS cP cA L tg f' ∧ Fr L tg (fun t => t == 1 || t == 2 || t == 3 || t == 4 || t == 10) f f') (fun (f' : Nat → va_E) t => va_P (dC, dI) vwCl (va_pl L f') t.heap) (fun q : Nat => q ∈ L)) 0 0 (fun q : Nat => q ∈ L) := by
  refine Met.ofW (cc := cX5_quarrel) (maxL := 5) (ret := (some .int)) (by decide) rfl ?_
  intro p e s m args below meth c s₁ B hml hv
  obtain ⟨rfl, hP, hK, hcm⟩ := hv
  have hx := B.exec
  have hb := B.bytes
  have hr := B.returns
  have hts := atoms_spec (ws := wsX5_quarrel) B.pre
  have hown : s.vm.findClass RX5 = some m.cls := findClass_of_methodNamed B.named
  have hlocks := B.notSynchronized
  have hin_X5 : ∀ w ∈ u_ws RX5 TX5 11, w ∈ wsX5_quarrel := by decide +kernel
  have hl := lv_entry ([.ref h0]) (n := 5) (Nat.le_of_ble_eq_true rfl)
  rw [lg_entry_eq]
  generalize (lg_sl ([.ref h0]) ++ List.replicate (5 - (lg_sl ([.ref h0])).length) Slot.unset).toArray = ls at hl ⊢
  have hl : lv_has ls 5 [(0, .ref h0)] := hl
  generalize hQ : MQ below (va_Qi (fun (r : Int32) (f' : Nat → va_E) => PI cI cS cP cA L tg f' ∧ Fr L tg (fun t => t == 1 || t == 2 || t == 3 || t == 4 || t == 10) f f') (fun (f' : Nat → va_E) t => va_P (dC, dI) vwCl (va_pl L f') t.heap) (fun q : Nat => q ∈ L)) [.ref h0].toArray s 0 0 (fun q : Nat => q ∈ L) = Q
  obtain ⟨f0, hf0⟩ : ∃ g : Nat → va_E, g = f := ⟨_, rfl⟩
  have hw : PW dC dI cI cS cP cA L tg (fun t => t == 1 || t == 2 || t == 3 || t == 4 || t == 10) f0 s.heap f s.heap [] := by rw [hf0]; exact PW.start hP hI
  clear hP
  refine lv_aload_n hx hb dX5_quarrel_0 rfl (lv_at hl 0 rfl) ?_
  refine vp_callSi (va_Run.run (va_runV (As := []) (rest := []) ⟨hx, hb, hml, hown, hts⟩ (k_X5_takenSet l dC dI cI cS cP cA L tg f hN hT hw.2.1 h0 hm_h0 ht_h0) (cwV 0 hts gX5_quarrel_X5_takenSet rfl rfl rfl (by decide +kernel) ⟨Nat.le_of_ble_eq_true rfl, Nat.le_of_ble_eq_true rfl⟩) ⟨tPre_blind, tp_recv hK hw hm_h0 6 ht_h0 (ci := 4) (fun _ => rfl) rfl, fun U hU hW => ⟨rfl, tPre_at hw hK hcm hU hW⟩⟩ rfl rfl hl.1 rfl (lv_room (Nat.le_of_ble_eq_true rfl)) dX5_quarrel_1 ⟨Nat.le_of_ble_eq_true rfl, Nat.le_of_ble_eq_true rfl⟩)) (fun r_1 hr_1 => ?_)
  refine lv_istore_n (lv' := [(1, .int r_1), (0, .ref h0)]) hx hb dX5_quarrel_4 rfl hl (by decide) rfl (fun ls hl => ?_)
  refine lv_aload_n hx hb dX5_quarrel_5 rfl (lv_at hl 1 rfl) ?_
  refine tp_get (ci := 4) (C := RX5) (T := TX5) (N := 11) hx hb hts hin_X5 hown hK hw hm_h0 6 ht_h0 (fun _ => rfl) rfl 7 (by decide) rfl (hts (.fieldLink RX5 29 "DayBench" "search" "LDayBench$Search;") (by decide +kernel)) (fun _ h9 => h9) dX5_quarrel_6 (fun v_2 hf_3 hv_4 => ?_)
  obtain ⟨b_5, eb_5, hm_b_5, ht_b_5⟩ := hv_4
  subst eb_5
  refine lv_aload_n hx hb dX5_quarrel_9 rfl (lv_at hl 1 rfl) ?_
  refine tp_get (ci := 4) (C := RX5) (T := TX5) (N := 11) hx hb hts hin_X5 hown hK hw hm_h0 6 ht_h0 (fun _ => rfl) rfl 4 (by decide) rfl (hts (.fieldLink RX5 71 "DayBench" "events" "I") (by decide +kernel)) (fun _ h9 => h9) dX5_quarrel_10 (fun v_6 hf_7 hv_8 => ?_)
  obtain ⟨k_9, ek_9, hk_k_9⟩ := hv_8
  subst ek_9
  clear hf_7
  refine va_callv (va_runV (As := [.int (nI k_9)]) (rest := []) ⟨hx, hb, hml, hown, hts⟩ (k_X2_begin l dC dI cI cS cP cA L tg f hN hT hw.2.1 b_5 hm_b_5 ht_b_5 k_9 (by first | omega | decide)) (cwV 1 hts gX5_quarrel_X2_begin rfl rfl rfl (by decide +kernel) ⟨Nat.le_of_ble_eq_true rfl, Nat.le_of_ble_eq_true rfl⟩) ⟨tPre_blind, tp_recv hK hw hm_b_5 4 ht_b_5 (ci := 1) (fun _ => rfl) rfl, fun U hU hW => ⟨rfl, tPre_at hw hK hcm hU hW⟩⟩ rfl rfl hl.1 rfl (lv_room (Nat.le_of_ble_eq_true rfl)) dX5_quarrel_13 ⟨Nat.le_of_ble_eq_true rfl, Nat.le_of_ble_eq_true rfl⟩) hw.2.2.2 (fun q _ h => h) (fun q h => h) (fun f t H locs ht hvm hp hB hz1 hk1 hS1 => ?_)
  obtain ⟨hI1, hF1⟩ := hp
  have hw := hw.back (S' := (fun t => t == 4)) (by decide) hT hI1 hF1 hB ht hS1
  have hf_3 : fld (f h0) 7 = some (.ref b_5) := by rw [hF1 h0 hm_h0 (by rw [ht_h0]; rfl)]; exact hf_3
  clear hI1 hF1 hB ht hz1 hk1 hS1 hvm
  refine lv_aload_n hx hb dX5_quarrel_16 rfl (lv_at hl 1 rfl) ?_
  refine lv_iload_n hx hb dX5_quarrel_17 rfl (lv_at hl 0 rfl) ?_
  refine va_calli (va_runV (As := [.int r_1]) (rest := []) ⟨hx, hb, hml, hown, hts⟩ (k_X5_askSet l dC dI cI cS cP cA L tg f hN hT hw.2.1 h0 hm_h0 ht_h0 r_1) (cwV 1 hts gX5_quarrel_X5_askSet rfl rfl rfl (by decide +kernel) ⟨Nat.le_of_ble_eq_true rfl, Nat.le_of_ble_eq_true rfl⟩) ⟨tPre_blind, tp_recv hK hw hm_h0 6 ht_h0 (ci := 4) (fun _ => rfl) rfl, fun U hU hW => ⟨rfl, tPre_at hw hK hcm hU hW⟩⟩ rfl rfl hl.1 rfl (lv_room (Nat.le_of_ble_eq_true rfl)) dX5_quarrel_18 ⟨Nat.le_of_ble_eq_true rfl, Nat.le_of_ble_eq_true rfl⟩) hw.2.2.2 (fun q _ h => h) (fun q h => h) (fun r_11 f t H locs ht hvm hp hB hz1 hk1 hS1 => ?_)
  obtain ⟨hI1, hF1⟩ := hp
  have hw := hw.back (S' := (fun t => t == 1 || t == 2 || t == 3 || t == 4 || t == 10)) (by decide) hT hI1 hF1 hB ht hS1
  have hf_3 : fld (f h0) 7 = some (.ref b_5) := by rw [hF1 h0 hm_h0 (by rw [ht_h0]; rfl)]; exact hf_3
  clear hI1 hF1 hB ht hz1 hk1 hS1 hvm
  refine lv_istore_n (lv' := [(2, .int r_11), (1, .int r_1), (0, .ref h0)]) hx hb dX5_quarrel_21 rfl hl (by decide) rfl (fun ls hl => ?_)
  refine lv_iload_n hx hb dX5_quarrel_22 rfl (lv_at hl 0 rfl) ?_
  refine lv_if_eq (tgt := 38) hx hb dX5_quarrel_23 (by decide) (fun h_12 => ?_) (fun h_12 => ?_)
  · refine lv_iconst (v := 1) hx hb dX5_quarrel_38 (by decide) ?_
    refine lv_istore_n (lv' := [(3, .int 1), (2, .int r_11), (1, .int r_1), (0, .ref h0)]) hx hb dX5_quarrel_39 rfl hl (by decide) rfl (fun ls hl => ?_)
    have hl_40 : ∀ (fu : Nat) (sz : Nat), 13 - sz < fu → (sz ≤ 13) → ∀ (f : Nat → va_E) (H : Heap) (locs : List Loc) (ls : Array Slot), PW dC dI cI cS cP cA L tg (fun t => t == 1 || t == 2 || t == 3 || t == 4 || t == 10) f0 s.heap f H locs → lv_has ls 5 [(3, .int (nI sz)), (2, .int r_11), (1, .int r_1), (0, .ref h0)] → W p l e (headSpec wsX5_quarrel ({ frames := 24, cells := 0, slots := 0, locals := 572 })).room s m [.ref h0].toArray below meth c H locs 0 0 Q (F0 m 40 ls []) := by
      intro fu
      induction fu with
      | zero => intro sz hm9; exact absurd hm9 (Nat.not_lt_zero _)
      | succ fu ih_40 =>
        intro sz hm_40 h_sz f H locs ls hw hl
        refine lv_iload_n hx hb dX5_quarrel_40 rfl (lv_at hl 0 rfl) ?_
        refine lv_aload_n hx hb dX5_quarrel_41 rfl (lv_at hl 3 rfl) ?_
        refine tp_get (ci := 4) (C := RX5) (T := TX5) (N := 11) hx hb hts hin_X5 hown hK hw hm_h0 6 ht_h0 (fun _ => rfl) rfl 6 (by decide) rfl (hts (.fieldLink RX5 74 "DayBench" "sayingsMade" "I") (by decide +kernel)) (fun _ h9 => h9) dX5_quarrel_42 (fun v_13 hf_14 hv_15 => ?_)
        obtain ⟨k_16, ek_16, hk_k_16⟩ := hv_15
        subst ek_16
        clear hf_14
        refine lv_icmp_gt (tgt := 72) hx hb dX5_quarrel_45 (by decide) (fun h_17 => ?_) (fun h_17 => ?_)
        · have nh_17 : k_16 < sz := (nI_ltI (a := k_16) (b := sz) (by omega) (by omega)).mp h_17
          refine lv_iconst (v := 0) hx hb dX5_quarrel_72 (by decide) ?_
          subst hQ
          have hI9 := hw.2.1
          have hF9 := hw.2.2.1
          have hS9 := hw.2.2.2
          rw [hf0] at hF9
          exact W.iret (v := 0) hx hb hr (fun t ht hW => ⟨⟨_, _, rfl, ⟨hI9, hF9⟩, hw.at ht⟩, hS9.F ht⟩) hS9.2.2 dX5_quarrel_73
        · have nh_17 : ¬ k_16 < sz := fun q9 => h_17 ((nI_ltI (a := k_16) (b := sz) (by omega) (by omega)).mpr q9)
          refine lv_aload_n hx hb dX5_quarrel_48 rfl (lv_at hl 3 rfl) ?_
          refine lv_iconst (v := 0) hx hb dX5_quarrel_49 (by decide) ?_
          refine lv_iload_n hx hb dX5_quarrel_50 rfl (lv_at hl 0 rfl) ?_
          refine lv_iconst (v := 0) hx hb dX5_quarrel_51 (by decide) ?_
          refine lv_iload_n hx hb dX5_quarrel_52 rfl (lv_at hl 2 rfl) ?_
          refine va_calli (va_runV (As := [.int 0, .int (nI sz), .int 0, .int r_1]) (rest := []) ⟨hx, hb, hml, hown, hts⟩ (k_X5_quarrelWith l dC dI cI cS cP cA L tg f hN hT hw.2.1 h0 hm_h0 ht_h0 0 sz (by first | omega | decide) 0 (by first | omega | decide) r_1) (cwV 4 hts gX5_quarrel_X5_quarrelWith rfl rfl rfl (by decide +kernel) ⟨Nat.le_of_ble_eq_true rfl, Nat.le_of_ble_eq_true rfl⟩) ⟨tPre_blind, tp_recv hK hw hm_h0 6 ht_h0 (ci := 4) (fun _ => rfl) rfl, fun U hU hW => ⟨rfl, tPre_at hw hK hcm hU hW⟩⟩ rfl rfl hl.1 rfl (lv_room (Nat.le_of_ble_eq_true rfl)) dX5_quarrel_53 ⟨Nat.le_of_ble_eq_true rfl, Nat.le_of_ble_eq_true rfl⟩) hw.2.2.2 (fun q _ h => h) (fun q h => h) (fun r_18 f t H locs ht hvm hp hB hz1 hk1 hS1 => ?_)
          obtain ⟨hI1, hF1⟩ := hp
          have hw := hw.back (S' := (fun t => t == 1 || t == 2 || t == 3 || t == 4 || t == 10)) (by decide) hT hI1 hF1 hB ht hS1
          clear hI1 hF1 hB ht hz1 hk1 hS1 hvm
          refine lv_istore (lv' := [(4, .int r_18), (3, .int (nI sz)), (2, .int r_11), (1, .int r_1), (0, .ref h0)]) hx hb dX5_quarrel_56 hl (by decide) rfl (fun ls hl => ?_)
          refine lv_iload hx hb dX5_quarrel_58 (lv_at hl 0 rfl) ?_
          refine lv_if_eq (tgt := 66) hx hb dX5_quarrel_60 (by decide) (fun h_19 => ?_) (fun h_19 => ?_)
          · refine lv_iinc (v := nI (sz + 1)) (lv' := [(3, .int (nI (sz + 1))), (4, .int r_18), (2, .int r_11), (1, .int r_1), (0, .ref h0)]) hx hb dX5_quarrel_66 hl (k := 1) rfl (nI_1 _) (by decide) rfl (fun ls hl => ?_)
            refine lv_goto (tgt := 40) hx hb dX5_quarrel_69 (by decide) ?_
            exact ih_40 ((sz + 1)) (by omega) (by omega) _ _ _ ls hw (lv_sub hl [0, 2, 3, 4] rfl)
          · refine lv_iload hx hb dX5_quarrel_63 (lv_at hl 0 rfl) ?_
            subst hQ
            have hI9 := hw.2.1
            have hF9 := hw.2.2.1
            have hS9 := hw.2.2.2
            rw [hf0] at hF9
            exact W.iret (v := r_18) hx hb hr (fun t ht hW => ⟨⟨_, _, rfl, ⟨hI9, hF9⟩, hw.at ht⟩, hS9.F ht⟩) hS9.2.2 dX5_quarrel_65
    exact hl_40 _ 1 (Nat.lt_succ_self _) (by omega) _ _ _ ls hw (lv_sub hl [0, 1, 2, 3] rfl)
  · refine lv_iload_n hx hb dX5_quarrel_26 rfl (lv_at hl 0 rfl) ?_
    refine lv_iconst (v := 1) hx hb dX5_quarrel_27 (by decide) ?_
    refine lv_icmp_ne (tgt := 35) hx hb dX5_quarrel_28 (by decide) (fun h_20 => ?_) (fun h_20 => ?_)
    · refine lv_bipush (v := (-2)) hx hb dX5_quarrel_35 (by decide) ?_
      subst hQ
      have hI9 := hw.2.1
      have hF9 := hw.2.2.1
      have hS9 := hw.2.2.2
      rw [hf0] at hF9
      exact W.iret (v := (-2)) hx hb hr (fun t ht hW => ⟨⟨_, _, rfl, ⟨hI9, hF9⟩, hw.at ht⟩, hS9.F ht⟩) hS9.2.2 dX5_quarrel_37
    · refine lv_iconst (v := 0) hx hb dX5_quarrel_31 (by decide) ?_
      refine lv_goto (tgt := 37) hx hb dX5_quarrel_32 (by decide) ?_
      subst hQ
      have hI9 := hw.2.1
      have hF9 := hw.2.2.1
      have hS9 := hw.2.2.2
      rw [hf0] at hF9
      exact W.iret (v := 0) hx hb hr (fun t ht hW => ⟨⟨_, _, rfl, ⟨hI9, hF9⟩, hw.at ht⟩, hS9.F ht⟩) hS9.2.2 dX5_quarrel_37

set_option maxHeartbeats 4000000 in
set_option maxRecDepth 100000 in
theorem k_X5_slips (l : Launch) (dC : Nat → ClassId) (dI : Nat → Nat → Nat) (cI cS cP cA : ClassId) (L : List Nat) (tg : Nat → Nat) (f : Nat → va_E) (hN : L.Nodup) (hT : ∀ a : Nat, a ∈ L → tg a < 13) (hI : PI cI cS cP cA L tg f) (h0 : Nat) (hm_h0 : h0 ∈ L) (ht_h0 : tg h0 = 6) : Met l yX5_slips wsX5_slips ({ frames := 11, cells := 0, slots := 0, locals := 234 }) (va_Pc [.ref h0] (tPre dC dI cI cS cP cA L f)) (va_Qi (fun (r : Int32) (f' : Nat → va_E) => PI cI cS cP cA L tg f' ∧ Fr L tg (fun t => t == 1 || t == 2 || t == 3 || t == 4 || t == 5 || t == 7 || t == 8 || t == 10) f f') (fun (f' : Nat → va_E) t => va_P (dC, dI) vwCl (va_pl L f') t.heap) (fun q : Nat => q ∈ L)) 0 0 (fun q : Nat => q ∈ L) := by
  refine Met.ofW (cc := cX5_slips) (maxL := 6) (ret := (some .int)) (by decide) rfl ?_
  intro p e s m args below meth c s₁ B hml hv
  obtain ⟨rfl, hP, hK, hcm⟩ := hv
  have hx := B.exec
  have hb := B.bytes
  have hr := B.returns
  have hts := atoms_spec (ws := wsX5_slips) B.pre
  have hown : s.vm.findClass RX5 = some m.cls := findClass_of_methodNamed B.named
  have hlocks := B.notSynchronized
  have hin_X5 : ∀ w ∈ u_ws RX5 TX5 11, w ∈ wsX5_slips := by decide +kernel
  have hin_X3 : ∀ w ∈ u_ws RX3 TX3 9, w ∈ wsX5_slips := by decide +kernel
  have hl := lv_entry ([.ref h0]) (n := 6) (Nat.le_of_ble_eq_true rfl)
  rw [lg_entry_eq]
  generalize (lg_sl ([.ref h0]) ++ List.replicate (6 - (lg_sl ([.ref h0])).length) Slot.unset).toArray = ls at hl ⊢
  have hl : lv_has ls 6 [(0, .ref h0)] := hl
  generalize hQ : MQ below (va_Qi (fun (r : Int32) (f' : Nat → va_E) => PI cI cS cP cA L tg f' ∧ Fr L tg (fun t => t == 1 || t == 2 || t == 3 || t == 4 || t == 5 || t == 7 || t == 8 || t == 10) f f') (fun (f' : Nat → va_E) t => va_P (dC, dI) vwCl (va_pl L f') t.heap) (fun q : Nat => q ∈ L)) [.ref h0].toArray s 0 0 (fun q : Nat => q ∈ L) = Q
  obtain ⟨f0, hf0⟩ : ∃ g : Nat → va_E, g = f := ⟨_, rfl⟩
  have hw : PW dC dI cI cS cP cA L tg (fun t => t == 1 || t == 2 || t == 3 || t == 4 || t == 5 || t == 7 || t == 8 || t == 10) f0 s.heap f s.heap [] := by rw [hf0]; exact PW.start hP hI
  clear hP
  refine lv_aload_n hx hb dX5_slips_0 rfl (lv_at hl 0 rfl) ?_
  refine vp_callSi (va_Run.run (va_runV (As := []) (rest := []) ⟨hx, hb, hml, hown, hts⟩ (k_X5_takenSet l dC dI cI cS cP cA L tg f hN hT hw.2.1 h0 hm_h0 ht_h0) (cwV 0 hts gX5_slips_X5_takenSet rfl rfl rfl (by decide +kernel) ⟨Nat.le_of_ble_eq_true rfl, Nat.le_of_ble_eq_true rfl⟩) ⟨tPre_blind, tp_recv hK hw hm_h0 6 ht_h0 (ci := 4) (fun _ => rfl) rfl, fun U hU hW => ⟨rfl, tPre_at hw hK hcm hU hW⟩⟩ rfl rfl hl.1 rfl (lv_room (Nat.le_of_ble_eq_true rfl)) dX5_slips_1 ⟨Nat.le_of_ble_eq_true rfl, Nat.le_of_ble_eq_true rfl⟩)) (fun r_1 hr_1 => ?_)
  refine lv_istore_n (lv' := [(1, .int r_1), (0, .ref h0)]) hx hb dX5_slips_4 rfl hl (by decide) rfl (fun ls hl => ?_)
  refine lv_aload_n hx hb dX5_slips_5 rfl (lv_at hl 1 rfl) ?_
  refine tp_get (ci := 4) (C := RX5) (T := TX5) (N := 11) hx hb hts hin_X5 hown hK hw hm_h0 6 ht_h0 (fun _ => rfl) rfl 7 (by decide) rfl (hts (.fieldLink RX5 29 "DayBench" "search" "LDayBench$Search;") (by decide +kernel)) (fun _ h9 => h9) dX5_slips_6 (fun v_2 hf_3 hv_4 => ?_)
  obtain ⟨b_5, eb_5, hm_b_5, ht_b_5⟩ := hv_4
  subst eb_5
  refine lv_aload_n hx hb dX5_slips_9 rfl (lv_at hl 1 rfl) ?_
  refine tp_get (ci := 4) (C := RX5) (T := TX5) (N := 11) hx hb hts hin_X5 hown hK hw hm_h0 6 ht_h0 (fun _ => rfl) rfl 4 (by decide) rfl (hts (.fieldLink RX5 71 "DayBench" "events" "I") (by decide +kernel)) (fun _ h9 => h9) dX5_slips_10 (fun v_6 hf_7 hv_8 => ?_)
  obtain ⟨k_9, ek_9, hk_k_9⟩ := hv_8
  subst ek_9
  clear hf_7
  refine va_callv (va_runV (As := [.int (nI k_9)]) (rest := []) ⟨hx, hb, hml, hown, hts⟩ (k_X2_begin l dC dI cI cS cP cA L tg f hN hT hw.2.1 b_5 hm_b_5 ht_b_5 k_9 (by first | omega | decide)) (cwV 1 hts gX5_slips_X2_begin rfl rfl rfl (by decide +kernel) ⟨Nat.le_of_ble_eq_true rfl, Nat.le_of_ble_eq_true rfl⟩) ⟨tPre_blind, tp_recv hK hw hm_b_5 4 ht_b_5 (ci := 1) (fun _ => rfl) rfl, fun U hU hW => ⟨rfl, tPre_at hw hK hcm hU hW⟩⟩ rfl rfl hl.1 rfl (lv_room (Nat.le_of_ble_eq_true rfl)) dX5_slips_13 ⟨Nat.le_of_ble_eq_true rfl, Nat.le_of_ble_eq_true rfl⟩) hw.2.2.2 (fun q _ h => h) (fun q h => h) (fun f t H locs ht hvm hp hB hz1 hk1 hS1 => ?_)
  obtain ⟨hI1, hF1⟩ := hp
  have hw := hw.back (S' := (fun t => t == 4)) (by decide) hT hI1 hF1 hB ht hS1
  have hf_3 : fld (f h0) 7 = some (.ref b_5) := by rw [hF1 h0 hm_h0 (by rw [ht_h0]; rfl)]; exact hf_3
  clear hI1 hF1 hB ht hz1 hk1 hS1 hvm
  refine lv_aload_n hx hb dX5_slips_16 rfl (lv_at hl 1 rfl) ?_
  refine lv_iload_n hx hb dX5_slips_17 rfl (lv_at hl 0 rfl) ?_
  refine va_callv (va_runV (As := [.int r_1]) (rest := []) ⟨hx, hb, hml, hown, hts⟩ (k_X5_gatherGroups l dC dI cI cS cP cA L tg f hN hT hw.2.1 h0 hm_h0 ht_h0 r_1) (cwV 1 hts gX5_slips_X5_gatherGroups rfl rfl rfl (by decide +kernel) ⟨Nat.le_of_ble_eq_true rfl, Nat.le_of_ble_eq_true rfl⟩) ⟨tPre_blind, tp_recv hK hw hm_h0 6 ht_h0 (ci := 4) (fun _ => rfl) rfl, fun U hU hW => ⟨rfl, tPre_at hw hK hcm hU hW⟩⟩ rfl rfl hl.1 rfl (lv_room (Nat.le_of_ble_eq_true rfl)) dX5_slips_18 ⟨Nat.le_of_ble_eq_true rfl, Nat.le_of_ble_eq_true rfl⟩) hw.2.2.2 (fun q _ h => h) (fun q h => h) (fun f t H locs ht hvm hp hB hz1 hk1 hS1 => ?_)
  obtain ⟨hI1, hF1⟩ := hp
  have hw := hw.back (S' := (fun t => t == 5 || t == 7)) (by decide) hT hI1 hF1 hB ht hS1
  have hf_3 : fld (f h0) 7 = some (.ref b_5) := by rw [hF1 h0 hm_h0 (by rw [ht_h0]; rfl)]; exact hf_3
  clear hI1 hF1 hB ht hz1 hk1 hS1 hvm
  refine lv_iconst (v := 1) hx hb dX5_slips_21 (by decide) ?_
  refine lv_aload_n hx hb dX5_slips_22 rfl (lv_at hl 1 rfl) ?_
  refine tp_get (ci := 4) (C := RX5) (T := TX5) (N := 11) hx hb hts hin_X5 hown hK hw hm_h0 6 ht_h0 (fun _ => rfl) rfl 8 (by decide) rfl (hts (.fieldLink RX5 36 "DayBench" "slipSets" "LDayBench$SlipSets;") (by decide +kernel)) (fun _ h9 => h9) dX5_slips_23 (fun v_12 hf_13 hv_14 => ?_)
  obtain ⟨b_15, eb_15, hm_b_15, ht_b_15⟩ := hv_14
  subst eb_15
  refine tp_get (ci := 2) (C := RX3) (T := TX3) (N := 9) hx hb hts hin_X3 hown hK hw hm_b_15 5 ht_b_15 (fun _ => rfl) rfl 0 (by decide) rfl (hts (.fieldLink RX5 179 "DayBench$SlipSets" "groups" "I") (by decide +kernel)) (fun _ h9 => h9) dX5_slips_26 (fun v_16 hf_17 hv_18 => ?_)
  obtain ⟨k_19, ek_19, hk_k_19⟩ := hv_18
  subst ek_19
  clear hf_17
  refine lv_ishl hx hb dX5_slips_29 ?_
  refine lv_topi (fun x_20 ex_20 => ?_)
  refine lv_istore_n (lv' := [(2, .int x_20), (1, .int r_1), (0, .ref h0)]) hx hb dX5_slips_30 rfl hl (by decide) rfl (fun ls hl => ?_)
  refine lv_iconst (v := 0) hx hb dX5_slips_31 (by decide) ?_
  refine lv_istore_n (lv' := [(3, .int 0), (2, .int x_20), (1, .int r_1), (0, .ref h0)]) hx hb dX5_slips_32 rfl hl (by decide) rfl (fun ls hl => ?_)
  have hl_33 : ∀ (fu : Nat) (st_ : Int32), (x_20.toInt - st_.toInt).toNat < fu → ∀ (f : Nat → va_E) (H : Heap) (locs : List Loc) (ls : Array Slot), PW dC dI cI cS cP cA L tg (fun t => t == 1 || t == 2 || t == 3 || t == 4 || t == 5 || t == 7 || t == 8 || t == 10) f0 s.heap f H locs → lv_has ls 6 [(3, .int st_), (2, .int x_20), (1, .int r_1), (0, .ref h0)] → W p l e (headSpec wsX5_slips ({ frames := 11, cells := 0, slots := 0, locals := 234 })).room s m [.ref h0].toArray below meth c H locs 0 0 Q (F0 m 33 ls []) := by
    intro fu
    induction fu with
    | zero => intro st_ hm9; exact absurd hm9 (Nat.not_lt_zero _)
    | succ fu ih_33 =>
      intro st_ hm_33  f H locs ls hw hl
      refine lv_iload_n hx hb dX5_slips_33 rfl (lv_at hl 0 rfl) ?_
      refine lv_iload_n hx hb dX5_slips_34 rfl (lv_at hl 1 rfl) ?_
      refine lv_icmp_ge (tgt := 117) hx hb dX5_slips_35 (by decide) (fun h_21 => ?_) (fun h_21 => ?_)
      · refine lv_aload_n hx hb dX5_slips_117 rfl (lv_at hl 3 rfl) ?_
        refine tp_get (ci := 4) (C := RX5) (T := TX5) (N := 11) hx hb hts hin_X5 hown hK hw hm_h0 6 ht_h0 (fun _ => rfl) rfl 8 (by decide) rfl (hts (.fieldLink RX5 36 "DayBench" "slipSets" "LDayBench$SlipSets;") (by decide +kernel)) (fun _ h9 => h9) dX5_slips_118 (fun v_22 hf_23 hv_24 => ?_)
        obtain ⟨b_25, eb_25, hm_b_25, ht_b_25⟩ := hv_24
        subst eb_25
        refine va_callv (va_runV (As := []) (rest := []) ⟨hx, hb, hml, hown, hts⟩ (k_X3_tell l dC dI cI cS cP cA L tg f hN hT hw.2.1 b_25 hm_b_25 ht_b_25) (cwV 0 hts gX5_slips_X3_tell rfl rfl rfl (by decide +kernel) ⟨Nat.le_of_ble_eq_true rfl, Nat.le_of_ble_eq_true rfl⟩) ⟨tPre_blind, tp_recv hK hw hm_b_25 5 ht_b_25 (ci := 2) (fun _ => rfl) rfl, fun U hU hW => ⟨rfl, tPre_at hw hK hcm hU hW⟩⟩ rfl rfl hl.1 rfl (lv_room (Nat.le_of_ble_eq_true rfl)) dX5_slips_121 ⟨Nat.le_of_ble_eq_true rfl, Nat.le_of_ble_eq_true rfl⟩) hw.2.2.2 (fun q _ h => h) (fun q h => h) (fun f t H locs ht hvm hp hB hz1 hk1 hS1 => ?_)
        obtain ⟨hI1, hF1⟩ := hp
        have hw := hw.back (S' := (fun t => t == 5 || t == 8)) (by decide) hT hI1 hF1 hB ht hS1
        have hf_23 : fld (f h0) 8 = some (.ref b_25) := by rw [hF1 h0 hm_h0 (by rw [ht_h0]; rfl)]; exact hf_23
        clear hI1 hF1 hB ht hz1 hk1 hS1 hvm
        refine lv_aload_n hx hb dX5_slips_124 rfl (lv_at hl 3 rfl) ?_
        refine tp_getK (ci := 4) (C := RX5) (T := TX5) (N := 11) hx hb hts hin_X5 hown hK hw hm_h0 6 ht_h0 (fun _ => rfl) rfl 8 (by decide) hf_23 (hts (.fieldLink RX5 36 "DayBench" "slipSets" "LDayBench$SlipSets;") (by decide +kernel)) (fun _ h9 => h9) dX5_slips_125 ?_
        refine tp_get (ci := 2) (C := RX3) (T := TX3) (N := 9) hx hb hts hin_X3 hown hK hw hm_b_25 5 ht_b_25 (fun _ => rfl) rfl 1 (by decide) rfl (hts (.fieldLink RX5 200 "DayBench$SlipSets" "least" "I") (by decide +kernel)) (fun _ h9 => h9) dX5_slips_128 (fun v_27 hf_28 hv_29 => ?_)
        obtain ⟨y_30, ey_30⟩ := hv_29
        subst ey_30
        clear hf_28
        subst hQ
        have hI9 := hw.2.1
        have hF9 := hw.2.2.1
        have hS9 := hw.2.2.2
        rw [hf0] at hF9
        exact W.iret (v := y_30) hx hb hr (fun t ht hW => ⟨⟨_, _, rfl, ⟨hI9, hF9⟩, hw.at ht⟩, hS9.F ht⟩) hS9.2.2 dX5_slips_131
      · refine lv_aload_n hx hb dX5_slips_38 rfl (lv_at hl 3 rfl) ?_
        refine tp_get (ci := 4) (C := RX5) (T := TX5) (N := 11) hx hb hts hin_X5 hown hK hw hm_h0 6 ht_h0 (fun _ => rfl) rfl 8 (by decide) rfl (hts (.fieldLink RX5 36 "DayBench" "slipSets" "LDayBench$SlipSets;") (by decide +kernel)) (fun _ h9 => h9) dX5_slips_39 (fun v_31 hf_32 hv_33 => ?_)
        obtain ⟨b_34, eb_34, hm_b_34, ht_b_34⟩ := hv_33
        subst eb_34
        refine lv_iload_n hx hb dX5_slips_42 rfl (lv_at hl 0 rfl) ?_
        refine vp_callSi (va_Run.run (va_runV (As := [.int st_]) (rest := []) ⟨hx, hb, hml, hown, hts⟩ (k_X3_weightOf l dC dI cI cS cP cA L tg f hN hT hw.2.1 b_34 hm_b_34 ht_b_34 st_) (cwV 1 hts gX5_slips_X3_weightOf rfl rfl rfl (by decide +kernel) ⟨Nat.le_of_ble_eq_true rfl, Nat.le_of_ble_eq_true rfl⟩) ⟨tPre_blind, tp_recv hK hw hm_b_34 5 ht_b_34 (ci := 2) (fun _ => rfl) rfl, fun U hU hW => ⟨rfl, tPre_at hw hK hcm hU hW⟩⟩ rfl rfl hl.1 rfl (lv_room (Nat.le_of_ble_eq_true rfl)) dX5_slips_43 ⟨Nat.le_of_ble_eq_true rfl, Nat.le_of_ble_eq_true rfl⟩)) (fun r_35 hr_35 => ?_)
        refine lv_istore (lv' := [(4, .int r_35), (3, .int st_), (2, .int x_20), (1, .int r_1), (0, .ref h0)]) hx hb dX5_slips_46 hl (by decide) rfl (fun ls hl => ?_)
        refine lv_aload_n hx hb dX5_slips_48 rfl (lv_at hl 4 rfl) ?_
        refine tp_getK (ci := 4) (C := RX5) (T := TX5) (N := 11) hx hb hts hin_X5 hown hK hw hm_h0 6 ht_h0 (fun _ => rfl) rfl 8 (by decide) hf_32 (hts (.fieldLink RX5 36 "DayBench" "slipSets" "LDayBench$SlipSets;") (by decide +kernel)) (fun _ h9 => h9) dX5_slips_49 ?_
        refine lv_iload hx hb dX5_slips_52 (lv_at hl 0 rfl) ?_
        refine vp_callSi (va_Run.run (va_runV (As := [.int r_35]) (rest := []) ⟨hx, hb, hml, hown, hts⟩ (k_X3_tooHeavy l dC dI cI cS cP cA L tg f hN hT hw.2.1 b_34 hm_b_34 ht_b_34 r_35) (cwV 1 hts gX5_slips_X3_tooHeavy rfl rfl rfl (by decide +kernel) ⟨Nat.le_of_ble_eq_true rfl, Nat.le_of_ble_eq_true rfl⟩) ⟨tPre_blind, tp_recv hK hw hm_b_34 5 ht_b_34 (ci := 2) (fun _ => rfl) rfl, fun U hU hW => ⟨rfl, tPre_at hw hK hcm hU hW⟩⟩ rfl rfl hl.1 rfl (lv_room (Nat.le_of_ble_eq_true rfl)) dX5_slips_54 ⟨Nat.le_of_ble_eq_true rfl, Nat.le_of_ble_eq_true rfl⟩)) (fun r_36 hr_36 => ?_)
        refine lv_if_ne (tgt := 111) hx hb dX5_slips_57 (by decide) (fun h_37 => ?_) (fun h_37 => ?_)
        · obtain ⟨x_38, ex_38⟩ : ∃ y : Int32, y = st_ + 1 := ⟨_, rfl⟩
          refine lv_iinc (v := x_38) (lv' := [(3, .int x_38), (4, .int r_35), (2, .int x_20), (1, .int r_1), (0, .ref h0)]) hx hb dX5_slips_111 hl (k := 1) rfl (by rw [ex_38]; rfl) (by decide) rfl (fun ls hl => ?_)
          refine lv_goto (tgt := 33) hx hb dX5_slips_114 (by decide) ?_
          exact ih_33 x_38 (Nat.lt_of_lt_of_le (i_falls h_21 ex_38) (Nat.le_of_lt_succ hm_33))  _ _ _ ls hw (lv_sub hl [0, 2, 3, 4] rfl)
        · refine lv_aload_n hx hb dX5_slips_60 rfl (lv_at hl 4 rfl) ?_
          refine lv_iload_n hx hb dX5_slips_61 rfl (lv_at hl 3 rfl) ?_
          refine lv_aload_n hx hb dX5_slips_62 rfl (lv_at hl 4 rfl) ?_
          refine tp_getK (ci := 4) (C := RX5) (T := TX5) (N := 11) hx hb hts hin_X5 hown hK hw hm_h0 6 ht_h0 (fun _ => rfl) rfl 8 (by decide) hf_32 (hts (.fieldLink RX5 36 "DayBench" "slipSets" "LDayBench$SlipSets;") (by decide +kernel)) (fun _ h9 => h9) dX5_slips_63 ?_
          refine lv_iload_n hx hb dX5_slips_66 rfl (lv_at hl 1 rfl) ?_
          refine vp_callSi (va_Run.run (va_runV (As := [.int st_]) (rest := [.int r_1, .ref h0]) ⟨hx, hb, hml, hown, hts⟩ (k_X3_sayingsOf l dC dI cI cS cP cA L tg f hN hT hw.2.1 b_34 hm_b_34 ht_b_34 st_) (cwV 1 hts gX5_slips_X3_sayingsOf rfl rfl rfl (by decide +kernel) ⟨Nat.le_of_ble_eq_true rfl, Nat.le_of_ble_eq_true rfl⟩) ⟨tPre_blind, tp_recv hK hw hm_b_34 5 ht_b_34 (ci := 2) (fun _ => rfl) rfl, fun U hU hW => ⟨rfl, tPre_at hw hK hcm hU hW⟩⟩ rfl rfl hl.1 rfl (lv_room (Nat.le_of_ble_eq_true rfl)) dX5_slips_67 ⟨Nat.le_of_ble_eq_true rfl, Nat.le_of_ble_eq_true rfl⟩)) (fun r_39 hr_39 => ?_)
          refine lv_iconst (v := (-1)) hx hb dX5_slips_70 (by decide) ?_
          refine lv_ixor hx hb dX5_slips_71 ?_
          refine lv_iand hx hb dX5_slips_72 ?_
          refine va_calli (va_runV (As := [.int (r_1 &&& (r_39 ^^^ ((-1))))]) (rest := []) ⟨hx, hb, hml, hown, hts⟩ (k_X5_askSet l dC dI cI cS cP cA L tg f hN hT hw.2.1 h0 hm_h0 ht_h0 (r_1 &&& (r_39 ^^^ ((-1))))) (cwV 1 hts gX5_slips_X5_askSet rfl rfl rfl (by decide +kernel) ⟨Nat.le_of_ble_eq_true rfl, Nat.le_of_ble_eq_true rfl⟩) ⟨tPre_blind, tp_recv hK hw hm_h0 6 ht_h0 (ci := 4) (fun _ => rfl) rfl, fun U hU hW => ⟨rfl, tPre_at hw hK hcm hU hW⟩⟩ rfl rfl hl.1 rfl (lv_room (Nat.le_of_ble_eq_true rfl)) dX5_slips_73 ⟨Nat.le_of_ble_eq_true rfl, Nat.le_of_ble_eq_true rfl⟩) hw.2.2.2 (fun q _ h => h) (fun q h => h) (fun r_40 f t H locs ht hvm hp hB hz1 hk1 hS1 => ?_)
          obtain ⟨hI1, hF1⟩ := hp
          have hw := hw.back (S' := (fun t => t == 1 || t == 2 || t == 3 || t == 4 || t == 10)) (by decide) hT hI1 hF1 hB ht hS1
          have hf_32 : fld (f h0) 8 = some (.ref b_34) := by rw [hF1 h0 hm_h0 (by rw [ht_h0]; rfl)]; exact hf_32
          clear hI1 hF1 hB ht hz1 hk1 hS1 hvm
          refine lv_istore (lv' := [(5, .int r_40), (4, .int r_35), (3, .int st_), (2, .int x_20), (1, .int r_1), (0, .ref h0)]) hx hb dX5_slips_76 hl (by decide) rfl (fun ls hl => ?_)
          refine lv_iload hx hb dX5_slips_78 (lv_at hl 0 rfl) ?_
          refine lv_bipush (v := (-2)) hx hb dX5_slips_80 (by decide) ?_
          refine lv_icmp_ne (tgt := 88) hx hb dX5_slips_82 (by decide) (fun h_41 => ?_) (fun h_41 => ?_)
          · refine lv_iload hx hb dX5_slips_88 (lv_at hl 0 rfl) ?_
            refine lv_iconst (v := 1) hx hb dX5_slips_90 (by decide) ?_
            refine lv_icmp_ne (tgt := 111) hx hb dX5_slips_91 (by decide) (fun h_42 => ?_) (fun h_42 => ?_)
            · obtain ⟨x_43, ex_43⟩ : ∃ y : Int32, y = st_ + 1 := ⟨_, rfl⟩
              refine lv_iinc (v := x_43) (lv' := [(3, .int x_43), (5, .int r_40), (4, .int r_35), (2, .int x_20), (1, .int r_1), (0, .ref h0)]) hx hb dX5_slips_111 hl (k := 2) rfl (by rw [ex_43]; rfl) (by decide) rfl (fun ls hl => ?_)
              refine lv_goto (tgt := 33) hx hb dX5_slips_114 (by decide) ?_
              exact ih_33 x_43 (Nat.lt_of_lt_of_le (i_falls h_21 ex_43) (Nat.le_of_lt_succ hm_33))  _ _ _ ls hw (lv_sub hl [0, 3, 4, 5] rfl)
            · refine lv_aload_n hx hb dX5_slips_94 rfl (lv_at hl 5 rfl) ?_
              refine tp_getK (ci := 4) (C := RX5) (T := TX5) (N := 11) hx hb hts hin_X5 hown hK hw hm_h0 6 ht_h0 (fun _ => rfl) rfl 8 (by decide) hf_32 (hts (.fieldLink RX5 36 "DayBench" "slipSets" "LDayBench$SlipSets;") (by decide +kernel)) (fun _ h9 => h9) dX5_slips_95 ?_
              refine lv_iload hx hb dX5_slips_98 (lv_at hl 1 rfl) ?_
              refine lv_aload_n hx hb dX5_slips_100 rfl (lv_at hl 5 rfl) ?_
              refine tp_getK (ci := 4) (C := RX5) (T := TX5) (N := 11) hx hb hts hin_X5 hown hK hw hm_h0 6 ht_h0 (fun _ => rfl) rfl 8 (by decide) hf_32 (hts (.fieldLink RX5 36 "DayBench" "slipSets" "LDayBench$SlipSets;") (by decide +kernel)) (fun _ h9 => h9) dX5_slips_101 ?_
              refine lv_iload_n hx hb dX5_slips_104 rfl (lv_at hl 2 rfl) ?_
              refine vp_callSi (va_Run.run (va_runV (As := [.int st_]) (rest := [.int r_35, .ref b_34]) ⟨hx, hb, hml, hown, hts⟩ (k_X3_rootsOf l dC dI cI cS cP cA L tg f hN hT hw.2.1 b_34 hm_b_34 ht_b_34 st_) (cwV 1 hts gX5_slips_X3_rootsOf rfl rfl rfl (by decide +kernel) ⟨Nat.le_of_ble_eq_true rfl, Nat.le_of_ble_eq_true rfl⟩) ⟨tPre_blind, tp_recv hK hw hm_b_34 5 ht_b_34 (ci := 2) (fun _ => rfl) rfl, fun U hU hW => ⟨rfl, tPre_at hw hK hcm hU hW⟩⟩ rfl rfl hl.1 rfl (lv_room (Nat.le_of_ble_eq_true rfl)) dX5_slips_105 ⟨Nat.le_of_ble_eq_true rfl, Nat.le_of_ble_eq_true rfl⟩)) (fun r_44 hr_44 => ?_)
              refine va_callv (va_runV (As := [.int r_35, .int r_44]) (rest := []) ⟨hx, hb, hml, hown, hts⟩ (k_X3_note l dC dI cI cS cP cA L tg f hN hT hw.2.1 b_34 hm_b_34 ht_b_34 r_35 r_44) (cwV 2 hts gX5_slips_X3_note rfl rfl rfl (by decide +kernel) ⟨Nat.le_of_ble_eq_true rfl, Nat.le_of_ble_eq_true rfl⟩) ⟨tPre_blind, tp_recv hK hw hm_b_34 5 ht_b_34 (ci := 2) (fun _ => rfl) rfl, fun U hU hW => ⟨rfl, tPre_at hw hK hcm hU hW⟩⟩ rfl rfl hl.1 rfl (lv_room (Nat.le_of_ble_eq_true rfl)) dX5_slips_108 ⟨Nat.le_of_ble_eq_true rfl, Nat.le_of_ble_eq_true rfl⟩) hw.2.2.2 (fun q _ h => h) (fun q h => h) (fun f t H locs ht hvm hp hB hz1 hk1 hS1 => ?_)
              obtain ⟨hI1, hF1⟩ := hp
              have hw := hw.back (S' := (fun t => t == 5 || t == 8)) (by decide) hT hI1 hF1 hB ht hS1
              have hf_32 : fld (f h0) 8 = some (.ref b_34) := by rw [hF1 h0 hm_h0 (by rw [ht_h0]; rfl)]; exact hf_32
              clear hI1 hF1 hB ht hz1 hk1 hS1 hvm
              obtain ⟨x_46, ex_46⟩ : ∃ y : Int32, y = st_ + 1 := ⟨_, rfl⟩
              refine lv_iinc (v := x_46) (lv' := [(3, .int x_46), (5, .int r_40), (4, .int r_35), (2, .int x_20), (1, .int r_1), (0, .ref h0)]) hx hb dX5_slips_111 hl (k := 2) rfl (by rw [ex_46]; rfl) (by decide) rfl (fun ls hl => ?_)
              refine lv_goto (tgt := 33) hx hb dX5_slips_114 (by decide) ?_
              exact ih_33 x_46 (Nat.lt_of_lt_of_le (i_falls h_21 ex_46) (Nat.le_of_lt_succ hm_33))  _ _ _ ls hw (lv_sub hl [0, 3, 4, 5] rfl)
          · refine lv_bipush (v := (-2)) hx hb dX5_slips_85 (by decide) ?_
            subst hQ
            have hI9 := hw.2.1
            have hF9 := hw.2.2.1
            have hS9 := hw.2.2.2
            rw [hf0] at hF9
            exact W.iret (v := (-2)) hx hb hr (fun t ht hW => ⟨⟨_, _, rfl, ⟨hI9, hF9⟩, hw.at ht⟩, hS9.F ht⟩) hS9.2.2 dX5_slips_87
  exact hl_33 _ 0 (Nat.lt_succ_self _)  _ _ _ ls hw (lv_sub hl [0, 1, 2, 3] rfl)

