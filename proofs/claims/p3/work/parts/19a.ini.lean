set_option maxHeartbeats 4000000 in
set_option maxRecDepth 100000 in
theorem k_X4_init (l : Launch) (dC : Nat → ClassId) (dI : Nat → Nat → Nat) (cI cS cP cA : ClassId) (sz : Nat) (h0 : Nat) : Met l yX4_init wsX4_init ({ frames := 1, cells := 2, slots := 20, locals := 12 }) (va_Pc [.ref h0] (nPre dC dI sz [(h0, .inr (3, [.null, .null, .int 0]))] (tyC cI cS cP cA))) (va_Qv (fun (u : List Nat × (Nat → Nat) × (Nat → va_E)) => PI cI cS cP cA u.1 u.2.1 u.2.2 ∧ (∀ a : Nat, a ∈ u.1 → u.2.1 a < 13) ∧ (h0 ∈ u.1 ∧ u.2.1 h0 = 1)) (fun u t => wPost dC dI (va_A [(h0, .inr (3, [.null, .null, .int 0]))] sz) (va_pl u.1 u.2.2) t) (va_A [(h0, .inr (3, [.null, .null, .int 0]))] sz)) 2 20 (va_A [(h0, .inr (3, [.null, .null, .int 0]))] sz) := by
  refine Met.ofW (cc := cX4_init) (maxL := 1) (ret := none) (by decide) rfl ?_
  intro p e s m args below meth c s₁ B hml hv
  obtain ⟨rfl, ⟨hsz, hP, hK, hD0⟩, hnk⟩ := hv
  have hx := B.exec
  have hb := B.bytes
  have hr := B.returns
  have hts := atoms_spec (ws := wsX4_init) B.pre
  have hown : s.vm.findClass RX4 = some m.cls := findClass_of_methodNamed B.named
  have hlocks := B.notSynchronized
  have hin0 : meth.name = "<init>" := (name_of_methodNamed B.named B.method).1
  subst hsz
  have hD := hD0.self (sz := s.heap.size)
  generalize hAe : va_A [(h0, .inr (3, [.null, .null, .int 0]))] s.heap.size = A at hD ⊢
  have hA : ∀ q : Nat, s.heap.size ≤ q → A q := fun q h => by rw [← hAe]; exact Or.inr h
  have hS : va_S A s.heap s.heap [] := va_S.rf
  obtain ⟨L, tg, f, hP, hD, hI, hT⟩ := cw_0 (cI := cI) (cS := cS) (cP := cP) (cA := cA) (X := [(h0, .inr (3, [.null, .null, .int 0]))]) hP hD
  have hl := lv_entry ([.ref h0]) (n := 1) (Nat.le_of_ble_eq_true rfl)
  rw [lg_entry_eq]
  generalize (lg_sl ([.ref h0]) ++ List.replicate (1 - (lg_sl ([.ref h0])).length) Slot.unset).toArray = ls at hl ⊢
  have hl : lv_has ls 1 [(0, .ref h0)] := hl
  refine lv_aload_n hx hb dX4_init_0 rfl (lv_at hl 0 rfl) ?_
  refine W.objInit hx hb hown (hts (.methodLink RX4 3 objectInit) (by decide +kernel)) (hts (.instanceMethod objectInit) (by decide +kernel)) (hts (.code objectInit ⟨#[0xb1]⟩ 1 none) (by decide +kernel)) rfl (by rw [hml]; exact hl.1) rfl dX4_init_1 (Nat.le_of_ble_eq_true rfl) (Nat.le_of_ble_eq_true rfl) ?_
  refine W.eq (g2 := F0 m 4 ls []) rfl ?_
  refine lv_aload_n hx hb dX4_init_4 rfl (lv_at hl 0 rfl) ?_
  refine lv_bipush (v := 10) hx hb dX4_init_5 (by decide) ?_
  refine cn_newa (n := 10) hx hb (hts (.arrayClass .int) (by decide +kernel)) hK hP hD hS hA hI hT 10 2 (by decide) (fun _ _ _ => rfl) (by decide) (by decide) (by decide) (Nat.le_of_ble_eq_true rfl) (Nat.le_of_ble_eq_true rfl) dX4_init_7 (fun q_1 H L tg f hP hD hS hI hT hg k_q_1 => ?_)
  refine W.widen (k := 1) (n := 10) (Nat.le_of_ble_eq_true rfl) (Nat.le_of_ble_eq_true rfl) ?_
  clear hg
  have hP : va_P (dC, dI) vwCl ([(h0, .inr (3, [.null, .null, .int 0]))] ++ va_pl L f) H := hP
  have hD : va_D A ([(h0, .inr (3, [.null, .null, .int 0]))] ++ va_pl L f) := hD
  refine va_putF (D := (dC, dI)) (ci := 3) (v := .ref q_1) (ty := (.array .int)) (C := RX4) (T := TX4) (N := 3) hx hb hts (by decide +kernel) tyX4 tyX4_ok nmX4 hown hK hP hD hS 0 rfl rfl 0 (by decide) (hts (.fieldLink RX4 9 "DayBench$Spans" "from" "[I") (by decide +kernel)) (fun _ h9 => h9) rfl hin0 rfl (by decide +kernel) rfl rfl (Nat.le_of_ble_eq_true rfl) dX4_init_9 (fun H locs hP hD hS => ?_)
  have hP : va_P (dC, dI) vwCl ([(h0, .inr (3, [.ref q_1, .null, .int 0]))] ++ va_pl L f) H := hP
  have hD : va_D A ([(h0, .inr (3, [.ref q_1, .null, .int 0]))] ++ va_pl L f) := hD
  refine lv_aload_n hx hb dX4_init_12 rfl (lv_at hl 0 rfl) ?_
  refine lv_bipush (v := 10) hx hb dX4_init_13 (by decide) ?_
  refine cn_newa (n := 10) hx hb (hts (.arrayClass .int) (by decide +kernel)) hK hP hD hS hA hI hT 10 2 (by decide) (fun _ _ _ => rfl) (by decide) (by decide) (by decide) (Nat.le_of_ble_eq_true rfl) (Nat.le_of_ble_eq_true rfl) dX4_init_15 (fun q_2 H L tg f hP hD hS hI hT hg k_q_2 => ?_)
  refine W.widen (k := 2) (n := 20) (Nat.le_of_ble_eq_true rfl) (Nat.le_of_ble_eq_true rfl) ?_
  have k_q_1 := hg.at k_q_1
  clear hg
  have hP : va_P (dC, dI) vwCl ([(h0, .inr (3, [.ref q_1, .null, .int 0]))] ++ va_pl L f) H := hP
  have hD : va_D A ([(h0, .inr (3, [.ref q_1, .null, .int 0]))] ++ va_pl L f) := hD
  refine va_putF (D := (dC, dI)) (ci := 3) (v := .ref q_2) (ty := (.array .int)) (C := RX4) (T := TX4) (N := 3) hx hb hts (by decide +kernel) tyX4 tyX4_ok nmX4 hown hK hP hD hS 0 rfl rfl 1 (by decide) (hts (.fieldLink RX4 15 "DayBench$Spans" "to" "[I") (by decide +kernel)) (fun _ h9 => h9) rfl hin0 rfl (by decide +kernel) rfl rfl (Nat.le_of_ble_eq_true rfl) dX4_init_17 (fun H locs hP hD hS => ?_)
  have hP : va_P (dC, dI) vwCl ([(h0, .inr (3, [.ref q_1, .ref q_2, .int 0]))] ++ va_pl L f) H := hP
  have hD : va_D A ([(h0, .inr (3, [.ref q_1, .ref q_2, .int 0]))] ++ va_pl L f) := hD
  obtain ⟨L, tg, f, hP, hD, hI, hT, hg, k_h0, hfe⟩ := cw_abs (X := []) (a := h0) (e := .inr (3, [.ref q_1, .ref q_2, .int 0])) hP hD hI hT 1 (by decide) (okL_O 3 _ _ ⟨⟨_, rfl, k_q_1.1, k_q_1.2⟩, ⟨_, rfl, k_q_2.1, k_q_2.2⟩, ⟨0, rfl, by decide⟩, trivial⟩)
  exact W.vret hx hb hr (fun t ht hW => ⟨⟨(L, tg, f), rfl, ⟨hI, hT, k_h0⟩, by rw [ht]; exact hP, hD⟩, hS.F ht⟩) hS.2.2 dX4_init_20

set_option maxHeartbeats 4000000 in
set_option maxRecDepth 100000 in
theorem k_X1_init (l : Launch) (dC : Nat → ClassId) (dI : Nat → Nat → Nat) (cI cS cP cA : ClassId) (sz : Nat) (h0 : Nat) : Met l yX1_init wsX1_init ({ frames := 2, cells := 3, slots := 23, locals := 32 }) (va_Pc [.ref h0] (nPre dC dI sz [(h0, .inr (0, [.null, .int 0, .int 0, .int 0, .int 0, .int 0, .int 0, .int 0, .int 0]))] (tyC cI cS cP cA))) (va_Qv (fun (u : List Nat × (Nat → Nat) × (Nat → va_E)) => PI cI cS cP cA u.1 u.2.1 u.2.2 ∧ (∀ a : Nat, a ∈ u.1 → u.2.1 a < 13) ∧ (h0 ∈ u.1 ∧ u.2.1 h0 = 0)) (fun u t => wPost dC dI (va_A [(h0, .inr (0, [.null, .int 0, .int 0, .int 0, .int 0, .int 0, .int 0, .int 0, .int 0]))] sz) (va_pl u.1 u.2.2) t) (va_A [(h0, .inr (0, [.null, .int 0, .int 0, .int 0, .int 0, .int 0, .int 0, .int 0, .int 0]))] sz)) 3 23 (va_A [(h0, .inr (0, [.null, .int 0, .int 0, .int 0, .int 0, .int 0, .int 0, .int 0, .int 0]))] sz) := by
  refine Met.ofW (cc := cX1_init) (maxL := 1) (ret := none) (by decide) rfl ?_
  intro p e s m args below meth c s₁ B hml hv
  obtain ⟨rfl, ⟨hsz, hP, hK, hD0⟩, hnk⟩ := hv
  have hx := B.exec
  have hb := B.bytes
  have hr := B.returns
  have hts := atoms_spec (ws := wsX1_init) B.pre
  have hown : s.vm.findClass RX1 = some m.cls := findClass_of_methodNamed B.named
  have hlocks := B.notSynchronized
  have hin0 : meth.name = "<init>" := (name_of_methodNamed B.named B.method).1
  subst hsz
  have hD := hD0.self (sz := s.heap.size)
  generalize hAe : va_A [(h0, .inr (0, [.null, .int 0, .int 0, .int 0, .int 0, .int 0, .int 0, .int 0, .int 0]))] s.heap.size = A at hD ⊢
  have hA : ∀ q : Nat, s.heap.size ≤ q → A q := fun q h => by rw [← hAe]; exact Or.inr h
  have hS : va_S A s.heap s.heap [] := va_S.rf
  obtain ⟨L, tg, f, hP, hD, hI, hT⟩ := cw_0 (cI := cI) (cS := cS) (cP := cP) (cA := cA) (X := [(h0, .inr (0, [.null, .int 0, .int 0, .int 0, .int 0, .int 0, .int 0, .int 0, .int 0]))]) hP hD
  have hl := lv_entry ([.ref h0]) (n := 1) (Nat.le_of_ble_eq_true rfl)
  rw [lg_entry_eq]
  generalize (lg_sl ([.ref h0]) ++ List.replicate (1 - (lg_sl ([.ref h0])).length) Slot.unset).toArray = ls at hl ⊢
  have hl : lv_has ls 1 [(0, .ref h0)] := hl
  refine lv_aload_n hx hb dX1_init_0 rfl (lv_at hl 0 rfl) ?_
  refine W.objInit hx hb hown (hts (.methodLink RX1 3 objectInit) (by decide +kernel)) (hts (.instanceMethod objectInit) (by decide +kernel)) (hts (.code objectInit ⟨#[0xb1]⟩ 1 none) (by decide +kernel)) rfl (by rw [hml]; exact hl.1) rfl dX1_init_1 (Nat.le_of_ble_eq_true rfl) (Nat.le_of_ble_eq_true rfl) ?_
  refine W.eq (g2 := F0 m 4 ls []) rfl ?_
  refine lv_aload_n hx hb dX1_init_4 rfl (lv_at hl 0 rfl) ?_
  refine cn_new (ci := 3) (fs := [.null, .null, .int 0]) (C := RX4) (T := TX4) (N := 3) hx hb hts (by decide +kernel) tyX4 tyX4_ok hown (hts (.classLink RX1 9 RX4) (by decide +kernel)) (hts (.instantiable RX4 3) (by decide +kernel)) (hts (.initialized RX4) (by decide +kernel)) hK hP hD hS hA rfl (fun j hj => by rcases (show j = 0 ∨ j = 1 ∨ j = 2 by omega) with rfl | rfl | rfl <;> rfl) (Nat.le_of_ble_eq_true rfl) (Nat.le_of_ble_eq_true rfl) dX1_init_5 (fun q_1 H hP hD hS => ?_)
  refine W.widen (k := 1) (n := 3) (Nat.le_of_ble_eq_true rfl) (Nat.le_of_ble_eq_true rfl) ?_
  have hP : va_P (dC, dI) vwCl ([(h0, .inr (0, [.null, .int 0, .int 0, .int 0, .int 0, .int 0, .int 0, .int 0, .int 0])), (q_1, .inr (3, [.null, .null, .int 0]))] ++ va_pl L f) H := hP
  have hD : va_D A ([(h0, .inr (0, [.null, .int 0, .int 0, .int 0, .int 0, .int 0, .int 0, .int 0, .int 0])), (q_1, .inr (3, [.null, .null, .int 0]))] ++ va_pl L f) := hD
  refine lv_dup hx hb dX1_init_8 rfl ?_
  have hPc := hP.sub (ws' := [(q_1, .inr (3, [.null, .null, .int 0]))]) [1] rfl
  have hDc := hD.sub (ws' := [(q_1, .inr (3, [.null, .null, .int 0]))]) [1] (by decide) rfl
  have hFc := va_free (wc := [(q_1, .inr (3, [.null, .null, .int 0]))]) hD hS hA [1] rfl
  refine va_callv (va_runIN (As := []) (rest := [.ref q_1, .ref h0]) ⟨hx, hb, hml, hown, hts⟩ (k_X4_init l dC dI cI cS cP cA H.size q_1) ⟨va_cnB (host := "DayBench") 0 hts gX1_init_X4_init_n11 rfl rfl rfl hnk.2.2.1 (hts (.initialized RX4) (by decide +kernel)) (by decide +kernel) ⟨Nat.le_of_ble_eq_true rfl, Nat.le_of_ble_eq_true rfl⟩, rfl, hts (.instanceMethod yX4_init) (by decide +kernel)⟩ ⟨nPre_blind, fun U hU hW => ⟨rfl, ⟨wPre_at hPc hK hDc hU hW, nk_warm hnk hW⟩⟩⟩ rfl rfl hl.1 rfl (lv_room (Nat.le_of_ble_eq_true rfl)) dX1_init_9 ⟨Nat.le_of_ble_eq_true rfl, Nat.le_of_ble_eq_true rfl⟩) hS (fun q9 _ h => hFc q9 h) hFc (fun u t H1 locs ht hvm hw hB hz1 hk1 hS => ?_)
  obtain ⟨hP1, hD1⟩ := hB
  rw [ht] at hP1
  obtain ⟨hI1, hT1, k_q_1⟩ := hw
  obtain ⟨hP, hD⟩ := va_joinQ (X := [(h0, .inr (0, [.null, .int 0, .int 0, .int 0, .int 0, .int 0, .int 0, .int 0, .int 0])), (q_1, .inr (3, [.null, .null, .int 0]))]) (cx := [(q_1, .inr (3, [.null, .null, .int 0]))]) (wr := [(h0, .inr (0, [.null, .int 0, .int 0, .int 0, .int 0, .int 0, .int 0, .int 0, .int 0]))]) (w1 := va_pl u.1 u.2.2) (pl := va_pl L f) hP hD [1] [0] rfl rfl (by decide) (by decide) hk1 hFc hP1 hD1
  obtain ⟨L, tg, f, hP, hD, hI, hT, hg, hg1⟩ := cw_join hP hD hI hT hI1 hT1
  have k_q_1 := hg1.at k_q_1
  clear hP1 hD1 hz1 hk1 hFc hPc hDc ht hg hg1 hI1 hT1
  generalize H1 = H at hP hS ⊢
  refine W.widen (k := 3) (n := 23) (Nat.le_of_ble_eq_true rfl) (Nat.le_of_ble_eq_true rfl) ?_
  have hP : va_P (dC, dI) vwCl ([(h0, .inr (0, [.null, .int 0, .int 0, .int 0, .int 0, .int 0, .int 0, .int 0, .int 0]))] ++ va_pl L f) H := hP
  have hD : va_D A ([(h0, .inr (0, [.null, .int 0, .int 0, .int 0, .int 0, .int 0, .int 0, .int 0, .int 0]))] ++ va_pl L f) := hD
  refine va_putF (D := (dC, dI)) (ci := 0) (v := .ref q_1) (ty := (.object "DayBench$Spans")) (C := RX1) (T := TX1) (N := 9) hx hb hts (by decide +kernel) tyX1 tyX1_ok nmX1 hown hK hP hD hS 0 rfl rfl 0 (by decide) (hts (.fieldLink RX1 12 "DayBench$Saying" "spans" "LDayBench$Spans;") (by decide +kernel)) (fun _ h9 => h9) rfl hin0 rfl (by decide +kernel) rfl rfl (Nat.le_of_ble_eq_true rfl) dX1_init_12 (fun H locs hP hD hS => ?_)
  have hP : va_P (dC, dI) vwCl ([(h0, .inr (0, [.ref q_1, .int 0, .int 0, .int 0, .int 0, .int 0, .int 0, .int 0, .int 0]))] ++ va_pl L f) H := hP
  have hD : va_D A ([(h0, .inr (0, [.ref q_1, .int 0, .int 0, .int 0, .int 0, .int 0, .int 0, .int 0, .int 0]))] ++ va_pl L f) := hD
  obtain ⟨L, tg, f, hP, hD, hI, hT, hg, k_h0, hfe⟩ := cw_abs (X := []) (a := h0) (e := .inr (0, [.ref q_1, .int 0, .int 0, .int 0, .int 0, .int 0, .int 0, .int 0, .int 0])) hP hD hI hT 0 (by decide) (okL_O 0 _ _ ⟨⟨_, rfl, k_q_1.1, k_q_1.2⟩, ⟨0, rfl, by decide⟩, ⟨_, rfl⟩, ⟨_, rfl⟩, ⟨_, rfl, Or.inl rfl⟩, ⟨_, rfl, Or.inr ⟨0, by decide, rfl⟩⟩, ⟨_, rfl⟩, ⟨_, rfl⟩, ⟨0, rfl, by decide⟩, trivial⟩)
  exact W.vret hx hb hr (fun t ht hW => ⟨⟨(L, tg, f), rfl, ⟨hI, hT, k_h0⟩, by rw [ht]; exact hP, hD⟩, hS.F ht⟩) hS.2.2 dX1_init_15

set_option maxHeartbeats 4000000 in
set_option maxRecDepth 100000 in
theorem k_X2_init (l : Launch) (dC : Nat → ClassId) (dI : Nat → Nat → Nat) (cI cS cP cA : ClassId) (sz : Nat) (h0 : Nat) : Met l yX2_init wsX2_init ({ frames := 2, cells := 50, slots := 342, locals := 32 }) (va_Pc [.ref h0] (nPre dC dI sz [(h0, .inr (1, [.null, .null, .int 0, .int 0, .int 0, .int 0, .int 0, .int 0, .null, .null, .null, .null, .null, .null]))] (tyC cI cS cP cA))) (va_Qv (fun (u : List Nat × (Nat → Nat) × (Nat → va_E)) => PI cI cS cP cA u.1 u.2.1 u.2.2 ∧ (∀ a : Nat, a ∈ u.1 → u.2.1 a < 13) ∧ (h0 ∈ u.1 ∧ u.2.1 h0 = 4)) (fun u t => wPost dC dI (va_A [(h0, .inr (1, [.null, .null, .int 0, .int 0, .int 0, .int 0, .int 0, .int 0, .null, .null, .null, .null, .null, .null]))] sz) (va_pl u.1 u.2.2) t) (va_A [(h0, .inr (1, [.null, .null, .int 0, .int 0, .int 0, .int 0, .int 0, .int 0, .null, .null, .null, .null, .null, .null]))] sz)) 50 342 (va_A [(h0, .inr (1, [.null, .null, .int 0, .int 0, .int 0, .int 0, .int 0, .int 0, .null, .null, .null, .null, .null, .null]))] sz) := by
  refine Met.ofW (cc := cX2_init) (maxL := 2) (ret := none) (by decide) rfl ?_
  intro p e s m args below meth c s₁ B hml hv
  obtain ⟨rfl, ⟨hsz, hP, hK, hD0⟩, hnk⟩ := hv
  have hx := B.exec
  have hb := B.bytes
  have hr := B.returns
  have hts := atoms_spec (ws := wsX2_init) B.pre
  have hown : s.vm.findClass RX2 = some m.cls := findClass_of_methodNamed B.named
  have hlocks := B.notSynchronized
  have hin0 : meth.name = "<init>" := (name_of_methodNamed B.named B.method).1
  subst hsz
  have hD := hD0.self (sz := s.heap.size)
  generalize hAe : va_A [(h0, .inr (1, [.null, .null, .int 0, .int 0, .int 0, .int 0, .int 0, .int 0, .null, .null, .null, .null, .null, .null]))] s.heap.size = A at hD ⊢
  have hA : ∀ q : Nat, s.heap.size ≤ q → A q := fun q h => by rw [← hAe]; exact Or.inr h
  have hS : va_S A s.heap s.heap [] := va_S.rf
  obtain ⟨L, tg, f, hP, hD, hI, hT⟩ := cw_0 (cI := cI) (cS := cS) (cP := cP) (cA := cA) (X := [(h0, .inr (1, [.null, .null, .int 0, .int 0, .int 0, .int 0, .int 0, .int 0, .null, .null, .null, .null, .null, .null]))]) hP hD
  have hl := lv_entry ([.ref h0]) (n := 2) (Nat.le_of_ble_eq_true rfl)
  rw [lg_entry_eq]
  generalize (lg_sl ([.ref h0]) ++ List.replicate (2 - (lg_sl ([.ref h0])).length) Slot.unset).toArray = ls at hl ⊢
  have hl : lv_has ls 2 [(0, .ref h0)] := hl
  refine lv_aload_n hx hb dX2_init_0 rfl (lv_at hl 0 rfl) ?_
  refine W.objInit hx hb hown (hts (.methodLink RX2 3 objectInit) (by decide +kernel)) (hts (.instanceMethod objectInit) (by decide +kernel)) (hts (.code objectInit ⟨#[0xb1]⟩ 1 none) (by decide +kernel)) rfl (by rw [hml]; exact hl.1) rfl dX2_init_1 (Nat.le_of_ble_eq_true rfl) (Nat.le_of_ble_eq_true rfl) ?_
  refine W.eq (g2 := F0 m 4 ls []) rfl ?_
  refine lv_aload_n hx hb dX2_init_4 rfl (lv_at hl 0 rfl) ?_
  refine lv_bipush (v := 6) hx hb dX2_init_5 (by decide) ?_
  refine cn_newa (n := 6) hx hb (hts (.arrayClass .int) (by decide +kernel)) hK hP hD hS hA hI hT 6 3 (by decide) (fun _ _ _ => rfl) (by decide) (by decide) (by decide) (Nat.le_of_ble_eq_true rfl) (Nat.le_of_ble_eq_true rfl) dX2_init_7 (fun q_1 H L tg f hP hD hS hI hT hg k_q_1 => ?_)
  refine W.widen (k := 1) (n := 6) (Nat.le_of_ble_eq_true rfl) (Nat.le_of_ble_eq_true rfl) ?_
  clear hg
  have hP : va_P (dC, dI) vwCl ([(h0, .inr (1, [.null, .null, .int 0, .int 0, .int 0, .int 0, .int 0, .int 0, .null, .null, .null, .null, .null, .null]))] ++ va_pl L f) H := hP
  have hD : va_D A ([(h0, .inr (1, [.null, .null, .int 0, .int 0, .int 0, .int 0, .int 0, .int 0, .null, .null, .null, .null, .null, .null]))] ++ va_pl L f) := hD
  refine va_putF (D := (dC, dI)) (ci := 1) (v := .ref q_1) (ty := (.array .int)) (C := RX2) (T := TX2) (N := 14) hx hb hts (by decide +kernel) tyX2 tyX2_ok nmX2 hown hK hP hD hS 0 rfl rfl 0 (by decide) (hts (.fieldLink RX2 9 "DayBench$Search" "earliest" "[I") (by decide +kernel)) (fun _ h9 => h9) rfl hin0 rfl (by decide +kernel) rfl rfl (Nat.le_of_ble_eq_true rfl) dX2_init_9 (fun H locs hP hD hS => ?_)
  have hP : va_P (dC, dI) vwCl ([(h0, .inr (1, [.ref q_1, .null, .int 0, .int 0, .int 0, .int 0, .int 0, .int 0, .null, .null, .null, .null, .null, .null]))] ++ va_pl L f) H := hP
  have hD : va_D A ([(h0, .inr (1, [.ref q_1, .null, .int 0, .int 0, .int 0, .int 0, .int 0, .int 0, .null, .null, .null, .null, .null, .null]))] ++ va_pl L f) := hD
  refine lv_aload_n hx hb dX2_init_12 rfl (lv_at hl 0 rfl) ?_
  refine lv_bipush (v := 6) hx hb dX2_init_13 (by decide) ?_
  refine cn_newa (n := 6) hx hb (hts (.arrayClass .int) (by decide +kernel)) hK hP hD hS hA hI hT 6 3 (by decide) (fun _ _ _ => rfl) (by decide) (by decide) (by decide) (Nat.le_of_ble_eq_true rfl) (Nat.le_of_ble_eq_true rfl) dX2_init_15 (fun q_2 H L tg f hP hD hS hI hT hg k_q_2 => ?_)
  refine W.widen (k := 2) (n := 12) (Nat.le_of_ble_eq_true rfl) (Nat.le_of_ble_eq_true rfl) ?_
  have k_q_1 := hg.at k_q_1
  clear hg
  have hP : va_P (dC, dI) vwCl ([(h0, .inr (1, [.ref q_1, .null, .int 0, .int 0, .int 0, .int 0, .int 0, .int 0, .null, .null, .null, .null, .null, .null]))] ++ va_pl L f) H := hP
  have hD : va_D A ([(h0, .inr (1, [.ref q_1, .null, .int 0, .int 0, .int 0, .int 0, .int 0, .int 0, .null, .null, .null, .null, .null, .null]))] ++ va_pl L f) := hD
  refine va_putF (D := (dC, dI)) (ci := 1) (v := .ref q_2) (ty := (.array .int)) (C := RX2) (T := TX2) (N := 14) hx hb hts (by decide +kernel) tyX2 tyX2_ok nmX2 hown hK hP hD hS 0 rfl rfl 1 (by decide) (hts (.fieldLink RX2 15 "DayBench$Search" "latest" "[I") (by decide +kernel)) (fun _ h9 => h9) rfl hin0 rfl (by decide +kernel) rfl rfl (Nat.le_of_ble_eq_true rfl) dX2_init_17 (fun H locs hP hD hS => ?_)
  have hP : va_P (dC, dI) vwCl ([(h0, .inr (1, [.ref q_1, .ref q_2, .int 0, .int 0, .int 0, .int 0, .int 0, .int 0, .null, .null, .null, .null, .null, .null]))] ++ va_pl L f) H := hP
  have hD : va_D A ([(h0, .inr (1, [.ref q_1, .ref q_2, .int 0, .int 0, .int 0, .int 0, .int 0, .int 0, .null, .null, .null, .null, .null, .null]))] ++ va_pl L f) := hD
  refine lv_aload_n hx hb dX2_init_20 rfl (lv_at hl 0 rfl) ?_
  refine lv_bipush (v := 6) hx hb dX2_init_21 (by decide) ?_
  refine cn_newq (own := RX2) (C := "DayBench$Spans") (n := 6) hx hb hown (hts (.classLink RX2 18 "DayBench$Spans") (by decide +kernel)) hnk.2.2.2.2.2.1 hK hP hD hS hA 6 2 cP rfl (by decide) (by decide) (by decide) (Nat.le_of_ble_eq_true rfl) (Nat.le_of_ble_eq_true rfl) dX2_init_23 (fun q_3 H hP hD hS => ?_)
  refine W.widen (k := 3) (n := 18) (Nat.le_of_ble_eq_true rfl) (Nat.le_of_ble_eq_true rfl) ?_
  have hP : va_P (dC, dI) vwCl ([(h0, .inr (1, [.ref q_1, .ref q_2, .int 0, .int 0, .int 0, .int 0, .int 0, .int 0, .null, .null, .null, .null, .null, .null])), (q_3, .inl (cP, 6, .inr (.inr (.inr (.inr (fun _ => none))))))] ++ va_pl L f) H := hP
  have hD : va_D A ([(h0, .inr (1, [.ref q_1, .ref q_2, .int 0, .int 0, .int 0, .int 0, .int 0, .int 0, .null, .null, .null, .null, .null, .null])), (q_3, .inl (cP, 6, .inr (.inr (.inr (.inr (fun _ => none))))))] ++ va_pl L f) := hD
  have ra_q_3 : RAk 0 (fun _ => none) L tg 1 := fun i9 h9 => absurd h9 (Nat.not_lt_zero _)
  refine va_putF (D := (dC, dI)) (ci := 1) (v := .ref q_3) (ty := (.array (.object "DayBench$Spans"))) (C := RX2) (T := TX2) (N := 14) hx hb hts (by decide +kernel) tyX2 tyX2_ok nmX2 hown hK hP hD hS 0 rfl rfl 8 (by decide) (hts (.fieldLink RX2 20 "DayBench$Search" "spans" "[LDayBench$Spans;") (by decide +kernel)) (fun _ h9 => h9) rfl hin0 rfl (by decide +kernel) rfl rfl (Nat.le_of_ble_eq_true rfl) dX2_init_26 (fun H locs hP hD hS => ?_)
  have hP : va_P (dC, dI) vwCl ([(h0, .inr (1, [.ref q_1, .ref q_2, .int 0, .int 0, .int 0, .int 0, .int 0, .int 0, .ref q_3, .null, .null, .null, .null, .null])), (q_3, .inl (cP, 6, .inr (.inr (.inr (.inr (fun _ => none))))))] ++ va_pl L f) H := hP
  have hD : va_D A ([(h0, .inr (1, [.ref q_1, .ref q_2, .int 0, .int 0, .int 0, .int 0, .int 0, .int 0, .ref q_3, .null, .null, .null, .null, .null])), (q_3, .inl (cP, 6, .inr (.inr (.inr (.inr (fun _ => none))))))] ++ va_pl L f) := hD
  refine lv_aload_n hx hb dX2_init_29 rfl (lv_at hl 0 rfl) ?_
  refine cn_new (ci := 3) (fs := [.null, .null, .int 0]) (C := RX4) (T := TX4) (N := 3) hx hb hts (by decide +kernel) tyX4 tyX4_ok hown (hts (.classLink RX2 18 RX4) (by decide +kernel)) (hts (.instantiable RX4 3) (by decide +kernel)) (hts (.initialized RX4) (by decide +kernel)) hK hP hD hS hA rfl (fun j hj => by rcases (show j = 0 ∨ j = 1 ∨ j = 2 by omega) with rfl | rfl | rfl <;> rfl) (Nat.le_of_ble_eq_true rfl) (Nat.le_of_ble_eq_true rfl) dX2_init_30 (fun q_4 H hP hD hS => ?_)
  refine W.widen (k := 4) (n := 21) (Nat.le_of_ble_eq_true rfl) (Nat.le_of_ble_eq_true rfl) ?_
  have hP : va_P (dC, dI) vwCl ([(h0, .inr (1, [.ref q_1, .ref q_2, .int 0, .int 0, .int 0, .int 0, .int 0, .int 0, .ref q_3, .null, .null, .null, .null, .null])), (q_3, .inl (cP, 6, .inr (.inr (.inr (.inr (fun _ => none)))))), (q_4, .inr (3, [.null, .null, .int 0]))] ++ va_pl L f) H := hP
  have hD : va_D A ([(h0, .inr (1, [.ref q_1, .ref q_2, .int 0, .int 0, .int 0, .int 0, .int 0, .int 0, .ref q_3, .null, .null, .null, .null, .null])), (q_3, .inl (cP, 6, .inr (.inr (.inr (.inr (fun _ => none)))))), (q_4, .inr (3, [.null, .null, .int 0]))] ++ va_pl L f) := hD
  refine lv_dup hx hb dX2_init_33 rfl ?_
  have hPc := hP.sub (ws' := [(q_4, .inr (3, [.null, .null, .int 0]))]) [2] rfl
  have hDc := hD.sub (ws' := [(q_4, .inr (3, [.null, .null, .int 0]))]) [2] (by decide) rfl
  have hFc := va_free (wc := [(q_4, .inr (3, [.null, .null, .int 0]))]) hD hS hA [2] rfl
  refine va_callv (va_runIN (As := []) (rest := [.ref q_4, .ref h0]) ⟨hx, hb, hml, hown, hts⟩ (k_X4_init l dC dI cI cS cP cA H.size q_4) ⟨va_cnB (host := "DayBench") 0 hts gX2_init_X4_init_n24 rfl rfl rfl hnk.2.2.2.1 (hts (.initialized RX4) (by decide +kernel)) (by decide +kernel) ⟨Nat.le_of_ble_eq_true rfl, Nat.le_of_ble_eq_true rfl⟩, rfl, hts (.instanceMethod yX4_init) (by decide +kernel)⟩ ⟨nPre_blind, fun U hU hW => ⟨rfl, ⟨wPre_at hPc hK hDc hU hW, nk_warm hnk hW⟩⟩⟩ rfl rfl hl.1 rfl (lv_room (Nat.le_of_ble_eq_true rfl)) dX2_init_34 ⟨Nat.le_of_ble_eq_true rfl, Nat.le_of_ble_eq_true rfl⟩) hS (fun q9 _ h => hFc q9 h) hFc (fun u t H1 locs ht hvm hw hB hz1 hk1 hS => ?_)
  obtain ⟨hP1, hD1⟩ := hB
  rw [ht] at hP1
  obtain ⟨hI1, hT1, k_q_4⟩ := hw
  obtain ⟨hP, hD⟩ := va_joinQ (X := [(h0, .inr (1, [.ref q_1, .ref q_2, .int 0, .int 0, .int 0, .int 0, .int 0, .int 0, .ref q_3, .null, .null, .null, .null, .null])), (q_3, .inl (cP, 6, .inr (.inr (.inr (.inr (fun _ => none)))))), (q_4, .inr (3, [.null, .null, .int 0]))]) (cx := [(q_4, .inr (3, [.null, .null, .int 0]))]) (wr := [(h0, .inr (1, [.ref q_1, .ref q_2, .int 0, .int 0, .int 0, .int 0, .int 0, .int 0, .ref q_3, .null, .null, .null, .null, .null])), (q_3, .inl (cP, 6, .inr (.inr (.inr (.inr (fun _ => none))))))]) (w1 := va_pl u.1 u.2.2) (pl := va_pl L f) hP hD [2] [0, 1] rfl rfl (by decide) (by decide) hk1 hFc hP1 hD1
  obtain ⟨L, tg, f, hP, hD, hI, hT, hg, hg1⟩ := cw_join hP hD hI hT hI1 hT1
  have k_q_1 := hg.at k_q_1
  have k_q_2 := hg.at k_q_2
  have ra_q_3 := ra_q_3.up hg
  have k_q_4 := hg1.at k_q_4
  clear hP1 hD1 hz1 hk1 hFc hPc hDc ht hg hg1 hI1 hT1
  generalize H1 = H at hP hS ⊢
  refine W.widen (k := 6) (n := 41) (Nat.le_of_ble_eq_true rfl) (Nat.le_of_ble_eq_true rfl) ?_
  have hP : va_P (dC, dI) vwCl ([(h0, .inr (1, [.ref q_1, .ref q_2, .int 0, .int 0, .int 0, .int 0, .int 0, .int 0, .ref q_3, .null, .null, .null, .null, .null])), (q_3, .inl (cP, 6, .inr (.inr (.inr (.inr (fun _ => none))))))] ++ va_pl L f) H := hP
  have hD : va_D A ([(h0, .inr (1, [.ref q_1, .ref q_2, .int 0, .int 0, .int 0, .int 0, .int 0, .int 0, .ref q_3, .null, .null, .null, .null, .null])), (q_3, .inl (cP, 6, .inr (.inr (.inr (.inr (fun _ => none))))))] ++ va_pl L f) := hD
  refine va_put (D := (dC, dI)) (ci := 1) (v := .ref q_4) (ty := (.object "DayBench$Spans")) (C := RX2) (T := TX2) (N := 14) hx hb hts (by decide +kernel) tyX2 tyX2_ok nmX2 hown hK hP hD hS 0 rfl rfl 9 (by decide) (hts (.fieldLink RX2 25 "DayBench$Search" "spare" "LDayBench$Spans;") (by decide +kernel)) (fun _ h9 => h9) rfl (by decide +kernel) rfl rfl (Nat.le_of_ble_eq_true rfl) dX2_init_37 (fun H locs hP hD hS => ?_)
  have hP : va_P (dC, dI) vwCl ([(h0, .inr (1, [.ref q_1, .ref q_2, .int 0, .int 0, .int 0, .int 0, .int 0, .int 0, .ref q_3, .ref q_4, .null, .null, .null, .null])), (q_3, .inl (cP, 6, .inr (.inr (.inr (.inr (fun _ => none))))))] ++ va_pl L f) H := hP
  have hD : va_D A ([(h0, .inr (1, [.ref q_1, .ref q_2, .int 0, .int 0, .int 0, .int 0, .int 0, .int 0, .ref q_3, .ref q_4, .null, .null, .null, .null])), (q_3, .inl (cP, 6, .inr (.inr (.inr (.inr (fun _ => none))))))] ++ va_pl L f) := hD
  refine lv_aload_n hx hb dX2_init_40 rfl (lv_at hl 0 rfl) ?_
  refine cn_new (ci := 3) (fs := [.null, .null, .int 0]) (C := RX4) (T := TX4) (N := 3) hx hb hts (by decide +kernel) tyX4 tyX4_ok hown (hts (.classLink RX2 18 RX4) (by decide +kernel)) (hts (.instantiable RX4 3) (by decide +kernel)) (hts (.initialized RX4) (by decide +kernel)) hK hP hD hS hA rfl (fun j hj => by rcases (show j = 0 ∨ j = 1 ∨ j = 2 by omega) with rfl | rfl | rfl <;> rfl) (Nat.le_of_ble_eq_true rfl) (Nat.le_of_ble_eq_true rfl) dX2_init_41 (fun q_5 H hP hD hS => ?_)
  refine W.widen (k := 7) (n := 44) (Nat.le_of_ble_eq_true rfl) (Nat.le_of_ble_eq_true rfl) ?_
  have hP : va_P (dC, dI) vwCl ([(h0, .inr (1, [.ref q_1, .ref q_2, .int 0, .int 0, .int 0, .int 0, .int 0, .int 0, .ref q_3, .ref q_4, .null, .null, .null, .null])), (q_3, .inl (cP, 6, .inr (.inr (.inr (.inr (fun _ => none)))))), (q_5, .inr (3, [.null, .null, .int 0]))] ++ va_pl L f) H := hP
  have hD : va_D A ([(h0, .inr (1, [.ref q_1, .ref q_2, .int 0, .int 0, .int 0, .int 0, .int 0, .int 0, .ref q_3, .ref q_4, .null, .null, .null, .null])), (q_3, .inl (cP, 6, .inr (.inr (.inr (.inr (fun _ => none)))))), (q_5, .inr (3, [.null, .null, .int 0]))] ++ va_pl L f) := hD
  refine lv_dup hx hb dX2_init_44 rfl ?_
  have hPc := hP.sub (ws' := [(q_5, .inr (3, [.null, .null, .int 0]))]) [2] rfl
  have hDc := hD.sub (ws' := [(q_5, .inr (3, [.null, .null, .int 0]))]) [2] (by decide) rfl
  have hFc := va_free (wc := [(q_5, .inr (3, [.null, .null, .int 0]))]) hD hS hA [2] rfl
  refine va_callv (va_runIN (As := []) (rest := [.ref q_5, .ref h0]) ⟨hx, hb, hml, hown, hts⟩ (k_X4_init l dC dI cI cS cP cA H.size q_5) ⟨va_cnB (host := "DayBench") 0 hts gX2_init_X4_init_n24 rfl rfl rfl hnk.2.2.2.1 (hts (.initialized RX4) (by decide +kernel)) (by decide +kernel) ⟨Nat.le_of_ble_eq_true rfl, Nat.le_of_ble_eq_true rfl⟩, rfl, hts (.instanceMethod yX4_init) (by decide +kernel)⟩ ⟨nPre_blind, fun U hU hW => ⟨rfl, ⟨wPre_at hPc hK hDc hU hW, nk_warm hnk hW⟩⟩⟩ rfl rfl hl.1 rfl (lv_room (Nat.le_of_ble_eq_true rfl)) dX2_init_45 ⟨Nat.le_of_ble_eq_true rfl, Nat.le_of_ble_eq_true rfl⟩) hS (fun q9 _ h => hFc q9 h) hFc (fun u t H1 locs ht hvm hw hB hz1 hk1 hS => ?_)
  obtain ⟨hP1, hD1⟩ := hB
  rw [ht] at hP1
  obtain ⟨hI1, hT1, k_q_5⟩ := hw
  obtain ⟨hP, hD⟩ := va_joinQ (X := [(h0, .inr (1, [.ref q_1, .ref q_2, .int 0, .int 0, .int 0, .int 0, .int 0, .int 0, .ref q_3, .ref q_4, .null, .null, .null, .null])), (q_3, .inl (cP, 6, .inr (.inr (.inr (.inr (fun _ => none)))))), (q_5, .inr (3, [.null, .null, .int 0]))]) (cx := [(q_5, .inr (3, [.null, .null, .int 0]))]) (wr := [(h0, .inr (1, [.ref q_1, .ref q_2, .int 0, .int 0, .int 0, .int 0, .int 0, .int 0, .ref q_3, .ref q_4, .null, .null, .null, .null])), (q_3, .inl (cP, 6, .inr (.inr (.inr (.inr (fun _ => none))))))]) (w1 := va_pl u.1 u.2.2) (pl := va_pl L f) hP hD [2] [0, 1] rfl rfl (by decide) (by decide) hk1 hFc hP1 hD1
  obtain ⟨L, tg, f, hP, hD, hI, hT, hg, hg1⟩ := cw_join hP hD hI hT hI1 hT1
  have k_q_1 := hg.at k_q_1
  have k_q_2 := hg.at k_q_2
  have k_q_4 := hg.at k_q_4
  have ra_q_3 := ra_q_3.up hg
  have k_q_5 := hg1.at k_q_5
  clear hP1 hD1 hz1 hk1 hFc hPc hDc ht hg hg1 hI1 hT1
  generalize H1 = H at hP hS ⊢
  refine W.widen (k := 9) (n := 64) (Nat.le_of_ble_eq_true rfl) (Nat.le_of_ble_eq_true rfl) ?_
  have hP : va_P (dC, dI) vwCl ([(h0, .inr (1, [.ref q_1, .ref q_2, .int 0, .int 0, .int 0, .int 0, .int 0, .int 0, .ref q_3, .ref q_4, .null, .null, .null, .null])), (q_3, .inl (cP, 6, .inr (.inr (.inr (.inr (fun _ => none))))))] ++ va_pl L f) H := hP
  have hD : va_D A ([(h0, .inr (1, [.ref q_1, .ref q_2, .int 0, .int 0, .int 0, .int 0, .int 0, .int 0, .ref q_3, .ref q_4, .null, .null, .null, .null])), (q_3, .inl (cP, 6, .inr (.inr (.inr (.inr (fun _ => none))))))] ++ va_pl L f) := hD
  refine va_putF (D := (dC, dI)) (ci := 1) (v := .ref q_5) (ty := (.object "DayBench$Spans")) (C := RX2) (T := TX2) (N := 14) hx hb hts (by decide +kernel) tyX2 tyX2_ok nmX2 hown hK hP hD hS 0 rfl rfl 10 (by decide) (hts (.fieldLink RX2 29 "DayBench$Search" "findSpan" "LDayBench$Spans;") (by decide +kernel)) (fun _ h9 => h9) rfl hin0 rfl (by decide +kernel) rfl rfl (Nat.le_of_ble_eq_true rfl) dX2_init_48 (fun H locs hP hD hS => ?_)
  have hP : va_P (dC, dI) vwCl ([(h0, .inr (1, [.ref q_1, .ref q_2, .int 0, .int 0, .int 0, .int 0, .int 0, .int 0, .ref q_3, .ref q_4, .ref q_5, .null, .null, .null])), (q_3, .inl (cP, 6, .inr (.inr (.inr (.inr (fun _ => none))))))] ++ va_pl L f) H := hP
  have hD : va_D A ([(h0, .inr (1, [.ref q_1, .ref q_2, .int 0, .int 0, .int 0, .int 0, .int 0, .int 0, .ref q_3, .ref q_4, .ref q_5, .null, .null, .null])), (q_3, .inl (cP, 6, .inr (.inr (.inr (.inr (fun _ => none))))))] ++ va_pl L f) := hD
  refine lv_aload_n hx hb dX2_init_51 rfl (lv_at hl 0 rfl) ?_
  refine lv_bipush (v := 6) hx hb dX2_init_52 (by decide) ?_
  refine lv_bipush (v := 6) hx hb dX2_init_54 (by decide) ?_
  refine cn_mna (own := RX2) (n := 6) hx hb hown (hts (.classLink RX2 32 "[[I") (by decide +kernel)) hnk.2.2.2.2.2.2 (hts (.arrayClass .int) (by decide +kernel)) hK hP hD hS hA hI hT 6 11 (by decide) (fun _ _ _ => rfl) (by decide) (by decide) (by decide) (Nat.le_of_ble_eq_true rfl) (Nat.le_of_ble_eq_true rfl) dX2_init_56 (fun q_6 H L tg f hP hD hS hI hT hg k_q_6 => ?_)
  refine W.widen (k := 16) (n := 106) (Nat.le_of_ble_eq_true rfl) (Nat.le_of_ble_eq_true rfl) ?_
  have k_q_1 := hg.at k_q_1
  have k_q_2 := hg.at k_q_2
  have k_q_4 := hg.at k_q_4
  have k_q_5 := hg.at k_q_5
  have ra_q_3 := ra_q_3.up hg
  clear hg
  have hP : va_P (dC, dI) vwCl ([(h0, .inr (1, [.ref q_1, .ref q_2, .int 0, .int 0, .int 0, .int 0, .int 0, .int 0, .ref q_3, .ref q_4, .ref q_5, .null, .null, .null])), (q_3, .inl (cP, 6, .inr (.inr (.inr (.inr (fun _ => none))))))] ++ va_pl L f) H := hP
  have hD : va_D A ([(h0, .inr (1, [.ref q_1, .ref q_2, .int 0, .int 0, .int 0, .int 0, .int 0, .int 0, .ref q_3, .ref q_4, .ref q_5, .null, .null, .null])), (q_3, .inl (cP, 6, .inr (.inr (.inr (.inr (fun _ => none))))))] ++ va_pl L f) := hD
  refine va_putF (D := (dC, dI)) (ci := 1) (v := .ref q_6) (ty := (.array (.array .int))) (C := RX2) (T := TX2) (N := 14) hx hb hts (by decide +kernel) tyX2 tyX2_ok nmX2 hown hK hP hD hS 0 rfl rfl 11 (by decide) (hts (.fieldLink RX2 34 "DayBench$Search" "apart" "[[I") (by decide +kernel)) (fun _ h9 => h9) rfl hin0 rfl (by decide +kernel) rfl rfl (Nat.le_of_ble_eq_true rfl) dX2_init_60 (fun H locs hP hD hS => ?_)
  have hP : va_P (dC, dI) vwCl ([(h0, .inr (1, [.ref q_1, .ref q_2, .int 0, .int 0, .int 0, .int 0, .int 0, .int 0, .ref q_3, .ref q_4, .ref q_5, .ref q_6, .null, .null])), (q_3, .inl (cP, 6, .inr (.inr (.inr (.inr (fun _ => none))))))] ++ va_pl L f) H := hP
  have hD : va_D A ([(h0, .inr (1, [.ref q_1, .ref q_2, .int 0, .int 0, .int 0, .int 0, .int 0, .int 0, .ref q_3, .ref q_4, .ref q_5, .ref q_6, .null, .null])), (q_3, .inl (cP, 6, .inr (.inr (.inr (.inr (fun _ => none))))))] ++ va_pl L f) := hD
  refine lv_aload_n hx hb dX2_init_63 rfl (lv_at hl 0 rfl) ?_
  refine lv_bipush (v := 7) hx hb dX2_init_64 (by decide) ?_
  refine lv_bipush (v := 6) hx hb dX2_init_66 (by decide) ?_
  refine cn_mna (own := RX2) (n := 7) hx hb hown (hts (.classLink RX2 32 "[[I") (by decide +kernel)) hnk.2.2.2.2.2.2 (hts (.arrayClass .int) (by decide +kernel)) hK hP hD hS hA hI hT 7 12 (by decide) (fun _ _ _ => rfl) (by decide) (by decide) (by decide) (Nat.le_of_ble_eq_true rfl) (Nat.le_of_ble_eq_true rfl) dX2_init_68 (fun q_7 H L tg f hP hD hS hI hT hg k_q_7 => ?_)
  refine W.widen (k := 24) (n := 155) (Nat.le_of_ble_eq_true rfl) (Nat.le_of_ble_eq_true rfl) ?_
  have k_q_1 := hg.at k_q_1
  have k_q_2 := hg.at k_q_2
  have k_q_4 := hg.at k_q_4
  have k_q_5 := hg.at k_q_5
  have k_q_6 := hg.at k_q_6
  have ra_q_3 := ra_q_3.up hg
  clear hg
  have hP : va_P (dC, dI) vwCl ([(h0, .inr (1, [.ref q_1, .ref q_2, .int 0, .int 0, .int 0, .int 0, .int 0, .int 0, .ref q_3, .ref q_4, .ref q_5, .ref q_6, .null, .null])), (q_3, .inl (cP, 6, .inr (.inr (.inr (.inr (fun _ => none))))))] ++ va_pl L f) H := hP
  have hD : va_D A ([(h0, .inr (1, [.ref q_1, .ref q_2, .int 0, .int 0, .int 0, .int 0, .int 0, .int 0, .ref q_3, .ref q_4, .ref q_5, .ref q_6, .null, .null])), (q_3, .inl (cP, 6, .inr (.inr (.inr (.inr (fun _ => none))))))] ++ va_pl L f) := hD
  refine va_putF (D := (dC, dI)) (ci := 1) (v := .ref q_7) (ty := (.array (.array .int))) (C := RX2) (T := TX2) (N := 14) hx hb hts (by decide +kernel) tyX2 tyX2_ok nmX2 hown hK hP hD hS 0 rfl rfl 12 (by decide) (hts (.fieldLink RX2 37 "DayBench$Search" "low" "[[I") (by decide +kernel)) (fun _ h9 => h9) rfl hin0 rfl (by decide +kernel) rfl rfl (Nat.le_of_ble_eq_true rfl) dX2_init_72 (fun H locs hP hD hS => ?_)
  have hP : va_P (dC, dI) vwCl ([(h0, .inr (1, [.ref q_1, .ref q_2, .int 0, .int 0, .int 0, .int 0, .int 0, .int 0, .ref q_3, .ref q_4, .ref q_5, .ref q_6, .ref q_7, .null])), (q_3, .inl (cP, 6, .inr (.inr (.inr (.inr (fun _ => none))))))] ++ va_pl L f) H := hP
  have hD : va_D A ([(h0, .inr (1, [.ref q_1, .ref q_2, .int 0, .int 0, .int 0, .int 0, .int 0, .int 0, .ref q_3, .ref q_4, .ref q_5, .ref q_6, .ref q_7, .null])), (q_3, .inl (cP, 6, .inr (.inr (.inr (.inr (fun _ => none))))))] ++ va_pl L f) := hD
  refine lv_aload_n hx hb dX2_init_75 rfl (lv_at hl 0 rfl) ?_
  refine lv_bipush (v := 7) hx hb dX2_init_76 (by decide) ?_
  refine lv_bipush (v := 6) hx hb dX2_init_78 (by decide) ?_
  refine cn_mna (own := RX2) (n := 7) hx hb hown (hts (.classLink RX2 32 "[[I") (by decide +kernel)) hnk.2.2.2.2.2.2 (hts (.arrayClass .int) (by decide +kernel)) hK hP hD hS hA hI hT 7 12 (by decide) (fun _ _ _ => rfl) (by decide) (by decide) (by decide) (Nat.le_of_ble_eq_true rfl) (Nat.le_of_ble_eq_true rfl) dX2_init_80 (fun q_8 H L tg f hP hD hS hI hT hg k_q_8 => ?_)
  refine W.widen (k := 32) (n := 204) (Nat.le_of_ble_eq_true rfl) (Nat.le_of_ble_eq_true rfl) ?_
  have k_q_1 := hg.at k_q_1
  have k_q_2 := hg.at k_q_2
  have k_q_4 := hg.at k_q_4
  have k_q_5 := hg.at k_q_5
  have k_q_6 := hg.at k_q_6
  have k_q_7 := hg.at k_q_7
  have ra_q_3 := ra_q_3.up hg
  clear hg
  have hP : va_P (dC, dI) vwCl ([(h0, .inr (1, [.ref q_1, .ref q_2, .int 0, .int 0, .int 0, .int 0, .int 0, .int 0, .ref q_3, .ref q_4, .ref q_5, .ref q_6, .ref q_7, .null])), (q_3, .inl (cP, 6, .inr (.inr (.inr (.inr (fun _ => none))))))] ++ va_pl L f) H := hP
  have hD : va_D A ([(h0, .inr (1, [.ref q_1, .ref q_2, .int 0, .int 0, .int 0, .int 0, .int 0, .int 0, .ref q_3, .ref q_4, .ref q_5, .ref q_6, .ref q_7, .null])), (q_3, .inl (cP, 6, .inr (.inr (.inr (.inr (fun _ => none))))))] ++ va_pl L f) := hD
  refine va_putF (D := (dC, dI)) (ci := 1) (v := .ref q_8) (ty := (.array (.array .int))) (C := RX2) (T := TX2) (N := 14) hx hb hts (by decide +kernel) tyX2 tyX2_ok nmX2 hown hK hP hD hS 0 rfl rfl 13 (by decide) (hts (.fieldLink RX2 40 "DayBench$Search" "high" "[[I") (by decide +kernel)) (fun _ h9 => h9) rfl hin0 rfl (by decide +kernel) rfl rfl (Nat.le_of_ble_eq_true rfl) dX2_init_84 (fun H locs hP hD hS => ?_)
  have hP : va_P (dC, dI) vwCl ([(h0, .inr (1, [.ref q_1, .ref q_2, .int 0, .int 0, .int 0, .int 0, .int 0, .int 0, .ref q_3, .ref q_4, .ref q_5, .ref q_6, .ref q_7, .ref q_8])), (q_3, .inl (cP, 6, .inr (.inr (.inr (.inr (fun _ => none))))))] ++ va_pl L f) H := hP
  have hD : va_D A ([(h0, .inr (1, [.ref q_1, .ref q_2, .int 0, .int 0, .int 0, .int 0, .int 0, .int 0, .ref q_3, .ref q_4, .ref q_5, .ref q_6, .ref q_7, .ref q_8])), (q_3, .inl (cP, 6, .inr (.inr (.inr (.inr (fun _ => none))))))] ++ va_pl L f) := hD
  refine lv_iconst (v := 0) hx hb dX2_init_87 (by decide) ?_
  refine lv_istore_n (lv' := [(1, .int 0), (0, .ref h0)]) hx hb dX2_init_88 rfl hl (by decide) rfl (fun ls hl => ?_)
  refine lv_iload_n hx hb dX2_init_89 rfl (lv_at hl 0 rfl) ?_
  refine lv_bipush (v := 6) hx hb dX2_init_90 (by decide) ?_
  refine lv_icmp_ge (tgt := 114) hx hb dX2_init_92 (by decide) (fun h_9 => ?_) (fun h_9 => ?_)
  · exact (by first | exact absurd h_9 (by decide) | exact absurd (by decide) h_9)
  · refine lv_aload_n hx hb dX2_init_95 rfl (lv_at hl 1 rfl) ?_
    refine va_get (D := (dC, dI)) (ci := 1) (v := .ref q_3) (C := RX2) (T := TX2) (N := 14) hx hb hts (by decide +kernel) hown hK hP 0 rfl rfl 8 (by decide) (hts (.fieldLink RX2 20 "DayBench$Search" "spans" "[LDayBench$Spans;") (by decide +kernel)) (fun _ h9 => h9) rfl dX2_init_96 ?_
    refine lv_iload_n hx hb dX2_init_99 rfl (lv_at hl 0 rfl) ?_
    refine cn_new (ci := 3) (fs := [.null, .null, .int 0]) (C := RX4) (T := TX4) (N := 3) hx hb hts (by decide +kernel) tyX4 tyX4_ok hown (hts (.classLink RX2 18 RX4) (by decide +kernel)) (hts (.instantiable RX4 3) (by decide +kernel)) (hts (.initialized RX4) (by decide +kernel)) hK hP hD hS hA rfl (fun j hj => by rcases (show j = 0 ∨ j = 1 ∨ j = 2 by omega) with rfl | rfl | rfl <;> rfl) (Nat.le_of_ble_eq_true rfl) (Nat.le_of_ble_eq_true rfl) dX2_init_100 (fun q_10 H hP hD hS => ?_)
    refine W.widen (k := 33) (n := 207) (Nat.le_of_ble_eq_true rfl) (Nat.le_of_ble_eq_true rfl) ?_
    have hP : va_P (dC, dI) vwCl ([(h0, .inr (1, [.ref q_1, .ref q_2, .int 0, .int 0, .int 0, .int 0, .int 0, .int 0, .ref q_3, .ref q_4, .ref q_5, .ref q_6, .ref q_7, .ref q_8])), (q_3, .inl (cP, 6, .inr (.inr (.inr (.inr (fun _ => none)))))), (q_10, .inr (3, [.null, .null, .int 0]))] ++ va_pl L f) H := hP
    have hD : va_D A ([(h0, .inr (1, [.ref q_1, .ref q_2, .int 0, .int 0, .int 0, .int 0, .int 0, .int 0, .ref q_3, .ref q_4, .ref q_5, .ref q_6, .ref q_7, .ref q_8])), (q_3, .inl (cP, 6, .inr (.inr (.inr (.inr (fun _ => none)))))), (q_10, .inr (3, [.null, .null, .int 0]))] ++ va_pl L f) := hD
    refine lv_dup hx hb dX2_init_103 rfl ?_
    have hPc := hP.sub (ws' := [(q_10, .inr (3, [.null, .null, .int 0]))]) [2] rfl
    have hDc := hD.sub (ws' := [(q_10, .inr (3, [.null, .null, .int 0]))]) [2] (by decide) rfl
    have hFc := va_free (wc := [(q_10, .inr (3, [.null, .null, .int 0]))]) hD hS hA [2] rfl
    refine va_callv (va_runIN (As := []) (rest := [.ref q_10, .int 0, .ref q_3]) ⟨hx, hb, hml, hown, hts⟩ (k_X4_init l dC dI cI cS cP cA H.size q_10) ⟨va_cnB (host := "DayBench") 0 hts gX2_init_X4_init_n24 rfl rfl rfl hnk.2.2.2.1 (hts (.initialized RX4) (by decide +kernel)) (by decide +kernel) ⟨Nat.le_of_ble_eq_true rfl, Nat.le_of_ble_eq_true rfl⟩, rfl, hts (.instanceMethod yX4_init) (by decide +kernel)⟩ ⟨nPre_blind, fun U hU hW => ⟨rfl, ⟨wPre_at hPc hK hDc hU hW, nk_warm hnk hW⟩⟩⟩ rfl rfl hl.1 rfl (lv_room (Nat.le_of_ble_eq_true rfl)) dX2_init_104 ⟨Nat.le_of_ble_eq_true rfl, Nat.le_of_ble_eq_true rfl⟩) hS (fun q9 _ h => hFc q9 h) hFc (fun u t H1 locs ht hvm hw hB hz1 hk1 hS => ?_)
    obtain ⟨hP1, hD1⟩ := hB
    rw [ht] at hP1
    obtain ⟨hI1, hT1, k_q_10⟩ := hw
    obtain ⟨hP, hD⟩ := va_joinQ (X := [(h0, .inr (1, [.ref q_1, .ref q_2, .int 0, .int 0, .int 0, .int 0, .int 0, .int 0, .ref q_3, .ref q_4, .ref q_5, .ref q_6, .ref q_7, .ref q_8])), (q_3, .inl (cP, 6, .inr (.inr (.inr (.inr (fun _ => none)))))), (q_10, .inr (3, [.null, .null, .int 0]))]) (cx := [(q_10, .inr (3, [.null, .null, .int 0]))]) (wr := [(h0, .inr (1, [.ref q_1, .ref q_2, .int 0, .int 0, .int 0, .int 0, .int 0, .int 0, .ref q_3, .ref q_4, .ref q_5, .ref q_6, .ref q_7, .ref q_8])), (q_3, .inl (cP, 6, .inr (.inr (.inr (.inr (fun _ => none))))))]) (w1 := va_pl u.1 u.2.2) (pl := va_pl L f) hP hD [2] [0, 1] rfl rfl (by decide) (by decide) hk1 hFc hP1 hD1
    obtain ⟨L, tg, f, hP, hD, hI, hT, hg, hg1⟩ := cw_join hP hD hI hT hI1 hT1
    have k_q_1 := hg.at k_q_1
    have k_q_2 := hg.at k_q_2
    have k_q_4 := hg.at k_q_4
    have k_q_5 := hg.at k_q_5
    have k_q_6 := hg.at k_q_6
    have k_q_7 := hg.at k_q_7
    have k_q_8 := hg.at k_q_8
    have ra_q_3 := ra_q_3.up hg
    have k_q_10 := hg1.at k_q_10
    clear hP1 hD1 hz1 hk1 hFc hPc hDc ht hg hg1 hI1 hT1
    generalize H1 = H at hP hS ⊢
    refine W.widen (k := 35) (n := 227) (Nat.le_of_ble_eq_true rfl) (Nat.le_of_ble_eq_true rfl) ?_
    have hP : va_P (dC, dI) vwCl ([(h0, .inr (1, [.ref q_1, .ref q_2, .int 0, .int 0, .int 0, .int 0, .int 0, .int 0, .ref q_3, .ref q_4, .ref q_5, .ref q_6, .ref q_7, .ref q_8])), (q_3, .inl (cP, 6, .inr (.inr (.inr (.inr (fun _ => none))))))] ++ va_pl L f) H := hP
    have hD : va_D A ([(h0, .inr (1, [.ref q_1, .ref q_2, .int 0, .int 0, .int 0, .int 0, .int 0, .int 0, .ref q_3, .ref q_4, .ref q_5, .ref q_6, .ref q_7, .ref q_8])), (q_3, .inl (cP, 6, .inr (.inr (.inr (.inr (fun _ => none))))))] ++ va_pl L f) := hD
    refine cn_aast (r := (RX4, TX4, 3)) (ci := 3) (i := 0) hx hb hK hP hD hS hI 1 2 rfl rfl k_q_10 (fun _ _ _ => rfl) rfl (by unfold vp_in; decide) dX2_init_107 (fun H locs hP hD hS => ?_)
    have hP : va_P (dC, dI) vwCl ([(h0, .inr (1, [.ref q_1, .ref q_2, .int 0, .int 0, .int 0, .int 0, .int 0, .int 0, .ref q_3, .ref q_4, .ref q_5, .ref q_6, .ref q_7, .ref q_8])), (q_3, .inl (cP, 6, .inr (.inr (.inr (.inr (va_up (fun _ => none) (0 : Int32).toNatClampNeg (some q_10)))))))] ++ va_pl L f) H := hP
    have hD : va_D A ([(h0, .inr (1, [.ref q_1, .ref q_2, .int 0, .int 0, .int 0, .int 0, .int 0, .int 0, .ref q_3, .ref q_4, .ref q_5, .ref q_6, .ref q_7, .ref q_8])), (q_3, .inl (cP, 6, .inr (.inr (.inr (.inr (va_up (fun _ => none) (0 : Int32).toNatClampNeg (some q_10)))))))] ++ va_pl L f) := hD
    have ra_q_3 := ra_q_3.set (i := 0) (by decide) k_q_10
    generalize va_up (fun _ => none) (0 : Int32).toNatClampNeg (some q_10) = g_11 at hP hD ra_q_3
    refine lv_iinc (v := 1) (lv' := [(1, .int 1), (0, .ref h0)]) hx hb dX2_init_108 hl (k := 0) rfl (by decide) (by decide) rfl (fun ls hl => ?_)
    refine lv_goto (tgt := 89) hx hb dX2_init_111 (by decide) ?_
    refine lv_iload_n hx hb dX2_init_89 rfl (lv_at hl 0 rfl) ?_
    refine lv_bipush (v := 6) hx hb dX2_init_90 (by decide) ?_
    refine lv_icmp_ge (tgt := 114) hx hb dX2_init_92 (by decide) (fun h_12 => ?_) (fun h_12 => ?_)
    · exact (by first | exact absurd h_12 (by decide) | exact absurd (by decide) h_12)
    · refine lv_aload_n hx hb dX2_init_95 rfl (lv_at hl 1 rfl) ?_
      refine va_get (D := (dC, dI)) (ci := 1) (v := .ref q_3) (C := RX2) (T := TX2) (N := 14) hx hb hts (by decide +kernel) hown hK hP 0 rfl rfl 8 (by decide) (hts (.fieldLink RX2 20 "DayBench$Search" "spans" "[LDayBench$Spans;") (by decide +kernel)) (fun _ h9 => h9) rfl dX2_init_96 ?_
      refine lv_iload_n hx hb dX2_init_99 rfl (lv_at hl 0 rfl) ?_
      refine cn_new (ci := 3) (fs := [.null, .null, .int 0]) (C := RX4) (T := TX4) (N := 3) hx hb hts (by decide +kernel) tyX4 tyX4_ok hown (hts (.classLink RX2 18 RX4) (by decide +kernel)) (hts (.instantiable RX4 3) (by decide +kernel)) (hts (.initialized RX4) (by decide +kernel)) hK hP hD hS hA rfl (fun j hj => by rcases (show j = 0 ∨ j = 1 ∨ j = 2 by omega) with rfl | rfl | rfl <;> rfl) (Nat.le_of_ble_eq_true rfl) (Nat.le_of_ble_eq_true rfl) dX2_init_100 (fun q_13 H hP hD hS => ?_)
      refine W.widen (k := 36) (n := 230) (Nat.le_of_ble_eq_true rfl) (Nat.le_of_ble_eq_true rfl) ?_
      have hP : va_P (dC, dI) vwCl ([(h0, .inr (1, [.ref q_1, .ref q_2, .int 0, .int 0, .int 0, .int 0, .int 0, .int 0, .ref q_3, .ref q_4, .ref q_5, .ref q_6, .ref q_7, .ref q_8])), (q_3, .inl (cP, 6, .inr (.inr (.inr (.inr g_11))))), (q_13, .inr (3, [.null, .null, .int 0]))] ++ va_pl L f) H := hP
      have hD : va_D A ([(h0, .inr (1, [.ref q_1, .ref q_2, .int 0, .int 0, .int 0, .int 0, .int 0, .int 0, .ref q_3, .ref q_4, .ref q_5, .ref q_6, .ref q_7, .ref q_8])), (q_3, .inl (cP, 6, .inr (.inr (.inr (.inr g_11))))), (q_13, .inr (3, [.null, .null, .int 0]))] ++ va_pl L f) := hD
      refine lv_dup hx hb dX2_init_103 rfl ?_
      have hPc := hP.sub (ws' := [(q_13, .inr (3, [.null, .null, .int 0]))]) [2] rfl
      have hDc := hD.sub (ws' := [(q_13, .inr (3, [.null, .null, .int 0]))]) [2] (by decide) rfl
      have hFc := va_free (wc := [(q_13, .inr (3, [.null, .null, .int 0]))]) hD hS hA [2] rfl
      refine va_callv (va_runIN (As := []) (rest := [.ref q_13, .int 1, .ref q_3]) ⟨hx, hb, hml, hown, hts⟩ (k_X4_init l dC dI cI cS cP cA H.size q_13) ⟨va_cnB (host := "DayBench") 0 hts gX2_init_X4_init_n24 rfl rfl rfl hnk.2.2.2.1 (hts (.initialized RX4) (by decide +kernel)) (by decide +kernel) ⟨Nat.le_of_ble_eq_true rfl, Nat.le_of_ble_eq_true rfl⟩, rfl, hts (.instanceMethod yX4_init) (by decide +kernel)⟩ ⟨nPre_blind, fun U hU hW => ⟨rfl, ⟨wPre_at hPc hK hDc hU hW, nk_warm hnk hW⟩⟩⟩ rfl rfl hl.1 rfl (lv_room (Nat.le_of_ble_eq_true rfl)) dX2_init_104 ⟨Nat.le_of_ble_eq_true rfl, Nat.le_of_ble_eq_true rfl⟩) hS (fun q9 _ h => hFc q9 h) hFc (fun u t H1 locs ht hvm hw hB hz1 hk1 hS => ?_)
      obtain ⟨hP1, hD1⟩ := hB
      rw [ht] at hP1
      obtain ⟨hI1, hT1, k_q_13⟩ := hw
      obtain ⟨hP, hD⟩ := va_joinQ (X := [(h0, .inr (1, [.ref q_1, .ref q_2, .int 0, .int 0, .int 0, .int 0, .int 0, .int 0, .ref q_3, .ref q_4, .ref q_5, .ref q_6, .ref q_7, .ref q_8])), (q_3, .inl (cP, 6, .inr (.inr (.inr (.inr g_11))))), (q_13, .inr (3, [.null, .null, .int 0]))]) (cx := [(q_13, .inr (3, [.null, .null, .int 0]))]) (wr := [(h0, .inr (1, [.ref q_1, .ref q_2, .int 0, .int 0, .int 0, .int 0, .int 0, .int 0, .ref q_3, .ref q_4, .ref q_5, .ref q_6, .ref q_7, .ref q_8])), (q_3, .inl (cP, 6, .inr (.inr (.inr (.inr g_11)))))]) (w1 := va_pl u.1 u.2.2) (pl := va_pl L f) hP hD [2] [0, 1] rfl rfl (by decide) (by decide) hk1 hFc hP1 hD1
      obtain ⟨L, tg, f, hP, hD, hI, hT, hg, hg1⟩ := cw_join hP hD hI hT hI1 hT1
      have k_q_1 := hg.at k_q_1
      have k_q_2 := hg.at k_q_2
      have k_q_4 := hg.at k_q_4
      have k_q_5 := hg.at k_q_5
      have k_q_6 := hg.at k_q_6
      have k_q_7 := hg.at k_q_7
      have k_q_8 := hg.at k_q_8
      have ra_q_3 := ra_q_3.up hg
      have k_q_13 := hg1.at k_q_13
      clear hP1 hD1 hz1 hk1 hFc hPc hDc ht hg hg1 hI1 hT1
      generalize H1 = H at hP hS ⊢
      refine W.widen (k := 38) (n := 250) (Nat.le_of_ble_eq_true rfl) (Nat.le_of_ble_eq_true rfl) ?_
      have hP : va_P (dC, dI) vwCl ([(h0, .inr (1, [.ref q_1, .ref q_2, .int 0, .int 0, .int 0, .int 0, .int 0, .int 0, .ref q_3, .ref q_4, .ref q_5, .ref q_6, .ref q_7, .ref q_8])), (q_3, .inl (cP, 6, .inr (.inr (.inr (.inr g_11)))))] ++ va_pl L f) H := hP
      have hD : va_D A ([(h0, .inr (1, [.ref q_1, .ref q_2, .int 0, .int 0, .int 0, .int 0, .int 0, .int 0, .ref q_3, .ref q_4, .ref q_5, .ref q_6, .ref q_7, .ref q_8])), (q_3, .inl (cP, 6, .inr (.inr (.inr (.inr g_11)))))] ++ va_pl L f) := hD
      refine cn_aast (r := (RX4, TX4, 3)) (ci := 3) (i := 1) hx hb hK hP hD hS hI 1 2 rfl rfl k_q_13 (fun _ _ _ => rfl) rfl (by unfold vp_in; decide) dX2_init_107 (fun H locs hP hD hS => ?_)
      have hP : va_P (dC, dI) vwCl ([(h0, .inr (1, [.ref q_1, .ref q_2, .int 0, .int 0, .int 0, .int 0, .int 0, .int 0, .ref q_3, .ref q_4, .ref q_5, .ref q_6, .ref q_7, .ref q_8])), (q_3, .inl (cP, 6, .inr (.inr (.inr (.inr (va_up g_11 (1 : Int32).toNatClampNeg (some q_13)))))))] ++ va_pl L f) H := hP
      have hD : va_D A ([(h0, .inr (1, [.ref q_1, .ref q_2, .int 0, .int 0, .int 0, .int 0, .int 0, .int 0, .ref q_3, .ref q_4, .ref q_5, .ref q_6, .ref q_7, .ref q_8])), (q_3, .inl (cP, 6, .inr (.inr (.inr (.inr (va_up g_11 (1 : Int32).toNatClampNeg (some q_13)))))))] ++ va_pl L f) := hD
      have ra_q_3 := ra_q_3.set (i := 1) (by decide) k_q_13
      generalize va_up g_11 (1 : Int32).toNatClampNeg (some q_13) = g_14 at hP hD ra_q_3
      refine lv_iinc (v := 2) (lv' := [(1, .int 2), (0, .ref h0)]) hx hb dX2_init_108 hl (k := 0) rfl (by decide) (by decide) rfl (fun ls hl => ?_)
      refine lv_goto (tgt := 89) hx hb dX2_init_111 (by decide) ?_
      refine lv_iload_n hx hb dX2_init_89 rfl (lv_at hl 0 rfl) ?_
      refine lv_bipush (v := 6) hx hb dX2_init_90 (by decide) ?_
      refine lv_icmp_ge (tgt := 114) hx hb dX2_init_92 (by decide) (fun h_15 => ?_) (fun h_15 => ?_)
      · exact (by first | exact absurd h_15 (by decide) | exact absurd (by decide) h_15)
      · refine lv_aload_n hx hb dX2_init_95 rfl (lv_at hl 1 rfl) ?_
        refine va_get (D := (dC, dI)) (ci := 1) (v := .ref q_3) (C := RX2) (T := TX2) (N := 14) hx hb hts (by decide +kernel) hown hK hP 0 rfl rfl 8 (by decide) (hts (.fieldLink RX2 20 "DayBench$Search" "spans" "[LDayBench$Spans;") (by decide +kernel)) (fun _ h9 => h9) rfl dX2_init_96 ?_
        refine lv_iload_n hx hb dX2_init_99 rfl (lv_at hl 0 rfl) ?_
        refine cn_new (ci := 3) (fs := [.null, .null, .int 0]) (C := RX4) (T := TX4) (N := 3) hx hb hts (by decide +kernel) tyX4 tyX4_ok hown (hts (.classLink RX2 18 RX4) (by decide +kernel)) (hts (.instantiable RX4 3) (by decide +kernel)) (hts (.initialized RX4) (by decide +kernel)) hK hP hD hS hA rfl (fun j hj => by rcases (show j = 0 ∨ j = 1 ∨ j = 2 by omega) with rfl | rfl | rfl <;> rfl) (Nat.le_of_ble_eq_true rfl) (Nat.le_of_ble_eq_true rfl) dX2_init_100 (fun q_16 H hP hD hS => ?_)
        refine W.widen (k := 39) (n := 253) (Nat.le_of_ble_eq_true rfl) (Nat.le_of_ble_eq_true rfl) ?_
        have hP : va_P (dC, dI) vwCl ([(h0, .inr (1, [.ref q_1, .ref q_2, .int 0, .int 0, .int 0, .int 0, .int 0, .int 0, .ref q_3, .ref q_4, .ref q_5, .ref q_6, .ref q_7, .ref q_8])), (q_3, .inl (cP, 6, .inr (.inr (.inr (.inr g_14))))), (q_16, .inr (3, [.null, .null, .int 0]))] ++ va_pl L f) H := hP
        have hD : va_D A ([(h0, .inr (1, [.ref q_1, .ref q_2, .int 0, .int 0, .int 0, .int 0, .int 0, .int 0, .ref q_3, .ref q_4, .ref q_5, .ref q_6, .ref q_7, .ref q_8])), (q_3, .inl (cP, 6, .inr (.inr (.inr (.inr g_14))))), (q_16, .inr (3, [.null, .null, .int 0]))] ++ va_pl L f) := hD
        refine lv_dup hx hb dX2_init_103 rfl ?_
        have hPc := hP.sub (ws' := [(q_16, .inr (3, [.null, .null, .int 0]))]) [2] rfl
        have hDc := hD.sub (ws' := [(q_16, .inr (3, [.null, .null, .int 0]))]) [2] (by decide) rfl
        have hFc := va_free (wc := [(q_16, .inr (3, [.null, .null, .int 0]))]) hD hS hA [2] rfl
        refine va_callv (va_runIN (As := []) (rest := [.ref q_16, .int 2, .ref q_3]) ⟨hx, hb, hml, hown, hts⟩ (k_X4_init l dC dI cI cS cP cA H.size q_16) ⟨va_cnB (host := "DayBench") 0 hts gX2_init_X4_init_n24 rfl rfl rfl hnk.2.2.2.1 (hts (.initialized RX4) (by decide +kernel)) (by decide +kernel) ⟨Nat.le_of_ble_eq_true rfl, Nat.le_of_ble_eq_true rfl⟩, rfl, hts (.instanceMethod yX4_init) (by decide +kernel)⟩ ⟨nPre_blind, fun U hU hW => ⟨rfl, ⟨wPre_at hPc hK hDc hU hW, nk_warm hnk hW⟩⟩⟩ rfl rfl hl.1 rfl (lv_room (Nat.le_of_ble_eq_true rfl)) dX2_init_104 ⟨Nat.le_of_ble_eq_true rfl, Nat.le_of_ble_eq_true rfl⟩) hS (fun q9 _ h => hFc q9 h) hFc (fun u t H1 locs ht hvm hw hB hz1 hk1 hS => ?_)
        obtain ⟨hP1, hD1⟩ := hB
        rw [ht] at hP1
        obtain ⟨hI1, hT1, k_q_16⟩ := hw
        obtain ⟨hP, hD⟩ := va_joinQ (X := [(h0, .inr (1, [.ref q_1, .ref q_2, .int 0, .int 0, .int 0, .int 0, .int 0, .int 0, .ref q_3, .ref q_4, .ref q_5, .ref q_6, .ref q_7, .ref q_8])), (q_3, .inl (cP, 6, .inr (.inr (.inr (.inr g_14))))), (q_16, .inr (3, [.null, .null, .int 0]))]) (cx := [(q_16, .inr (3, [.null, .null, .int 0]))]) (wr := [(h0, .inr (1, [.ref q_1, .ref q_2, .int 0, .int 0, .int 0, .int 0, .int 0, .int 0, .ref q_3, .ref q_4, .ref q_5, .ref q_6, .ref q_7, .ref q_8])), (q_3, .inl (cP, 6, .inr (.inr (.inr (.inr g_14)))))]) (w1 := va_pl u.1 u.2.2) (pl := va_pl L f) hP hD [2] [0, 1] rfl rfl (by decide) (by decide) hk1 hFc hP1 hD1
        obtain ⟨L, tg, f, hP, hD, hI, hT, hg, hg1⟩ := cw_join hP hD hI hT hI1 hT1
        have k_q_1 := hg.at k_q_1
        have k_q_2 := hg.at k_q_2
        have k_q_4 := hg.at k_q_4
        have k_q_5 := hg.at k_q_5
        have k_q_6 := hg.at k_q_6
        have k_q_7 := hg.at k_q_7
        have k_q_8 := hg.at k_q_8
        have ra_q_3 := ra_q_3.up hg
        have k_q_16 := hg1.at k_q_16
        clear hP1 hD1 hz1 hk1 hFc hPc hDc ht hg hg1 hI1 hT1
        generalize H1 = H at hP hS ⊢
        refine W.widen (k := 41) (n := 273) (Nat.le_of_ble_eq_true rfl) (Nat.le_of_ble_eq_true rfl) ?_
        have hP : va_P (dC, dI) vwCl ([(h0, .inr (1, [.ref q_1, .ref q_2, .int 0, .int 0, .int 0, .int 0, .int 0, .int 0, .ref q_3, .ref q_4, .ref q_5, .ref q_6, .ref q_7, .ref q_8])), (q_3, .inl (cP, 6, .inr (.inr (.inr (.inr g_14)))))] ++ va_pl L f) H := hP
        have hD : va_D A ([(h0, .inr (1, [.ref q_1, .ref q_2, .int 0, .int 0, .int 0, .int 0, .int 0, .int 0, .ref q_3, .ref q_4, .ref q_5, .ref q_6, .ref q_7, .ref q_8])), (q_3, .inl (cP, 6, .inr (.inr (.inr (.inr g_14)))))] ++ va_pl L f) := hD
        refine cn_aast (r := (RX4, TX4, 3)) (ci := 3) (i := 2) hx hb hK hP hD hS hI 1 2 rfl rfl k_q_16 (fun _ _ _ => rfl) rfl (by unfold vp_in; decide) dX2_init_107 (fun H locs hP hD hS => ?_)
        have hP : va_P (dC, dI) vwCl ([(h0, .inr (1, [.ref q_1, .ref q_2, .int 0, .int 0, .int 0, .int 0, .int 0, .int 0, .ref q_3, .ref q_4, .ref q_5, .ref q_6, .ref q_7, .ref q_8])), (q_3, .inl (cP, 6, .inr (.inr (.inr (.inr (va_up g_14 (2 : Int32).toNatClampNeg (some q_16)))))))] ++ va_pl L f) H := hP
        have hD : va_D A ([(h0, .inr (1, [.ref q_1, .ref q_2, .int 0, .int 0, .int 0, .int 0, .int 0, .int 0, .ref q_3, .ref q_4, .ref q_5, .ref q_6, .ref q_7, .ref q_8])), (q_3, .inl (cP, 6, .inr (.inr (.inr (.inr (va_up g_14 (2 : Int32).toNatClampNeg (some q_16)))))))] ++ va_pl L f) := hD
        have ra_q_3 := ra_q_3.set (i := 2) (by decide) k_q_16
        generalize va_up g_14 (2 : Int32).toNatClampNeg (some q_16) = g_17 at hP hD ra_q_3
        refine lv_iinc (v := 3) (lv' := [(1, .int 3), (0, .ref h0)]) hx hb dX2_init_108 hl (k := 0) rfl (by decide) (by decide) rfl (fun ls hl => ?_)
        refine lv_goto (tgt := 89) hx hb dX2_init_111 (by decide) ?_
        refine lv_iload_n hx hb dX2_init_89 rfl (lv_at hl 0 rfl) ?_
        refine lv_bipush (v := 6) hx hb dX2_init_90 (by decide) ?_
        refine lv_icmp_ge (tgt := 114) hx hb dX2_init_92 (by decide) (fun h_18 => ?_) (fun h_18 => ?_)
        · exact (by first | exact absurd h_18 (by decide) | exact absurd (by decide) h_18)
        · refine lv_aload_n hx hb dX2_init_95 rfl (lv_at hl 1 rfl) ?_
          refine va_get (D := (dC, dI)) (ci := 1) (v := .ref q_3) (C := RX2) (T := TX2) (N := 14) hx hb hts (by decide +kernel) hown hK hP 0 rfl rfl 8 (by decide) (hts (.fieldLink RX2 20 "DayBench$Search" "spans" "[LDayBench$Spans;") (by decide +kernel)) (fun _ h9 => h9) rfl dX2_init_96 ?_
          refine lv_iload_n hx hb dX2_init_99 rfl (lv_at hl 0 rfl) ?_
          refine cn_new (ci := 3) (fs := [.null, .null, .int 0]) (C := RX4) (T := TX4) (N := 3) hx hb hts (by decide +kernel) tyX4 tyX4_ok hown (hts (.classLink RX2 18 RX4) (by decide +kernel)) (hts (.instantiable RX4 3) (by decide +kernel)) (hts (.initialized RX4) (by decide +kernel)) hK hP hD hS hA rfl (fun j hj => by rcases (show j = 0 ∨ j = 1 ∨ j = 2 by omega) with rfl | rfl | rfl <;> rfl) (Nat.le_of_ble_eq_true rfl) (Nat.le_of_ble_eq_true rfl) dX2_init_100 (fun q_19 H hP hD hS => ?_)
          refine W.widen (k := 42) (n := 276) (Nat.le_of_ble_eq_true rfl) (Nat.le_of_ble_eq_true rfl) ?_
          have hP : va_P (dC, dI) vwCl ([(h0, .inr (1, [.ref q_1, .ref q_2, .int 0, .int 0, .int 0, .int 0, .int 0, .int 0, .ref q_3, .ref q_4, .ref q_5, .ref q_6, .ref q_7, .ref q_8])), (q_3, .inl (cP, 6, .inr (.inr (.inr (.inr g_17))))), (q_19, .inr (3, [.null, .null, .int 0]))] ++ va_pl L f) H := hP
          have hD : va_D A ([(h0, .inr (1, [.ref q_1, .ref q_2, .int 0, .int 0, .int 0, .int 0, .int 0, .int 0, .ref q_3, .ref q_4, .ref q_5, .ref q_6, .ref q_7, .ref q_8])), (q_3, .inl (cP, 6, .inr (.inr (.inr (.inr g_17))))), (q_19, .inr (3, [.null, .null, .int 0]))] ++ va_pl L f) := hD
          refine lv_dup hx hb dX2_init_103 rfl ?_
          have hPc := hP.sub (ws' := [(q_19, .inr (3, [.null, .null, .int 0]))]) [2] rfl
          have hDc := hD.sub (ws' := [(q_19, .inr (3, [.null, .null, .int 0]))]) [2] (by decide) rfl
          have hFc := va_free (wc := [(q_19, .inr (3, [.null, .null, .int 0]))]) hD hS hA [2] rfl
          refine va_callv (va_runIN (As := []) (rest := [.ref q_19, .int 3, .ref q_3]) ⟨hx, hb, hml, hown, hts⟩ (k_X4_init l dC dI cI cS cP cA H.size q_19) ⟨va_cnB (host := "DayBench") 0 hts gX2_init_X4_init_n24 rfl rfl rfl hnk.2.2.2.1 (hts (.initialized RX4) (by decide +kernel)) (by decide +kernel) ⟨Nat.le_of_ble_eq_true rfl, Nat.le_of_ble_eq_true rfl⟩, rfl, hts (.instanceMethod yX4_init) (by decide +kernel)⟩ ⟨nPre_blind, fun U hU hW => ⟨rfl, ⟨wPre_at hPc hK hDc hU hW, nk_warm hnk hW⟩⟩⟩ rfl rfl hl.1 rfl (lv_room (Nat.le_of_ble_eq_true rfl)) dX2_init_104 ⟨Nat.le_of_ble_eq_true rfl, Nat.le_of_ble_eq_true rfl⟩) hS (fun q9 _ h => hFc q9 h) hFc (fun u t H1 locs ht hvm hw hB hz1 hk1 hS => ?_)
          obtain ⟨hP1, hD1⟩ := hB
          rw [ht] at hP1
          obtain ⟨hI1, hT1, k_q_19⟩ := hw
          obtain ⟨hP, hD⟩ := va_joinQ (X := [(h0, .inr (1, [.ref q_1, .ref q_2, .int 0, .int 0, .int 0, .int 0, .int 0, .int 0, .ref q_3, .ref q_4, .ref q_5, .ref q_6, .ref q_7, .ref q_8])), (q_3, .inl (cP, 6, .inr (.inr (.inr (.inr g_17))))), (q_19, .inr (3, [.null, .null, .int 0]))]) (cx := [(q_19, .inr (3, [.null, .null, .int 0]))]) (wr := [(h0, .inr (1, [.ref q_1, .ref q_2, .int 0, .int 0, .int 0, .int 0, .int 0, .int 0, .ref q_3, .ref q_4, .ref q_5, .ref q_6, .ref q_7, .ref q_8])), (q_3, .inl (cP, 6, .inr (.inr (.inr (.inr g_17)))))]) (w1 := va_pl u.1 u.2.2) (pl := va_pl L f) hP hD [2] [0, 1] rfl rfl (by decide) (by decide) hk1 hFc hP1 hD1
          obtain ⟨L, tg, f, hP, hD, hI, hT, hg, hg1⟩ := cw_join hP hD hI hT hI1 hT1
          have k_q_1 := hg.at k_q_1
          have k_q_2 := hg.at k_q_2
          have k_q_4 := hg.at k_q_4
          have k_q_5 := hg.at k_q_5
          have k_q_6 := hg.at k_q_6
          have k_q_7 := hg.at k_q_7
          have k_q_8 := hg.at k_q_8
          have ra_q_3 := ra_q_3.up hg
          have k_q_19 := hg1.at k_q_19
          clear hP1 hD1 hz1 hk1 hFc hPc hDc ht hg hg1 hI1 hT1
          generalize H1 = H at hP hS ⊢
          refine W.widen (k := 44) (n := 296) (Nat.le_of_ble_eq_true rfl) (Nat.le_of_ble_eq_true rfl) ?_
          have hP : va_P (dC, dI) vwCl ([(h0, .inr (1, [.ref q_1, .ref q_2, .int 0, .int 0, .int 0, .int 0, .int 0, .int 0, .ref q_3, .ref q_4, .ref q_5, .ref q_6, .ref q_7, .ref q_8])), (q_3, .inl (cP, 6, .inr (.inr (.inr (.inr g_17)))))] ++ va_pl L f) H := hP
          have hD : va_D A ([(h0, .inr (1, [.ref q_1, .ref q_2, .int 0, .int 0, .int 0, .int 0, .int 0, .int 0, .ref q_3, .ref q_4, .ref q_5, .ref q_6, .ref q_7, .ref q_8])), (q_3, .inl (cP, 6, .inr (.inr (.inr (.inr g_17)))))] ++ va_pl L f) := hD
          refine cn_aast (r := (RX4, TX4, 3)) (ci := 3) (i := 3) hx hb hK hP hD hS hI 1 2 rfl rfl k_q_19 (fun _ _ _ => rfl) rfl (by unfold vp_in; decide) dX2_init_107 (fun H locs hP hD hS => ?_)
          have hP : va_P (dC, dI) vwCl ([(h0, .inr (1, [.ref q_1, .ref q_2, .int 0, .int 0, .int 0, .int 0, .int 0, .int 0, .ref q_3, .ref q_4, .ref q_5, .ref q_6, .ref q_7, .ref q_8])), (q_3, .inl (cP, 6, .inr (.inr (.inr (.inr (va_up g_17 (3 : Int32).toNatClampNeg (some q_19)))))))] ++ va_pl L f) H := hP
          have hD : va_D A ([(h0, .inr (1, [.ref q_1, .ref q_2, .int 0, .int 0, .int 0, .int 0, .int 0, .int 0, .ref q_3, .ref q_4, .ref q_5, .ref q_6, .ref q_7, .ref q_8])), (q_3, .inl (cP, 6, .inr (.inr (.inr (.inr (va_up g_17 (3 : Int32).toNatClampNeg (some q_19)))))))] ++ va_pl L f) := hD
          have ra_q_3 := ra_q_3.set (i := 3) (by decide) k_q_19
          generalize va_up g_17 (3 : Int32).toNatClampNeg (some q_19) = g_20 at hP hD ra_q_3
          refine lv_iinc (v := 4) (lv' := [(1, .int 4), (0, .ref h0)]) hx hb dX2_init_108 hl (k := 0) rfl (by decide) (by decide) rfl (fun ls hl => ?_)
          refine lv_goto (tgt := 89) hx hb dX2_init_111 (by decide) ?_
          refine lv_iload_n hx hb dX2_init_89 rfl (lv_at hl 0 rfl) ?_
          refine lv_bipush (v := 6) hx hb dX2_init_90 (by decide) ?_
          refine lv_icmp_ge (tgt := 114) hx hb dX2_init_92 (by decide) (fun h_21 => ?_) (fun h_21 => ?_)
          · exact (by first | exact absurd h_21 (by decide) | exact absurd (by decide) h_21)
          · refine lv_aload_n hx hb dX2_init_95 rfl (lv_at hl 1 rfl) ?_
            refine va_get (D := (dC, dI)) (ci := 1) (v := .ref q_3) (C := RX2) (T := TX2) (N := 14) hx hb hts (by decide +kernel) hown hK hP 0 rfl rfl 8 (by decide) (hts (.fieldLink RX2 20 "DayBench$Search" "spans" "[LDayBench$Spans;") (by decide +kernel)) (fun _ h9 => h9) rfl dX2_init_96 ?_
            refine lv_iload_n hx hb dX2_init_99 rfl (lv_at hl 0 rfl) ?_
            refine cn_new (ci := 3) (fs := [.null, .null, .int 0]) (C := RX4) (T := TX4) (N := 3) hx hb hts (by decide +kernel) tyX4 tyX4_ok hown (hts (.classLink RX2 18 RX4) (by decide +kernel)) (hts (.instantiable RX4 3) (by decide +kernel)) (hts (.initialized RX4) (by decide +kernel)) hK hP hD hS hA rfl (fun j hj => by rcases (show j = 0 ∨ j = 1 ∨ j = 2 by omega) with rfl | rfl | rfl <;> rfl) (Nat.le_of_ble_eq_true rfl) (Nat.le_of_ble_eq_true rfl) dX2_init_100 (fun q_22 H hP hD hS => ?_)
            refine W.widen (k := 45) (n := 299) (Nat.le_of_ble_eq_true rfl) (Nat.le_of_ble_eq_true rfl) ?_
            have hP : va_P (dC, dI) vwCl ([(h0, .inr (1, [.ref q_1, .ref q_2, .int 0, .int 0, .int 0, .int 0, .int 0, .int 0, .ref q_3, .ref q_4, .ref q_5, .ref q_6, .ref q_7, .ref q_8])), (q_3, .inl (cP, 6, .inr (.inr (.inr (.inr g_20))))), (q_22, .inr (3, [.null, .null, .int 0]))] ++ va_pl L f) H := hP
            have hD : va_D A ([(h0, .inr (1, [.ref q_1, .ref q_2, .int 0, .int 0, .int 0, .int 0, .int 0, .int 0, .ref q_3, .ref q_4, .ref q_5, .ref q_6, .ref q_7, .ref q_8])), (q_3, .inl (cP, 6, .inr (.inr (.inr (.inr g_20))))), (q_22, .inr (3, [.null, .null, .int 0]))] ++ va_pl L f) := hD
            refine lv_dup hx hb dX2_init_103 rfl ?_
            have hPc := hP.sub (ws' := [(q_22, .inr (3, [.null, .null, .int 0]))]) [2] rfl
            have hDc := hD.sub (ws' := [(q_22, .inr (3, [.null, .null, .int 0]))]) [2] (by decide) rfl
            have hFc := va_free (wc := [(q_22, .inr (3, [.null, .null, .int 0]))]) hD hS hA [2] rfl
            refine va_callv (va_runIN (As := []) (rest := [.ref q_22, .int 4, .ref q_3]) ⟨hx, hb, hml, hown, hts⟩ (k_X4_init l dC dI cI cS cP cA H.size q_22) ⟨va_cnB (host := "DayBench") 0 hts gX2_init_X4_init_n24 rfl rfl rfl hnk.2.2.2.1 (hts (.initialized RX4) (by decide +kernel)) (by decide +kernel) ⟨Nat.le_of_ble_eq_true rfl, Nat.le_of_ble_eq_true rfl⟩, rfl, hts (.instanceMethod yX4_init) (by decide +kernel)⟩ ⟨nPre_blind, fun U hU hW => ⟨rfl, ⟨wPre_at hPc hK hDc hU hW, nk_warm hnk hW⟩⟩⟩ rfl rfl hl.1 rfl (lv_room (Nat.le_of_ble_eq_true rfl)) dX2_init_104 ⟨Nat.le_of_ble_eq_true rfl, Nat.le_of_ble_eq_true rfl⟩) hS (fun q9 _ h => hFc q9 h) hFc (fun u t H1 locs ht hvm hw hB hz1 hk1 hS => ?_)
            obtain ⟨hP1, hD1⟩ := hB
            rw [ht] at hP1
            obtain ⟨hI1, hT1, k_q_22⟩ := hw
            obtain ⟨hP, hD⟩ := va_joinQ (X := [(h0, .inr (1, [.ref q_1, .ref q_2, .int 0, .int 0, .int 0, .int 0, .int 0, .int 0, .ref q_3, .ref q_4, .ref q_5, .ref q_6, .ref q_7, .ref q_8])), (q_3, .inl (cP, 6, .inr (.inr (.inr (.inr g_20))))), (q_22, .inr (3, [.null, .null, .int 0]))]) (cx := [(q_22, .inr (3, [.null, .null, .int 0]))]) (wr := [(h0, .inr (1, [.ref q_1, .ref q_2, .int 0, .int 0, .int 0, .int 0, .int 0, .int 0, .ref q_3, .ref q_4, .ref q_5, .ref q_6, .ref q_7, .ref q_8])), (q_3, .inl (cP, 6, .inr (.inr (.inr (.inr g_20)))))]) (w1 := va_pl u.1 u.2.2) (pl := va_pl L f) hP hD [2] [0, 1] rfl rfl (by decide) (by decide) hk1 hFc hP1 hD1
            obtain ⟨L, tg, f, hP, hD, hI, hT, hg, hg1⟩ := cw_join hP hD hI hT hI1 hT1
            have k_q_1 := hg.at k_q_1
            have k_q_2 := hg.at k_q_2
            have k_q_4 := hg.at k_q_4
            have k_q_5 := hg.at k_q_5
            have k_q_6 := hg.at k_q_6
            have k_q_7 := hg.at k_q_7
            have k_q_8 := hg.at k_q_8
            have ra_q_3 := ra_q_3.up hg
            have k_q_22 := hg1.at k_q_22
            clear hP1 hD1 hz1 hk1 hFc hPc hDc ht hg hg1 hI1 hT1
            generalize H1 = H at hP hS ⊢
            refine W.widen (k := 47) (n := 319) (Nat.le_of_ble_eq_true rfl) (Nat.le_of_ble_eq_true rfl) ?_
            have hP : va_P (dC, dI) vwCl ([(h0, .inr (1, [.ref q_1, .ref q_2, .int 0, .int 0, .int 0, .int 0, .int 0, .int 0, .ref q_3, .ref q_4, .ref q_5, .ref q_6, .ref q_7, .ref q_8])), (q_3, .inl (cP, 6, .inr (.inr (.inr (.inr g_20)))))] ++ va_pl L f) H := hP
            have hD : va_D A ([(h0, .inr (1, [.ref q_1, .ref q_2, .int 0, .int 0, .int 0, .int 0, .int 0, .int 0, .ref q_3, .ref q_4, .ref q_5, .ref q_6, .ref q_7, .ref q_8])), (q_3, .inl (cP, 6, .inr (.inr (.inr (.inr g_20)))))] ++ va_pl L f) := hD
            refine cn_aast (r := (RX4, TX4, 3)) (ci := 3) (i := 4) hx hb hK hP hD hS hI 1 2 rfl rfl k_q_22 (fun _ _ _ => rfl) rfl (by unfold vp_in; decide) dX2_init_107 (fun H locs hP hD hS => ?_)
            have hP : va_P (dC, dI) vwCl ([(h0, .inr (1, [.ref q_1, .ref q_2, .int 0, .int 0, .int 0, .int 0, .int 0, .int 0, .ref q_3, .ref q_4, .ref q_5, .ref q_6, .ref q_7, .ref q_8])), (q_3, .inl (cP, 6, .inr (.inr (.inr (.inr (va_up g_20 (4 : Int32).toNatClampNeg (some q_22)))))))] ++ va_pl L f) H := hP
            have hD : va_D A ([(h0, .inr (1, [.ref q_1, .ref q_2, .int 0, .int 0, .int 0, .int 0, .int 0, .int 0, .ref q_3, .ref q_4, .ref q_5, .ref q_6, .ref q_7, .ref q_8])), (q_3, .inl (cP, 6, .inr (.inr (.inr (.inr (va_up g_20 (4 : Int32).toNatClampNeg (some q_22)))))))] ++ va_pl L f) := hD
            have ra_q_3 := ra_q_3.set (i := 4) (by decide) k_q_22
            generalize va_up g_20 (4 : Int32).toNatClampNeg (some q_22) = g_23 at hP hD ra_q_3
            refine lv_iinc (v := 5) (lv' := [(1, .int 5), (0, .ref h0)]) hx hb dX2_init_108 hl (k := 0) rfl (by decide) (by decide) rfl (fun ls hl => ?_)
            refine lv_goto (tgt := 89) hx hb dX2_init_111 (by decide) ?_
            refine lv_iload_n hx hb dX2_init_89 rfl (lv_at hl 0 rfl) ?_
            refine lv_bipush (v := 6) hx hb dX2_init_90 (by decide) ?_
            refine lv_icmp_ge (tgt := 114) hx hb dX2_init_92 (by decide) (fun h_24 => ?_) (fun h_24 => ?_)
            · exact (by first | exact absurd h_24 (by decide) | exact absurd (by decide) h_24)
            · refine lv_aload_n hx hb dX2_init_95 rfl (lv_at hl 1 rfl) ?_
              refine va_get (D := (dC, dI)) (ci := 1) (v := .ref q_3) (C := RX2) (T := TX2) (N := 14) hx hb hts (by decide +kernel) hown hK hP 0 rfl rfl 8 (by decide) (hts (.fieldLink RX2 20 "DayBench$Search" "spans" "[LDayBench$Spans;") (by decide +kernel)) (fun _ h9 => h9) rfl dX2_init_96 ?_
              refine lv_iload_n hx hb dX2_init_99 rfl (lv_at hl 0 rfl) ?_
              refine cn_new (ci := 3) (fs := [.null, .null, .int 0]) (C := RX4) (T := TX4) (N := 3) hx hb hts (by decide +kernel) tyX4 tyX4_ok hown (hts (.classLink RX2 18 RX4) (by decide +kernel)) (hts (.instantiable RX4 3) (by decide +kernel)) (hts (.initialized RX4) (by decide +kernel)) hK hP hD hS hA rfl (fun j hj => by rcases (show j = 0 ∨ j = 1 ∨ j = 2 by omega) with rfl | rfl | rfl <;> rfl) (Nat.le_of_ble_eq_true rfl) (Nat.le_of_ble_eq_true rfl) dX2_init_100 (fun q_25 H hP hD hS => ?_)
              refine W.widen (k := 48) (n := 322) (Nat.le_of_ble_eq_true rfl) (Nat.le_of_ble_eq_true rfl) ?_
              have hP : va_P (dC, dI) vwCl ([(h0, .inr (1, [.ref q_1, .ref q_2, .int 0, .int 0, .int 0, .int 0, .int 0, .int 0, .ref q_3, .ref q_4, .ref q_5, .ref q_6, .ref q_7, .ref q_8])), (q_3, .inl (cP, 6, .inr (.inr (.inr (.inr g_23))))), (q_25, .inr (3, [.null, .null, .int 0]))] ++ va_pl L f) H := hP
              have hD : va_D A ([(h0, .inr (1, [.ref q_1, .ref q_2, .int 0, .int 0, .int 0, .int 0, .int 0, .int 0, .ref q_3, .ref q_4, .ref q_5, .ref q_6, .ref q_7, .ref q_8])), (q_3, .inl (cP, 6, .inr (.inr (.inr (.inr g_23))))), (q_25, .inr (3, [.null, .null, .int 0]))] ++ va_pl L f) := hD
              refine lv_dup hx hb dX2_init_103 rfl ?_
              have hPc := hP.sub (ws' := [(q_25, .inr (3, [.null, .null, .int 0]))]) [2] rfl
              have hDc := hD.sub (ws' := [(q_25, .inr (3, [.null, .null, .int 0]))]) [2] (by decide) rfl
              have hFc := va_free (wc := [(q_25, .inr (3, [.null, .null, .int 0]))]) hD hS hA [2] rfl
              refine va_callv (va_runIN (As := []) (rest := [.ref q_25, .int 5, .ref q_3]) ⟨hx, hb, hml, hown, hts⟩ (k_X4_init l dC dI cI cS cP cA H.size q_25) ⟨va_cnB (host := "DayBench") 0 hts gX2_init_X4_init_n24 rfl rfl rfl hnk.2.2.2.1 (hts (.initialized RX4) (by decide +kernel)) (by decide +kernel) ⟨Nat.le_of_ble_eq_true rfl, Nat.le_of_ble_eq_true rfl⟩, rfl, hts (.instanceMethod yX4_init) (by decide +kernel)⟩ ⟨nPre_blind, fun U hU hW => ⟨rfl, ⟨wPre_at hPc hK hDc hU hW, nk_warm hnk hW⟩⟩⟩ rfl rfl hl.1 rfl (lv_room (Nat.le_of_ble_eq_true rfl)) dX2_init_104 ⟨Nat.le_of_ble_eq_true rfl, Nat.le_of_ble_eq_true rfl⟩) hS (fun q9 _ h => hFc q9 h) hFc (fun u t H1 locs ht hvm hw hB hz1 hk1 hS => ?_)
              obtain ⟨hP1, hD1⟩ := hB
              rw [ht] at hP1
              obtain ⟨hI1, hT1, k_q_25⟩ := hw
              obtain ⟨hP, hD⟩ := va_joinQ (X := [(h0, .inr (1, [.ref q_1, .ref q_2, .int 0, .int 0, .int 0, .int 0, .int 0, .int 0, .ref q_3, .ref q_4, .ref q_5, .ref q_6, .ref q_7, .ref q_8])), (q_3, .inl (cP, 6, .inr (.inr (.inr (.inr g_23))))), (q_25, .inr (3, [.null, .null, .int 0]))]) (cx := [(q_25, .inr (3, [.null, .null, .int 0]))]) (wr := [(h0, .inr (1, [.ref q_1, .ref q_2, .int 0, .int 0, .int 0, .int 0, .int 0, .int 0, .ref q_3, .ref q_4, .ref q_5, .ref q_6, .ref q_7, .ref q_8])), (q_3, .inl (cP, 6, .inr (.inr (.inr (.inr g_23)))))]) (w1 := va_pl u.1 u.2.2) (pl := va_pl L f) hP hD [2] [0, 1] rfl rfl (by decide) (by decide) hk1 hFc hP1 hD1
              obtain ⟨L, tg, f, hP, hD, hI, hT, hg, hg1⟩ := cw_join hP hD hI hT hI1 hT1
              have k_q_1 := hg.at k_q_1
              have k_q_2 := hg.at k_q_2
              have k_q_4 := hg.at k_q_4
              have k_q_5 := hg.at k_q_5
              have k_q_6 := hg.at k_q_6
              have k_q_7 := hg.at k_q_7
              have k_q_8 := hg.at k_q_8
              have ra_q_3 := ra_q_3.up hg
              have k_q_25 := hg1.at k_q_25
              clear hP1 hD1 hz1 hk1 hFc hPc hDc ht hg hg1 hI1 hT1
              generalize H1 = H at hP hS ⊢
              refine W.widen (k := 50) (n := 342) (Nat.le_of_ble_eq_true rfl) (Nat.le_of_ble_eq_true rfl) ?_
              have hP : va_P (dC, dI) vwCl ([(h0, .inr (1, [.ref q_1, .ref q_2, .int 0, .int 0, .int 0, .int 0, .int 0, .int 0, .ref q_3, .ref q_4, .ref q_5, .ref q_6, .ref q_7, .ref q_8])), (q_3, .inl (cP, 6, .inr (.inr (.inr (.inr g_23)))))] ++ va_pl L f) H := hP
              have hD : va_D A ([(h0, .inr (1, [.ref q_1, .ref q_2, .int 0, .int 0, .int 0, .int 0, .int 0, .int 0, .ref q_3, .ref q_4, .ref q_5, .ref q_6, .ref q_7, .ref q_8])), (q_3, .inl (cP, 6, .inr (.inr (.inr (.inr g_23)))))] ++ va_pl L f) := hD
              refine cn_aast (r := (RX4, TX4, 3)) (ci := 3) (i := 5) hx hb hK hP hD hS hI 1 2 rfl rfl k_q_25 (fun _ _ _ => rfl) rfl (by unfold vp_in; decide) dX2_init_107 (fun H locs hP hD hS => ?_)
              have hP : va_P (dC, dI) vwCl ([(h0, .inr (1, [.ref q_1, .ref q_2, .int 0, .int 0, .int 0, .int 0, .int 0, .int 0, .ref q_3, .ref q_4, .ref q_5, .ref q_6, .ref q_7, .ref q_8])), (q_3, .inl (cP, 6, .inr (.inr (.inr (.inr (va_up g_23 (5 : Int32).toNatClampNeg (some q_25)))))))] ++ va_pl L f) H := hP
              have hD : va_D A ([(h0, .inr (1, [.ref q_1, .ref q_2, .int 0, .int 0, .int 0, .int 0, .int 0, .int 0, .ref q_3, .ref q_4, .ref q_5, .ref q_6, .ref q_7, .ref q_8])), (q_3, .inl (cP, 6, .inr (.inr (.inr (.inr (va_up g_23 (5 : Int32).toNatClampNeg (some q_25)))))))] ++ va_pl L f) := hD
              have ra_q_3 := ra_q_3.set (i := 5) (by decide) k_q_25
              generalize va_up g_23 (5 : Int32).toNatClampNeg (some q_25) = g_26 at hP hD ra_q_3
              refine lv_iinc (v := 6) (lv' := [(1, .int 6), (0, .ref h0)]) hx hb dX2_init_108 hl (k := 0) rfl (by decide) (by decide) rfl (fun ls hl => ?_)
              refine lv_goto (tgt := 89) hx hb dX2_init_111 (by decide) ?_
              refine lv_iload_n hx hb dX2_init_89 rfl (lv_at hl 0 rfl) ?_
              refine lv_bipush (v := 6) hx hb dX2_init_90 (by decide) ?_
              refine lv_icmp_ge (tgt := 114) hx hb dX2_init_92 (by decide) (fun h_27 => ?_) (fun h_27 => ?_)
              · obtain ⟨L, tg, f, hP, hD, hI, hT, hg, k_q_3, _⟩ := cw_abs (X := [(h0, .inr (1, [.ref q_1, .ref q_2, .int 0, .int 0, .int 0, .int 0, .int 0, .int 0, .ref q_3, .ref q_4, .ref q_5, .ref q_6, .ref q_7, .ref q_8]))]) (a := q_3) (e := .inl (cP, 6, .inr (.inr (.inr (.inr g_26))))) hP hD hI hT 10 (by decide) ⟨_, rfl, ra_q_3⟩
                have k_q_1 := hg.at k_q_1
                have k_q_2 := hg.at k_q_2
                have k_q_4 := hg.at k_q_4
                have k_q_5 := hg.at k_q_5
                have k_q_6 := hg.at k_q_6
                have k_q_7 := hg.at k_q_7
                have k_q_8 := hg.at k_q_8
                clear hg
                obtain ⟨L, tg, f, hP, hD, hI, hT, hg, k_h0, hfe⟩ := cw_abs (X := []) (a := h0) (e := .inr (1, [.ref q_1, .ref q_2, .int 0, .int 0, .int 0, .int 0, .int 0, .int 0, .ref q_3, .ref q_4, .ref q_5, .ref q_6, .ref q_7, .ref q_8])) hP hD hI hT 4 (by decide) (okL_O 1 _ _ ⟨⟨_, rfl, k_q_1.1, k_q_1.2⟩, ⟨_, rfl, k_q_2.1, k_q_2.2⟩, ⟨_, rfl⟩, ⟨0, rfl, by decide⟩, ⟨_, rfl, Or.inl rfl⟩, ⟨_, rfl, Or.inl rfl⟩, ⟨_, rfl, Or.inl rfl⟩, ⟨_, rfl, Or.inl rfl⟩, ⟨_, rfl, k_q_3.1, k_q_3.2⟩, ⟨_, rfl, k_q_4.1, k_q_4.2⟩, ⟨_, rfl, k_q_5.1, k_q_5.2⟩, ⟨_, rfl, k_q_6.1, k_q_6.2⟩, ⟨_, rfl, k_q_7.1, k_q_7.2⟩, ⟨_, rfl, k_q_8.1, k_q_8.2⟩, trivial⟩)
                exact W.vret hx hb hr (fun t ht hW => ⟨⟨(L, tg, f), rfl, ⟨hI, hT, k_h0⟩, by rw [ht]; exact hP, hD⟩, hS.F ht⟩) hS.2.2 dX2_init_114
              · exact (by first | exact absurd h_27 (by decide) | exact absurd (by decide) h_27)

set_option maxHeartbeats 4000000 in
set_option maxRecDepth 100000 in
theorem k_X3_init (l : Launch) (dC : Nat → ClassId) (dI : Nat → Nat → Nat) (cI cS cP cA : ClassId) (sz : Nat) (h0 : Nat) : Met l yX3_init wsX3_init ({ frames := 1, cells := 5, slots := 1884, locals := 12 }) (va_Pc [.ref h0] (nPre dC dI sz [(h0, .inr (2, [.int 0, .int 0, .int 0, .null, .null, .null, .null, .null, .int 0]))] (tyC cI cS cP cA))) (va_Qv (fun (u : List Nat × (Nat → Nat) × (Nat → va_E)) => PI cI cS cP cA u.1 u.2.1 u.2.2 ∧ (∀ a : Nat, a ∈ u.1 → u.2.1 a < 13) ∧ (h0 ∈ u.1 ∧ u.2.1 h0 = 5)) (fun u t => wPost dC dI (va_A [(h0, .inr (2, [.int 0, .int 0, .int 0, .null, .null, .null, .null, .null, .int 0]))] sz) (va_pl u.1 u.2.2) t) (va_A [(h0, .inr (2, [.int 0, .int 0, .int 0, .null, .null, .null, .null, .null, .int 0]))] sz)) 5 1884 (va_A [(h0, .inr (2, [.int 0, .int 0, .int 0, .null, .null, .null, .null, .null, .int 0]))] sz) := by
  refine Met.ofW (cc := cX3_init) (maxL := 1) (ret := none) (by decide) rfl ?_
  intro p e s m args below meth c s₁ B hml hv
  obtain ⟨rfl, ⟨hsz, hP, hK, hD0⟩, hnk⟩ := hv
  have hx := B.exec
  have hb := B.bytes
  have hr := B.returns
  have hts := atoms_spec (ws := wsX3_init) B.pre
  have hown : s.vm.findClass RX3 = some m.cls := findClass_of_methodNamed B.named
  have hlocks := B.notSynchronized
  have hin0 : meth.name = "<init>" := (name_of_methodNamed B.named B.method).1
  subst hsz
  have hD := hD0.self (sz := s.heap.size)
  generalize hAe : va_A [(h0, .inr (2, [.int 0, .int 0, .int 0, .null, .null, .null, .null, .null, .int 0]))] s.heap.size = A at hD ⊢
  have hA : ∀ q : Nat, s.heap.size ≤ q → A q := fun q h => by rw [← hAe]; exact Or.inr h
  have hS : va_S A s.heap s.heap [] := va_S.rf
  obtain ⟨L, tg, f, hP, hD, hI, hT⟩ := cw_0 (cI := cI) (cS := cS) (cP := cP) (cA := cA) (X := [(h0, .inr (2, [.int 0, .int 0, .int 0, .null, .null, .null, .null, .null, .int 0]))]) hP hD
  have hl := lv_entry ([.ref h0]) (n := 1) (Nat.le_of_ble_eq_true rfl)
  rw [lg_entry_eq]
  generalize (lg_sl ([.ref h0]) ++ List.replicate (1 - (lg_sl ([.ref h0])).length) Slot.unset).toArray = ls at hl ⊢
  have hl : lv_has ls 1 [(0, .ref h0)] := hl
  refine lv_aload_n hx hb dX3_init_0 rfl (lv_at hl 0 rfl) ?_
  refine W.objInit hx hb hown (hts (.methodLink RX3 3 objectInit) (by decide +kernel)) (hts (.instanceMethod objectInit) (by decide +kernel)) (hts (.code objectInit ⟨#[0xb1]⟩ 1 none) (by decide +kernel)) rfl (by rw [hml]; exact hl.1) rfl dX3_init_1 (Nat.le_of_ble_eq_true rfl) (Nat.le_of_ble_eq_true rfl) ?_
  refine W.eq (g2 := F0 m 4 ls []) rfl ?_
  refine lv_aload_n hx hb dX3_init_4 rfl (lv_at hl 0 rfl) ?_
  refine lv_sipush (v := 924) hx hb dX3_init_5 (by decide) ?_
  refine cn_newa (n := 924) hx hb (hts (.arrayClass .int) (by decide +kernel)) hK hP hD hS hA hI hT 924 8 (by decide) (fun _ _ _ => rfl) (by decide) (by decide) (by decide) (Nat.le_of_ble_eq_true rfl) (Nat.le_of_ble_eq_true rfl) dX3_init_8 (fun q_1 H L tg f hP hD hS hI hT hg k_q_1 => ?_)
  refine W.widen (k := 1) (n := 924) (Nat.le_of_ble_eq_true rfl) (Nat.le_of_ble_eq_true rfl) ?_
  clear hg
  have hP : va_P (dC, dI) vwCl ([(h0, .inr (2, [.int 0, .int 0, .int 0, .null, .null, .null, .null, .null, .int 0]))] ++ va_pl L f) H := hP
  have hD : va_D A ([(h0, .inr (2, [.int 0, .int 0, .int 0, .null, .null, .null, .null, .null, .int 0]))] ++ va_pl L f) := hD
  refine va_putF (D := (dC, dI)) (ci := 2) (v := .ref q_1) (ty := (.array .int)) (C := RX3) (T := TX3) (N := 9) hx hb hts (by decide +kernel) tyX3 tyX3_ok nmX3 hown hK hP hD hS 0 rfl rfl 3 (by decide) (hts (.fieldLink RX3 11 "DayBench$SlipSets" "toldSets" "[I") (by decide +kernel)) (fun _ h9 => h9) rfl hin0 rfl (by decide +kernel) rfl rfl (Nat.le_of_ble_eq_true rfl) dX3_init_10 (fun H locs hP hD hS => ?_)
  have hP : va_P (dC, dI) vwCl ([(h0, .inr (2, [.int 0, .int 0, .int 0, .ref q_1, .null, .null, .null, .null, .int 0]))] ++ va_pl L f) H := hP
  have hD : va_D A ([(h0, .inr (2, [.int 0, .int 0, .int 0, .ref q_1, .null, .null, .null, .null, .int 0]))] ++ va_pl L f) := hD
  refine lv_aload_n hx hb dX3_init_13 rfl (lv_at hl 0 rfl) ?_
  refine lv_bipush (v := 12) hx hb dX3_init_14 (by decide) ?_
  refine cn_newa (n := 12) hx hb (hts (.arrayClass .int) (by decide +kernel)) hK hP hD hS hA hI hT 12 7 (by decide) (fun _ _ _ => rfl) (by decide) (by decide) (by decide) (Nat.le_of_ble_eq_true rfl) (Nat.le_of_ble_eq_true rfl) dX3_init_16 (fun q_2 H L tg f hP hD hS hI hT hg k_q_2 => ?_)
  refine W.widen (k := 2) (n := 936) (Nat.le_of_ble_eq_true rfl) (Nat.le_of_ble_eq_true rfl) ?_
  have k_q_1 := hg.at k_q_1
  clear hg
  have hP : va_P (dC, dI) vwCl ([(h0, .inr (2, [.int 0, .int 0, .int 0, .ref q_1, .null, .null, .null, .null, .int 0]))] ++ va_pl L f) H := hP
  have hD : va_D A ([(h0, .inr (2, [.int 0, .int 0, .int 0, .ref q_1, .null, .null, .null, .null, .int 0]))] ++ va_pl L f) := hD
  refine va_putF (D := (dC, dI)) (ci := 2) (v := .ref q_2) (ty := (.array .int)) (C := RX3) (T := TX3) (N := 9) hx hb hts (by decide +kernel) tyX3 tyX3_ok nmX3 hown hK hP hD hS 0 rfl rfl 4 (by decide) (hts (.fieldLink RX3 15 "DayBench$SlipSets" "root" "[I") (by decide +kernel)) (fun _ h9 => h9) rfl hin0 rfl (by decide +kernel) rfl rfl (Nat.le_of_ble_eq_true rfl) dX3_init_18 (fun H locs hP hD hS => ?_)
  have hP : va_P (dC, dI) vwCl ([(h0, .inr (2, [.int 0, .int 0, .int 0, .ref q_1, .ref q_2, .null, .null, .null, .int 0]))] ++ va_pl L f) H := hP
  have hD : va_D A ([(h0, .inr (2, [.int 0, .int 0, .int 0, .ref q_1, .ref q_2, .null, .null, .null, .int 0]))] ++ va_pl L f) := hD
  refine lv_aload_n hx hb dX3_init_21 rfl (lv_at hl 0 rfl) ?_
  refine lv_bipush (v := 12) hx hb dX3_init_22 (by decide) ?_
  refine cn_newa (n := 12) hx hb (hts (.arrayClass .int) (by decide +kernel)) hK hP hD hS hA hI hT 12 7 (by decide) (fun _ _ _ => rfl) (by decide) (by decide) (by decide) (Nat.le_of_ble_eq_true rfl) (Nat.le_of_ble_eq_true rfl) dX3_init_24 (fun q_3 H L tg f hP hD hS hI hT hg k_q_3 => ?_)
  refine W.widen (k := 3) (n := 948) (Nat.le_of_ble_eq_true rfl) (Nat.le_of_ble_eq_true rfl) ?_
  have k_q_1 := hg.at k_q_1
  have k_q_2 := hg.at k_q_2
  clear hg
  have hP : va_P (dC, dI) vwCl ([(h0, .inr (2, [.int 0, .int 0, .int 0, .ref q_1, .ref q_2, .null, .null, .null, .int 0]))] ++ va_pl L f) H := hP
  have hD : va_D A ([(h0, .inr (2, [.int 0, .int 0, .int 0, .ref q_1, .ref q_2, .null, .null, .null, .int 0]))] ++ va_pl L f) := hD
  refine va_putF (D := (dC, dI)) (ci := 2) (v := .ref q_3) (ty := (.array .int)) (C := RX3) (T := TX3) (N := 9) hx hb hts (by decide +kernel) tyX3 tyX3_ok nmX3 hown hK hP hD hS 0 rfl rfl 5 (by decide) (hts (.fieldLink RX3 18 "DayBench$SlipSets" "members" "[I") (by decide +kernel)) (fun _ h9 => h9) rfl hin0 rfl (by decide +kernel) rfl rfl (Nat.le_of_ble_eq_true rfl) dX3_init_26 (fun H locs hP hD hS => ?_)
  have hP : va_P (dC, dI) vwCl ([(h0, .inr (2, [.int 0, .int 0, .int 0, .ref q_1, .ref q_2, .ref q_3, .null, .null, .int 0]))] ++ va_pl L f) H := hP
  have hD : va_D A ([(h0, .inr (2, [.int 0, .int 0, .int 0, .ref q_1, .ref q_2, .ref q_3, .null, .null, .int 0]))] ++ va_pl L f) := hD
  refine lv_aload_n hx hb dX3_init_29 rfl (lv_at hl 0 rfl) ?_
  refine lv_bipush (v := 12) hx hb dX3_init_30 (by decide) ?_
  refine cn_newa (n := 12) hx hb (hts (.arrayClass .int) (by decide +kernel)) hK hP hD hS hA hI hT 12 7 (by decide) (fun _ _ _ => rfl) (by decide) (by decide) (by decide) (Nat.le_of_ble_eq_true rfl) (Nat.le_of_ble_eq_true rfl) dX3_init_32 (fun q_4 H L tg f hP hD hS hI hT hg k_q_4 => ?_)
  refine W.widen (k := 4) (n := 960) (Nat.le_of_ble_eq_true rfl) (Nat.le_of_ble_eq_true rfl) ?_
  have k_q_1 := hg.at k_q_1
  have k_q_2 := hg.at k_q_2
  have k_q_3 := hg.at k_q_3
  clear hg
  have hP : va_P (dC, dI) vwCl ([(h0, .inr (2, [.int 0, .int 0, .int 0, .ref q_1, .ref q_2, .ref q_3, .null, .null, .int 0]))] ++ va_pl L f) H := hP
  have hD : va_D A ([(h0, .inr (2, [.int 0, .int 0, .int 0, .ref q_1, .ref q_2, .ref q_3, .null, .null, .int 0]))] ++ va_pl L f) := hD
  refine va_putF (D := (dC, dI)) (ci := 2) (v := .ref q_4) (ty := (.array .int)) (C := RX3) (T := TX3) (N := 9) hx hb hts (by decide +kernel) tyX3 tyX3_ok nmX3 hown hK hP hD hS 0 rfl rfl 6 (by decide) (hts (.fieldLink RX3 21 "DayBench$SlipSets" "weight" "[I") (by decide +kernel)) (fun _ h9 => h9) rfl hin0 rfl (by decide +kernel) rfl rfl (Nat.le_of_ble_eq_true rfl) dX3_init_34 (fun H locs hP hD hS => ?_)
  have hP : va_P (dC, dI) vwCl ([(h0, .inr (2, [.int 0, .int 0, .int 0, .ref q_1, .ref q_2, .ref q_3, .ref q_4, .null, .int 0]))] ++ va_pl L f) H := hP
  have hD : va_D A ([(h0, .inr (2, [.int 0, .int 0, .int 0, .ref q_1, .ref q_2, .ref q_3, .ref q_4, .null, .int 0]))] ++ va_pl L f) := hD
  refine lv_aload_n hx hb dX3_init_37 rfl (lv_at hl 0 rfl) ?_
  refine lv_sipush (v := 924) hx hb dX3_init_38 (by decide) ?_
  refine cn_newa (n := 924) hx hb (hts (.arrayClass .int) (by decide +kernel)) hK hP hD hS hA hI hT 924 8 (by decide) (fun _ _ _ => rfl) (by decide) (by decide) (by decide) (Nat.le_of_ble_eq_true rfl) (Nat.le_of_ble_eq_true rfl) dX3_init_41 (fun q_5 H L tg f hP hD hS hI hT hg k_q_5 => ?_)
  refine W.widen (k := 5) (n := 1884) (Nat.le_of_ble_eq_true rfl) (Nat.le_of_ble_eq_true rfl) ?_
  have k_q_1 := hg.at k_q_1
  have k_q_2 := hg.at k_q_2
  have k_q_3 := hg.at k_q_3
  have k_q_4 := hg.at k_q_4
  clear hg
  have hP : va_P (dC, dI) vwCl ([(h0, .inr (2, [.int 0, .int 0, .int 0, .ref q_1, .ref q_2, .ref q_3, .ref q_4, .null, .int 0]))] ++ va_pl L f) H := hP
  have hD : va_D A ([(h0, .inr (2, [.int 0, .int 0, .int 0, .ref q_1, .ref q_2, .ref q_3, .ref q_4, .null, .int 0]))] ++ va_pl L f) := hD
  refine va_putF (D := (dC, dI)) (ci := 2) (v := .ref q_5) (ty := (.array .int)) (C := RX3) (T := TX3) (N := 9) hx hb hts (by decide +kernel) tyX3 tyX3_ok nmX3 hown hK hP hD hS 0 rfl rfl 7 (by decide) (hts (.fieldLink RX3 24 "DayBench$SlipSets" "lightest" "[I") (by decide +kernel)) (fun _ h9 => h9) rfl hin0 rfl (by decide +kernel) rfl rfl (Nat.le_of_ble_eq_true rfl) dX3_init_43 (fun H locs hP hD hS => ?_)
  have hP : va_P (dC, dI) vwCl ([(h0, .inr (2, [.int 0, .int 0, .int 0, .ref q_1, .ref q_2, .ref q_3, .ref q_4, .ref q_5, .int 0]))] ++ va_pl L f) H := hP
  have hD : va_D A ([(h0, .inr (2, [.int 0, .int 0, .int 0, .ref q_1, .ref q_2, .ref q_3, .ref q_4, .ref q_5, .int 0]))] ++ va_pl L f) := hD
  obtain ⟨L, tg, f, hP, hD, hI, hT, hg, k_h0, hfe⟩ := cw_abs (X := []) (a := h0) (e := .inr (2, [.int 0, .int 0, .int 0, .ref q_1, .ref q_2, .ref q_3, .ref q_4, .ref q_5, .int 0])) hP hD hI hT 5 (by decide) (okL_O 2 _ _ ⟨⟨0, rfl, by decide⟩, ⟨_, rfl⟩, ⟨0, rfl, by decide⟩, ⟨_, rfl, k_q_1.1, k_q_1.2⟩, ⟨_, rfl, k_q_2.1, k_q_2.2⟩, ⟨_, rfl, k_q_3.1, k_q_3.2⟩, ⟨_, rfl, k_q_4.1, k_q_4.2⟩, ⟨_, rfl, k_q_5.1, k_q_5.2⟩, ⟨0, rfl, by decide⟩, trivial⟩)
  exact W.vret hx hb hr (fun t ht hW => ⟨⟨(L, tg, f), rfl, ⟨hI, hT, k_h0⟩, by rw [ht]; exact hP, hD⟩, hS.F ht⟩) hS.2.2 dX3_init_46
