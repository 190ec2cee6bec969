set_option maxHeartbeats 4000000 in
set_option maxRecDepth 100000 in
theorem k_X3_init (l : Launch) (dC : Nat → ClassId) (dI : Nat → Nat → Nat) (sz : Nat) (h0 : Nat)  : Met l yX3_init wsX3_init ({ frames := 1, cells := 5, slots := 1884, locals := 12 }) (va_Pc [.ref h0] (wPre dC dI sz [(h0, .inr (2, [.int 0, .int 0, .int 0, .null, .null, .null, .null, .null, .int 0]))] [])) (va_Qv (fun (u : Unit) => True) (fun (u : Unit) t => ∃ (ts : Nat) (ro : Nat) (me : Nat) (we : Nat) (li : Nat) (cI : ClassId), wPost dC dI (va_A [(h0, .inr (2, [.int 0, .int 0, .int 0, .null, .null, .null, .null, .null, .int 0]))] sz) [(h0, .inr (2, [.int 0, .int 0, .int 0, .ref ts, .ref ro, .ref me, .ref we, .ref li, .int 0])), (li, .inl (cI, 924, .inl (fun _ => 0))), (ts, .inl (cI, 924, .inl (fun _ => 0)))] t ∧ va_K (dC, dI) vwCl [(cI, .int)] t) (va_A [(h0, .inr (2, [.int 0, .int 0, .int 0, .null, .null, .null, .null, .null, .int 0]))] sz)) 5 1884 (va_A [(h0, .inr (2, [.int 0, .int 0, .int 0, .null, .null, .null, .null, .null, .int 0]))] sz) := by
  refine Met.ofW (cc := cX3_init) (maxL := 1) (ret := none) (by decide) rfl ?_
  intro p e s m args below meth c s₁ B hml hv
  obtain ⟨rfl, hsz, hP, hK, hD0⟩ := hv
  have hx := B.exec
  have hb := B.bytes
  have hr := B.returns
  have hts := atoms_spec (ws := wsX3_init) B.pre
  have hown : s.vm.findClass RX3 = some m.cls := findClass_of_methodNamed B.named
  have hlocks := B.notSynchronized
  have hin0 : meth.name = "<init>" := (name_of_methodNamed B.named B.method).1
  subst hsz
  have hD := hD0.self (sz := s.heap.size)
  generalize hAe : va_A [(h0, .inr (2, [.int 0, .int 0, .int 0, .null, .null, .null, .null, .null, .int 0]))] s.heap.size = A at hD ⊢
  have hA : ∀ q : Nat, s.heap.size ≤ q → A q := fun q h => by rw [← hAe]; exact Or.inr h
  have hS : va_S A s.heap s.heap [] := va_S.rf
  have hP : va_P (dC, dI) vwCl [(h0, .inr (2, [.int 0, .int 0, .int 0, .null, .null, .null, .null, .null, .int 0]))] s.heap := hP
  have hl := lv_entry ([.ref h0]) (n := 1) (Nat.le_of_ble_eq_true rfl)
  rw [lg_entry_eq]
  generalize (lg_sl ([.ref h0]) ++ List.replicate (1 - (lg_sl ([.ref h0])).length) Slot.unset).toArray = ls at hl ⊢
  have hl : lv_has ls 1 [(0, .ref h0)] := hl
  refine lv_aload_n hx hb dX3_init_0 rfl (lv_at hl 0 rfl) ?_
  refine W.objInit hx hb hown (hts (.methodLink RX3 3 objectInit) (by decide +kernel)) (hts (.instanceMethod objectInit) (by decide +kernel)) (hts (.code objectInit ⟨#[0xb1]⟩ 1 none) (by decide +kernel)) rfl (by rw [hml]; exact hl.1) rfl dX3_init_1 (Nat.le_of_ble_eq_true rfl) (Nat.le_of_ble_eq_true rfl) ?_
  refine W.eq (g2 := F0 m 4 ls []) rfl ?_
  refine lv_aload_n hx hb dX3_init_4 rfl (lv_at hl 0 rfl) ?_
  refine lv_sipush (v := 924) hx hb dX3_init_5 (by decide) ?_
  refine va_newa (atype := .int) (ty := .int) (N' := 924) (a0 := (924, .inl (fun _ => 0))) hx hb (hts (.arrayClass .int) (by decide +kernel)) rfl hK hP hD hS hA (fun _ => rfl) (by decide) (by decide) (show 924 * 4 ≤ 536870912 by omega) (Nat.le_of_ble_eq_true rfl) (Nat.le_of_ble_eq_true rfl) dX3_init_8 (fun q_1 cA_2 H hK hP hD hS => ?_)
  refine W.widen (k := 1) (n := 924) (Nat.le_of_ble_eq_true rfl) (Nat.le_of_ble_eq_true rfl) ?_
  have hK : va_K (dC, dI) vwCl [(cA_2, .int)] s := hK
  have hP : va_P (dC, dI) vwCl [(h0, .inr (2, [.int 0, .int 0, .int 0, .null, .null, .null, .null, .null, .int 0])), (q_1, .inl (cA_2, 924, .inl (fun _ => 0)))] H := hP
  have hD : va_D A [(h0, .inr (2, [.int 0, .int 0, .int 0, .null, .null, .null, .null, .null, .int 0])), (q_1, .inl (cA_2, 924, .inl (fun _ => 0)))] := hD
  refine va_putF (D := (dC, dI)) (ci := 2) (v := .ref q_1) (ty := (.array .int)) (C := RX3) (T := TX3) (N := 9) hx hb hts (by decide +kernel) tyX3 tyX3_ok nmX3 hown hK hP hD hS 0 rfl rfl 3 (by decide) (hts (.fieldLink RX3 11 "DayBench$SlipSets" "toldSets" "[I") (by decide +kernel)) (fun _ h9 => h9) rfl hin0 rfl (by decide +kernel) rfl rfl (Nat.le_of_ble_eq_true rfl) dX3_init_10 (fun H locs hP hD hS => ?_)
  have hP : va_P (dC, dI) vwCl [(h0, .inr (2, [.int 0, .int 0, .int 0, .ref q_1, .null, .null, .null, .null, .int 0])), (q_1, .inl (cA_2, 924, .inl (fun _ => 0)))] H := hP
  have hD : va_D A [(h0, .inr (2, [.int 0, .int 0, .int 0, .ref q_1, .null, .null, .null, .null, .int 0])), (q_1, .inl (cA_2, 924, .inl (fun _ => 0)))] := hD
  refine lv_aload_n hx hb dX3_init_13 rfl (lv_at hl 0 rfl) ?_
  refine lv_bipush (v := 12) hx hb dX3_init_14 (by decide) ?_
  refine va_newa (atype := .int) (ty := .int) (N' := 12) (a0 := (12, .inl (fun _ => 0))) hx hb (hts (.arrayClass .int) (by decide +kernel)) rfl hK hP hD hS hA (fun _ => rfl) (by decide) (by decide) (show 12 * 4 ≤ 536870912 by omega) (Nat.le_of_ble_eq_true rfl) (Nat.le_of_ble_eq_true rfl) dX3_init_16 (fun q_3 cA_4 H hK hP hD hS => ?_)
  refine W.widen (k := 2) (n := 936) (Nat.le_of_ble_eq_true rfl) (Nat.le_of_ble_eq_true rfl) ?_
  have hK : va_K (dC, dI) vwCl [(cA_2, .int), (cA_4, .int)] s := hK
  have hP : va_P (dC, dI) vwCl [(h0, .inr (2, [.int 0, .int 0, .int 0, .ref q_1, .null, .null, .null, .null, .int 0])), (q_1, .inl (cA_2, 924, .inl (fun _ => 0))), (q_3, .inl (cA_4, 12, .inl (fun _ => 0)))] H := hP
  have hD : va_D A [(h0, .inr (2, [.int 0, .int 0, .int 0, .ref q_1, .null, .null, .null, .null, .int 0])), (q_1, .inl (cA_2, 924, .inl (fun _ => 0))), (q_3, .inl (cA_4, 12, .inl (fun _ => 0)))] := hD
  have eccA_4 := ar_one hK 1 0 rfl rfl
  subst eccA_4
  have hK := hK.sub (tys' := [(cA_2, .int)]) [0] rfl
  have hP : va_P (dC, dI) vwCl [(h0, .inr (2, [.int 0, .int 0, .int 0, .ref q_1, .null, .null, .null, .null, .int 0])), (q_1, .inl (cA_2, 924, .inl (fun _ => 0))), (q_3, .inl (cA_2, 12, .inl (fun _ => 0)))] H := hP
  have hD : va_D A [(h0, .inr (2, [.int 0, .int 0, .int 0, .ref q_1, .null, .null, .null, .null, .int 0])), (q_1, .inl (cA_2, 924, .inl (fun _ => 0))), (q_3, .inl (cA_2, 12, .inl (fun _ => 0)))] := hD
  refine va_putF (D := (dC, dI)) (ci := 2) (v := .ref q_3) (ty := (.array .int)) (C := RX3) (T := TX3) (N := 9) hx hb hts (by decide +kernel) tyX3 tyX3_ok nmX3 hown hK hP hD hS 0 rfl rfl 4 (by decide) (hts (.fieldLink RX3 15 "DayBench$SlipSets" "root" "[I") (by decide +kernel)) (fun _ h9 => h9) rfl hin0 rfl (by decide +kernel) rfl rfl (Nat.le_of_ble_eq_true rfl) dX3_init_18 (fun H locs hP hD hS => ?_)
  have hP : va_P (dC, dI) vwCl [(h0, .inr (2, [.int 0, .int 0, .int 0, .ref q_1, .ref q_3, .null, .null, .null, .int 0])), (q_1, .inl (cA_2, 924, .inl (fun _ => 0))), (q_3, .inl (cA_2, 12, .inl (fun _ => 0)))] H := hP
  have hD : va_D A [(h0, .inr (2, [.int 0, .int 0, .int 0, .ref q_1, .ref q_3, .null, .null, .null, .int 0])), (q_1, .inl (cA_2, 924, .inl (fun _ => 0))), (q_3, .inl (cA_2, 12, .inl (fun _ => 0)))] := hD
  refine lv_aload_n hx hb dX3_init_21 rfl (lv_at hl 0 rfl) ?_
  refine lv_bipush (v := 12) hx hb dX3_init_22 (by decide) ?_
  refine va_newa (atype := .int) (ty := .int) (N' := 12) (a0 := (12, .inl (fun _ => 0))) hx hb (hts (.arrayClass .int) (by decide +kernel)) rfl hK hP hD hS hA (fun _ => rfl) (by decide) (by decide) (show 12 * 4 ≤ 536870912 by omega) (Nat.le_of_ble_eq_true rfl) (Nat.le_of_ble_eq_true rfl) dX3_init_24 (fun q_5 cA_6 H hK hP hD hS => ?_)
  refine W.widen (k := 3) (n := 948) (Nat.le_of_ble_eq_true rfl) (Nat.le_of_ble_eq_true rfl) ?_
  have hK : va_K (dC, dI) vwCl [(cA_2, .int), (cA_6, .int)] s := hK
  have hP : va_P (dC, dI) vwCl [(h0, .inr (2, [.int 0, .int 0, .int 0, .ref q_1, .ref q_3, .null, .null, .null, .int 0])), (q_1, .inl (cA_2, 924, .inl (fun _ => 0))), (q_3, .inl (cA_2, 12, .inl (fun _ => 0))), (q_5, .inl (cA_6, 12, .inl (fun _ => 0)))] H := hP
  have hD : va_D A [(h0, .inr (2, [.int 0, .int 0, .int 0, .ref q_1, .ref q_3, .null, .null, .null, .int 0])), (q_1, .inl (cA_2, 924, .inl (fun _ => 0))), (q_3, .inl (cA_2, 12, .inl (fun _ => 0))), (q_5, .inl (cA_6, 12, .inl (fun _ => 0)))] := hD
  have eccA_6 := ar_one hK 1 0 rfl rfl
  subst eccA_6
  have hK := hK.sub (tys' := [(cA_2, .int)]) [0] rfl
  have hP : va_P (dC, dI) vwCl [(h0, .inr (2, [.int 0, .int 0, .int 0, .ref q_1, .ref q_3, .null, .null, .null, .int 0])), (q_1, .inl (cA_2, 924, .inl (fun _ => 0))), (q_3, .inl (cA_2, 12, .inl (fun _ => 0))), (q_5, .inl (cA_2, 12, .inl (fun _ => 0)))] H := hP
  have hD : va_D A [(h0, .inr (2, [.int 0, .int 0, .int 0, .ref q_1, .ref q_3, .null, .null, .null, .int 0])), (q_1, .inl (cA_2, 924, .inl (fun _ => 0))), (q_3, .inl (cA_2, 12, .inl (fun _ => 0))), (q_5, .inl (cA_2, 12, .inl (fun _ => 0)))] := hD
  have hP := hP.sub (ws' := [(h0, .inr (2, [.int 0, .int 0, .int 0, .ref q_1, .ref q_3, .null, .null, .null, .int 0])), (q_1, .inl (cA_2, 924, .inl (fun _ => 0))), (q_5, .inl (cA_2, 12, .inl (fun _ => 0)))]) [0, 1, 3] rfl
  have hD := hD.sub (ws' := [(h0, .inr (2, [.int 0, .int 0, .int 0, .ref q_1, .ref q_3, .null, .null, .null, .int 0])), (q_1, .inl (cA_2, 924, .inl (fun _ => 0))), (q_5, .inl (cA_2, 12, .inl (fun _ => 0)))]) [0, 1, 3] (by decide) rfl
  refine va_putF (D := (dC, dI)) (ci := 2) (v := .ref q_5) (ty := (.array .int)) (C := RX3) (T := TX3) (N := 9) hx hb hts (by decide +kernel) tyX3 tyX3_ok nmX3 hown hK hP hD hS 0 rfl rfl 5 (by decide) (hts (.fieldLink RX3 18 "DayBench$SlipSets" "members" "[I") (by decide +kernel)) (fun _ h9 => h9) rfl hin0 rfl (by decide +kernel) rfl rfl (Nat.le_of_ble_eq_true rfl) dX3_init_26 (fun H locs hP hD hS => ?_)
  have hP : va_P (dC, dI) vwCl [(h0, .inr (2, [.int 0, .int 0, .int 0, .ref q_1, .ref q_3, .ref q_5, .null, .null, .int 0])), (q_1, .inl (cA_2, 924, .inl (fun _ => 0))), (q_5, .inl (cA_2, 12, .inl (fun _ => 0)))] H := hP
  have hD : va_D A [(h0, .inr (2, [.int 0, .int 0, .int 0, .ref q_1, .ref q_3, .ref q_5, .null, .null, .int 0])), (q_1, .inl (cA_2, 924, .inl (fun _ => 0))), (q_5, .inl (cA_2, 12, .inl (fun _ => 0)))] := hD
  refine lv_aload_n hx hb dX3_init_29 rfl (lv_at hl 0 rfl) ?_
  refine lv_bipush (v := 12) hx hb dX3_init_30 (by decide) ?_
  refine va_newa (atype := .int) (ty := .int) (N' := 12) (a0 := (12, .inl (fun _ => 0))) hx hb (hts (.arrayClass .int) (by decide +kernel)) rfl hK hP hD hS hA (fun _ => rfl) (by decide) (by decide) (show 12 * 4 ≤ 536870912 by omega) (Nat.le_of_ble_eq_true rfl) (Nat.le_of_ble_eq_true rfl) dX3_init_32 (fun q_7 cA_8 H hK hP hD hS => ?_)
  refine W.widen (k := 4) (n := 960) (Nat.le_of_ble_eq_true rfl) (Nat.le_of_ble_eq_true rfl) ?_
  have hK : va_K (dC, dI) vwCl [(cA_2, .int), (cA_8, .int)] s := hK
  have hP : va_P (dC, dI) vwCl [(h0, .inr (2, [.int 0, .int 0, .int 0, .ref q_1, .ref q_3, .ref q_5, .null, .null, .int 0])), (q_1, .inl (cA_2, 924, .inl (fun _ => 0))), (q_5, .inl (cA_2, 12, .inl (fun _ => 0))), (q_7, .inl (cA_8, 12, .inl (fun _ => 0)))] H := hP
  have hD : va_D A [(h0, .inr (2, [.int 0, .int 0, .int 0, .ref q_1, .ref q_3, .ref q_5, .null, .null, .int 0])), (q_1, .inl (cA_2, 924, .inl (fun _ => 0))), (q_5, .inl (cA_2, 12, .inl (fun _ => 0))), (q_7, .inl (cA_8, 12, .inl (fun _ => 0)))] := hD
  have eccA_8 := ar_one hK 1 0 rfl rfl
  subst eccA_8
  have hK := hK.sub (tys' := [(cA_2, .int)]) [0] rfl
  have hP : va_P (dC, dI) vwCl [(h0, .inr (2, [.int 0, .int 0, .int 0, .ref q_1, .ref q_3, .ref q_5, .null, .null, .int 0])), (q_1, .inl (cA_2, 924, .inl (fun _ => 0))), (q_5, .inl (cA_2, 12, .inl (fun _ => 0))), (q_7, .inl (cA_2, 12, .inl (fun _ => 0)))] H := hP
  have hD : va_D A [(h0, .inr (2, [.int 0, .int 0, .int 0, .ref q_1, .ref q_3, .ref q_5, .null, .null, .int 0])), (q_1, .inl (cA_2, 924, .inl (fun _ => 0))), (q_5, .inl (cA_2, 12, .inl (fun _ => 0))), (q_7, .inl (cA_2, 12, .inl (fun _ => 0)))] := hD
  have hP := hP.sub (ws' := [(h0, .inr (2, [.int 0, .int 0, .int 0, .ref q_1, .ref q_3, .ref q_5, .null, .null, .int 0])), (q_1, .inl (cA_2, 924, .inl (fun _ => 0))), (q_7, .inl (cA_2, 12, .inl (fun _ => 0)))]) [0, 1, 3] rfl
  have hD := hD.sub (ws' := [(h0, .inr (2, [.int 0, .int 0, .int 0, .ref q_1, .ref q_3, .ref q_5, .null, .null, .int 0])), (q_1, .inl (cA_2, 924, .inl (fun _ => 0))), (q_7, .inl (cA_2, 12, .inl (fun _ => 0)))]) [0, 1, 3] (by decide) rfl
  refine va_putF (D := (dC, dI)) (ci := 2) (v := .ref q_7) (ty := (.array .int)) (C := RX3) (T := TX3) (N := 9) hx hb hts (by decide +kernel) tyX3 tyX3_ok nmX3 hown hK hP hD hS 0 rfl rfl 6 (by decide) (hts (.fieldLink RX3 21 "DayBench$SlipSets" "weight" "[I") (by decide +kernel)) (fun _ h9 => h9) rfl hin0 rfl (by decide +kernel) rfl rfl (Nat.le_of_ble_eq_true rfl) dX3_init_34 (fun H locs hP hD hS => ?_)
  have hP : va_P (dC, dI) vwCl [(h0, .inr (2, [.int 0, .int 0, .int 0, .ref q_1, .ref q_3, .ref q_5, .ref q_7, .null, .int 0])), (q_1, .inl (cA_2, 924, .inl (fun _ => 0))), (q_7, .inl (cA_2, 12, .inl (fun _ => 0)))] H := hP
  have hD : va_D A [(h0, .inr (2, [.int 0, .int 0, .int 0, .ref q_1, .ref q_3, .ref q_5, .ref q_7, .null, .int 0])), (q_1, .inl (cA_2, 924, .inl (fun _ => 0))), (q_7, .inl (cA_2, 12, .inl (fun _ => 0)))] := hD
  refine lv_aload_n hx hb dX3_init_37 rfl (lv_at hl 0 rfl) ?_
  refine lv_sipush (v := 924) hx hb dX3_init_38 (by decide) ?_
  refine va_newa (atype := .int) (ty := .int) (N' := 924) (a0 := (924, .inl (fun _ => 0))) hx hb (hts (.arrayClass .int) (by decide +kernel)) rfl hK hP hD hS hA (fun _ => rfl) (by decide) (by decide) (show 924 * 4 ≤ 536870912 by omega) (Nat.le_of_ble_eq_true rfl) (Nat.le_of_ble_eq_true rfl) dX3_init_41 (fun q_9 cA_10 H hK hP hD hS => ?_)
  refine W.widen (k := 5) (n := 1884) (Nat.le_of_ble_eq_true rfl) (Nat.le_of_ble_eq_true rfl) ?_
  have hK : va_K (dC, dI) vwCl [(cA_2, .int), (cA_10, .int)] s := hK
  have hP : va_P (dC, dI) vwCl [(h0, .inr (2, [.int 0, .int 0, .int 0, .ref q_1, .ref q_3, .ref q_5, .ref q_7, .null, .int 0])), (q_1, .inl (cA_2, 924, .inl (fun _ => 0))), (q_7, .inl (cA_2, 12, .inl (fun _ => 0))), (q_9, .inl (cA_10, 924, .inl (fun _ => 0)))] H := hP
  have hD : va_D A [(h0, .inr (2, [.int 0, .int 0, .int 0, .ref q_1, .ref q_3, .ref q_5, .ref q_7, .null, .int 0])), (q_1, .inl (cA_2, 924, .inl (fun _ => 0))), (q_7, .inl (cA_2, 12, .inl (fun _ => 0))), (q_9, .inl (cA_10, 924, .inl (fun _ => 0)))] := hD
  have eccA_10 := ar_one hK 1 0 rfl rfl
  subst eccA_10
  have hK := hK.sub (tys' := [(cA_2, .int)]) [0] rfl
  have hP : va_P (dC, dI) vwCl [(h0, .inr (2, [.int 0, .int 0, .int 0, .ref q_1, .ref q_3, .ref q_5, .ref q_7, .null, .int 0])), (q_1, .inl (cA_2, 924, .inl (fun _ => 0))), (q_7, .inl (cA_2, 12, .inl (fun _ => 0))), (q_9, .inl (cA_2, 924, .inl (fun _ => 0)))] H := hP
  have hD : va_D A [(h0, .inr (2, [.int 0, .int 0, .int 0, .ref q_1, .ref q_3, .ref q_5, .ref q_7, .null, .int 0])), (q_1, .inl (cA_2, 924, .inl (fun _ => 0))), (q_7, .inl (cA_2, 12, .inl (fun _ => 0))), (q_9, .inl (cA_2, 924, .inl (fun _ => 0)))] := hD
  have hP := hP.sub (ws' := [(h0, .inr (2, [.int 0, .int 0, .int 0, .ref q_1, .ref q_3, .ref q_5, .ref q_7, .null, .int 0])), (q_1, .inl (cA_2, 924, .inl (fun _ => 0))), (q_9, .inl (cA_2, 924, .inl (fun _ => 0)))]) [0, 1, 3] rfl
  have hD := hD.sub (ws' := [(h0, .inr (2, [.int 0, .int 0, .int 0, .ref q_1, .ref q_3, .ref q_5, .ref q_7, .null, .int 0])), (q_1, .inl (cA_2, 924, .inl (fun _ => 0))), (q_9, .inl (cA_2, 924, .inl (fun _ => 0)))]) [0, 1, 3] (by decide) rfl
  refine va_putF (D := (dC, dI)) (ci := 2) (v := .ref q_9) (ty := (.array .int)) (C := RX3) (T := TX3) (N := 9) hx hb hts (by decide +kernel) tyX3 tyX3_ok nmX3 hown hK hP hD hS 0 rfl rfl 7 (by decide) (hts (.fieldLink RX3 24 "DayBench$SlipSets" "lightest" "[I") (by decide +kernel)) (fun _ h9 => h9) rfl hin0 rfl (by decide +kernel) rfl rfl (Nat.le_of_ble_eq_true rfl) dX3_init_43 (fun H locs hP hD hS => ?_)
  have hP : va_P (dC, dI) vwCl [(h0, .inr (2, [.int 0, .int 0, .int 0, .ref q_1, .ref q_3, .ref q_5, .ref q_7, .ref q_9, .int 0])), (q_1, .inl (cA_2, 924, .inl (fun _ => 0))), (q_9, .inl (cA_2, 924, .inl (fun _ => 0)))] H := hP
  have hD : va_D A [(h0, .inr (2, [.int 0, .int 0, .int 0, .ref q_1, .ref q_3, .ref q_5, .ref q_7, .ref q_9, .int 0])), (q_1, .inl (cA_2, 924, .inl (fun _ => 0))), (q_9, .inl (cA_2, 924, .inl (fun _ => 0)))] := hD
  have hP9 := hP.sub (ws' := [(h0, .inr (2, [.int 0, .int 0, .int 0, .ref q_1, .ref q_3, .ref q_5, .ref q_7, .ref q_9, .int 0])), (q_9, .inl (cA_2, 924, .inl (fun _ => 0))), (q_1, .inl (cA_2, 924, .inl (fun _ => 0)))]) [0, 2, 1] rfl
  have hD9 := hD.sub (ws' := [(h0, .inr (2, [.int 0, .int 0, .int 0, .ref q_1, .ref q_3, .ref q_5, .ref q_7, .ref q_9, .int 0])), (q_9, .inl (cA_2, 924, .inl (fun _ => 0))), (q_1, .inl (cA_2, 924, .inl (fun _ => 0)))]) [0, 2, 1] (by decide) rfl
  have hK9 := hK.sub (tys' := [(cA_2, .int)]) [0] rfl
  exact W.vret hx hb hr (fun t ht hW => ⟨⟨(), rfl, trivial, q_1, q_3, q_5, q_7, q_9, cA_2, ⟨by rw [ht]; exact hP9, hD9⟩, va_K.moved hW.alike hK9⟩, hS.F ht⟩) hS.2.2 dX3_init_46

