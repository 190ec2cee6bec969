set_option maxHeartbeats 4000000 in
set_option maxRecDepth 100000 in
theorem k_X3_begin (l : Launch) (dC : Nat → ClassId) (dI : Nat → Nat → Nat) (sz : Nat) (sl : Nat) (ts : Nat) (ro : Nat) (me : Nat) (we : Nat) (li : Nat) (gr : Int32) (le : Int32) (to : Int32) (sz3 : Int32)  : Met l yX3_begin wsX3_begin ({ frames := 0, cells := 0, slots := 0, locals := 0 }) (va_Pc [.ref sl] (wPre dC dI sz [(sl, .inr (2, [.int gr, .int le, .int to, .ref ts, .ref ro, .ref me, .ref we, .ref li, .int sz3]))] [])) (va_Qv (fun (u : Unit) => True) (fun (u : Unit) t => wPost dC dI (va_A [(sl, .inr (2, [.int gr, .int le, .int to, .ref ts, .ref ro, .ref me, .ref we, .ref li, .int sz3]))] sz) [(sl, .inr (2, [.int 0, .int 0, .int to, .ref ts, .ref ro, .ref me, .ref we, .ref li, .int 0]))] t) (va_A [(sl, .inr (2, [.int gr, .int le, .int to, .ref ts, .ref ro, .ref me, .ref we, .ref li, .int sz3]))] sz)) 0 0 (va_A [(sl, .inr (2, [.int gr, .int le, .int to, .ref ts, .ref ro, .ref me, .ref we, .ref li, .int sz3]))] sz) := by
  refine Met.ofW (cc := cX3_begin) (maxL := 1) (ret := none) (by decide) rfl ?_
  intro p e s m args below meth c s₁ B hml hv
  obtain ⟨rfl, hsz, hP, hK, hD0⟩ := hv
  have hx := B.exec
  have hb := B.bytes
  have hr := B.returns
  have hts := atoms_spec (ws := wsX3_begin) B.pre
  have hown : s.vm.findClass RX3 = some m.cls := findClass_of_methodNamed B.named
  have hlocks := B.notSynchronized
  subst hsz
  have hD := hD0.self (sz := s.heap.size)
  generalize hAe : va_A [(sl, .inr (2, [.int gr, .int le, .int to, .ref ts, .ref ro, .ref me, .ref we, .ref li, .int sz3]))] s.heap.size = A at hD ⊢
  have hA : ∀ q : Nat, s.heap.size ≤ q → A q := fun q h => by rw [← hAe]; exact Or.inr h
  have hS : va_S A s.heap s.heap [] := va_S.rf
  have hP : va_P (dC, dI) vwCl [(sl, .inr (2, [.int gr, .int le, .int to, .ref ts, .ref ro, .ref me, .ref we, .ref li, .int sz3]))] s.heap := hP
  have hl := lv_entry ([.ref sl]) (n := 1) (Nat.le_of_ble_eq_true rfl)
  rw [lg_entry_eq]
  generalize (lg_sl ([.ref sl]) ++ List.replicate (1 - (lg_sl ([.ref sl])).length) Slot.unset).toArray = ls at hl ⊢
  have hl : lv_has ls 1 [(0, .ref sl)] := hl
  refine lv_aload_n hx hb dX3_begin_0 rfl (lv_at hl 0 rfl) ?_
  refine lv_iconst (v := 0) hx hb dX3_begin_1 (by decide) ?_
  refine va_put (D := (dC, dI)) (ci := 2) (v := .int 0) (ty := .int) (C := RX3) (T := TX3) (N := 9) hx hb hts (by decide +kernel) tyX3 tyX3_ok nmX3 hown hK hP hD hS 0 rfl rfl 0 (by decide) (hts (.fieldLink RX3 27 "DayBench$SlipSets" "groups" "I") (by decide +kernel)) (fun _ h9 => h9) rfl (by decide +kernel) rfl rfl (Nat.le_of_ble_eq_true rfl) dX3_begin_2 (fun H locs hP hD hS => ?_)
  have hP : va_P (dC, dI) vwCl [(sl, .inr (2, [.int 0, .int le, .int to, .ref ts, .ref ro, .ref me, .ref we, .ref li, .int sz3]))] H := hP
  have hD : va_D A [(sl, .inr (2, [.int 0, .int le, .int to, .ref ts, .ref ro, .ref me, .ref we, .ref li, .int sz3]))] := hD
  refine lv_aload_n hx hb dX3_begin_5 rfl (lv_at hl 0 rfl) ?_
  refine lv_iconst (v := 0) hx hb dX3_begin_6 (by decide) ?_
  refine va_put (D := (dC, dI)) (ci := 2) (v := .int 0) (ty := .int) (C := RX3) (T := TX3) (N := 9) hx hb hts (by decide +kernel) tyX3 tyX3_ok nmX3 hown hK hP hD hS 0 rfl rfl 8 (by decide) (hts (.fieldLink RX3 31 "DayBench$SlipSets" "size" "I") (by decide +kernel)) (fun _ h9 => h9) rfl (by decide +kernel) rfl rfl (Nat.le_of_ble_eq_true rfl) dX3_begin_7 (fun H locs hP hD hS => ?_)
  have hP : va_P (dC, dI) vwCl [(sl, .inr (2, [.int 0, .int le, .int to, .ref ts, .ref ro, .ref me, .ref we, .ref li, .int 0]))] H := hP
  have hD : va_D A [(sl, .inr (2, [.int 0, .int le, .int to, .ref ts, .ref ro, .ref me, .ref we, .ref li, .int 0]))] := hD
  refine lv_aload_n hx hb dX3_begin_10 rfl (lv_at hl 0 rfl) ?_
  refine lv_iconst (v := 0) hx hb dX3_begin_11 (by decide) ?_
  refine va_put (D := (dC, dI)) (ci := 2) (v := .int 0) (ty := .int) (C := RX3) (T := TX3) (N := 9) hx hb hts (by decide +kernel) tyX3 tyX3_ok nmX3 hown hK hP hD hS 0 rfl rfl 1 (by decide) (hts (.fieldLink RX3 34 "DayBench$SlipSets" "least" "I") (by decide +kernel)) (fun _ h9 => h9) rfl (by decide +kernel) rfl rfl (Nat.le_of_ble_eq_true rfl) dX3_begin_12 (fun H locs hP hD hS => ?_)
  have hP : va_P (dC, dI) vwCl [(sl, .inr (2, [.int 0, .int 0, .int to, .ref ts, .ref ro, .ref me, .ref we, .ref li, .int 0]))] H := hP
  have hD : va_D A [(sl, .inr (2, [.int 0, .int 0, .int to, .ref ts, .ref ro, .ref me, .ref we, .ref li, .int 0]))] := hD
  have hP9 := hP.sub (ws' := [(sl, .inr (2, [.int 0, .int 0, .int to, .ref ts, .ref ro, .ref me, .ref we, .ref li, .int 0]))]) [0] rfl
  have hD9 := hD.sub (ws' := [(sl, .inr (2, [.int 0, .int 0, .int to, .ref ts, .ref ro, .ref me, .ref we, .ref li, .int 0]))]) [0] (by decide) rfl
  exact W.vret hx hb hr (fun t ht hW => ⟨⟨(), rfl, trivial, by rw [ht]; exact hP9, hD9⟩, hS.F ht⟩) hS.2.2 dX3_begin_15

set_option maxHeartbeats 4000000 in
set_option maxRecDepth 100000 in
theorem k_X3_weightOf (l : Launch) (dC : Nat → ClassId) (dI : Nat → Nat → Nat) (sl : Nat) (ts : Nat) (ro : Nat) (me : Nat) (we : Nat) (li : Nat) (le : Int32) (to : Int32) (sz3 : Int32) (p0 : Int32)  : Met l yX3_weightOf wsX3_weightOf ({ frames := 0, cells := 0, slots := 0, locals := 0 }) (va_Pc [.ref sl, .int p0] (rPre dC dI [(sl, .inr (2, [.int 0, .int le, .int to, .ref ts, .ref ro, .ref me, .ref we, .ref li, .int sz3]))] [])) (vp_Si (fun r => r = 0)) 0 0 (fun _ => False) := by
  refine Met.ofW (cc := cX3_weightOf) (maxL := 4) (ret := (some .int)) (by decide) rfl ?_
  intro p e s m args below meth c s₁ B hml hv
  obtain ⟨rfl, hP, hK⟩ := hv
  have hx := B.exec
  have hb := B.bytes
  have hr := B.returns
  have hts := atoms_spec (ws := wsX3_weightOf) B.pre
  have hown : s.vm.findClass RX3 = some m.cls := findClass_of_methodNamed B.named
  have hlocks := B.notSynchronized
  have hl := lv_entry ([.ref sl, .int p0]) (n := 4) (Nat.le_of_ble_eq_true rfl)
  rw [lg_entry_eq]
  generalize (lg_sl ([.ref sl, .int p0]) ++ List.replicate (4 - (lg_sl ([.ref sl, .int p0])).length) Slot.unset).toArray = ls at hl ⊢
  have hl : lv_has ls 4 [(0, .ref sl), (1, .int p0)] := hl
  refine lv_iconst (v := 0) hx hb dX3_weightOf_0 (by decide) ?_
  refine lv_istore_n (lv' := [(2, .int 0), (0, .ref sl), (1, .int p0)]) hx hb dX3_weightOf_1 rfl hl (by decide) rfl (fun ls hl => ?_)
  refine lv_iconst (v := 0) hx hb dX3_weightOf_2 (by decide) ?_
  refine lv_istore_n (lv' := [(3, .int 0), (2, .int 0), (0, .ref sl), (1, .int p0)]) hx hb dX3_weightOf_3 rfl hl (by decide) rfl (fun ls hl => ?_)
  refine lv_iload_n hx hb dX3_weightOf_4 rfl (lv_at hl 0 rfl) ?_
  refine lv_aload_n hx hb dX3_weightOf_5 rfl (lv_at hl 2 rfl) ?_
  refine va_get (D := (dC, dI)) (ci := 2) (v := .int 0) (C := RX3) (T := TX3) (N := 9) hx hb hts (by decide +kernel) hown hK hP 0 rfl rfl 0 (by decide) (hts (.fieldLink RX3 27 "DayBench$SlipSets" "groups" "I") (by decide +kernel)) (fun _ h9 => h9) rfl dX3_weightOf_6 ?_
  refine lv_icmp_ge (tgt := 39) hx hb dX3_weightOf_9 (by decide) (fun h_1 => ?_) (fun h_1 => ?_)
  · refine lv_iload_n hx hb dX3_weightOf_39 rfl (lv_at hl 1 rfl) ?_
    exact W.iret (v := 0) hx hb hr (fun t ht hW => ⟨_, rfl, rfl, ht⟩) (fun _ h => by cases h) dX3_weightOf_40
  · exact (by first | exact absurd h_1 (by decide) | exact absurd (by decide) h_1)

set_option maxHeartbeats 4000000 in
set_option maxRecDepth 100000 in
theorem k_X3_sayingsOf (l : Launch) (dC : Nat → ClassId) (dI : Nat → Nat → Nat) (sl : Nat) (ts : Nat) (ro : Nat) (me : Nat) (we : Nat) (li : Nat) (le : Int32) (to : Int32) (sz3 : Int32) (p0 : Int32)  : Met l yX3_sayingsOf wsX3_sayingsOf ({ frames := 0, cells := 0, slots := 0, locals := 0 }) (va_Pc [.ref sl, .int p0] (rPre dC dI [(sl, .inr (2, [.int 0, .int le, .int to, .ref ts, .ref ro, .ref me, .ref we, .ref li, .int sz3]))] [])) (vp_Si (fun r => r = 0)) 0 0 (fun _ => False) := by
  refine Met.ofW (cc := cX3_sayingsOf) (maxL := 4) (ret := (some .int)) (by decide) rfl ?_
  intro p e s m args below meth c s₁ B hml hv
  obtain ⟨rfl, hP, hK⟩ := hv
  have hx := B.exec
  have hb := B.bytes
  have hr := B.returns
  have hts := atoms_spec (ws := wsX3_sayingsOf) B.pre
  have hown : s.vm.findClass RX3 = some m.cls := findClass_of_methodNamed B.named
  have hlocks := B.notSynchronized
  have hl := lv_entry ([.ref sl, .int p0]) (n := 4) (Nat.le_of_ble_eq_true rfl)
  rw [lg_entry_eq]
  generalize (lg_sl ([.ref sl, .int p0]) ++ List.replicate (4 - (lg_sl ([.ref sl, .int p0])).length) Slot.unset).toArray = ls at hl ⊢
  have hl : lv_has ls 4 [(0, .ref sl), (1, .int p0)] := hl
  refine lv_iconst (v := 0) hx hb dX3_sayingsOf_0 (by decide) ?_
  refine lv_istore_n (lv' := [(2, .int 0), (0, .ref sl), (1, .int p0)]) hx hb dX3_sayingsOf_1 rfl hl (by decide) rfl (fun ls hl => ?_)
  refine lv_iconst (v := 0) hx hb dX3_sayingsOf_2 (by decide) ?_
  refine lv_istore_n (lv' := [(3, .int 0), (2, .int 0), (0, .ref sl), (1, .int p0)]) hx hb dX3_sayingsOf_3 rfl hl (by decide) rfl (fun ls hl => ?_)
  refine lv_iload_n hx hb dX3_sayingsOf_4 rfl (lv_at hl 0 rfl) ?_
  refine lv_aload_n hx hb dX3_sayingsOf_5 rfl (lv_at hl 2 rfl) ?_
  refine va_get (D := (dC, dI)) (ci := 2) (v := .int 0) (C := RX3) (T := TX3) (N := 9) hx hb hts (by decide +kernel) hown hK hP 0 rfl rfl 0 (by decide) (hts (.fieldLink RX3 27 "DayBench$SlipSets" "groups" "I") (by decide +kernel)) (fun _ h9 => h9) rfl dX3_sayingsOf_6 ?_
  refine lv_icmp_ge (tgt := 39) hx hb dX3_sayingsOf_9 (by decide) (fun h_1 => ?_) (fun h_1 => ?_)
  · refine lv_iload_n hx hb dX3_sayingsOf_39 rfl (lv_at hl 1 rfl) ?_
    exact W.iret (v := 0) hx hb hr (fun t ht hW => ⟨_, rfl, rfl, ht⟩) (fun _ h => by cases h) dX3_sayingsOf_40
  · exact (by first | exact absurd h_1 (by decide) | exact absurd (by decide) h_1)

set_option maxHeartbeats 4000000 in
set_option maxRecDepth 100000 in
theorem k_X3_rootsOf (l : Launch) (dC : Nat → ClassId) (dI : Nat → Nat → Nat) (sl : Nat) (ts : Nat) (ro : Nat) (me : Nat) (we : Nat) (li : Nat) (le : Int32) (to : Int32) (sz3 : Int32) (p0 : Int32)  : Met l yX3_rootsOf wsX3_rootsOf ({ frames := 0, cells := 0, slots := 0, locals := 0 }) (va_Pc [.ref sl, .int p0] (rPre dC dI [(sl, .inr (2, [.int 0, .int le, .int to, .ref ts, .ref ro, .ref me, .ref we, .ref li, .int sz3]))] [])) (vp_Si (fun r => r = 0)) 0 0 (fun _ => False) := by
  refine Met.ofW (cc := cX3_rootsOf) (maxL := 4) (ret := (some .int)) (by decide) rfl ?_
  intro p e s m args below meth c s₁ B hml hv
  obtain ⟨rfl, hP, hK⟩ := hv
  have hx := B.exec
  have hb := B.bytes
  have hr := B.returns
  have hts := atoms_spec (ws := wsX3_rootsOf) B.pre
  have hown : s.vm.findClass RX3 = some m.cls := findClass_of_methodNamed B.named
  have hlocks := B.notSynchronized
  have hl := lv_entry ([.ref sl, .int p0]) (n := 4) (Nat.le_of_ble_eq_true rfl)
  rw [lg_entry_eq]
  generalize (lg_sl ([.ref sl, .int p0]) ++ List.replicate (4 - (lg_sl ([.ref sl, .int p0])).length) Slot.unset).toArray = ls at hl ⊢
  have hl : lv_has ls 4 [(0, .ref sl), (1, .int p0)] := hl
  refine lv_iconst (v := 0) hx hb dX3_rootsOf_0 (by decide) ?_
  refine lv_istore_n (lv' := [(2, .int 0), (0, .ref sl), (1, .int p0)]) hx hb dX3_rootsOf_1 rfl hl (by decide) rfl (fun ls hl => ?_)
  refine lv_iconst (v := 0) hx hb dX3_rootsOf_2 (by decide) ?_
  refine lv_istore_n (lv' := [(3, .int 0), (2, .int 0), (0, .ref sl), (1, .int p0)]) hx hb dX3_rootsOf_3 rfl hl (by decide) rfl (fun ls hl => ?_)
  refine lv_iload_n hx hb dX3_rootsOf_4 rfl (lv_at hl 0 rfl) ?_
  refine lv_aload_n hx hb dX3_rootsOf_5 rfl (lv_at hl 2 rfl) ?_
  refine va_get (D := (dC, dI)) (ci := 2) (v := .int 0) (C := RX3) (T := TX3) (N := 9) hx hb hts (by decide +kernel) hown hK hP 0 rfl rfl 0 (by decide) (hts (.fieldLink RX3 27 "DayBench$SlipSets" "groups" "I") (by decide +kernel)) (fun _ h9 => h9) rfl dX3_rootsOf_6 ?_
  refine lv_icmp_ge (tgt := 41) hx hb dX3_rootsOf_9 (by decide) (fun h_1 => ?_) (fun h_1 => ?_)
  · refine lv_iload_n hx hb dX3_rootsOf_41 rfl (lv_at hl 1 rfl) ?_
    exact W.iret (v := 0) hx hb hr (fun t ht hW => ⟨_, rfl, rfl, ht⟩) (fun _ h => by cases h) dX3_rootsOf_42
  · exact (by first | exact absurd h_1 (by decide) | exact absurd (by decide) h_1)

set_option maxHeartbeats 4000000 in
set_option maxRecDepth 100000 in
theorem k_X3_tooHeavy (l : Launch) (dC : Nat → ClassId) (dI : Nat → Nat → Nat) (sl : Nat) (ts : Nat) (ro : Nat) (me : Nat) (we : Nat) (li : Nat) (gr : Int32) (le : Int32) (to : Int32) (p0 : Int32)  : Met l yX3_tooHeavy wsX3_tooHeavy ({ frames := 0, cells := 0, slots := 0, locals := 0 }) (va_Pc [.ref sl, .int p0] (rPre dC dI [(sl, .inr (2, [.int gr, .int le, .int to, .ref ts, .ref ro, .ref me, .ref we, .ref li, .int 0]))] [])) (vp_Si (fun r => r = 0)) 0 0 (fun _ => False) := by
  refine Met.ofW (cc := cX3_tooHeavy) (maxL := 2) (ret := (some .boolean)) (by decide) rfl ?_
  intro p e s m args below meth c s₁ B hml hv
  obtain ⟨rfl, hP, hK⟩ := hv
  have hx := B.exec
  have hb := B.bytes
  have hr := B.returns
  have hts := atoms_spec (ws := wsX3_tooHeavy) B.pre
  have hown : s.vm.findClass RX3 = some m.cls := findClass_of_methodNamed B.named
  have hlocks := B.notSynchronized
  have hl := lv_entry ([.ref sl, .int p0]) (n := 2) (Nat.le_of_ble_eq_true rfl)
  rw [lg_entry_eq]
  generalize (lg_sl ([.ref sl, .int p0]) ++ List.replicate (2 - (lg_sl ([.ref sl, .int p0])).length) Slot.unset).toArray = ls at hl ⊢
  have hl : lv_has ls 2 [(0, .ref sl), (1, .int p0)] := hl
  refine lv_aload_n hx hb dX3_tooHeavy_0 rfl (lv_at hl 0 rfl) ?_
  refine va_get (D := (dC, dI)) (ci := 2) (v := .int 0) (C := RX3) (T := TX3) (N := 9) hx hb hts (by decide +kernel) hown hK hP 0 rfl rfl 8 (by decide) (hts (.fieldLink RX3 31 "DayBench$SlipSets" "size" "I") (by decide +kernel)) (fun _ h9 => h9) rfl dX3_tooHeavy_1 ?_
  refine lv_if_le (tgt := 19) hx hb dX3_tooHeavy_4 (by decide) (fun h_1 => ?_) (fun h_1 => ?_)
  · refine lv_iconst (v := 0) hx hb dX3_tooHeavy_19 (by decide) ?_
    exact W.zret (v := 0) hx hb hr rfl (fun t ht hW => ⟨_, rfl, rfl, ht⟩) (fun _ h => by cases h) dX3_tooHeavy_20
  · exact (by first | exact absurd h_1 (by decide) | exact absurd (by decide) h_1)

set_option maxHeartbeats 4000000 in
set_option maxRecDepth 100000 in
theorem k_X3_note (l : Launch) (dC : Nat → ClassId) (dI : Nat → Nat → Nat) (sz : Nat) (sl : Nat) (ts : Nat) (ro : Nat) (me : Nat) (we : Nat) (li : Nat) (gr : Int32) (le : Int32) (to : Int32) (cI : ClassId) (fL : Nat → Int32)  : Met l yX3_note wsX3_note ({ frames := 0, cells := 0, slots := 0, locals := 0 }) (va_Pc [.ref sl, .int 0, .int 0] (wPre dC dI sz [(sl, .inr (2, [.int gr, .int le, .int to, .ref ts, .ref ro, .ref me, .ref we, .ref li, .int 0])), (li, .inl (cI, 924, .inl fL))] [(cI, .int)])) (va_Qv (fun (u : Unit) => True) (fun (u : Unit) t => wPost dC dI (va_A [(sl, .inr (2, [.int gr, .int le, .int to, .ref ts, .ref ro, .ref me, .ref we, .ref li, .int 0])), (li, .inl (cI, 924, .inl fL))] sz) [(sl, .inr (2, [.int gr, .int 0, .int to, .ref ts, .ref ro, .ref me, .ref we, .ref li, .int 1])), (li, .inl (cI, 924, .inl (upd fL (0 : Int32).toNatClampNeg 0)))] t) (va_A [(sl, .inr (2, [.int gr, .int le, .int to, .ref ts, .ref ro, .ref me, .ref we, .ref li, .int 0])), (li, .inl (cI, 924, .inl fL))] sz)) 0 0 (va_A [(sl, .inr (2, [.int gr, .int le, .int to, .ref ts, .ref ro, .ref me, .ref we, .ref li, .int 0])), (li, .inl (cI, 924, .inl fL))] sz) := by
  refine Met.ofW (cc := cX3_note) (maxL := 3) (ret := none) (by decide) rfl ?_
  intro p e s m args below meth c s₁ B hml hv
  obtain ⟨rfl, hsz, hP, hK, hD0⟩ := hv
  have hx := B.exec
  have hb := B.bytes
  have hr := B.returns
  have hts := atoms_spec (ws := wsX3_note) B.pre
  have hown : s.vm.findClass RX3 = some m.cls := findClass_of_methodNamed B.named
  have hlocks := B.notSynchronized
  subst hsz
  have hD := hD0.self (sz := s.heap.size)
  generalize hAe : va_A [(sl, .inr (2, [.int gr, .int le, .int to, .ref ts, .ref ro, .ref me, .ref we, .ref li, .int 0])), (li, .inl (cI, 924, .inl fL))] s.heap.size = A at hD ⊢
  have hA : ∀ q : Nat, s.heap.size ≤ q → A q := fun q h => by rw [← hAe]; exact Or.inr h
  have hS : va_S A s.heap s.heap [] := va_S.rf
  have hP : va_P (dC, dI) vwCl [(sl, .inr (2, [.int gr, .int le, .int to, .ref ts, .ref ro, .ref me, .ref we, .ref li, .int 0])), (li, .inl (cI, 924, .inl fL))] s.heap := hP
  have hl := lv_entry ([.ref sl, .int 0, .int 0]) (n := 3) (Nat.le_of_ble_eq_true rfl)
  rw [lg_entry_eq]
  generalize (lg_sl ([.ref sl, .int 0, .int 0]) ++ List.replicate (3 - (lg_sl ([.ref sl, .int 0, .int 0])).length) Slot.unset).toArray = ls at hl ⊢
  have hl : lv_has ls 3 [(0, .ref sl), (1, .int 0), (2, .int 0)] := hl
  refine lv_aload_n hx hb dX3_note_0 rfl (lv_at hl 0 rfl) ?_
  refine va_get (D := (dC, dI)) (ci := 2) (v := .int 0) (C := RX3) (T := TX3) (N := 9) hx hb hts (by decide +kernel) hown hK hP 0 rfl rfl 8 (by decide) (hts (.fieldLink RX3 31 "DayBench$SlipSets" "size" "I") (by decide +kernel)) (fun _ h9 => h9) rfl dX3_note_1 ?_
  refine lv_if_eq (tgt := 15) hx hb dX3_note_4 (by decide) (fun h_1 => ?_) (fun h_1 => ?_)
  · refine lv_aload_n hx hb dX3_note_15 rfl (lv_at hl 0 rfl) ?_
    refine lv_iconst (v := 0) hx hb dX3_note_16 (by decide) ?_
    refine va_put (D := (dC, dI)) (ci := 2) (v := .int 0) (ty := .int) (C := RX3) (T := TX3) (N := 9) hx hb hts (by decide +kernel) tyX3 tyX3_ok nmX3 hown hK hP hD hS 0 rfl rfl 8 (by decide) (hts (.fieldLink RX3 31 "DayBench$SlipSets" "size" "I") (by decide +kernel)) (fun _ h9 => h9) rfl (by decide +kernel) rfl rfl (Nat.le_of_ble_eq_true rfl) dX3_note_17 (fun H locs hP hD hS => ?_)
    have hP : va_P (dC, dI) vwCl [(sl, .inr (2, [.int gr, .int le, .int to, .ref ts, .ref ro, .ref me, .ref we, .ref li, .int 0])), (li, .inl (cI, 924, .inl fL))] H := hP
    have hD : va_D A [(sl, .inr (2, [.int gr, .int le, .int to, .ref ts, .ref ro, .ref me, .ref we, .ref li, .int 0])), (li, .inl (cI, 924, .inl fL))] := hD
    refine lv_aload_n hx hb dX3_note_20 rfl (lv_at hl 0 rfl) ?_
    refine lv_iload_n hx hb dX3_note_21 rfl (lv_at hl 1 rfl) ?_
    refine va_put (D := (dC, dI)) (ci := 2) (v := .int 0) (ty := .int) (C := RX3) (T := TX3) (N := 9) hx hb hts (by decide +kernel) tyX3 tyX3_ok nmX3 hown hK hP hD hS 0 rfl rfl 1 (by decide) (hts (.fieldLink RX3 34 "DayBench$SlipSets" "least" "I") (by decide +kernel)) (fun _ h9 => h9) rfl (by decide +kernel) rfl rfl (Nat.le_of_ble_eq_true rfl) dX3_note_22 (fun H locs hP hD hS => ?_)
    have hP : va_P (dC, dI) vwCl [(sl, .inr (2, [.int gr, .int 0, .int to, .ref ts, .ref ro, .ref me, .ref we, .ref li, .int 0])), (li, .inl (cI, 924, .inl fL))] H := hP
    have hD : va_D A [(sl, .inr (2, [.int gr, .int 0, .int to, .ref ts, .ref ro, .ref me, .ref we, .ref li, .int 0])), (li, .inl (cI, 924, .inl fL))] := hD
    refine lv_aload_n hx hb dX3_note_25 rfl (lv_at hl 0 rfl) ?_
    refine va_get (D := (dC, dI)) (ci := 2) (v := .int 0) (C := RX3) (T := TX3) (N := 9) hx hb hts (by decide +kernel) hown hK hP 0 rfl rfl 8 (by decide) (hts (.fieldLink RX3 31 "DayBench$SlipSets" "size" "I") (by decide +kernel)) (fun _ h9 => h9) rfl dX3_note_26 ?_
    refine lv_sipush (v := 924) hx hb dX3_note_29 (by decide) ?_
    refine lv_icmp_ge (tgt := 55) hx hb dX3_note_32 (by decide) (fun h_2 => ?_) (fun h_2 => ?_)
    · exact (by first | exact absurd h_2 (by decide) | exact absurd (by decide) h_2)
    · refine lv_aload_n hx hb dX3_note_35 rfl (lv_at hl 0 rfl) ?_
      refine va_get (D := (dC, dI)) (ci := 2) (v := .ref li) (C := RX3) (T := TX3) (N := 9) hx hb hts (by decide +kernel) hown hK hP 0 rfl rfl 7 (by decide) (hts (.fieldLink RX3 24 "DayBench$SlipSets" "lightest" "[I") (by decide +kernel)) (fun _ h9 => h9) rfl dX3_note_36 ?_
      refine lv_aload_n hx hb dX3_note_39 rfl (lv_at hl 0 rfl) ?_
      refine va_get (D := (dC, dI)) (ci := 2) (v := .int 0) (C := RX3) (T := TX3) (N := 9) hx hb hts (by decide +kernel) hown hK hP 0 rfl rfl 8 (by decide) (hts (.fieldLink RX3 31 "DayBench$SlipSets" "size" "I") (by decide +kernel)) (fun _ h9 => h9) rfl dX3_note_40 ?_
      refine lv_iload_n hx hb dX3_note_43 rfl (lv_at hl 2 rfl) ?_
      refine va_iast hx hb hK hP hD hS 1 0 rfl rfl (by unfold vp_in; decide) dX3_note_44 (fun H locs hP hD hS => ?_)
      have hP : va_P (dC, dI) vwCl [(sl, .inr (2, [.int gr, .int 0, .int to, .ref ts, .ref ro, .ref me, .ref we, .ref li, .int 0])), (li, .inl (cI, 924, .inl (upd fL (0 : Int32).toNatClampNeg 0)))] H := hP
      have hD : va_D A [(sl, .inr (2, [.int gr, .int 0, .int to, .ref ts, .ref ro, .ref me, .ref we, .ref li, .int 0])), (li, .inl (cI, 924, .inl (upd fL (0 : Int32).toNatClampNeg 0)))] := hD
      refine lv_aload_n hx hb dX3_note_45 rfl (lv_at hl 0 rfl) ?_
      refine lv_dup hx hb dX3_note_46 rfl ?_
      refine va_get (D := (dC, dI)) (ci := 2) (v := .int 0) (C := RX3) (T := TX3) (N := 9) hx hb hts (by decide +kernel) hown hK hP 0 rfl rfl 8 (by decide) (hts (.fieldLink RX3 31 "DayBench$SlipSets" "size" "I") (by decide +kernel)) (fun _ h9 => h9) rfl dX3_note_47 ?_
      refine lv_iconst (v := 1) hx hb dX3_note_50 (by decide) ?_
      refine lv_iadd hx hb dX3_note_51 ?_
      refine lv_topi (fun x_3 ex_3 => ?_)
      have ex_3 : x_3 = 1 := ex_3.trans (by decide)
      subst ex_3
      refine va_put (D := (dC, dI)) (ci := 2) (v := .int 1) (ty := .int) (C := RX3) (T := TX3) (N := 9) hx hb hts (by decide +kernel) tyX3 tyX3_ok nmX3 hown hK hP hD hS 0 rfl rfl 8 (by decide) (hts (.fieldLink RX3 31 "DayBench$SlipSets" "size" "I") (by decide +kernel)) (fun _ h9 => h9) rfl (by decide +kernel) rfl rfl (Nat.le_of_ble_eq_true rfl) dX3_note_52 (fun H locs hP hD hS => ?_)
      have hP : va_P (dC, dI) vwCl [(sl, .inr (2, [.int gr, .int 0, .int to, .ref ts, .ref ro, .ref me, .ref we, .ref li, .int 1])), (li, .inl (cI, 924, .inl (upd fL (0 : Int32).toNatClampNeg 0)))] H := hP
      have hD : va_D A [(sl, .inr (2, [.int gr, .int 0, .int to, .ref ts, .ref ro, .ref me, .ref we, .ref li, .int 1])), (li, .inl (cI, 924, .inl (upd fL (0 : Int32).toNatClampNeg 0)))] := hD
      have hP9 := hP.sub (ws' := [(sl, .inr (2, [.int gr, .int 0, .int to, .ref ts, .ref ro, .ref me, .ref we, .ref li, .int 1])), (li, .inl (cI, 924, .inl (upd fL (0 : Int32).toNatClampNeg 0)))]) [0, 1] rfl
      have hD9 := hD.sub (ws' := [(sl, .inr (2, [.int gr, .int 0, .int to, .ref ts, .ref ro, .ref me, .ref we, .ref li, .int 1])), (li, .inl (cI, 924, .inl (upd fL (0 : Int32).toNatClampNeg 0)))]) [0, 1] (by decide) rfl
      exact W.vret hx hb hr (fun t ht hW => ⟨⟨(), rfl, trivial, by rw [ht]; exact hP9, hD9⟩, hS.F ht⟩) hS.2.2 dX3_note_55
  · exact (by first | exact absurd h_1 (by decide) | exact absurd (by decide) h_1)

set_option maxHeartbeats 4000000 in
set_option maxRecDepth 100000 in
theorem k_X3_tell (l : Launch) (dC : Nat → ClassId) (dI : Nat → Nat → Nat) (sz : Nat) (sl : Nat) (ts : Nat) (ro : Nat) (me : Nat) (we : Nat) (li : Nat) (gr : Int32) (le : Int32) (to : Int32) (cI : ClassId) (fL : Nat → Int32) (fT : Nat → Int32)  : Met l yX3_tell wsX3_tell ({ frames := 1, cells := 0, slots := 0, locals := 40 }) (va_Pc [.ref sl] (wPre dC dI sz [(sl, .inr (2, [.int gr, .int le, .int to, .ref ts, .ref ro, .ref me, .ref we, .ref li, .int 1])), (li, .inl (cI, 924, .inl fL)), (ts, .inl (cI, 924, .inl fT))] [(cI, .int)])) (va_Qv (fun (u : Unit) => True) (fun (u : Unit) t => wPost dC dI (va_A [(sl, .inr (2, [.int gr, .int le, .int to, .ref ts, .ref ro, .ref me, .ref we, .ref li, .int 1])), (li, .inl (cI, 924, .inl fL)), (ts, .inl (cI, 924, .inl fT))] sz) [(sl, .inr (2, [.int gr, .int le, .int 1, .ref ts, .ref ro, .ref me, .ref we, .ref li, .int 1]))] t) (va_A [(sl, .inr (2, [.int gr, .int le, .int to, .ref ts, .ref ro, .ref me, .ref we, .ref li, .int 1])), (li, .inl (cI, 924, .inl fL)), (ts, .inl (cI, 924, .inl fT))] sz)) 0 0 (va_A [(sl, .inr (2, [.int gr, .int le, .int to, .ref ts, .ref ro, .ref me, .ref we, .ref li, .int 1])), (li, .inl (cI, 924, .inl fL)), (ts, .inl (cI, 924, .inl fT))] sz) := by
  refine Met.ofW (cc := cX3_tell) (maxL := 1) (ret := none) (by decide) rfl ?_
  intro p e s m args below meth c s₁ B hml hv
  obtain ⟨rfl, hsz, hP, hK, hD0⟩ := hv
  have hx := B.exec
  have hb := B.bytes
  have hr := B.returns
  have hts := atoms_spec (ws := wsX3_tell) B.pre
  have hown : s.vm.findClass RX3 = some m.cls := findClass_of_methodNamed B.named
  have hlocks := B.notSynchronized
  subst hsz
  have hD := hD0.self (sz := s.heap.size)
  generalize hAe : va_A [(sl, .inr (2, [.int gr, .int le, .int to, .ref ts, .ref ro, .ref me, .ref we, .ref li, .int 1])), (li, .inl (cI, 924, .inl fL)), (ts, .inl (cI, 924, .inl fT))] s.heap.size = A at hD ⊢
  have hA : ∀ q : Nat, s.heap.size ≤ q → A q := fun q h => by rw [← hAe]; exact Or.inr h
  have hS : va_S A s.heap s.heap [] := va_S.rf
  have hP : va_P (dC, dI) vwCl [(sl, .inr (2, [.int gr, .int le, .int to, .ref ts, .ref ro, .ref me, .ref we, .ref li, .int 1])), (li, .inl (cI, 924, .inl fL)), (ts, .inl (cI, 924, .inl fT))] s.heap := hP
  have hl := lv_entry ([.ref sl]) (n := 1) (Nat.le_of_ble_eq_true rfl)
  rw [lg_entry_eq]
  generalize (lg_sl ([.ref sl]) ++ List.replicate (1 - (lg_sl ([.ref sl])).length) Slot.unset).toArray = ls at hl ⊢
  have hl : lv_has ls 1 [(0, .ref sl)] := hl
  refine lv_aload_n hx hb dX3_tell_0 rfl (lv_at hl 0 rfl) ?_
  refine va_get (D := (dC, dI)) (ci := 2) (v := .ref li) (C := RX3) (T := TX3) (N := 9) hx hb hts (by decide +kernel) hown hK hP 0 rfl rfl 7 (by decide) (hts (.fieldLink RX3 24 "DayBench$SlipSets" "lightest" "[I") (by decide +kernel)) (fun _ h9 => h9) rfl dX3_tell_1 ?_
  refine lv_iconst (v := 0) hx hb dX3_tell_4 (by decide) ?_
  refine lv_aload_n hx hb dX3_tell_5 rfl (lv_at hl 0 rfl) ?_
  refine va_get (D := (dC, dI)) (ci := 2) (v := .ref ts) (C := RX3) (T := TX3) (N := 9) hx hb hts (by decide +kernel) hown hK hP 0 rfl rfl 3 (by decide) (hts (.fieldLink RX3 11 "DayBench$SlipSets" "toldSets" "[I") (by decide +kernel)) (fun _ h9 => h9) rfl dX3_tell_6 ?_
  refine lv_iconst (v := 0) hx hb dX3_tell_9 (by decide) ?_
  refine lv_aload_n hx hb dX3_tell_10 rfl (lv_at hl 0 rfl) ?_
  refine va_get (D := (dC, dI)) (ci := 2) (v := .int 1) (C := RX3) (T := TX3) (N := 9) hx hb hts (by decide +kernel) hown hK hP 0 rfl rfl 8 (by decide) (hts (.fieldLink RX3 31 "DayBench$SlipSets" "size" "I") (by decide +kernel)) (fun _ h9 => h9) rfl dX3_tell_11 ?_
  refine va_copyi (own := RX3) (ty := .int) hx hb (hml.trans hl.1.symm) hown (hts (.methodLink RX3 37 arraycopyName) (by decide +kernel)) (hts (.native arraycopyName) (by decide +kernel)) (hts (.static arraycopyName) (by decide +kernel)) (hts (.initialized "java/lang/System") (by decide +kernel)) hK hP hD hS 1 2 0 0 rfl rfl rfl rfl rfl (by decide) (by decide) (by decide) (by decide) (by decide) (fun _ _ => rfl) (Nat.le_of_ble_eq_true rfl) (Nat.le_of_ble_eq_true rfl) dX3_tell_14 (fun H locs hP hD hS => ?_)
  have hP : va_P (dC, dI) vwCl [(sl, .inr (2, [.int gr, .int le, .int to, .ref ts, .ref ro, .ref me, .ref we, .ref li, .int 1])), (li, .inl (cI, 924, .inl fL)), (ts, .inl (cI, 924, .inl (va_cpy fL fT (0 : Int32).toNatClampNeg (0 : Int32).toNatClampNeg (1 : Int32).toNatClampNeg)))] H := hP
  have hD : va_D A [(sl, .inr (2, [.int gr, .int le, .int to, .ref ts, .ref ro, .ref me, .ref we, .ref li, .int 1])), (li, .inl (cI, 924, .inl fL)), (ts, .inl (cI, 924, .inl (va_cpy fL fT (0 : Int32).toNatClampNeg (0 : Int32).toNatClampNeg (1 : Int32).toNatClampNeg)))] := hD
  refine lv_aload_n hx hb dX3_tell_17 rfl (lv_at hl 0 rfl) ?_
  refine lv_aload_n hx hb dX3_tell_18 rfl (lv_at hl 0 rfl) ?_
  refine va_get (D := (dC, dI)) (ci := 2) (v := .int 1) (C := RX3) (T := TX3) (N := 9) hx hb hts (by decide +kernel) hown hK hP 0 rfl rfl 8 (by decide) (hts (.fieldLink RX3 31 "DayBench$SlipSets" "size" "I") (by decide +kernel)) (fun _ h9 => h9) rfl dX3_tell_19 ?_
  refine va_put (D := (dC, dI)) (ci := 2) (v := .int 1) (ty := .int) (C := RX3) (T := TX3) (N := 9) hx hb hts (by decide +kernel) tyX3 tyX3_ok nmX3 hown hK hP hD hS 0 rfl rfl 2 (by decide) (hts (.fieldLink RX3 43 "DayBench$SlipSets" "told" "I") (by decide +kernel)) (fun _ h9 => h9) rfl (by decide +kernel) rfl rfl (Nat.le_of_ble_eq_true rfl) dX3_tell_22 (fun H locs hP hD hS => ?_)
  have hP : va_P (dC, dI) vwCl [(sl, .inr (2, [.int gr, .int le, .int 1, .ref ts, .ref ro, .ref me, .ref we, .ref li, .int 1])), (li, .inl (cI, 924, .inl fL)), (ts, .inl (cI, 924, .inl (va_cpy fL fT (0 : Int32).toNatClampNeg (0 : Int32).toNatClampNeg (1 : Int32).toNatClampNeg)))] H := hP
  have hD : va_D A [(sl, .inr (2, [.int gr, .int le, .int 1, .ref ts, .ref ro, .ref me, .ref we, .ref li, .int 1])), (li, .inl (cI, 924, .inl fL)), (ts, .inl (cI, 924, .inl (va_cpy fL fT (0 : Int32).toNatClampNeg (0 : Int32).toNatClampNeg (1 : Int32).toNatClampNeg)))] := hD
  have hP9 := hP.sub (ws' := [(sl, .inr (2, [.int gr, .int le, .int 1, .ref ts, .ref ro, .ref me, .ref we, .ref li, .int 1]))]) [0] rfl
  have hD9 := hD.sub (ws' := [(sl, .inr (2, [.int gr, .int le, .int 1, .ref ts, .ref ro, .ref me, .ref we, .ref li, .int 1]))]) [0] (by decide) rfl
  exact W.vret hx hb hr (fun t ht hW => ⟨⟨(), rfl, trivial, by rw [ht]; exact hP9, hD9⟩, hS.F ht⟩) hS.2.2 dX3_tell_25

set_option maxHeartbeats 4000000 in
set_option maxRecDepth 100000 in
theorem k_X5_gatherGroups (l : Launch) (dC : Nat → ClassId) (dI : Nat → Nat → Nat) (sz : Nat) (h0 : Nat) (kc : Nat) (kf : Nat) (kt : Nat) (sy : Nat) (se : Nat) (sl : Nat) (hf : Nat) (hh : Nat) (ts : Nat) (ro : Nat) (me : Nat) (we : Nat) (li : Nat) (gr : Int32) (le : Int32) (to : Int32) (sz3 : Int32) (p0 : Int32)  : Met l yX5_gatherGroups wsX5_gatherGroups ({ frames := 1, cells := 0, slots := 0, locals := 20 }) (va_Pc [.ref h0, .int p0] (wPre dC dI sz [(h0, .inr (4, [.ref kc, .ref kf, .ref kt, .int 0, .int 0, .ref sy, .int 0, .ref se, .ref sl, .ref hf, .ref hh])), (sl, .inr (2, [.int gr, .int le, .int to, .ref ts, .ref ro, .ref me, .ref we, .ref li, .int sz3]))] [])) (va_Qv (fun (u : Unit) => True) (fun (u : Unit) t => wPost dC dI (va_A [(h0, .inr (4, [.ref kc, .ref kf, .ref kt, .int 0, .int 0, .ref sy, .int 0, .ref se, .ref sl, .ref hf, .ref hh])), (sl, .inr (2, [.int gr, .int le, .int to, .ref ts, .ref ro, .ref me, .ref we, .ref li, .int sz3]))] sz) [(h0, .inr (4, [.ref kc, .ref kf, .ref kt, .int 0, .int 0, .ref sy, .int 0, .ref se, .ref sl, .ref hf, .ref hh])), (sl, .inr (2, [.int 0, .int 0, .int to, .ref ts, .ref ro, .ref me, .ref we, .ref li, .int 0]))] t) (va_A [(h0, .inr (4, [.ref kc, .ref kf, .ref kt, .int 0, .int 0, .ref sy, .int 0, .ref se, .ref sl, .ref hf, .ref hh])), (sl, .inr (2, [.int gr, .int le, .int to, .ref ts, .ref ro, .ref me, .ref we, .ref li, .int sz3]))] sz)) 0 0 (va_A [(h0, .inr (4, [.ref kc, .ref kf, .ref kt, .int 0, .int 0, .ref sy, .int 0, .ref se, .ref sl, .ref hf, .ref hh])), (sl, .inr (2, [.int gr, .int le, .int to, .ref ts, .ref ro, .ref me, .ref we, .ref li, .int sz3]))] sz) := by
  refine Met.ofW (cc := cX5_gatherGroups) (maxL := 5) (ret := none) (by decide) rfl ?_
  intro p e s m args below meth c s₁ B hml hv
  obtain ⟨rfl, hsz, hP, hK, hD0⟩ := hv
  have hx := B.exec
  have hb := B.bytes
  have hr := B.returns
  have hts := atoms_spec (ws := wsX5_gatherGroups) B.pre
  have hown : s.vm.findClass RX5 = some m.cls := findClass_of_methodNamed B.named
  have hlocks := B.notSynchronized
  subst hsz
  have hD := hD0.self (sz := s.heap.size)
  generalize hAe : va_A [(h0, .inr (4, [.ref kc, .ref kf, .ref kt, .int 0, .int 0, .ref sy, .int 0, .ref se, .ref sl, .ref hf, .ref hh])), (sl, .inr (2, [.int gr, .int le, .int to, .ref ts, .ref ro, .ref me, .ref we, .ref li, .int sz3]))] s.heap.size = A at hD ⊢
  have hA : ∀ q : Nat, s.heap.size ≤ q → A q := fun q h => by rw [← hAe]; exact Or.inr h
  have hS : va_S A s.heap s.heap [] := va_S.rf
  have hP : va_P (dC, dI) vwCl [(h0, .inr (4, [.ref kc, .ref kf, .ref kt, .int 0, .int 0, .ref sy, .int 0, .ref se, .ref sl, .ref hf, .ref hh])), (sl, .inr (2, [.int gr, .int le, .int to, .ref ts, .ref ro, .ref me, .ref we, .ref li, .int sz3]))] s.heap := hP
  have hl := lv_entry ([.ref h0, .int p0]) (n := 5) (Nat.le_of_ble_eq_true rfl)
  rw [lg_entry_eq]
  generalize (lg_sl ([.ref h0, .int p0]) ++ List.replicate (5 - (lg_sl ([.ref h0, .int p0])).length) Slot.unset).toArray = ls at hl ⊢
  have hl : lv_has ls 5 [(0, .ref h0), (1, .int p0)] := hl
  refine lv_aload_n hx hb dX5_gatherGroups_0 rfl (lv_at hl 0 rfl) ?_
  refine va_get (D := (dC, dI)) (ci := 4) (v := .ref sl) (C := RX5) (T := TX5) (N := 11) hx hb hts (by decide +kernel) hown hK hP 0 rfl rfl 8 (by decide) (hts (.fieldLink RX5 36 "DayBench" "slipSets" "LDayBench$SlipSets;") (by decide +kernel)) (fun _ h9 => h9) rfl dX5_gatherGroups_1 ?_
  have hPc := hP.sub (ws' := [(sl, .inr (2, [.int gr, .int le, .int to, .ref ts, .ref ro, .ref me, .ref we, .ref li, .int sz3]))]) [1] rfl
  have hKc := hK.sub (tys' := []) [] rfl
  have hDc := hD.sub (ws' := [(sl, .inr (2, [.int gr, .int le, .int to, .ref ts, .ref ro, .ref me, .ref we, .ref li, .int sz3]))]) [1] (by decide) rfl
  have hFc := va_free (wc := [(sl, .inr (2, [.int gr, .int le, .int to, .ref ts, .ref ro, .ref me, .ref we, .ref li, .int sz3]))]) hD hS hA [1] rfl
  refine va_callv (va_runV (As := []) (rest := []) ⟨hx, hb, hml, hown, hts⟩ (k_X3_begin l dC dI s.heap.size sl ts ro me we li gr le to sz3) (cwV 0 hts gX5_gatherGroups_X3_begin rfl rfl rfl (by decide +kernel) ⟨Nat.le_of_ble_eq_true rfl, Nat.le_of_ble_eq_true rfl⟩) ⟨wPre_blind, va_recv hKc hPc (ci := 2) (q0 := 0) rfl rfl, fun U hU hW => ⟨rfl, wPre_at hPc hKc hDc hU hW⟩⟩ rfl rfl hl.1 rfl (lv_room (Nat.le_of_ble_eq_true rfl)) dX5_gatherGroups_4 ⟨Nat.le_of_ble_eq_true rfl, Nat.le_of_ble_eq_true rfl⟩) hS (fun q _ h => hFc q h) hFc (fun u t H1 locs ht hvm hw hB hz1 hk1 hS => ?_)
  obtain ⟨hP1, hD1⟩ := hB
  rw [ht] at hP1
  obtain ⟨hP, hD⟩ := va_join (wr := [(h0, .inr (4, [.ref kc, .ref kf, .ref kt, .int 0, .int 0, .ref sy, .int 0, .ref se, .ref sl, .ref hf, .ref hh]))]) (w1 := [(sl, .inr (2, [.int 0, .int 0, .int to, .ref ts, .ref ro, .ref me, .ref we, .ref li, .int 0]))]) hP hD [1] [0] rfl rfl (by decide) (by decide) hk1 hFc hP1 hD1
  clear hP1 hD1 hz1 hk1 hFc hPc hDc ht
  generalize H1 = H at hP hS ⊢
  have hP : va_P (dC, dI) vwCl [(h0, .inr (4, [.ref kc, .ref kf, .ref kt, .int 0, .int 0, .ref sy, .int 0, .ref se, .ref sl, .ref hf, .ref hh])), (sl, .inr (2, [.int 0, .int 0, .int to, .ref ts, .ref ro, .ref me, .ref we, .ref li, .int 0]))] H := hP
  have hD : va_D A [(h0, .inr (4, [.ref kc, .ref kf, .ref kt, .int 0, .int 0, .ref sy, .int 0, .ref se, .ref sl, .ref hf, .ref hh])), (sl, .inr (2, [.int 0, .int 0, .int to, .ref ts, .ref ro, .ref me, .ref we, .ref li, .int 0]))] := hD
  refine lv_iconst (v := 0) hx hb dX5_gatherGroups_7 (by decide) ?_
  refine lv_istore_n (lv' := [(2, .int 0), (0, .ref h0), (1, .int p0)]) hx hb dX5_gatherGroups_8 rfl hl (by decide) rfl (fun ls hl => ?_)
  refine lv_iload_n hx hb dX5_gatherGroups_9 rfl (lv_at hl 0 rfl) ?_
  refine lv_aload_n hx hb dX5_gatherGroups_10 rfl (lv_at hl 1 rfl) ?_
  refine va_get (D := (dC, dI)) (ci := 4) (v := .int 0) (C := RX5) (T := TX5) (N := 11) hx hb hts (by decide +kernel) hown hK hP 0 rfl rfl 6 (by decide) (hts (.fieldLink RX5 74 "DayBench" "sayingsMade" "I") (by decide +kernel)) (fun _ h9 => h9) rfl dX5_gatherGroups_11 ?_
  refine lv_icmp_ge (tgt := 84) hx hb dX5_gatherGroups_14 (by decide) (fun h_2 => ?_) (fun h_2 => ?_)
  · have hP9 := hP.sub (ws' := [(h0, .inr (4, [.ref kc, .ref kf, .ref kt, .int 0, .int 0, .ref sy, .int 0, .ref se, .ref sl, .ref hf, .ref hh])), (sl, .inr (2, [.int 0, .int 0, .int to, .ref ts, .ref ro, .ref me, .ref we, .ref li, .int 0]))]) [0, 1] rfl
    have hD9 := hD.sub (ws' := [(h0, .inr (4, [.ref kc, .ref kf, .ref kt, .int 0, .int 0, .ref sy, .int 0, .ref se, .ref sl, .ref hf, .ref hh])), (sl, .inr (2, [.int 0, .int 0, .int to, .ref ts, .ref ro, .ref me, .ref we, .ref li, .int 0]))]) [0, 1] (by decide) rfl
    exact W.vret hx hb hr (fun t ht hW => ⟨⟨(), rfl, trivial, by rw [ht]; exact hP9, hD9⟩, hS.F ht⟩) hS.2.2 dX5_gatherGroups_84
  · exact (by first | exact absurd h_2 (by decide) | exact absurd (by decide) h_2)

set_option maxHeartbeats 4000000 in
set_option maxRecDepth 100000 in
theorem k_X5_slips (l : Launch) (dC : Nat → ClassId) (dI : Nat → Nat → Nat) (sz : Nat) (h0 : Nat) (kc : Nat) (kf : Nat) (kt : Nat) (sy : Nat) (se : Nat) (sl : Nat) (hf : Nat) (hh : Nat) (ea : Nat) (la : Nat) (ss : Nat) (spr : Nat) (fsp : Nat) (ap : Nat) (lw : Nat) (hg : Nat) (cS : ClassId) (fS : Nat → Option Nat) (ts : Nat) (ro : Nat) (me : Nat) (we : Nat) (li : Nat) (cI : ClassId) (fL : Nat → Int32) (fT : Nat → Int32)  : Met l yX5_slips wsX5_slips ({ frames := 4, cells := 0, slots := 0, locals := 87 }) (va_Pc [.ref h0] (wPre dC dI sz [(h0, .inr (4, [.ref kc, .ref kf, .ref kt, .int 0, .int 0, .ref sy, .int 0, .ref se, .ref sl, .ref hf, .ref hh])), (se, .inr (1, [.ref ea, .ref la, .int 0, .int 0, .int 0, .int 0, .int 0, .int 0, .ref ss, .ref spr, .ref fsp, .ref ap, .ref lw, .ref hg])), (sy, .inl (cS, 12, .inr (.inr (.inr (.inr fS))))), (sl, .inr (2, [.int 0, .int 0, .int 0, .ref ts, .ref ro, .ref me, .ref we, .ref li, .int 0])), (li, .inl (cI, 924, .inl fL)), (ts, .inl (cI, 924, .inl fT))] [(cS, (.object "DayBench$Saying")), (cI, .int)])) (va_Qi (fun (r : Int32) (u : Unit) => r = 0) (fun (u : Unit) t => wPost dC dI (va_A [(h0, .inr (4, [.ref kc, .ref kf, .ref kt, .int 0, .int 0, .ref sy, .int 0, .ref se, .ref sl, .ref hf, .ref hh])), (se, .inr (1, [.ref ea, .ref la, .int 0, .int 0, .int 0, .int 0, .int 0, .int 0, .ref ss, .ref spr, .ref fsp, .ref ap, .ref lw, .ref hg])), (sy, .inl (cS, 12, .inr (.inr (.inr (.inr fS))))), (sl, .inr (2, [.int 0, .int 0, .int 0, .ref ts, .ref ro, .ref me, .ref we, .ref li, .int 0])), (li, .inl (cI, 924, .inl fL)), (ts, .inl (cI, 924, .inl fT))] sz) [] t) (va_A [(h0, .inr (4, [.ref kc, .ref kf, .ref kt, .int 0, .int 0, .ref sy, .int 0, .ref se, .ref sl, .ref hf, .ref hh])), (se, .inr (1, [.ref ea, .ref la, .int 0, .int 0, .int 0, .int 0, .int 0, .int 0, .ref ss, .ref spr, .ref fsp, .ref ap, .ref lw, .ref hg])), (sy, .inl (cS, 12, .inr (.inr (.inr (.inr fS))))), (sl, .inr (2, [.int 0, .int 0, .int 0, .ref ts, .ref ro, .ref me, .ref we, .ref li, .int 0])), (li, .inl (cI, 924, .inl fL)), (ts, .inl (cI, 924, .inl fT))] sz)) 0 0 (va_A [(h0, .inr (4, [.ref kc, .ref kf, .ref kt, .int 0, .int 0, .ref sy, .int 0, .ref se, .ref sl, .ref hf, .ref hh])), (se, .inr (1, [.ref ea, .ref la, .int 0, .int 0, .int 0, .int 0, .int 0, .int 0, .ref ss, .ref spr, .ref fsp, .ref ap, .ref lw, .ref hg])), (sy, .inl (cS, 12, .inr (.inr (.inr (.inr fS))))), (sl, .inr (2, [.int 0, .int 0, .int 0, .ref ts, .ref ro, .ref me, .ref we, .ref li, .int 0])), (li, .inl (cI, 924, .inl fL)), (ts, .inl (cI, 924, .inl fT))] sz) := by
  refine Met.ofW (cc := cX5_slips) (maxL := 6) (ret := (some .int)) (by decide) rfl ?_
  intro p e s m args below meth c s₁ B hml hv
  obtain ⟨rfl, hsz, hP, hK, hD0⟩ := hv
  have hx := B.exec
  have hb := B.bytes
  have hr := B.returns
  have hts := atoms_spec (ws := wsX5_slips) B.pre
  have hown : s.vm.findClass RX5 = some m.cls := findClass_of_methodNamed B.named
  have hlocks := B.notSynchronized
  subst hsz
  have hD := hD0.self (sz := s.heap.size)
  generalize hAe : va_A [(h0, .inr (4, [.ref kc, .ref kf, .ref kt, .int 0, .int 0, .ref sy, .int 0, .ref se, .ref sl, .ref hf, .ref hh])), (se, .inr (1, [.ref ea, .ref la, .int 0, .int 0, .int 0, .int 0, .int 0, .int 0, .ref ss, .ref spr, .ref fsp, .ref ap, .ref lw, .ref hg])), (sy, .inl (cS, 12, .inr (.inr (.inr (.inr fS))))), (sl, .inr (2, [.int 0, .int 0, .int 0, .ref ts, .ref ro, .ref me, .ref we, .ref li, .int 0])), (li, .inl (cI, 924, .inl fL)), (ts, .inl (cI, 924, .inl fT))] s.heap.size = A at hD ⊢
  have hA : ∀ q : Nat, s.heap.size ≤ q → A q := fun q h => by rw [← hAe]; exact Or.inr h
  have hS : va_S A s.heap s.heap [] := va_S.rf
  have hP : va_P (dC, dI) vwCl [(h0, .inr (4, [.ref kc, .ref kf, .ref kt, .int 0, .int 0, .ref sy, .int 0, .ref se, .ref sl, .ref hf, .ref hh])), (se, .inr (1, [.ref ea, .ref la, .int 0, .int 0, .int 0, .int 0, .int 0, .int 0, .ref ss, .ref spr, .ref fsp, .ref ap, .ref lw, .ref hg])), (sy, .inl (cS, 12, .inr (.inr (.inr (.inr fS))))), (sl, .inr (2, [.int 0, .int 0, .int 0, .ref ts, .ref ro, .ref me, .ref we, .ref li, .int 0])), (li, .inl (cI, 924, .inl fL)), (ts, .inl (cI, 924, .inl fT))] s.heap := hP
  have hl := lv_entry ([.ref h0]) (n := 6) (Nat.le_of_ble_eq_true rfl)
  rw [lg_entry_eq]
  generalize (lg_sl ([.ref h0]) ++ List.replicate (6 - (lg_sl ([.ref h0])).length) Slot.unset).toArray = ls at hl ⊢
  have hl : lv_has ls 6 [(0, .ref h0)] := hl
  refine lv_aload_n hx hb dX5_slips_0 rfl (lv_at hl 0 rfl) ?_
  have hPc := hP.sub (ws' := [(h0, .inr (4, [.ref kc, .ref kf, .ref kt, .int 0, .int 0, .ref sy, .int 0, .ref se, .ref sl, .ref hf, .ref hh]))]) [0] rfl
  have hKc := hK.sub (tys' := []) [] rfl
  refine vp_callSi (va_Run.run (va_runV (As := []) (rest := []) ⟨hx, hb, hml, hown, hts⟩ (k_X5_takenSet l dC dI h0 kc kf kt sy se sl hf hh) (cwV 0 hts gX5_slips_X5_takenSet rfl rfl rfl (by decide +kernel) ⟨Nat.le_of_ble_eq_true rfl, Nat.le_of_ble_eq_true rfl⟩) ⟨rPre_blind, va_recv hKc hPc (ci := 4) (q0 := 0) rfl rfl, fun U hU hW => ⟨rfl, rPre_at hPc hKc hU hW⟩⟩ rfl rfl hl.1 rfl (lv_room (Nat.le_of_ble_eq_true rfl)) dX5_slips_1 ⟨Nat.le_of_ble_eq_true rfl, Nat.le_of_ble_eq_true rfl⟩)) (fun r_1 er_1 => ?_)
  subst er_1
  refine lv_istore_n (lv' := [(1, .int 0), (0, .ref h0)]) hx hb dX5_slips_4 rfl hl (by decide) rfl (fun ls hl => ?_)
  refine lv_aload_n hx hb dX5_slips_5 rfl (lv_at hl 1 rfl) ?_
  refine va_get (D := (dC, dI)) (ci := 4) (v := .ref se) (C := RX5) (T := TX5) (N := 11) hx hb hts (by decide +kernel) hown hK hP 0 rfl rfl 7 (by decide) (hts (.fieldLink RX5 29 "DayBench" "search" "LDayBench$Search;") (by decide +kernel)) (fun _ h9 => h9) rfl dX5_slips_6 ?_
  refine lv_aload_n hx hb dX5_slips_9 rfl (lv_at hl 1 rfl) ?_
  refine va_get (D := (dC, dI)) (ci := 4) (v := .int 0) (C := RX5) (T := TX5) (N := 11) hx hb hts (by decide +kernel) hown hK hP 0 rfl rfl 4 (by decide) (hts (.fieldLink RX5 71 "DayBench" "events" "I") (by decide +kernel)) (fun _ h9 => h9) rfl dX5_slips_10 ?_
  have hPc := hP.sub (ws' := [(se, .inr (1, [.ref ea, .ref la, .int 0, .int 0, .int 0, .int 0, .int 0, .int 0, .ref ss, .ref spr, .ref fsp, .ref ap, .ref lw, .ref hg]))]) [1] rfl
  have hKc := hK.sub (tys' := []) [] rfl
  have hDc := hD.sub (ws' := [(se, .inr (1, [.ref ea, .ref la, .int 0, .int 0, .int 0, .int 0, .int 0, .int 0, .ref ss, .ref spr, .ref fsp, .ref ap, .ref lw, .ref hg]))]) [1] (by decide) rfl
  have hFc := va_free (wc := [(se, .inr (1, [.ref ea, .ref la, .int 0, .int 0, .int 0, .int 0, .int 0, .int 0, .ref ss, .ref spr, .ref fsp, .ref ap, .ref lw, .ref hg]))]) hD hS hA [1] rfl
  refine va_callv (va_runV (As := [.int 0]) (rest := []) ⟨hx, hb, hml, hown, hts⟩ (k_X2_begin l dC dI s.heap.size se ea la ss spr fsp ap lw hg 0 0 0 0 0 0) (cwV 1 hts gX5_slips_X2_begin rfl rfl rfl (by decide +kernel) ⟨Nat.le_of_ble_eq_true rfl, Nat.le_of_ble_eq_true rfl⟩) ⟨wPre_blind, va_recv hKc hPc (ci := 1) (q0 := 0) rfl rfl, fun U hU hW => ⟨rfl, wPre_at hPc hKc hDc hU hW⟩⟩ rfl rfl hl.1 rfl (lv_room (Nat.le_of_ble_eq_true rfl)) dX5_slips_13 ⟨Nat.le_of_ble_eq_true rfl, Nat.le_of_ble_eq_true rfl⟩) hS (fun q _ h => hFc q h) hFc (fun u t H1 locs ht hvm hw hB hz1 hk1 hS => ?_)
  obtain ⟨hP1, hD1⟩ := hB
  rw [ht] at hP1
  obtain ⟨hP, hD⟩ := va_join (wr := [(h0, .inr (4, [.ref kc, .ref kf, .ref kt, .int 0, .int 0, .ref sy, .int 0, .ref se, .ref sl, .ref hf, .ref hh])), (sy, .inl (cS, 12, .inr (.inr (.inr (.inr fS))))), (sl, .inr (2, [.int 0, .int 0, .int 0, .ref ts, .ref ro, .ref me, .ref we, .ref li, .int 0])), (li, .inl (cI, 924, .inl fL)), (ts, .inl (cI, 924, .inl fT))]) (w1 := [(se, .inr (1, [.ref ea, .ref la, .int 0, .int 0, .int 0, .int 0, .int 0, .int 0, .ref ss, .ref spr, .ref fsp, .ref ap, .ref lw, .ref hg]))]) hP hD [1] [0, 2, 3, 4, 5] rfl rfl (by decide) (by decide) hk1 hFc hP1 hD1
  clear hP1 hD1 hz1 hk1 hFc hPc hDc ht
  generalize H1 = H at hP hS ⊢
  have hP : va_P (dC, dI) vwCl [(h0, .inr (4, [.ref kc, .ref kf, .ref kt, .int 0, .int 0, .ref sy, .int 0, .ref se, .ref sl, .ref hf, .ref hh])), (sy, .inl (cS, 12, .inr (.inr (.inr (.inr fS))))), (sl, .inr (2, [.int 0, .int 0, .int 0, .ref ts, .ref ro, .ref me, .ref we, .ref li, .int 0])), (li, .inl (cI, 924, .inl fL)), (ts, .inl (cI, 924, .inl fT)), (se, .inr (1, [.ref ea, .ref la, .int 0, .int 0, .int 0, .int 0, .int 0, .int 0, .ref ss, .ref spr, .ref fsp, .ref ap, .ref lw, .ref hg]))] H := hP
  have hD : va_D A [(h0, .inr (4, [.ref kc, .ref kf, .ref kt, .int 0, .int 0, .ref sy, .int 0, .ref se, .ref sl, .ref hf, .ref hh])), (sy, .inl (cS, 12, .inr (.inr (.inr (.inr fS))))), (sl, .inr (2, [.int 0, .int 0, .int 0, .ref ts, .ref ro, .ref me, .ref we, .ref li, .int 0])), (li, .inl (cI, 924, .inl fL)), (ts, .inl (cI, 924, .inl fT)), (se, .inr (1, [.ref ea, .ref la, .int 0, .int 0, .int 0, .int 0, .int 0, .int 0, .ref ss, .ref spr, .ref fsp, .ref ap, .ref lw, .ref hg]))] := hD
  refine lv_aload_n hx hb dX5_slips_16 rfl (lv_at hl 1 rfl) ?_
  refine lv_iload_n hx hb dX5_slips_17 rfl (lv_at hl 0 rfl) ?_
  have hPc := hP.sub (ws' := [(h0, .inr (4, [.ref kc, .ref kf, .ref kt, .int 0, .int 0, .ref sy, .int 0, .ref se, .ref sl, .ref hf, .ref hh])), (sl, .inr (2, [.int 0, .int 0, .int 0, .ref ts, .ref ro, .ref me, .ref we, .ref li, .int 0]))]) [0, 2] rfl
  have hKc := hK.sub (tys' := []) [] rfl
  have hDc := hD.sub (ws' := [(h0, .inr (4, [.ref kc, .ref kf, .ref kt, .int 0, .int 0, .ref sy, .int 0, .ref se, .ref sl, .ref hf, .ref hh])), (sl, .inr (2, [.int 0, .int 0, .int 0, .ref ts, .ref ro, .ref me, .ref we, .ref li, .int 0]))]) [0, 2] (by decide) rfl
  have hFc := va_free (wc := [(h0, .inr (4, [.ref kc, .ref kf, .ref kt, .int 0, .int 0, .ref sy, .int 0, .ref se, .ref sl, .ref hf, .ref hh])), (sl, .inr (2, [.int 0, .int 0, .int 0, .ref ts, .ref ro, .ref me, .ref we, .ref li, .int 0]))]) hD hS hA [0, 2] rfl
  refine va_callv (va_runV (As := [.int 0]) (rest := []) ⟨hx, hb, hml, hown, hts⟩ (k_X5_gatherGroups l dC dI H.size h0 kc kf kt sy se sl hf hh ts ro me we li 0 0 0 0 0) (cwV 1 hts gX5_slips_X5_gatherGroups rfl rfl rfl (by decide +kernel) ⟨Nat.le_of_ble_eq_true rfl, Nat.le_of_ble_eq_true rfl⟩) ⟨wPre_blind, va_recv hKc hPc (ci := 4) (q0 := 0) rfl rfl, fun U hU hW => ⟨rfl, wPre_at hPc hKc hDc hU hW⟩⟩ rfl rfl hl.1 rfl (lv_room (Nat.le_of_ble_eq_true rfl)) dX5_slips_18 ⟨Nat.le_of_ble_eq_true rfl, Nat.le_of_ble_eq_true rfl⟩) hS (fun q _ h => hFc q h) hFc (fun u t H1 locs ht hvm hw hB hz1 hk1 hS => ?_)
  obtain ⟨hP1, hD1⟩ := hB
  rw [ht] at hP1
  obtain ⟨hP, hD⟩ := va_join (wr := [(sy, .inl (cS, 12, .inr (.inr (.inr (.inr fS))))), (li, .inl (cI, 924, .inl fL)), (ts, .inl (cI, 924, .inl fT)), (se, .inr (1, [.ref ea, .ref la, .int 0, .int 0, .int 0, .int 0, .int 0, .int 0, .ref ss, .ref spr, .ref fsp, .ref ap, .ref lw, .ref hg]))]) (w1 := [(h0, .inr (4, [.ref kc, .ref kf, .ref kt, .int 0, .int 0, .ref sy, .int 0, .ref se, .ref sl, .ref hf, .ref hh])), (sl, .inr (2, [.int 0, .int 0, .int 0, .ref ts, .ref ro, .ref me, .ref we, .ref li, .int 0]))]) hP hD [0, 2] [1, 3, 4, 5] rfl rfl (by decide) (by decide) hk1 hFc hP1 hD1
  clear hP1 hD1 hz1 hk1 hFc hPc hDc ht
  generalize H1 = H at hP hS ⊢
  have hP : va_P (dC, dI) vwCl [(sy, .inl (cS, 12, .inr (.inr (.inr (.inr fS))))), (li, .inl (cI, 924, .inl fL)), (ts, .inl (cI, 924, .inl fT)), (se, .inr (1, [.ref ea, .ref la, .int 0, .int 0, .int 0, .int 0, .int 0, .int 0, .ref ss, .ref spr, .ref fsp, .ref ap, .ref lw, .ref hg])), (h0, .inr (4, [.ref kc, .ref kf, .ref kt, .int 0, .int 0, .ref sy, .int 0, .ref se, .ref sl, .ref hf, .ref hh])), (sl, .inr (2, [.int 0, .int 0, .int 0, .ref ts, .ref ro, .ref me, .ref we, .ref li, .int 0]))] H := hP
  have hD : va_D A [(sy, .inl (cS, 12, .inr (.inr (.inr (.inr fS))))), (li, .inl (cI, 924, .inl fL)), (ts, .inl (cI, 924, .inl fT)), (se, .inr (1, [.ref ea, .ref la, .int 0, .int 0, .int 0, .int 0, .int 0, .int 0, .ref ss, .ref spr, .ref fsp, .ref ap, .ref lw, .ref hg])), (h0, .inr (4, [.ref kc, .ref kf, .ref kt, .int 0, .int 0, .ref sy, .int 0, .ref se, .ref sl, .ref hf, .ref hh])), (sl, .inr (2, [.int 0, .int 0, .int 0, .ref ts, .ref ro, .ref me, .ref we, .ref li, .int 0]))] := hD
  refine lv_iconst (v := 1) hx hb dX5_slips_21 (by decide) ?_
  refine lv_aload_n hx hb dX5_slips_22 rfl (lv_at hl 1 rfl) ?_
  refine va_get (D := (dC, dI)) (ci := 4) (v := .ref sl) (C := RX5) (T := TX5) (N := 11) hx hb hts (by decide +kernel) hown hK hP 4 rfl rfl 8 (by decide) (hts (.fieldLink RX5 36 "DayBench" "slipSets" "LDayBench$SlipSets;") (by decide +kernel)) (fun _ h9 => h9) rfl dX5_slips_23 ?_
  refine va_get (D := (dC, dI)) (ci := 2) (v := .int 0) (C := RX3) (T := TX3) (N := 9) hx hb hts (by decide +kernel) hown hK hP 5 rfl rfl 0 (by decide) (hts (.fieldLink RX5 179 "DayBench$SlipSets" "groups" "I") (by decide +kernel)) (fun _ h9 => h9) rfl dX5_slips_26 ?_
  refine lv_ishl hx hb dX5_slips_29 ?_
  refine lv_topi (fun x_4 ex_4 => ?_)
  have ex_4 : x_4 = 1 := ex_4.trans (by decide)
  subst ex_4
  refine lv_istore_n (lv' := [(2, .int 1), (1, .int 0), (0, .ref h0)]) hx hb dX5_slips_30 rfl hl (by decide) rfl (fun ls hl => ?_)
  refine lv_iconst (v := 0) hx hb dX5_slips_31 (by decide) ?_
  refine lv_istore_n (lv' := [(3, .int 0), (2, .int 1), (1, .int 0), (0, .ref h0)]) hx hb dX5_slips_32 rfl hl (by decide) rfl (fun ls hl => ?_)
  refine lv_iload_n hx hb dX5_slips_33 rfl (lv_at hl 0 rfl) ?_
  refine lv_iload_n hx hb dX5_slips_34 rfl (lv_at hl 1 rfl) ?_
  refine lv_icmp_ge (tgt := 117) hx hb dX5_slips_35 (by decide) (fun h_5 => ?_) (fun h_5 => ?_)
  · exact (by first | exact absurd h_5 (by decide) | exact absurd (by decide) h_5)
  · refine lv_aload_n hx hb dX5_slips_38 rfl (lv_at hl 3 rfl) ?_
    refine va_get (D := (dC, dI)) (ci := 4) (v := .ref sl) (C := RX5) (T := TX5) (N := 11) hx hb hts (by decide +kernel) hown hK hP 4 rfl rfl 8 (by decide) (hts (.fieldLink RX5 36 "DayBench" "slipSets" "LDayBench$SlipSets;") (by decide +kernel)) (fun _ h9 => h9) rfl dX5_slips_39 ?_
    refine lv_iload_n hx hb dX5_slips_42 rfl (lv_at hl 0 rfl) ?_
    have hPc := hP.sub (ws' := [(sl, .inr (2, [.int 0, .int 0, .int 0, .ref ts, .ref ro, .ref me, .ref we, .ref li, .int 0]))]) [5] rfl
    have hKc := hK.sub (tys' := []) [] rfl
    refine vp_callSi (va_Run.run (va_runV (As := [.int 0]) (rest := []) ⟨hx, hb, hml, hown, hts⟩ (k_X3_weightOf l dC dI sl ts ro me we li 0 0 0 0) (cwV 1 hts gX5_slips_X3_weightOf rfl rfl rfl (by decide +kernel) ⟨Nat.le_of_ble_eq_true rfl, Nat.le_of_ble_eq_true rfl⟩) ⟨rPre_blind, va_recv hKc hPc (ci := 2) (q0 := 0) rfl rfl, fun U hU hW => ⟨rfl, rPre_at hPc hKc hU hW⟩⟩ rfl rfl hl.1 rfl (lv_room (Nat.le_of_ble_eq_true rfl)) dX5_slips_43 ⟨Nat.le_of_ble_eq_true rfl, Nat.le_of_ble_eq_true rfl⟩)) (fun r_6 er_6 => ?_)
    subst er_6
    refine lv_istore (lv' := [(4, .int 0), (3, .int 0), (2, .int 1), (1, .int 0), (0, .ref h0)]) hx hb dX5_slips_46 hl (by decide) rfl (fun ls hl => ?_)
    refine lv_aload_n hx hb dX5_slips_48 rfl (lv_at hl 4 rfl) ?_
    refine va_get (D := (dC, dI)) (ci := 4) (v := .ref sl) (C := RX5) (T := TX5) (N := 11) hx hb hts (by decide +kernel) hown hK hP 4 rfl rfl 8 (by decide) (hts (.fieldLink RX5 36 "DayBench" "slipSets" "LDayBench$SlipSets;") (by decide +kernel)) (fun _ h9 => h9) rfl dX5_slips_49 ?_
    refine lv_iload hx hb dX5_slips_52 (lv_at hl 0 rfl) ?_
    have hPc := hP.sub (ws' := [(sl, .inr (2, [.int 0, .int 0, .int 0, .ref ts, .ref ro, .ref me, .ref we, .ref li, .int 0]))]) [5] rfl
    have hKc := hK.sub (tys' := []) [] rfl
    refine vp_callSi (va_Run.run (va_runV (As := [.int 0]) (rest := []) ⟨hx, hb, hml, hown, hts⟩ (k_X3_tooHeavy l dC dI sl ts ro me we li 0 0 0 0) (cwV 1 hts gX5_slips_X3_tooHeavy rfl rfl rfl (by decide +kernel) ⟨Nat.le_of_ble_eq_true rfl, Nat.le_of_ble_eq_true rfl⟩) ⟨rPre_blind, va_recv hKc hPc (ci := 2) (q0 := 0) rfl rfl, fun U hU hW => ⟨rfl, rPre_at hPc hKc hU hW⟩⟩ rfl rfl hl.1 rfl (lv_room (Nat.le_of_ble_eq_true rfl)) dX5_slips_54 ⟨Nat.le_of_ble_eq_true rfl, Nat.le_of_ble_eq_true rfl⟩)) (fun r_7 er_7 => ?_)
    subst er_7
    refine lv_if_ne (tgt := 111) hx hb dX5_slips_57 (by decide) (fun h_8 => ?_) (fun h_8 => ?_)
    · exact (by first | exact absurd h_8 (by decide) | exact absurd (by decide) h_8)
    · refine lv_aload_n hx hb dX5_slips_60 rfl (lv_at hl 4 rfl) ?_
      refine lv_iload_n hx hb dX5_slips_61 rfl (lv_at hl 3 rfl) ?_
      refine lv_aload_n hx hb dX5_slips_62 rfl (lv_at hl 4 rfl) ?_
      refine va_get (D := (dC, dI)) (ci := 4) (v := .ref sl) (C := RX5) (T := TX5) (N := 11) hx hb hts (by decide +kernel) hown hK hP 4 rfl rfl 8 (by decide) (hts (.fieldLink RX5 36 "DayBench" "slipSets" "LDayBench$SlipSets;") (by decide +kernel)) (fun _ h9 => h9) rfl dX5_slips_63 ?_
      refine lv_iload_n hx hb dX5_slips_66 rfl (lv_at hl 1 rfl) ?_
      have hPc := hP.sub (ws' := [(sl, .inr (2, [.int 0, .int 0, .int 0, .ref ts, .ref ro, .ref me, .ref we, .ref li, .int 0]))]) [5] rfl
      have hKc := hK.sub (tys' := []) [] rfl
      refine vp_callSi (va_Run.run (va_runV (As := [.int 0]) (rest := [.int 0, .ref h0]) ⟨hx, hb, hml, hown, hts⟩ (k_X3_sayingsOf l dC dI sl ts ro me we li 0 0 0 0) (cwV 1 hts gX5_slips_X3_sayingsOf rfl rfl rfl (by decide +kernel) ⟨Nat.le_of_ble_eq_true rfl, Nat.le_of_ble_eq_true rfl⟩) ⟨rPre_blind, va_recv hKc hPc (ci := 2) (q0 := 0) rfl rfl, fun U hU hW => ⟨rfl, rPre_at hPc hKc hU hW⟩⟩ rfl rfl hl.1 rfl (lv_room (Nat.le_of_ble_eq_true rfl)) dX5_slips_67 ⟨Nat.le_of_ble_eq_true rfl, Nat.le_of_ble_eq_true rfl⟩)) (fun r_9 er_9 => ?_)
      subst er_9
      refine lv_iconst (v := (-1)) hx hb dX5_slips_70 (by decide) ?_
      refine lv_ixor hx hb dX5_slips_71 ?_
      refine lv_topi (fun x_10 ex_10 => ?_)
      have ex_10 : x_10 = (-1) := ex_10.trans (by decide)
      subst ex_10
      refine lv_iand hx hb dX5_slips_72 ?_
      refine lv_topi (fun x_11 ex_11 => ?_)
      have ex_11 : x_11 = 0 := ex_11.trans (by decide)
      subst ex_11
      have hPc := hP.sub (ws' := [(h0, .inr (4, [.ref kc, .ref kf, .ref kt, .int 0, .int 0, .ref sy, .int 0, .ref se, .ref sl, .ref hf, .ref hh])), (se, .inr (1, [.ref ea, .ref la, .int 0, .int 0, .int 0, .int 0, .int 0, .int 0, .ref ss, .ref spr, .ref fsp, .ref ap, .ref lw, .ref hg])), (sy, .inl (cS, 12, .inr (.inr (.inr (.inr fS)))))]) [4, 3, 0] rfl
      have hKc := hK.sub (tys' := [(cS, (.object "DayBench$Saying"))]) [0] rfl
      have hDc := hD.sub (ws' := [(h0, .inr (4, [.ref kc, .ref kf, .ref kt, .int 0, .int 0, .ref sy, .int 0, .ref se, .ref sl, .ref hf, .ref hh])), (se, .inr (1, [.ref ea, .ref la, .int 0, .int 0, .int 0, .int 0, .int 0, .int 0, .ref ss, .ref spr, .ref fsp, .ref ap, .ref lw, .ref hg])), (sy, .inl (cS, 12, .inr (.inr (.inr (.inr fS)))))]) [4, 3, 0] (by decide) rfl
      have hFc := va_free (wc := [(h0, .inr (4, [.ref kc, .ref kf, .ref kt, .int 0, .int 0, .ref sy, .int 0, .ref se, .ref sl, .ref hf, .ref hh])), (se, .inr (1, [.ref ea, .ref la, .int 0, .int 0, .int 0, .int 0, .int 0, .int 0, .ref ss, .ref spr, .ref fsp, .ref ap, .ref lw, .ref hg])), (sy, .inl (cS, 12, .inr (.inr (.inr (.inr fS)))))]) hD hS hA [4, 3, 0] rfl
      refine va_calli (va_runV (As := [.int 0]) (rest := []) ⟨hx, hb, hml, hown, hts⟩ (k_X5_askSet l dC dI H.size h0 kc kf kt sy se sl hf hh ea la ss spr fsp ap lw hg cS fS 0 0 0 0) (cwV 1 hts gX5_slips_X5_askSet rfl rfl rfl (by decide +kernel) ⟨Nat.le_of_ble_eq_true rfl, Nat.le_of_ble_eq_true rfl⟩) ⟨wPre_blind, va_recv hKc hPc (ci := 4) (q0 := 0) rfl rfl, fun U hU hW => ⟨rfl, wPre_at hPc hKc hDc hU hW⟩⟩ rfl rfl hl.1 rfl (lv_room (Nat.le_of_ble_eq_true rfl)) dX5_slips_73 ⟨Nat.le_of_ble_eq_true rfl, Nat.le_of_ble_eq_true rfl⟩) hS (fun q _ h => hFc q h) hFc (fun r_12 u t H1 locs ht hvm hw hB hz1 hk1 hS => ?_)
      obtain ⟨hP1, hD1⟩ := hB
      rw [ht] at hP1
      obtain ⟨hP, hD⟩ := va_join (wr := [(li, .inl (cI, 924, .inl fL)), (ts, .inl (cI, 924, .inl fT)), (sl, .inr (2, [.int 0, .int 0, .int 0, .ref ts, .ref ro, .ref me, .ref we, .ref li, .int 0]))]) (w1 := [(h0, .inr (4, [.ref kc, .ref kf, .ref kt, .int 0, .int 0, .ref sy, .int 0, .ref se, .ref sl, .ref hf, .ref hh])), (se, .inr (1, [.ref ea, .ref la, .int 0, .int 0, .int 0, .int 1, .int 1, .int 1, .ref ss, .ref spr, .ref fsp, .ref ap, .ref lw, .ref hg])), (sy, .inl (cS, 12, .inr (.inr (.inr (.inr fS)))))]) hP hD [4, 3, 0] [1, 2, 5] rfl rfl (by decide) (by decide) hk1 hFc hP1 hD1
      clear hP1 hD1 hz1 hk1 hFc hPc hDc ht
      generalize H1 = H at hP hS ⊢
      have hP : va_P (dC, dI) vwCl [(li, .inl (cI, 924, .inl fL)), (ts, .inl (cI, 924, .inl fT)), (sl, .inr (2, [.int 0, .int 0, .int 0, .ref ts, .ref ro, .ref me, .ref we, .ref li, .int 0])), (h0, .inr (4, [.ref kc, .ref kf, .ref kt, .int 0, .int 0, .ref sy, .int 0, .ref se, .ref sl, .ref hf, .ref hh])), (se, .inr (1, [.ref ea, .ref la, .int 0, .int 0, .int 0, .int 1, .int 1, .int 1, .ref ss, .ref spr, .ref fsp, .ref ap, .ref lw, .ref hg])), (sy, .inl (cS, 12, .inr (.inr (.inr (.inr fS)))))] H := hP
      have hD : va_D A [(li, .inl (cI, 924, .inl fL)), (ts, .inl (cI, 924, .inl fT)), (sl, .inr (2, [.int 0, .int 0, .int 0, .ref ts, .ref ro, .ref me, .ref we, .ref li, .int 0])), (h0, .inr (4, [.ref kc, .ref kf, .ref kt, .int 0, .int 0, .ref sy, .int 0, .ref se, .ref sl, .ref hf, .ref hh])), (se, .inr (1, [.ref ea, .ref la, .int 0, .int 0, .int 0, .int 1, .int 1, .int 1, .ref ss, .ref spr, .ref fsp, .ref ap, .ref lw, .ref hg])), (sy, .inl (cS, 12, .inr (.inr (.inr (.inr fS)))))] := hD
      subst hw
      refine lv_istore (lv' := [(5, .int 1), (4, .int 0), (3, .int 0), (2, .int 1), (1, .int 0), (0, .ref h0)]) hx hb dX5_slips_76 hl (by decide) rfl (fun ls hl => ?_)
      refine lv_iload hx hb dX5_slips_78 (lv_at hl 0 rfl) ?_
      refine lv_bipush (v := (-2)) hx hb dX5_slips_80 (by decide) ?_
      refine lv_icmp_ne (tgt := 88) hx hb dX5_slips_82 (by decide) (fun h_13 => ?_) (fun h_13 => ?_)
      · refine lv_iload hx hb dX5_slips_88 (lv_at hl 0 rfl) ?_
        refine lv_iconst (v := 1) hx hb dX5_slips_90 (by decide) ?_
        refine lv_icmp_ne (tgt := 111) hx hb dX5_slips_91 (by decide) (fun h_14 => ?_) (fun h_14 => ?_)
        · exact (by first | exact absurd h_14 (by decide) | exact absurd (by decide) h_14)
        · refine lv_aload_n hx hb dX5_slips_94 rfl (lv_at hl 5 rfl) ?_
          refine va_get (D := (dC, dI)) (ci := 4) (v := .ref sl) (C := RX5) (T := TX5) (N := 11) hx hb hts (by decide +kernel) hown hK hP 3 rfl rfl 8 (by decide) (hts (.fieldLink RX5 36 "DayBench" "slipSets" "LDayBench$SlipSets;") (by decide +kernel)) (fun _ h9 => h9) rfl dX5_slips_95 ?_
          refine lv_iload hx hb dX5_slips_98 (lv_at hl 1 rfl) ?_
          refine lv_aload_n hx hb dX5_slips_100 rfl (lv_at hl 5 rfl) ?_
          refine va_get (D := (dC, dI)) (ci := 4) (v := .ref sl) (C := RX5) (T := TX5) (N := 11) hx hb hts (by decide +kernel) hown hK hP 3 rfl rfl 8 (by decide) (hts (.fieldLink RX5 36 "DayBench" "slipSets" "LDayBench$SlipSets;") (by decide +kernel)) (fun _ h9 => h9) rfl dX5_slips_101 ?_
          refine lv_iload_n hx hb dX5_slips_104 rfl (lv_at hl 2 rfl) ?_
          have hPc := hP.sub (ws' := [(sl, .inr (2, [.int 0, .int 0, .int 0, .ref ts, .ref ro, .ref me, .ref we, .ref li, .int 0]))]) [2] rfl
          have hKc := hK.sub (tys' := []) [] rfl
          refine vp_callSi (va_Run.run (va_runV (As := [.int 0]) (rest := [.int 0, .ref sl]) ⟨hx, hb, hml, hown, hts⟩ (k_X3_rootsOf l dC dI sl ts ro me we li 0 0 0 0) (cwV 1 hts gX5_slips_X3_rootsOf rfl rfl rfl (by decide +kernel) ⟨Nat.le_of_ble_eq_true rfl, Nat.le_of_ble_eq_true rfl⟩) ⟨rPre_blind, va_recv hKc hPc (ci := 2) (q0 := 0) rfl rfl, fun U hU hW => ⟨rfl, rPre_at hPc hKc hU hW⟩⟩ rfl rfl hl.1 rfl (lv_room (Nat.le_of_ble_eq_true rfl)) dX5_slips_105 ⟨Nat.le_of_ble_eq_true rfl, Nat.le_of_ble_eq_true rfl⟩)) (fun r_15 er_15 => ?_)
          subst er_15
          have hPc := hP.sub (ws' := [(sl, .inr (2, [.int 0, .int 0, .int 0, .ref ts, .ref ro, .ref me, .ref we, .ref li, .int 0])), (li, .inl (cI, 924, .inl fL))]) [2, 0] rfl
          have hKc := hK.sub (tys' := [(cI, .int)]) [1] rfl
          have hDc := hD.sub (ws' := [(sl, .inr (2, [.int 0, .int 0, .int 0, .ref ts, .ref ro, .ref me, .ref we, .ref li, .int 0])), (li, .inl (cI, 924, .inl fL))]) [2, 0] (by decide) rfl
          have hFc := va_free (wc := [(sl, .inr (2, [.int 0, .int 0, .int 0, .ref ts, .ref ro, .ref me, .ref we, .ref li, .int 0])), (li, .inl (cI, 924, .inl fL))]) hD hS hA [2, 0] rfl
          refine va_callv (va_runV (As := [.int 0, .int 0]) (rest := []) ⟨hx, hb, hml, hown, hts⟩ (k_X3_note l dC dI H.size sl ts ro me we li 0 0 0 cI fL) (cwV 2 hts gX5_slips_X3_note rfl rfl rfl (by decide +kernel) ⟨Nat.le_of_ble_eq_true rfl, Nat.le_of_ble_eq_true rfl⟩) ⟨wPre_blind, va_recv hKc hPc (ci := 2) (q0 := 0) rfl rfl, fun U hU hW => ⟨rfl, wPre_at hPc hKc hDc hU hW⟩⟩ rfl rfl hl.1 rfl (lv_room (Nat.le_of_ble_eq_true rfl)) dX5_slips_108 ⟨Nat.le_of_ble_eq_true rfl, Nat.le_of_ble_eq_true rfl⟩) hS (fun q _ h => hFc q h) hFc (fun u t H1 locs ht hvm hw hB hz1 hk1 hS => ?_)
          obtain ⟨hP1, hD1⟩ := hB
          rw [ht] at hP1
          obtain ⟨hP, hD⟩ := va_join (wr := [(ts, .inl (cI, 924, .inl fT)), (h0, .inr (4, [.ref kc, .ref kf, .ref kt, .int 0, .int 0, .ref sy, .int 0, .ref se, .ref sl, .ref hf, .ref hh])), (se, .inr (1, [.ref ea, .ref la, .int 0, .int 0, .int 0, .int 1, .int 1, .int 1, .ref ss, .ref spr, .ref fsp, .ref ap, .ref lw, .ref hg])), (sy, .inl (cS, 12, .inr (.inr (.inr (.inr fS)))))]) (w1 := [(sl, .inr (2, [.int 0, .int 0, .int 0, .ref ts, .ref ro, .ref me, .ref we, .ref li, .int 1])), (li, .inl (cI, 924, .inl (upd fL (0 : Int32).toNatClampNeg 0)))]) hP hD [2, 0] [1, 3, 4, 5] rfl rfl (by decide) (by decide) hk1 hFc hP1 hD1
          clear hP1 hD1 hz1 hk1 hFc hPc hDc ht
          generalize H1 = H at hP hS ⊢
          have hP : va_P (dC, dI) vwCl [(ts, .inl (cI, 924, .inl fT)), (h0, .inr (4, [.ref kc, .ref kf, .ref kt, .int 0, .int 0, .ref sy, .int 0, .ref se, .ref sl, .ref hf, .ref hh])), (se, .inr (1, [.ref ea, .ref la, .int 0, .int 0, .int 0, .int 1, .int 1, .int 1, .ref ss, .ref spr, .ref fsp, .ref ap, .ref lw, .ref hg])), (sy, .inl (cS, 12, .inr (.inr (.inr (.inr fS))))), (sl, .inr (2, [.int 0, .int 0, .int 0, .ref ts, .ref ro, .ref me, .ref we, .ref li, .int 1])), (li, .inl (cI, 924, .inl (upd fL (0 : Int32).toNatClampNeg 0)))] H := hP
          have hD : va_D A [(ts, .inl (cI, 924, .inl fT)), (h0, .inr (4, [.ref kc, .ref kf, .ref kt, .int 0, .int 0, .ref sy, .int 0, .ref se, .ref sl, .ref hf, .ref hh])), (se, .inr (1, [.ref ea, .ref la, .int 0, .int 0, .int 0, .int 1, .int 1, .int 1, .ref ss, .ref spr, .ref fsp, .ref ap, .ref lw, .ref hg])), (sy, .inl (cS, 12, .inr (.inr (.inr (.inr fS))))), (sl, .inr (2, [.int 0, .int 0, .int 0, .ref ts, .ref ro, .ref me, .ref we, .ref li, .int 1])), (li, .inl (cI, 924, .inl (upd fL (0 : Int32).toNatClampNeg 0)))] := hD
          refine lv_iinc (v := 1) (lv' := [(3, .int 1), (5, .int 1), (4, .int 0), (2, .int 1), (1, .int 0), (0, .ref h0)]) hx hb dX5_slips_111 hl (k := 2) rfl (by decide) (by decide) rfl (fun ls hl => ?_)
          refine lv_goto (tgt := 33) hx hb dX5_slips_114 (by decide) ?_
          refine lv_iload_n hx hb dX5_slips_33 rfl (lv_at hl 0 rfl) ?_
          refine lv_iload_n hx hb dX5_slips_34 rfl (lv_at hl 3 rfl) ?_
          refine lv_icmp_ge (tgt := 117) hx hb dX5_slips_35 (by decide) (fun h_17 => ?_) (fun h_17 => ?_)
          · refine lv_aload_n hx hb dX5_slips_117 rfl (lv_at hl 5 rfl) ?_
            refine va_get (D := (dC, dI)) (ci := 4) (v := .ref sl) (C := RX5) (T := TX5) (N := 11) hx hb hts (by decide +kernel) hown hK hP 1 rfl rfl 8 (by decide) (hts (.fieldLink RX5 36 "DayBench" "slipSets" "LDayBench$SlipSets;") (by decide +kernel)) (fun _ h9 => h9) rfl dX5_slips_118 ?_
            have hPc := hP.sub (ws' := [(sl, .inr (2, [.int 0, .int 0, .int 0, .ref ts, .ref ro, .ref me, .ref we, .ref li, .int 1])), (li, .inl (cI, 924, .inl (upd fL (0 : Int32).toNatClampNeg 0))), (ts, .inl (cI, 924, .inl fT))]) [4, 5, 0] rfl
            have hKc := hK.sub (tys' := [(cI, .int)]) [1] rfl
            have hDc := hD.sub (ws' := [(sl, .inr (2, [.int 0, .int 0, .int 0, .ref ts, .ref ro, .ref me, .ref we, .ref li, .int 1])), (li, .inl (cI, 924, .inl (upd fL (0 : Int32).toNatClampNeg 0))), (ts, .inl (cI, 924, .inl fT))]) [4, 5, 0] (by decide) rfl
            have hFc := va_free (wc := [(sl, .inr (2, [.int 0, .int 0, .int 0, .ref ts, .ref ro, .ref me, .ref we, .ref li, .int 1])), (li, .inl (cI, 924, .inl (upd fL (0 : Int32).toNatClampNeg 0))), (ts, .inl (cI, 924, .inl fT))]) hD hS hA [4, 5, 0] rfl
            refine va_callv (va_runV (As := []) (rest := []) ⟨hx, hb, hml, hown, hts⟩ (k_X3_tell l dC dI H.size sl ts ro me we li 0 0 0 cI (upd fL (0 : Int32).toNatClampNeg 0) fT) (cwV 0 hts gX5_slips_X3_tell rfl rfl rfl (by decide +kernel) ⟨Nat.le_of_ble_eq_true rfl, Nat.le_of_ble_eq_true rfl⟩) ⟨wPre_blind, va_recv hKc hPc (ci := 2) (q0 := 0) rfl rfl, fun U hU hW => ⟨rfl, wPre_at hPc hKc hDc hU hW⟩⟩ rfl rfl hl.1 rfl (lv_room (Nat.le_of_ble_eq_true rfl)) dX5_slips_121 ⟨Nat.le_of_ble_eq_true rfl, Nat.le_of_ble_eq_true rfl⟩) hS (fun q _ h => hFc q h) hFc (fun u t H1 locs ht hvm hw hB hz1 hk1 hS => ?_)
            obtain ⟨hP1, hD1⟩ := hB
            rw [ht] at hP1
            obtain ⟨hP, hD⟩ := va_join (wr := [(h0, .inr (4, [.ref kc, .ref kf, .ref kt, .int 0, .int 0, .ref sy, .int 0, .ref se, .ref sl, .ref hf, .ref hh])), (se, .inr (1, [.ref ea, .ref la, .int 0, .int 0, .int 0, .int 1, .int 1, .int 1, .ref ss, .ref spr, .ref fsp, .ref ap, .ref lw, .ref hg])), (sy, .inl (cS, 12, .inr (.inr (.inr (.inr fS)))))]) (w1 := [(sl, .inr (2, [.int 0, .int 0, .int 1, .ref ts, .ref ro, .ref me, .ref we, .ref li, .int 1]))]) hP hD [4, 5, 0] [1, 2, 3] rfl rfl (by decide) (by decide) hk1 hFc hP1 hD1
            clear hP1 hD1 hz1 hk1 hFc hPc hDc ht
            generalize H1 = H at hP hS ⊢
            have hP : va_P (dC, dI) vwCl [(h0, .inr (4, [.ref kc, .ref kf, .ref kt, .int 0, .int 0, .ref sy, .int 0, .ref se, .ref sl, .ref hf, .ref hh])), (se, .inr (1, [.ref ea, .ref la, .int 0, .int 0, .int 0, .int 1, .int 1, .int 1, .ref ss, .ref spr, .ref fsp, .ref ap, .ref lw, .ref hg])), (sy, .inl (cS, 12, .inr (.inr (.inr (.inr fS))))), (sl, .inr (2, [.int 0, .int 0, .int 1, .ref ts, .ref ro, .ref me, .ref we, .ref li, .int 1]))] H := hP
            have hD : va_D A [(h0, .inr (4, [.ref kc, .ref kf, .ref kt, .int 0, .int 0, .ref sy, .int 0, .ref se, .ref sl, .ref hf, .ref hh])), (se, .inr (1, [.ref ea, .ref la, .int 0, .int 0, .int 0, .int 1, .int 1, .int 1, .ref ss, .ref spr, .ref fsp, .ref ap, .ref lw, .ref hg])), (sy, .inl (cS, 12, .inr (.inr (.inr (.inr fS))))), (sl, .inr (2, [.int 0, .int 0, .int 1, .ref ts, .ref ro, .ref me, .ref we, .ref li, .int 1]))] := hD
            refine lv_aload_n hx hb dX5_slips_124 rfl (lv_at hl 5 rfl) ?_
            refine va_get (D := (dC, dI)) (ci := 4) (v := .ref sl) (C := RX5) (T := TX5) (N := 11) hx hb hts (by decide +kernel) hown hK hP 0 rfl rfl 8 (by decide) (hts (.fieldLink RX5 36 "DayBench" "slipSets" "LDayBench$SlipSets;") (by decide +kernel)) (fun _ h9 => h9) rfl dX5_slips_125 ?_
            refine va_get (D := (dC, dI)) (ci := 2) (v := .int 0) (C := RX3) (T := TX3) (N := 9) hx hb hts (by decide +kernel) hown hK hP 3 rfl rfl 1 (by decide) (hts (.fieldLink RX5 200 "DayBench$SlipSets" "least" "I") (by decide +kernel)) (fun _ h9 => h9) rfl dX5_slips_128 ?_
            have hP9 := hP.sub (ws' := []) [] rfl
            have hD9 := hD.sub (ws' := []) [] (by decide) rfl
            exact W.iret (v := 0) hx hb hr (fun t ht hW => ⟨⟨_, (), rfl, rfl, by rw [ht]; exact hP9, hD9⟩, hS.F ht⟩) hS.2.2 dX5_slips_131
          · exact (by first | exact absurd h_17 (by decide) | exact absurd (by decide) h_17)
      · exact (by first | exact absurd h_13 (by decide) | exact absurd (by decide) h_13)

set_option maxHeartbeats 4000000 in
set_option maxRecDepth 100000 in
theorem k_X5_slipped (l : Launch) (dC : Nat → ClassId) (dI : Nat → Nat → Nat) (h0 : Nat) (kc : Nat) (kf : Nat) (kt : Nat) (sy : Nat) (se : Nat) (sl : Nat) (hf : Nat) (hh : Nat) (ts : Nat) (ro : Nat) (me : Nat) (we : Nat) (li : Nat) (p0 : Int32)  : Met l yX5_slipped wsX5_slipped ({ frames := 0, cells := 0, slots := 0, locals := 0 }) (va_Pc [.ref h0, .int p0] (rPre dC dI [(h0, .inr (4, [.ref kc, .ref kf, .ref kt, .int 0, .int 0, .ref sy, .int 0, .ref se, .ref sl, .ref hf, .ref hh])), (sl, .inr (2, [.int 0, .int 0, .int 0, .ref ts, .ref ro, .ref me, .ref we, .ref li, .int 0]))] [])) (vp_Si (fun r => r = if p0 = (-1) then 0 else (-1))) 0 0 (fun _ => False) := by
  refine Met.ofW (cc := cX5_slipped) (maxL := 2) (ret := (some .int)) (by decide) rfl ?_
  intro p e s m args below meth c s₁ B hml hv
  obtain ⟨rfl, hP, hK⟩ := hv
  have hx := B.exec
  have hb := B.bytes
  have hr := B.returns
  have hts := atoms_spec (ws := wsX5_slipped) B.pre
  have hown : s.vm.findClass RX5 = some m.cls := findClass_of_methodNamed B.named
  have hlocks := B.notSynchronized
  have hl := lv_entry ([.ref h0, .int p0]) (n := 2) (Nat.le_of_ble_eq_true rfl)
  rw [lg_entry_eq]
  generalize (lg_sl ([.ref h0, .int p0]) ++ List.replicate (2 - (lg_sl ([.ref h0, .int p0])).length) Slot.unset).toArray = ls at hl ⊢
  have hl : lv_has ls 2 [(0, .ref h0), (1, .int p0)] := hl
  refine lv_iload_n hx hb dX5_slipped_0 rfl (lv_at hl 1 rfl) ?_
  refine lv_iconst (v := (-1)) hx hb dX5_slipped_1 (by decide) ?_
  refine lv_icmp_ne (tgt := 13) hx hb dX5_slipped_2 (by decide) (fun h_1 => ?_) (fun h_1 => ?_)
  · refine lv_iload_n hx hb dX5_slipped_13 rfl (lv_at hl 1 rfl) ?_
    refine lv_if_lt (tgt := 40) hx hb dX5_slipped_14 (by decide) (fun h_2 => ?_) (fun h_2 => ?_)
    · refine lv_iconst (v := (-1)) hx hb dX5_slipped_40 (by decide) ?_
      exact W.iret (v := (-1)) hx hb hr (fun t ht hW => ⟨_, rfl, by rw [if_neg h_1], ht⟩) (fun _ h => by cases h) dX5_slipped_41
    · refine lv_iload_n hx hb dX5_slipped_17 rfl (lv_at hl 1 rfl) ?_
      refine lv_aload_n hx hb dX5_slipped_18 rfl (lv_at hl 0 rfl) ?_
      refine va_get (D := (dC, dI)) (ci := 4) (v := .ref sl) (C := RX5) (T := TX5) (N := 11) hx hb hts (by decide +kernel) hown hK hP 0 rfl rfl 8 (by decide) (hts (.fieldLink RX5 36 "DayBench" "slipSets" "LDayBench$SlipSets;") (by decide +kernel)) (fun _ h9 => h9) rfl dX5_slipped_19 ?_
      refine va_get (D := (dC, dI)) (ci := 2) (v := .int 0) (C := RX3) (T := TX3) (N := 9) hx hb hts (by decide +kernel) hown hK hP 1 rfl rfl 2 (by decide) (hts (.fieldLink RX5 203 "DayBench$SlipSets" "told" "I") (by decide +kernel)) (fun _ h9 => h9) rfl dX5_slipped_22 ?_
      refine lv_icmp_ge (tgt := 40) hx hb dX5_slipped_25 (by decide) (fun h_3 => ?_) (fun h_3 => ?_)
      · refine lv_iconst (v := (-1)) hx hb dX5_slipped_40 (by decide) ?_
        exact W.iret (v := (-1)) hx hb hr (fun t ht hW => ⟨_, rfl, by rw [if_neg h_1], ht⟩) (fun _ h => by cases h) dX5_slipped_41
      · exact (nl_le h_2 h_3).elim
  · refine lv_aload_n hx hb dX5_slipped_5 rfl (lv_at hl 0 rfl) ?_
    refine va_get (D := (dC, dI)) (ci := 4) (v := .ref sl) (C := RX5) (T := TX5) (N := 11) hx hb hts (by decide +kernel) hown hK hP 0 rfl rfl 8 (by decide) (hts (.fieldLink RX5 36 "DayBench" "slipSets" "LDayBench$SlipSets;") (by decide +kernel)) (fun _ h9 => h9) rfl dX5_slipped_6 ?_
    refine va_get (D := (dC, dI)) (ci := 2) (v := .int 0) (C := RX3) (T := TX3) (N := 9) hx hb hts (by decide +kernel) hown hK hP 1 rfl rfl 2 (by decide) (hts (.fieldLink RX5 203 "DayBench$SlipSets" "told" "I") (by decide +kernel)) (fun _ h9 => h9) rfl dX5_slipped_9 ?_
    exact W.iret (v := 0) hx hb hr (fun t ht hW => ⟨_, rfl, by rw [if_pos h_1], ht⟩) (fun _ h => by cases h) dX5_slipped_12

set_option maxHeartbeats 4000000 in
set_option maxRecDepth 100000 in
theorem k_X5_width (l : Launch) (dC : Nat → ClassId) (dI : Nat → Nat → Nat) (sz : Nat) (h0 : Nat) (kc : Nat) (kf : Nat) (kt : Nat) (sy : Nat) (se : Nat) (sl : Nat) (hf : Nat) (hh : Nat) (ea : Nat) (la : Nat) (ss : Nat) (spr : Nat) (fsp : Nat) (ap : Nat) (lw : Nat) (hg : Nat) (cS : ClassId) (fS : Nat → Option Nat) (p0 : Int32) (p1 : Int32)  : Met l yX5_width wsX5_width ({ frames := 4, cells := 0, slots := 0, locals := 91 }) (va_Pc [.ref h0, .int p0, .int p1] (wPre dC dI sz [(h0, .inr (4, [.ref kc, .ref kf, .ref kt, .int 0, .int 0, .ref sy, .int 0, .ref se, .ref sl, .ref hf, .ref hh])), (se, .inr (1, [.ref ea, .ref la, .int 0, .int 0, .int 0, .int 0, .int 0, .int 0, .ref ss, .ref spr, .ref fsp, .ref ap, .ref lw, .ref hg])), (sy, .inl (cS, 12, .inr (.inr (.inr (.inr fS)))))] [(cS, (.object "DayBench$Saying"))])) (va_Qi (fun (r : Int32) (u : Unit) => r = if p0 = (-1) then (if p1 = (-1) then 0 else (-1)) else (-1)) (fun (u : Unit) t => wPost dC dI (va_A [(h0, .inr (4, [.ref kc, .ref kf, .ref kt, .int 0, .int 0, .ref sy, .int 0, .ref se, .ref sl, .ref hf, .ref hh])), (se, .inr (1, [.ref ea, .ref la, .int 0, .int 0, .int 0, .int 0, .int 0, .int 0, .ref ss, .ref spr, .ref fsp, .ref ap, .ref lw, .ref hg])), (sy, .inl (cS, 12, .inr (.inr (.inr (.inr fS)))))] sz) [] t) (va_A [(h0, .inr (4, [.ref kc, .ref kf, .ref kt, .int 0, .int 0, .ref sy, .int 0, .ref se, .ref sl, .ref hf, .ref hh])), (se, .inr (1, [.ref ea, .ref la, .int 0, .int 0, .int 0, .int 0, .int 0, .int 0, .ref ss, .ref spr, .ref fsp, .ref ap, .ref lw, .ref hg])), (sy, .inl (cS, 12, .inr (.inr (.inr (.inr fS)))))] sz)) 0 0 (va_A [(h0, .inr (4, [.ref kc, .ref kf, .ref kt, .int 0, .int 0, .ref sy, .int 0, .ref se, .ref sl, .ref hf, .ref hh])), (se, .inr (1, [.ref ea, .ref la, .int 0, .int 0, .int 0, .int 0, .int 0, .int 0, .ref ss, .ref spr, .ref fsp, .ref ap, .ref lw, .ref hg])), (sy, .inl (cS, 12, .inr (.inr (.inr (.inr fS)))))] sz) := by
  refine Met.ofW (cc := cX5_width) (maxL := 4) (ret := (some .int)) (by decide) rfl ?_
  intro p e s m args below meth c s₁ B hml hv
  obtain ⟨rfl, hsz, hP, hK, hD0⟩ := hv
  have hx := B.exec
  have hb := B.bytes
  have hr := B.returns
  have hts := atoms_spec (ws := wsX5_width) B.pre
  have hown : s.vm.findClass RX5 = some m.cls := findClass_of_methodNamed B.named
  have hlocks := B.notSynchronized
  subst hsz
  have hD := hD0.self (sz := s.heap.size)
  generalize hAe : va_A [(h0, .inr (4, [.ref kc, .ref kf, .ref kt, .int 0, .int 0, .ref sy, .int 0, .ref se, .ref sl, .ref hf, .ref hh])), (se, .inr (1, [.ref ea, .ref la, .int 0, .int 0, .int 0, .int 0, .int 0, .int 0, .ref ss, .ref spr, .ref fsp, .ref ap, .ref lw, .ref hg])), (sy, .inl (cS, 12, .inr (.inr (.inr (.inr fS)))))] s.heap.size = A at hD ⊢
  have hA : ∀ q : Nat, s.heap.size ≤ q → A q := fun q h => by rw [← hAe]; exact Or.inr h
  have hS : va_S A s.heap s.heap [] := va_S.rf
  have hP : va_P (dC, dI) vwCl [(h0, .inr (4, [.ref kc, .ref kf, .ref kt, .int 0, .int 0, .ref sy, .int 0, .ref se, .ref sl, .ref hf, .ref hh])), (se, .inr (1, [.ref ea, .ref la, .int 0, .int 0, .int 0, .int 0, .int 0, .int 0, .ref ss, .ref spr, .ref fsp, .ref ap, .ref lw, .ref hg])), (sy, .inl (cS, 12, .inr (.inr (.inr (.inr fS)))))] s.heap := hP
  have hl := lv_entry ([.ref h0, .int p0, .int p1]) (n := 4) (Nat.le_of_ble_eq_true rfl)
  rw [lg_entry_eq]
  generalize (lg_sl ([.ref h0, .int p0, .int p1]) ++ List.replicate (4 - (lg_sl ([.ref h0, .int p0, .int p1])).length) Slot.unset).toArray = ls at hl ⊢
  have hl : lv_has ls 4 [(0, .ref h0), (1, .int p0), (2, .int p1)] := hl
  refine lv_iload_n hx hb dX5_width_0 rfl (lv_at hl 1 rfl) ?_
  refine lv_iconst (v := (-1)) hx hb dX5_width_1 (by decide) ?_
  refine lv_icmp_ne (tgt := 14) hx hb dX5_width_2 (by decide) (fun h_1 => ?_) (fun h_1 => ?_)
  · refine lv_iconst (v := 0) hx hb dX5_width_14 (by decide) ?_
    refine lv_istore_n (lv' := [(3, .int 0), (0, .ref h0), (1, .int p0), (2, .int p1)]) hx hb dX5_width_15 rfl hl (by decide) rfl (fun ls hl => ?_)
    refine lv_iload_n hx hb dX5_width_16 rfl (lv_at hl 0 rfl) ?_
    refine lv_if_ne (tgt := 37) hx hb dX5_width_17 (by decide) (fun h_2 => ?_) (fun h_2 => ?_)
    · exact (by first | exact absurd h_2 (by decide) | exact absurd (by decide) h_2)
    · refine lv_aload_n hx hb dX5_width_20 rfl (lv_at hl 1 rfl) ?_
      refine lv_iload_n hx hb dX5_width_21 rfl (lv_at hl 2 rfl) ?_
      have hPc := hP.sub (ws' := [(h0, .inr (4, [.ref kc, .ref kf, .ref kt, .int 0, .int 0, .ref sy, .int 0, .ref se, .ref sl, .ref hf, .ref hh]))]) [0] rfl
      have hKc := hK.sub (tys' := []) [] rfl
      refine vp_callSi (va_Run.run (va_runV (As := [.int p0]) (rest := []) ⟨hx, hb, hml, hown, hts⟩ (k_X5_isEvent l dC dI h0 kc kf kt sy se sl hf hh p0) (cwV 1 hts gX5_width_X5_isEvent rfl rfl rfl (by decide +kernel) ⟨Nat.le_of_ble_eq_true rfl, Nat.le_of_ble_eq_true rfl⟩) ⟨rPre_blind, va_recv hKc hPc (ci := 4) (q0 := 0) rfl rfl, fun U hU hW => ⟨rfl, rPre_at hPc hKc hU hW⟩⟩ rfl rfl hl.1 rfl (lv_room (Nat.le_of_ble_eq_true rfl)) dX5_width_22 ⟨Nat.le_of_ble_eq_true rfl, Nat.le_of_ble_eq_true rfl⟩)) (fun r_3 er_3 => ?_)
      subst er_3
      refine lv_if_eq (tgt := 35) hx hb dX5_width_25 (by decide) (fun h_4 => ?_) (fun h_4 => ?_)
      · refine lv_iconst (v := (-1)) hx hb dX5_width_35 (by decide) ?_
        have hP9 := hP.sub (ws' := []) [] rfl
        have hD9 := hD.sub (ws' := []) [] (by decide) rfl
        exact W.iret (v := (-1)) hx hb hr (fun t ht hW => ⟨⟨_, (), rfl, by rw [if_neg h_1], by rw [ht]; exact hP9, hD9⟩, hS.F ht⟩) hS.2.2 dX5_width_36
      · exact (by first | exact absurd h_4 (by decide) | exact absurd (by decide) h_4)
  · refine lv_iload_n hx hb dX5_width_5 rfl (lv_at hl 2 rfl) ?_
    refine lv_iconst (v := (-1)) hx hb dX5_width_6 (by decide) ?_
    refine lv_icmp_ne (tgt := 14) hx hb dX5_width_7 (by decide) (fun h_5 => ?_) (fun h_5 => ?_)
    · refine lv_iconst (v := 0) hx hb dX5_width_14 (by decide) ?_
      refine lv_istore_n (lv' := [(3, .int 0), (0, .ref h0), (1, .int p0), (2, .int p1)]) hx hb dX5_width_15 rfl hl (by decide) rfl (fun ls hl => ?_)
      refine lv_iload_n hx hb dX5_width_16 rfl (lv_at hl 0 rfl) ?_
      refine lv_if_ne (tgt := 37) hx hb dX5_width_17 (by decide) (fun h_6 => ?_) (fun h_6 => ?_)
      · exact (by first | exact absurd h_6 (by decide) | exact absurd (by decide) h_6)
      · refine lv_aload_n hx hb dX5_width_20 rfl (lv_at hl 1 rfl) ?_
        refine lv_iload_n hx hb dX5_width_21 rfl (lv_at hl 2 rfl) ?_
        have hPc := hP.sub (ws' := [(h0, .inr (4, [.ref kc, .ref kf, .ref kt, .int 0, .int 0, .ref sy, .int 0, .ref se, .ref sl, .ref hf, .ref hh]))]) [0] rfl
        have hKc := hK.sub (tys' := []) [] rfl
        refine vp_callSi (va_Run.run (va_runV (As := [.int p0]) (rest := []) ⟨hx, hb, hml, hown, hts⟩ (k_X5_isEvent l dC dI h0 kc kf kt sy se sl hf hh p0) (cwV 1 hts gX5_width_X5_isEvent rfl rfl rfl (by decide +kernel) ⟨Nat.le_of_ble_eq_true rfl, Nat.le_of_ble_eq_true rfl⟩) ⟨rPre_blind, va_recv hKc hPc (ci := 4) (q0 := 0) rfl rfl, fun U hU hW => ⟨rfl, rPre_at hPc hKc hU hW⟩⟩ rfl rfl hl.1 rfl (lv_room (Nat.le_of_ble_eq_true rfl)) dX5_width_22 ⟨Nat.le_of_ble_eq_true rfl, Nat.le_of_ble_eq_true rfl⟩)) (fun r_7 er_7 => ?_)
        subst er_7
        refine lv_if_eq (tgt := 35) hx hb dX5_width_25 (by decide) (fun h_8 => ?_) (fun h_8 => ?_)
        · refine lv_iconst (v := (-1)) hx hb dX5_width_35 (by decide) ?_
          have hP9 := hP.sub (ws' := []) [] rfl
          have hD9 := hD.sub (ws' := []) [] (by decide) rfl
          exact W.iret (v := (-1)) hx hb hr (fun t ht hW => ⟨⟨_, (), rfl, by rw [if_pos h_1, if_neg h_5], by rw [ht]; exact hP9, hD9⟩, hS.F ht⟩) hS.2.2 dX5_width_36
        · exact (by first | exact absurd h_8 (by decide) | exact absurd (by decide) h_8)
    · refine lv_iconst (v := 1) hx hb dX5_width_10 (by decide) ?_
      refine lv_goto (tgt := 15) hx hb dX5_width_11 (by decide) ?_
      refine lv_istore_n (lv' := [(3, .int 1), (0, .ref h0), (1, .int p0), (2, .int p1)]) hx hb dX5_width_15 rfl hl (by decide) rfl (fun ls hl => ?_)
      refine lv_iload_n hx hb dX5_width_16 rfl (lv_at hl 0 rfl) ?_
      refine lv_if_ne (tgt := 37) hx hb dX5_width_17 (by decide) (fun h_9 => ?_) (fun h_9 => ?_)
      · subst h_1
        subst h_5
        have hl : lv_has ls 4 [(3, .int 1), (0, .ref h0), (1, .int ((-1))), (2, .int ((-1)))] := hl
        refine lv_aload_n hx hb dX5_width_37 rfl (lv_at hl 1 rfl) ?_
        refine lv_iload_n hx hb dX5_width_38 rfl (lv_at hl 2 rfl) ?_
        refine lv_iload_n hx hb dX5_width_39 rfl (lv_at hl 3 rfl) ?_
        have hPc := hP.sub (ws' := [(h0, .inr (4, [.ref kc, .ref kf, .ref kt, .int 0, .int 0, .ref sy, .int 0, .ref se, .ref sl, .ref hf, .ref hh])), (se, .inr (1, [.ref ea, .ref la, .int 0, .int 0, .int 0, .int 0, .int 0, .int 0, .ref ss, .ref spr, .ref fsp, .ref ap, .ref lw, .ref hg])), (sy, .inl (cS, 12, .inr (.inr (.inr (.inr fS)))))]) [0, 1, 2] rfl
        have hKc := hK.sub (tys' := [(cS, (.object "DayBench$Saying"))]) [0] rfl
        have hDc := hD.sub (ws' := [(h0, .inr (4, [.ref kc, .ref kf, .ref kt, .int 0, .int 0, .ref sy, .int 0, .ref se, .ref sl, .ref hf, .ref hh])), (se, .inr (1, [.ref ea, .ref la, .int 0, .int 0, .int 0, .int 0, .int 0, .int 0, .ref ss, .ref spr, .ref fsp, .ref ap, .ref lw, .ref hg])), (sy, .inl (cS, 12, .inr (.inr (.inr (.inr fS)))))]) [0, 1, 2] (by decide) rfl
        have hFc := va_free (wc := [(h0, .inr (4, [.ref kc, .ref kf, .ref kt, .int 0, .int 0, .ref sy, .int 0, .ref se, .ref sl, .ref hf, .ref hh])), (se, .inr (1, [.ref ea, .ref la, .int 0, .int 0, .int 0, .int 0, .int 0, .int 0, .ref ss, .ref spr, .ref fsp, .ref ap, .ref lw, .ref hg])), (sy, .inl (cS, 12, .inr (.inr (.inr (.inr fS)))))]) hD hS hA [0, 1, 2] rfl
        refine va_calli (va_runV (As := [.int ((-1)), .int ((-1))]) (rest := []) ⟨hx, hb, hml, hown, hts⟩ (k_X5_askWidth l dC dI s.heap.size h0 kc kf kt sy se sl hf hh ea la ss spr fsp ap lw hg cS fS) (cwV 2 hts gX5_width_X5_askWidth rfl rfl rfl (by decide +kernel) ⟨Nat.le_of_ble_eq_true rfl, Nat.le_of_ble_eq_true rfl⟩) ⟨wPre_blind, va_recv hKc hPc (ci := 4) (q0 := 0) rfl rfl, fun U hU hW => ⟨rfl, wPre_at hPc hKc hDc hU hW⟩⟩ rfl rfl hl.1 rfl (lv_room (Nat.le_of_ble_eq_true rfl)) dX5_width_40 ⟨Nat.le_of_ble_eq_true rfl, Nat.le_of_ble_eq_true rfl⟩) hS (fun q _ h => hFc q h) hFc (fun r_10 u t H1 locs ht hvm hw hB hz1 hk1 hS => ?_)
        obtain ⟨hP1, hD1⟩ := hB
        rw [ht] at hP1
        obtain ⟨hP, hD⟩ := va_join (wr := []) (w1 := [(h0, .inr (4, [.ref kc, .ref kf, .ref kt, .int 0, .int 0, .ref sy, .int 0, .ref se, .ref sl, .ref hf, .ref hh])), (se, .inr (1, [.ref ea, .ref la, .int 0, .int 0, .int 0, .int 1, .int 0, .int 1, .ref ss, .ref spr, .ref fsp, .ref ap, .ref lw, .ref hg])), (sy, .inl (cS, 12, .inr (.inr (.inr (.inr fS)))))]) hP hD [0, 1, 2] [] rfl rfl (by decide) (by decide) hk1 hFc hP1 hD1
        clear hP1 hD1 hz1 hk1 hFc hPc hDc ht
        generalize H1 = H at hP hS ⊢
        have hP : va_P (dC, dI) vwCl [(h0, .inr (4, [.ref kc, .ref kf, .ref kt, .int 0, .int 0, .ref sy, .int 0, .ref se, .ref sl, .ref hf, .ref hh])), (se, .inr (1, [.ref ea, .ref la, .int 0, .int 0, .int 0, .int 1, .int 0, .int 1, .ref ss, .ref spr, .ref fsp, .ref ap, .ref lw, .ref hg])), (sy, .inl (cS, 12, .inr (.inr (.inr (.inr fS)))))] H := hP
        have hD : va_D A [(h0, .inr (4, [.ref kc, .ref kf, .ref kt, .int 0, .int 0, .ref sy, .int 0, .ref se, .ref sl, .ref hf, .ref hh])), (se, .inr (1, [.ref ea, .ref la, .int 0, .int 0, .int 0, .int 1, .int 0, .int 1, .ref ss, .ref spr, .ref fsp, .ref ap, .ref lw, .ref hg])), (sy, .inl (cS, 12, .inr (.inr (.inr (.inr fS)))))] := hD
        subst hw
        have hP9 := hP.sub (ws' := []) [] rfl
        have hD9 := hD.sub (ws' := []) [] (by decide) rfl
        exact W.iret (v := 0) hx hb hr (fun t ht hW => ⟨⟨_, (), rfl, rfl, by rw [ht]; exact hP9, hD9⟩, hS.F ht⟩) hS.2.2 dX5_width_43
      · exact (by first | exact absurd h_9 (by decide) | exact absurd (by decide) h_9)

set_option maxHeartbeats 4000000 in
set_option maxRecDepth 100000 in
theorem k_X5_settles (l : Launch) (dC : Nat → ClassId) (dI : Nat → Nat → Nat) (sz : Nat) (h0 : Nat) (kc : Nat) (kf : Nat) (kt : Nat) (sy : Nat) (se : Nat) (sl : Nat) (hf : Nat) (hh : Nat) (ea : Nat) (la : Nat) (ss : Nat) (spr : Nat) (fsp : Nat) (ap : Nat) (lw : Nat) (hg : Nat) (cS : ClassId) (fS : Nat → Option Nat) (cI : ClassId) (fF : Nat → Int32) (fH : Nat → Int32) (fE : Nat → Int32) (fA : Nat → Int32)  : Met l yX5_settles wsX5_settles ({ frames := 4, cells := 0, slots := 0, locals := 91 }) (va_Pc [.ref h0] (wPre dC dI sz [(h0, .inr (4, [.ref kc, .ref kf, .ref kt, .int 0, .int 0, .ref sy, .int 0, .ref se, .ref sl, .ref hf, .ref hh])), (se, .inr (1, [.ref ea, .ref la, .int 0, .int 0, .int 0, .int 0, .int 0, .int 0, .ref ss, .ref spr, .ref fsp, .ref ap, .ref lw, .ref hg])), (sy, .inl (cS, 12, .inr (.inr (.inr (.inr fS))))), (hf, .inl (cI, 6, .inl fF)), (hh, .inl (cI, 6, .inl fH)), (ea, .inl (cI, 6, .inl fE)), (la, .inl (cI, 6, .inl fA))] [(cS, (.object "DayBench$Saying")), (cI, .int)])) (va_Qi (fun (r : Int32) (u : Unit) => r = (-1)) (fun (u : Unit) t => wPost dC dI (va_A [(h0, .inr (4, [.ref kc, .ref kf, .ref kt, .int 0, .int 0, .ref sy, .int 0, .ref se, .ref sl, .ref hf, .ref hh])), (se, .inr (1, [.ref ea, .ref la, .int 0, .int 0, .int 0, .int 0, .int 0, .int 0, .ref ss, .ref spr, .ref fsp, .ref ap, .ref lw, .ref hg])), (sy, .inl (cS, 12, .inr (.inr (.inr (.inr fS))))), (hf, .inl (cI, 6, .inl fF)), (hh, .inl (cI, 6, .inl fH)), (ea, .inl (cI, 6, .inl fE)), (la, .inl (cI, 6, .inl fA))] sz) [] t) (va_A [(h0, .inr (4, [.ref kc, .ref kf, .ref kt, .int 0, .int 0, .ref sy, .int 0, .ref se, .ref sl, .ref hf, .ref hh])), (se, .inr (1, [.ref ea, .ref la, .int 0, .int 0, .int 0, .int 0, .int 0, .int 0, .ref ss, .ref spr, .ref fsp, .ref ap, .ref lw, .ref hg])), (sy, .inl (cS, 12, .inr (.inr (.inr (.inr fS))))), (hf, .inl (cI, 6, .inl fF)), (hh, .inl (cI, 6, .inl fH)), (ea, .inl (cI, 6, .inl fE)), (la, .inl (cI, 6, .inl fA))] sz)) 0 0 (va_A [(h0, .inr (4, [.ref kc, .ref kf, .ref kt, .int 0, .int 0, .ref sy, .int 0, .ref se, .ref sl, .ref hf, .ref hh])), (se, .inr (1, [.ref ea, .ref la, .int 0, .int 0, .int 0, .int 0, .int 0, .int 0, .ref ss, .ref spr, .ref fsp, .ref ap, .ref lw, .ref hg])), (sy, .inl (cS, 12, .inr (.inr (.inr (.inr fS))))), (hf, .inl (cI, 6, .inl fF)), (hh, .inl (cI, 6, .inl fH)), (ea, .inl (cI, 6, .inl fE)), (la, .inl (cI, 6, .inl fA))] sz) := by
  refine Met.ofW (cc := cX5_settles) (maxL := 6) (ret := (some .int)) (by decide) rfl ?_
  intro p e s m args below meth c s₁ B hml hv
  obtain ⟨rfl, hsz, hP, hK, hD0⟩ := hv
  have hx := B.exec
  have hb := B.bytes
  have hr := B.returns
  have hts := atoms_spec (ws := wsX5_settles) B.pre
  have hown : s.vm.findClass RX5 = some m.cls := findClass_of_methodNamed B.named
  have hlocks := B.notSynchronized
  subst hsz
  have hD := hD0.self (sz := s.heap.size)
  generalize hAe : va_A [(h0, .inr (4, [.ref kc, .ref kf, .ref kt, .int 0, .int 0, .ref sy, .int 0, .ref se, .ref sl, .ref hf, .ref hh])), (se, .inr (1, [.ref ea, .ref la, .int 0, .int 0, .int 0, .int 0, .int 0, .int 0, .ref ss, .ref spr, .ref fsp, .ref ap, .ref lw, .ref hg])), (sy, .inl (cS, 12, .inr (.inr (.inr (.inr fS))))), (hf, .inl (cI, 6, .inl fF)), (hh, .inl (cI, 6, .inl fH)), (ea, .inl (cI, 6, .inl fE)), (la, .inl (cI, 6, .inl fA))] s.heap.size = A at hD ⊢
  have hA : ∀ q : Nat, s.heap.size ≤ q → A q := fun q h => by rw [← hAe]; exact Or.inr h
  have hS : va_S A s.heap s.heap [] := va_S.rf
  have hP : va_P (dC, dI) vwCl [(h0, .inr (4, [.ref kc, .ref kf, .ref kt, .int 0, .int 0, .ref sy, .int 0, .ref se, .ref sl, .ref hf, .ref hh])), (se, .inr (1, [.ref ea, .ref la, .int 0, .int 0, .int 0, .int 0, .int 0, .int 0, .ref ss, .ref spr, .ref fsp, .ref ap, .ref lw, .ref hg])), (sy, .inl (cS, 12, .inr (.inr (.inr (.inr fS))))), (hf, .inl (cI, 6, .inl fF)), (hh, .inl (cI, 6, .inl fH)), (ea, .inl (cI, 6, .inl fE)), (la, .inl (cI, 6, .inl fA))] s.heap := hP
  have hl := lv_entry ([.ref h0]) (n := 6) (Nat.le_of_ble_eq_true rfl)
  rw [lg_entry_eq]
  generalize (lg_sl ([.ref h0]) ++ List.replicate (6 - (lg_sl ([.ref h0])).length) Slot.unset).toArray = ls at hl ⊢
  have hl : lv_has ls 6 [(0, .ref h0)] := hl
  refine lv_aload_n hx hb dX5_settles_0 rfl (lv_at hl 0 rfl) ?_
  refine lv_iconst (v := (-1)) hx hb dX5_settles_1 (by decide) ?_
  refine lv_iconst (v := (-1)) hx hb dX5_settles_2 (by decide) ?_
  have hPc := hP.sub (ws' := [(h0, .inr (4, [.ref kc, .ref kf, .ref kt, .int 0, .int 0, .ref sy, .int 0, .ref se, .ref sl, .ref hf, .ref hh])), (se, .inr (1, [.ref ea, .ref la, .int 0, .int 0, .int 0, .int 0, .int 0, .int 0, .ref ss, .ref spr, .ref fsp, .ref ap, .ref lw, .ref hg])), (sy, .inl (cS, 12, .inr (.inr (.inr (.inr fS)))))]) [0, 1, 2] rfl
  have hKc := hK.sub (tys' := [(cS, (.object "DayBench$Saying"))]) [0] rfl
  have hDc := hD.sub (ws' := [(h0, .inr (4, [.ref kc, .ref kf, .ref kt, .int 0, .int 0, .ref sy, .int 0, .ref se, .ref sl, .ref hf, .ref hh])), (se, .inr (1, [.ref ea, .ref la, .int 0, .int 0, .int 0, .int 0, .int 0, .int 0, .ref ss, .ref spr, .ref fsp, .ref ap, .ref lw, .ref hg])), (sy, .inl (cS, 12, .inr (.inr (.inr (.inr fS)))))]) [0, 1, 2] (by decide) rfl
  have hFc := va_free (wc := [(h0, .inr (4, [.ref kc, .ref kf, .ref kt, .int 0, .int 0, .ref sy, .int 0, .ref se, .ref sl, .ref hf, .ref hh])), (se, .inr (1, [.ref ea, .ref la, .int 0, .int 0, .int 0, .int 0, .int 0, .int 0, .ref ss, .ref spr, .ref fsp, .ref ap, .ref lw, .ref hg])), (sy, .inl (cS, 12, .inr (.inr (.inr (.inr fS)))))]) hD hS hA [0, 1, 2] rfl
  refine va_calli (va_runV (As := [.int ((-1)), .int ((-1))]) (rest := []) ⟨hx, hb, hml, hown, hts⟩ (k_X5_askWidth l dC dI s.heap.size h0 kc kf kt sy se sl hf hh ea la ss spr fsp ap lw hg cS fS) (cwV 2 hts gX5_settles_X5_askWidth rfl rfl rfl (by decide +kernel) ⟨Nat.le_of_ble_eq_true rfl, Nat.le_of_ble_eq_true rfl⟩) ⟨wPre_blind, va_recv hKc hPc (ci := 4) (q0 := 0) rfl rfl, fun U hU hW => ⟨rfl, wPre_at hPc hKc hDc hU hW⟩⟩ rfl rfl hl.1 rfl (lv_room (Nat.le_of_ble_eq_true rfl)) dX5_settles_3 ⟨Nat.le_of_ble_eq_true rfl, Nat.le_of_ble_eq_true rfl⟩) hS (fun q _ h => hFc q h) hFc (fun r_1 u t H1 locs ht hvm hw hB hz1 hk1 hS => ?_)
  obtain ⟨hP1, hD1⟩ := hB
  rw [ht] at hP1
  obtain ⟨hP, hD⟩ := va_join (wr := [(hf, .inl (cI, 6, .inl fF)), (hh, .inl (cI, 6, .inl fH)), (ea, .inl (cI, 6, .inl fE)), (la, .inl (cI, 6, .inl fA))]) (w1 := [(h0, .inr (4, [.ref kc, .ref kf, .ref kt, .int 0, .int 0, .ref sy, .int 0, .ref se, .ref sl, .ref hf, .ref hh])), (se, .inr (1, [.ref ea, .ref la, .int 0, .int 0, .int 0, .int 1, .int 0, .int 1, .ref ss, .ref spr, .ref fsp, .ref ap, .ref lw, .ref hg])), (sy, .inl (cS, 12, .inr (.inr (.inr (.inr fS)))))]) hP hD [0, 1, 2] [3, 4, 5, 6] rfl rfl (by decide) (by decide) hk1 hFc hP1 hD1
  clear hP1 hD1 hz1 hk1 hFc hPc hDc ht
  generalize H1 = H at hP hS ⊢
  have hP : va_P (dC, dI) vwCl [(hf, .inl (cI, 6, .inl fF)), (hh, .inl (cI, 6, .inl fH)), (ea, .inl (cI, 6, .inl fE)), (la, .inl (cI, 6, .inl fA)), (h0, .inr (4, [.ref kc, .ref kf, .ref kt, .int 0, .int 0, .ref sy, .int 0, .ref se, .ref sl, .ref hf, .ref hh])), (se, .inr (1, [.ref ea, .ref la, .int 0, .int 0, .int 0, .int 1, .int 0, .int 1, .ref ss, .ref spr, .ref fsp, .ref ap, .ref lw, .ref hg])), (sy, .inl (cS, 12, .inr (.inr (.inr (.inr fS)))))] H := hP
  have hD : va_D A [(hf, .inl (cI, 6, .inl fF)), (hh, .inl (cI, 6, .inl fH)), (ea, .inl (cI, 6, .inl fE)), (la, .inl (cI, 6, .inl fA)), (h0, .inr (4, [.ref kc, .ref kf, .ref kt, .int 0, .int 0, .ref sy, .int 0, .ref se, .ref sl, .ref hf, .ref hh])), (se, .inr (1, [.ref ea, .ref la, .int 0, .int 0, .int 0, .int 1, .int 0, .int 1, .ref ss, .ref spr, .ref fsp, .ref ap, .ref lw, .ref hg])), (sy, .inl (cS, 12, .inr (.inr (.inr (.inr fS)))))] := hD
  subst hw
  refine lv_istore_n (lv' := [(1, .int 0), (0, .ref h0)]) hx hb dX5_settles_6 rfl hl (by decide) rfl (fun ls hl => ?_)
  refine lv_iload_n hx hb dX5_settles_7 rfl (lv_at hl 0 rfl) ?_
  refine lv_if_ge (tgt := 13) hx hb dX5_settles_8 (by decide) (fun h_2 => ?_) (fun h_2 => ?_)
  · refine lv_aload_n hx hb dX5_settles_13 rfl (lv_at hl 1 rfl) ?_
    refine va_get (D := (dC, dI)) (ci := 4) (v := .ref se) (C := RX5) (T := TX5) (N := 11) hx hb hts (by decide +kernel) hown hK hP 4 rfl rfl 7 (by decide) (hts (.fieldLink RX5 29 "DayBench" "search" "LDayBench$Search;") (by decide +kernel)) (fun _ h9 => h9) rfl dX5_settles_14 ?_
    refine va_get (D := (dC, dI)) (ci := 1) (v := .ref ea) (C := RX2) (T := TX2) (N := 14) hx hb hts (by decide +kernel) hown hK hP 5 rfl rfl 0 (by decide) (hts (.fieldLink RX5 142 "DayBench$Search" "earliest" "[I") (by decide +kernel)) (fun _ h9 => h9) rfl dX5_settles_17 ?_
    refine lv_iconst (v := 0) hx hb dX5_settles_20 (by decide) ?_
    refine lv_aload_n hx hb dX5_settles_21 rfl (lv_at hl 1 rfl) ?_
    refine va_get (D := (dC, dI)) (ci := 4) (v := .ref hf) (C := RX5) (T := TX5) (N := 11) hx hb hts (by decide +kernel) hown hK hP 4 rfl rfl 9 (by decide) (hts (.fieldLink RX5 40 "DayBench" "heldFirst" "[I") (by decide +kernel)) (fun _ h9 => h9) rfl dX5_settles_22 ?_
    refine lv_iconst (v := 0) hx hb dX5_settles_25 (by decide) ?_
    refine lv_bipush (v := 6) hx hb dX5_settles_26 (by decide) ?_
    refine va_copyi (own := RX5) (ty := .int) hx hb (hml.trans hl.1.symm) hown (hts (.methodLink RX5 213 arraycopyName) (by decide +kernel)) (hts (.native arraycopyName) (by decide +kernel)) (hts (.static arraycopyName) (by decide +kernel)) (hts (.initialized "java/lang/System") (by decide +kernel)) hK hP hD hS 2 0 1 1 rfl rfl rfl rfl rfl (by decide) (by decide) (by decide) (by decide) (by decide) (fun _ _ => rfl) (Nat.le_of_ble_eq_true rfl) (Nat.le_of_ble_eq_true rfl) dX5_settles_28 (fun H locs hP hD hS => ?_)
    have hP : va_P (dC, dI) vwCl [(hf, .inl (cI, 6, .inl (va_cpy fE fF (0 : Int32).toNatClampNeg (0 : Int32).toNatClampNeg (6 : Int32).toNatClampNeg))), (hh, .inl (cI, 6, .inl fH)), (ea, .inl (cI, 6, .inl fE)), (la, .inl (cI, 6, .inl fA)), (h0, .inr (4, [.ref kc, .ref kf, .ref kt, .int 0, .int 0, .ref sy, .int 0, .ref se, .ref sl, .ref hf, .ref hh])), (se, .inr (1, [.ref ea, .ref la, .int 0, .int 0, .int 0, .int 1, .int 0, .int 1, .ref ss, .ref spr, .ref fsp, .ref ap, .ref lw, .ref hg])), (sy, .inl (cS, 12, .inr (.inr (.inr (.inr fS)))))] H := hP
    have hD : va_D A [(hf, .inl (cI, 6, .inl (va_cpy fE fF (0 : Int32).toNatClampNeg (0 : Int32).toNatClampNeg (6 : Int32).toNatClampNeg))), (hh, .inl (cI, 6, .inl fH)), (ea, .inl (cI, 6, .inl fE)), (la, .inl (cI, 6, .inl fA)), (h0, .inr (4, [.ref kc, .ref kf, .ref kt, .int 0, .int 0, .ref sy, .int 0, .ref se, .ref sl, .ref hf, .ref hh])), (se, .inr (1, [.ref ea, .ref la, .int 0, .int 0, .int 0, .int 1, .int 0, .int 1, .ref ss, .ref spr, .ref fsp, .ref ap, .ref lw, .ref hg])), (sy, .inl (cS, 12, .inr (.inr (.inr (.inr fS)))))] := hD
    refine lv_aload_n hx hb dX5_settles_31 rfl (lv_at hl 1 rfl) ?_
    refine va_get (D := (dC, dI)) (ci := 4) (v := .ref se) (C := RX5) (T := TX5) (N := 11) hx hb hts (by decide +kernel) hown hK hP 4 rfl rfl 7 (by decide) (hts (.fieldLink RX5 29 "DayBench" "search" "LDayBench$Search;") (by decide +kernel)) (fun _ h9 => h9) rfl dX5_settles_32 ?_
    refine va_get (D := (dC, dI)) (ci := 1) (v := .ref la) (C := RX2) (T := TX2) (N := 14) hx hb hts (by decide +kernel) hown hK hP 5 rfl rfl 1 (by decide) (hts (.fieldLink RX5 145 "DayBench$Search" "latest" "[I") (by decide +kernel)) (fun _ h9 => h9) rfl dX5_settles_35 ?_
    refine lv_iconst (v := 0) hx hb dX5_settles_38 (by decide) ?_
    refine lv_aload_n hx hb dX5_settles_39 rfl (lv_at hl 1 rfl) ?_
    refine va_get (D := (dC, dI)) (ci := 4) (v := .ref hh) (C := RX5) (T := TX5) (N := 11) hx hb hts (by decide +kernel) hown hK hP 4 rfl rfl 10 (by decide) (hts (.fieldLink RX5 43 "DayBench" "heldLast" "[I") (by decide +kernel)) (fun _ h9 => h9) rfl dX5_settles_40 ?_
    refine lv_iconst (v := 0) hx hb dX5_settles_43 (by decide) ?_
    refine lv_bipush (v := 6) hx hb dX5_settles_44 (by decide) ?_
    refine va_copyi (own := RX5) (ty := .int) hx hb (hml.trans hl.1.symm) hown (hts (.methodLink RX5 213 arraycopyName) (by decide +kernel)) (hts (.native arraycopyName) (by decide +kernel)) (hts (.static arraycopyName) (by decide +kernel)) (hts (.initialized "java/lang/System") (by decide +kernel)) hK hP hD hS 3 1 1 1 rfl rfl rfl rfl rfl (by decide) (by decide) (by decide) (by decide) (by decide) (fun _ _ => rfl) (Nat.le_of_ble_eq_true rfl) (Nat.le_of_ble_eq_true rfl) dX5_settles_46 (fun H locs hP hD hS => ?_)
    have hP : va_P (dC, dI) vwCl [(hf, .inl (cI, 6, .inl (va_cpy fE fF (0 : Int32).toNatClampNeg (0 : Int32).toNatClampNeg (6 : Int32).toNatClampNeg))), (hh, .inl (cI, 6, .inl (va_cpy fA fH (0 : Int32).toNatClampNeg (0 : Int32).toNatClampNeg (6 : Int32).toNatClampNeg))), (ea, .inl (cI, 6, .inl fE)), (la, .inl (cI, 6, .inl fA)), (h0, .inr (4, [.ref kc, .ref kf, .ref kt, .int 0, .int 0, .ref sy, .int 0, .ref se, .ref sl, .ref hf, .ref hh])), (se, .inr (1, [.ref ea, .ref la, .int 0, .int 0, .int 0, .int 1, .int 0, .int 1, .ref ss, .ref spr, .ref fsp, .ref ap, .ref lw, .ref hg])), (sy, .inl (cS, 12, .inr (.inr (.inr (.inr fS)))))] H := hP
    have hD : va_D A [(hf, .inl (cI, 6, .inl (va_cpy fE fF (0 : Int32).toNatClampNeg (0 : Int32).toNatClampNeg (6 : Int32).toNatClampNeg))), (hh, .inl (cI, 6, .inl (va_cpy fA fH (0 : Int32).toNatClampNeg (0 : Int32).toNatClampNeg (6 : Int32).toNatClampNeg))), (ea, .inl (cI, 6, .inl fE)), (la, .inl (cI, 6, .inl fA)), (h0, .inr (4, [.ref kc, .ref kf, .ref kt, .int 0, .int 0, .ref sy, .int 0, .ref se, .ref sl, .ref hf, .ref hh])), (se, .inr (1, [.ref ea, .ref la, .int 0, .int 0, .int 0, .int 1, .int 0, .int 1, .ref ss, .ref spr, .ref fsp, .ref ap, .ref lw, .ref hg])), (sy, .inl (cS, 12, .inr (.inr (.inr (.inr fS)))))] := hD
    refine lv_iconst (v := (-1)) hx hb dX5_settles_49 (by decide) ?_
    refine lv_istore_n (lv' := [(2, .int ((-1))), (1, .int 0), (0, .ref h0)]) hx hb dX5_settles_50 rfl hl (by decide) rfl (fun ls hl => ?_)
    refine lv_iconst (v := 0) hx hb dX5_settles_51 (by decide) ?_
    refine lv_istore_n (lv' := [(3, .int 0), (2, .int ((-1))), (1, .int 0), (0, .ref h0)]) hx hb dX5_settles_52 rfl hl (by decide) rfl (fun ls hl => ?_)
    refine lv_iconst (v := 0) hx hb dX5_settles_53 (by decide) ?_
    refine lv_istore (lv' := [(4, .int 0), (3, .int 0), (2, .int ((-1))), (1, .int 0), (0, .ref h0)]) hx hb dX5_settles_54 hl (by decide) rfl (fun ls hl => ?_)
    refine lv_iload hx hb dX5_settles_56 (lv_at hl 0 rfl) ?_
    refine lv_aload_n hx hb dX5_settles_58 rfl (lv_at hl 4 rfl) ?_
    refine va_get (D := (dC, dI)) (ci := 4) (v := .int 0) (C := RX5) (T := TX5) (N := 11) hx hb hts (by decide +kernel) hown hK hP 4 rfl rfl 4 (by decide) (hts (.fieldLink RX5 71 "DayBench" "events" "I") (by decide +kernel)) (fun _ h9 => h9) rfl dX5_settles_59 ?_
    refine lv_icmp_ge (tgt := 123) hx hb dX5_settles_62 (by decide) (fun h_3 => ?_) (fun h_3 => ?_)
    · refine lv_iload_n hx hb dX5_settles_123 rfl (lv_at hl 2 rfl) ?_
      have hP9 := hP.sub (ws' := []) [] rfl
      have hD9 := hD.sub (ws' := []) [] (by decide) rfl
      exact W.iret (v := (-1)) hx hb hr (fun t ht hW => ⟨⟨_, (), rfl, rfl, by rw [ht]; exact hP9, hD9⟩, hS.F ht⟩) hS.2.2 dX5_settles_124
    · exact (by first | exact absurd h_3 (by decide) | exact absurd (by decide) h_3)
  · exact (by first | exact absurd h_2 (by decide) | exact absurd (by decide) h_2)

set_option maxHeartbeats 4000000 in
set_option maxRecDepth 100000 in
theorem k_X5_count (l : Launch) (dC : Nat → ClassId) (dI : Nat → Nat → Nat) (h0 : Nat) (kc : Nat) (kf : Nat) (kt : Nat) (sy : Nat) (se : Nat) (sl : Nat) (hf : Nat) (hh : Nat) (ea : Nat) (la : Nat) (ss : Nat) (spr : Nat) (fsp : Nat) (ap : Nat) (lw : Nat) (hg : Nat) (sp : Int32) (fo : Int32) (ti : Int32) (tg : Int32) (p0 : Int32)  : Met l yX5_count wsX5_count ({ frames := 0, cells := 0, slots := 0, locals := 0 }) (va_Pc [.ref h0, .int p0] (rPre dC dI [(h0, .inr (4, [.ref kc, .ref kf, .ref kt, .int 0, .int 0, .ref sy, .int 0, .ref se, .ref sl, .ref hf, .ref hh])), (se, .inr (1, [.ref ea, .ref la, .int 0, .int 0, .int sp, .int fo, .int ti, .int tg, .ref ss, .ref spr, .ref fsp, .ref ap, .ref lw, .ref hg]))] [])) (vp_Si (fun r => r = if p0 = 0 then 0 else (if p0 = 1 then 0 else (if p0 = 2 then 0 else (if p0 = 3 then 0 else (-1)))))) 0 0 (fun _ => False) := by
  refine Met.ofW (cc := cX5_count) (maxL := 2) (ret := (some .int)) (by decide) rfl ?_
  intro p e s m args below meth c s₁ B hml hv
  obtain ⟨rfl, hP, hK⟩ := hv
  have hx := B.exec
  have hb := B.bytes
  have hr := B.returns
  have hts := atoms_spec (ws := wsX5_count) B.pre
  have hown : s.vm.findClass RX5 = some m.cls := findClass_of_methodNamed B.named
  have hlocks := B.notSynchronized
  have hl := lv_entry ([.ref h0, .int p0]) (n := 2) (Nat.le_of_ble_eq_true rfl)
  rw [lg_entry_eq]
  generalize (lg_sl ([.ref h0, .int p0]) ++ List.replicate (2 - (lg_sl ([.ref h0, .int p0])).length) Slot.unset).toArray = ls at hl ⊢
  have hl : lv_has ls 2 [(0, .ref h0), (1, .int p0)] := hl
  refine lv_iload_n hx hb dX5_count_0 rfl (lv_at hl 1 rfl) ?_
  by_cases h_1 : p0 = 0
  · refine lv_tableIn (tgt := 32) hx hb dX5_count_1 (by rw [h_1]; decide) (by rw [h_1]; decide) (by rw [h_1]; rfl) (by decide) ?_
    refine lv_aload_n hx hb dX5_count_32 rfl (lv_at hl 0 rfl) ?_
    refine va_get (D := (dC, dI)) (ci := 4) (v := .int 0) (C := RX5) (T := TX5) (N := 11) hx hb hts (by decide +kernel) hown hK hP 0 rfl rfl 3 (by decide) (hts (.fieldLink RX5 59 "DayBench" "kings" "I") (by decide +kernel)) (fun _ h9 => h9) rfl dX5_count_33 ?_
    exact W.iret (v := 0) hx hb hr (fun t ht hW => ⟨_, rfl, by rw [if_pos h_1], ht⟩) (fun _ h => by cases h) dX5_count_36
  by_cases h_2 : p0 = 1
  · refine lv_tableIn (tgt := 37) hx hb dX5_count_1 (by rw [h_2]; decide) (by rw [h_2]; decide) (by rw [h_2]; rfl) (by decide) ?_
    refine lv_aload_n hx hb dX5_count_37 rfl (lv_at hl 0 rfl) ?_
    refine va_get (D := (dC, dI)) (ci := 4) (v := .int 0) (C := RX5) (T := TX5) (N := 11) hx hb hts (by decide +kernel) hown hK hP 0 rfl rfl 4 (by decide) (hts (.fieldLink RX5 71 "DayBench" "events" "I") (by decide +kernel)) (fun _ h9 => h9) rfl dX5_count_38 ?_
    exact W.iret (v := 0) hx hb hr (fun t ht hW => ⟨_, rfl, by rw [if_neg h_1, if_pos h_2], ht⟩) (fun _ h => by cases h) dX5_count_41
  by_cases h_3 : p0 = 2
  · refine lv_tableIn (tgt := 42) hx hb dX5_count_1 (by rw [h_3]; decide) (by rw [h_3]; decide) (by rw [h_3]; rfl) (by decide) ?_
    refine lv_aload_n hx hb dX5_count_42 rfl (lv_at hl 0 rfl) ?_
    refine va_get (D := (dC, dI)) (ci := 4) (v := .int 0) (C := RX5) (T := TX5) (N := 11) hx hb hts (by decide +kernel) hown hK hP 0 rfl rfl 6 (by decide) (hts (.fieldLink RX5 74 "DayBench" "sayingsMade" "I") (by decide +kernel)) (fun _ h9 => h9) rfl dX5_count_43 ?_
    exact W.iret (v := 0) hx hb hr (fun t ht hW => ⟨_, rfl, by rw [if_neg h_1, if_neg h_2, if_pos h_3], ht⟩) (fun _ h => by cases h) dX5_count_46
  by_cases h_4 : p0 = 3
  · refine lv_tableIn (tgt := 47) hx hb dX5_count_1 (by rw [h_4]; decide) (by rw [h_4]; decide) (by rw [h_4]; rfl) (by decide) ?_
    refine lv_aload_n hx hb dX5_count_47 rfl (lv_at hl 0 rfl) ?_
    refine va_get (D := (dC, dI)) (ci := 4) (v := .ref se) (C := RX5) (T := TX5) (N := 11) hx hb hts (by decide +kernel) hown hK hP 0 rfl rfl 7 (by decide) (hts (.fieldLink RX5 29 "DayBench" "search" "LDayBench$Search;") (by decide +kernel)) (fun _ h9 => h9) rfl dX5_count_48 ?_
    refine va_get (D := (dC, dI)) (ci := 1) (v := .int 0) (C := RX2) (T := TX2) (N := 14) hx hb hts (by decide +kernel) hown hK hP 1 rfl rfl 2 (by decide) (hts (.fieldLink RX5 222 "DayBench$Search" "looks" "I") (by decide +kernel)) (fun _ h9 => h9) rfl dX5_count_51 ?_
    exact W.iret (v := 0) hx hb hr (fun t ht hW => ⟨_, rfl, by rw [if_neg h_1, if_neg h_2, if_neg h_3, if_pos h_4], ht⟩) (fun _ h => by cases h) dX5_count_54
  refine lv_tableOut (tgt := 55) hx hb dX5_count_1 (sw_out4 h_1 h_2 h_3 h_4) (by decide) ?_
  refine lv_iconst (v := (-1)) hx hb dX5_count_55 (by decide) ?_
  exact W.iret (v := (-1)) hx hb hr (fun t ht hW => ⟨_, rfl, by rw [if_neg h_1, if_neg h_2, if_neg h_3, if_neg h_4], ht⟩) (fun _ h => by cases h) dX5_count_56

set_option maxHeartbeats 4000000 in
set_option maxRecDepth 100000 in
theorem k_X5_event (l : Launch) (dC : Nat → ClassId) (dI : Nat → Nat → Nat) (sz : Nat) (h0 : Nat) (kc : Nat) (kf : Nat) (kt : Nat) (sy : Nat) (se : Nat) (sl : Nat) (hf : Nat) (hh : Nat)  : Met l yX5_event wsX5_event ({ frames := 0, cells := 0, slots := 0, locals := 0 }) (va_Pc [.ref h0] (wPre dC dI sz [(h0, .inr (4, [.ref kc, .ref kf, .ref kt, .int 0, .int 0, .ref sy, .int 0, .ref se, .ref sl, .ref hf, .ref hh]))] [])) (va_Qi (fun (r : Int32) (u : Unit) => r = 0) (fun (u : Unit) t => wPost dC dI (va_A [(h0, .inr (4, [.ref kc, .ref kf, .ref kt, .int 0, .int 0, .ref sy, .int 0, .ref se, .ref sl, .ref hf, .ref hh]))] sz) [] t) (va_A [(h0, .inr (4, [.ref kc, .ref kf, .ref kt, .int 0, .int 0, .ref sy, .int 0, .ref se, .ref sl, .ref hf, .ref hh]))] sz)) 0 0 (va_A [(h0, .inr (4, [.ref kc, .ref kf, .ref kt, .int 0, .int 0, .ref sy, .int 0, .ref se, .ref sl, .ref hf, .ref hh]))] sz) := by
  refine Met.ofW (cc := cX5_event) (maxL := 1) (ret := (some .int)) (by decide) rfl ?_
  intro p e s m args below meth c s₁ B hml hv
  obtain ⟨rfl, hsz, hP, hK, hD0⟩ := hv
  have hx := B.exec
  have hb := B.bytes
  have hr := B.returns
  have hts := atoms_spec (ws := wsX5_event) B.pre
  have hown : s.vm.findClass RX5 = some m.cls := findClass_of_methodNamed B.named
  have hlocks := B.notSynchronized
  subst hsz
  have hD := hD0.self (sz := s.heap.size)
  generalize hAe : va_A [(h0, .inr (4, [.ref kc, .ref kf, .ref kt, .int 0, .int 0, .ref sy, .int 0, .ref se, .ref sl, .ref hf, .ref hh]))] s.heap.size = A at hD ⊢
  have hA : ∀ q : Nat, s.heap.size ≤ q → A q := fun q h => by rw [← hAe]; exact Or.inr h
  have hS : va_S A s.heap s.heap [] := va_S.rf
  have hP : va_P (dC, dI) vwCl [(h0, .inr (4, [.ref kc, .ref kf, .ref kt, .int 0, .int 0, .ref sy, .int 0, .ref se, .ref sl, .ref hf, .ref hh]))] s.heap := hP
  have hl := lv_entry ([.ref h0]) (n := 1) (Nat.le_of_ble_eq_true rfl)
  rw [lg_entry_eq]
  generalize (lg_sl ([.ref h0]) ++ List.replicate (1 - (lg_sl ([.ref h0])).length) Slot.unset).toArray = ls at hl ⊢
  have hl : lv_has ls 1 [(0, .ref h0)] := hl
  refine lv_aload_n hx hb dX5_event_0 rfl (lv_at hl 0 rfl) ?_
  refine va_get (D := (dC, dI)) (ci := 4) (v := .int 0) (C := RX5) (T := TX5) (N := 11) hx hb hts (by decide +kernel) hown hK hP 0 rfl rfl 4 (by decide) (hts (.fieldLink RX5 71 "DayBench" "events" "I") (by decide +kernel)) (fun _ h9 => h9) rfl dX5_event_1 ?_
  refine lv_bipush (v := 6) hx hb dX5_event_4 (by decide) ?_
  refine lv_icmp_lt (tgt := 11) hx hb dX5_event_6 (by decide) (fun h_1 => ?_) (fun h_1 => ?_)
  · refine lv_aload_n hx hb dX5_event_11 rfl (lv_at hl 0 rfl) ?_
    refine lv_dup hx hb dX5_event_12 rfl ?_
    refine va_get (D := (dC, dI)) (ci := 4) (v := .int 0) (C := RX5) (T := TX5) (N := 11) hx hb hts (by decide +kernel) hown hK hP 0 rfl rfl 4 (by decide) (hts (.fieldLink RX5 71 "DayBench" "events" "I") (by decide +kernel)) (fun _ h9 => h9) rfl dX5_event_13 ?_
    refine lv_iconst (v := 1) hx hb dX5_event_16 (by decide) ?_
    refine lv_iadd hx hb dX5_event_17 ?_
    refine lv_topi (fun x_2 ex_2 => ?_)
    have ex_2 : x_2 = 1 := ex_2.trans (by decide)
    subst ex_2
    refine va_put (D := (dC, dI)) (ci := 4) (v := .int 1) (ty := .int) (C := RX5) (T := TX5) (N := 11) hx hb hts (by decide +kernel) tyX5 tyX5_ok nmX5 hown hK hP hD hS 0 rfl rfl 4 (by decide) (hts (.fieldLink RX5 71 "DayBench" "events" "I") (by decide +kernel)) (fun _ h9 => h9) rfl (by decide +kernel) rfl rfl (Nat.le_of_ble_eq_true rfl) dX5_event_18 (fun H locs hP hD hS => ?_)
    have hP : va_P (dC, dI) vwCl [(h0, .inr (4, [.ref kc, .ref kf, .ref kt, .int 0, .int 1, .ref sy, .int 0, .ref se, .ref sl, .ref hf, .ref hh]))] H := hP
    have hD : va_D A [(h0, .inr (4, [.ref kc, .ref kf, .ref kt, .int 0, .int 1, .ref sy, .int 0, .ref se, .ref sl, .ref hf, .ref hh]))] := hD
    refine lv_aload_n hx hb dX5_event_21 rfl (lv_at hl 0 rfl) ?_
    refine va_get (D := (dC, dI)) (ci := 4) (v := .int 1) (C := RX5) (T := TX5) (N := 11) hx hb hts (by decide +kernel) hown hK hP 0 rfl rfl 4 (by decide) (hts (.fieldLink RX5 71 "DayBench" "events" "I") (by decide +kernel)) (fun _ h9 => h9) rfl dX5_event_22 ?_
    refine lv_iconst (v := 1) hx hb dX5_event_25 (by decide) ?_
    refine lv_isub hx hb dX5_event_26 ?_
    refine lv_topi (fun x_3 ex_3 => ?_)
    have ex_3 : x_3 = 0 := ex_3.trans (by decide)
    subst ex_3
    have hP9 := hP.sub (ws' := []) [] rfl
    have hD9 := hD.sub (ws' := []) [] (by decide) rfl
    exact W.iret (v := 0) hx hb hr (fun t ht hW => ⟨⟨_, (), rfl, rfl, by rw [ht]; exact hP9, hD9⟩, hS.F ht⟩) hS.2.2 dX5_event_27
  · exact (by first | exact absurd h_1 (by decide) | exact absurd (by decide) h_1)

set_option maxHeartbeats 4000000 in
set_option maxRecDepth 100000 in
theorem k_X5_king (l : Launch) (dC : Nat → ClassId) (dI : Nat → Nat → Nat) (sz : Nat) (h0 : Nat) (kc : Nat) (kf : Nat) (kt : Nat) (sy : Nat) (se : Nat) (sl : Nat) (hf : Nat) (hh : Nat) (cI : ClassId) (f1 : Nat → Int32) (f2 : Nat → Int32) (f3 : Nat → Int32) (p0 : Int32) (p1 : Int32) (p2 : Int32)  : Met l yX5_king wsX5_king ({ frames := 2, cells := 0, slots := 0, locals := 41 }) (va_Pc [.ref h0, .int p0, .int p1, .int p2] (wPre dC dI sz [(h0, .inr (4, [.ref kc, .ref kf, .ref kt, .int 0, .int 0, .ref sy, .int 0, .ref se, .ref sl, .ref hf, .ref hh])), (kc, .inl (cI, 6, .inl f1)), (kf, .inl (cI, 6, .inl f2)), (kt, .inl (cI, 6, .inl f3))] [(cI, .int)])) (va_Qi (fun (r : Int32) (u : Unit) => r = if f_X0_isCalendar p0 = 0 then (-1) else (if f_X5_isRowOfDays p1 p2 = 0 then (-1) else 0)) (fun (u : Unit) t => wPost dC dI (va_A [(h0, .inr (4, [.ref kc, .ref kf, .ref kt, .int 0, .int 0, .ref sy, .int 0, .ref se, .ref sl, .ref hf, .ref hh])), (kc, .inl (cI, 6, .inl f1)), (kf, .inl (cI, 6, .inl f2)), (kt, .inl (cI, 6, .inl f3))] sz) [] t) (va_A [(h0, .inr (4, [.ref kc, .ref kf, .ref kt, .int 0, .int 0, .ref sy, .int 0, .ref se, .ref sl, .ref hf, .ref hh])), (kc, .inl (cI, 6, .inl f1)), (kf, .inl (cI, 6, .inl f2)), (kt, .inl (cI, 6, .inl f3))] sz)) 0 0 (va_A [(h0, .inr (4, [.ref kc, .ref kf, .ref kt, .int 0, .int 0, .ref sy, .int 0, .ref se, .ref sl, .ref hf, .ref hh])), (kc, .inl (cI, 6, .inl f1)), (kf, .inl (cI, 6, .inl f2)), (kt, .inl (cI, 6, .inl f3))] sz) := by
  refine Met.ofW (cc := cX5_king) (maxL := 4) (ret := (some .int)) (by decide) rfl ?_
  intro p e s m args below meth c s₁ B hml hv
  obtain ⟨rfl, hsz, hP, hK, hD0⟩ := hv
  have hx := B.exec
  have hb := B.bytes
  have hr := B.returns
  have hts := atoms_spec (ws := wsX5_king) B.pre
  have hown : s.vm.findClass RX5 = some m.cls := findClass_of_methodNamed B.named
  have hlocks := B.notSynchronized
  subst hsz
  have hD := hD0.self (sz := s.heap.size)
  generalize hAe : va_A [(h0, .inr (4, [.ref kc, .ref kf, .ref kt, .int 0, .int 0, .ref sy, .int 0, .ref se, .ref sl, .ref hf, .ref hh])), (kc, .inl (cI, 6, .inl f1)), (kf, .inl (cI, 6, .inl f2)), (kt, .inl (cI, 6, .inl f3))] s.heap.size = A at hD ⊢
  have hA : ∀ q : Nat, s.heap.size ≤ q → A q := fun q h => by rw [← hAe]; exact Or.inr h
  have hS : va_S A s.heap s.heap [] := va_S.rf
  have hP : va_P (dC, dI) vwCl [(h0, .inr (4, [.ref kc, .ref kf, .ref kt, .int 0, .int 0, .ref sy, .int 0, .ref se, .ref sl, .ref hf, .ref hh])), (kc, .inl (cI, 6, .inl f1)), (kf, .inl (cI, 6, .inl f2)), (kt, .inl (cI, 6, .inl f3))] s.heap := hP
  have hl := lv_entry ([.ref h0, .int p0, .int p1, .int p2]) (n := 4) (Nat.le_of_ble_eq_true rfl)
  rw [lg_entry_eq]
  generalize (lg_sl ([.ref h0, .int p0, .int p1, .int p2]) ++ List.replicate (4 - (lg_sl ([.ref h0, .int p0, .int p1, .int p2])).length) Slot.unset).toArray = ls at hl ⊢
  have hl : lv_has ls 4 [(0, .ref h0), (1, .int p0), (2, .int p1), (3, .int p2)] := hl
  refine lv_aload_n hx hb dX5_king_0 rfl (lv_at hl 0 rfl) ?_
  refine va_get (D := (dC, dI)) (ci := 4) (v := .int 0) (C := RX5) (T := TX5) (N := 11) hx hb hts (by decide +kernel) hown hK hP 0 rfl rfl 3 (by decide) (hts (.fieldLink RX5 59 "DayBench" "kings" "I") (by decide +kernel)) (fun _ h9 => h9) rfl dX5_king_1 ?_
  refine lv_bipush (v := 6) hx hb dX5_king_4 (by decide) ?_
  refine lv_icmp_ge (tgt := 24) hx hb dX5_king_6 (by decide) (fun h_1 => ?_) (fun h_1 => ?_)
  · exact (by first | exact absurd h_1 (by decide) | exact absurd (by decide) h_1)
  · refine lv_iload_n hx hb dX5_king_9 rfl (lv_at hl 1 rfl) ?_
    refine vp_callSi (va_Run.run (va_runS (As := [.int p0]) (rest := []) ⟨hx, hb, hml, hown, hts⟩ (k_X0_isCalendar l p0) (va_cwS 1 hts gX5_king_X0_isCalendar rfl rfl rfl (by decide +kernel) ⟨Nat.le_of_ble_eq_true rfl, Nat.le_of_ble_eq_true rfl⟩) ⟨fun _ _ _ _ q => q, fun _ _ _ => ⟨rfl, trivial⟩⟩ rfl rfl hl.1 rfl (lv_room (Nat.le_of_ble_eq_true rfl)) dX5_king_10 ⟨Nat.le_of_ble_eq_true rfl, Nat.le_of_ble_eq_true rfl⟩)) (fun r_2 er_2 => ?_)
    subst er_2
    refine lv_if_eq (tgt := 24) hx hb dX5_king_13 (by decide) (fun h_3 => ?_) (fun h_3 => ?_)
    · refine lv_iconst (v := (-1)) hx hb dX5_king_24 (by decide) ?_
      have hP9 := hP.sub (ws' := []) [] rfl
      have hD9 := hD.sub (ws' := []) [] (by decide) rfl
      exact W.iret (v := (-1)) hx hb hr (fun t ht hW => ⟨⟨_, (), rfl, by rw [if_pos h_3], by rw [ht]; exact hP9, hD9⟩, hS.F ht⟩) hS.2.2 dX5_king_25
    · refine lv_iload_n hx hb dX5_king_16 rfl (lv_at hl 2 rfl) ?_
      refine lv_iload_n hx hb dX5_king_17 rfl (lv_at hl 3 rfl) ?_
      refine vp_callSi (va_Run.run (va_runS (As := [.int p1, .int p2]) (rest := []) ⟨hx, hb, hml, hown, hts⟩ (k_X5_isRowOfDays l p1 p2) (va_cwS 2 hts gX5_king_X5_isRowOfDays rfl rfl rfl (by decide +kernel) ⟨Nat.le_of_ble_eq_true rfl, Nat.le_of_ble_eq_true rfl⟩) ⟨fun _ _ _ _ q => q, fun _ _ _ => ⟨rfl, trivial⟩⟩ rfl rfl hl.1 rfl (lv_room (Nat.le_of_ble_eq_true rfl)) dX5_king_18 ⟨Nat.le_of_ble_eq_true rfl, Nat.le_of_ble_eq_true rfl⟩)) (fun r_4 er_4 => ?_)
      subst er_4
      refine lv_if_ne (tgt := 26) hx hb dX5_king_21 (by decide) (fun h_5 => ?_) (fun h_5 => ?_)
      · refine lv_aload_n hx hb dX5_king_26 rfl (lv_at hl 0 rfl) ?_
        refine va_get (D := (dC, dI)) (ci := 4) (v := .ref kc) (C := RX5) (T := TX5) (N := 11) hx hb hts (by decide +kernel) hown hK hP 0 rfl rfl 0 (by decide) (hts (.fieldLink RX5 9 "DayBench" "kingCalendar" "[I") (by decide +kernel)) (fun _ h9 => h9) rfl dX5_king_27 ?_
        refine lv_aload_n hx hb dX5_king_30 rfl (lv_at hl 0 rfl) ?_
        refine va_get (D := (dC, dI)) (ci := 4) (v := .int 0) (C := RX5) (T := TX5) (N := 11) hx hb hts (by decide +kernel) hown hK hP 0 rfl rfl 3 (by decide) (hts (.fieldLink RX5 59 "DayBench" "kings" "I") (by decide +kernel)) (fun _ h9 => h9) rfl dX5_king_31 ?_
        refine lv_iload_n hx hb dX5_king_34 rfl (lv_at hl 1 rfl) ?_
        refine va_iast hx hb hK hP hD hS 1 0 rfl rfl (by unfold vp_in; decide) dX5_king_35 (fun H locs hP hD hS => ?_)
        have hP : va_P (dC, dI) vwCl [(h0, .inr (4, [.ref kc, .ref kf, .ref kt, .int 0, .int 0, .ref sy, .int 0, .ref se, .ref sl, .ref hf, .ref hh])), (kc, .inl (cI, 6, .inl (upd f1 (0 : Int32).toNatClampNeg p0))), (kf, .inl (cI, 6, .inl f2)), (kt, .inl (cI, 6, .inl f3))] H := hP
        have hD : va_D A [(h0, .inr (4, [.ref kc, .ref kf, .ref kt, .int 0, .int 0, .ref sy, .int 0, .ref se, .ref sl, .ref hf, .ref hh])), (kc, .inl (cI, 6, .inl (upd f1 (0 : Int32).toNatClampNeg p0))), (kf, .inl (cI, 6, .inl f2)), (kt, .inl (cI, 6, .inl f3))] := hD
        refine lv_aload_n hx hb dX5_king_36 rfl (lv_at hl 0 rfl) ?_
        refine va_get (D := (dC, dI)) (ci := 4) (v := .ref kf) (C := RX5) (T := TX5) (N := 11) hx hb hts (by decide +kernel) hown hK hP 0 rfl rfl 1 (by decide) (hts (.fieldLink RX5 13 "DayBench" "kingFrom" "[I") (by decide +kernel)) (fun _ h9 => h9) rfl dX5_king_37 ?_
        refine lv_aload_n hx hb dX5_king_40 rfl (lv_at hl 0 rfl) ?_
        refine va_get (D := (dC, dI)) (ci := 4) (v := .int 0) (C := RX5) (T := TX5) (N := 11) hx hb hts (by decide +kernel) hown hK hP 0 rfl rfl 3 (by decide) (hts (.fieldLink RX5 59 "DayBench" "kings" "I") (by decide +kernel)) (fun _ h9 => h9) rfl dX5_king_41 ?_
        refine lv_iload_n hx hb dX5_king_44 rfl (lv_at hl 2 rfl) ?_
        refine va_iast hx hb hK hP hD hS 2 0 rfl rfl (by unfold vp_in; decide) dX5_king_45 (fun H locs hP hD hS => ?_)
        have hP : va_P (dC, dI) vwCl [(h0, .inr (4, [.ref kc, .ref kf, .ref kt, .int 0, .int 0, .ref sy, .int 0, .ref se, .ref sl, .ref hf, .ref hh])), (kc, .inl (cI, 6, .inl (upd f1 (0 : Int32).toNatClampNeg p0))), (kf, .inl (cI, 6, .inl (upd f2 (0 : Int32).toNatClampNeg p1))), (kt, .inl (cI, 6, .inl f3))] H := hP
        have hD : va_D A [(h0, .inr (4, [.ref kc, .ref kf, .ref kt, .int 0, .int 0, .ref sy, .int 0, .ref se, .ref sl, .ref hf, .ref hh])), (kc, .inl (cI, 6, .inl (upd f1 (0 : Int32).toNatClampNeg p0))), (kf, .inl (cI, 6, .inl (upd f2 (0 : Int32).toNatClampNeg p1))), (kt, .inl (cI, 6, .inl f3))] := hD
        refine lv_aload_n hx hb dX5_king_46 rfl (lv_at hl 0 rfl) ?_
        refine va_get (D := (dC, dI)) (ci := 4) (v := .ref kt) (C := RX5) (T := TX5) (N := 11) hx hb hts (by decide +kernel) hown hK hP 0 rfl rfl 2 (by decide) (hts (.fieldLink RX5 16 "DayBench" "kingTo" "[I") (by decide +kernel)) (fun _ h9 => h9) rfl dX5_king_47 ?_
        refine lv_aload_n hx hb dX5_king_50 rfl (lv_at hl 0 rfl) ?_
        refine va_get (D := (dC, dI)) (ci := 4) (v := .int 0) (C := RX5) (T := TX5) (N := 11) hx hb hts (by decide +kernel) hown hK hP 0 rfl rfl 3 (by decide) (hts (.fieldLink RX5 59 "DayBench" "kings" "I") (by decide +kernel)) (fun _ h9 => h9) rfl dX5_king_51 ?_
        refine lv_iload_n hx hb dX5_king_54 rfl (lv_at hl 3 rfl) ?_
        refine va_iast hx hb hK hP hD hS 3 0 rfl rfl (by unfold vp_in; decide) dX5_king_55 (fun H locs hP hD hS => ?_)
        have hP : va_P (dC, dI) vwCl [(h0, .inr (4, [.ref kc, .ref kf, .ref kt, .int 0, .int 0, .ref sy, .int 0, .ref se, .ref sl, .ref hf, .ref hh])), (kc, .inl (cI, 6, .inl (upd f1 (0 : Int32).toNatClampNeg p0))), (kf, .inl (cI, 6, .inl (upd f2 (0 : Int32).toNatClampNeg p1))), (kt, .inl (cI, 6, .inl (upd f3 (0 : Int32).toNatClampNeg p2)))] H := hP
        have hD : va_D A [(h0, .inr (4, [.ref kc, .ref kf, .ref kt, .int 0, .int 0, .ref sy, .int 0, .ref se, .ref sl, .ref hf, .ref hh])), (kc, .inl (cI, 6, .inl (upd f1 (0 : Int32).toNatClampNeg p0))), (kf, .inl (cI, 6, .inl (upd f2 (0 : Int32).toNatClampNeg p1))), (kt, .inl (cI, 6, .inl (upd f3 (0 : Int32).toNatClampNeg p2)))] := hD
        refine lv_aload_n hx hb dX5_king_56 rfl (lv_at hl 0 rfl) ?_
        refine lv_dup hx hb dX5_king_57 rfl ?_
        refine va_get (D := (dC, dI)) (ci := 4) (v := .int 0) (C := RX5) (T := TX5) (N := 11) hx hb hts (by decide +kernel) hown hK hP 0 rfl rfl 3 (by decide) (hts (.fieldLink RX5 59 "DayBench" "kings" "I") (by decide +kernel)) (fun _ h9 => h9) rfl dX5_king_58 ?_
        refine lv_iconst (v := 1) hx hb dX5_king_61 (by decide) ?_
        refine lv_iadd hx hb dX5_king_62 ?_
        refine lv_topi (fun x_6 ex_6 => ?_)
        have ex_6 : x_6 = 1 := ex_6.trans (by decide)
        subst ex_6
        refine va_put (D := (dC, dI)) (ci := 4) (v := .int 1) (ty := .int) (C := RX5) (T := TX5) (N := 11) hx hb hts (by decide +kernel) tyX5 tyX5_ok nmX5 hown hK hP hD hS 0 rfl rfl 3 (by decide) (hts (.fieldLink RX5 59 "DayBench" "kings" "I") (by decide +kernel)) (fun _ h9 => h9) rfl (by decide +kernel) rfl rfl (Nat.le_of_ble_eq_true rfl) dX5_king_63 (fun H locs hP hD hS => ?_)
        have hP : va_P (dC, dI) vwCl [(h0, .inr (4, [.ref kc, .ref kf, .ref kt, .int 1, .int 0, .ref sy, .int 0, .ref se, .ref sl, .ref hf, .ref hh])), (kc, .inl (cI, 6, .inl (upd f1 (0 : Int32).toNatClampNeg p0))), (kf, .inl (cI, 6, .inl (upd f2 (0 : Int32).toNatClampNeg p1))), (kt, .inl (cI, 6, .inl (upd f3 (0 : Int32).toNatClampNeg p2)))] H := hP
        have hD : va_D A [(h0, .inr (4, [.ref kc, .ref kf, .ref kt, .int 1, .int 0, .ref sy, .int 0, .ref se, .ref sl, .ref hf, .ref hh])), (kc, .inl (cI, 6, .inl (upd f1 (0 : Int32).toNatClampNeg p0))), (kf, .inl (cI, 6, .inl (upd f2 (0 : Int32).toNatClampNeg p1))), (kt, .inl (cI, 6, .inl (upd f3 (0 : Int32).toNatClampNeg p2)))] := hD
        refine lv_aload_n hx hb dX5_king_66 rfl (lv_at hl 0 rfl) ?_
        refine va_get (D := (dC, dI)) (ci := 4) (v := .int 1) (C := RX5) (T := TX5) (N := 11) hx hb hts (by decide +kernel) hown hK hP 0 rfl rfl 3 (by decide) (hts (.fieldLink RX5 59 "DayBench" "kings" "I") (by decide +kernel)) (fun _ h9 => h9) rfl dX5_king_67 ?_
        refine lv_iconst (v := 1) hx hb dX5_king_70 (by decide) ?_
        refine lv_isub hx hb dX5_king_71 ?_
        refine lv_topi (fun x_7 ex_7 => ?_)
        have ex_7 : x_7 = 0 := ex_7.trans (by decide)
        subst ex_7
        have hP9 := hP.sub (ws' := []) [] rfl
        have hD9 := hD.sub (ws' := []) [] (by decide) rfl
        exact W.iret (v := 0) hx hb hr (fun t ht hW => ⟨⟨_, (), rfl, by rw [if_neg h_3, if_neg h_5], by rw [ht]; exact hP9, hD9⟩, hS.F ht⟩) hS.2.2 dX5_king_72
      · refine lv_iconst (v := (-1)) hx hb dX5_king_24 (by decide) ?_
        have hP9 := hP.sub (ws' := []) [] rfl
        have hD9 := hD.sub (ws' := []) [] (by decide) rfl
        exact W.iret (v := (-1)) hx hb hr (fun t ht hW => ⟨⟨_, (), rfl, by rw [if_neg h_3, if_pos h_5], by rw [ht]; exact hP9, hD9⟩, hS.F ht⟩) hS.2.2 dX5_king_25

