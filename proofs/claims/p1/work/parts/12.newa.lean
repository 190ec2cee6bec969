def wPre (dC : Nat → ClassId) (dI : Nat → Nat → Nat) (sz : Nat) (Ws : va_W) (Ty : List (ClassId × FieldType)) (U : State) : Prop := U.heap.size = sz ∧ va_P (dC, dI) vwCl Ws U.heap ∧ va_K (dC, dI) vwCl Ty U ∧ va_D (fun _ => True) Ws
theorem wPre_blind {dC : Nat → ClassId} {dI : Nat → Nat → Nat} {sz : Nat} {Ws : va_W} {Ty : List (ClassId × FieldType)} {av : List Value} : FrameBlind (va_Pc av (wPre dC dI sz Ws Ty)) := fun a U g mk q => by
  obtain ⟨q0, q1, qP, qK, qD⟩ := q
  exact ⟨q0, q1, qP, va_K.moved (u := U) (U := U.calling g mk a) (Vm.Alike.refl U.vm) qK, qD⟩
theorem wPre_at {dC : Nat → ClassId} {dI : Nat → Nat → Nat} {Ws : va_W} {Ty : List (ClassId × FieldType)} {s U : State} {H : Heap} {A : Nat → Prop} (hP : va_P (dC, dI) vwCl Ws H) (hK : va_K (dC, dI) vwCl Ty s) (hD : va_D A Ws) (hU : U.heap = H) (hW : s.WarmedH U.vm) : wPre dC dI H.size Ws Ty U := ⟨by rw [hU], by rw [hU]; exact hP, va_K.moved hW.alike hK, hD.weaken (fun _ _ _ _ => trivial)⟩
def rPre (dC : Nat → ClassId) (dI : Nat → Nat → Nat) (Ws : va_W) (Ty : List (ClassId × FieldType)) (U : State) : Prop := va_P (dC, dI) vwCl Ws U.heap ∧ va_K (dC, dI) vwCl Ty U
theorem rPre_blind {dC : Nat → ClassId} {dI : Nat → Nat → Nat} {Ws : va_W} {Ty : List (ClassId × FieldType)} {av : List Value} : FrameBlind (va_Pc av (rPre dC dI Ws Ty)) := fun a U g mk q => by
  obtain ⟨q0, qP, qK⟩ := q
  exact ⟨q0, qP, va_K.moved (u := U) (U := U.calling g mk a) (Vm.Alike.refl U.vm) qK⟩
theorem rPre_at {dC : Nat → ClassId} {dI : Nat → Nat → Nat} {Ws : va_W} {Ty : List (ClassId × FieldType)} {s U : State} {H : Heap} (hP : va_P (dC, dI) vwCl Ws H) (hK : va_K (dC, dI) vwCl Ty s) (hU : U.heap = H) (hW : s.WarmedH U.vm) : rPre dC dI Ws Ty U := ⟨by rw [hU]; exact hP, va_K.moved hW.alike hK⟩
def wPost (dC : Nat → ClassId) (dI : Nat → Nat → Nat) (A : Nat → Prop) (Ws : va_W) (t : State) : Prop := va_P (dC, dI) vwCl Ws t.heap ∧ va_D A Ws

theorem nl_le {x : Int32} (h1 : ¬ x < 0) (h2 : ¬ 0 ≤ x) : False := h2 (Int32.not_lt.mp h1)
theorem sw_out4 {x : Int32} (h0 : ¬ x = 0) (h1 : ¬ x = 1) (h2 : ¬ x = 2) (h3 : ¬ x = 3) : x.toInt < 0 ∨ 3 < x.toInt := by
  have a0 := lv_neT (a := 0) h0 rfl
  have a1 := lv_neT (a := 1) h1 rfl
  have a2 := lv_neT (a := 2) h2 rfl
  have a3 := lv_neT (a := 3) h3 rfl
  omega
theorem sh_0 (x : Int32) : ((0 : Int32) >>> (x &&& 31)) &&& 1 = 0 := by
  have e : (0 : Int32) >>> (x &&& 31) = 0 := by
    apply Int32.toBitVec_inj.mp
    simp
  rw [e]
  rfl

set_option maxHeartbeats 4000000 in
set_option maxRecDepth 100000 in
theorem k_X5_isEvent (l : Launch) (dC : Nat → ClassId) (dI : Nat → Nat → Nat) (h0 : Nat) (kc : Nat) (kf : Nat) (kt : Nat) (sy : Nat) (se : Nat) (sl : Nat) (hf : Nat) (hh : Nat) (p0 : Int32)  : Met l yX5_isEvent wsX5_isEvent ({ frames := 0, cells := 0, slots := 0, locals := 0 }) (va_Pc [.ref h0, .int p0] (rPre dC dI [(h0, .inr (4, [.ref kc, .ref kf, .ref kt, .int 0, .int 0, .ref sy, .int 0, .ref se, .ref sl, .ref hf, .ref hh]))] [])) (vp_Si (fun r => r = 0)) 0 0 (fun _ => False) := by
  refine Met.ofW (cc := cX5_isEvent) (maxL := 2) (ret := (some .boolean)) (by decide) rfl ?_
  intro p e s m args below meth c s₁ B hml hv
  obtain ⟨rfl, hP, hK⟩ := hv
  have hx := B.exec
  have hb := B.bytes
  have hr := B.returns
  have hts := atoms_spec (ws := wsX5_isEvent) B.pre
  have hown : s.vm.findClass RX5 = some m.cls := findClass_of_methodNamed B.named
  have hlocks := B.notSynchronized
  have hl := lv_entry ([.ref h0, .int p0]) (n := 2) (Nat.le_of_ble_eq_true rfl)
  rw [lg_entry_eq]
  generalize (lg_sl ([.ref h0, .int p0]) ++ List.replicate (2 - (lg_sl ([.ref h0, .int p0])).length) Slot.unset).toArray = ls at hl ⊢
  have hl : lv_has ls 2 [(0, .ref h0), (1, .int p0)] := hl
  refine lv_iload_n hx hb dX5_isEvent_0 rfl (lv_at hl 1 rfl) ?_
  refine lv_if_lt (tgt := 16) hx hb dX5_isEvent_1 (by decide) (fun h_1 => ?_) (fun h_1 => ?_)
  · refine lv_iconst (v := 0) hx hb dX5_isEvent_16 (by decide) ?_
    exact W.zret (v := 0) hx hb hr rfl (fun t ht hW => ⟨_, rfl, rfl, ht⟩) (fun _ h => by cases h) dX5_isEvent_17
  · refine lv_iload_n hx hb dX5_isEvent_4 rfl (lv_at hl 1 rfl) ?_
    refine lv_aload_n hx hb dX5_isEvent_5 rfl (lv_at hl 0 rfl) ?_
    refine va_get (D := (dC, dI)) (ci := 4) (v := .int 0) (C := RX5) (T := TX5) (N := 11) hx hb hts (by decide +kernel) hown hK hP 0 rfl rfl 4 (by decide) (hts (.fieldLink RX5 71 "DayBench" "events" "I") (by decide +kernel)) (fun _ h9 => h9) rfl dX5_isEvent_6 ?_
    refine lv_icmp_ge (tgt := 16) hx hb dX5_isEvent_9 (by decide) (fun h_2 => ?_) (fun h_2 => ?_)
    · refine lv_iconst (v := 0) hx hb dX5_isEvent_16 (by decide) ?_
      exact W.zret (v := 0) hx hb hr rfl (fun t ht hW => ⟨_, rfl, rfl, ht⟩) (fun _ h => by cases h) dX5_isEvent_17
    · exact (nl_le h_1 h_2).elim

set_option maxHeartbeats 4000000 in
set_option maxRecDepth 100000 in
theorem k_X5_isSaying (l : Launch) (dC : Nat → ClassId) (dI : Nat → Nat → Nat) (h0 : Nat) (kc : Nat) (kf : Nat) (kt : Nat) (sy : Nat) (se : Nat) (sl : Nat) (hf : Nat) (hh : Nat) (p0 : Int32)  : Met l yX5_isSaying wsX5_isSaying ({ frames := 0, cells := 0, slots := 0, locals := 0 }) (va_Pc [.ref h0, .int p0] (rPre dC dI [(h0, .inr (4, [.ref kc, .ref kf, .ref kt, .int 0, .int 0, .ref sy, .int 0, .ref se, .ref sl, .ref hf, .ref hh]))] [])) (vp_Si (fun r => r = 0)) 0 0 (fun _ => False) := by
  refine Met.ofW (cc := cX5_isSaying) (maxL := 2) (ret := (some .boolean)) (by decide) rfl ?_
  intro p e s m args below meth c s₁ B hml hv
  obtain ⟨rfl, hP, hK⟩ := hv
  have hx := B.exec
  have hb := B.bytes
  have hr := B.returns
  have hts := atoms_spec (ws := wsX5_isSaying) B.pre
  have hown : s.vm.findClass RX5 = some m.cls := findClass_of_methodNamed B.named
  have hlocks := B.notSynchronized
  have hl := lv_entry ([.ref h0, .int p0]) (n := 2) (Nat.le_of_ble_eq_true rfl)
  rw [lg_entry_eq]
  generalize (lg_sl ([.ref h0, .int p0]) ++ List.replicate (2 - (lg_sl ([.ref h0, .int p0])).length) Slot.unset).toArray = ls at hl ⊢
  have hl : lv_has ls 2 [(0, .ref h0), (1, .int p0)] := hl
  refine lv_iload_n hx hb dX5_isSaying_0 rfl (lv_at hl 1 rfl) ?_
  refine lv_if_lt (tgt := 16) hx hb dX5_isSaying_1 (by decide) (fun h_1 => ?_) (fun h_1 => ?_)
  · refine lv_iconst (v := 0) hx hb dX5_isSaying_16 (by decide) ?_
    exact W.zret (v := 0) hx hb hr rfl (fun t ht hW => ⟨_, rfl, rfl, ht⟩) (fun _ h => by cases h) dX5_isSaying_17
  · refine lv_iload_n hx hb dX5_isSaying_4 rfl (lv_at hl 1 rfl) ?_
    refine lv_aload_n hx hb dX5_isSaying_5 rfl (lv_at hl 0 rfl) ?_
    refine va_get (D := (dC, dI)) (ci := 4) (v := .int 0) (C := RX5) (T := TX5) (N := 11) hx hb hts (by decide +kernel) hown hK hP 0 rfl rfl 6 (by decide) (hts (.fieldLink RX5 74 "DayBench" "sayingsMade" "I") (by decide +kernel)) (fun _ h9 => h9) rfl dX5_isSaying_6 ?_
    refine lv_icmp_ge (tgt := 16) hx hb dX5_isSaying_9 (by decide) (fun h_2 => ?_) (fun h_2 => ?_)
    · refine lv_iconst (v := 0) hx hb dX5_isSaying_16 (by decide) ?_
      exact W.zret (v := 0) hx hb hr rfl (fun t ht hW => ⟨_, rfl, rfl, ht⟩) (fun _ h => by cases h) dX5_isSaying_17
    · exact (nl_le h_1 h_2).elim

set_option maxHeartbeats 4000000 in
set_option maxRecDepth 100000 in
theorem k_X5_say (l : Launch) (dC : Nat → ClassId) (dI : Nat → Nat → Nat) (h0 : Nat) (kc : Nat) (kf : Nat) (kt : Nat) (sy : Nat) (se : Nat) (sl : Nat) (hf : Nat) (hh : Nat) (p0 : Int32) (p1 : Int32) (p2 : Int32) (p3 : Int32) (p4 : Int32) (p5 : Int32)  : Met l yX5_say wsX5_say ({ frames := 1, cells := 0, slots := 0, locals := 21 }) (va_Pc [.ref h0, .int p0, .int p1, .int p2, .int p3, .int p4, .int p5] (rPre dC dI [(h0, .inr (4, [.ref kc, .ref kf, .ref kt, .int 0, .int 0, .ref sy, .int 0, .ref se, .ref sl, .ref hf, .ref hh]))] [])) (vp_Si (fun r => r = (-1))) 0 0 (fun _ => False) := by
  refine Met.ofW (cc := cX5_say) (maxL := 8) (ret := (some .int)) (by decide) rfl ?_
  intro p e s m args below meth c s₁ B hml hv
  obtain ⟨rfl, hP, hK⟩ := hv
  have hx := B.exec
  have hb := B.bytes
  have hr := B.returns
  have hts := atoms_spec (ws := wsX5_say) B.pre
  have hown : s.vm.findClass RX5 = some m.cls := findClass_of_methodNamed B.named
  have hlocks := B.notSynchronized
  have hl := lv_entry ([.ref h0, .int p0, .int p1, .int p2, .int p3, .int p4, .int p5]) (n := 8) (Nat.le_of_ble_eq_true rfl)
  rw [lg_entry_eq]
  generalize (lg_sl ([.ref h0, .int p0, .int p1, .int p2, .int p3, .int p4, .int p5]) ++ List.replicate (8 - (lg_sl ([.ref h0, .int p0, .int p1, .int p2, .int p3, .int p4, .int p5])).length) Slot.unset).toArray = ls at hl ⊢
  have hl : lv_has ls 8 [(0, .ref h0), (1, .int p0), (2, .int p1), (3, .int p2), (4, .int p3), (5, .int p4), (6, .int p5)] := hl
  refine lv_aload_n hx hb dX5_say_0 rfl (lv_at hl 0 rfl) ?_
  refine va_get (D := (dC, dI)) (ci := 4) (v := .int 0) (C := RX5) (T := TX5) (N := 11) hx hb hts (by decide +kernel) hown hK hP 0 rfl rfl 6 (by decide) (hts (.fieldLink RX5 74 "DayBench" "sayingsMade" "I") (by decide +kernel)) (fun _ h9 => h9) rfl dX5_say_1 ?_
  refine lv_bipush (v := 12) hx hb dX5_say_4 (by decide) ?_
  refine lv_icmp_ge (tgt := 30) hx hb dX5_say_6 (by decide) (fun h_1 => ?_) (fun h_1 => ?_)
  · exact (by first | exact absurd h_1 (by decide) | exact absurd (by decide) h_1)
  · refine lv_aload_n hx hb dX5_say_9 rfl (lv_at hl 0 rfl) ?_
    refine lv_iload_n hx hb dX5_say_10 rfl (lv_at hl 1 rfl) ?_
    have hPc := hP.sub (ws' := [(h0, .inr (4, [.ref kc, .ref kf, .ref kt, .int 0, .int 0, .ref sy, .int 0, .ref se, .ref sl, .ref hf, .ref hh]))]) [0] rfl
    have hKc := hK.sub (tys' := []) [] rfl
    refine vp_callSi (va_Run.run (va_runV (As := [.int p0]) (rest := []) ⟨hx, hb, hml, hown, hts⟩ (k_X5_isEvent l dC dI h0 kc kf kt sy se sl hf hh p0) (cwV 1 hts gX5_say_X5_isEvent rfl rfl rfl (by decide +kernel) ⟨Nat.le_of_ble_eq_true rfl, Nat.le_of_ble_eq_true rfl⟩) ⟨rPre_blind, va_recv hKc hPc (ci := 4) (q0 := 0) rfl rfl, fun U hU hW => ⟨rfl, rPre_at hPc hKc hU hW⟩⟩ rfl rfl hl.1 rfl (lv_room (Nat.le_of_ble_eq_true rfl)) dX5_say_11 ⟨Nat.le_of_ble_eq_true rfl, Nat.le_of_ble_eq_true rfl⟩)) (fun r_2 er_2 => ?_)
    subst er_2
    refine lv_if_eq (tgt := 30) hx hb dX5_say_14 (by decide) (fun h_3 => ?_) (fun h_3 => ?_)
    · refine lv_iconst (v := (-1)) hx hb dX5_say_30 (by decide) ?_
      exact W.iret (v := (-1)) hx hb hr (fun t ht hW => ⟨_, rfl, rfl, ht⟩) (fun _ h => by cases h) dX5_say_31
    · exact (by first | exact absurd h_3 (by decide) | exact absurd (by decide) h_3)

set_option maxHeartbeats 4000000 in
set_option maxRecDepth 100000 in
theorem k_X5_copy (l : Launch) (dC : Nat → ClassId) (dI : Nat → Nat → Nat) (h0 : Nat) (kc : Nat) (kf : Nat) (kt : Nat) (sy : Nat) (se : Nat) (sl : Nat) (hf : Nat) (hh : Nat) (p0 : Int32) (p1 : Int32)  : Met l yX5_copy wsX5_copy ({ frames := 1, cells := 0, slots := 0, locals := 21 }) (va_Pc [.ref h0, .int p0, .int p1] (rPre dC dI [(h0, .inr (4, [.ref kc, .ref kf, .ref kt, .int 0, .int 0, .ref sy, .int 0, .ref se, .ref sl, .ref hf, .ref hh]))] [])) (vp_Si (fun r => r = 0)) 0 0 (fun _ => False) := by
  refine Met.ofW (cc := cX5_copy) (maxL := 3) (ret := (some .boolean)) (by decide) rfl ?_
  intro p e s m args below meth c s₁ B hml hv
  obtain ⟨rfl, hP, hK⟩ := hv
  have hx := B.exec
  have hb := B.bytes
  have hr := B.returns
  have hts := atoms_spec (ws := wsX5_copy) B.pre
  have hown : s.vm.findClass RX5 = some m.cls := findClass_of_methodNamed B.named
  have hlocks := B.notSynchronized
  have hl := lv_entry ([.ref h0, .int p0, .int p1]) (n := 3) (Nat.le_of_ble_eq_true rfl)
  rw [lg_entry_eq]
  generalize (lg_sl ([.ref h0, .int p0, .int p1]) ++ List.replicate (3 - (lg_sl ([.ref h0, .int p0, .int p1])).length) Slot.unset).toArray = ls at hl ⊢
  have hl : lv_has ls 3 [(0, .ref h0), (1, .int p0), (2, .int p1)] := hl
  refine lv_aload_n hx hb dX5_copy_0 rfl (lv_at hl 0 rfl) ?_
  refine lv_iload_n hx hb dX5_copy_1 rfl (lv_at hl 1 rfl) ?_
  have hPc := hP.sub (ws' := [(h0, .inr (4, [.ref kc, .ref kf, .ref kt, .int 0, .int 0, .ref sy, .int 0, .ref se, .ref sl, .ref hf, .ref hh]))]) [0] rfl
  have hKc := hK.sub (tys' := []) [] rfl
  refine vp_callSi (va_Run.run (va_runV (As := [.int p0]) (rest := []) ⟨hx, hb, hml, hown, hts⟩ (k_X5_isSaying l dC dI h0 kc kf kt sy se sl hf hh p0) (cwV 1 hts gX5_copy_X5_isSaying rfl rfl rfl (by decide +kernel) ⟨Nat.le_of_ble_eq_true rfl, Nat.le_of_ble_eq_true rfl⟩) ⟨rPre_blind, va_recv hKc hPc (ci := 4) (q0 := 0) rfl rfl, fun U hU hW => ⟨rfl, rPre_at hPc hKc hU hW⟩⟩ rfl rfl hl.1 rfl (lv_room (Nat.le_of_ble_eq_true rfl)) dX5_copy_2 ⟨Nat.le_of_ble_eq_true rfl, Nat.le_of_ble_eq_true rfl⟩)) (fun r_1 er_1 => ?_)
  subst er_1
  refine lv_if_eq (tgt := 34) hx hb dX5_copy_5 (by decide) (fun h_2 => ?_) (fun h_2 => ?_)
  · refine lv_iconst (v := 0) hx hb dX5_copy_34 (by decide) ?_
    exact W.zret (v := 0) hx hb hr rfl (fun t ht hW => ⟨_, rfl, rfl, ht⟩) (fun _ h => by cases h) dX5_copy_35
  · exact (by first | exact absurd h_2 (by decide) | exact absurd (by decide) h_2)

set_option maxHeartbeats 4000000 in
set_option maxRecDepth 100000 in
theorem k_X5_take (l : Launch) (dC : Nat → ClassId) (dI : Nat → Nat → Nat) (h0 : Nat) (kc : Nat) (kf : Nat) (kt : Nat) (sy : Nat) (se : Nat) (sl : Nat) (hf : Nat) (hh : Nat) (p0 : Int32) (p1 : Int32)  : Met l yX5_take wsX5_take ({ frames := 1, cells := 0, slots := 0, locals := 21 }) (va_Pc [.ref h0, .int p0, .int p1] (rPre dC dI [(h0, .inr (4, [.ref kc, .ref kf, .ref kt, .int 0, .int 0, .ref sy, .int 0, .ref se, .ref sl, .ref hf, .ref hh]))] [])) (vp_Si (fun r => r = 0)) 0 0 (fun _ => False) := by
  refine Met.ofW (cc := cX5_take) (maxL := 3) (ret := (some .boolean)) (by decide) rfl ?_
  intro p e s m args below meth c s₁ B hml hv
  obtain ⟨rfl, hP, hK⟩ := hv
  have hx := B.exec
  have hb := B.bytes
  have hr := B.returns
  have hts := atoms_spec (ws := wsX5_take) B.pre
  have hown : s.vm.findClass RX5 = some m.cls := findClass_of_methodNamed B.named
  have hlocks := B.notSynchronized
  have hl := lv_entry ([.ref h0, .int p0, .int p1]) (n := 3) (Nat.le_of_ble_eq_true rfl)
  rw [lg_entry_eq]
  generalize (lg_sl ([.ref h0, .int p0, .int p1]) ++ List.replicate (3 - (lg_sl ([.ref h0, .int p0, .int p1])).length) Slot.unset).toArray = ls at hl ⊢
  have hl : lv_has ls 3 [(0, .ref h0), (1, .int p0), (2, .int p1)] := hl
  refine lv_aload_n hx hb dX5_take_0 rfl (lv_at hl 0 rfl) ?_
  refine lv_iload_n hx hb dX5_take_1 rfl (lv_at hl 1 rfl) ?_
  have hPc := hP.sub (ws' := [(h0, .inr (4, [.ref kc, .ref kf, .ref kt, .int 0, .int 0, .ref sy, .int 0, .ref se, .ref sl, .ref hf, .ref hh]))]) [0] rfl
  have hKc := hK.sub (tys' := []) [] rfl
  refine vp_callSi (va_Run.run (va_runV (As := [.int p0]) (rest := []) ⟨hx, hb, hml, hown, hts⟩ (k_X5_isSaying l dC dI h0 kc kf kt sy se sl hf hh p0) (cwV 1 hts gX5_take_X5_isSaying rfl rfl rfl (by decide +kernel) ⟨Nat.le_of_ble_eq_true rfl, Nat.le_of_ble_eq_true rfl⟩) ⟨rPre_blind, va_recv hKc hPc (ci := 4) (q0 := 0) rfl rfl, fun U hU hW => ⟨rfl, rPre_at hPc hKc hU hW⟩⟩ rfl rfl hl.1 rfl (lv_room (Nat.le_of_ble_eq_true rfl)) dX5_take_2 ⟨Nat.le_of_ble_eq_true rfl, Nat.le_of_ble_eq_true rfl⟩)) (fun r_1 er_1 => ?_)
  subst er_1
  refine lv_if_eq (tgt := 21) hx hb dX5_take_5 (by decide) (fun h_2 => ?_) (fun h_2 => ?_)
  · refine lv_iconst (v := 0) hx hb dX5_take_21 (by decide) ?_
    exact W.zret (v := 0) hx hb hr rfl (fun t ht hW => ⟨_, rfl, rfl, ht⟩) (fun _ h => by cases h) dX5_take_22
  · exact (by first | exact absurd h_2 (by decide) | exact absurd (by decide) h_2)

set_option maxHeartbeats 4000000 in
set_option maxRecDepth 100000 in
theorem k_X5_look (l : Launch) (dC : Nat → ClassId) (dI : Nat → Nat → Nat) (h0 : Nat) (kc : Nat) (kf : Nat) (kt : Nat) (sy : Nat) (se : Nat) (sl : Nat) (hf : Nat) (hh : Nat) (p0 : Int32) (p1 : Int32)  : Met l yX5_look wsX5_look ({ frames := 1, cells := 0, slots := 0, locals := 21 }) (va_Pc [.ref h0, .int p0, .int p1] (rPre dC dI [(h0, .inr (4, [.ref kc, .ref kf, .ref kt, .int 0, .int 0, .ref sy, .int 0, .ref se, .ref sl, .ref hf, .ref hh]))] [])) (vp_Si (fun r => r = (-1))) 0 0 (fun _ => False) := by
  refine Met.ofW (cc := cX5_look) (maxL := 4) (ret := (some .int)) (by decide) rfl ?_
  intro p e s m args below meth c s₁ B hml hv
  obtain ⟨rfl, hP, hK⟩ := hv
  have hx := B.exec
  have hb := B.bytes
  have hr := B.returns
  have hts := atoms_spec (ws := wsX5_look) B.pre
  have hown : s.vm.findClass RX5 = some m.cls := findClass_of_methodNamed B.named
  have hlocks := B.notSynchronized
  have hl := lv_entry ([.ref h0, .int p0, .int p1]) (n := 4) (Nat.le_of_ble_eq_true rfl)
  rw [lg_entry_eq]
  generalize (lg_sl ([.ref h0, .int p0, .int p1]) ++ List.replicate (4 - (lg_sl ([.ref h0, .int p0, .int p1])).length) Slot.unset).toArray = ls at hl ⊢
  have hl : lv_has ls 4 [(0, .ref h0), (1, .int p0), (2, .int p1)] := hl
  refine lv_aload_n hx hb dX5_look_0 rfl (lv_at hl 0 rfl) ?_
  refine lv_iload_n hx hb dX5_look_1 rfl (lv_at hl 1 rfl) ?_
  have hPc := hP.sub (ws' := [(h0, .inr (4, [.ref kc, .ref kf, .ref kt, .int 0, .int 0, .ref sy, .int 0, .ref se, .ref sl, .ref hf, .ref hh]))]) [0] rfl
  have hKc := hK.sub (tys' := []) [] rfl
  refine vp_callSi (va_Run.run (va_runV (As := [.int p0]) (rest := []) ⟨hx, hb, hml, hown, hts⟩ (k_X5_isSaying l dC dI h0 kc kf kt sy se sl hf hh p0) (cwV 1 hts gX5_look_X5_isSaying rfl rfl rfl (by decide +kernel) ⟨Nat.le_of_ble_eq_true rfl, Nat.le_of_ble_eq_true rfl⟩) ⟨rPre_blind, va_recv hKc hPc (ci := 4) (q0 := 0) rfl rfl, fun U hU hW => ⟨rfl, rPre_at hPc hKc hU hW⟩⟩ rfl rfl hl.1 rfl (lv_room (Nat.le_of_ble_eq_true rfl)) dX5_look_2 ⟨Nat.le_of_ble_eq_true rfl, Nat.le_of_ble_eq_true rfl⟩)) (fun r_1 er_1 => ?_)
  subst er_1
  refine lv_if_ne (tgt := 10) hx hb dX5_look_5 (by decide) (fun h_2 => ?_) (fun h_2 => ?_)
  · exact (by first | exact absurd h_2 (by decide) | exact absurd (by decide) h_2)
  · refine lv_iconst (v := (-1)) hx hb dX5_look_8 (by decide) ?_
    exact W.iret (v := (-1)) hx hb hr (fun t ht hW => ⟨_, rfl, rfl, ht⟩) (fun _ h => by cases h) dX5_look_9

set_option maxHeartbeats 4000000 in
set_option maxRecDepth 100000 in
theorem k_X5_span (l : Launch) (dC : Nat → ClassId) (dI : Nat → Nat → Nat) (h0 : Nat) (kc : Nat) (kf : Nat) (kt : Nat) (sy : Nat) (se : Nat) (sl : Nat) (hf : Nat) (hh : Nat) (p0 : Int32) (p1 : Int32) (p2 : Int32)  : Met l yX5_span wsX5_span ({ frames := 1, cells := 0, slots := 0, locals := 21 }) (va_Pc [.ref h0, .int p0, .int p1, .int p2] (rPre dC dI [(h0, .inr (4, [.ref kc, .ref kf, .ref kt, .int 0, .int 0, .ref sy, .int 0, .ref se, .ref sl, .ref hf, .ref hh]))] [])) (vp_Si (fun r => r = (-1))) 0 0 (fun _ => False) := by
  refine Met.ofW (cc := cX5_span) (maxL := 5) (ret := (some .int)) (by decide) rfl ?_
  intro p e s m args below meth c s₁ B hml hv
  obtain ⟨rfl, hP, hK⟩ := hv
  have hx := B.exec
  have hb := B.bytes
  have hr := B.returns
  have hts := atoms_spec (ws := wsX5_span) B.pre
  have hown : s.vm.findClass RX5 = some m.cls := findClass_of_methodNamed B.named
  have hlocks := B.notSynchronized
  have hl := lv_entry ([.ref h0, .int p0, .int p1, .int p2]) (n := 5) (Nat.le_of_ble_eq_true rfl)
  rw [lg_entry_eq]
  generalize (lg_sl ([.ref h0, .int p0, .int p1, .int p2]) ++ List.replicate (5 - (lg_sl ([.ref h0, .int p0, .int p1, .int p2])).length) Slot.unset).toArray = ls at hl ⊢
  have hl : lv_has ls 5 [(0, .ref h0), (1, .int p0), (2, .int p1), (3, .int p2)] := hl
  refine lv_aload_n hx hb dX5_span_0 rfl (lv_at hl 0 rfl) ?_
  refine lv_iload_n hx hb dX5_span_1 rfl (lv_at hl 1 rfl) ?_
  have hPc := hP.sub (ws' := [(h0, .inr (4, [.ref kc, .ref kf, .ref kt, .int 0, .int 0, .ref sy, .int 0, .ref se, .ref sl, .ref hf, .ref hh]))]) [0] rfl
  have hKc := hK.sub (tys' := []) [] rfl
  refine vp_callSi (va_Run.run (va_runV (As := [.int p0]) (rest := []) ⟨hx, hb, hml, hown, hts⟩ (k_X5_isSaying l dC dI h0 kc kf kt sy se sl hf hh p0) (cwV 1 hts gX5_span_X5_isSaying rfl rfl rfl (by decide +kernel) ⟨Nat.le_of_ble_eq_true rfl, Nat.le_of_ble_eq_true rfl⟩) ⟨rPre_blind, va_recv hKc hPc (ci := 4) (q0 := 0) rfl rfl, fun U hU hW => ⟨rfl, rPre_at hPc hKc hU hW⟩⟩ rfl rfl hl.1 rfl (lv_room (Nat.le_of_ble_eq_true rfl)) dX5_span_2 ⟨Nat.le_of_ble_eq_true rfl, Nat.le_of_ble_eq_true rfl⟩)) (fun r_1 er_1 => ?_)
  subst er_1
  refine lv_if_eq (tgt := 24) hx hb dX5_span_5 (by decide) (fun h_2 => ?_) (fun h_2 => ?_)
  · refine lv_iconst (v := (-1)) hx hb dX5_span_24 (by decide) ?_
    exact W.iret (v := (-1)) hx hb hr (fun t ht hW => ⟨_, rfl, rfl, ht⟩) (fun _ h => by cases h) dX5_span_25
  · exact (by first | exact absurd h_2 (by decide) | exact absurd (by decide) h_2)

set_option maxHeartbeats 4000000 in
set_option maxRecDepth 100000 in
theorem k_X5_askAllWays (l : Launch) (dC : Nat → ClassId) (dI : Nat → Nat → Nat) (h0 : Nat) (kc : Nat) (kf : Nat) (kt : Nat) (sy : Nat) (se : Nat) (sl : Nat) (hf : Nat) (hh : Nat) (p0 : Int32)  : Met l yX5_askAllWays wsX5_askAllWays ({ frames := 1, cells := 0, slots := 0, locals := 21 }) (va_Pc [.ref h0, .int p0] (rPre dC dI [(h0, .inr (4, [.ref kc, .ref kf, .ref kt, .int 0, .int 0, .ref sy, .int 0, .ref se, .ref sl, .ref hf, .ref hh]))] [])) (vp_Si (fun r => r = (-1))) 0 0 (fun _ => False) := by
  refine Met.ofW (cc := cX5_askAllWays) (maxL := 3) (ret := (some .int)) (by decide) rfl ?_
  intro p e s m args below meth c s₁ B hml hv
  obtain ⟨rfl, hP, hK⟩ := hv
  have hx := B.exec
  have hb := B.bytes
  have hr := B.returns
  have hts := atoms_spec (ws := wsX5_askAllWays) B.pre
  have hown : s.vm.findClass RX5 = some m.cls := findClass_of_methodNamed B.named
  have hlocks := B.notSynchronized
  have hl := lv_entry ([.ref h0, .int p0]) (n := 3) (Nat.le_of_ble_eq_true rfl)
  rw [lg_entry_eq]
  generalize (lg_sl ([.ref h0, .int p0]) ++ List.replicate (3 - (lg_sl ([.ref h0, .int p0])).length) Slot.unset).toArray = ls at hl ⊢
  have hl : lv_has ls 3 [(0, .ref h0), (1, .int p0)] := hl
  refine lv_aload_n hx hb dX5_askAllWays_0 rfl (lv_at hl 0 rfl) ?_
  refine lv_iload_n hx hb dX5_askAllWays_1 rfl (lv_at hl 1 rfl) ?_
  have hPc := hP.sub (ws' := [(h0, .inr (4, [.ref kc, .ref kf, .ref kt, .int 0, .int 0, .ref sy, .int 0, .ref se, .ref sl, .ref hf, .ref hh]))]) [0] rfl
  have hKc := hK.sub (tys' := []) [] rfl
  refine vp_callSi (va_Run.run (va_runV (As := [.int p0]) (rest := []) ⟨hx, hb, hml, hown, hts⟩ (k_X5_isEvent l dC dI h0 kc kf kt sy se sl hf hh p0) (cwV 1 hts gX5_askAllWays_X5_isEvent rfl rfl rfl (by decide +kernel) ⟨Nat.le_of_ble_eq_true rfl, Nat.le_of_ble_eq_true rfl⟩) ⟨rPre_blind, va_recv hKc hPc (ci := 4) (q0 := 0) rfl rfl, fun U hU hW => ⟨rfl, rPre_at hPc hKc hU hW⟩⟩ rfl rfl hl.1 rfl (lv_room (Nat.le_of_ble_eq_true rfl)) dX5_askAllWays_2 ⟨Nat.le_of_ble_eq_true rfl, Nat.le_of_ble_eq_true rfl⟩)) (fun r_1 er_1 => ?_)
  subst er_1
  refine lv_if_ne (tgt := 10) hx hb dX5_askAllWays_5 (by decide) (fun h_2 => ?_) (fun h_2 => ?_)
  · exact (by first | exact absurd h_2 (by decide) | exact absurd (by decide) h_2)
  · refine lv_iconst (v := (-1)) hx hb dX5_askAllWays_8 (by decide) ?_
    exact W.iret (v := (-1)) hx hb hr (fun t ht hW => ⟨_, rfl, rfl, ht⟩) (fun _ h => by cases h) dX5_askAllWays_9

set_option maxHeartbeats 4000000 in
set_option maxRecDepth 100000 in
theorem k_X5_first (l : Launch) (dC : Nat → ClassId) (dI : Nat → Nat → Nat) (h0 : Nat) (kc : Nat) (kf : Nat) (kt : Nat) (sy : Nat) (se : Nat) (sl : Nat) (hf : Nat) (hh : Nat) (p0 : Int32)  : Met l yX5_first wsX5_first ({ frames := 2, cells := 0, slots := 0, locals := 43 }) (va_Pc [.ref h0, .int p0] (rPre dC dI [(h0, .inr (4, [.ref kc, .ref kf, .ref kt, .int 0, .int 0, .ref sy, .int 0, .ref se, .ref sl, .ref hf, .ref hh]))] [])) (vp_Si (fun r => r = (-1))) 0 0 (fun _ => False) := by
  refine Met.ofW (cc := cX5_first) (maxL := 3) (ret := (some .int)) (by decide) rfl ?_
  intro p e s m args below meth c s₁ B hml hv
  obtain ⟨rfl, hP, hK⟩ := hv
  have hx := B.exec
  have hb := B.bytes
  have hr := B.returns
  have hts := atoms_spec (ws := wsX5_first) B.pre
  have hown : s.vm.findClass RX5 = some m.cls := findClass_of_methodNamed B.named
  have hlocks := B.notSynchronized
  have hl := lv_entry ([.ref h0, .int p0]) (n := 3) (Nat.le_of_ble_eq_true rfl)
  rw [lg_entry_eq]
  generalize (lg_sl ([.ref h0, .int p0]) ++ List.replicate (3 - (lg_sl ([.ref h0, .int p0])).length) Slot.unset).toArray = ls at hl ⊢
  have hl : lv_has ls 3 [(0, .ref h0), (1, .int p0)] := hl
  refine lv_aload_n hx hb dX5_first_0 rfl (lv_at hl 0 rfl) ?_
  refine lv_iload_n hx hb dX5_first_1 rfl (lv_at hl 1 rfl) ?_
  have hPc := hP.sub (ws' := [(h0, .inr (4, [.ref kc, .ref kf, .ref kt, .int 0, .int 0, .ref sy, .int 0, .ref se, .ref sl, .ref hf, .ref hh]))]) [0] rfl
  have hKc := hK.sub (tys' := []) [] rfl
  refine vp_callSi (va_Run.run (va_runV (As := [.int p0]) (rest := []) ⟨hx, hb, hml, hown, hts⟩ (k_X5_askAllWays l dC dI h0 kc kf kt sy se sl hf hh p0) (cwV 1 hts gX5_first_X5_askAllWays rfl rfl rfl (by decide +kernel) ⟨Nat.le_of_ble_eq_true rfl, Nat.le_of_ble_eq_true rfl⟩) ⟨rPre_blind, va_recv hKc hPc (ci := 4) (q0 := 0) rfl rfl, fun U hU hW => ⟨rfl, rPre_at hPc hKc hU hW⟩⟩ rfl rfl hl.1 rfl (lv_room (Nat.le_of_ble_eq_true rfl)) dX5_first_2 ⟨Nat.le_of_ble_eq_true rfl, Nat.le_of_ble_eq_true rfl⟩)) (fun r_1 er_1 => ?_)
  subst er_1
  refine lv_istore_n (lv' := [(2, .int ((-1))), (0, .ref h0), (1, .int p0)]) hx hb dX5_first_5 rfl hl (by decide) rfl (fun ls hl => ?_)
  refine lv_iload_n hx hb dX5_first_6 rfl (lv_at hl 0 rfl) ?_
  refine lv_iconst (v := 1) hx hb dX5_first_7 (by decide) ?_
  refine lv_icmp_ne (tgt := 23) hx hb dX5_first_8 (by decide) (fun h_2 => ?_) (fun h_2 => ?_)
  · refine lv_iload_n hx hb dX5_first_23 rfl (lv_at hl 0 rfl) ?_
    exact W.iret (v := (-1)) hx hb hr (fun t ht hW => ⟨_, rfl, rfl, ht⟩) (fun _ h => by cases h) dX5_first_24
  · exact (by first | exact absurd h_2 (by decide) | exact absurd (by decide) h_2)

set_option maxHeartbeats 4000000 in
set_option maxRecDepth 100000 in
theorem k_X5_last (l : Launch) (dC : Nat → ClassId) (dI : Nat → Nat → Nat) (h0 : Nat) (kc : Nat) (kf : Nat) (kt : Nat) (sy : Nat) (se : Nat) (sl : Nat) (hf : Nat) (hh : Nat) (p0 : Int32)  : Met l yX5_last wsX5_last ({ frames := 2, cells := 0, slots := 0, locals := 43 }) (va_Pc [.ref h0, .int p0] (rPre dC dI [(h0, .inr (4, [.ref kc, .ref kf, .ref kt, .int 0, .int 0, .ref sy, .int 0, .ref se, .ref sl, .ref hf, .ref hh]))] [])) (vp_Si (fun r => r = (-1))) 0 0 (fun _ => False) := by
  refine Met.ofW (cc := cX5_last) (maxL := 3) (ret := (some .int)) (by decide) rfl ?_
  intro p e s m args below meth c s₁ B hml hv
  obtain ⟨rfl, hP, hK⟩ := hv
  have hx := B.exec
  have hb := B.bytes
  have hr := B.returns
  have hts := atoms_spec (ws := wsX5_last) B.pre
  have hown : s.vm.findClass RX5 = some m.cls := findClass_of_methodNamed B.named
  have hlocks := B.notSynchronized
  have hl := lv_entry ([.ref h0, .int p0]) (n := 3) (Nat.le_of_ble_eq_true rfl)
  rw [lg_entry_eq]
  generalize (lg_sl ([.ref h0, .int p0]) ++ List.replicate (3 - (lg_sl ([.ref h0, .int p0])).length) Slot.unset).toArray = ls at hl ⊢
  have hl : lv_has ls 3 [(0, .ref h0), (1, .int p0)] := hl
  refine lv_aload_n hx hb dX5_last_0 rfl (lv_at hl 0 rfl) ?_
  refine lv_iload_n hx hb dX5_last_1 rfl (lv_at hl 1 rfl) ?_
  have hPc := hP.sub (ws' := [(h0, .inr (4, [.ref kc, .ref kf, .ref kt, .int 0, .int 0, .ref sy, .int 0, .ref se, .ref sl, .ref hf, .ref hh]))]) [0] rfl
  have hKc := hK.sub (tys' := []) [] rfl
  refine vp_callSi (va_Run.run (va_runV (As := [.int p0]) (rest := []) ⟨hx, hb, hml, hown, hts⟩ (k_X5_askAllWays l dC dI h0 kc kf kt sy se sl hf hh p0) (cwV 1 hts gX5_last_X5_askAllWays rfl rfl rfl (by decide +kernel) ⟨Nat.le_of_ble_eq_true rfl, Nat.le_of_ble_eq_true rfl⟩) ⟨rPre_blind, va_recv hKc hPc (ci := 4) (q0 := 0) rfl rfl, fun U hU hW => ⟨rfl, rPre_at hPc hKc hU hW⟩⟩ rfl rfl hl.1 rfl (lv_room (Nat.le_of_ble_eq_true rfl)) dX5_last_2 ⟨Nat.le_of_ble_eq_true rfl, Nat.le_of_ble_eq_true rfl⟩)) (fun r_1 er_1 => ?_)
  subst er_1
  refine lv_istore_n (lv' := [(2, .int ((-1))), (0, .ref h0), (1, .int p0)]) hx hb dX5_last_5 rfl hl (by decide) rfl (fun ls hl => ?_)
  refine lv_iload_n hx hb dX5_last_6 rfl (lv_at hl 0 rfl) ?_
  refine lv_iconst (v := 1) hx hb dX5_last_7 (by decide) ?_
  refine lv_icmp_ne (tgt := 23) hx hb dX5_last_8 (by decide) (fun h_2 => ?_) (fun h_2 => ?_)
  · refine lv_iload_n hx hb dX5_last_23 rfl (lv_at hl 0 rfl) ?_
    exact W.iret (v := (-1)) hx hb hr (fun t ht hW => ⟨_, rfl, rfl, ht⟩) (fun _ h => by cases h) dX5_last_24
  · exact (by first | exact absurd h_2 (by decide) | exact absurd (by decide) h_2)

set_option maxHeartbeats 4000000 in
set_option maxRecDepth 100000 in
theorem k_X5_can (l : Launch) (dC : Nat → ClassId) (dI : Nat → Nat → Nat) (h0 : Nat) (kc : Nat) (kf : Nat) (kt : Nat) (sy : Nat) (se : Nat) (sl : Nat) (hf : Nat) (hh : Nat) (p0 : Int32) (p1 : Int32)  : Met l yX5_can wsX5_can ({ frames := 1, cells := 0, slots := 0, locals := 21 }) (va_Pc [.ref h0, .int p0, .int p1] (rPre dC dI [(h0, .inr (4, [.ref kc, .ref kf, .ref kt, .int 0, .int 0, .ref sy, .int 0, .ref se, .ref sl, .ref hf, .ref hh]))] [])) (vp_Si (fun r => r = (-1))) 0 0 (fun _ => False) := by
  refine Met.ofW (cc := cX5_can) (maxL := 3) (ret := (some .int)) (by decide) rfl ?_
  intro p e s m args below meth c s₁ B hml hv
  obtain ⟨rfl, hP, hK⟩ := hv
  have hx := B.exec
  have hb := B.bytes
  have hr := B.returns
  have hts := atoms_spec (ws := wsX5_can) B.pre
  have hown : s.vm.findClass RX5 = some m.cls := findClass_of_methodNamed B.named
  have hlocks := B.notSynchronized
  have hl := lv_entry ([.ref h0, .int p0, .int p1]) (n := 3) (Nat.le_of_ble_eq_true rfl)
  rw [lg_entry_eq]
  generalize (lg_sl ([.ref h0, .int p0, .int p1]) ++ List.replicate (3 - (lg_sl ([.ref h0, .int p0, .int p1])).length) Slot.unset).toArray = ls at hl ⊢
  have hl : lv_has ls 3 [(0, .ref h0), (1, .int p0), (2, .int p1)] := hl
  refine lv_aload_n hx hb dX5_can_0 rfl (lv_at hl 0 rfl) ?_
  refine lv_iload_n hx hb dX5_can_1 rfl (lv_at hl 1 rfl) ?_
  have hPc := hP.sub (ws' := [(h0, .inr (4, [.ref kc, .ref kf, .ref kt, .int 0, .int 0, .ref sy, .int 0, .ref se, .ref sl, .ref hf, .ref hh]))]) [0] rfl
  have hKc := hK.sub (tys' := []) [] rfl
  refine vp_callSi (va_Run.run (va_runV (As := [.int p0]) (rest := []) ⟨hx, hb, hml, hown, hts⟩ (k_X5_isEvent l dC dI h0 kc kf kt sy se sl hf hh p0) (cwV 1 hts gX5_can_X5_isEvent rfl rfl rfl (by decide +kernel) ⟨Nat.le_of_ble_eq_true rfl, Nat.le_of_ble_eq_true rfl⟩) ⟨rPre_blind, va_recv hKc hPc (ci := 4) (q0 := 0) rfl rfl, fun U hU hW => ⟨rfl, rPre_at hPc hKc hU hW⟩⟩ rfl rfl hl.1 rfl (lv_room (Nat.le_of_ble_eq_true rfl)) dX5_can_2 ⟨Nat.le_of_ble_eq_true rfl, Nat.le_of_ble_eq_true rfl⟩)) (fun r_1 er_1 => ?_)
  subst er_1
  refine lv_if_eq (tgt := 15) hx hb dX5_can_5 (by decide) (fun h_2 => ?_) (fun h_2 => ?_)
  · refine lv_iconst (v := (-1)) hx hb dX5_can_15 (by decide) ?_
    exact W.iret (v := (-1)) hx hb hr (fun t ht hW => ⟨_, rfl, rfl, ht⟩) (fun _ h => by cases h) dX5_can_16
  · exact (by first | exact absurd h_2 (by decide) | exact absurd (by decide) h_2)

set_option maxHeartbeats 4000000 in
set_option maxRecDepth 100000 in
theorem k_X5_takenSet (l : Launch) (dC : Nat → ClassId) (dI : Nat → Nat → Nat) (h0 : Nat) (kc : Nat) (kf : Nat) (kt : Nat) (sy : Nat) (se : Nat) (sl : Nat) (hf : Nat) (hh : Nat)  : Met l yX5_takenSet wsX5_takenSet ({ frames := 0, cells := 0, slots := 0, locals := 0 }) (va_Pc [.ref h0] (rPre dC dI [(h0, .inr (4, [.ref kc, .ref kf, .ref kt, .int 0, .int 0, .ref sy, .int 0, .ref se, .ref sl, .ref hf, .ref hh]))] [])) (vp_Si (fun r => r = 0)) 0 0 (fun _ => False) := by
  refine Met.ofW (cc := cX5_takenSet) (maxL := 3) (ret := (some .int)) (by decide) rfl ?_
  intro p e s m args below meth c s₁ B hml hv
  obtain ⟨rfl, hP, hK⟩ := hv
  have hx := B.exec
  have hb := B.bytes
  have hr := B.returns
  have hts := atoms_spec (ws := wsX5_takenSet) B.pre
  have hown : s.vm.findClass RX5 = some m.cls := findClass_of_methodNamed B.named
  have hlocks := B.notSynchronized
  have hl := lv_entry ([.ref h0]) (n := 3) (Nat.le_of_ble_eq_true rfl)
  rw [lg_entry_eq]
  generalize (lg_sl ([.ref h0]) ++ List.replicate (3 - (lg_sl ([.ref h0])).length) Slot.unset).toArray = ls at hl ⊢
  have hl : lv_has ls 3 [(0, .ref h0)] := hl
  refine lv_iconst (v := 0) hx hb dX5_takenSet_0 (by decide) ?_
  refine lv_istore_n (lv' := [(1, .int 0), (0, .ref h0)]) hx hb dX5_takenSet_1 rfl hl (by decide) rfl (fun ls hl => ?_)
  refine lv_iconst (v := 0) hx hb dX5_takenSet_2 (by decide) ?_
  refine lv_istore_n (lv' := [(2, .int 0), (1, .int 0), (0, .ref h0)]) hx hb dX5_takenSet_3 rfl hl (by decide) rfl (fun ls hl => ?_)
  refine lv_iload_n hx hb dX5_takenSet_4 rfl (lv_at hl 0 rfl) ?_
  refine lv_aload_n hx hb dX5_takenSet_5 rfl (lv_at hl 2 rfl) ?_
  refine va_get (D := (dC, dI)) (ci := 4) (v := .int 0) (C := RX5) (T := TX5) (N := 11) hx hb hts (by decide +kernel) hown hK hP 0 rfl rfl 6 (by decide) (hts (.fieldLink RX5 74 "DayBench" "sayingsMade" "I") (by decide +kernel)) (fun _ h9 => h9) rfl dX5_takenSet_6 ?_
  refine lv_icmp_ge (tgt := 36) hx hb dX5_takenSet_9 (by decide) (fun h_1 => ?_) (fun h_1 => ?_)
  · refine lv_iload_n hx hb dX5_takenSet_36 rfl (lv_at hl 1 rfl) ?_
    exact W.iret (v := 0) hx hb hr (fun t ht hW => ⟨_, rfl, rfl, ht⟩) (fun _ h => by cases h) dX5_takenSet_37
  · exact (by first | exact absurd h_1 (by decide) | exact absurd (by decide) h_1)

set_option maxHeartbeats 4000000 in
set_option maxRecDepth 100000 in
theorem k_X2_begin (l : Launch) (dC : Nat → ClassId) (dI : Nat → Nat → Nat) (sz : Nat) (se : Nat) (ea : Nat) (la : Nat) (ss : Nat) (spr : Nat) (fsp : Nat) (ap : Nat) (lw : Nat) (hg : Nat) (lk : Int32) (ev0 : Int32) (sp : Int32) (fo : Int32) (ti : Int32) (tg : Int32)  : Met l yX2_begin wsX2_begin ({ frames := 1, cells := 0, slots := 0, locals := 14 }) (va_Pc [.ref se, .int 0] (wPre dC dI sz [(se, .inr (1, [.ref ea, .ref la, .int lk, .int ev0, .int sp, .int fo, .int ti, .int tg, .ref ss, .ref spr, .ref fsp, .ref ap, .ref lw, .ref hg]))] [])) (va_Qv (fun (u : Unit) => True) (fun (u : Unit) t => wPost dC dI (va_A [(se, .inr (1, [.ref ea, .ref la, .int lk, .int ev0, .int sp, .int fo, .int ti, .int tg, .ref ss, .ref spr, .ref fsp, .ref ap, .ref lw, .ref hg]))] sz) [(se, .inr (1, [.ref ea, .ref la, .int 0, .int 0, .int 0, .int fo, .int ti, .int tg, .ref ss, .ref spr, .ref fsp, .ref ap, .ref lw, .ref hg]))] t) (va_A [(se, .inr (1, [.ref ea, .ref la, .int lk, .int ev0, .int sp, .int fo, .int ti, .int tg, .ref ss, .ref spr, .ref fsp, .ref ap, .ref lw, .ref hg]))] sz)) 0 0 (va_A [(se, .inr (1, [.ref ea, .ref la, .int lk, .int ev0, .int sp, .int fo, .int ti, .int tg, .ref ss, .ref spr, .ref fsp, .ref ap, .ref lw, .ref hg]))] sz) := by
  refine Met.ofW (cc := cX2_begin) (maxL := 2) (ret := none) (by decide) rfl ?_
  intro p e s m args below meth c s₁ B hml hv
  obtain ⟨rfl, hsz, hP, hK, hD0⟩ := hv
  have hx := B.exec
  have hb := B.bytes
  have hr := B.returns
  have hts := atoms_spec (ws := wsX2_begin) B.pre
  have hown : s.vm.findClass RX2 = some m.cls := findClass_of_methodNamed B.named
  have hlocks := B.notSynchronized
  subst hsz
  have hD := hD0.self (sz := s.heap.size)
  generalize hAe : va_A [(se, .inr (1, [.ref ea, .ref la, .int lk, .int ev0, .int sp, .int fo, .int ti, .int tg, .ref ss, .ref spr, .ref fsp, .ref ap, .ref lw, .ref hg]))] s.heap.size = A at hD ⊢
  have hA : ∀ q : Nat, s.heap.size ≤ q → A q := fun q h => by rw [← hAe]; exact Or.inr h
  have hS : va_S A s.heap s.heap [] := va_S.rf
  have hP : va_P (dC, dI) vwCl [(se, .inr (1, [.ref ea, .ref la, .int lk, .int ev0, .int sp, .int fo, .int ti, .int tg, .ref ss, .ref spr, .ref fsp, .ref ap, .ref lw, .ref hg]))] s.heap := hP
  have hl := lv_entry ([.ref se, .int 0]) (n := 2) (Nat.le_of_ble_eq_true rfl)
  rw [lg_entry_eq]
  generalize (lg_sl ([.ref se, .int 0]) ++ List.replicate (2 - (lg_sl ([.ref se, .int 0])).length) Slot.unset).toArray = ls at hl ⊢
  have hl : lv_has ls 2 [(0, .ref se), (1, .int 0)] := hl
  refine lv_aload_n hx hb dX2_begin_0 rfl (lv_at hl 0 rfl) ?_
  refine lv_iload_n hx hb dX2_begin_1 rfl (lv_at hl 1 rfl) ?_
  refine lv_bipush (v := 6) hx hb dX2_begin_2 (by decide) ?_
  refine va_mmin (own := RX2) (x := 0) (y := 6) hx hb (hml.trans hl.1.symm) hown (hts (.methodLink RX2 43 Lib.Math.min.name) (by decide +kernel)) (hts (.static Lib.Math.min.name) (by decide +kernel)) (hts (.initialized "java/lang/Math") (by decide +kernel)) (hts (.code Lib.Math.min.name Lib.Math.min.code 2 (some .int)) (by decide +kernel)) (Nat.le_of_ble_eq_true rfl) (Nat.le_of_ble_eq_true rfl) (Nat.le_of_ble_eq_true rfl) (Nat.le_of_ble_eq_true rfl) dX2_begin_4 ?_
  refine lv_topi (fun x_1 ex_1 => ?_)
  have ex_1 : x_1 = 0 := ex_1
  subst ex_1
  refine va_put (D := (dC, dI)) (ci := 1) (v := .int 0) (ty := .int) (C := RX2) (T := TX2) (N := 14) hx hb hts (by decide +kernel) tyX2 tyX2_ok nmX2 hown hK hP hD hS 0 rfl rfl 3 (by decide) (hts (.fieldLink RX2 49 "DayBench$Search" "events" "I") (by decide +kernel)) (fun _ h9 => h9) rfl (by decide +kernel) rfl rfl (Nat.le_of_ble_eq_true rfl) dX2_begin_7 (fun H locs hP hD hS => ?_)
  have hP : va_P (dC, dI) vwCl [(se, .inr (1, [.ref ea, .ref la, .int lk, .int 0, .int sp, .int fo, .int ti, .int tg, .ref ss, .ref spr, .ref fsp, .ref ap, .ref lw, .ref hg]))] H := hP
  have hD : va_D A [(se, .inr (1, [.ref ea, .ref la, .int lk, .int 0, .int sp, .int fo, .int ti, .int tg, .ref ss, .ref spr, .ref fsp, .ref ap, .ref lw, .ref hg]))] := hD
  refine lv_aload_n hx hb dX2_begin_10 rfl (lv_at hl 0 rfl) ?_
  refine lv_iconst (v := 0) hx hb dX2_begin_11 (by decide) ?_
  refine va_put (D := (dC, dI)) (ci := 1) (v := .int 0) (ty := .int) (C := RX2) (T := TX2) (N := 14) hx hb hts (by decide +kernel) tyX2 tyX2_ok nmX2 hown hK hP hD hS 0 rfl rfl 2 (by decide) (hts (.fieldLink RX2 53 "DayBench$Search" "looks" "I") (by decide +kernel)) (fun _ h9 => h9) rfl (by decide +kernel) rfl rfl (Nat.le_of_ble_eq_true rfl) dX2_begin_12 (fun H locs hP hD hS => ?_)
  have hP : va_P (dC, dI) vwCl [(se, .inr (1, [.ref ea, .ref la, .int 0, .int 0, .int sp, .int fo, .int ti, .int tg, .ref ss, .ref spr, .ref fsp, .ref ap, .ref lw, .ref hg]))] H := hP
  have hD : va_D A [(se, .inr (1, [.ref ea, .ref la, .int 0, .int 0, .int sp, .int fo, .int ti, .int tg, .ref ss, .ref spr, .ref fsp, .ref ap, .ref lw, .ref hg]))] := hD
  refine lv_aload_n hx hb dX2_begin_15 rfl (lv_at hl 0 rfl) ?_
  refine lv_iconst (v := 0) hx hb dX2_begin_16 (by decide) ?_
  refine va_put (D := (dC, dI)) (ci := 1) (v := .int 0) (ty := .boolean) (C := RX2) (T := TX2) (N := 14) hx hb hts (by decide +kernel) tyX2 tyX2_ok nmX2 hown hK hP hD hS 0 rfl rfl 4 (by decide) (hts (.fieldLink RX2 56 "DayBench$Search" "spent" "Z") (by decide +kernel)) (fun _ h9 => h9) rfl (by decide +kernel) rfl rfl (Nat.le_of_ble_eq_true rfl) dX2_begin_17 (fun H locs hP hD hS => ?_)
  have hP : va_P (dC, dI) vwCl [(se, .inr (1, [.ref ea, .ref la, .int 0, .int 0, .int 0, .int fo, .int ti, .int tg, .ref ss, .ref spr, .ref fsp, .ref ap, .ref lw, .ref hg]))] H := hP
  have hD : va_D A [(se, .inr (1, [.ref ea, .ref la, .int 0, .int 0, .int 0, .int fo, .int ti, .int tg, .ref ss, .ref spr, .ref fsp, .ref ap, .ref lw, .ref hg]))] := hD
  have hP9 := hP.sub (ws' := [(se, .inr (1, [.ref ea, .ref la, .int 0, .int 0, .int 0, .int fo, .int ti, .int tg, .ref ss, .ref spr, .ref fsp, .ref ap, .ref lw, .ref hg]))]) [0] rfl
  have hD9 := hD.sub (ws' := [(se, .inr (1, [.ref ea, .ref la, .int 0, .int 0, .int 0, .int fo, .int ti, .int tg, .ref ss, .ref spr, .ref fsp, .ref ap, .ref lw, .ref hg]))]) [0] (by decide) rfl
  exact W.vret hx hb hr (fun t ht hW => ⟨⟨(), rfl, trivial, by rw [ht]; exact hP9, hD9⟩, hS.F ht⟩) hS.2.2 dX2_begin_20

set_option maxHeartbeats 4000000 in
set_option maxRecDepth 100000 in
theorem k_X2_clearTable (l : Launch) (dC : Nat → ClassId) (dI : Nat → Nat → Nat) (se : Nat) (ea : Nat) (la : Nat) (ss : Nat) (spr : Nat) (fsp : Nat) (ap : Nat) (lw : Nat) (hg : Nat) (lk : Int32) (sp : Int32) (fo : Int32) (ti : Int32) (tg : Int32)  : Met l yX2_clearTable wsX2_clearTable ({ frames := 0, cells := 0, slots := 0, locals := 0 }) (va_Pc [.ref se] (rPre dC dI [(se, .inr (1, [.ref ea, .ref la, .int lk, .int 0, .int sp, .int fo, .int ti, .int tg, .ref ss, .ref spr, .ref fsp, .ref ap, .ref lw, .ref hg]))] [])) (va_Sv (fun _ => True)) 0 0 (fun _ => False) := by
  refine Met.ofW (cc := cX2_clearTable) (maxL := 3) (ret := none) (by decide) rfl ?_
  intro p e s m args below meth c s₁ B hml hv
  obtain ⟨rfl, hP, hK⟩ := hv
  have hx := B.exec
  have hb := B.bytes
  have hr := B.returns
  have hts := atoms_spec (ws := wsX2_clearTable) B.pre
  have hown : s.vm.findClass RX2 = some m.cls := findClass_of_methodNamed B.named
  have hlocks := B.notSynchronized
  have hl := lv_entry ([.ref se]) (n := 3) (Nat.le_of_ble_eq_true rfl)
  rw [lg_entry_eq]
  generalize (lg_sl ([.ref se]) ++ List.replicate (3 - (lg_sl ([.ref se])).length) Slot.unset).toArray = ls at hl ⊢
  have hl : lv_has ls 3 [(0, .ref se)] := hl
  refine lv_iconst (v := 0) hx hb dX2_clearTable_0 (by decide) ?_
  refine lv_istore_n (lv' := [(1, .int 0), (0, .ref se)]) hx hb dX2_clearTable_1 rfl hl (by decide) rfl (fun ls hl => ?_)
  refine lv_iload_n hx hb dX2_clearTable_2 rfl (lv_at hl 0 rfl) ?_
  refine lv_aload_n hx hb dX2_clearTable_3 rfl (lv_at hl 1 rfl) ?_
  refine va_get (D := (dC, dI)) (ci := 1) (v := .int 0) (C := RX2) (T := TX2) (N := 14) hx hb hts (by decide +kernel) hown hK hP 0 rfl rfl 3 (by decide) (hts (.fieldLink RX2 49 "DayBench$Search" "events" "I") (by decide +kernel)) (fun _ h9 => h9) rfl dX2_clearTable_4 ?_
  refine lv_icmp_ge (tgt := 72) hx hb dX2_clearTable_7 (by decide) (fun h_1 => ?_) (fun h_1 => ?_)
  · exact W.vret hx hb hr (fun t ht hW => ⟨rfl, trivial, ht⟩) (fun _ h => by cases h) dX2_clearTable_72
  · exact (by first | exact absurd h_1 (by decide) | exact absurd (by decide) h_1)

set_option maxHeartbeats 4000000 in
set_option maxRecDepth 100000 in
theorem k_X2_closeApart (l : Launch) (dC : Nat → ClassId) (dI : Nat → Nat → Nat) (se : Nat) (ea : Nat) (la : Nat) (ss : Nat) (spr : Nat) (fsp : Nat) (ap : Nat) (lw : Nat) (hg : Nat) (lk : Int32) (sp : Int32) (fo : Int32) (ti : Int32) (tg : Int32)  : Met l yX2_closeApart wsX2_closeApart ({ frames := 0, cells := 0, slots := 0, locals := 0 }) (va_Pc [.ref se] (rPre dC dI [(se, .inr (1, [.ref ea, .ref la, .int lk, .int 0, .int sp, .int fo, .int ti, .int tg, .ref ss, .ref spr, .ref fsp, .ref ap, .ref lw, .ref hg]))] [])) (vp_Si (fun r => r = 1)) 0 0 (fun _ => False) := by
  refine Met.ofW (cc := cX2_closeApart) (maxL := 4) (ret := (some .boolean)) (by decide) rfl ?_
  intro p e s m args below meth c s₁ B hml hv
  obtain ⟨rfl, hP, hK⟩ := hv
  have hx := B.exec
  have hb := B.bytes
  have hr := B.returns
  have hts := atoms_spec (ws := wsX2_closeApart) B.pre
  have hown : s.vm.findClass RX2 = some m.cls := findClass_of_methodNamed B.named
  have hlocks := B.notSynchronized
  have hl := lv_entry ([.ref se]) (n := 4) (Nat.le_of_ble_eq_true rfl)
  rw [lg_entry_eq]
  generalize (lg_sl ([.ref se]) ++ List.replicate (4 - (lg_sl ([.ref se])).length) Slot.unset).toArray = ls at hl ⊢
  have hl : lv_has ls 4 [(0, .ref se)] := hl
  refine lv_iconst (v := 0) hx hb dX2_closeApart_0 (by decide) ?_
  refine lv_istore_n (lv' := [(1, .int 0), (0, .ref se)]) hx hb dX2_closeApart_1 rfl hl (by decide) rfl (fun ls hl => ?_)
  refine lv_iload_n hx hb dX2_closeApart_2 rfl (lv_at hl 0 rfl) ?_
  refine lv_aload_n hx hb dX2_closeApart_3 rfl (lv_at hl 1 rfl) ?_
  refine va_get (D := (dC, dI)) (ci := 1) (v := .int 0) (C := RX2) (T := TX2) (N := 14) hx hb hts (by decide +kernel) hown hK hP 0 rfl rfl 3 (by decide) (hts (.fieldLink RX2 49 "DayBench$Search" "events" "I") (by decide +kernel)) (fun _ h9 => h9) rfl dX2_closeApart_4 ?_
  refine lv_icmp_ge (tgt := 113) hx hb dX2_closeApart_7 (by decide) (fun h_1 => ?_) (fun h_1 => ?_)
  · refine lv_iconst (v := 1) hx hb dX2_closeApart_113 (by decide) ?_
    exact W.zret (v := 1) hx hb hr rfl (fun t ht hW => ⟨_, rfl, rfl, ht⟩) (fun _ h => by cases h) dX2_closeApart_114
  · exact (by first | exact absurd h_1 (by decide) | exact absurd (by decide) h_1)

set_option maxHeartbeats 4000000 in
set_option maxRecDepth 100000 in
theorem k_X2_boundDays (l : Launch) (dC : Nat → ClassId) (dI : Nat → Nat → Nat) (se : Nat) (ea : Nat) (la : Nat) (ss : Nat) (spr : Nat) (fsp : Nat) (ap : Nat) (lw : Nat) (hg : Nat) (lk : Int32) (sp : Int32) (fo : Int32) (ti : Int32) (tg : Int32)  : Met l yX2_boundDays wsX2_boundDays ({ frames := 0, cells := 0, slots := 0, locals := 0 }) (va_Pc [.ref se] (rPre dC dI [(se, .inr (1, [.ref ea, .ref la, .int lk, .int 0, .int sp, .int fo, .int ti, .int tg, .ref ss, .ref spr, .ref fsp, .ref ap, .ref lw, .ref hg]))] [])) (va_Sv (fun _ => True)) 0 0 (fun _ => False) := by
  refine Met.ofW (cc := cX2_boundDays) (maxL := 3) (ret := none) (by decide) rfl ?_
  intro p e s m args below meth c s₁ B hml hv
  obtain ⟨rfl, hP, hK⟩ := hv
  have hx := B.exec
  have hb := B.bytes
  have hr := B.returns
  have hts := atoms_spec (ws := wsX2_boundDays) B.pre
  have hown : s.vm.findClass RX2 = some m.cls := findClass_of_methodNamed B.named
  have hlocks := B.notSynchronized
  have hl := lv_entry ([.ref se]) (n := 3) (Nat.le_of_ble_eq_true rfl)
  rw [lg_entry_eq]
  generalize (lg_sl ([.ref se]) ++ List.replicate (3 - (lg_sl ([.ref se])).length) Slot.unset).toArray = ls at hl ⊢
  have hl : lv_has ls 3 [(0, .ref se)] := hl
  refine lv_iconst (v := 0) hx hb dX2_boundDays_0 (by decide) ?_
  refine lv_istore_n (lv' := [(1, .int 0), (0, .ref se)]) hx hb dX2_boundDays_1 rfl hl (by decide) rfl (fun ls hl => ?_)
  refine lv_iload_n hx hb dX2_boundDays_2 rfl (lv_at hl 0 rfl) ?_
  refine lv_aload_n hx hb dX2_boundDays_3 rfl (lv_at hl 1 rfl) ?_
  refine va_get (D := (dC, dI)) (ci := 1) (v := .int 0) (C := RX2) (T := TX2) (N := 14) hx hb hts (by decide +kernel) hown hK hP 0 rfl rfl 3 (by decide) (hts (.fieldLink RX2 49 "DayBench$Search" "events" "I") (by decide +kernel)) (fun _ h9 => h9) rfl dX2_boundDays_4 ?_
  refine lv_icmp_ge (tgt := 109) hx hb dX2_boundDays_7 (by decide) (fun h_1 => ?_) (fun h_1 => ?_)
  · exact W.vret hx hb hr (fun t ht hW => ⟨rfl, trivial, ht⟩) (fun _ h => by cases h) dX2_boundDays_109
  · exact (by first | exact absurd h_1 (by decide) | exact absurd (by decide) h_1)

set_option maxHeartbeats 4000000 in
set_option maxRecDepth 100000 in
theorem k_X2_lay (l : Launch) (dC : Nat → ClassId) (dI : Nat → Nat → Nat) (sz : Nat) (se : Nat) (ea : Nat) (la : Nat) (ss : Nat) (spr : Nat) (fsp : Nat) (ap : Nat) (lw : Nat) (hg : Nat) (lk : Int32) (sp : Int32) (fo : Int32) (ti : Int32) (tg : Int32) (sy : Nat) (cS : ClassId) (fS : Nat → Option Nat)  : Met l yX2_lay wsX2_lay ({ frames := 1, cells := 0, slots := 0, locals := 23 }) (va_Pc [.ref se, .ref sy, .int 0] (wPre dC dI sz [(se, .inr (1, [.ref ea, .ref la, .int lk, .int 0, .int sp, .int fo, .int ti, .int tg, .ref ss, .ref spr, .ref fsp, .ref ap, .ref lw, .ref hg])), (sy, .inl (cS, 12, .inr (.inr (.inr (.inr fS)))))] [(cS, (.object "DayBench$Saying"))])) (va_Qv (fun (u : Unit) => True) (fun (u : Unit) t => wPost dC dI (va_A [(se, .inr (1, [.ref ea, .ref la, .int lk, .int 0, .int sp, .int fo, .int ti, .int tg, .ref ss, .ref spr, .ref fsp, .ref ap, .ref lw, .ref hg])), (sy, .inl (cS, 12, .inr (.inr (.inr (.inr fS)))))] sz) [(se, .inr (1, [.ref ea, .ref la, .int lk, .int 0, .int sp, .int fo, .int ti, .int 1, .ref ss, .ref spr, .ref fsp, .ref ap, .ref lw, .ref hg])), (sy, .inl (cS, 12, .inr (.inr (.inr (.inr fS)))))] t) (va_A [(se, .inr (1, [.ref ea, .ref la, .int lk, .int 0, .int sp, .int fo, .int ti, .int tg, .ref ss, .ref spr, .ref fsp, .ref ap, .ref lw, .ref hg])), (sy, .inl (cS, 12, .inr (.inr (.inr (.inr fS)))))] sz)) 0 0 (va_A [(se, .inr (1, [.ref ea, .ref la, .int lk, .int 0, .int sp, .int fo, .int ti, .int tg, .ref ss, .ref spr, .ref fsp, .ref ap, .ref lw, .ref hg])), (sy, .inl (cS, 12, .inr (.inr (.inr (.inr fS)))))] sz) := by
  refine Met.ofW (cc := cX2_lay) (maxL := 4) (ret := none) (by decide) rfl ?_
  intro p e s m args below meth c s₁ B hml hv
  obtain ⟨rfl, hsz, hP, hK, hD0⟩ := hv
  have hx := B.exec
  have hb := B.bytes
  have hr := B.returns
  have hts := atoms_spec (ws := wsX2_lay) B.pre
  have hown : s.vm.findClass RX2 = some m.cls := findClass_of_methodNamed B.named
  have hlocks := B.notSynchronized
  subst hsz
  have hD := hD0.self (sz := s.heap.size)
  generalize hAe : va_A [(se, .inr (1, [.ref ea, .ref la, .int lk, .int 0, .int sp, .int fo, .int ti, .int tg, .ref ss, .ref spr, .ref fsp, .ref ap, .ref lw, .ref hg])), (sy, .inl (cS, 12, .inr (.inr (.inr (.inr fS)))))] s.heap.size = A at hD ⊢
  have hA : ∀ q : Nat, s.heap.size ≤ q → A q := fun q h => by rw [← hAe]; exact Or.inr h
  have hS : va_S A s.heap s.heap [] := va_S.rf
  have hP : va_P (dC, dI) vwCl [(se, .inr (1, [.ref ea, .ref la, .int lk, .int 0, .int sp, .int fo, .int ti, .int tg, .ref ss, .ref spr, .ref fsp, .ref ap, .ref lw, .ref hg])), (sy, .inl (cS, 12, .inr (.inr (.inr (.inr fS)))))] s.heap := hP
  have hl := lv_entry ([.ref se, .ref sy, .int 0]) (n := 4) (Nat.le_of_ble_eq_true rfl)
  rw [lg_entry_eq]
  generalize (lg_sl ([.ref se, .ref sy, .int 0]) ++ List.replicate (4 - (lg_sl ([.ref se, .ref sy, .int 0])).length) Slot.unset).toArray = ls at hl ⊢
  have hl : lv_has ls 4 [(0, .ref se), (1, .ref sy), (2, .int 0)] := hl
  refine lv_aload_n hx hb dX2_lay_0 rfl (lv_at hl 0 rfl) ?_
  have hPc := hP.sub (ws' := [(se, .inr (1, [.ref ea, .ref la, .int lk, .int 0, .int sp, .int fo, .int ti, .int tg, .ref ss, .ref spr, .ref fsp, .ref ap, .ref lw, .ref hg]))]) [0] rfl
  have hKc := hK.sub (tys' := []) [] rfl
  refine va_csv (va_Run.run (va_runV (As := []) (rest := []) ⟨hx, hb, hml, hown, hts⟩ (k_X2_clearTable l dC dI se ea la ss spr fsp ap lw hg lk sp fo ti tg) (cwV 0 hts gX2_lay_X2_clearTable rfl rfl rfl (by decide +kernel) ⟨Nat.le_of_ble_eq_true rfl, Nat.le_of_ble_eq_true rfl⟩) ⟨rPre_blind, va_recv hKc hPc (ci := 1) (q0 := 0) rfl rfl, fun U hU hW => ⟨rfl, rPre_at hPc hKc hU hW⟩⟩ rfl rfl hl.1 rfl (lv_room (Nat.le_of_ble_eq_true rfl)) dX2_lay_1 ⟨Nat.le_of_ble_eq_true rfl, Nat.le_of_ble_eq_true rfl⟩)) (fun _ => ?_)
  refine lv_iconst (v := 0) hx hb dX2_lay_4 (by decide) ?_
  refine lv_istore_n (lv' := [(3, .int 0), (0, .ref se), (1, .ref sy), (2, .int 0)]) hx hb dX2_lay_5 rfl hl (by decide) rfl (fun ls hl => ?_)
  have hloop : ∀ (n k : Nat), k ≤ 12 → 12 < k + n → ∀ (ls : Array Slot), lv_has ls 4 [(3, .int (nI k)), (0, .ref se), (1, .ref sy), (2, .int 0)] → W p l e (headSpec wsX2_lay ({ frames := 1, cells := 0, slots := 0, locals := 23 })).room s m [.ref se, .ref sy, .int 0].toArray below meth c s.heap [] 0 0 (MQ below (va_Qv (fun (u : Unit) => True) (fun (u : Unit) t => wPost dC dI A [(se, .inr (1, [.ref ea, .ref la, .int lk, .int 0, .int sp, .int fo, .int ti, .int 1, .ref ss, .ref spr, .ref fsp, .ref ap, .ref lw, .ref hg])), (sy, .inl (cS, 12, .inr (.inr (.inr (.inr fS)))))] t) A) [.ref se, .ref sy, .int 0].toArray s 0 0 A) (F0 m 6 ls []) := by
    intro n
    induction n with
    | zero => intro k h1 h3; omega
    | succ n ih =>
      intro k hk hn ls hl
      refine lv_iload_n hx hb dX2_lay_6 rfl (lv_at hl 0 rfl) ?_
      refine lv_aload_n hx hb dX2_lay_7 rfl (lv_at hl 2 rfl) ?_
      refine va_alen (v := 12) hx hb hK hP 1 0 rfl rfl rfl dX2_lay_8 ?_
      refine lv_icmp_ge (tgt := 66) hx hb dX2_lay_9 (by decide) (fun h_1 => ?_) (fun h_1 => ?_)
      · refine lv_aload_n hx hb dX2_lay_66 rfl (lv_at hl 1 rfl) ?_
        refine lv_aload_n hx hb dX2_lay_67 rfl (lv_at hl 1 rfl) ?_
        have hPc := hP.sub (ws' := [(se, .inr (1, [.ref ea, .ref la, .int lk, .int 0, .int sp, .int fo, .int ti, .int tg, .ref ss, .ref spr, .ref fsp, .ref ap, .ref lw, .ref hg]))]) [0] rfl
        have hKc := hK.sub (tys' := []) [] rfl
        refine vp_callSi (va_Run.run (va_runV (As := []) (rest := [.ref se]) ⟨hx, hb, hml, hown, hts⟩ (k_X2_closeApart l dC dI se ea la ss spr fsp ap lw hg lk sp fo ti tg) (cwV 0 hts gX2_lay_X2_closeApart rfl rfl rfl (by decide +kernel) ⟨Nat.le_of_ble_eq_true rfl, Nat.le_of_ble_eq_true rfl⟩) ⟨rPre_blind, va_recv hKc hPc (ci := 1) (q0 := 0) rfl rfl, fun U hU hW => ⟨rfl, rPre_at hPc hKc hU hW⟩⟩ rfl rfl hl.1 rfl (lv_room (Nat.le_of_ble_eq_true rfl)) dX2_lay_68 ⟨Nat.le_of_ble_eq_true rfl, Nat.le_of_ble_eq_true rfl⟩)) (fun r_2 er_2 => ?_)
        subst er_2
        refine va_put (D := (dC, dI)) (ci := 1) (v := .int 1) (ty := .boolean) (C := RX2) (T := TX2) (N := 14) hx hb hts (by decide +kernel) tyX2 tyX2_ok nmX2 hown hK hP hD hS 0 rfl rfl 7 (by decide) (hts (.fieldLink RX2 85 "DayBench$Search" "together" "Z") (by decide +kernel)) (fun _ h9 => h9) rfl (by decide +kernel) rfl rfl (Nat.le_of_ble_eq_true rfl) dX2_lay_71 (fun H locs hP hD hS => ?_)
        have hP : va_P (dC, dI) vwCl [(se, .inr (1, [.ref ea, .ref la, .int lk, .int 0, .int sp, .int fo, .int ti, .int 1, .ref ss, .ref spr, .ref fsp, .ref ap, .ref lw, .ref hg])), (sy, .inl (cS, 12, .inr (.inr (.inr (.inr fS)))))] H := hP
        have hD : va_D A [(se, .inr (1, [.ref ea, .ref la, .int lk, .int 0, .int sp, .int fo, .int ti, .int 1, .ref ss, .ref spr, .ref fsp, .ref ap, .ref lw, .ref hg])), (sy, .inl (cS, 12, .inr (.inr (.inr (.inr fS)))))] := hD
        refine lv_aload_n hx hb dX2_lay_74 rfl (lv_at hl 1 rfl) ?_
        have hPc := hP.sub (ws' := [(se, .inr (1, [.ref ea, .ref la, .int lk, .int 0, .int sp, .int fo, .int ti, .int 1, .ref ss, .ref spr, .ref fsp, .ref ap, .ref lw, .ref hg]))]) [0] rfl
        have hKc := hK.sub (tys' := []) [] rfl
        refine va_csv (va_Run.run (va_runV (As := []) (rest := []) ⟨hx, hb, hml, hown, hts⟩ (k_X2_boundDays l dC dI se ea la ss spr fsp ap lw hg lk sp fo ti 1) (cwV 0 hts gX2_lay_X2_boundDays rfl rfl rfl (by decide +kernel) ⟨Nat.le_of_ble_eq_true rfl, Nat.le_of_ble_eq_true rfl⟩) ⟨rPre_blind, va_recv hKc hPc (ci := 1) (q0 := 0) rfl rfl, fun U hU hW => ⟨rfl, rPre_at hPc hKc hU hW⟩⟩ rfl rfl hl.1 rfl (lv_room (Nat.le_of_ble_eq_true rfl)) dX2_lay_75 ⟨Nat.le_of_ble_eq_true rfl, Nat.le_of_ble_eq_true rfl⟩)) (fun _ => ?_)
        have hP9 := hP.sub (ws' := [(se, .inr (1, [.ref ea, .ref la, .int lk, .int 0, .int sp, .int fo, .int ti, .int 1, .ref ss, .ref spr, .ref fsp, .ref ap, .ref lw, .ref hg])), (sy, .inl (cS, 12, .inr (.inr (.inr (.inr fS)))))]) [0, 1] rfl
        have hD9 := hD.sub (ws' := [(se, .inr (1, [.ref ea, .ref la, .int lk, .int 0, .int sp, .int fo, .int ti, .int 1, .ref ss, .ref spr, .ref fsp, .ref ap, .ref lw, .ref hg])), (sy, .inl (cS, 12, .inr (.inr (.inr (.inr fS)))))]) [0, 1] (by decide) rfl
        exact W.vret hx hb hr (fun t ht hW => ⟨⟨(), rfl, trivial, by rw [ht]; exact hP9, hD9⟩, hS.F ht⟩) hS.2.2 dX2_lay_78
      · refine lv_iload_n hx hb dX2_lay_12 rfl (lv_at hl 3 rfl) ?_
        refine lv_iload_n hx hb dX2_lay_13 rfl (lv_at hl 0 rfl) ?_
        refine lv_ishr hx hb dX2_lay_14 ?_
        refine lv_iconst (v := 1) hx hb dX2_lay_15 (by decide) ?_
        refine lv_iand hx hb dX2_lay_16 ?_
        refine lv_if_ne (tgt := 23) hx hb dX2_lay_17 (by decide) (fun h_3 => ?_) (fun h_3 => ?_)
        · exact absurd (sh_0 _) h_3
        · refine lv_goto (tgt := 60) hx hb dX2_lay_20 (by decide) ?_
          obtain ⟨x_4, ex_4⟩ : ∃ y : Int32, y = (nI k) + 1 := ⟨_, rfl⟩
          refine lv_iinc (v := x_4) (lv' := [(3, .int x_4), (0, .ref se), (1, .ref sy), (2, .int 0)]) hx hb dX2_lay_60 hl (k := 0) rfl (by rw [ex_4]; rfl) (by decide) rfl (fun ls hl => ?_)
          refine lv_goto (tgt := 6) hx hb dX2_lay_63 (by decide) ?_
          have e3 : x_4 = nI (k + 1) := by rw [ex_4, nI_1]
          have hk1 : ¬ 12 ≤ k := fun q => h_1 (nI_le (a := 12) q (by omega))
          rw [e3] at hl
          exact ih (k + 1) (by omega) (by omega) ls (lv_sub hl [0, 1, 2, 3] rfl)
  exact hloop 13 0 (by omega) (by omega) ls (lv_sub hl [0, 1, 2, 3] rfl)

set_option maxHeartbeats 4000000 in
set_option maxRecDepth 100000 in
theorem k_X2_noteWay (l : Launch) (dC : Nat → ClassId) (dI : Nat → Nat → Nat) (sz : Nat) (se : Nat) (ea : Nat) (la : Nat) (ss : Nat) (spr : Nat) (fsp : Nat) (ap : Nat) (lw : Nat) (hg : Nat) (lk : Int32) (sp : Int32) (fo : Int32) (ti : Int32) (tg : Int32)  : Met l yX2_noteWay wsX2_noteWay ({ frames := 0, cells := 0, slots := 0, locals := 0 }) (va_Pc [.ref se] (wPre dC dI sz [(se, .inr (1, [.ref ea, .ref la, .int lk, .int 0, .int sp, .int fo, .int ti, .int tg, .ref ss, .ref spr, .ref fsp, .ref ap, .ref lw, .ref hg]))] [])) (va_Qv (fun (u : Unit) => True) (fun (u : Unit) t => wPost dC dI (va_A [(se, .inr (1, [.ref ea, .ref la, .int lk, .int 0, .int sp, .int fo, .int ti, .int tg, .ref ss, .ref spr, .ref fsp, .ref ap, .ref lw, .ref hg]))] sz) [(se, .inr (1, [.ref ea, .ref la, .int lk, .int 0, .int sp, .int 1, .int ti, .int tg, .ref ss, .ref spr, .ref fsp, .ref ap, .ref lw, .ref hg]))] t) (va_A [(se, .inr (1, [.ref ea, .ref la, .int lk, .int 0, .int sp, .int fo, .int ti, .int tg, .ref ss, .ref spr, .ref fsp, .ref ap, .ref lw, .ref hg]))] sz)) 0 0 (va_A [(se, .inr (1, [.ref ea, .ref la, .int lk, .int 0, .int sp, .int fo, .int ti, .int tg, .ref ss, .ref spr, .ref fsp, .ref ap, .ref lw, .ref hg]))] sz) := by
  refine Met.ofW (cc := cX2_noteWay) (maxL := 4) (ret := none) (by decide) rfl ?_
  intro p e s m args below meth c s₁ B hml hv
  obtain ⟨rfl, hsz, hP, hK, hD0⟩ := hv
  have hx := B.exec
  have hb := B.bytes
  have hr := B.returns
  have hts := atoms_spec (ws := wsX2_noteWay) B.pre
  have hown : s.vm.findClass RX2 = some m.cls := findClass_of_methodNamed B.named
  have hlocks := B.notSynchronized
  subst hsz
  have hD := hD0.self (sz := s.heap.size)
  generalize hAe : va_A [(se, .inr (1, [.ref ea, .ref la, .int lk, .int 0, .int sp, .int fo, .int ti, .int tg, .ref ss, .ref spr, .ref fsp, .ref ap, .ref lw, .ref hg]))] s.heap.size = A at hD ⊢
  have hA : ∀ q : Nat, s.heap.size ≤ q → A q := fun q h => by rw [← hAe]; exact Or.inr h
  have hS : va_S A s.heap s.heap [] := va_S.rf
  have hP : va_P (dC, dI) vwCl [(se, .inr (1, [.ref ea, .ref la, .int lk, .int 0, .int sp, .int fo, .int ti, .int tg, .ref ss, .ref spr, .ref fsp, .ref ap, .ref lw, .ref hg]))] s.heap := hP
  have hl := lv_entry ([.ref se]) (n := 4) (Nat.le_of_ble_eq_true rfl)
  rw [lg_entry_eq]
  generalize (lg_sl ([.ref se]) ++ List.replicate (4 - (lg_sl ([.ref se])).length) Slot.unset).toArray = ls at hl ⊢
  have hl : lv_has ls 4 [(0, .ref se)] := hl
  refine lv_iconst (v := 0) hx hb dX2_noteWay_0 (by decide) ?_
  refine lv_istore_n (lv' := [(1, .int 0), (0, .ref se)]) hx hb dX2_noteWay_1 rfl hl (by decide) rfl (fun ls hl => ?_)
  refine lv_iload_n hx hb dX2_noteWay_2 rfl (lv_at hl 0 rfl) ?_
  refine lv_aload_n hx hb dX2_noteWay_3 rfl (lv_at hl 1 rfl) ?_
  refine va_get (D := (dC, dI)) (ci := 1) (v := .int 0) (C := RX2) (T := TX2) (N := 14) hx hb hts (by decide +kernel) hown hK hP 0 rfl rfl 3 (by decide) (hts (.fieldLink RX2 49 "DayBench$Search" "events" "I") (by decide +kernel)) (fun _ h9 => h9) rfl dX2_noteWay_4 ?_
  refine lv_icmp_ge (tgt := 94) hx hb dX2_noteWay_7 (by decide) (fun h_1 => ?_) (fun h_1 => ?_)
  · refine lv_aload_n hx hb dX2_noteWay_94 rfl (lv_at hl 1 rfl) ?_
    refine lv_iconst (v := 1) hx hb dX2_noteWay_95 (by decide) ?_
    refine va_put (D := (dC, dI)) (ci := 1) (v := .int 1) (ty := .boolean) (C := RX2) (T := TX2) (N := 14) hx hb hts (by decide +kernel) tyX2 tyX2_ok nmX2 hown hK hP hD hS 0 rfl rfl 5 (by decide) (hts (.fieldLink RX2 118 "DayBench$Search" "found" "Z") (by decide +kernel)) (fun _ h9 => h9) rfl (by decide +kernel) rfl rfl (Nat.le_of_ble_eq_true rfl) dX2_noteWay_96 (fun H locs hP hD hS => ?_)
    have hP : va_P (dC, dI) vwCl [(se, .inr (1, [.ref ea, .ref la, .int lk, .int 0, .int sp, .int 1, .int ti, .int tg, .ref ss, .ref spr, .ref fsp, .ref ap, .ref lw, .ref hg]))] H := hP
    have hD : va_D A [(se, .inr (1, [.ref ea, .ref la, .int lk, .int 0, .int sp, .int 1, .int ti, .int tg, .ref ss, .ref spr, .ref fsp, .ref ap, .ref lw, .ref hg]))] := hD
    have hP9 := hP.sub (ws' := [(se, .inr (1, [.ref ea, .ref la, .int lk, .int 0, .int sp, .int 1, .int ti, .int tg, .ref ss, .ref spr, .ref fsp, .ref ap, .ref lw, .ref hg]))]) [0] rfl
    have hD9 := hD.sub (ws' := [(se, .inr (1, [.ref ea, .ref la, .int lk, .int 0, .int sp, .int 1, .int ti, .int tg, .ref ss, .ref spr, .ref fsp, .ref ap, .ref lw, .ref hg]))]) [0] (by decide) rfl
    exact W.vret hx hb hr (fun t ht hW => ⟨⟨(), rfl, trivial, by rw [ht]; exact hP9, hD9⟩, hS.F ht⟩) hS.2.2 dX2_noteWay_99
  · exact (by first | exact absurd h_1 (by decide) | exact absurd (by decide) h_1)

set_option maxHeartbeats 4000000 in
set_option maxRecDepth 100000 in
theorem k_X2_takeSpans (l : Launch) (dC : Nat → ClassId) (dI : Nat → Nat → Nat) (sz : Nat) (se : Nat) (ea : Nat) (la : Nat) (ss : Nat) (spr : Nat) (fsp : Nat) (ap : Nat) (lw : Nat) (hg : Nat) (lk : Int32) (sp : Int32) (fo : Int32) (ti : Int32) (tg : Int32)  : Met l yX2_takeSpans wsX2_takeSpans ({ frames := 1, cells := 0, slots := 0, locals := 23 }) (va_Pc [.ref se, .int 0] (wPre dC dI sz [(se, .inr (1, [.ref ea, .ref la, .int lk, .int 0, .int sp, .int fo, .int ti, .int tg, .ref ss, .ref spr, .ref fsp, .ref ap, .ref lw, .ref hg]))] [])) (va_Qv (fun (u : Unit) => True) (fun (u : Unit) t => wPost dC dI (va_A [(se, .inr (1, [.ref ea, .ref la, .int lk, .int 0, .int sp, .int fo, .int ti, .int tg, .ref ss, .ref spr, .ref fsp, .ref ap, .ref lw, .ref hg]))] sz) [(se, .inr (1, [.ref ea, .ref la, .int lk, .int 0, .int sp, .int 1, .int ti, .int tg, .ref ss, .ref spr, .ref fsp, .ref ap, .ref lw, .ref hg]))] t) (va_A [(se, .inr (1, [.ref ea, .ref la, .int lk, .int 0, .int sp, .int fo, .int ti, .int tg, .ref ss, .ref spr, .ref fsp, .ref ap, .ref lw, .ref hg]))] sz)) 0 0 (va_A [(se, .inr (1, [.ref ea, .ref la, .int lk, .int 0, .int sp, .int fo, .int ti, .int tg, .ref ss, .ref spr, .ref fsp, .ref ap, .ref lw, .ref hg]))] sz) := by
  refine Met.ofW (cc := cX2_takeSpans) (maxL := 3) (ret := none) (by decide) rfl ?_
  intro p e s m args below meth c s₁ B hml hv
  obtain ⟨rfl, hsz, hP, hK, hD0⟩ := hv
  have hx := B.exec
  have hb := B.bytes
  have hr := B.returns
  have hts := atoms_spec (ws := wsX2_takeSpans) B.pre
  have hown : s.vm.findClass RX2 = some m.cls := findClass_of_methodNamed B.named
  have hlocks := B.notSynchronized
  subst hsz
  have hD := hD0.self (sz := s.heap.size)
  generalize hAe : va_A [(se, .inr (1, [.ref ea, .ref la, .int lk, .int 0, .int sp, .int fo, .int ti, .int tg, .ref ss, .ref spr, .ref fsp, .ref ap, .ref lw, .ref hg]))] s.heap.size = A at hD ⊢
  have hA : ∀ q : Nat, s.heap.size ≤ q → A q := fun q h => by rw [← hAe]; exact Or.inr h
  have hS : va_S A s.heap s.heap [] := va_S.rf
  have hP : va_P (dC, dI) vwCl [(se, .inr (1, [.ref ea, .ref la, .int lk, .int 0, .int sp, .int fo, .int ti, .int tg, .ref ss, .ref spr, .ref fsp, .ref ap, .ref lw, .ref hg]))] s.heap := hP
  have hl := lv_entry ([.ref se, .int 0]) (n := 3) (Nat.le_of_ble_eq_true rfl)
  rw [lg_entry_eq]
  generalize (lg_sl ([.ref se, .int 0]) ++ List.replicate (3 - (lg_sl ([.ref se, .int 0])).length) Slot.unset).toArray = ls at hl ⊢
  have hl : lv_has ls 3 [(0, .ref se), (1, .int 0)] := hl
  refine lv_iload_n hx hb dX2_takeSpans_0 rfl (lv_at hl 1 rfl) ?_
  refine lv_aload_n hx hb dX2_takeSpans_1 rfl (lv_at hl 0 rfl) ?_
  refine va_get (D := (dC, dI)) (ci := 1) (v := .int 0) (C := RX2) (T := TX2) (N := 14) hx hb hts (by decide +kernel) hown hK hP 0 rfl rfl 3 (by decide) (hts (.fieldLink RX2 49 "DayBench$Search" "events" "I") (by decide +kernel)) (fun _ h9 => h9) rfl dX2_takeSpans_2 ?_
  refine lv_icmp_lt (tgt := 13) hx hb dX2_takeSpans_5 (by decide) (fun h_1 => ?_) (fun h_1 => ?_)
  · exact (by first | exact absurd h_1 (by decide) | exact absurd (by decide) h_1)
  · refine lv_aload_n hx hb dX2_takeSpans_8 rfl (lv_at hl 0 rfl) ?_
    have hPc := hP.sub (ws' := [(se, .inr (1, [.ref ea, .ref la, .int lk, .int 0, .int sp, .int fo, .int ti, .int tg, .ref ss, .ref spr, .ref fsp, .ref ap, .ref lw, .ref hg]))]) [0] rfl
    have hKc := hK.sub (tys' := []) [] rfl
    have hDc := hD.sub (ws' := [(se, .inr (1, [.ref ea, .ref la, .int lk, .int 0, .int sp, .int fo, .int ti, .int tg, .ref ss, .ref spr, .ref fsp, .ref ap, .ref lw, .ref hg]))]) [0] (by decide) rfl
    have hFc := va_free (wc := [(se, .inr (1, [.ref ea, .ref la, .int lk, .int 0, .int sp, .int fo, .int ti, .int tg, .ref ss, .ref spr, .ref fsp, .ref ap, .ref lw, .ref hg]))]) hD hS hA [0] rfl
    refine va_callv (va_runV (As := []) (rest := []) ⟨hx, hb, hml, hown, hts⟩ (k_X2_noteWay l dC dI s.heap.size se ea la ss spr fsp ap lw hg lk sp fo ti tg) (cwV 0 hts gX2_takeSpans_X2_noteWay rfl rfl rfl (by decide +kernel) ⟨Nat.le_of_ble_eq_true rfl, Nat.le_of_ble_eq_true rfl⟩) ⟨wPre_blind, va_recv hKc hPc (ci := 1) (q0 := 0) rfl rfl, fun U hU hW => ⟨rfl, wPre_at hPc hKc hDc hU hW⟩⟩ rfl rfl hl.1 rfl (lv_room (Nat.le_of_ble_eq_true rfl)) dX2_takeSpans_9 ⟨Nat.le_of_ble_eq_true rfl, Nat.le_of_ble_eq_true rfl⟩) hS (fun q _ h => hFc q h) hFc (fun u t H1 locs ht hvm hw hB hz1 hk1 hS => ?_)
    obtain ⟨hP1, hD1⟩ := hB
    rw [ht] at hP1
    obtain ⟨hP, hD⟩ := va_join (wr := []) (w1 := [(se, .inr (1, [.ref ea, .ref la, .int lk, .int 0, .int sp, .int 1, .int ti, .int tg, .ref ss, .ref spr, .ref fsp, .ref ap, .ref lw, .ref hg]))]) hP hD [0] [] rfl rfl (by decide) (by decide) hk1 hFc hP1 hD1
    clear hP1 hD1 hz1 hk1 hFc hPc hDc ht
    generalize H1 = H at hP hS ⊢
    have hP : va_P (dC, dI) vwCl [(se, .inr (1, [.ref ea, .ref la, .int lk, .int 0, .int sp, .int 1, .int ti, .int tg, .ref ss, .ref spr, .ref fsp, .ref ap, .ref lw, .ref hg]))] H := hP
    have hD : va_D A [(se, .inr (1, [.ref ea, .ref la, .int lk, .int 0, .int sp, .int 1, .int ti, .int tg, .ref ss, .ref spr, .ref fsp, .ref ap, .ref lw, .ref hg]))] := hD
    have hP9 := hP.sub (ws' := [(se, .inr (1, [.ref ea, .ref la, .int lk, .int 0, .int sp, .int 1, .int ti, .int tg, .ref ss, .ref spr, .ref fsp, .ref ap, .ref lw, .ref hg]))]) [0] rfl
    have hD9 := hD.sub (ws' := [(se, .inr (1, [.ref ea, .ref la, .int lk, .int 0, .int sp, .int 1, .int ti, .int tg, .ref ss, .ref spr, .ref fsp, .ref ap, .ref lw, .ref hg]))]) [0] (by decide) rfl
    exact W.vret hx hb hr (fun t ht hW => ⟨⟨(), rfl, trivial, by rw [ht]; exact hP9, hD9⟩, hS.F ht⟩) hS.2.2 dX2_takeSpans_12

set_option maxHeartbeats 4000000 in
set_option maxRecDepth 100000 in
theorem k_X2_run_1 (l : Launch) (dC : Nat → ClassId) (dI : Nat → Nat → Nat) (sz : Nat) (se : Nat) (ea : Nat) (la : Nat) (ss : Nat) (spr : Nat) (fsp : Nat) (ap : Nat) (lw : Nat) (hg : Nat) (lk : Int32) (fo : Int32) (ti : Int32) (tg : Int32)  : Met l yX2_run wsX2_run ({ frames := 2, cells := 0, slots := 0, locals := 45 }) (va_Pc [.ref se, .int 1] (wPre dC dI sz [(se, .inr (1, [.ref ea, .ref la, .int lk, .int 0, .int 0, .int fo, .int ti, .int tg, .ref ss, .ref spr, .ref fsp, .ref ap, .ref lw, .ref hg]))] [])) (va_Qi (fun (r : Int32) (u : Unit) => r = 1) (fun (u : Unit) t => wPost dC dI (va_A [(se, .inr (1, [.ref ea, .ref la, .int lk, .int 0, .int 0, .int fo, .int ti, .int tg, .ref ss, .ref spr, .ref fsp, .ref ap, .ref lw, .ref hg]))] sz) [(se, .inr (1, [.ref ea, .ref la, .int lk, .int 0, .int 0, .int 1, .int 1, .int tg, .ref ss, .ref spr, .ref fsp, .ref ap, .ref lw, .ref hg]))] t) (va_A [(se, .inr (1, [.ref ea, .ref la, .int lk, .int 0, .int 0, .int fo, .int ti, .int tg, .ref ss, .ref spr, .ref fsp, .ref ap, .ref lw, .ref hg]))] sz)) 0 0 (va_A [(se, .inr (1, [.ref ea, .ref la, .int lk, .int 0, .int 0, .int fo, .int ti, .int tg, .ref ss, .ref spr, .ref fsp, .ref ap, .ref lw, .ref hg]))] sz) := by
  refine Met.ofW (cc := cX2_run) (maxL := 2) (ret := (some .int)) (by decide) rfl ?_
  intro p e s m args below meth c s₁ B hml hv
  obtain ⟨rfl, hsz, hP, hK, hD0⟩ := hv
  have hx := B.exec
  have hb := B.bytes
  have hr := B.returns
  have hts := atoms_spec (ws := wsX2_run) B.pre
  have hown : s.vm.findClass RX2 = some m.cls := findClass_of_methodNamed B.named
  have hlocks := B.notSynchronized
  subst hsz
  have hD := hD0.self (sz := s.heap.size)
  generalize hAe : va_A [(se, .inr (1, [.ref ea, .ref la, .int lk, .int 0, .int 0, .int fo, .int ti, .int tg, .ref ss, .ref spr, .ref fsp, .ref ap, .ref lw, .ref hg]))] s.heap.size = A at hD ⊢
  have hA : ∀ q : Nat, s.heap.size ≤ q → A q := fun q h => by rw [← hAe]; exact Or.inr h
  have hS : va_S A s.heap s.heap [] := va_S.rf
  have hP : va_P (dC, dI) vwCl [(se, .inr (1, [.ref ea, .ref la, .int lk, .int 0, .int 0, .int fo, .int ti, .int tg, .ref ss, .ref spr, .ref fsp, .ref ap, .ref lw, .ref hg]))] s.heap := hP
  have hl := lv_entry ([.ref se, .int 1]) (n := 2) (Nat.le_of_ble_eq_true rfl)
  rw [lg_entry_eq]
  generalize (lg_sl ([.ref se, .int 1]) ++ List.replicate (2 - (lg_sl ([.ref se, .int 1])).length) Slot.unset).toArray = ls at hl ⊢
  have hl : lv_has ls 2 [(0, .ref se), (1, .int 1)] := hl
  refine lv_aload_n hx hb dX2_run_0 rfl (lv_at hl 0 rfl) ?_
  refine lv_iload_n hx hb dX2_run_1 rfl (lv_at hl 1 rfl) ?_
  refine va_put (D := (dC, dI)) (ci := 1) (v := .int 1) (ty := .boolean) (C := RX2) (T := TX2) (N := 14) hx hb hts (by decide +kernel) tyX2 tyX2_ok nmX2 hown hK hP hD hS 0 rfl rfl 6 (by decide) (hts (.fieldLink RX2 115 "DayBench$Search" "tillOne" "Z") (by decide +kernel)) (fun _ h9 => h9) rfl (by decide +kernel) rfl rfl (Nat.le_of_ble_eq_true rfl) dX2_run_2 (fun H locs hP hD hS => ?_)
  have hP : va_P (dC, dI) vwCl [(se, .inr (1, [.ref ea, .ref la, .int lk, .int 0, .int 0, .int fo, .int 1, .int tg, .ref ss, .ref spr, .ref fsp, .ref ap, .ref lw, .ref hg]))] H := hP
  have hD : va_D A [(se, .inr (1, [.ref ea, .ref la, .int lk, .int 0, .int 0, .int fo, .int 1, .int tg, .ref ss, .ref spr, .ref fsp, .ref ap, .ref lw, .ref hg]))] := hD
  refine lv_aload_n hx hb dX2_run_5 rfl (lv_at hl 0 rfl) ?_
  refine lv_iconst (v := 0) hx hb dX2_run_6 (by decide) ?_
  refine va_put (D := (dC, dI)) (ci := 1) (v := .int 0) (ty := .boolean) (C := RX2) (T := TX2) (N := 14) hx hb hts (by decide +kernel) tyX2 tyX2_ok nmX2 hown hK hP hD hS 0 rfl rfl 5 (by decide) (hts (.fieldLink RX2 118 "DayBench$Search" "found" "Z") (by decide +kernel)) (fun _ h9 => h9) rfl (by decide +kernel) rfl rfl (Nat.le_of_ble_eq_true rfl) dX2_run_7 (fun H locs hP hD hS => ?_)
  have hP : va_P (dC, dI) vwCl [(se, .inr (1, [.ref ea, .ref la, .int lk, .int 0, .int 0, .int 0, .int 1, .int tg, .ref ss, .ref spr, .ref fsp, .ref ap, .ref lw, .ref hg]))] H := hP
  have hD : va_D A [(se, .inr (1, [.ref ea, .ref la, .int lk, .int 0, .int 0, .int 0, .int 1, .int tg, .ref ss, .ref spr, .ref fsp, .ref ap, .ref lw, .ref hg]))] := hD
  refine lv_aload_n hx hb dX2_run_10 rfl (lv_at hl 0 rfl) ?_
  refine lv_iconst (v := 0) hx hb dX2_run_11 (by decide) ?_
  have hPc := hP.sub (ws' := [(se, .inr (1, [.ref ea, .ref la, .int lk, .int 0, .int 0, .int 0, .int 1, .int tg, .ref ss, .ref spr, .ref fsp, .ref ap, .ref lw, .ref hg]))]) [0] rfl
  have hKc := hK.sub (tys' := []) [] rfl
  have hDc := hD.sub (ws' := [(se, .inr (1, [.ref ea, .ref la, .int lk, .int 0, .int 0, .int 0, .int 1, .int tg, .ref ss, .ref spr, .ref fsp, .ref ap, .ref lw, .ref hg]))]) [0] (by decide) rfl
  have hFc := va_free (wc := [(se, .inr (1, [.ref ea, .ref la, .int lk, .int 0, .int 0, .int 0, .int 1, .int tg, .ref ss, .ref spr, .ref fsp, .ref ap, .ref lw, .ref hg]))]) hD hS hA [0] rfl
  refine va_callv (va_runV (As := [.int 0]) (rest := []) ⟨hx, hb, hml, hown, hts⟩ (k_X2_takeSpans l dC dI H.size se ea la ss spr fsp ap lw hg lk 0 0 1 tg) (cwV 1 hts gX2_run_X2_takeSpans rfl rfl rfl (by decide +kernel) ⟨Nat.le_of_ble_eq_true rfl, Nat.le_of_ble_eq_true rfl⟩) ⟨wPre_blind, va_recv hKc hPc (ci := 1) (q0 := 0) rfl rfl, fun U hU hW => ⟨rfl, wPre_at hPc hKc hDc hU hW⟩⟩ rfl rfl hl.1 rfl (lv_room (Nat.le_of_ble_eq_true rfl)) dX2_run_12 ⟨Nat.le_of_ble_eq_true rfl, Nat.le_of_ble_eq_true rfl⟩) hS (fun q _ h => hFc q h) hFc (fun u t H1 locs ht hvm hw hB hz1 hk1 hS => ?_)
  obtain ⟨hP1, hD1⟩ := hB
  rw [ht] at hP1
  obtain ⟨hP, hD⟩ := va_join (wr := []) (w1 := [(se, .inr (1, [.ref ea, .ref la, .int lk, .int 0, .int 0, .int 1, .int 1, .int tg, .ref ss, .ref spr, .ref fsp, .ref ap, .ref lw, .ref hg]))]) hP hD [0] [] rfl rfl (by decide) (by decide) hk1 hFc hP1 hD1
  clear hP1 hD1 hz1 hk1 hFc hPc hDc ht
  generalize H1 = H at hP hS ⊢
  have hP : va_P (dC, dI) vwCl [(se, .inr (1, [.ref ea, .ref la, .int lk, .int 0, .int 0, .int 1, .int 1, .int tg, .ref ss, .ref spr, .ref fsp, .ref ap, .ref lw, .ref hg]))] H := hP
  have hD : va_D A [(se, .inr (1, [.ref ea, .ref la, .int lk, .int 0, .int 0, .int 1, .int 1, .int tg, .ref ss, .ref spr, .ref fsp, .ref ap, .ref lw, .ref hg]))] := hD
  refine lv_aload_n hx hb dX2_run_15 rfl (lv_at hl 0 rfl) ?_
  refine va_get (D := (dC, dI)) (ci := 1) (v := .int 0) (C := RX2) (T := TX2) (N := 14) hx hb hts (by decide +kernel) hown hK hP 0 rfl rfl 4 (by decide) (hts (.fieldLink RX2 56 "DayBench$Search" "spent" "Z") (by decide +kernel)) (fun _ h9 => h9) rfl dX2_run_16 ?_
  refine lv_if_eq (tgt := 25) hx hb dX2_run_19 (by decide) (fun h_2 => ?_) (fun h_2 => ?_)
  · refine lv_aload_n hx hb dX2_run_25 rfl (lv_at hl 0 rfl) ?_
    refine va_get (D := (dC, dI)) (ci := 1) (v := .int 1) (C := RX2) (T := TX2) (N := 14) hx hb hts (by decide +kernel) hown hK hP 0 rfl rfl 5 (by decide) (hts (.fieldLink RX2 118 "DayBench$Search" "found" "Z") (by decide +kernel)) (fun _ h9 => h9) rfl dX2_run_26 ?_
    refine lv_if_eq (tgt := 36) hx hb dX2_run_29 (by decide) (fun h_3 => ?_) (fun h_3 => ?_)
    · exact (by first | exact absurd h_3 (by decide) | exact absurd (by decide) h_3)
    · refine lv_iconst (v := 1) hx hb dX2_run_32 (by decide) ?_
      refine lv_goto (tgt := 37) hx hb dX2_run_33 (by decide) ?_
      have hP9 := hP.sub (ws' := [(se, .inr (1, [.ref ea, .ref la, .int lk, .int 0, .int 0, .int 1, .int 1, .int tg, .ref ss, .ref spr, .ref fsp, .ref ap, .ref lw, .ref hg]))]) [0] rfl
      have hD9 := hD.sub (ws' := [(se, .inr (1, [.ref ea, .ref la, .int lk, .int 0, .int 0, .int 1, .int 1, .int tg, .ref ss, .ref spr, .ref fsp, .ref ap, .ref lw, .ref hg]))]) [0] (by decide) rfl
      exact W.iret (v := 1) hx hb hr (fun t ht hW => ⟨⟨_, (), rfl, rfl, by rw [ht]; exact hP9, hD9⟩, hS.F ht⟩) hS.2.2 dX2_run_37
  · exact (by first | exact absurd h_2 (by decide) | exact absurd (by decide) h_2)

set_option maxHeartbeats 4000000 in
set_option maxRecDepth 100000 in
theorem k_X2_run_0 (l : Launch) (dC : Nat → ClassId) (dI : Nat → Nat → Nat) (sz : Nat) (se : Nat) (ea : Nat) (la : Nat) (ss : Nat) (spr : Nat) (fsp : Nat) (ap : Nat) (lw : Nat) (hg : Nat) (lk : Int32) (fo : Int32) (ti : Int32) (tg : Int32)  : Met l yX2_run wsX2_run ({ frames := 2, cells := 0, slots := 0, locals := 45 }) (va_Pc [.ref se, .int 0] (wPre dC dI sz [(se, .inr (1, [.ref ea, .ref la, .int lk, .int 0, .int 0, .int fo, .int ti, .int tg, .ref ss, .ref spr, .ref fsp, .ref ap, .ref lw, .ref hg]))] [])) (va_Qi (fun (r : Int32) (u : Unit) => r = 1) (fun (u : Unit) t => wPost dC dI (va_A [(se, .inr (1, [.ref ea, .ref la, .int lk, .int 0, .int 0, .int fo, .int ti, .int tg, .ref ss, .ref spr, .ref fsp, .ref ap, .ref lw, .ref hg]))] sz) [(se, .inr (1, [.ref ea, .ref la, .int lk, .int 0, .int 0, .int 1, .int 0, .int tg, .ref ss, .ref spr, .ref fsp, .ref ap, .ref lw, .ref hg]))] t) (va_A [(se, .inr (1, [.ref ea, .ref la, .int lk, .int 0, .int 0, .int fo, .int ti, .int tg, .ref ss, .ref spr, .ref fsp, .ref ap, .ref lw, .ref hg]))] sz)) 0 0 (va_A [(se, .inr (1, [.ref ea, .ref la, .int lk, .int 0, .int 0, .int fo, .int ti, .int tg, .ref ss, .ref spr, .ref fsp, .ref ap, .ref lw, .ref hg]))] sz) := by
  refine Met.ofW (cc := cX2_run) (maxL := 2) (ret := (some .int)) (by decide) rfl ?_
  intro p e s m args below meth c s₁ B hml hv
  obtain ⟨rfl, hsz, hP, hK, hD0⟩ := hv
  have hx := B.exec
  have hb := B.bytes
  have hr := B.returns
  have hts := atoms_spec (ws := wsX2_run) B.pre
  have hown : s.vm.findClass RX2 = some m.cls := findClass_of_methodNamed B.named
  have hlocks := B.notSynchronized
  subst hsz
  have hD := hD0.self (sz := s.heap.size)
  generalize hAe : va_A [(se, .inr (1, [.ref ea, .ref la, .int lk, .int 0, .int 0, .int fo, .int ti, .int tg, .ref ss, .ref spr, .ref fsp, .ref ap, .ref lw, .ref hg]))] s.heap.size = A at hD ⊢
  have hA : ∀ q : Nat, s.heap.size ≤ q → A q := fun q h => by rw [← hAe]; exact Or.inr h
  have hS : va_S A s.heap s.heap [] := va_S.rf
  have hP : va_P (dC, dI) vwCl [(se, .inr (1, [.ref ea, .ref la, .int lk, .int 0, .int 0, .int fo, .int ti, .int tg, .ref ss, .ref spr, .ref fsp, .ref ap, .ref lw, .ref hg]))] s.heap := hP
  have hl := lv_entry ([.ref se, .int 0]) (n := 2) (Nat.le_of_ble_eq_true rfl)
  rw [lg_entry_eq]
  generalize (lg_sl ([.ref se, .int 0]) ++ List.replicate (2 - (lg_sl ([.ref se, .int 0])).length) Slot.unset).toArray = ls at hl ⊢
  have hl : lv_has ls 2 [(0, .ref se), (1, .int 0)] := hl
  refine lv_aload_n hx hb dX2_run_0 rfl (lv_at hl 0 rfl) ?_
  refine lv_iload_n hx hb dX2_run_1 rfl (lv_at hl 1 rfl) ?_
  refine va_put (D := (dC, dI)) (ci := 1) (v := .int 0) (ty := .boolean) (C := RX2) (T := TX2) (N := 14) hx hb hts (by decide +kernel) tyX2 tyX2_ok nmX2 hown hK hP hD hS 0 rfl rfl 6 (by decide) (hts (.fieldLink RX2 115 "DayBench$Search" "tillOne" "Z") (by decide +kernel)) (fun _ h9 => h9) rfl (by decide +kernel) rfl rfl (Nat.le_of_ble_eq_true rfl) dX2_run_2 (fun H locs hP hD hS => ?_)
  have hP : va_P (dC, dI) vwCl [(se, .inr (1, [.ref ea, .ref la, .int lk, .int 0, .int 0, .int fo, .int 0, .int tg, .ref ss, .ref spr, .ref fsp, .ref ap, .ref lw, .ref hg]))] H := hP
  have hD : va_D A [(se, .inr (1, [.ref ea, .ref la, .int lk, .int 0, .int 0, .int fo, .int 0, .int tg, .ref ss, .ref spr, .ref fsp, .ref ap, .ref lw, .ref hg]))] := hD
  refine lv_aload_n hx hb dX2_run_5 rfl (lv_at hl 0 rfl) ?_
  refine lv_iconst (v := 0) hx hb dX2_run_6 (by decide) ?_
  refine va_put (D := (dC, dI)) (ci := 1) (v := .int 0) (ty := .boolean) (C := RX2) (T := TX2) (N := 14) hx hb hts (by decide +kernel) tyX2 tyX2_ok nmX2 hown hK hP hD hS 0 rfl rfl 5 (by decide) (hts (.fieldLink RX2 118 "DayBench$Search" "found" "Z") (by decide +kernel)) (fun _ h9 => h9) rfl (by decide +kernel) rfl rfl (Nat.le_of_ble_eq_true rfl) dX2_run_7 (fun H locs hP hD hS => ?_)
  have hP : va_P (dC, dI) vwCl [(se, .inr (1, [.ref ea, .ref la, .int lk, .int 0, .int 0, .int 0, .int 0, .int tg, .ref ss, .ref spr, .ref fsp, .ref ap, .ref lw, .ref hg]))] H := hP
  have hD : va_D A [(se, .inr (1, [.ref ea, .ref la, .int lk, .int 0, .int 0, .int 0, .int 0, .int tg, .ref ss, .ref spr, .ref fsp, .ref ap, .ref lw, .ref hg]))] := hD
  refine lv_aload_n hx hb dX2_run_10 rfl (lv_at hl 0 rfl) ?_
  refine lv_iconst (v := 0) hx hb dX2_run_11 (by decide) ?_
  have hPc := hP.sub (ws' := [(se, .inr (1, [.ref ea, .ref la, .int lk, .int 0, .int 0, .int 0, .int 0, .int tg, .ref ss, .ref spr, .ref fsp, .ref ap, .ref lw, .ref hg]))]) [0] rfl
  have hKc := hK.sub (tys' := []) [] rfl
  have hDc := hD.sub (ws' := [(se, .inr (1, [.ref ea, .ref la, .int lk, .int 0, .int 0, .int 0, .int 0, .int tg, .ref ss, .ref spr, .ref fsp, .ref ap, .ref lw, .ref hg]))]) [0] (by decide) rfl
  have hFc := va_free (wc := [(se, .inr (1, [.ref ea, .ref la, .int lk, .int 0, .int 0, .int 0, .int 0, .int tg, .ref ss, .ref spr, .ref fsp, .ref ap, .ref lw, .ref hg]))]) hD hS hA [0] rfl
  refine va_callv (va_runV (As := [.int 0]) (rest := []) ⟨hx, hb, hml, hown, hts⟩ (k_X2_takeSpans l dC dI H.size se ea la ss spr fsp ap lw hg lk 0 0 0 tg) (cwV 1 hts gX2_run_X2_takeSpans rfl rfl rfl (by decide +kernel) ⟨Nat.le_of_ble_eq_true rfl, Nat.le_of_ble_eq_true rfl⟩) ⟨wPre_blind, va_recv hKc hPc (ci := 1) (q0 := 0) rfl rfl, fun U hU hW => ⟨rfl, wPre_at hPc hKc hDc hU hW⟩⟩ rfl rfl hl.1 rfl (lv_room (Nat.le_of_ble_eq_true rfl)) dX2_run_12 ⟨Nat.le_of_ble_eq_true rfl, Nat.le_of_ble_eq_true rfl⟩) hS (fun q _ h => hFc q h) hFc (fun u t H1 locs ht hvm hw hB hz1 hk1 hS => ?_)
  obtain ⟨hP1, hD1⟩ := hB
  rw [ht] at hP1
  obtain ⟨hP, hD⟩ := va_join (wr := []) (w1 := [(se, .inr (1, [.ref ea, .ref la, .int lk, .int 0, .int 0, .int 1, .int 0, .int tg, .ref ss, .ref spr, .ref fsp, .ref ap, .ref lw, .ref hg]))]) hP hD [0] [] rfl rfl (by decide) (by decide) hk1 hFc hP1 hD1
  clear hP1 hD1 hz1 hk1 hFc hPc hDc ht
  generalize H1 = H at hP hS ⊢
  have hP : va_P (dC, dI) vwCl [(se, .inr (1, [.ref ea, .ref la, .int lk, .int 0, .int 0, .int 1, .int 0, .int tg, .ref ss, .ref spr, .ref fsp, .ref ap, .ref lw, .ref hg]))] H := hP
  have hD : va_D A [(se, .inr (1, [.ref ea, .ref la, .int lk, .int 0, .int 0, .int 1, .int 0, .int tg, .ref ss, .ref spr, .ref fsp, .ref ap, .ref lw, .ref hg]))] := hD
  refine lv_aload_n hx hb dX2_run_15 rfl (lv_at hl 0 rfl) ?_
  refine va_get (D := (dC, dI)) (ci := 1) (v := .int 0) (C := RX2) (T := TX2) (N := 14) hx hb hts (by decide +kernel) hown hK hP 0 rfl rfl 4 (by decide) (hts (.fieldLink RX2 56 "DayBench$Search" "spent" "Z") (by decide +kernel)) (fun _ h9 => h9) rfl dX2_run_16 ?_
  refine lv_if_eq (tgt := 25) hx hb dX2_run_19 (by decide) (fun h_2 => ?_) (fun h_2 => ?_)
  · refine lv_aload_n hx hb dX2_run_25 rfl (lv_at hl 0 rfl) ?_
    refine va_get (D := (dC, dI)) (ci := 1) (v := .int 1) (C := RX2) (T := TX2) (N := 14) hx hb hts (by decide +kernel) hown hK hP 0 rfl rfl 5 (by decide) (hts (.fieldLink RX2 118 "DayBench$Search" "found" "Z") (by decide +kernel)) (fun _ h9 => h9) rfl dX2_run_26 ?_
    refine lv_if_eq (tgt := 36) hx hb dX2_run_29 (by decide) (fun h_3 => ?_) (fun h_3 => ?_)
    · exact (by first | exact absurd h_3 (by decide) | exact absurd (by decide) h_3)
    · refine lv_iconst (v := 1) hx hb dX2_run_32 (by decide) ?_
      refine lv_goto (tgt := 37) hx hb dX2_run_33 (by decide) ?_
      have hP9 := hP.sub (ws' := [(se, .inr (1, [.ref ea, .ref la, .int lk, .int 0, .int 0, .int 1, .int 0, .int tg, .ref ss, .ref spr, .ref fsp, .ref ap, .ref lw, .ref hg]))]) [0] rfl
      have hD9 := hD.sub (ws' := [(se, .inr (1, [.ref ea, .ref la, .int lk, .int 0, .int 0, .int 1, .int 0, .int tg, .ref ss, .ref spr, .ref fsp, .ref ap, .ref lw, .ref hg]))]) [0] (by decide) rfl
      exact W.iret (v := 1) hx hb hr (fun t ht hW => ⟨⟨_, (), rfl, rfl, by rw [ht]; exact hP9, hD9⟩, hS.F ht⟩) hS.2.2 dX2_run_37
  · exact (by first | exact absurd h_2 (by decide) | exact absurd (by decide) h_2)

set_option maxHeartbeats 4000000 in
set_option maxRecDepth 100000 in
theorem k_X5_askSet (l : Launch) (dC : Nat → ClassId) (dI : Nat → Nat → Nat) (sz : Nat) (h0 : Nat) (kc : Nat) (kf : Nat) (kt : Nat) (sy : Nat) (se : Nat) (sl : Nat) (hf : Nat) (hh : Nat) (ea : Nat) (la : Nat) (ss : Nat) (spr : Nat) (fsp : Nat) (ap : Nat) (lw : Nat) (hg : Nat) (cS : ClassId) (fS : Nat → Option Nat) (lk : Int32) (fo : Int32) (ti : Int32) (tg : Int32)  : Met l yX5_askSet wsX5_askSet ({ frames := 3, cells := 0, slots := 0, locals := 66 }) (va_Pc [.ref h0, .int 0] (wPre dC dI sz [(h0, .inr (4, [.ref kc, .ref kf, .ref kt, .int 0, .int 0, .ref sy, .int 0, .ref se, .ref sl, .ref hf, .ref hh])), (se, .inr (1, [.ref ea, .ref la, .int lk, .int 0, .int 0, .int fo, .int ti, .int tg, .ref ss, .ref spr, .ref fsp, .ref ap, .ref lw, .ref hg])), (sy, .inl (cS, 12, .inr (.inr (.inr (.inr fS)))))] [(cS, (.object "DayBench$Saying"))])) (va_Qi (fun (r : Int32) (u : Unit) => r = 1) (fun (u : Unit) t => wPost dC dI (va_A [(h0, .inr (4, [.ref kc, .ref kf, .ref kt, .int 0, .int 0, .ref sy, .int 0, .ref se, .ref sl, .ref hf, .ref hh])), (se, .inr (1, [.ref ea, .ref la, .int lk, .int 0, .int 0, .int fo, .int ti, .int tg, .ref ss, .ref spr, .ref fsp, .ref ap, .ref lw, .ref hg])), (sy, .inl (cS, 12, .inr (.inr (.inr (.inr fS)))))] sz) [(h0, .inr (4, [.ref kc, .ref kf, .ref kt, .int 0, .int 0, .ref sy, .int 0, .ref se, .ref sl, .ref hf, .ref hh])), (se, .inr (1, [.ref ea, .ref la, .int lk, .int 0, .int 0, .int 1, .int 1, .int 1, .ref ss, .ref spr, .ref fsp, .ref ap, .ref lw, .ref hg])), (sy, .inl (cS, 12, .inr (.inr (.inr (.inr fS)))))] t) (va_A [(h0, .inr (4, [.ref kc, .ref kf, .ref kt, .int 0, .int 0, .ref sy, .int 0, .ref se, .ref sl, .ref hf, .ref hh])), (se, .inr (1, [.ref ea, .ref la, .int lk, .int 0, .int 0, .int fo, .int ti, .int tg, .ref ss, .ref spr, .ref fsp, .ref ap, .ref lw, .ref hg])), (sy, .inl (cS, 12, .inr (.inr (.inr (.inr fS)))))] sz)) 0 0 (va_A [(h0, .inr (4, [.ref kc, .ref kf, .ref kt, .int 0, .int 0, .ref sy, .int 0, .ref se, .ref sl, .ref hf, .ref hh])), (se, .inr (1, [.ref ea, .ref la, .int lk, .int 0, .int 0, .int fo, .int ti, .int tg, .ref ss, .ref spr, .ref fsp, .ref ap, .ref lw, .ref hg])), (sy, .inl (cS, 12, .inr (.inr (.inr (.inr fS)))))] sz) := by
  refine Met.ofW (cc := cX5_askSet) (maxL := 2) (ret := (some .int)) (by decide) rfl ?_
  intro p e s m args below meth c s₁ B hml hv
  obtain ⟨rfl, hsz, hP, hK, hD0⟩ := hv
  have hx := B.exec
  have hb := B.bytes
  have hr := B.returns
  have hts := atoms_spec (ws := wsX5_askSet) B.pre
  have hown : s.vm.findClass RX5 = some m.cls := findClass_of_methodNamed B.named
  have hlocks := B.notSynchronized
  subst hsz
  have hD := hD0.self (sz := s.heap.size)
  generalize hAe : va_A [(h0, .inr (4, [.ref kc, .ref kf, .ref kt, .int 0, .int 0, .ref sy, .int 0, .ref se, .ref sl, .ref hf, .ref hh])), (se, .inr (1, [.ref ea, .ref la, .int lk, .int 0, .int 0, .int fo, .int ti, .int tg, .ref ss, .ref spr, .ref fsp, .ref ap, .ref lw, .ref hg])), (sy, .inl (cS, 12, .inr (.inr (.inr (.inr fS)))))] s.heap.size = A at hD ⊢
  have hA : ∀ q : Nat, s.heap.size ≤ q → A q := fun q h => by rw [← hAe]; exact Or.inr h
  have hS : va_S A s.heap s.heap [] := va_S.rf
  have hP : va_P (dC, dI) vwCl [(h0, .inr (4, [.ref kc, .ref kf, .ref kt, .int 0, .int 0, .ref sy, .int 0, .ref se, .ref sl, .ref hf, .ref hh])), (se, .inr (1, [.ref ea, .ref la, .int lk, .int 0, .int 0, .int fo, .int ti, .int tg, .ref ss, .ref spr, .ref fsp, .ref ap, .ref lw, .ref hg])), (sy, .inl (cS, 12, .inr (.inr (.inr (.inr fS)))))] s.heap := hP
  have hl := lv_entry ([.ref h0, .int 0]) (n := 2) (Nat.le_of_ble_eq_true rfl)
  rw [lg_entry_eq]
  generalize (lg_sl ([.ref h0, .int 0]) ++ List.replicate (2 - (lg_sl ([.ref h0, .int 0])).length) Slot.unset).toArray = ls at hl ⊢
  have hl : lv_has ls 2 [(0, .ref h0), (1, .int 0)] := hl
  refine lv_aload_n hx hb dX5_askSet_0 rfl (lv_at hl 0 rfl) ?_
  refine va_get (D := (dC, dI)) (ci := 4) (v := .ref se) (C := RX5) (T := TX5) (N := 11) hx hb hts (by decide +kernel) hown hK hP 0 rfl rfl 7 (by decide) (hts (.fieldLink RX5 29 "DayBench" "search" "LDayBench$Search;") (by decide +kernel)) (fun _ h9 => h9) rfl dX5_askSet_1 ?_
  refine lv_aload_n hx hb dX5_askSet_4 rfl (lv_at hl 0 rfl) ?_
  refine va_get (D := (dC, dI)) (ci := 4) (v := .ref sy) (C := RX5) (T := TX5) (N := 11) hx hb hts (by decide +kernel) hown hK hP 0 rfl rfl 5 (by decide) (hts (.fieldLink RX5 21 "DayBench" "sayings" "[LDayBench$Saying;") (by decide +kernel)) (fun _ h9 => h9) rfl dX5_askSet_5 ?_
  refine lv_iload_n hx hb dX5_askSet_8 rfl (lv_at hl 1 rfl) ?_
  have hPc := hP.sub (ws' := [(se, .inr (1, [.ref ea, .ref la, .int lk, .int 0, .int 0, .int fo, .int ti, .int tg, .ref ss, .ref spr, .ref fsp, .ref ap, .ref lw, .ref hg])), (sy, .inl (cS, 12, .inr (.inr (.inr (.inr fS)))))]) [1, 2] rfl
  have hKc := hK.sub (tys' := [(cS, (.object "DayBench$Saying"))]) [0] rfl
  have hDc := hD.sub (ws' := [(se, .inr (1, [.ref ea, .ref la, .int lk, .int 0, .int 0, .int fo, .int ti, .int tg, .ref ss, .ref spr, .ref fsp, .ref ap, .ref lw, .ref hg])), (sy, .inl (cS, 12, .inr (.inr (.inr (.inr fS)))))]) [1, 2] (by decide) rfl
  have hFc := va_free (wc := [(se, .inr (1, [.ref ea, .ref la, .int lk, .int 0, .int 0, .int fo, .int ti, .int tg, .ref ss, .ref spr, .ref fsp, .ref ap, .ref lw, .ref hg])), (sy, .inl (cS, 12, .inr (.inr (.inr (.inr fS)))))]) hD hS hA [1, 2] rfl
  refine va_callv (va_runV (As := [.ref sy, .int 0]) (rest := []) ⟨hx, hb, hml, hown, hts⟩ (k_X2_lay l dC dI s.heap.size se ea la ss spr fsp ap lw hg lk 0 fo ti tg sy cS fS) (cwV 2 hts gX5_askSet_X2_lay rfl rfl rfl (by decide +kernel) ⟨Nat.le_of_ble_eq_true rfl, Nat.le_of_ble_eq_true rfl⟩) ⟨wPre_blind, va_recv hKc hPc (ci := 1) (q0 := 0) rfl rfl, fun U hU hW => ⟨rfl, wPre_at hPc hKc hDc hU hW⟩⟩ rfl rfl hl.1 rfl (lv_room (Nat.le_of_ble_eq_true rfl)) dX5_askSet_9 ⟨Nat.le_of_ble_eq_true rfl, Nat.le_of_ble_eq_true rfl⟩) hS (fun q _ h => hFc q h) hFc (fun u t H1 locs ht hvm hw hB hz1 hk1 hS => ?_)
  obtain ⟨hP1, hD1⟩ := hB
  rw [ht] at hP1
  obtain ⟨hP, hD⟩ := va_join (wr := [(h0, .inr (4, [.ref kc, .ref kf, .ref kt, .int 0, .int 0, .ref sy, .int 0, .ref se, .ref sl, .ref hf, .ref hh]))]) (w1 := [(se, .inr (1, [.ref ea, .ref la, .int lk, .int 0, .int 0, .int fo, .int ti, .int 1, .ref ss, .ref spr, .ref fsp, .ref ap, .ref lw, .ref hg])), (sy, .inl (cS, 12, .inr (.inr (.inr (.inr fS)))))]) hP hD [1, 2] [0] rfl rfl (by decide) (by decide) hk1 hFc hP1 hD1
  clear hP1 hD1 hz1 hk1 hFc hPc hDc ht
  generalize H1 = H at hP hS ⊢
  have hP : va_P (dC, dI) vwCl [(h0, .inr (4, [.ref kc, .ref kf, .ref kt, .int 0, .int 0, .ref sy, .int 0, .ref se, .ref sl, .ref hf, .ref hh])), (se, .inr (1, [.ref ea, .ref la, .int lk, .int 0, .int 0, .int fo, .int ti, .int 1, .ref ss, .ref spr, .ref fsp, .ref ap, .ref lw, .ref hg])), (sy, .inl (cS, 12, .inr (.inr (.inr (.inr fS)))))] H := hP
  have hD : va_D A [(h0, .inr (4, [.ref kc, .ref kf, .ref kt, .int 0, .int 0, .ref sy, .int 0, .ref se, .ref sl, .ref hf, .ref hh])), (se, .inr (1, [.ref ea, .ref la, .int lk, .int 0, .int 0, .int fo, .int ti, .int 1, .ref ss, .ref spr, .ref fsp, .ref ap, .ref lw, .ref hg])), (sy, .inl (cS, 12, .inr (.inr (.inr (.inr fS)))))] := hD
  refine lv_aload_n hx hb dX5_askSet_12 rfl (lv_at hl 0 rfl) ?_
  refine va_get (D := (dC, dI)) (ci := 4) (v := .ref se) (C := RX5) (T := TX5) (N := 11) hx hb hts (by decide +kernel) hown hK hP 0 rfl rfl 7 (by decide) (hts (.fieldLink RX5 29 "DayBench" "search" "LDayBench$Search;") (by decide +kernel)) (fun _ h9 => h9) rfl dX5_askSet_13 ?_
  refine lv_iconst (v := 1) hx hb dX5_askSet_16 (by decide) ?_
  have hPc := hP.sub (ws' := [(se, .inr (1, [.ref ea, .ref la, .int lk, .int 0, .int 0, .int fo, .int ti, .int 1, .ref ss, .ref spr, .ref fsp, .ref ap, .ref lw, .ref hg]))]) [1] rfl
  have hKc := hK.sub (tys' := []) [] rfl
  have hDc := hD.sub (ws' := [(se, .inr (1, [.ref ea, .ref la, .int lk, .int 0, .int 0, .int fo, .int ti, .int 1, .ref ss, .ref spr, .ref fsp, .ref ap, .ref lw, .ref hg]))]) [1] (by decide) rfl
  have hFc := va_free (wc := [(se, .inr (1, [.ref ea, .ref la, .int lk, .int 0, .int 0, .int fo, .int ti, .int 1, .ref ss, .ref spr, .ref fsp, .ref ap, .ref lw, .ref hg]))]) hD hS hA [1] rfl
  refine va_calli (va_runV (As := [.int 1]) (rest := []) ⟨hx, hb, hml, hown, hts⟩ (k_X2_run_1 l dC dI H.size se ea la ss spr fsp ap lw hg lk fo ti 1) (cwV 1 hts gX5_askSet_X2_run rfl rfl rfl (by decide +kernel) ⟨Nat.le_of_ble_eq_true rfl, Nat.le_of_ble_eq_true rfl⟩) ⟨wPre_blind, va_recv hKc hPc (ci := 1) (q0 := 0) rfl rfl, fun U hU hW => ⟨rfl, wPre_at hPc hKc hDc hU hW⟩⟩ rfl rfl hl.1 rfl (lv_room (Nat.le_of_ble_eq_true rfl)) dX5_askSet_17 ⟨Nat.le_of_ble_eq_true rfl, Nat.le_of_ble_eq_true rfl⟩) hS (fun q _ h => hFc q h) hFc (fun r_2 u t H1 locs ht hvm hw hB hz1 hk1 hS => ?_)
  obtain ⟨hP1, hD1⟩ := hB
  rw [ht] at hP1
  obtain ⟨hP, hD⟩ := va_join (wr := [(h0, .inr (4, [.ref kc, .ref kf, .ref kt, .int 0, .int 0, .ref sy, .int 0, .ref se, .ref sl, .ref hf, .ref hh])), (sy, .inl (cS, 12, .inr (.inr (.inr (.inr fS)))))]) (w1 := [(se, .inr (1, [.ref ea, .ref la, .int lk, .int 0, .int 0, .int 1, .int 1, .int 1, .ref ss, .ref spr, .ref fsp, .ref ap, .ref lw, .ref hg]))]) hP hD [1] [0, 2] rfl rfl (by decide) (by decide) hk1 hFc hP1 hD1
  clear hP1 hD1 hz1 hk1 hFc hPc hDc ht
  generalize H1 = H at hP hS ⊢
  have hP : va_P (dC, dI) vwCl [(h0, .inr (4, [.ref kc, .ref kf, .ref kt, .int 0, .int 0, .ref sy, .int 0, .ref se, .ref sl, .ref hf, .ref hh])), (sy, .inl (cS, 12, .inr (.inr (.inr (.inr fS))))), (se, .inr (1, [.ref ea, .ref la, .int lk, .int 0, .int 0, .int 1, .int 1, .int 1, .ref ss, .ref spr, .ref fsp, .ref ap, .ref lw, .ref hg]))] H := hP
  have hD : va_D A [(h0, .inr (4, [.ref kc, .ref kf, .ref kt, .int 0, .int 0, .ref sy, .int 0, .ref se, .ref sl, .ref hf, .ref hh])), (sy, .inl (cS, 12, .inr (.inr (.inr (.inr fS))))), (se, .inr (1, [.ref ea, .ref la, .int lk, .int 0, .int 0, .int 1, .int 1, .int 1, .ref ss, .ref spr, .ref fsp, .ref ap, .ref lw, .ref hg]))] := hD
  subst hw
  have hP9 := hP.sub (ws' := [(h0, .inr (4, [.ref kc, .ref kf, .ref kt, .int 0, .int 0, .ref sy, .int 0, .ref se, .ref sl, .ref hf, .ref hh])), (se, .inr (1, [.ref ea, .ref la, .int lk, .int 0, .int 0, .int 1, .int 1, .int 1, .ref ss, .ref spr, .ref fsp, .ref ap, .ref lw, .ref hg])), (sy, .inl (cS, 12, .inr (.inr (.inr (.inr fS)))))]) [0, 2, 1] rfl
  have hD9 := hD.sub (ws' := [(h0, .inr (4, [.ref kc, .ref kf, .ref kt, .int 0, .int 0, .ref sy, .int 0, .ref se, .ref sl, .ref hf, .ref hh])), (se, .inr (1, [.ref ea, .ref la, .int lk, .int 0, .int 0, .int 1, .int 1, .int 1, .ref ss, .ref spr, .ref fsp, .ref ap, .ref lw, .ref hg])), (sy, .inl (cS, 12, .inr (.inr (.inr (.inr fS)))))]) [0, 2, 1] (by decide) rfl
  exact W.iret (v := 1) hx hb hr (fun t ht hW => ⟨⟨_, (), rfl, rfl, by rw [ht]; exact hP9, hD9⟩, hS.F ht⟩) hS.2.2 dX5_askSet_20

set_option maxHeartbeats 4000000 in
set_option maxRecDepth 100000 in
theorem k_X5_agrees (l : Launch) (dC : Nat → ClassId) (dI : Nat → Nat → Nat) (sz : Nat) (h0 : Nat) (kc : Nat) (kf : Nat) (kt : Nat) (sy : Nat) (se : Nat) (sl : Nat) (hf : Nat) (hh : Nat) (ea : Nat) (la : Nat) (ss : Nat) (spr : Nat) (fsp : Nat) (ap : Nat) (lw : Nat) (hg : Nat) (cS : ClassId) (fS : Nat → Option Nat)  : Met l yX5_agrees wsX5_agrees ({ frames := 4, cells := 0, slots := 0, locals := 87 }) (va_Pc [.ref h0] (wPre dC dI sz [(h0, .inr (4, [.ref kc, .ref kf, .ref kt, .int 0, .int 0, .ref sy, .int 0, .ref se, .ref sl, .ref hf, .ref hh])), (se, .inr (1, [.ref ea, .ref la, .int 0, .int 0, .int 0, .int 0, .int 0, .int 0, .ref ss, .ref spr, .ref fsp, .ref ap, .ref lw, .ref hg])), (sy, .inl (cS, 12, .inr (.inr (.inr (.inr fS)))))] [(cS, (.object "DayBench$Saying"))])) (va_Qi (fun (r : Int32) (u : Unit) => r = 1) (fun (u : Unit) t => wPost dC dI (va_A [(h0, .inr (4, [.ref kc, .ref kf, .ref kt, .int 0, .int 0, .ref sy, .int 0, .ref se, .ref sl, .ref hf, .ref hh])), (se, .inr (1, [.ref ea, .ref la, .int 0, .int 0, .int 0, .int 0, .int 0, .int 0, .ref ss, .ref spr, .ref fsp, .ref ap, .ref lw, .ref hg])), (sy, .inl (cS, 12, .inr (.inr (.inr (.inr fS)))))] sz) [] t) (va_A [(h0, .inr (4, [.ref kc, .ref kf, .ref kt, .int 0, .int 0, .ref sy, .int 0, .ref se, .ref sl, .ref hf, .ref hh])), (se, .inr (1, [.ref ea, .ref la, .int 0, .int 0, .int 0, .int 0, .int 0, .int 0, .ref ss, .ref spr, .ref fsp, .ref ap, .ref lw, .ref hg])), (sy, .inl (cS, 12, .inr (.inr (.inr (.inr fS)))))] sz)) 0 0 (va_A [(h0, .inr (4, [.ref kc, .ref kf, .ref kt, .int 0, .int 0, .ref sy, .int 0, .ref se, .ref sl, .ref hf, .ref hh])), (se, .inr (1, [.ref ea, .ref la, .int 0, .int 0, .int 0, .int 0, .int 0, .int 0, .ref ss, .ref spr, .ref fsp, .ref ap, .ref lw, .ref hg])), (sy, .inl (cS, 12, .inr (.inr (.inr (.inr fS)))))] sz) := by
  refine Met.ofW (cc := cX5_agrees) (maxL := 1) (ret := (some .int)) (by decide) rfl ?_
  intro p e s m args below meth c s₁ B hml hv
  obtain ⟨rfl, hsz, hP, hK, hD0⟩ := hv
  have hx := B.exec
  have hb := B.bytes
  have hr := B.returns
  have hts := atoms_spec (ws := wsX5_agrees) B.pre
  have hown : s.vm.findClass RX5 = some m.cls := findClass_of_methodNamed B.named
  have hlocks := B.notSynchronized
  subst hsz
  have hD := hD0.self (sz := s.heap.size)
  generalize hAe : va_A [(h0, .inr (4, [.ref kc, .ref kf, .ref kt, .int 0, .int 0, .ref sy, .int 0, .ref se, .ref sl, .ref hf, .ref hh])), (se, .inr (1, [.ref ea, .ref la, .int 0, .int 0, .int 0, .int 0, .int 0, .int 0, .ref ss, .ref spr, .ref fsp, .ref ap, .ref lw, .ref hg])), (sy, .inl (cS, 12, .inr (.inr (.inr (.inr fS)))))] s.heap.size = A at hD ⊢
  have hA : ∀ q : Nat, s.heap.size ≤ q → A q := fun q h => by rw [← hAe]; exact Or.inr h
  have hS : va_S A s.heap s.heap [] := va_S.rf
  have hP : va_P (dC, dI) vwCl [(h0, .inr (4, [.ref kc, .ref kf, .ref kt, .int 0, .int 0, .ref sy, .int 0, .ref se, .ref sl, .ref hf, .ref hh])), (se, .inr (1, [.ref ea, .ref la, .int 0, .int 0, .int 0, .int 0, .int 0, .int 0, .ref ss, .ref spr, .ref fsp, .ref ap, .ref lw, .ref hg])), (sy, .inl (cS, 12, .inr (.inr (.inr (.inr fS)))))] s.heap := hP
  have hl := lv_entry ([.ref h0]) (n := 1) (Nat.le_of_ble_eq_true rfl)
  rw [lg_entry_eq]
  generalize (lg_sl ([.ref h0]) ++ List.replicate (1 - (lg_sl ([.ref h0])).length) Slot.unset).toArray = ls at hl ⊢
  have hl : lv_has ls 1 [(0, .ref h0)] := hl
  refine lv_aload_n hx hb dX5_agrees_0 rfl (lv_at hl 0 rfl) ?_
  refine va_get (D := (dC, dI)) (ci := 4) (v := .ref se) (C := RX5) (T := TX5) (N := 11) hx hb hts (by decide +kernel) hown hK hP 0 rfl rfl 7 (by decide) (hts (.fieldLink RX5 29 "DayBench" "search" "LDayBench$Search;") (by decide +kernel)) (fun _ h9 => h9) rfl dX5_agrees_1 ?_
  refine lv_aload_n hx hb dX5_agrees_4 rfl (lv_at hl 0 rfl) ?_
  refine va_get (D := (dC, dI)) (ci := 4) (v := .int 0) (C := RX5) (T := TX5) (N := 11) hx hb hts (by decide +kernel) hown hK hP 0 rfl rfl 4 (by decide) (hts (.fieldLink RX5 71 "DayBench" "events" "I") (by decide +kernel)) (fun _ h9 => h9) rfl dX5_agrees_5 ?_
  have hPc := hP.sub (ws' := [(se, .inr (1, [.ref ea, .ref la, .int 0, .int 0, .int 0, .int 0, .int 0, .int 0, .ref ss, .ref spr, .ref fsp, .ref ap, .ref lw, .ref hg]))]) [1] rfl
  have hKc := hK.sub (tys' := []) [] rfl
  have hDc := hD.sub (ws' := [(se, .inr (1, [.ref ea, .ref la, .int 0, .int 0, .int 0, .int 0, .int 0, .int 0, .ref ss, .ref spr, .ref fsp, .ref ap, .ref lw, .ref hg]))]) [1] (by decide) rfl
  have hFc := va_free (wc := [(se, .inr (1, [.ref ea, .ref la, .int 0, .int 0, .int 0, .int 0, .int 0, .int 0, .ref ss, .ref spr, .ref fsp, .ref ap, .ref lw, .ref hg]))]) hD hS hA [1] rfl
  refine va_callv (va_runV (As := [.int 0]) (rest := []) ⟨hx, hb, hml, hown, hts⟩ (k_X2_begin l dC dI s.heap.size se ea la ss spr fsp ap lw hg 0 0 0 0 0 0) (cwV 1 hts gX5_agrees_X2_begin rfl rfl rfl (by decide +kernel) ⟨Nat.le_of_ble_eq_true rfl, Nat.le_of_ble_eq_true rfl⟩) ⟨wPre_blind, va_recv hKc hPc (ci := 1) (q0 := 0) rfl rfl, fun U hU hW => ⟨rfl, wPre_at hPc hKc hDc hU hW⟩⟩ rfl rfl hl.1 rfl (lv_room (Nat.le_of_ble_eq_true rfl)) dX5_agrees_8 ⟨Nat.le_of_ble_eq_true rfl, Nat.le_of_ble_eq_true rfl⟩) hS (fun q _ h => hFc q h) hFc (fun u t H1 locs ht hvm hw hB hz1 hk1 hS => ?_)
  obtain ⟨hP1, hD1⟩ := hB
  rw [ht] at hP1
  obtain ⟨hP, hD⟩ := va_join (wr := [(h0, .inr (4, [.ref kc, .ref kf, .ref kt, .int 0, .int 0, .ref sy, .int 0, .ref se, .ref sl, .ref hf, .ref hh])), (sy, .inl (cS, 12, .inr (.inr (.inr (.inr fS)))))]) (w1 := [(se, .inr (1, [.ref ea, .ref la, .int 0, .int 0, .int 0, .int 0, .int 0, .int 0, .ref ss, .ref spr, .ref fsp, .ref ap, .ref lw, .ref hg]))]) hP hD [1] [0, 2] rfl rfl (by decide) (by decide) hk1 hFc hP1 hD1
  clear hP1 hD1 hz1 hk1 hFc hPc hDc ht
  generalize H1 = H at hP hS ⊢
  have hP : va_P (dC, dI) vwCl [(h0, .inr (4, [.ref kc, .ref kf, .ref kt, .int 0, .int 0, .ref sy, .int 0, .ref se, .ref sl, .ref hf, .ref hh])), (sy, .inl (cS, 12, .inr (.inr (.inr (.inr fS))))), (se, .inr (1, [.ref ea, .ref la, .int 0, .int 0, .int 0, .int 0, .int 0, .int 0, .ref ss, .ref spr, .ref fsp, .ref ap, .ref lw, .ref hg]))] H := hP
  have hD : va_D A [(h0, .inr (4, [.ref kc, .ref kf, .ref kt, .int 0, .int 0, .ref sy, .int 0, .ref se, .ref sl, .ref hf, .ref hh])), (sy, .inl (cS, 12, .inr (.inr (.inr (.inr fS))))), (se, .inr (1, [.ref ea, .ref la, .int 0, .int 0, .int 0, .int 0, .int 0, .int 0, .ref ss, .ref spr, .ref fsp, .ref ap, .ref lw, .ref hg]))] := hD
  refine lv_aload_n hx hb dX5_agrees_11 rfl (lv_at hl 0 rfl) ?_
  refine lv_aload_n hx hb dX5_agrees_12 rfl (lv_at hl 0 rfl) ?_
  have hPc := hP.sub (ws' := [(h0, .inr (4, [.ref kc, .ref kf, .ref kt, .int 0, .int 0, .ref sy, .int 0, .ref se, .ref sl, .ref hf, .ref hh]))]) [0] rfl
  have hKc := hK.sub (tys' := []) [] rfl
  refine vp_callSi (va_Run.run (va_runV (As := []) (rest := [.ref h0]) ⟨hx, hb, hml, hown, hts⟩ (k_X5_takenSet l dC dI h0 kc kf kt sy se sl hf hh) (cwV 0 hts gX5_agrees_X5_takenSet rfl rfl rfl (by decide +kernel) ⟨Nat.le_of_ble_eq_true rfl, Nat.le_of_ble_eq_true rfl⟩) ⟨rPre_blind, va_recv hKc hPc (ci := 4) (q0 := 0) rfl rfl, fun U hU hW => ⟨rfl, rPre_at hPc hKc hU hW⟩⟩ rfl rfl hl.1 rfl (lv_room (Nat.le_of_ble_eq_true rfl)) dX5_agrees_13 ⟨Nat.le_of_ble_eq_true rfl, Nat.le_of_ble_eq_true rfl⟩)) (fun r_2 er_2 => ?_)
  subst er_2
  have hPc := hP.sub (ws' := [(h0, .inr (4, [.ref kc, .ref kf, .ref kt, .int 0, .int 0, .ref sy, .int 0, .ref se, .ref sl, .ref hf, .ref hh])), (se, .inr (1, [.ref ea, .ref la, .int 0, .int 0, .int 0, .int 0, .int 0, .int 0, .ref ss, .ref spr, .ref fsp, .ref ap, .ref lw, .ref hg])), (sy, .inl (cS, 12, .inr (.inr (.inr (.inr fS)))))]) [0, 2, 1] rfl
  have hKc := hK.sub (tys' := [(cS, (.object "DayBench$Saying"))]) [0] rfl
  have hDc := hD.sub (ws' := [(h0, .inr (4, [.ref kc, .ref kf, .ref kt, .int 0, .int 0, .ref sy, .int 0, .ref se, .ref sl, .ref hf, .ref hh])), (se, .inr (1, [.ref ea, .ref la, .int 0, .int 0, .int 0, .int 0, .int 0, .int 0, .ref ss, .ref spr, .ref fsp, .ref ap, .ref lw, .ref hg])), (sy, .inl (cS, 12, .inr (.inr (.inr (.inr fS)))))]) [0, 2, 1] (by decide) rfl
  have hFc := va_free (wc := [(h0, .inr (4, [.ref kc, .ref kf, .ref kt, .int 0, .int 0, .ref sy, .int 0, .ref se, .ref sl, .ref hf, .ref hh])), (se, .inr (1, [.ref ea, .ref la, .int 0, .int 0, .int 0, .int 0, .int 0, .int 0, .ref ss, .ref spr, .ref fsp, .ref ap, .ref lw, .ref hg])), (sy, .inl (cS, 12, .inr (.inr (.inr (.inr fS)))))]) hD hS hA [0, 2, 1] rfl
  refine va_calli (va_runV (As := [.int 0]) (rest := []) ⟨hx, hb, hml, hown, hts⟩ (k_X5_askSet l dC dI H.size h0 kc kf kt sy se sl hf hh ea la ss spr fsp ap lw hg cS fS 0 0 0 0) (cwV 1 hts gX5_agrees_X5_askSet rfl rfl rfl (by decide +kernel) ⟨Nat.le_of_ble_eq_true rfl, Nat.le_of_ble_eq_true rfl⟩) ⟨wPre_blind, va_recv hKc hPc (ci := 4) (q0 := 0) rfl rfl, fun U hU hW => ⟨rfl, wPre_at hPc hKc hDc hU hW⟩⟩ rfl rfl hl.1 rfl (lv_room (Nat.le_of_ble_eq_true rfl)) dX5_agrees_16 ⟨Nat.le_of_ble_eq_true rfl, Nat.le_of_ble_eq_true rfl⟩) hS (fun q _ h => hFc q h) hFc (fun r_3 u t H1 locs ht hvm hw hB hz1 hk1 hS => ?_)
  obtain ⟨hP1, hD1⟩ := hB
  rw [ht] at hP1
  obtain ⟨hP, hD⟩ := va_join (wr := []) (w1 := [(h0, .inr (4, [.ref kc, .ref kf, .ref kt, .int 0, .int 0, .ref sy, .int 0, .ref se, .ref sl, .ref hf, .ref hh])), (se, .inr (1, [.ref ea, .ref la, .int 0, .int 0, .int 0, .int 1, .int 1, .int 1, .ref ss, .ref spr, .ref fsp, .ref ap, .ref lw, .ref hg])), (sy, .inl (cS, 12, .inr (.inr (.inr (.inr fS)))))]) hP hD [0, 2, 1] [] rfl rfl (by decide) (by decide) hk1 hFc hP1 hD1
  clear hP1 hD1 hz1 hk1 hFc hPc hDc ht
  generalize H1 = H at hP hS ⊢
  have hP : va_P (dC, dI) vwCl [(h0, .inr (4, [.ref kc, .ref kf, .ref kt, .int 0, .int 0, .ref sy, .int 0, .ref se, .ref sl, .ref hf, .ref hh])), (se, .inr (1, [.ref ea, .ref la, .int 0, .int 0, .int 0, .int 1, .int 1, .int 1, .ref ss, .ref spr, .ref fsp, .ref ap, .ref lw, .ref hg])), (sy, .inl (cS, 12, .inr (.inr (.inr (.inr fS)))))] H := hP
  have hD : va_D A [(h0, .inr (4, [.ref kc, .ref kf, .ref kt, .int 0, .int 0, .ref sy, .int 0, .ref se, .ref sl, .ref hf, .ref hh])), (se, .inr (1, [.ref ea, .ref la, .int 0, .int 0, .int 0, .int 1, .int 1, .int 1, .ref ss, .ref spr, .ref fsp, .ref ap, .ref lw, .ref hg])), (sy, .inl (cS, 12, .inr (.inr (.inr (.inr fS)))))] := hD
  subst hw
  have hP9 := hP.sub (ws' := []) [] rfl
  have hD9 := hD.sub (ws' := []) [] (by decide) rfl
  exact W.iret (v := 1) hx hb hr (fun t ht hW => ⟨⟨_, (), rfl, rfl, by rw [ht]; exact hP9, hD9⟩, hS.F ht⟩) hS.2.2 dX5_agrees_19

set_option maxHeartbeats 4000000 in
set_option maxRecDepth 100000 in
theorem k_X5_quarrel (l : Launch) (dC : Nat → ClassId) (dI : Nat → Nat → Nat) (sz : Nat) (h0 : Nat) (kc : Nat) (kf : Nat) (kt : Nat) (sy : Nat) (se : Nat) (sl : Nat) (hf : Nat) (hh : Nat) (ea : Nat) (la : Nat) (ss : Nat) (spr : Nat) (fsp : Nat) (ap : Nat) (lw : Nat) (hg : Nat) (cS : ClassId) (fS : Nat → Option Nat)  : Met l yX5_quarrel wsX5_quarrel ({ frames := 4, cells := 0, slots := 0, locals := 87 }) (va_Pc [.ref h0] (wPre dC dI sz [(h0, .inr (4, [.ref kc, .ref kf, .ref kt, .int 0, .int 0, .ref sy, .int 0, .ref se, .ref sl, .ref hf, .ref hh])), (se, .inr (1, [.ref ea, .ref la, .int 0, .int 0, .int 0, .int 0, .int 0, .int 0, .ref ss, .ref spr, .ref fsp, .ref ap, .ref lw, .ref hg])), (sy, .inl (cS, 12, .inr (.inr (.inr (.inr fS)))))] [(cS, (.object "DayBench$Saying"))])) (va_Qi (fun (r : Int32) (u : Unit) => r = 0) (fun (u : Unit) t => wPost dC dI (va_A [(h0, .inr (4, [.ref kc, .ref kf, .ref kt, .int 0, .int 0, .ref sy, .int 0, .ref se, .ref sl, .ref hf, .ref hh])), (se, .inr (1, [.ref ea, .ref la, .int 0, .int 0, .int 0, .int 0, .int 0, .int 0, .ref ss, .ref spr, .ref fsp, .ref ap, .ref lw, .ref hg])), (sy, .inl (cS, 12, .inr (.inr (.inr (.inr fS)))))] sz) [] t) (va_A [(h0, .inr (4, [.ref kc, .ref kf, .ref kt, .int 0, .int 0, .ref sy, .int 0, .ref se, .ref sl, .ref hf, .ref hh])), (se, .inr (1, [.ref ea, .ref la, .int 0, .int 0, .int 0, .int 0, .int 0, .int 0, .ref ss, .ref spr, .ref fsp, .ref ap, .ref lw, .ref hg])), (sy, .inl (cS, 12, .inr (.inr (.inr (.inr fS)))))] sz)) 0 0 (va_A [(h0, .inr (4, [.ref kc, .ref kf, .ref kt, .int 0, .int 0, .ref sy, .int 0, .ref se, .ref sl, .ref hf, .ref hh])), (se, .inr (1, [.ref ea, .ref la, .int 0, .int 0, .int 0, .int 0, .int 0, .int 0, .ref ss, .ref spr, .ref fsp, .ref ap, .ref lw, .ref hg])), (sy, .inl (cS, 12, .inr (.inr (.inr (.inr fS)))))] sz) := by
  refine Met.ofW (cc := cX5_quarrel) (maxL := 5) (ret := (some .int)) (by decide) rfl ?_
  intro p e s m args below meth c s₁ B hml hv
  obtain ⟨rfl, hsz, hP, hK, hD0⟩ := hv
  have hx := B.exec
  have hb := B.bytes
  have hr := B.returns
  have hts := atoms_spec (ws := wsX5_quarrel) B.pre
  have hown : s.vm.findClass RX5 = some m.cls := findClass_of_methodNamed B.named
  have hlocks := B.notSynchronized
  subst hsz
  have hD := hD0.self (sz := s.heap.size)
  generalize hAe : va_A [(h0, .inr (4, [.ref kc, .ref kf, .ref kt, .int 0, .int 0, .ref sy, .int 0, .ref se, .ref sl, .ref hf, .ref hh])), (se, .inr (1, [.ref ea, .ref la, .int 0, .int 0, .int 0, .int 0, .int 0, .int 0, .ref ss, .ref spr, .ref fsp, .ref ap, .ref lw, .ref hg])), (sy, .inl (cS, 12, .inr (.inr (.inr (.inr fS)))))] s.heap.size = A at hD ⊢
  have hA : ∀ q : Nat, s.heap.size ≤ q → A q := fun q h => by rw [← hAe]; exact Or.inr h
  have hS : va_S A s.heap s.heap [] := va_S.rf
  have hP : va_P (dC, dI) vwCl [(h0, .inr (4, [.ref kc, .ref kf, .ref kt, .int 0, .int 0, .ref sy, .int 0, .ref se, .ref sl, .ref hf, .ref hh])), (se, .inr (1, [.ref ea, .ref la, .int 0, .int 0, .int 0, .int 0, .int 0, .int 0, .ref ss, .ref spr, .ref fsp, .ref ap, .ref lw, .ref hg])), (sy, .inl (cS, 12, .inr (.inr (.inr (.inr fS)))))] s.heap := hP
  have hl := lv_entry ([.ref h0]) (n := 5) (Nat.le_of_ble_eq_true rfl)
  rw [lg_entry_eq]
  generalize (lg_sl ([.ref h0]) ++ List.replicate (5 - (lg_sl ([.ref h0])).length) Slot.unset).toArray = ls at hl ⊢
  have hl : lv_has ls 5 [(0, .ref h0)] := hl
  refine lv_aload_n hx hb dX5_quarrel_0 rfl (lv_at hl 0 rfl) ?_
  have hPc := hP.sub (ws' := [(h0, .inr (4, [.ref kc, .ref kf, .ref kt, .int 0, .int 0, .ref sy, .int 0, .ref se, .ref sl, .ref hf, .ref hh]))]) [0] rfl
  have hKc := hK.sub (tys' := []) [] rfl
  refine vp_callSi (va_Run.run (va_runV (As := []) (rest := []) ⟨hx, hb, hml, hown, hts⟩ (k_X5_takenSet l dC dI h0 kc kf kt sy se sl hf hh) (cwV 0 hts gX5_quarrel_X5_takenSet rfl rfl rfl (by decide +kernel) ⟨Nat.le_of_ble_eq_true rfl, Nat.le_of_ble_eq_true rfl⟩) ⟨rPre_blind, va_recv hKc hPc (ci := 4) (q0 := 0) rfl rfl, fun U hU hW => ⟨rfl, rPre_at hPc hKc hU hW⟩⟩ rfl rfl hl.1 rfl (lv_room (Nat.le_of_ble_eq_true rfl)) dX5_quarrel_1 ⟨Nat.le_of_ble_eq_true rfl, Nat.le_of_ble_eq_true rfl⟩)) (fun r_1 er_1 => ?_)
  subst er_1
  refine lv_istore_n (lv' := [(1, .int 0), (0, .ref h0)]) hx hb dX5_quarrel_4 rfl hl (by decide) rfl (fun ls hl => ?_)
  refine lv_aload_n hx hb dX5_quarrel_5 rfl (lv_at hl 1 rfl) ?_
  refine va_get (D := (dC, dI)) (ci := 4) (v := .ref se) (C := RX5) (T := TX5) (N := 11) hx hb hts (by decide +kernel) hown hK hP 0 rfl rfl 7 (by decide) (hts (.fieldLink RX5 29 "DayBench" "search" "LDayBench$Search;") (by decide +kernel)) (fun _ h9 => h9) rfl dX5_quarrel_6 ?_
  refine lv_aload_n hx hb dX5_quarrel_9 rfl (lv_at hl 1 rfl) ?_
  refine va_get (D := (dC, dI)) (ci := 4) (v := .int 0) (C := RX5) (T := TX5) (N := 11) hx hb hts (by decide +kernel) hown hK hP 0 rfl rfl 4 (by decide) (hts (.fieldLink RX5 71 "DayBench" "events" "I") (by decide +kernel)) (fun _ h9 => h9) rfl dX5_quarrel_10 ?_
  have hPc := hP.sub (ws' := [(se, .inr (1, [.ref ea, .ref la, .int 0, .int 0, .int 0, .int 0, .int 0, .int 0, .ref ss, .ref spr, .ref fsp, .ref ap, .ref lw, .ref hg]))]) [1] rfl
  have hKc := hK.sub (tys' := []) [] rfl
  have hDc := hD.sub (ws' := [(se, .inr (1, [.ref ea, .ref la, .int 0, .int 0, .int 0, .int 0, .int 0, .int 0, .ref ss, .ref spr, .ref fsp, .ref ap, .ref lw, .ref hg]))]) [1] (by decide) rfl
  have hFc := va_free (wc := [(se, .inr (1, [.ref ea, .ref la, .int 0, .int 0, .int 0, .int 0, .int 0, .int 0, .ref ss, .ref spr, .ref fsp, .ref ap, .ref lw, .ref hg]))]) hD hS hA [1] rfl
  refine va_callv (va_runV (As := [.int 0]) (rest := []) ⟨hx, hb, hml, hown, hts⟩ (k_X2_begin l dC dI s.heap.size se ea la ss spr fsp ap lw hg 0 0 0 0 0 0) (cwV 1 hts gX5_quarrel_X2_begin rfl rfl rfl (by decide +kernel) ⟨Nat.le_of_ble_eq_true rfl, Nat.le_of_ble_eq_true rfl⟩) ⟨wPre_blind, va_recv hKc hPc (ci := 1) (q0 := 0) rfl rfl, fun U hU hW => ⟨rfl, wPre_at hPc hKc hDc hU hW⟩⟩ rfl rfl hl.1 rfl (lv_room (Nat.le_of_ble_eq_true rfl)) dX5_quarrel_13 ⟨Nat.le_of_ble_eq_true rfl, Nat.le_of_ble_eq_true rfl⟩) hS (fun q _ h => hFc q h) hFc (fun u t H1 locs ht hvm hw hB hz1 hk1 hS => ?_)
  obtain ⟨hP1, hD1⟩ := hB
  rw [ht] at hP1
  obtain ⟨hP, hD⟩ := va_join (wr := [(h0, .inr (4, [.ref kc, .ref kf, .ref kt, .int 0, .int 0, .ref sy, .int 0, .ref se, .ref sl, .ref hf, .ref hh])), (sy, .inl (cS, 12, .inr (.inr (.inr (.inr fS)))))]) (w1 := [(se, .inr (1, [.ref ea, .ref la, .int 0, .int 0, .int 0, .int 0, .int 0, .int 0, .ref ss, .ref spr, .ref fsp, .ref ap, .ref lw, .ref hg]))]) hP hD [1] [0, 2] rfl rfl (by decide) (by decide) hk1 hFc hP1 hD1
  clear hP1 hD1 hz1 hk1 hFc hPc hDc ht
  generalize H1 = H at hP hS ⊢
  have hP : va_P (dC, dI) vwCl [(h0, .inr (4, [.ref kc, .ref kf, .ref kt, .int 0, .int 0, .ref sy, .int 0, .ref se, .ref sl, .ref hf, .ref hh])), (sy, .inl (cS, 12, .inr (.inr (.inr (.inr fS))))), (se, .inr (1, [.ref ea, .ref la, .int 0, .int 0, .int 0, .int 0, .int 0, .int 0, .ref ss, .ref spr, .ref fsp, .ref ap, .ref lw, .ref hg]))] H := hP
  have hD : va_D A [(h0, .inr (4, [.ref kc, .ref kf, .ref kt, .int 0, .int 0, .ref sy, .int 0, .ref se, .ref sl, .ref hf, .ref hh])), (sy, .inl (cS, 12, .inr (.inr (.inr (.inr fS))))), (se, .inr (1, [.ref ea, .ref la, .int 0, .int 0, .int 0, .int 0, .int 0, .int 0, .ref ss, .ref spr, .ref fsp, .ref ap, .ref lw, .ref hg]))] := hD
  refine lv_aload_n hx hb dX5_quarrel_16 rfl (lv_at hl 1 rfl) ?_
  refine lv_iload_n hx hb dX5_quarrel_17 rfl (lv_at hl 0 rfl) ?_
  have hPc := hP.sub (ws' := [(h0, .inr (4, [.ref kc, .ref kf, .ref kt, .int 0, .int 0, .ref sy, .int 0, .ref se, .ref sl, .ref hf, .ref hh])), (se, .inr (1, [.ref ea, .ref la, .int 0, .int 0, .int 0, .int 0, .int 0, .int 0, .ref ss, .ref spr, .ref fsp, .ref ap, .ref lw, .ref hg])), (sy, .inl (cS, 12, .inr (.inr (.inr (.inr fS)))))]) [0, 2, 1] rfl
  have hKc := hK.sub (tys' := [(cS, (.object "DayBench$Saying"))]) [0] rfl
  have hDc := hD.sub (ws' := [(h0, .inr (4, [.ref kc, .ref kf, .ref kt, .int 0, .int 0, .ref sy, .int 0, .ref se, .ref sl, .ref hf, .ref hh])), (se, .inr (1, [.ref ea, .ref la, .int 0, .int 0, .int 0, .int 0, .int 0, .int 0, .ref ss, .ref spr, .ref fsp, .ref ap, .ref lw, .ref hg])), (sy, .inl (cS, 12, .inr (.inr (.inr (.inr fS)))))]) [0, 2, 1] (by decide) rfl
  have hFc := va_free (wc := [(h0, .inr (4, [.ref kc, .ref kf, .ref kt, .int 0, .int 0, .ref sy, .int 0, .ref se, .ref sl, .ref hf, .ref hh])), (se, .inr (1, [.ref ea, .ref la, .int 0, .int 0, .int 0, .int 0, .int 0, .int 0, .ref ss, .ref spr, .ref fsp, .ref ap, .ref lw, .ref hg])), (sy, .inl (cS, 12, .inr (.inr (.inr (.inr fS)))))]) hD hS hA [0, 2, 1] rfl
  refine va_calli (va_runV (As := [.int 0]) (rest := []) ⟨hx, hb, hml, hown, hts⟩ (k_X5_askSet l dC dI H.size h0 kc kf kt sy se sl hf hh ea la ss spr fsp ap lw hg cS fS 0 0 0 0) (cwV 1 hts gX5_quarrel_X5_askSet rfl rfl rfl (by decide +kernel) ⟨Nat.le_of_ble_eq_true rfl, Nat.le_of_ble_eq_true rfl⟩) ⟨wPre_blind, va_recv hKc hPc (ci := 4) (q0 := 0) rfl rfl, fun U hU hW => ⟨rfl, wPre_at hPc hKc hDc hU hW⟩⟩ rfl rfl hl.1 rfl (lv_room (Nat.le_of_ble_eq_true rfl)) dX5_quarrel_18 ⟨Nat.le_of_ble_eq_true rfl, Nat.le_of_ble_eq_true rfl⟩) hS (fun q _ h => hFc q h) hFc (fun r_3 u t H1 locs ht hvm hw hB hz1 hk1 hS => ?_)
  obtain ⟨hP1, hD1⟩ := hB
  rw [ht] at hP1
  obtain ⟨hP, hD⟩ := va_join (wr := []) (w1 := [(h0, .inr (4, [.ref kc, .ref kf, .ref kt, .int 0, .int 0, .ref sy, .int 0, .ref se, .ref sl, .ref hf, .ref hh])), (se, .inr (1, [.ref ea, .ref la, .int 0, .int 0, .int 0, .int 1, .int 1, .int 1, .ref ss, .ref spr, .ref fsp, .ref ap, .ref lw, .ref hg])), (sy, .inl (cS, 12, .inr (.inr (.inr (.inr fS)))))]) hP hD [0, 2, 1] [] rfl rfl (by decide) (by decide) hk1 hFc hP1 hD1
  clear hP1 hD1 hz1 hk1 hFc hPc hDc ht
  generalize H1 = H at hP hS ⊢
  have hP : va_P (dC, dI) vwCl [(h0, .inr (4, [.ref kc, .ref kf, .ref kt, .int 0, .int 0, .ref sy, .int 0, .ref se, .ref sl, .ref hf, .ref hh])), (se, .inr (1, [.ref ea, .ref la, .int 0, .int 0, .int 0, .int 1, .int 1, .int 1, .ref ss, .ref spr, .ref fsp, .ref ap, .ref lw, .ref hg])), (sy, .inl (cS, 12, .inr (.inr (.inr (.inr fS)))))] H := hP
  have hD : va_D A [(h0, .inr (4, [.ref kc, .ref kf, .ref kt, .int 0, .int 0, .ref sy, .int 0, .ref se, .ref sl, .ref hf, .ref hh])), (se, .inr (1, [.ref ea, .ref la, .int 0, .int 0, .int 0, .int 1, .int 1, .int 1, .ref ss, .ref spr, .ref fsp, .ref ap, .ref lw, .ref hg])), (sy, .inl (cS, 12, .inr (.inr (.inr (.inr fS)))))] := hD
  subst hw
  refine lv_istore_n (lv' := [(2, .int 1), (1, .int 0), (0, .ref h0)]) hx hb dX5_quarrel_21 rfl hl (by decide) rfl (fun ls hl => ?_)
  refine lv_iload_n hx hb dX5_quarrel_22 rfl (lv_at hl 0 rfl) ?_
  refine lv_if_eq (tgt := 38) hx hb dX5_quarrel_23 (by decide) (fun h_4 => ?_) (fun h_4 => ?_)
  · exact (by first | exact absurd h_4 (by decide) | exact absurd (by decide) h_4)
  · refine lv_iload_n hx hb dX5_quarrel_26 rfl (lv_at hl 0 rfl) ?_
    refine lv_iconst (v := 1) hx hb dX5_quarrel_27 (by decide) ?_
    refine lv_icmp_ne (tgt := 35) hx hb dX5_quarrel_28 (by decide) (fun h_5 => ?_) (fun h_5 => ?_)
    · exact (by first | exact absurd h_5 (by decide) | exact absurd (by decide) h_5)
    · refine lv_iconst (v := 0) hx hb dX5_quarrel_31 (by decide) ?_
      refine lv_goto (tgt := 37) hx hb dX5_quarrel_32 (by decide) ?_
      have hP9 := hP.sub (ws' := []) [] rfl
      have hD9 := hD.sub (ws' := []) [] (by decide) rfl
      exact W.iret (v := 0) hx hb hr (fun t ht hW => ⟨⟨_, (), rfl, rfl, by rw [ht]; exact hP9, hD9⟩, hS.F ht⟩) hS.2.2 dX5_quarrel_37

set_option maxHeartbeats 4000000 in
set_option maxRecDepth 100000 in
theorem k_X5_askWidth (l : Launch) (dC : Nat → ClassId) (dI : Nat → Nat → Nat) (sz : Nat) (h0 : Nat) (kc : Nat) (kf : Nat) (kt : Nat) (sy : Nat) (se : Nat) (sl : Nat) (hf : Nat) (hh : Nat) (ea : Nat) (la : Nat) (ss : Nat) (spr : Nat) (fsp : Nat) (ap : Nat) (lw : Nat) (hg : Nat) (cS : ClassId) (fS : Nat → Option Nat)  : Met l yX5_askWidth wsX5_askWidth ({ frames := 3, cells := 0, slots := 0, locals := 66 }) (va_Pc [.ref h0, .int ((-1)), .int ((-1))] (wPre dC dI sz [(h0, .inr (4, [.ref kc, .ref kf, .ref kt, .int 0, .int 0, .ref sy, .int 0, .ref se, .ref sl, .ref hf, .ref hh])), (se, .inr (1, [.ref ea, .ref la, .int 0, .int 0, .int 0, .int 0, .int 0, .int 0, .ref ss, .ref spr, .ref fsp, .ref ap, .ref lw, .ref hg])), (sy, .inl (cS, 12, .inr (.inr (.inr (.inr fS)))))] [(cS, (.object "DayBench$Saying"))])) (va_Qi (fun (r : Int32) (u : Unit) => r = 0) (fun (u : Unit) t => wPost dC dI (va_A [(h0, .inr (4, [.ref kc, .ref kf, .ref kt, .int 0, .int 0, .ref sy, .int 0, .ref se, .ref sl, .ref hf, .ref hh])), (se, .inr (1, [.ref ea, .ref la, .int 0, .int 0, .int 0, .int 0, .int 0, .int 0, .ref ss, .ref spr, .ref fsp, .ref ap, .ref lw, .ref hg])), (sy, .inl (cS, 12, .inr (.inr (.inr (.inr fS)))))] sz) [(h0, .inr (4, [.ref kc, .ref kf, .ref kt, .int 0, .int 0, .ref sy, .int 0, .ref se, .ref sl, .ref hf, .ref hh])), (se, .inr (1, [.ref ea, .ref la, .int 0, .int 0, .int 0, .int 1, .int 0, .int 1, .ref ss, .ref spr, .ref fsp, .ref ap, .ref lw, .ref hg])), (sy, .inl (cS, 12, .inr (.inr (.inr (.inr fS)))))] t) (va_A [(h0, .inr (4, [.ref kc, .ref kf, .ref kt, .int 0, .int 0, .ref sy, .int 0, .ref se, .ref sl, .ref hf, .ref hh])), (se, .inr (1, [.ref ea, .ref la, .int 0, .int 0, .int 0, .int 0, .int 0, .int 0, .ref ss, .ref spr, .ref fsp, .ref ap, .ref lw, .ref hg])), (sy, .inl (cS, 12, .inr (.inr (.inr (.inr fS)))))] sz)) 0 0 (va_A [(h0, .inr (4, [.ref kc, .ref kf, .ref kt, .int 0, .int 0, .ref sy, .int 0, .ref se, .ref sl, .ref hf, .ref hh])), (se, .inr (1, [.ref ea, .ref la, .int 0, .int 0, .int 0, .int 0, .int 0, .int 0, .ref ss, .ref spr, .ref fsp, .ref ap, .ref lw, .ref hg])), (sy, .inl (cS, 12, .inr (.inr (.inr (.inr fS)))))] sz) := by
  refine Met.ofW (cc := cX5_askWidth) (maxL := 6) (ret := (some .int)) (by decide) rfl ?_
  intro p e s m args below meth c s₁ B hml hv
  obtain ⟨rfl, hsz, hP, hK, hD0⟩ := hv
  have hx := B.exec
  have hb := B.bytes
  have hr := B.returns
  have hts := atoms_spec (ws := wsX5_askWidth) B.pre
  have hown : s.vm.findClass RX5 = some m.cls := findClass_of_methodNamed B.named
  have hlocks := B.notSynchronized
  subst hsz
  have hD := hD0.self (sz := s.heap.size)
  generalize hAe : va_A [(h0, .inr (4, [.ref kc, .ref kf, .ref kt, .int 0, .int 0, .ref sy, .int 0, .ref se, .ref sl, .ref hf, .ref hh])), (se, .inr (1, [.ref ea, .ref la, .int 0, .int 0, .int 0, .int 0, .int 0, .int 0, .ref ss, .ref spr, .ref fsp, .ref ap, .ref lw, .ref hg])), (sy, .inl (cS, 12, .inr (.inr (.inr (.inr fS)))))] s.heap.size = A at hD ⊢
  have hA : ∀ q : Nat, s.heap.size ≤ q → A q := fun q h => by rw [← hAe]; exact Or.inr h
  have hS : va_S A s.heap s.heap [] := va_S.rf
  have hP : va_P (dC, dI) vwCl [(h0, .inr (4, [.ref kc, .ref kf, .ref kt, .int 0, .int 0, .ref sy, .int 0, .ref se, .ref sl, .ref hf, .ref hh])), (se, .inr (1, [.ref ea, .ref la, .int 0, .int 0, .int 0, .int 0, .int 0, .int 0, .ref ss, .ref spr, .ref fsp, .ref ap, .ref lw, .ref hg])), (sy, .inl (cS, 12, .inr (.inr (.inr (.inr fS)))))] s.heap := hP
  have hl := lv_entry ([.ref h0, .int ((-1)), .int ((-1))]) (n := 6) (Nat.le_of_ble_eq_true rfl)
  rw [lg_entry_eq]
  generalize (lg_sl ([.ref h0, .int ((-1)), .int ((-1))]) ++ List.replicate (6 - (lg_sl ([.ref h0, .int ((-1)), .int ((-1))])).length) Slot.unset).toArray = ls at hl ⊢
  have hl : lv_has ls 6 [(0, .ref h0), (1, .int ((-1))), (2, .int ((-1)))] := hl
  refine lv_aload_n hx hb dX5_askWidth_0 rfl (lv_at hl 0 rfl) ?_
  refine va_get (D := (dC, dI)) (ci := 4) (v := .ref se) (C := RX5) (T := TX5) (N := 11) hx hb hts (by decide +kernel) hown hK hP 0 rfl rfl 7 (by decide) (hts (.fieldLink RX5 29 "DayBench" "search" "LDayBench$Search;") (by decide +kernel)) (fun _ h9 => h9) rfl dX5_askWidth_1 ?_
  refine lv_aload_n hx hb dX5_askWidth_4 rfl (lv_at hl 0 rfl) ?_
  refine va_get (D := (dC, dI)) (ci := 4) (v := .int 0) (C := RX5) (T := TX5) (N := 11) hx hb hts (by decide +kernel) hown hK hP 0 rfl rfl 4 (by decide) (hts (.fieldLink RX5 71 "DayBench" "events" "I") (by decide +kernel)) (fun _ h9 => h9) rfl dX5_askWidth_5 ?_
  have hPc := hP.sub (ws' := [(se, .inr (1, [.ref ea, .ref la, .int 0, .int 0, .int 0, .int 0, .int 0, .int 0, .ref ss, .ref spr, .ref fsp, .ref ap, .ref lw, .ref hg]))]) [1] rfl
  have hKc := hK.sub (tys' := []) [] rfl
  have hDc := hD.sub (ws' := [(se, .inr (1, [.ref ea, .ref la, .int 0, .int 0, .int 0, .int 0, .int 0, .int 0, .ref ss, .ref spr, .ref fsp, .ref ap, .ref lw, .ref hg]))]) [1] (by decide) rfl
  have hFc := va_free (wc := [(se, .inr (1, [.ref ea, .ref la, .int 0, .int 0, .int 0, .int 0, .int 0, .int 0, .ref ss, .ref spr, .ref fsp, .ref ap, .ref lw, .ref hg]))]) hD hS hA [1] rfl
  refine va_callv (va_runV (As := [.int 0]) (rest := []) ⟨hx, hb, hml, hown, hts⟩ (k_X2_begin l dC dI s.heap.size se ea la ss spr fsp ap lw hg 0 0 0 0 0 0) (cwV 1 hts gX5_askWidth_X2_begin rfl rfl rfl (by decide +kernel) ⟨Nat.le_of_ble_eq_true rfl, Nat.le_of_ble_eq_true rfl⟩) ⟨wPre_blind, va_recv hKc hPc (ci := 1) (q0 := 0) rfl rfl, fun U hU hW => ⟨rfl, wPre_at hPc hKc hDc hU hW⟩⟩ rfl rfl hl.1 rfl (lv_room (Nat.le_of_ble_eq_true rfl)) dX5_askWidth_8 ⟨Nat.le_of_ble_eq_true rfl, Nat.le_of_ble_eq_true rfl⟩) hS (fun q _ h => hFc q h) hFc (fun u t H1 locs ht hvm hw hB hz1 hk1 hS => ?_)
  obtain ⟨hP1, hD1⟩ := hB
  rw [ht] at hP1
  obtain ⟨hP, hD⟩ := va_join (wr := [(h0, .inr (4, [.ref kc, .ref kf, .ref kt, .int 0, .int 0, .ref sy, .int 0, .ref se, .ref sl, .ref hf, .ref hh])), (sy, .inl (cS, 12, .inr (.inr (.inr (.inr fS)))))]) (w1 := [(se, .inr (1, [.ref ea, .ref la, .int 0, .int 0, .int 0, .int 0, .int 0, .int 0, .ref ss, .ref spr, .ref fsp, .ref ap, .ref lw, .ref hg]))]) hP hD [1] [0, 2] rfl rfl (by decide) (by decide) hk1 hFc hP1 hD1
  clear hP1 hD1 hz1 hk1 hFc hPc hDc ht
  generalize H1 = H at hP hS ⊢
  have hP : va_P (dC, dI) vwCl [(h0, .inr (4, [.ref kc, .ref kf, .ref kt, .int 0, .int 0, .ref sy, .int 0, .ref se, .ref sl, .ref hf, .ref hh])), (sy, .inl (cS, 12, .inr (.inr (.inr (.inr fS))))), (se, .inr (1, [.ref ea, .ref la, .int 0, .int 0, .int 0, .int 0, .int 0, .int 0, .ref ss, .ref spr, .ref fsp, .ref ap, .ref lw, .ref hg]))] H := hP
  have hD : va_D A [(h0, .inr (4, [.ref kc, .ref kf, .ref kt, .int 0, .int 0, .ref sy, .int 0, .ref se, .ref sl, .ref hf, .ref hh])), (sy, .inl (cS, 12, .inr (.inr (.inr (.inr fS))))), (se, .inr (1, [.ref ea, .ref la, .int 0, .int 0, .int 0, .int 0, .int 0, .int 0, .ref ss, .ref spr, .ref fsp, .ref ap, .ref lw, .ref hg]))] := hD
  refine lv_aload_n hx hb dX5_askWidth_11 rfl (lv_at hl 0 rfl) ?_
  refine va_get (D := (dC, dI)) (ci := 4) (v := .ref se) (C := RX5) (T := TX5) (N := 11) hx hb hts (by decide +kernel) hown hK hP 0 rfl rfl 7 (by decide) (hts (.fieldLink RX5 29 "DayBench" "search" "LDayBench$Search;") (by decide +kernel)) (fun _ h9 => h9) rfl dX5_askWidth_12 ?_
  refine lv_aload_n hx hb dX5_askWidth_15 rfl (lv_at hl 0 rfl) ?_
  refine va_get (D := (dC, dI)) (ci := 4) (v := .ref sy) (C := RX5) (T := TX5) (N := 11) hx hb hts (by decide +kernel) hown hK hP 0 rfl rfl 5 (by decide) (hts (.fieldLink RX5 21 "DayBench" "sayings" "[LDayBench$Saying;") (by decide +kernel)) (fun _ h9 => h9) rfl dX5_askWidth_16 ?_
  refine lv_aload_n hx hb dX5_askWidth_19 rfl (lv_at hl 0 rfl) ?_
  have hPc := hP.sub (ws' := [(h0, .inr (4, [.ref kc, .ref kf, .ref kt, .int 0, .int 0, .ref sy, .int 0, .ref se, .ref sl, .ref hf, .ref hh]))]) [0] rfl
  have hKc := hK.sub (tys' := []) [] rfl
  refine vp_callSi (va_Run.run (va_runV (As := []) (rest := [.ref sy, .ref se]) ⟨hx, hb, hml, hown, hts⟩ (k_X5_takenSet l dC dI h0 kc kf kt sy se sl hf hh) (cwV 0 hts gX5_askWidth_X5_takenSet rfl rfl rfl (by decide +kernel) ⟨Nat.le_of_ble_eq_true rfl, Nat.le_of_ble_eq_true rfl⟩) ⟨rPre_blind, va_recv hKc hPc (ci := 4) (q0 := 0) rfl rfl, fun U hU hW => ⟨rfl, rPre_at hPc hKc hU hW⟩⟩ rfl rfl hl.1 rfl (lv_room (Nat.le_of_ble_eq_true rfl)) dX5_askWidth_20 ⟨Nat.le_of_ble_eq_true rfl, Nat.le_of_ble_eq_true rfl⟩)) (fun r_2 er_2 => ?_)
  subst er_2
  have hPc := hP.sub (ws' := [(se, .inr (1, [.ref ea, .ref la, .int 0, .int 0, .int 0, .int 0, .int 0, .int 0, .ref ss, .ref spr, .ref fsp, .ref ap, .ref lw, .ref hg])), (sy, .inl (cS, 12, .inr (.inr (.inr (.inr fS)))))]) [2, 1] rfl
  have hKc := hK.sub (tys' := [(cS, (.object "DayBench$Saying"))]) [0] rfl
  have hDc := hD.sub (ws' := [(se, .inr (1, [.ref ea, .ref la, .int 0, .int 0, .int 0, .int 0, .int 0, .int 0, .ref ss, .ref spr, .ref fsp, .ref ap, .ref lw, .ref hg])), (sy, .inl (cS, 12, .inr (.inr (.inr (.inr fS)))))]) [2, 1] (by decide) rfl
  have hFc := va_free (wc := [(se, .inr (1, [.ref ea, .ref la, .int 0, .int 0, .int 0, .int 0, .int 0, .int 0, .ref ss, .ref spr, .ref fsp, .ref ap, .ref lw, .ref hg])), (sy, .inl (cS, 12, .inr (.inr (.inr (.inr fS)))))]) hD hS hA [2, 1] rfl
  refine va_callv (va_runV (As := [.ref sy, .int 0]) (rest := []) ⟨hx, hb, hml, hown, hts⟩ (k_X2_lay l dC dI H.size se ea la ss spr fsp ap lw hg 0 0 0 0 0 sy cS fS) (cwV 2 hts gX5_askWidth_X2_lay rfl rfl rfl (by decide +kernel) ⟨Nat.le_of_ble_eq_true rfl, Nat.le_of_ble_eq_true rfl⟩) ⟨wPre_blind, va_recv hKc hPc (ci := 1) (q0 := 0) rfl rfl, fun U hU hW => ⟨rfl, wPre_at hPc hKc hDc hU hW⟩⟩ rfl rfl hl.1 rfl (lv_room (Nat.le_of_ble_eq_true rfl)) dX5_askWidth_23 ⟨Nat.le_of_ble_eq_true rfl, Nat.le_of_ble_eq_true rfl⟩) hS (fun q _ h => hFc q h) hFc (fun u t H1 locs ht hvm hw hB hz1 hk1 hS => ?_)
  obtain ⟨hP1, hD1⟩ := hB
  rw [ht] at hP1
  obtain ⟨hP, hD⟩ := va_join (wr := [(h0, .inr (4, [.ref kc, .ref kf, .ref kt, .int 0, .int 0, .ref sy, .int 0, .ref se, .ref sl, .ref hf, .ref hh]))]) (w1 := [(se, .inr (1, [.ref ea, .ref la, .int 0, .int 0, .int 0, .int 0, .int 0, .int 1, .ref ss, .ref spr, .ref fsp, .ref ap, .ref lw, .ref hg])), (sy, .inl (cS, 12, .inr (.inr (.inr (.inr fS)))))]) hP hD [2, 1] [0] rfl rfl (by decide) (by decide) hk1 hFc hP1 hD1
  clear hP1 hD1 hz1 hk1 hFc hPc hDc ht
  generalize H1 = H at hP hS ⊢
  have hP : va_P (dC, dI) vwCl [(h0, .inr (4, [.ref kc, .ref kf, .ref kt, .int 0, .int 0, .ref sy, .int 0, .ref se, .ref sl, .ref hf, .ref hh])), (se, .inr (1, [.ref ea, .ref la, .int 0, .int 0, .int 0, .int 0, .int 0, .int 1, .ref ss, .ref spr, .ref fsp, .ref ap, .ref lw, .ref hg])), (sy, .inl (cS, 12, .inr (.inr (.inr (.inr fS)))))] H := hP
  have hD : va_D A [(h0, .inr (4, [.ref kc, .ref kf, .ref kt, .int 0, .int 0, .ref sy, .int 0, .ref se, .ref sl, .ref hf, .ref hh])), (se, .inr (1, [.ref ea, .ref la, .int 0, .int 0, .int 0, .int 0, .int 0, .int 1, .ref ss, .ref spr, .ref fsp, .ref ap, .ref lw, .ref hg])), (sy, .inl (cS, 12, .inr (.inr (.inr (.inr fS)))))] := hD
  refine lv_iload_n hx hb dX5_askWidth_26 rfl (lv_at hl 1 rfl) ?_
  refine lv_iconst (v := (-1)) hx hb dX5_askWidth_27 (by decide) ?_
  refine lv_icmp_eq (tgt := 40) hx hb dX5_askWidth_28 (by decide) (fun h_4 => ?_) (fun h_4 => ?_)
  · refine lv_aload_n hx hb dX5_askWidth_40 rfl (lv_at hl 0 rfl) ?_
    refine va_get (D := (dC, dI)) (ci := 4) (v := .ref se) (C := RX5) (T := TX5) (N := 11) hx hb hts (by decide +kernel) hown hK hP 0 rfl rfl 7 (by decide) (hts (.fieldLink RX5 29 "DayBench" "search" "LDayBench$Search;") (by decide +kernel)) (fun _ h9 => h9) rfl dX5_askWidth_41 ?_
    refine lv_iconst (v := 0) hx hb dX5_askWidth_44 (by decide) ?_
    have hPc := hP.sub (ws' := [(se, .inr (1, [.ref ea, .ref la, .int 0, .int 0, .int 0, .int 0, .int 0, .int 1, .ref ss, .ref spr, .ref fsp, .ref ap, .ref lw, .ref hg]))]) [1] rfl
    have hKc := hK.sub (tys' := []) [] rfl
    have hDc := hD.sub (ws' := [(se, .inr (1, [.ref ea, .ref la, .int 0, .int 0, .int 0, .int 0, .int 0, .int 1, .ref ss, .ref spr, .ref fsp, .ref ap, .ref lw, .ref hg]))]) [1] (by decide) rfl
    have hFc := va_free (wc := [(se, .inr (1, [.ref ea, .ref la, .int 0, .int 0, .int 0, .int 0, .int 0, .int 1, .ref ss, .ref spr, .ref fsp, .ref ap, .ref lw, .ref hg]))]) hD hS hA [1] rfl
    refine va_calli (va_runV (As := [.int 0]) (rest := []) ⟨hx, hb, hml, hown, hts⟩ (k_X2_run_0 l dC dI H.size se ea la ss spr fsp ap lw hg 0 0 0 1) (cwV 1 hts gX5_askWidth_X2_run rfl rfl rfl (by decide +kernel) ⟨Nat.le_of_ble_eq_true rfl, Nat.le_of_ble_eq_true rfl⟩) ⟨wPre_blind, va_recv hKc hPc (ci := 1) (q0 := 0) rfl rfl, fun U hU hW => ⟨rfl, wPre_at hPc hKc hDc hU hW⟩⟩ rfl rfl hl.1 rfl (lv_room (Nat.le_of_ble_eq_true rfl)) dX5_askWidth_45 ⟨Nat.le_of_ble_eq_true rfl, Nat.le_of_ble_eq_true rfl⟩) hS (fun q _ h => hFc q h) hFc (fun r_5 u t H1 locs ht hvm hw hB hz1 hk1 hS => ?_)
    obtain ⟨hP1, hD1⟩ := hB
    rw [ht] at hP1
    obtain ⟨hP, hD⟩ := va_join (wr := [(h0, .inr (4, [.ref kc, .ref kf, .ref kt, .int 0, .int 0, .ref sy, .int 0, .ref se, .ref sl, .ref hf, .ref hh])), (sy, .inl (cS, 12, .inr (.inr (.inr (.inr fS)))))]) (w1 := [(se, .inr (1, [.ref ea, .ref la, .int 0, .int 0, .int 0, .int 1, .int 0, .int 1, .ref ss, .ref spr, .ref fsp, .ref ap, .ref lw, .ref hg]))]) hP hD [1] [0, 2] rfl rfl (by decide) (by decide) hk1 hFc hP1 hD1
    clear hP1 hD1 hz1 hk1 hFc hPc hDc ht
    generalize H1 = H at hP hS ⊢
    have hP : va_P (dC, dI) vwCl [(h0, .inr (4, [.ref kc, .ref kf, .ref kt, .int 0, .int 0, .ref sy, .int 0, .ref se, .ref sl, .ref hf, .ref hh])), (sy, .inl (cS, 12, .inr (.inr (.inr (.inr fS))))), (se, .inr (1, [.ref ea, .ref la, .int 0, .int 0, .int 0, .int 1, .int 0, .int 1, .ref ss, .ref spr, .ref fsp, .ref ap, .ref lw, .ref hg]))] H := hP
    have hD : va_D A [(h0, .inr (4, [.ref kc, .ref kf, .ref kt, .int 0, .int 0, .ref sy, .int 0, .ref se, .ref sl, .ref hf, .ref hh])), (sy, .inl (cS, 12, .inr (.inr (.inr (.inr fS))))), (se, .inr (1, [.ref ea, .ref la, .int 0, .int 0, .int 0, .int 1, .int 0, .int 1, .ref ss, .ref spr, .ref fsp, .ref ap, .ref lw, .ref hg]))] := hD
    subst hw
    refine lv_istore_n (lv' := [(3, .int 1), (0, .ref h0), (1, .int ((-1))), (2, .int ((-1)))]) hx hb dX5_askWidth_48 rfl hl (by decide) rfl (fun ls hl => ?_)
    refine lv_iload_n hx hb dX5_askWidth_49 rfl (lv_at hl 0 rfl) ?_
    refine lv_iconst (v := 1) hx hb dX5_askWidth_50 (by decide) ?_
    refine lv_icmp_eq (tgt := 65) hx hb dX5_askWidth_51 (by decide) (fun h_6 => ?_) (fun h_6 => ?_)
    · refine lv_iconst (v := 0) hx hb dX5_askWidth_65 (by decide) ?_
      refine lv_istore (lv' := [(4, .int 0), (3, .int 1), (0, .ref h0), (1, .int ((-1))), (2, .int ((-1)))]) hx hb dX5_askWidth_66 hl (by decide) rfl (fun ls hl => ?_)
      refine lv_iconst (v := 0) hx hb dX5_askWidth_68 (by decide) ?_
      refine lv_istore (lv' := [(5, .int 0), (4, .int 0), (3, .int 1), (0, .ref h0), (1, .int ((-1))), (2, .int ((-1)))]) hx hb dX5_askWidth_69 hl (by decide) rfl (fun ls hl => ?_)
      refine lv_iload hx hb dX5_askWidth_71 (lv_at hl 0 rfl) ?_
      refine lv_aload_n hx hb dX5_askWidth_73 rfl (lv_at hl 3 rfl) ?_
      refine va_get (D := (dC, dI)) (ci := 4) (v := .int 0) (C := RX5) (T := TX5) (N := 11) hx hb hts (by decide +kernel) hown hK hP 0 rfl rfl 4 (by decide) (hts (.fieldLink RX5 71 "DayBench" "events" "I") (by decide +kernel)) (fun _ h9 => h9) rfl dX5_askWidth_74 ?_
      refine lv_icmp_ge (tgt := 112) hx hb dX5_askWidth_77 (by decide) (fun h_7 => ?_) (fun h_7 => ?_)
      · refine lv_iload hx hb dX5_askWidth_112 (lv_at hl 1 rfl) ?_
        have hP9 := hP.sub (ws' := [(h0, .inr (4, [.ref kc, .ref kf, .ref kt, .int 0, .int 0, .ref sy, .int 0, .ref se, .ref sl, .ref hf, .ref hh])), (se, .inr (1, [.ref ea, .ref la, .int 0, .int 0, .int 0, .int 1, .int 0, .int 1, .ref ss, .ref spr, .ref fsp, .ref ap, .ref lw, .ref hg])), (sy, .inl (cS, 12, .inr (.inr (.inr (.inr fS)))))]) [0, 2, 1] rfl
        have hD9 := hD.sub (ws' := [(h0, .inr (4, [.ref kc, .ref kf, .ref kt, .int 0, .int 0, .ref sy, .int 0, .ref se, .ref sl, .ref hf, .ref hh])), (se, .inr (1, [.ref ea, .ref la, .int 0, .int 0, .int 0, .int 1, .int 0, .int 1, .ref ss, .ref spr, .ref fsp, .ref ap, .ref lw, .ref hg])), (sy, .inl (cS, 12, .inr (.inr (.inr (.inr fS)))))]) [0, 2, 1] (by decide) rfl
        exact W.iret (v := 0) hx hb hr (fun t ht hW => ⟨⟨_, (), rfl, rfl, by rw [ht]; exact hP9, hD9⟩, hS.F ht⟩) hS.2.2 dX5_askWidth_114
      · exact (by first | exact absurd h_7 (by decide) | exact absurd (by decide) h_7)
    · exact (by first | exact absurd h_6 (by decide) | exact absurd (by decide) h_6)
  · exact (by first | exact absurd h_4 (by decide) | exact absurd (by decide) h_4)

