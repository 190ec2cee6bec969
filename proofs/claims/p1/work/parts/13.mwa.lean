set_option maxHeartbeats 4000000 in
set_option maxRecDepth 100000 in
theorem k_X6_day (l : Launch) (dC : Nat → ClassId) (dI : Nat → Nat → Nat) (sz : Nat) (h0 : Nat) (a_kingCalendar : Nat) (a_kingFrom : Nat) (a_kingTo : Nat) (a_sayEvent : Nat) (a_sayWhat : Nat) (a_sayA : Nat) (a_sayB : Nat) (a_sayC : Nat) (a_sayWeight : Nat) (a_copyOf : Nat) (a_isTaken : Nat) (a_spanFrom : Nat) (a_spanTo : Nat) (a_spanMany : Nat) (a_eventFrom : Nat) (a_eventTo : Nat) (a_eventMany : Nat) (a_newFrom : Nat) (a_newTo : Nat) (a_low : Nat) (a_high : Nat) (a_took : Nat) (a_first : Nat) (a_last : Nat) (a_slipSets : Nat) (a_newSets : Nat) (a_roots : Nat) (a_ownFirst : Nat) (a_ownLast : Nat) (th : Int32) (fy : Int32) (fm : Int32) (fd : Int32) (as_ : Int32) (fe : Int32) (fdy : Int32) (lk : Int32) (isp : Int32) (hw_ : Int32) (smy : Int32) (p0 : Int32) (p1 : Int32) (p2 : Int32) (p3 : Int32)  : Met l yX6_day wsX6_day ({ frames := 3, cells := 0, slots := 0, locals := 68 }) (va_Pc [.ref h0, .int p0, .int p1, .int p2, .int p3] (wPre dC dI sz [(h0, .inr (5, [.int th, .int fy, .int fm, .int fd, .ref a_kingCalendar, .ref a_kingFrom, .ref a_kingTo, .int 0, .int 0, .ref a_sayEvent, .ref a_sayWhat, .ref a_sayA, .ref a_sayB, .ref a_sayC, .ref a_sayWeight, .ref a_copyOf, .ref a_isTaken, .int 0, .ref a_spanFrom, .ref a_spanTo, .ref a_spanMany, .int as_, .int fe, .int fdy, .ref a_eventFrom, .ref a_eventTo, .ref a_eventMany, .int lk, .int isp, .ref a_newFrom, .ref a_newTo, .ref a_low, .ref a_high, .ref a_took, .ref a_first, .ref a_last, .int hw_, .ref a_slipSets, .int smy, .ref a_newSets, .ref a_roots, .ref a_ownFirst, .ref a_ownLast]))] [])) (va_Qi (fun (r : Int32) (u : Unit) => r = f_X6_day p0 p1 p2 p3) (fun (u : Unit) t => wPost dC dI (va_A [(h0, .inr (5, [.int th, .int fy, .int fm, .int fd, .ref a_kingCalendar, .ref a_kingFrom, .ref a_kingTo, .int 0, .int 0, .ref a_sayEvent, .ref a_sayWhat, .ref a_sayA, .ref a_sayB, .ref a_sayC, .ref a_sayWeight, .ref a_copyOf, .ref a_isTaken, .int 0, .ref a_spanFrom, .ref a_spanTo, .ref a_spanMany, .int as_, .int fe, .int fdy, .ref a_eventFrom, .ref a_eventTo, .ref a_eventMany, .int lk, .int isp, .ref a_newFrom, .ref a_newTo, .ref a_low, .ref a_high, .ref a_took, .ref a_first, .ref a_last, .int hw_, .ref a_slipSets, .int smy, .ref a_newSets, .ref a_roots, .ref a_ownFirst, .ref a_ownLast]))] sz) [] t) (va_A [(h0, .inr (5, [.int th, .int fy, .int fm, .int fd, .ref a_kingCalendar, .ref a_kingFrom, .ref a_kingTo, .int 0, .int 0, .ref a_sayEvent, .ref a_sayWhat, .ref a_sayA, .ref a_sayB, .ref a_sayC, .ref a_sayWeight, .ref a_copyOf, .ref a_isTaken, .int 0, .ref a_spanFrom, .ref a_spanTo, .ref a_spanMany, .int as_, .int fe, .int fdy, .ref a_eventFrom, .ref a_eventTo, .ref a_eventMany, .int lk, .int isp, .ref a_newFrom, .ref a_newTo, .ref a_low, .ref a_high, .ref a_took, .ref a_first, .ref a_last, .int hw_, .ref a_slipSets, .int smy, .ref a_newSets, .ref a_roots, .ref a_ownFirst, .ref a_ownLast]))] sz)) 0 0 (va_A [(h0, .inr (5, [.int th, .int fy, .int fm, .int fd, .ref a_kingCalendar, .ref a_kingFrom, .ref a_kingTo, .int 0, .int 0, .ref a_sayEvent, .ref a_sayWhat, .ref a_sayA, .ref a_sayB, .ref a_sayC, .ref a_sayWeight, .ref a_copyOf, .ref a_isTaken, .int 0, .ref a_spanFrom, .ref a_spanTo, .ref a_spanMany, .int as_, .int fe, .int fdy, .ref a_eventFrom, .ref a_eventTo, .ref a_eventMany, .int lk, .int isp, .ref a_newFrom, .ref a_newTo, .ref a_low, .ref a_high, .ref a_took, .ref a_first, .ref a_last, .int hw_, .ref a_slipSets, .int smy, .ref a_newSets, .ref a_roots, .ref a_ownFirst, .ref a_ownLast]))] sz) := by
  refine Met.ofW (cc := cX6_day) (maxL := 6) (ret := (some .int)) (by decide) rfl ?_
  intro p e s m args below meth c s₁ B hml hv
  obtain ⟨rfl, hsz, hP, hK, hD0⟩ := hv
  have hx := B.exec
  have hb := B.bytes
  have hr := B.returns
  have hts := atoms_spec (ws := wsX6_day) B.pre
  have hown : s.vm.findClass RX6 = some m.cls := findClass_of_methodNamed B.named
  have hlocks := B.notSynchronized
  subst hsz
  have hD := hD0.self (sz := s.heap.size)
  generalize hAe : va_A [(h0, .inr (5, [.int th, .int fy, .int fm, .int fd, .ref a_kingCalendar, .ref a_kingFrom, .ref a_kingTo, .int 0, .int 0, .ref a_sayEvent, .ref a_sayWhat, .ref a_sayA, .ref a_sayB, .ref a_sayC, .ref a_sayWeight, .ref a_copyOf, .ref a_isTaken, .int 0, .ref a_spanFrom, .ref a_spanTo, .ref a_spanMany, .int as_, .int fe, .int fdy, .ref a_eventFrom, .ref a_eventTo, .ref a_eventMany, .int lk, .int isp, .ref a_newFrom, .ref a_newTo, .ref a_low, .ref a_high, .ref a_took, .ref a_first, .ref a_last, .int hw_, .ref a_slipSets, .int smy, .ref a_newSets, .ref a_roots, .ref a_ownFirst, .ref a_ownLast]))] s.heap.size = A at hD ⊢
  have hA : ∀ q : Nat, s.heap.size ≤ q → A q := fun q h => by rw [← hAe]; exact Or.inr h
  have hS : va_S A s.heap s.heap [] := va_S.rf
  have hP : va_P (dC, dI) vwCl [(h0, .inr (5, [.int th, .int fy, .int fm, .int fd, .ref a_kingCalendar, .ref a_kingFrom, .ref a_kingTo, .int 0, .int 0, .ref a_sayEvent, .ref a_sayWhat, .ref a_sayA, .ref a_sayB, .ref a_sayC, .ref a_sayWeight, .ref a_copyOf, .ref a_isTaken, .int 0, .ref a_spanFrom, .ref a_spanTo, .ref a_spanMany, .int as_, .int fe, .int fdy, .ref a_eventFrom, .ref a_eventTo, .ref a_eventMany, .int lk, .int isp, .ref a_newFrom, .ref a_newTo, .ref a_low, .ref a_high, .ref a_took, .ref a_first, .ref a_last, .int hw_, .ref a_slipSets, .int smy, .ref a_newSets, .ref a_roots, .ref a_ownFirst, .ref a_ownLast]))] s.heap := hP
  have hl := lv_entry ([.ref h0, .int p0, .int p1, .int p2, .int p3]) (n := 6) (Nat.le_of_ble_eq_true rfl)
  rw [lg_entry_eq]
  generalize (lg_sl ([.ref h0, .int p0, .int p1, .int p2, .int p3]) ++ List.replicate (6 - (lg_sl ([.ref h0, .int p0, .int p1, .int p2, .int p3])).length) Slot.unset).toArray = ls at hl ⊢
  have hl : lv_has ls 6 [(0, .ref h0), (1, .int p0), (2, .int p1), (3, .int p2), (4, .int p3)] := hl
  refine lv_aload_n hx hb dX6_day_0 rfl (lv_at hl 0 rfl) ?_
  refine lv_iconst (v := 0) hx hb dX6_day_1 (by decide) ?_
  refine va_put (D := (dC, dI)) (ci := 5) (v := .int 0) (ty := .int) (C := RX6) (T := TX6) (N := 43) hx hb hts (by decide +kernel) tyX6 tyX6_ok nmX6 hown hK hP hD hS 0 rfl rfl 0 (by decide) (hts (.fieldLink RX6 98 "DayBenchModel" "thrown" "I") (by decide +kernel)) (fun _ h9 => h9) rfl (by decide +kernel) rfl rfl (Nat.le_of_ble_eq_true rfl) dX6_day_2 (fun H locs hP hD hS => ?_)
  have hP : va_P (dC, dI) vwCl [(h0, .inr (5, [.int 0, .int fy, .int fm, .int fd, .ref a_kingCalendar, .ref a_kingFrom, .ref a_kingTo, .int 0, .int 0, .ref a_sayEvent, .ref a_sayWhat, .ref a_sayA, .ref a_sayB, .ref a_sayC, .ref a_sayWeight, .ref a_copyOf, .ref a_isTaken, .int 0, .ref a_spanFrom, .ref a_spanTo, .ref a_spanMany, .int as_, .int fe, .int fdy, .ref a_eventFrom, .ref a_eventTo, .ref a_eventMany, .int lk, .int isp, .ref a_newFrom, .ref a_newTo, .ref a_low, .ref a_high, .ref a_took, .ref a_first, .ref a_last, .int hw_, .ref a_slipSets, .int smy, .ref a_newSets, .ref a_roots, .ref a_ownFirst, .ref a_ownLast]))] H := hP
  have hD : va_D A [(h0, .inr (5, [.int 0, .int fy, .int fm, .int fd, .ref a_kingCalendar, .ref a_kingFrom, .ref a_kingTo, .int 0, .int 0, .ref a_sayEvent, .ref a_sayWhat, .ref a_sayA, .ref a_sayB, .ref a_sayC, .ref a_sayWeight, .ref a_copyOf, .ref a_isTaken, .int 0, .ref a_spanFrom, .ref a_spanTo, .ref a_spanMany, .int as_, .int fe, .int fdy, .ref a_eventFrom, .ref a_eventTo, .ref a_eventMany, .int lk, .int isp, .ref a_newFrom, .ref a_newTo, .ref a_low, .ref a_high, .ref a_took, .ref a_first, .ref a_last, .int hw_, .ref a_slipSets, .int smy, .ref a_newSets, .ref a_roots, .ref a_ownFirst, .ref a_ownLast]))] := hD
  refine lv_iload_n hx hb dX6_day_5 rfl (lv_at hl 1 rfl) ?_
  refine lv_iload_n hx hb dX6_day_6 rfl (lv_at hl 2 rfl) ?_
  refine lv_iload_n hx hb dX6_day_7 rfl (lv_at hl 3 rfl) ?_
  refine lv_iload hx hb dX6_day_8 (lv_at hl 4 rfl) ?_
  refine vp_callSi (va_Run.run (va_runS (As := [.int p0, .int p1, .int p2, .int p3]) (rest := []) ⟨hx, hb, hml, hown, hts⟩ (k_X6_dayOf l p0 p1 p2 p3) (va_cwS 4 hts gX6_day_X6_dayOf rfl rfl rfl (by decide +kernel) ⟨Nat.le_of_ble_eq_true rfl, Nat.le_of_ble_eq_true rfl⟩) ⟨fun _ _ _ _ q => q, fun _ _ _ => ⟨rfl, trivial⟩⟩ rfl rfl hl.1 rfl (lv_room (Nat.le_of_ble_eq_true rfl)) dX6_day_10 ⟨Nat.le_of_ble_eq_true rfl, Nat.le_of_ble_eq_true rfl⟩)) (fun r_1 er_1 => ?_)
  subst er_1
  refine lv_istore (lv' := [(5, .int (f_X6_dayOf p0 p1 p2 p3)), (0, .ref h0), (1, .int p0), (2, .int p1), (3, .int p2), (4, .int p3)]) hx hb dX6_day_13 hl (by decide) rfl (fun ls hl => ?_)
  refine lv_iload hx hb dX6_day_15 (lv_at hl 0 rfl) ?_
  refine vp_callSi (va_Run.run (va_runS (As := [.int (f_X6_dayOf p0 p1 p2 p3)]) (rest := []) ⟨hx, hb, hml, hown, hts⟩ (k_X6_isDay l (f_X6_dayOf p0 p1 p2 p3)) (va_cwS 1 hts gX6_day_X6_isDay rfl rfl rfl (by decide +kernel) ⟨Nat.le_of_ble_eq_true rfl, Nat.le_of_ble_eq_true rfl⟩) ⟨fun _ _ _ _ q => q, fun _ _ _ => ⟨rfl, trivial⟩⟩ rfl rfl hl.1 rfl (lv_room (Nat.le_of_ble_eq_true rfl)) dX6_day_17 ⟨Nat.le_of_ble_eq_true rfl, Nat.le_of_ble_eq_true rfl⟩)) (fun r_2 er_2 => ?_)
  subst er_2
  refine lv_if_eq (tgt := 28) hx hb dX6_day_20 (by decide) (fun h_3 => ?_) (fun h_3 => ?_)
  · refine lv_iconst (v := (-1)) hx hb dX6_day_28 (by decide) ?_
    have hP9 := hP.sub (ws' := []) [] rfl
    have hD9 := hD.sub (ws' := []) [] (by decide) rfl
    exact W.iret (v := (-1)) hx hb hr (fun t ht hW => ⟨⟨_, (), rfl, by rw [f_X6_day, if_pos h_3], by rw [ht]; exact hP9, hD9⟩, hS.F ht⟩) hS.2.2 dX6_day_29
  · refine lv_iload hx hb dX6_day_23 (lv_at hl 0 rfl) ?_
    refine lv_goto (tgt := 29) hx hb dX6_day_25 (by decide) ?_
    have hP9 := hP.sub (ws' := []) [] rfl
    have hD9 := hD.sub (ws' := []) [] (by decide) rfl
    exact W.iret (v := f_X6_dayOf p0 p1 p2 p3) hx hb hr (fun t ht hW => ⟨⟨_, (), rfl, by rw [f_X6_day, if_neg h_3], by rw [ht]; exact hP9, hD9⟩, hS.F ht⟩) hS.2.2 dX6_day_29

theorem im_D {d : Int32} (h : ¬ f_X6_isDay d = 0) : d.toNatClampNeg ≤ 985999 ∧ d = nI d.toNatClampNeg := by
  have h1 : ¬ d < 0 := fun q => h (by rw [f_X6_isDay, if_pos q])
  have h2 : ¬ 986000 ≤ d := fun q => h (by rw [f_X6_isDay, if_neg h1, if_pos q])
  obtain ⟨j, hj, rfl⟩ := nI_of h1
  rw [nI_clamp hj]
  refine ⟨?_, rfl⟩
  rcases Nat.lt_or_ge j 986000 with q | q
  · omega
  · exact absurd (nI_le (a := 986000) q hj) h2
theorem y0_M {D : Nat} (hD : D ≤ 985999) : (if 1 < nI D / 366 then nI D / 366 else 1) = nI (max 1 (D / 366)) := by
  have e : nI D / 366 = nI (D / 366) := by rw [show (366 : Int32) = nI 366 from rfl, pk_div (by omega) (by omega) (by omega)]
  rw [e]
  by_cases h : 1 < D / 366
  · rw [if_pos (show (1 : Int32) < nI (D / 366) from nI_lt (a := 1) h (by omega)), Nat.max_eq_right (by omega)]
  · rw [if_neg (show ¬ (1 : Int32) < nI (D / 366) from nI_nlt (a := 1) (b := D / 366) (by omega) (by omega)), Nat.max_eq_left (by omega)]
    rfl
theorem c3_of {c : Int32} (h0 : ¬ c < 0) (h2 : ¬ 2 < c) : c = 0 ∨ c = 1 ∨ c = 2 := by
  obtain ⟨j, hj, rfl⟩ := nI_of2 (M := 2) (n := 2) rfl h0 (Int32.not_lt.mp h2)
  rcases (show j = 0 ∨ j = 1 ∨ j = 2 by omega) with rfl | rfl | rfl
  · exact Or.inl rfl
  · exact Or.inr (Or.inl rfl)
  · exact Or.inr (Or.inr rfl)
theorem yM_stop {c d : Int32} {D Y : Nat} (h0 : ¬ c < 0) (h2 : ¬ 2 < c) (hD : D ≤ 985999) (hd : d = nI D) (hY : Y ≤ 2702) (h : ¬ d < f_X6_yearFrom c (nI Y + 1)) : Y < 2702 := by
  rcases Nat.lt_or_ge Y 2702 with q | q
  · exact q
  · have e : Y = 2702 := by omega
    subst e
    refine absurd ?_ h
    rw [hd]
    have k : nI D ≤ 985999 := nI_le (b := 985999) hD (by omega)
    refine Int32.lt_of_le_of_lt k ?_
    rcases c3_of h0 h2 with rfl | rfl | rfl <;> decide
theorem len_5 (a b c : Int32) : 5 ≤ f_X6_lengthOf a b c := by
  unfold f_X6_lengthOf
  repeat' split
  all_goals decide
theorem len_31 (a b c : Int32) : f_X6_lengthOf a b c ≤ 31 := by
  unfold f_X6_lengthOf
  repeat' split
  all_goals decide
theorem lm_M {c y k r : Int32} (h : ¬ r < f_X6_lengthOf c y k) : (r - f_X6_lengthOf c y k).toNatClampNeg < r.toNatClampNeg := by
  have h5 := len_5 c y k
  have h31 := len_31 c y k
  generalize f_X6_lengthOf c y k = L at h h5 h31
  have h6 := Int32.not_lt.mp h
  rw [Int32.le_iff_toInt_le] at h5 h31 h6
  have e5 : (5 : Int32).toInt = 5 := rfl
  have e31 : (31 : Int32).toInt = 31 := rfl
  rw [e5] at h5
  rw [e31] at h31
  have hr := Int32.toInt_lt r
  have e : (r - L).toInt = r.toInt - L.toInt := by
    rw [Int32.toInt_sub]
    rw [Int.bmod_eq_of_le (by omega) (by omega)]
  show (r - L).toInt.toNat < r.toInt.toNat
  rw [e]
  omega

set_option maxHeartbeats 4000000 in
set_option maxRecDepth 100000 in
theorem k_X6_finds (l : Launch) (dC : Nat → ClassId) (dI : Nat → Nat → Nat) (sz : Nat) (h0 : Nat) (a_kingCalendar : Nat) (a_kingFrom : Nat) (a_kingTo : Nat) (a_sayEvent : Nat) (a_sayWhat : Nat) (a_sayA : Nat) (a_sayB : Nat) (a_sayC : Nat) (a_sayWeight : Nat) (a_copyOf : Nat) (a_isTaken : Nat) (a_spanFrom : Nat) (a_spanTo : Nat) (a_spanMany : Nat) (a_eventFrom : Nat) (a_eventTo : Nat) (a_eventMany : Nat) (a_newFrom : Nat) (a_newTo : Nat) (a_low : Nat) (a_high : Nat) (a_took : Nat) (a_first : Nat) (a_last : Nat) (a_slipSets : Nat) (a_newSets : Nat) (a_roots : Nat) (a_ownFirst : Nat) (a_ownLast : Nat) (th : Int32) (fy : Int32) (fm : Int32) (fd : Int32) (as_ : Int32) (fe : Int32) (fdy : Int32) (lk : Int32) (isp : Int32) (hw_ : Int32) (smy : Int32) (p0 : Int32) (p1 : Int32)  : Met l yX6_finds wsX6_finds ({ frames := 2, cells := 0, slots := 0, locals := 43 }) (va_Pc [.ref h0, .int p0, .int p1] (wPre dC dI sz [(h0, .inr (5, [.int th, .int fy, .int fm, .int fd, .ref a_kingCalendar, .ref a_kingFrom, .ref a_kingTo, .int 0, .int 0, .ref a_sayEvent, .ref a_sayWhat, .ref a_sayA, .ref a_sayB, .ref a_sayC, .ref a_sayWeight, .ref a_copyOf, .ref a_isTaken, .int 0, .ref a_spanFrom, .ref a_spanTo, .ref a_spanMany, .int as_, .int fe, .int fdy, .ref a_eventFrom, .ref a_eventTo, .ref a_eventMany, .int lk, .int isp, .ref a_newFrom, .ref a_newTo, .ref a_low, .ref a_high, .ref a_took, .ref a_first, .ref a_last, .int hw_, .ref a_slipSets, .int smy, .ref a_newSets, .ref a_roots, .ref a_ownFirst, .ref a_ownLast]))] [])) (va_Qi (fun (r : Int32) (u : Int32 × Int32 × Int32) => r = fo_M p0 p1 ∧ (¬ fo_M p0 p1 = 0 → u.1 = fy_M p0 p1 ∧ u.2.1 = fm_M p0 p1 ∧ u.2.2 = fd_M p0 p1)) (fun (u : Int32 × Int32 × Int32) t => wPost dC dI (va_A [(h0, .inr (5, [.int th, .int fy, .int fm, .int fd, .ref a_kingCalendar, .ref a_kingFrom, .ref a_kingTo, .int 0, .int 0, .ref a_sayEvent, .ref a_sayWhat, .ref a_sayA, .ref a_sayB, .ref a_sayC, .ref a_sayWeight, .ref a_copyOf, .ref a_isTaken, .int 0, .ref a_spanFrom, .ref a_spanTo, .ref a_spanMany, .int as_, .int fe, .int fdy, .ref a_eventFrom, .ref a_eventTo, .ref a_eventMany, .int lk, .int isp, .ref a_newFrom, .ref a_newTo, .ref a_low, .ref a_high, .ref a_took, .ref a_first, .ref a_last, .int hw_, .ref a_slipSets, .int smy, .ref a_newSets, .ref a_roots, .ref a_ownFirst, .ref a_ownLast]))] sz) [(h0, .inr (5, [.int th, .int u.1, .int u.2.1, .int u.2.2, .ref a_kingCalendar, .ref a_kingFrom, .ref a_kingTo, .int 0, .int 0, .ref a_sayEvent, .ref a_sayWhat, .ref a_sayA, .ref a_sayB, .ref a_sayC, .ref a_sayWeight, .ref a_copyOf, .ref a_isTaken, .int 0, .ref a_spanFrom, .ref a_spanTo, .ref a_spanMany, .int as_, .int fe, .int fdy, .ref a_eventFrom, .ref a_eventTo, .ref a_eventMany, .int lk, .int isp, .ref a_newFrom, .ref a_newTo, .ref a_low, .ref a_high, .ref a_took, .ref a_first, .ref a_last, .int hw_, .ref a_slipSets, .int smy, .ref a_newSets, .ref a_roots, .ref a_ownFirst, .ref a_ownLast]))] t) (va_A [(h0, .inr (5, [.int th, .int fy, .int fm, .int fd, .ref a_kingCalendar, .ref a_kingFrom, .ref a_kingTo, .int 0, .int 0, .ref a_sayEvent, .ref a_sayWhat, .ref a_sayA, .ref a_sayB, .ref a_sayC, .ref a_sayWeight, .ref a_copyOf, .ref a_isTaken, .int 0, .ref a_spanFrom, .ref a_spanTo, .ref a_spanMany, .int as_, .int fe, .int fdy, .ref a_eventFrom, .ref a_eventTo, .ref a_eventMany, .int lk, .int isp, .ref a_newFrom, .ref a_newTo, .ref a_low, .ref a_high, .ref a_took, .ref a_first, .ref a_last, .int hw_, .ref a_slipSets, .int smy, .ref a_newSets, .ref a_roots, .ref a_ownFirst, .ref a_ownLast]))] sz)) 0 0 (va_A [(h0, .inr (5, [.int th, .int fy, .int fm, .int fd, .ref a_kingCalendar, .ref a_kingFrom, .ref a_kingTo, .int 0, .int 0, .ref a_sayEvent, .ref a_sayWhat, .ref a_sayA, .ref a_sayB, .ref a_sayC, .ref a_sayWeight, .ref a_copyOf, .ref a_isTaken, .int 0, .ref a_spanFrom, .ref a_spanTo, .ref a_spanMany, .int as_, .int fe, .int fdy, .ref a_eventFrom, .ref a_eventTo, .ref a_eventMany, .int lk, .int isp, .ref a_newFrom, .ref a_newTo, .ref a_low, .ref a_high, .ref a_took, .ref a_first, .ref a_last, .int hw_, .ref a_slipSets, .int smy, .ref a_newSets, .ref a_roots, .ref a_ownFirst, .ref a_ownLast]))] sz) := by
  refine Met.ofW (cc := cX6_finds) (maxL := 6) (ret := (some .boolean)) (by decide) rfl ?_
  intro p e s m args below meth c s₁ B hml hv
  obtain ⟨rfl, hsz, hP, hK, hD0⟩ := hv
  have hx := B.exec
  have hb := B.bytes
  have hr := B.returns
  have hts := atoms_spec (ws := wsX6_finds) B.pre
  have hown : s.vm.findClass RX6 = some m.cls := findClass_of_methodNamed B.named
  have hlocks := B.notSynchronized
  subst hsz
  have hD := hD0.self (sz := s.heap.size)
  generalize hAe : va_A [(h0, .inr (5, [.int th, .int fy, .int fm, .int fd, .ref a_kingCalendar, .ref a_kingFrom, .ref a_kingTo, .int 0, .int 0, .ref a_sayEvent, .ref a_sayWhat, .ref a_sayA, .ref a_sayB, .ref a_sayC, .ref a_sayWeight, .ref a_copyOf, .ref a_isTaken, .int 0, .ref a_spanFrom, .ref a_spanTo, .ref a_spanMany, .int as_, .int fe, .int fdy, .ref a_eventFrom, .ref a_eventTo, .ref a_eventMany, .int lk, .int isp, .ref a_newFrom, .ref a_newTo, .ref a_low, .ref a_high, .ref a_took, .ref a_first, .ref a_last, .int hw_, .ref a_slipSets, .int smy, .ref a_newSets, .ref a_roots, .ref a_ownFirst, .ref a_ownLast]))] s.heap.size = A at hD ⊢
  have hA : ∀ q : Nat, s.heap.size ≤ q → A q := fun q h => by rw [← hAe]; exact Or.inr h
  have hS : va_S A s.heap s.heap [] := va_S.rf
  have hP : va_P (dC, dI) vwCl [(h0, .inr (5, [.int th, .int fy, .int fm, .int fd, .ref a_kingCalendar, .ref a_kingFrom, .ref a_kingTo, .int 0, .int 0, .ref a_sayEvent, .ref a_sayWhat, .ref a_sayA, .ref a_sayB, .ref a_sayC, .ref a_sayWeight, .ref a_copyOf, .ref a_isTaken, .int 0, .ref a_spanFrom, .ref a_spanTo, .ref a_spanMany, .int as_, .int fe, .int fdy, .ref a_eventFrom, .ref a_eventTo, .ref a_eventMany, .int lk, .int isp, .ref a_newFrom, .ref a_newTo, .ref a_low, .ref a_high, .ref a_took, .ref a_first, .ref a_last, .int hw_, .ref a_slipSets, .int smy, .ref a_newSets, .ref a_roots, .ref a_ownFirst, .ref a_ownLast]))] s.heap := hP
  have hl := lv_entry ([.ref h0, .int p0, .int p1]) (n := 6) (Nat.le_of_ble_eq_true rfl)
  rw [lg_entry_eq]
  generalize (lg_sl ([.ref h0, .int p0, .int p1]) ++ List.replicate (6 - (lg_sl ([.ref h0, .int p0, .int p1])).length) Slot.unset).toArray = ls at hl ⊢
  have hl : lv_has ls 6 [(0, .ref h0), (1, .int p0), (2, .int p1)] := hl
  refine lv_iload_n hx hb dX6_finds_0 rfl (lv_at hl 1 rfl) ?_
  refine lv_if_lt (tgt := 16) hx hb dX6_finds_1 (by decide) (fun h_1 => ?_) (fun h_1 => ?_)
  · refine lv_iconst (v := 0) hx hb dX6_finds_16 (by decide) ?_
    have hP9 := hP.sub (ws' := [(h0, .inr (5, [.int th, .int fy, .int fm, .int fd, .ref a_kingCalendar, .ref a_kingFrom, .ref a_kingTo, .int 0, .int 0, .ref a_sayEvent, .ref a_sayWhat, .ref a_sayA, .ref a_sayB, .ref a_sayC, .ref a_sayWeight, .ref a_copyOf, .ref a_isTaken, .int 0, .ref a_spanFrom, .ref a_spanTo, .ref a_spanMany, .int as_, .int fe, .int fdy, .ref a_eventFrom, .ref a_eventTo, .ref a_eventMany, .int lk, .int isp, .ref a_newFrom, .ref a_newTo, .ref a_low, .ref a_high, .ref a_took, .ref a_first, .ref a_last, .int hw_, .ref a_slipSets, .int smy, .ref a_newSets, .ref a_roots, .ref a_ownFirst, .ref a_ownLast]))]) [0] rfl
    have hD9 := hD.sub (ws' := [(h0, .inr (5, [.int th, .int fy, .int fm, .int fd, .ref a_kingCalendar, .ref a_kingFrom, .ref a_kingTo, .int 0, .int 0, .ref a_sayEvent, .ref a_sayWhat, .ref a_sayA, .ref a_sayB, .ref a_sayC, .ref a_sayWeight, .ref a_copyOf, .ref a_isTaken, .int 0, .ref a_spanFrom, .ref a_spanTo, .ref a_spanMany, .int as_, .int fe, .int fdy, .ref a_eventFrom, .ref a_eventTo, .ref a_eventMany, .int lk, .int isp, .ref a_newFrom, .ref a_newTo, .ref a_low, .ref a_high, .ref a_took, .ref a_first, .ref a_last, .int hw_, .ref a_slipSets, .int smy, .ref a_newSets, .ref a_roots, .ref a_ownFirst, .ref a_ownLast]))]) [0] (by decide) rfl
    exact W.zret (v := 0) hx hb hr rfl (fun t ht hW => ⟨⟨_, (fy, fm, fd), rfl, ⟨by rw [fo_M, if_pos h_1], fun q => absurd (by rw [fo_M, if_pos h_1]) q⟩, by rw [ht]; exact hP9, hD9⟩, hS.F ht⟩) hS.2.2 dX6_finds_17
  · refine lv_iload_n hx hb dX6_finds_4 rfl (lv_at hl 1 rfl) ?_
    refine lv_iconst (v := 2) hx hb dX6_finds_5 (by decide) ?_
    refine lv_icmp_gt (tgt := 16) hx hb dX6_finds_6 (by decide) (fun h_2 => ?_) (fun h_2 => ?_)
    · refine lv_iconst (v := 0) hx hb dX6_finds_16 (by decide) ?_
      have hP9 := hP.sub (ws' := [(h0, .inr (5, [.int th, .int fy, .int fm, .int fd, .ref a_kingCalendar, .ref a_kingFrom, .ref a_kingTo, .int 0, .int 0, .ref a_sayEvent, .ref a_sayWhat, .ref a_sayA, .ref a_sayB, .ref a_sayC, .ref a_sayWeight, .ref a_copyOf, .ref a_isTaken, .int 0, .ref a_spanFrom, .ref a_spanTo, .ref a_spanMany, .int as_, .int fe, .int fdy, .ref a_eventFrom, .ref a_eventTo, .ref a_eventMany, .int lk, .int isp, .ref a_newFrom, .ref a_newTo, .ref a_low, .ref a_high, .ref a_took, .ref a_first, .ref a_last, .int hw_, .ref a_slipSets, .int smy, .ref a_newSets, .ref a_roots, .ref a_ownFirst, .ref a_ownLast]))]) [0] rfl
      have hD9 := hD.sub (ws' := [(h0, .inr (5, [.int th, .int fy, .int fm, .int fd, .ref a_kingCalendar, .ref a_kingFrom, .ref a_kingTo, .int 0, .int 0, .ref a_sayEvent, .ref a_sayWhat, .ref a_sayA, .ref a_sayB, .ref a_sayC, .ref a_sayWeight, .ref a_copyOf, .ref a_isTaken, .int 0, .ref a_spanFrom, .ref a_spanTo, .ref a_spanMany, .int as_, .int fe, .int fdy, .ref a_eventFrom, .ref a_eventTo, .ref a_eventMany, .int lk, .int isp, .ref a_newFrom, .ref a_newTo, .ref a_low, .ref a_high, .ref a_took, .ref a_first, .ref a_last, .int hw_, .ref a_slipSets, .int smy, .ref a_newSets, .ref a_roots, .ref a_ownFirst, .ref a_ownLast]))]) [0] (by decide) rfl
      exact W.zret (v := 0) hx hb hr rfl (fun t ht hW => ⟨⟨_, (fy, fm, fd), rfl, ⟨by rw [fo_M, if_neg h_1, if_pos h_2], fun q => absurd (by rw [fo_M, if_neg h_1, if_pos h_2]) q⟩, by rw [ht]; exact hP9, hD9⟩, hS.F ht⟩) hS.2.2 dX6_finds_17
    · refine lv_iload_n hx hb dX6_finds_9 rfl (lv_at hl 2 rfl) ?_
      refine vp_callSi (va_Run.run (va_runS (As := [.int p1]) (rest := []) ⟨hx, hb, hml, hown, hts⟩ (k_X6_isDay l p1) (va_cwS 1 hts gX6_finds_X6_isDay rfl rfl rfl (by decide +kernel) ⟨Nat.le_of_ble_eq_true rfl, Nat.le_of_ble_eq_true rfl⟩) ⟨fun _ _ _ _ q => q, fun _ _ _ => ⟨rfl, trivial⟩⟩ rfl rfl hl.1 rfl (lv_room (Nat.le_of_ble_eq_true rfl)) dX6_finds_10 ⟨Nat.le_of_ble_eq_true rfl, Nat.le_of_ble_eq_true rfl⟩)) (fun r_3 er_3 => ?_)
      subst er_3
      refine lv_if_ne (tgt := 18) hx hb dX6_finds_13 (by decide) (fun h_4 => ?_) (fun h_4 => ?_)
      · refine lv_iload_n hx hb dX6_finds_18 rfl (lv_at hl 2 rfl) ?_
        refine lv_sipush (v := 366) hx hb dX6_finds_19 (by decide) ?_
        refine lv_idiv hx hb dX6_finds_22 (by decide) ?_
        refine lv_istore_n (lv' := [(3, .int (p1 / 366)), (0, .ref h0), (1, .int p0), (2, .int p1)]) hx hb dX6_finds_23 rfl hl (by decide) rfl (fun ls hl => ?_)
        refine lv_iconst (v := 1) hx hb dX6_finds_24 (by decide) ?_
        refine lv_iload_n hx hb dX6_finds_25 rfl (lv_at hl 0 rfl) ?_
        refine va_mmax (own := RX6) (x := 1) (y := (p1 / 366)) hx hb (hml.trans hl.1.symm) hown (hts (.methodLink RX6 128 Lib.Math.max.name) (by decide +kernel)) (hts (.static Lib.Math.max.name) (by decide +kernel)) (hts (.initialized "java/lang/Math") (by decide +kernel)) (hts (.code Lib.Math.max.name Lib.Math.max.code 2 (some .int)) (by decide +kernel)) (Nat.le_of_ble_eq_true rfl) (Nat.le_of_ble_eq_true rfl) (Nat.le_of_ble_eq_true rfl) (Nat.le_of_ble_eq_true rfl) dX6_finds_26 ?_
        refine lv_istore_n (lv' := [(3, .int (if 1 < (p1 / 366) then (p1 / 366) else 1)), (0, .ref h0), (1, .int p0), (2, .int p1)]) hx hb dX6_finds_29 rfl hl (by decide) rfl (fun ls hl => ?_)
        have hc0 := h_1
        have hc2 := h_2
        have hday := h_4
        obtain ⟨hD9, hp1⟩ := im_D hday
        generalize hDD : p1.toNatClampNeg = D at hD9 hp1
        have hloop : ∀ (n Y : Nat), Y ≤ 2702 → 2702 < Y + n → yl_M p0 p1 n (nI Y) = fy_M p0 p1 → ∀ (ls : Array Slot), lv_has ls 6 [(3, .int (nI Y)), (0, .ref h0), (1, .int p0), (2, .int p1)] → W p l e (headSpec wsX6_finds ({ frames := 2, cells := 0, slots := 0, locals := 43 })).room s m [.ref h0, .int p0, .int p1].toArray below meth c s.heap [] 0 0 (MQ below (va_Qi (fun (r : Int32) (u : Int32 × Int32 × Int32) => r = fo_M p0 p1 ∧ (¬ fo_M p0 p1 = 0 → u.1 = fy_M p0 p1 ∧ u.2.1 = fm_M p0 p1 ∧ u.2.2 = fd_M p0 p1)) (fun (u : Int32 × Int32 × Int32) t => wPost dC dI A [(h0, .inr (5, [.int th, .int u.1, .int u.2.1, .int u.2.2, .ref a_kingCalendar, .ref a_kingFrom, .ref a_kingTo, .int 0, .int 0, .ref a_sayEvent, .ref a_sayWhat, .ref a_sayA, .ref a_sayB, .ref a_sayC, .ref a_sayWeight, .ref a_copyOf, .ref a_isTaken, .int 0, .ref a_spanFrom, .ref a_spanTo, .ref a_spanMany, .int as_, .int fe, .int fdy, .ref a_eventFrom, .ref a_eventTo, .ref a_eventMany, .int lk, .int isp, .ref a_newFrom, .ref a_newTo, .ref a_low, .ref a_high, .ref a_took, .ref a_first, .ref a_last, .int hw_, .ref a_slipSets, .int smy, .ref a_newSets, .ref a_roots, .ref a_ownFirst, .ref a_ownLast]))] t) A) [.ref h0, .int p0, .int p1].toArray s 0 0 A) (F0 m 30 ls []) := by
          intro n
          induction n with
          | zero => intro Y h1 h3; omega
          | succ n ih =>
            intro Y hY hn hv ls hl
            refine lv_iload_n hx hb dX6_finds_30 rfl (lv_at hl 2 rfl) ?_
            refine lv_iload_n hx hb dX6_finds_31 rfl (lv_at hl 0 rfl) ?_
            refine lv_iconst (v := 1) hx hb dX6_finds_32 (by decide) ?_
            refine lv_iadd hx hb dX6_finds_33 ?_
            refine vp_callSi (va_Run.run (va_runS (As := [.int p0, .int ((nI Y) + 1)]) (rest := []) ⟨hx, hb, hml, hown, hts⟩ (k_X6_yearFrom l p0 ((nI Y) + 1)) (va_cwS 2 hts gX6_finds_X6_yearFrom rfl rfl rfl (by decide +kernel) ⟨Nat.le_of_ble_eq_true rfl, Nat.le_of_ble_eq_true rfl⟩) ⟨fun _ _ _ _ q => q, fun _ _ _ => ⟨rfl, trivial⟩⟩ rfl rfl hl.1 rfl (lv_room (Nat.le_of_ble_eq_true rfl)) dX6_finds_34 ⟨Nat.le_of_ble_eq_true rfl, Nat.le_of_ble_eq_true rfl⟩)) (fun r_5 er_5 => ?_)
            subst er_5
            refine lv_iload_n hx hb dX6_finds_37 rfl (lv_at hl 3 rfl) ?_
            refine lv_icmp_gt (tgt := 47) hx hb dX6_finds_38 (by decide) (fun h_6 => ?_) (fun h_6 => ?_)
            · have hfy : fy_M p0 p1 = nI Y := by rw [← hv, yl_M, if_pos h_6]
              refine lv_iload_n hx hb dX6_finds_47 rfl (lv_at hl 0 rfl) ?_
              refine lv_sipush (v := 2699) hx hb dX6_finds_48 (by decide) ?_
              refine lv_icmp_le (tgt := 56) hx hb dX6_finds_51 (by decide) (fun h_7 => ?_) (fun h_7 => ?_)
              · refine lv_iload_n hx hb dX6_finds_56 rfl (lv_at hl 3 rfl) ?_
                refine lv_iload_n hx hb dX6_finds_57 rfl (lv_at hl 2 rfl) ?_
                refine lv_iload_n hx hb dX6_finds_58 rfl (lv_at hl 0 rfl) ?_
                refine vp_callSi (va_Run.run (va_runS (As := [.int p0, .int (nI Y)]) (rest := [.int p1]) ⟨hx, hb, hml, hown, hts⟩ (k_X6_yearFrom l p0 (nI Y)) (va_cwS 2 hts gX6_finds_X6_yearFrom rfl rfl rfl (by decide +kernel) ⟨Nat.le_of_ble_eq_true rfl, Nat.le_of_ble_eq_true rfl⟩) ⟨fun _ _ _ _ q => q, fun _ _ _ => ⟨rfl, trivial⟩⟩ rfl rfl hl.1 rfl (lv_room (Nat.le_of_ble_eq_true rfl)) dX6_finds_59 ⟨Nat.le_of_ble_eq_true rfl, Nat.le_of_ble_eq_true rfl⟩)) (fun r_8 er_8 => ?_)
                subst er_8
                refine lv_isub hx hb dX6_finds_62 ?_
                refine lv_istore (lv' := [(4, .int (p1 - (f_X6_yearFrom p0 (nI Y)))), (3, .int (nI Y)), (0, .ref h0), (1, .int p0), (2, .int p1)]) hx hb dX6_finds_63 hl (by decide) rfl (fun ls hl => ?_)
                refine lv_iconst (v := 1) hx hb dX6_finds_65 (by decide) ?_
                refine lv_istore (lv' := [(5, .int 1), (4, .int (p1 - (f_X6_yearFrom p0 (nI Y)))), (3, .int (nI Y)), (0, .ref h0), (1, .int p0), (2, .int p1)]) hx hb dX6_finds_66 hl (by decide) rfl (fun ls hl => ?_)
                have hfo : (1 : Int32) = fo_M p0 p1 := by rw [fo_M, if_neg hc0, if_neg hc2, if_neg hday, hfy, if_pos h_7]
                have hYY : nI Y = fy_M p0 p1 := hfy.symm
                have hloop : ∀ (n : Nat) (rr mo : Int32), rr.toNatClampNeg < n → ml_M p0 (nI Y) n rr mo = mq_M p0 p1 → ∀ (ls : Array Slot), lv_has ls 6 [(5, .int mo), (4, .int rr), (0, .ref h0), (1, .int p0), (2, .int p1), (3, .int (nI Y))] → W p l e (headSpec wsX6_finds ({ frames := 2, cells := 0, slots := 0, locals := 43 })).room s m [.ref h0, .int p0, .int p1].toArray below meth c s.heap [] 0 0 (MQ below (va_Qi (fun (r : Int32) (u : Int32 × Int32 × Int32) => r = fo_M p0 p1 ∧ (¬ fo_M p0 p1 = 0 → u.1 = fy_M p0 p1 ∧ u.2.1 = fm_M p0 p1 ∧ u.2.2 = fd_M p0 p1)) (fun (u : Int32 × Int32 × Int32) t => wPost dC dI A [(h0, .inr (5, [.int th, .int u.1, .int u.2.1, .int u.2.2, .ref a_kingCalendar, .ref a_kingFrom, .ref a_kingTo, .int 0, .int 0, .ref a_sayEvent, .ref a_sayWhat, .ref a_sayA, .ref a_sayB, .ref a_sayC, .ref a_sayWeight, .ref a_copyOf, .ref a_isTaken, .int 0, .ref a_spanFrom, .ref a_spanTo, .ref a_spanMany, .int as_, .int fe, .int fdy, .ref a_eventFrom, .ref a_eventTo, .ref a_eventMany, .int lk, .int isp, .ref a_newFrom, .ref a_newTo, .ref a_low, .ref a_high, .ref a_took, .ref a_first, .ref a_last, .int hw_, .ref a_slipSets, .int smy, .ref a_newSets, .ref a_roots, .ref a_ownFirst, .ref a_ownLast]))] t) A) [.ref h0, .int p0, .int p1].toArray s 0 0 A) (F0 m 68 ls []) := by
                  intro n
                  induction n with
                  | zero => intro rr mo h1; omega
                  | succ n ihm =>
                    intro rr mo hn2 hmv ls hl
                    refine lv_iload hx hb dX6_finds_68 (lv_at hl 1 rfl) ?_
                    refine lv_iload_n hx hb dX6_finds_70 rfl (lv_at hl 3 rfl) ?_
                    refine lv_iload_n hx hb dX6_finds_71 rfl (lv_at hl 5 rfl) ?_
                    refine lv_iload hx hb dX6_finds_72 (lv_at hl 0 rfl) ?_
                    refine vp_callSi (va_Run.run (va_runS (As := [.int p0, .int (nI Y), .int mo]) (rest := [.int rr]) ⟨hx, hb, hml, hown, hts⟩ (k_X6_lengthOf l p0 (nI Y) mo) (va_cwS 3 hts gX6_finds_X6_lengthOf rfl rfl rfl (by decide +kernel) ⟨Nat.le_of_ble_eq_true rfl, Nat.le_of_ble_eq_true rfl⟩) ⟨fun _ _ _ _ q => q, fun _ _ _ => ⟨rfl, trivial⟩⟩ rfl rfl hl.1 rfl (lv_room (Nat.le_of_ble_eq_true rfl)) dX6_finds_74 ⟨Nat.le_of_ble_eq_true rfl, Nat.le_of_ble_eq_true rfl⟩)) (fun r_9 er_9 => ?_)
                    subst er_9
                    refine lv_icmp_lt (tgt := 98) hx hb dX6_finds_77 (by decide) (fun h_10 => ?_) (fun h_10 => ?_)
                    · refine lv_aload_n hx hb dX6_finds_98 rfl (lv_at hl 2 rfl) ?_
                      refine lv_iload_n hx hb dX6_finds_99 rfl (lv_at hl 5 rfl) ?_
                      refine va_put (D := (dC, dI)) (ci := 5) (v := .int (nI Y)) (ty := .int) (C := RX6) (T := TX6) (N := 43) hx hb hts (by decide +kernel) tyX6 tyX6_ok nmX6 hown hK hP hD hS 0 rfl rfl 1 (by decide) (hts (.fieldLink RX6 133 "DayBenchModel" "foundYear" "I") (by decide +kernel)) (fun _ h9 => h9) rfl (by decide +kernel) rfl rfl (Nat.le_of_ble_eq_true rfl) dX6_finds_100 (fun H locs hP hD hS => ?_)
                      have hP : va_P (dC, dI) vwCl [(h0, .inr (5, [.int th, .int (nI Y), .int fm, .int fd, .ref a_kingCalendar, .ref a_kingFrom, .ref a_kingTo, .int 0, .int 0, .ref a_sayEvent, .ref a_sayWhat, .ref a_sayA, .ref a_sayB, .ref a_sayC, .ref a_sayWeight, .ref a_copyOf, .ref a_isTaken, .int 0, .ref a_spanFrom, .ref a_spanTo, .ref a_spanMany, .int as_, .int fe, .int fdy, .ref a_eventFrom, .ref a_eventTo, .ref a_eventMany, .int lk, .int isp, .ref a_newFrom, .ref a_newTo, .ref a_low, .ref a_high, .ref a_took, .ref a_first, .ref a_last, .int hw_, .ref a_slipSets, .int smy, .ref a_newSets, .ref a_roots, .ref a_ownFirst, .ref a_ownLast]))] H := hP
                      have hD : va_D A [(h0, .inr (5, [.int th, .int (nI Y), .int fm, .int fd, .ref a_kingCalendar, .ref a_kingFrom, .ref a_kingTo, .int 0, .int 0, .ref a_sayEvent, .ref a_sayWhat, .ref a_sayA, .ref a_sayB, .ref a_sayC, .ref a_sayWeight, .ref a_copyOf, .ref a_isTaken, .int 0, .ref a_spanFrom, .ref a_spanTo, .ref a_spanMany, .int as_, .int fe, .int fdy, .ref a_eventFrom, .ref a_eventTo, .ref a_eventMany, .int lk, .int isp, .ref a_newFrom, .ref a_newTo, .ref a_low, .ref a_high, .ref a_took, .ref a_first, .ref a_last, .int hw_, .ref a_slipSets, .int smy, .ref a_newSets, .ref a_roots, .ref a_ownFirst, .ref a_ownLast]))] := hD
                      refine lv_aload_n hx hb dX6_finds_103 rfl (lv_at hl 2 rfl) ?_
                      refine lv_iload hx hb dX6_finds_104 (lv_at hl 0 rfl) ?_
                      refine va_put (D := (dC, dI)) (ci := 5) (v := .int mo) (ty := .int) (C := RX6) (T := TX6) (N := 43) hx hb hts (by decide +kernel) tyX6 tyX6_ok nmX6 hown hK hP hD hS 0 rfl rfl 2 (by decide) (hts (.fieldLink RX6 136 "DayBenchModel" "foundMonth" "I") (by decide +kernel)) (fun _ h9 => h9) rfl (by decide +kernel) rfl rfl (Nat.le_of_ble_eq_true rfl) dX6_finds_106 (fun H locs hP hD hS => ?_)
                      have hP : va_P (dC, dI) vwCl [(h0, .inr (5, [.int th, .int (nI Y), .int mo, .int fd, .ref a_kingCalendar, .ref a_kingFrom, .ref a_kingTo, .int 0, .int 0, .ref a_sayEvent, .ref a_sayWhat, .ref a_sayA, .ref a_sayB, .ref a_sayC, .ref a_sayWeight, .ref a_copyOf, .ref a_isTaken, .int 0, .ref a_spanFrom, .ref a_spanTo, .ref a_spanMany, .int as_, .int fe, .int fdy, .ref a_eventFrom, .ref a_eventTo, .ref a_eventMany, .int lk, .int isp, .ref a_newFrom, .ref a_newTo, .ref a_low, .ref a_high, .ref a_took, .ref a_first, .ref a_last, .int hw_, .ref a_slipSets, .int smy, .ref a_newSets, .ref a_roots, .ref a_ownFirst, .ref a_ownLast]))] H := hP
                      have hD : va_D A [(h0, .inr (5, [.int th, .int (nI Y), .int mo, .int fd, .ref a_kingCalendar, .ref a_kingFrom, .ref a_kingTo, .int 0, .int 0, .ref a_sayEvent, .ref a_sayWhat, .ref a_sayA, .ref a_sayB, .ref a_sayC, .ref a_sayWeight, .ref a_copyOf, .ref a_isTaken, .int 0, .ref a_spanFrom, .ref a_spanTo, .ref a_spanMany, .int as_, .int fe, .int fdy, .ref a_eventFrom, .ref a_eventTo, .ref a_eventMany, .int lk, .int isp, .ref a_newFrom, .ref a_newTo, .ref a_low, .ref a_high, .ref a_took, .ref a_first, .ref a_last, .int hw_, .ref a_slipSets, .int smy, .ref a_newSets, .ref a_roots, .ref a_ownFirst, .ref a_ownLast]))] := hD
                      refine lv_aload_n hx hb dX6_finds_109 rfl (lv_at hl 2 rfl) ?_
                      refine lv_iload hx hb dX6_finds_110 (lv_at hl 1 rfl) ?_
                      refine lv_iconst (v := 1) hx hb dX6_finds_112 (by decide) ?_
                      refine lv_iadd hx hb dX6_finds_113 ?_
                      refine va_put (D := (dC, dI)) (ci := 5) (v := .int (rr + 1)) (ty := .int) (C := RX6) (T := TX6) (N := 43) hx hb hts (by decide +kernel) tyX6 tyX6_ok nmX6 hown hK hP hD hS 0 rfl rfl 3 (by decide) (hts (.fieldLink RX6 139 "DayBenchModel" "foundDay" "I") (by decide +kernel)) (fun _ h9 => h9) rfl (by decide +kernel) rfl rfl (Nat.le_of_ble_eq_true rfl) dX6_finds_114 (fun H locs hP hD hS => ?_)
                      have hP : va_P (dC, dI) vwCl [(h0, .inr (5, [.int th, .int (nI Y), .int mo, .int (rr + 1), .ref a_kingCalendar, .ref a_kingFrom, .ref a_kingTo, .int 0, .int 0, .ref a_sayEvent, .ref a_sayWhat, .ref a_sayA, .ref a_sayB, .ref a_sayC, .ref a_sayWeight, .ref a_copyOf, .ref a_isTaken, .int 0, .ref a_spanFrom, .ref a_spanTo, .ref a_spanMany, .int as_, .int fe, .int fdy, .ref a_eventFrom, .ref a_eventTo, .ref a_eventMany, .int lk, .int isp, .ref a_newFrom, .ref a_newTo, .ref a_low, .ref a_high, .ref a_took, .ref a_first, .ref a_last, .int hw_, .ref a_slipSets, .int smy, .ref a_newSets, .ref a_roots, .ref a_ownFirst, .ref a_ownLast]))] H := hP
                      have hD : va_D A [(h0, .inr (5, [.int th, .int (nI Y), .int mo, .int (rr + 1), .ref a_kingCalendar, .ref a_kingFrom, .ref a_kingTo, .int 0, .int 0, .ref a_sayEvent, .ref a_sayWhat, .ref a_sayA, .ref a_sayB, .ref a_sayC, .ref a_sayWeight, .ref a_copyOf, .ref a_isTaken, .int 0, .ref a_spanFrom, .ref a_spanTo, .ref a_spanMany, .int as_, .int fe, .int fdy, .ref a_eventFrom, .ref a_eventTo, .ref a_eventMany, .int lk, .int isp, .ref a_newFrom, .ref a_newTo, .ref a_low, .ref a_high, .ref a_took, .ref a_first, .ref a_last, .int hw_, .ref a_slipSets, .int smy, .ref a_newSets, .ref a_roots, .ref a_ownFirst, .ref a_ownLast]))] := hD
                      refine lv_iconst (v := 1) hx hb dX6_finds_117 (by decide) ?_
                      have hP9 := hP.sub (ws' := [(h0, .inr (5, [.int th, .int (nI Y), .int mo, .int (rr + 1), .ref a_kingCalendar, .ref a_kingFrom, .ref a_kingTo, .int 0, .int 0, .ref a_sayEvent, .ref a_sayWhat, .ref a_sayA, .ref a_sayB, .ref a_sayC, .ref a_sayWeight, .ref a_copyOf, .ref a_isTaken, .int 0, .ref a_spanFrom, .ref a_spanTo, .ref a_spanMany, .int as_, .int fe, .int fdy, .ref a_eventFrom, .ref a_eventTo, .ref a_eventMany, .int lk, .int isp, .ref a_newFrom, .ref a_newTo, .ref a_low, .ref a_high, .ref a_took, .ref a_first, .ref a_last, .int hw_, .ref a_slipSets, .int smy, .ref a_newSets, .ref a_roots, .ref a_ownFirst, .ref a_ownLast]))]) [0] rfl
                      have hD9 := hD.sub (ws' := [(h0, .inr (5, [.int th, .int (nI Y), .int mo, .int (rr + 1), .ref a_kingCalendar, .ref a_kingFrom, .ref a_kingTo, .int 0, .int 0, .ref a_sayEvent, .ref a_sayWhat, .ref a_sayA, .ref a_sayB, .ref a_sayC, .ref a_sayWeight, .ref a_copyOf, .ref a_isTaken, .int 0, .ref a_spanFrom, .ref a_spanTo, .ref a_spanMany, .int as_, .int fe, .int fdy, .ref a_eventFrom, .ref a_eventTo, .ref a_eventMany, .int lk, .int isp, .ref a_newFrom, .ref a_newTo, .ref a_low, .ref a_high, .ref a_took, .ref a_first, .ref a_last, .int hw_, .ref a_slipSets, .int smy, .ref a_newSets, .ref a_roots, .ref a_ownFirst, .ref a_ownLast]))]) [0] (by decide) rfl
                      exact W.zret (v := 1) hx hb hr rfl (fun t ht hW => ⟨⟨_, (nI Y, mo, rr + 1), rfl, ⟨hfo, fun _ => ⟨hYY, by rw [fm_M, ← hmv, ml_M, if_pos h_10], by rw [fd_M, ← hmv, ml_M, if_pos h_10]⟩⟩, by rw [ht]; exact hP9, hD9⟩, hS.F ht⟩) hS.2.2 dX6_finds_118
                    · refine lv_iload hx hb dX6_finds_80 (lv_at hl 1 rfl) ?_
                      refine lv_iload_n hx hb dX6_finds_82 rfl (lv_at hl 3 rfl) ?_
                      refine lv_iload_n hx hb dX6_finds_83 rfl (lv_at hl 5 rfl) ?_
                      refine lv_iload hx hb dX6_finds_84 (lv_at hl 0 rfl) ?_
                      refine vp_callSi (va_Run.run (va_runS (As := [.int p0, .int (nI Y), .int mo]) (rest := [.int rr]) ⟨hx, hb, hml, hown, hts⟩ (k_X6_lengthOf l p0 (nI Y) mo) (va_cwS 3 hts gX6_finds_X6_lengthOf rfl rfl rfl (by decide +kernel) ⟨Nat.le_of_ble_eq_true rfl, Nat.le_of_ble_eq_true rfl⟩) ⟨fun _ _ _ _ q => q, fun _ _ _ => ⟨rfl, trivial⟩⟩ rfl rfl hl.1 rfl (lv_room (Nat.le_of_ble_eq_true rfl)) dX6_finds_86 ⟨Nat.le_of_ble_eq_true rfl, Nat.le_of_ble_eq_true rfl⟩)) (fun r_11 er_11 => ?_)
                      subst er_11
                      refine lv_isub hx hb dX6_finds_89 ?_
                      refine lv_istore (lv' := [(4, .int (rr - (f_X6_lengthOf p0 (nI Y) mo))), (5, .int mo), (0, .ref h0), (1, .int p0), (2, .int p1), (3, .int (nI Y))]) hx hb dX6_finds_90 hl (by decide) rfl (fun ls hl => ?_)
                      obtain ⟨x_12, ex_12⟩ : ∃ y : Int32, y = mo + 1 := ⟨_, rfl⟩
                      refine lv_iinc (v := x_12) (lv' := [(5, .int x_12), (4, .int (rr - (f_X6_lengthOf p0 (nI Y) mo))), (0, .ref h0), (1, .int p0), (2, .int p1), (3, .int (nI Y))]) hx hb dX6_finds_92 hl (k := 1) rfl (by rw [ex_12]; rfl) (by decide) rfl (fun ls hl => ?_)
                      refine lv_goto (tgt := 68) hx hb dX6_finds_95 (by decide) ?_
                      rw [ex_12] at hl
                      exact ihm _ _ (Nat.lt_of_lt_of_le (lm_M h_10) (Nat.le_of_lt_succ hn2)) (by rw [← hmv, ml_M, if_neg h_10]) ls (lv_sub hl [0, 1, 2, 3, 4, 5] rfl)
                exact hloop _ _ 1 (Nat.lt_succ_self _) (by rw [mq_M, hfy]) ls (lv_sub hl [0, 1, 3, 4, 5, 2] rfl)
              · refine lv_iconst (v := 0) hx hb dX6_finds_54 (by decide) ?_
                have hP9 := hP.sub (ws' := [(h0, .inr (5, [.int th, .int fy, .int fm, .int fd, .ref a_kingCalendar, .ref a_kingFrom, .ref a_kingTo, .int 0, .int 0, .ref a_sayEvent, .ref a_sayWhat, .ref a_sayA, .ref a_sayB, .ref a_sayC, .ref a_sayWeight, .ref a_copyOf, .ref a_isTaken, .int 0, .ref a_spanFrom, .ref a_spanTo, .ref a_spanMany, .int as_, .int fe, .int fdy, .ref a_eventFrom, .ref a_eventTo, .ref a_eventMany, .int lk, .int isp, .ref a_newFrom, .ref a_newTo, .ref a_low, .ref a_high, .ref a_took, .ref a_first, .ref a_last, .int hw_, .ref a_slipSets, .int smy, .ref a_newSets, .ref a_roots, .ref a_ownFirst, .ref a_ownLast]))]) [0] rfl
                have hD9 := hD.sub (ws' := [(h0, .inr (5, [.int th, .int fy, .int fm, .int fd, .ref a_kingCalendar, .ref a_kingFrom, .ref a_kingTo, .int 0, .int 0, .ref a_sayEvent, .ref a_sayWhat, .ref a_sayA, .ref a_sayB, .ref a_sayC, .ref a_sayWeight, .ref a_copyOf, .ref a_isTaken, .int 0, .ref a_spanFrom, .ref a_spanTo, .ref a_spanMany, .int as_, .int fe, .int fdy, .ref a_eventFrom, .ref a_eventTo, .ref a_eventMany, .int lk, .int isp, .ref a_newFrom, .ref a_newTo, .ref a_low, .ref a_high, .ref a_took, .ref a_first, .ref a_last, .int hw_, .ref a_slipSets, .int smy, .ref a_newSets, .ref a_roots, .ref a_ownFirst, .ref a_ownLast]))]) [0] (by decide) rfl
                exact W.zret (v := 0) hx hb hr rfl (fun t ht hW => ⟨⟨_, (fy, fm, fd), rfl, ⟨by rw [fo_M, if_neg hc0, if_neg hc2, if_neg hday, hfy, if_neg h_7], fun q => absurd (by rw [fo_M, if_neg hc0, if_neg hc2, if_neg hday, hfy, if_neg h_7]) q⟩, by rw [ht]; exact hP9, hD9⟩, hS.F ht⟩) hS.2.2 dX6_finds_55
            · obtain ⟨x_13, ex_13⟩ : ∃ y : Int32, y = (nI Y) + 1 := ⟨_, rfl⟩
              refine lv_iinc (v := x_13) (lv' := [(3, .int x_13), (0, .ref h0), (1, .int p0), (2, .int p1)]) hx hb dX6_finds_41 hl (k := 0) rfl (by rw [ex_13]; rfl) (by decide) rfl (fun ls hl => ?_)
              refine lv_goto (tgt := 30) hx hb dX6_finds_44 (by decide) ?_
              have e2 : x_13 = nI (Y + 1) := by rw [ex_13, nI_1]
              have hY1 := yM_stop hc0 hc2 hD9 hp1 hY h_6
              rw [e2] at hl
              exact ih (Y + 1) (by omega) (by omega) (by rw [← hv, yl_M, if_neg h_6, nI_1]) ls (lv_sub hl [0, 1, 2, 3] rfl)
        have e0 : (if 1 < p1 / 366 then p1 / 366 else 1) = nI (max 1 (D / 366)) := by rw [hp1]; exact y0_M hD9
        have hl := lv_sub hl [0, 1, 2, 3] rfl
        dsimp only [lv_pick] at hl
        rw [e0] at hl
        exact hloop 2703 (max 1 (D / 366)) (by omega) (by omega) (by rw [fy_M, e0]) ls hl
      · refine lv_iconst (v := 0) hx hb dX6_finds_16 (by decide) ?_
        have hP9 := hP.sub (ws' := [(h0, .inr (5, [.int th, .int fy, .int fm, .int fd, .ref a_kingCalendar, .ref a_kingFrom, .ref a_kingTo, .int 0, .int 0, .ref a_sayEvent, .ref a_sayWhat, .ref a_sayA, .ref a_sayB, .ref a_sayC, .ref a_sayWeight, .ref a_copyOf, .ref a_isTaken, .int 0, .ref a_spanFrom, .ref a_spanTo, .ref a_spanMany, .int as_, .int fe, .int fdy, .ref a_eventFrom, .ref a_eventTo, .ref a_eventMany, .int lk, .int isp, .ref a_newFrom, .ref a_newTo, .ref a_low, .ref a_high, .ref a_took, .ref a_first, .ref a_last, .int hw_, .ref a_slipSets, .int smy, .ref a_newSets, .ref a_roots, .ref a_ownFirst, .ref a_ownLast]))]) [0] rfl
        have hD9 := hD.sub (ws' := [(h0, .inr (5, [.int th, .int fy, .int fm, .int fd, .ref a_kingCalendar, .ref a_kingFrom, .ref a_kingTo, .int 0, .int 0, .ref a_sayEvent, .ref a_sayWhat, .ref a_sayA, .ref a_sayB, .ref a_sayC, .ref a_sayWeight, .ref a_copyOf, .ref a_isTaken, .int 0, .ref a_spanFrom, .ref a_spanTo, .ref a_spanMany, .int as_, .int fe, .int fdy, .ref a_eventFrom, .ref a_eventTo, .ref a_eventMany, .int lk, .int isp, .ref a_newFrom, .ref a_newTo, .ref a_low, .ref a_high, .ref a_took, .ref a_first, .ref a_last, .int hw_, .ref a_slipSets, .int smy, .ref a_newSets, .ref a_roots, .ref a_ownFirst, .ref a_ownLast]))]) [0] (by decide) rfl
        exact W.zret (v := 0) hx hb hr rfl (fun t ht hW => ⟨⟨_, (fy, fm, fd), rfl, ⟨by rw [fo_M, if_neg h_1, if_neg h_2, if_pos h_4], fun q => absurd (by rw [fo_M, if_neg h_1, if_neg h_2, if_pos h_4]) q⟩, by rw [ht]; exact hP9, hD9⟩, hS.F ht⟩) hS.2.2 dX6_finds_17

set_option maxHeartbeats 4000000 in
set_option maxRecDepth 100000 in
theorem k_X6_date (l : Launch) (dC : Nat → ClassId) (dI : Nat → Nat → Nat) (sz : Nat) (h0 : Nat) (a_kingCalendar : Nat) (a_kingFrom : Nat) (a_kingTo : Nat) (a_sayEvent : Nat) (a_sayWhat : Nat) (a_sayA : Nat) (a_sayB : Nat) (a_sayC : Nat) (a_sayWeight : Nat) (a_copyOf : Nat) (a_isTaken : Nat) (a_spanFrom : Nat) (a_spanTo : Nat) (a_spanMany : Nat) (a_eventFrom : Nat) (a_eventTo : Nat) (a_eventMany : Nat) (a_newFrom : Nat) (a_newTo : Nat) (a_low : Nat) (a_high : Nat) (a_took : Nat) (a_first : Nat) (a_last : Nat) (a_slipSets : Nat) (a_newSets : Nat) (a_roots : Nat) (a_ownFirst : Nat) (a_ownLast : Nat) (th : Int32) (fy : Int32) (fm : Int32) (fd : Int32) (as_ : Int32) (fe : Int32) (fdy : Int32) (lk : Int32) (isp : Int32) (hw_ : Int32) (smy : Int32) (p0 : Int32) (p1 : Int32) (p2 : Int32)  : Met l yX6_date wsX6_date ({ frames := 3, cells := 0, slots := 0, locals := 68 }) (va_Pc [.ref h0, .int p0, .int p1, .int p2] (wPre dC dI sz [(h0, .inr (5, [.int th, .int fy, .int fm, .int fd, .ref a_kingCalendar, .ref a_kingFrom, .ref a_kingTo, .int 0, .int 0, .ref a_sayEvent, .ref a_sayWhat, .ref a_sayA, .ref a_sayB, .ref a_sayC, .ref a_sayWeight, .ref a_copyOf, .ref a_isTaken, .int 0, .ref a_spanFrom, .ref a_spanTo, .ref a_spanMany, .int as_, .int fe, .int fdy, .ref a_eventFrom, .ref a_eventTo, .ref a_eventMany, .int lk, .int isp, .ref a_newFrom, .ref a_newTo, .ref a_low, .ref a_high, .ref a_took, .ref a_first, .ref a_last, .int hw_, .ref a_slipSets, .int smy, .ref a_newSets, .ref a_roots, .ref a_ownFirst, .ref a_ownLast]))] [])) (va_Qi (fun (r : Int32) (u : Unit) => r = f_X6_date p0 p1 p2) (fun (u : Unit) t => wPost dC dI (va_A [(h0, .inr (5, [.int th, .int fy, .int fm, .int fd, .ref a_kingCalendar, .ref a_kingFrom, .ref a_kingTo, .int 0, .int 0, .ref a_sayEvent, .ref a_sayWhat, .ref a_sayA, .ref a_sayB, .ref a_sayC, .ref a_sayWeight, .ref a_copyOf, .ref a_isTaken, .int 0, .ref a_spanFrom, .ref a_spanTo, .ref a_spanMany, .int as_, .int fe, .int fdy, .ref a_eventFrom, .ref a_eventTo, .ref a_eventMany, .int lk, .int isp, .ref a_newFrom, .ref a_newTo, .ref a_low, .ref a_high, .ref a_took, .ref a_first, .ref a_last, .int hw_, .ref a_slipSets, .int smy, .ref a_newSets, .ref a_roots, .ref a_ownFirst, .ref a_ownLast]))] sz) [] t) (va_A [(h0, .inr (5, [.int th, .int fy, .int fm, .int fd, .ref a_kingCalendar, .ref a_kingFrom, .ref a_kingTo, .int 0, .int 0, .ref a_sayEvent, .ref a_sayWhat, .ref a_sayA, .ref a_sayB, .ref a_sayC, .ref a_sayWeight, .ref a_copyOf, .ref a_isTaken, .int 0, .ref a_spanFrom, .ref a_spanTo, .ref a_spanMany, .int as_, .int fe, .int fdy, .ref a_eventFrom, .ref a_eventTo, .ref a_eventMany, .int lk, .int isp, .ref a_newFrom, .ref a_newTo, .ref a_low, .ref a_high, .ref a_took, .ref a_first, .ref a_last, .int hw_, .ref a_slipSets, .int smy, .ref a_newSets, .ref a_roots, .ref a_ownFirst, .ref a_ownLast]))] sz)) 0 0 (va_A [(h0, .inr (5, [.int th, .int fy, .int fm, .int fd, .ref a_kingCalendar, .ref a_kingFrom, .ref a_kingTo, .int 0, .int 0, .ref a_sayEvent, .ref a_sayWhat, .ref a_sayA, .ref a_sayB, .ref a_sayC, .ref a_sayWeight, .ref a_copyOf, .ref a_isTaken, .int 0, .ref a_spanFrom, .ref a_spanTo, .ref a_spanMany, .int as_, .int fe, .int fdy, .ref a_eventFrom, .ref a_eventTo, .ref a_eventMany, .int lk, .int isp, .ref a_newFrom, .ref a_newTo, .ref a_low, .ref a_high, .ref a_took, .ref a_first, .ref a_last, .int hw_, .ref a_slipSets, .int smy, .ref a_newSets, .ref a_roots, .ref a_ownFirst, .ref a_ownLast]))] sz) := by
  refine Met.ofW (cc := cX6_date) (maxL := 4) (ret := (some .int)) (by decide) rfl ?_
  intro p e s m args below meth c s₁ B hml hv
  obtain ⟨rfl, hsz, hP, hK, hD0⟩ := hv
  have hx := B.exec
  have hb := B.bytes
  have hr := B.returns
  have hts := atoms_spec (ws := wsX6_date) B.pre
  have hown : s.vm.findClass RX6 = some m.cls := findClass_of_methodNamed B.named
  have hlocks := B.notSynchronized
  subst hsz
  have hD := hD0.self (sz := s.heap.size)
  generalize hAe : va_A [(h0, .inr (5, [.int th, .int fy, .int fm, .int fd, .ref a_kingCalendar, .ref a_kingFrom, .ref a_kingTo, .int 0, .int 0, .ref a_sayEvent, .ref a_sayWhat, .ref a_sayA, .ref a_sayB, .ref a_sayC, .ref a_sayWeight, .ref a_copyOf, .ref a_isTaken, .int 0, .ref a_spanFrom, .ref a_spanTo, .ref a_spanMany, .int as_, .int fe, .int fdy, .ref a_eventFrom, .ref a_eventTo, .ref a_eventMany, .int lk, .int isp, .ref a_newFrom, .ref a_newTo, .ref a_low, .ref a_high, .ref a_took, .ref a_first, .ref a_last, .int hw_, .ref a_slipSets, .int smy, .ref a_newSets, .ref a_roots, .ref a_ownFirst, .ref a_ownLast]))] s.heap.size = A at hD ⊢
  have hA : ∀ q : Nat, s.heap.size ≤ q → A q := fun q h => by rw [← hAe]; exact Or.inr h
  have hS : va_S A s.heap s.heap [] := va_S.rf
  have hP : va_P (dC, dI) vwCl [(h0, .inr (5, [.int th, .int fy, .int fm, .int fd, .ref a_kingCalendar, .ref a_kingFrom, .ref a_kingTo, .int 0, .int 0, .ref a_sayEvent, .ref a_sayWhat, .ref a_sayA, .ref a_sayB, .ref a_sayC, .ref a_sayWeight, .ref a_copyOf, .ref a_isTaken, .int 0, .ref a_spanFrom, .ref a_spanTo, .ref a_spanMany, .int as_, .int fe, .int fdy, .ref a_eventFrom, .ref a_eventTo, .ref a_eventMany, .int lk, .int isp, .ref a_newFrom, .ref a_newTo, .ref a_low, .ref a_high, .ref a_took, .ref a_first, .ref a_last, .int hw_, .ref a_slipSets, .int smy, .ref a_newSets, .ref a_roots, .ref a_ownFirst, .ref a_ownLast]))] s.heap := hP
  have hl := lv_entry ([.ref h0, .int p0, .int p1, .int p2]) (n := 4) (Nat.le_of_ble_eq_true rfl)
  rw [lg_entry_eq]
  generalize (lg_sl ([.ref h0, .int p0, .int p1, .int p2]) ++ List.replicate (4 - (lg_sl ([.ref h0, .int p0, .int p1, .int p2])).length) Slot.unset).toArray = ls at hl ⊢
  have hl : lv_has ls 4 [(0, .ref h0), (1, .int p0), (2, .int p1), (3, .int p2)] := hl
  refine lv_aload_n hx hb dX6_date_0 rfl (lv_at hl 0 rfl) ?_
  refine lv_iconst (v := 0) hx hb dX6_date_1 (by decide) ?_
  refine va_put (D := (dC, dI)) (ci := 5) (v := .int 0) (ty := .int) (C := RX6) (T := TX6) (N := 43) hx hb hts (by decide +kernel) tyX6 tyX6_ok nmX6 hown hK hP hD hS 0 rfl rfl 0 (by decide) (hts (.fieldLink RX6 98 "DayBenchModel" "thrown" "I") (by decide +kernel)) (fun _ h9 => h9) rfl (by decide +kernel) rfl rfl (Nat.le_of_ble_eq_true rfl) dX6_date_2 (fun H locs hP hD hS => ?_)
  have hP : va_P (dC, dI) vwCl [(h0, .inr (5, [.int 0, .int fy, .int fm, .int fd, .ref a_kingCalendar, .ref a_kingFrom, .ref a_kingTo, .int 0, .int 0, .ref a_sayEvent, .ref a_sayWhat, .ref a_sayA, .ref a_sayB, .ref a_sayC, .ref a_sayWeight, .ref a_copyOf, .ref a_isTaken, .int 0, .ref a_spanFrom, .ref a_spanTo, .ref a_spanMany, .int as_, .int fe, .int fdy, .ref a_eventFrom, .ref a_eventTo, .ref a_eventMany, .int lk, .int isp, .ref a_newFrom, .ref a_newTo, .ref a_low, .ref a_high, .ref a_took, .ref a_first, .ref a_last, .int hw_, .ref a_slipSets, .int smy, .ref a_newSets, .ref a_roots, .ref a_ownFirst, .ref a_ownLast]))] H := hP
  have hD : va_D A [(h0, .inr (5, [.int 0, .int fy, .int fm, .int fd, .ref a_kingCalendar, .ref a_kingFrom, .ref a_kingTo, .int 0, .int 0, .ref a_sayEvent, .ref a_sayWhat, .ref a_sayA, .ref a_sayB, .ref a_sayC, .ref a_sayWeight, .ref a_copyOf, .ref a_isTaken, .int 0, .ref a_spanFrom, .ref a_spanTo, .ref a_spanMany, .int as_, .int fe, .int fdy, .ref a_eventFrom, .ref a_eventTo, .ref a_eventMany, .int lk, .int isp, .ref a_newFrom, .ref a_newTo, .ref a_low, .ref a_high, .ref a_took, .ref a_first, .ref a_last, .int hw_, .ref a_slipSets, .int smy, .ref a_newSets, .ref a_roots, .ref a_ownFirst, .ref a_ownLast]))] := hD
  refine lv_aload_n hx hb dX6_date_5 rfl (lv_at hl 0 rfl) ?_
  refine lv_iload_n hx hb dX6_date_6 rfl (lv_at hl 1 rfl) ?_
  refine lv_iload_n hx hb dX6_date_7 rfl (lv_at hl 2 rfl) ?_
  have hPc := hP.sub (ws' := [(h0, .inr (5, [.int 0, .int fy, .int fm, .int fd, .ref a_kingCalendar, .ref a_kingFrom, .ref a_kingTo, .int 0, .int 0, .ref a_sayEvent, .ref a_sayWhat, .ref a_sayA, .ref a_sayB, .ref a_sayC, .ref a_sayWeight, .ref a_copyOf, .ref a_isTaken, .int 0, .ref a_spanFrom, .ref a_spanTo, .ref a_spanMany, .int as_, .int fe, .int fdy, .ref a_eventFrom, .ref a_eventTo, .ref a_eventMany, .int lk, .int isp, .ref a_newFrom, .ref a_newTo, .ref a_low, .ref a_high, .ref a_took, .ref a_first, .ref a_last, .int hw_, .ref a_slipSets, .int smy, .ref a_newSets, .ref a_roots, .ref a_ownFirst, .ref a_ownLast]))]) [0] rfl
  have hKc := hK.sub (tys' := []) [] rfl
  have hDc := hD.sub (ws' := [(h0, .inr (5, [.int 0, .int fy, .int fm, .int fd, .ref a_kingCalendar, .ref a_kingFrom, .ref a_kingTo, .int 0, .int 0, .ref a_sayEvent, .ref a_sayWhat, .ref a_sayA, .ref a_sayB, .ref a_sayC, .ref a_sayWeight, .ref a_copyOf, .ref a_isTaken, .int 0, .ref a_spanFrom, .ref a_spanTo, .ref a_spanMany, .int as_, .int fe, .int fdy, .ref a_eventFrom, .ref a_eventTo, .ref a_eventMany, .int lk, .int isp, .ref a_newFrom, .ref a_newTo, .ref a_low, .ref a_high, .ref a_took, .ref a_first, .ref a_last, .int hw_, .ref a_slipSets, .int smy, .ref a_newSets, .ref a_roots, .ref a_ownFirst, .ref a_ownLast]))]) [0] (by decide) rfl
  have hFc := va_free (wc := [(h0, .inr (5, [.int 0, .int fy, .int fm, .int fd, .ref a_kingCalendar, .ref a_kingFrom, .ref a_kingTo, .int 0, .int 0, .ref a_sayEvent, .ref a_sayWhat, .ref a_sayA, .ref a_sayB, .ref a_sayC, .ref a_sayWeight, .ref a_copyOf, .ref a_isTaken, .int 0, .ref a_spanFrom, .ref a_spanTo, .ref a_spanMany, .int as_, .int fe, .int fdy, .ref a_eventFrom, .ref a_eventTo, .ref a_eventMany, .int lk, .int isp, .ref a_newFrom, .ref a_newTo, .ref a_low, .ref a_high, .ref a_took, .ref a_first, .ref a_last, .int hw_, .ref a_slipSets, .int smy, .ref a_newSets, .ref a_roots, .ref a_ownFirst, .ref a_ownLast]))]) hD hS hA [0] rfl
  refine va_calli (va_runV (As := [.int p0, .int p1]) (rest := []) ⟨hx, hb, hml, hown, hts⟩ (k_X6_finds l dC dI H.size h0 a_kingCalendar a_kingFrom a_kingTo a_sayEvent a_sayWhat a_sayA a_sayB a_sayC a_sayWeight a_copyOf a_isTaken a_spanFrom a_spanTo a_spanMany a_eventFrom a_eventTo a_eventMany a_newFrom a_newTo a_low a_high a_took a_first a_last a_slipSets a_newSets a_roots a_ownFirst a_ownLast 0 fy fm fd as_ fe fdy lk isp hw_ smy p0 p1) (cwV 2 hts gX6_date_X6_finds rfl rfl rfl (by decide +kernel) ⟨Nat.le_of_ble_eq_true rfl, Nat.le_of_ble_eq_true rfl⟩) ⟨wPre_blind, va_recv hKc hPc (ci := 5) (q0 := 0) rfl rfl, fun U hU hW => ⟨rfl, wPre_at hPc hKc hDc hU hW⟩⟩ rfl rfl hl.1 rfl (lv_room (Nat.le_of_ble_eq_true rfl)) dX6_date_8 ⟨Nat.le_of_ble_eq_true rfl, Nat.le_of_ble_eq_true rfl⟩) hS (fun q _ h => hFc q h) hFc (fun r_1 u t H1 locs ht hvm hw hB hz1 hk1 hS => ?_)
  obtain ⟨hP1, hD1⟩ := hB
  rw [ht] at hP1
  obtain ⟨yy_2, mm_3, dd_4⟩ := u
  try dsimp only at hw hP1 hD1
  obtain ⟨hP, hD⟩ := va_join (wr := []) (w1 := [(h0, .inr (5, [.int 0, .int yy_2, .int mm_3, .int dd_4, .ref a_kingCalendar, .ref a_kingFrom, .ref a_kingTo, .int 0, .int 0, .ref a_sayEvent, .ref a_sayWhat, .ref a_sayA, .ref a_sayB, .ref a_sayC, .ref a_sayWeight, .ref a_copyOf, .ref a_isTaken, .int 0, .ref a_spanFrom, .ref a_spanTo, .ref a_spanMany, .int as_, .int fe, .int fdy, .ref a_eventFrom, .ref a_eventTo, .ref a_eventMany, .int lk, .int isp, .ref a_newFrom, .ref a_newTo, .ref a_low, .ref a_high, .ref a_took, .ref a_first, .ref a_last, .int hw_, .ref a_slipSets, .int smy, .ref a_newSets, .ref a_roots, .ref a_ownFirst, .ref a_ownLast]))]) hP hD [0] [] rfl rfl (by decide) (by decide) hk1 hFc hP1 hD1
  clear hP1 hD1 hz1 hk1 hFc hPc hDc ht
  generalize H1 = H at hP hS ⊢
  have hP : va_P (dC, dI) vwCl [(h0, .inr (5, [.int 0, .int yy_2, .int mm_3, .int dd_4, .ref a_kingCalendar, .ref a_kingFrom, .ref a_kingTo, .int 0, .int 0, .ref a_sayEvent, .ref a_sayWhat, .ref a_sayA, .ref a_sayB, .ref a_sayC, .ref a_sayWeight, .ref a_copyOf, .ref a_isTaken, .int 0, .ref a_spanFrom, .ref a_spanTo, .ref a_spanMany, .int as_, .int fe, .int fdy, .ref a_eventFrom, .ref a_eventTo, .ref a_eventMany, .int lk, .int isp, .ref a_newFrom, .ref a_newTo, .ref a_low, .ref a_high, .ref a_took, .ref a_first, .ref a_last, .int hw_, .ref a_slipSets, .int smy, .ref a_newSets, .ref a_roots, .ref a_ownFirst, .ref a_ownLast]))] H := hP
  have hD : va_D A [(h0, .inr (5, [.int 0, .int yy_2, .int mm_3, .int dd_4, .ref a_kingCalendar, .ref a_kingFrom, .ref a_kingTo, .int 0, .int 0, .ref a_sayEvent, .ref a_sayWhat, .ref a_sayA, .ref a_sayB, .ref a_sayC, .ref a_sayWeight, .ref a_copyOf, .ref a_isTaken, .int 0, .ref a_spanFrom, .ref a_spanTo, .ref a_spanMany, .int as_, .int fe, .int fdy, .ref a_eventFrom, .ref a_eventTo, .ref a_eventMany, .int lk, .int isp, .ref a_newFrom, .ref a_newTo, .ref a_low, .ref a_high, .ref a_took, .ref a_first, .ref a_last, .int hw_, .ref a_slipSets, .int smy, .ref a_newSets, .ref a_roots, .ref a_ownFirst, .ref a_ownLast]))] := hD
  have hw_5 := hw
  obtain ⟨er_1, hq_6⟩ := hw_5
  subst er_1
  refine lv_if_ne (tgt := 16) hx hb dX6_date_11 (by decide) (fun h_7 => ?_) (fun h_7 => ?_)
  · obtain ⟨e_8, e_9, e_10⟩ := hq_6 h_7
    subst e_8
    subst e_9
    subst e_10
    have hP : va_P (dC, dI) vwCl [(h0, .inr (5, [.int 0, .int (fy_M p0 p1), .int (fm_M p0 p1), .int (fd_M p0 p1), .ref a_kingCalendar, .ref a_kingFrom, .ref a_kingTo, .int 0, .int 0, .ref a_sayEvent, .ref a_sayWhat, .ref a_sayA, .ref a_sayB, .ref a_sayC, .ref a_sayWeight, .ref a_copyOf, .ref a_isTaken, .int 0, .ref a_spanFrom, .ref a_spanTo, .ref a_spanMany, .int as_, .int fe, .int fdy, .ref a_eventFrom, .ref a_eventTo, .ref a_eventMany, .int lk, .int isp, .ref a_newFrom, .ref a_newTo, .ref a_low, .ref a_high, .ref a_took, .ref a_first, .ref a_last, .int hw_, .ref a_slipSets, .int smy, .ref a_newSets, .ref a_roots, .ref a_ownFirst, .ref a_ownLast]))] H := hP
    have hD : va_D A [(h0, .inr (5, [.int 0, .int (fy_M p0 p1), .int (fm_M p0 p1), .int (fd_M p0 p1), .ref a_kingCalendar, .ref a_kingFrom, .ref a_kingTo, .int 0, .int 0, .ref a_sayEvent, .ref a_sayWhat, .ref a_sayA, .ref a_sayB, .ref a_sayC, .ref a_sayWeight, .ref a_copyOf, .ref a_isTaken, .int 0, .ref a_spanFrom, .ref a_spanTo, .ref a_spanMany, .int as_, .int fe, .int fdy, .ref a_eventFrom, .ref a_eventTo, .ref a_eventMany, .int lk, .int isp, .ref a_newFrom, .ref a_newTo, .ref a_low, .ref a_high, .ref a_took, .ref a_first, .ref a_last, .int hw_, .ref a_slipSets, .int smy, .ref a_newSets, .ref a_roots, .ref a_ownFirst, .ref a_ownLast]))] := hD
    refine lv_iload_n hx hb dX6_date_16 rfl (lv_at hl 3 rfl) ?_
    refine lv_if_ne (tgt := 27) hx hb dX6_date_17 (by decide) (fun h_11 => ?_) (fun h_11 => ?_)
    · refine lv_iload_n hx hb dX6_date_27 rfl (lv_at hl 3 rfl) ?_
      refine lv_iconst (v := 1) hx hb dX6_date_28 (by decide) ?_
      refine lv_icmp_ne (tgt := 39) hx hb dX6_date_29 (by decide) (fun h_12 => ?_) (fun h_12 => ?_)
      · refine lv_iload_n hx hb dX6_date_39 rfl (lv_at hl 3 rfl) ?_
        refine lv_iconst (v := 2) hx hb dX6_date_40 (by decide) ?_
        refine lv_icmp_ne (tgt := 51) hx hb dX6_date_41 (by decide) (fun h_13 => ?_) (fun h_13 => ?_)
        · refine lv_iconst (v := (-1)) hx hb dX6_date_51 (by decide) ?_
          have hP9 := hP.sub (ws' := []) [] rfl
          have hD9 := hD.sub (ws' := []) [] (by decide) rfl
          exact W.iret (v := (-1)) hx hb hr (fun t ht hW => ⟨⟨_, (), rfl, by rw [f_X6_date, if_neg h_7, if_neg h_11, if_neg h_12, if_neg h_13], by rw [ht]; exact hP9, hD9⟩, hS.F ht⟩) hS.2.2 dX6_date_52
        · refine lv_aload_n hx hb dX6_date_44 rfl (lv_at hl 0 rfl) ?_
          refine va_get (D := (dC, dI)) (ci := 5) (v := .int (fd_M p0 p1)) (C := RX6) (T := TX6) (N := 43) hx hb hts (by decide +kernel) hown hK hP 0 rfl rfl 3 (by decide) (hts (.fieldLink RX6 139 "DayBenchModel" "foundDay" "I") (by decide +kernel)) (fun _ h9 => h9) rfl dX6_date_45 ?_
          refine lv_goto (tgt := 52) hx hb dX6_date_48 (by decide) ?_
          have hP9 := hP.sub (ws' := []) [] rfl
          have hD9 := hD.sub (ws' := []) [] (by decide) rfl
          exact W.iret (v := fd_M p0 p1) hx hb hr (fun t ht hW => ⟨⟨_, (), rfl, by rw [f_X6_date, if_neg h_7, if_neg h_11, if_neg h_12, if_pos h_13], by rw [ht]; exact hP9, hD9⟩, hS.F ht⟩) hS.2.2 dX6_date_52
      · refine lv_aload_n hx hb dX6_date_32 rfl (lv_at hl 0 rfl) ?_
        refine va_get (D := (dC, dI)) (ci := 5) (v := .int (fm_M p0 p1)) (C := RX6) (T := TX6) (N := 43) hx hb hts (by decide +kernel) hown hK hP 0 rfl rfl 2 (by decide) (hts (.fieldLink RX6 136 "DayBenchModel" "foundMonth" "I") (by decide +kernel)) (fun _ h9 => h9) rfl dX6_date_33 ?_
        refine lv_goto (tgt := 52) hx hb dX6_date_36 (by decide) ?_
        have hP9 := hP.sub (ws' := []) [] rfl
        have hD9 := hD.sub (ws' := []) [] (by decide) rfl
        exact W.iret (v := fm_M p0 p1) hx hb hr (fun t ht hW => ⟨⟨_, (), rfl, by rw [f_X6_date, if_neg h_7, if_neg h_11, if_pos h_12], by rw [ht]; exact hP9, hD9⟩, hS.F ht⟩) hS.2.2 dX6_date_52
    · refine lv_aload_n hx hb dX6_date_20 rfl (lv_at hl 0 rfl) ?_
      refine va_get (D := (dC, dI)) (ci := 5) (v := .int (fy_M p0 p1)) (C := RX6) (T := TX6) (N := 43) hx hb hts (by decide +kernel) hown hK hP 0 rfl rfl 1 (by decide) (hts (.fieldLink RX6 133 "DayBenchModel" "foundYear" "I") (by decide +kernel)) (fun _ h9 => h9) rfl dX6_date_21 ?_
      refine lv_goto (tgt := 52) hx hb dX6_date_24 (by decide) ?_
      have hP9 := hP.sub (ws' := []) [] rfl
      have hD9 := hD.sub (ws' := []) [] (by decide) rfl
      exact W.iret (v := fy_M p0 p1) hx hb hr (fun t ht hW => ⟨⟨_, (), rfl, by rw [f_X6_date, if_neg h_7, if_pos h_11], by rw [ht]; exact hP9, hD9⟩, hS.F ht⟩) hS.2.2 dX6_date_52
  · refine lv_iconst (v := (-1)) hx hb dX6_date_14 (by decide) ?_
    have hP9 := hP.sub (ws' := []) [] rfl
    have hD9 := hD.sub (ws' := []) [] (by decide) rfl
    exact W.iret (v := (-1)) hx hb hr (fun t ht hW => ⟨⟨_, (), rfl, by rw [f_X6_date, if_pos h_7], by rw [ht]; exact hP9, hD9⟩, hS.F ht⟩) hS.2.2 dX6_date_15

set_option maxHeartbeats 4000000 in
set_option maxRecDepth 100000 in
theorem k_X6_behind (l : Launch) (dC : Nat → ClassId) (dI : Nat → Nat → Nat) (sz : Nat) (h0 : Nat) (a_kingCalendar : Nat) (a_kingFrom : Nat) (a_kingTo : Nat) (a_sayEvent : Nat) (a_sayWhat : Nat) (a_sayA : Nat) (a_sayB : Nat) (a_sayC : Nat) (a_sayWeight : Nat) (a_copyOf : Nat) (a_isTaken : Nat) (a_spanFrom : Nat) (a_spanTo : Nat) (a_spanMany : Nat) (a_eventFrom : Nat) (a_eventTo : Nat) (a_eventMany : Nat) (a_newFrom : Nat) (a_newTo : Nat) (a_low : Nat) (a_high : Nat) (a_took : Nat) (a_first : Nat) (a_last : Nat) (a_slipSets : Nat) (a_newSets : Nat) (a_roots : Nat) (a_ownFirst : Nat) (a_ownLast : Nat) (th : Int32) (fy : Int32) (fm : Int32) (fd : Int32) (as_ : Int32) (fe : Int32) (fdy : Int32) (lk : Int32) (isp : Int32) (hw_ : Int32) (smy : Int32) (p0 : Int32) (p1 : Int32) (p2 : Int32)  : Met l yX6_behind wsX6_behind ({ frames := 3, cells := 0, slots := 0, locals := 68 }) (va_Pc [.ref h0, .int p0, .int p1, .int p2] (wPre dC dI sz [(h0, .inr (5, [.int th, .int fy, .int fm, .int fd, .ref a_kingCalendar, .ref a_kingFrom, .ref a_kingTo, .int 0, .int 0, .ref a_sayEvent, .ref a_sayWhat, .ref a_sayA, .ref a_sayB, .ref a_sayC, .ref a_sayWeight, .ref a_copyOf, .ref a_isTaken, .int 0, .ref a_spanFrom, .ref a_spanTo, .ref a_spanMany, .int as_, .int fe, .int fdy, .ref a_eventFrom, .ref a_eventTo, .ref a_eventMany, .int lk, .int isp, .ref a_newFrom, .ref a_newTo, .ref a_low, .ref a_high, .ref a_took, .ref a_first, .ref a_last, .int hw_, .ref a_slipSets, .int smy, .ref a_newSets, .ref a_roots, .ref a_ownFirst, .ref a_ownLast]))] [])) (va_Qi (fun (r : Int32) (u : Unit) => r = f_X6_behind p0 p1 p2) (fun (u : Unit) t => wPost dC dI (va_A [(h0, .inr (5, [.int th, .int fy, .int fm, .int fd, .ref a_kingCalendar, .ref a_kingFrom, .ref a_kingTo, .int 0, .int 0, .ref a_sayEvent, .ref a_sayWhat, .ref a_sayA, .ref a_sayB, .ref a_sayC, .ref a_sayWeight, .ref a_copyOf, .ref a_isTaken, .int 0, .ref a_spanFrom, .ref a_spanTo, .ref a_spanMany, .int as_, .int fe, .int fdy, .ref a_eventFrom, .ref a_eventTo, .ref a_eventMany, .int lk, .int isp, .ref a_newFrom, .ref a_newTo, .ref a_low, .ref a_high, .ref a_took, .ref a_first, .ref a_last, .int hw_, .ref a_slipSets, .int smy, .ref a_newSets, .ref a_roots, .ref a_ownFirst, .ref a_ownLast]))] sz) [] t) (va_A [(h0, .inr (5, [.int th, .int fy, .int fm, .int fd, .ref a_kingCalendar, .ref a_kingFrom, .ref a_kingTo, .int 0, .int 0, .ref a_sayEvent, .ref a_sayWhat, .ref a_sayA, .ref a_sayB, .ref a_sayC, .ref a_sayWeight, .ref a_copyOf, .ref a_isTaken, .int 0, .ref a_spanFrom, .ref a_spanTo, .ref a_spanMany, .int as_, .int fe, .int fdy, .ref a_eventFrom, .ref a_eventTo, .ref a_eventMany, .int lk, .int isp, .ref a_newFrom, .ref a_newTo, .ref a_low, .ref a_high, .ref a_took, .ref a_first, .ref a_last, .int hw_, .ref a_slipSets, .int smy, .ref a_newSets, .ref a_roots, .ref a_ownFirst, .ref a_ownLast]))] sz)) 0 0 (va_A [(h0, .inr (5, [.int th, .int fy, .int fm, .int fd, .ref a_kingCalendar, .ref a_kingFrom, .ref a_kingTo, .int 0, .int 0, .ref a_sayEvent, .ref a_sayWhat, .ref a_sayA, .ref a_sayB, .ref a_sayC, .ref a_sayWeight, .ref a_copyOf, .ref a_isTaken, .int 0, .ref a_spanFrom, .ref a_spanTo, .ref a_spanMany, .int as_, .int fe, .int fdy, .ref a_eventFrom, .ref a_eventTo, .ref a_eventMany, .int lk, .int isp, .ref a_newFrom, .ref a_newTo, .ref a_low, .ref a_high, .ref a_took, .ref a_first, .ref a_last, .int hw_, .ref a_slipSets, .int smy, .ref a_newSets, .ref a_roots, .ref a_ownFirst, .ref a_ownLast]))] sz) := by
  refine Met.ofW (cc := cX6_behind) (maxL := 6) (ret := (some .int)) (by decide) rfl ?_
  intro p e s m args below meth c s₁ B hml hv
  obtain ⟨rfl, hsz, hP, hK, hD0⟩ := hv
  have hx := B.exec
  have hb := B.bytes
  have hr := B.returns
  have hts := atoms_spec (ws := wsX6_behind) B.pre
  have hown : s.vm.findClass RX6 = some m.cls := findClass_of_methodNamed B.named
  have hlocks := B.notSynchronized
  subst hsz
  have hD := hD0.self (sz := s.heap.size)
  generalize hAe : va_A [(h0, .inr (5, [.int th, .int fy, .int fm, .int fd, .ref a_kingCalendar, .ref a_kingFrom, .ref a_kingTo, .int 0, .int 0, .ref a_sayEvent, .ref a_sayWhat, .ref a_sayA, .ref a_sayB, .ref a_sayC, .ref a_sayWeight, .ref a_copyOf, .ref a_isTaken, .int 0, .ref a_spanFrom, .ref a_spanTo, .ref a_spanMany, .int as_, .int fe, .int fdy, .ref a_eventFrom, .ref a_eventTo, .ref a_eventMany, .int lk, .int isp, .ref a_newFrom, .ref a_newTo, .ref a_low, .ref a_high, .ref a_took, .ref a_first, .ref a_last, .int hw_, .ref a_slipSets, .int smy, .ref a_newSets, .ref a_roots, .ref a_ownFirst, .ref a_ownLast]))] s.heap.size = A at hD ⊢
  have hA : ∀ q : Nat, s.heap.size ≤ q → A q := fun q h => by rw [← hAe]; exact Or.inr h
  have hS : va_S A s.heap s.heap [] := va_S.rf
  have hP : va_P (dC, dI) vwCl [(h0, .inr (5, [.int th, .int fy, .int fm, .int fd, .ref a_kingCalendar, .ref a_kingFrom, .ref a_kingTo, .int 0, .int 0, .ref a_sayEvent, .ref a_sayWhat, .ref a_sayA, .ref a_sayB, .ref a_sayC, .ref a_sayWeight, .ref a_copyOf, .ref a_isTaken, .int 0, .ref a_spanFrom, .ref a_spanTo, .ref a_spanMany, .int as_, .int fe, .int fdy, .ref a_eventFrom, .ref a_eventTo, .ref a_eventMany, .int lk, .int isp, .ref a_newFrom, .ref a_newTo, .ref a_low, .ref a_high, .ref a_took, .ref a_first, .ref a_last, .int hw_, .ref a_slipSets, .int smy, .ref a_newSets, .ref a_roots, .ref a_ownFirst, .ref a_ownLast]))] s.heap := hP
  have hl := lv_entry ([.ref h0, .int p0, .int p1, .int p2]) (n := 6) (Nat.le_of_ble_eq_true rfl)
  rw [lg_entry_eq]
  generalize (lg_sl ([.ref h0, .int p0, .int p1, .int p2]) ++ List.replicate (6 - (lg_sl ([.ref h0, .int p0, .int p1, .int p2])).length) Slot.unset).toArray = ls at hl ⊢
  have hl : lv_has ls 6 [(0, .ref h0), (1, .int p0), (2, .int p1), (3, .int p2)] := hl
  refine lv_aload_n hx hb dX6_behind_0 rfl (lv_at hl 0 rfl) ?_
  refine lv_iload_n hx hb dX6_behind_1 rfl (lv_at hl 1 rfl) ?_
  refine lv_iload_n hx hb dX6_behind_2 rfl (lv_at hl 2 rfl) ?_
  have hPc := hP.sub (ws' := [(h0, .inr (5, [.int th, .int fy, .int fm, .int fd, .ref a_kingCalendar, .ref a_kingFrom, .ref a_kingTo, .int 0, .int 0, .ref a_sayEvent, .ref a_sayWhat, .ref a_sayA, .ref a_sayB, .ref a_sayC, .ref a_sayWeight, .ref a_copyOf, .ref a_isTaken, .int 0, .ref a_spanFrom, .ref a_spanTo, .ref a_spanMany, .int as_, .int fe, .int fdy, .ref a_eventFrom, .ref a_eventTo, .ref a_eventMany, .int lk, .int isp, .ref a_newFrom, .ref a_newTo, .ref a_low, .ref a_high, .ref a_took, .ref a_first, .ref a_last, .int hw_, .ref a_slipSets, .int smy, .ref a_newSets, .ref a_roots, .ref a_ownFirst, .ref a_ownLast]))]) [0] rfl
  have hKc := hK.sub (tys' := []) [] rfl
  have hDc := hD.sub (ws' := [(h0, .inr (5, [.int th, .int fy, .int fm, .int fd, .ref a_kingCalendar, .ref a_kingFrom, .ref a_kingTo, .int 0, .int 0, .ref a_sayEvent, .ref a_sayWhat, .ref a_sayA, .ref a_sayB, .ref a_sayC, .ref a_sayWeight, .ref a_copyOf, .ref a_isTaken, .int 0, .ref a_spanFrom, .ref a_spanTo, .ref a_spanMany, .int as_, .int fe, .int fdy, .ref a_eventFrom, .ref a_eventTo, .ref a_eventMany, .int lk, .int isp, .ref a_newFrom, .ref a_newTo, .ref a_low, .ref a_high, .ref a_took, .ref a_first, .ref a_last, .int hw_, .ref a_slipSets, .int smy, .ref a_newSets, .ref a_roots, .ref a_ownFirst, .ref a_ownLast]))]) [0] (by decide) rfl
  have hFc := va_free (wc := [(h0, .inr (5, [.int th, .int fy, .int fm, .int fd, .ref a_kingCalendar, .ref a_kingFrom, .ref a_kingTo, .int 0, .int 0, .ref a_sayEvent, .ref a_sayWhat, .ref a_sayA, .ref a_sayB, .ref a_sayC, .ref a_sayWeight, .ref a_copyOf, .ref a_isTaken, .int 0, .ref a_spanFrom, .ref a_spanTo, .ref a_spanMany, .int as_, .int fe, .int fdy, .ref a_eventFrom, .ref a_eventTo, .ref a_eventMany, .int lk, .int isp, .ref a_newFrom, .ref a_newTo, .ref a_low, .ref a_high, .ref a_took, .ref a_first, .ref a_last, .int hw_, .ref a_slipSets, .int smy, .ref a_newSets, .ref a_roots, .ref a_ownFirst, .ref a_ownLast]))]) hD hS hA [0] rfl
  refine va_calli (va_runV (As := [.int p0, .int p1]) (rest := []) ⟨hx, hb, hml, hown, hts⟩ (k_X6_finds l dC dI s.heap.size h0 a_kingCalendar a_kingFrom a_kingTo a_sayEvent a_sayWhat a_sayA a_sayB a_sayC a_sayWeight a_copyOf a_isTaken a_spanFrom a_spanTo a_spanMany a_eventFrom a_eventTo a_eventMany a_newFrom a_newTo a_low a_high a_took a_first a_last a_slipSets a_newSets a_roots a_ownFirst a_ownLast th fy fm fd as_ fe fdy lk isp hw_ smy p0 p1) (cwV 2 hts gX6_behind_X6_finds rfl rfl rfl (by decide +kernel) ⟨Nat.le_of_ble_eq_true rfl, Nat.le_of_ble_eq_true rfl⟩) ⟨wPre_blind, va_recv hKc hPc (ci := 5) (q0 := 0) rfl rfl, fun U hU hW => ⟨rfl, wPre_at hPc hKc hDc hU hW⟩⟩ rfl rfl hl.1 rfl (lv_room (Nat.le_of_ble_eq_true rfl)) dX6_behind_3 ⟨Nat.le_of_ble_eq_true rfl, Nat.le_of_ble_eq_true rfl⟩) hS (fun q _ h => hFc q h) hFc (fun r_1 u t H1 locs ht hvm hw hB hz1 hk1 hS => ?_)
  obtain ⟨hP1, hD1⟩ := hB
  rw [ht] at hP1
  obtain ⟨yy_2, mm_3, dd_4⟩ := u
  try dsimp only at hw hP1 hD1
  obtain ⟨hP, hD⟩ := va_join (wr := []) (w1 := [(h0, .inr (5, [.int th, .int yy_2, .int mm_3, .int dd_4, .ref a_kingCalendar, .ref a_kingFrom, .ref a_kingTo, .int 0, .int 0, .ref a_sayEvent, .ref a_sayWhat, .ref a_sayA, .ref a_sayB, .ref a_sayC, .ref a_sayWeight, .ref a_copyOf, .ref a_isTaken, .int 0, .ref a_spanFrom, .ref a_spanTo, .ref a_spanMany, .int as_, .int fe, .int fdy, .ref a_eventFrom, .ref a_eventTo, .ref a_eventMany, .int lk, .int isp, .ref a_newFrom, .ref a_newTo, .ref a_low, .ref a_high, .ref a_took, .ref a_first, .ref a_last, .int hw_, .ref a_slipSets, .int smy, .ref a_newSets, .ref a_roots, .ref a_ownFirst, .ref a_ownLast]))]) hP hD [0] [] rfl rfl (by decide) (by decide) hk1 hFc hP1 hD1
  clear hP1 hD1 hz1 hk1 hFc hPc hDc ht
  generalize H1 = H at hP hS ⊢
  have hP : va_P (dC, dI) vwCl [(h0, .inr (5, [.int th, .int yy_2, .int mm_3, .int dd_4, .ref a_kingCalendar, .ref a_kingFrom, .ref a_kingTo, .int 0, .int 0, .ref a_sayEvent, .ref a_sayWhat, .ref a_sayA, .ref a_sayB, .ref a_sayC, .ref a_sayWeight, .ref a_copyOf, .ref a_isTaken, .int 0, .ref a_spanFrom, .ref a_spanTo, .ref a_spanMany, .int as_, .int fe, .int fdy, .ref a_eventFrom, .ref a_eventTo, .ref a_eventMany, .int lk, .int isp, .ref a_newFrom, .ref a_newTo, .ref a_low, .ref a_high, .ref a_took, .ref a_first, .ref a_last, .int hw_, .ref a_slipSets, .int smy, .ref a_newSets, .ref a_roots, .ref a_ownFirst, .ref a_ownLast]))] H := hP
  have hD : va_D A [(h0, .inr (5, [.int th, .int yy_2, .int mm_3, .int dd_4, .ref a_kingCalendar, .ref a_kingFrom, .ref a_kingTo, .int 0, .int 0, .ref a_sayEvent, .ref a_sayWhat, .ref a_sayA, .ref a_sayB, .ref a_sayC, .ref a_sayWeight, .ref a_copyOf, .ref a_isTaken, .int 0, .ref a_spanFrom, .ref a_spanTo, .ref a_spanMany, .int as_, .int fe, .int fdy, .ref a_eventFrom, .ref a_eventTo, .ref a_eventMany, .int lk, .int isp, .ref a_newFrom, .ref a_newTo, .ref a_low, .ref a_high, .ref a_took, .ref a_first, .ref a_last, .int hw_, .ref a_slipSets, .int smy, .ref a_newSets, .ref a_roots, .ref a_ownFirst, .ref a_ownLast]))] := hD
  have hw_5 := hw
  obtain ⟨er_1, hq_6⟩ := hw_5
  subst er_1
  refine lv_if_ne (tgt := 11) hx hb dX6_behind_6 (by decide) (fun h_7 => ?_) (fun h_7 => ?_)
  · obtain ⟨e_8, e_9, e_10⟩ := hq_6 h_7
    subst e_8
    subst e_9
    subst e_10
    have hP : va_P (dC, dI) vwCl [(h0, .inr (5, [.int th, .int (fy_M p0 p1), .int (fm_M p0 p1), .int (fd_M p0 p1), .ref a_kingCalendar, .ref a_kingFrom, .ref a_kingTo, .int 0, .int 0, .ref a_sayEvent, .ref a_sayWhat, .ref a_sayA, .ref a_sayB, .ref a_sayC, .ref a_sayWeight, .ref a_copyOf, .ref a_isTaken, .int 0, .ref a_spanFrom, .ref a_spanTo, .ref a_spanMany, .int as_, .int fe, .int fdy, .ref a_eventFrom, .ref a_eventTo, .ref a_eventMany, .int lk, .int isp, .ref a_newFrom, .ref a_newTo, .ref a_low, .ref a_high, .ref a_took, .ref a_first, .ref a_last, .int hw_, .ref a_slipSets, .int smy, .ref a_newSets, .ref a_roots, .ref a_ownFirst, .ref a_ownLast]))] H := hP
    have hD : va_D A [(h0, .inr (5, [.int th, .int (fy_M p0 p1), .int (fm_M p0 p1), .int (fd_M p0 p1), .ref a_kingCalendar, .ref a_kingFrom, .ref a_kingTo, .int 0, .int 0, .ref a_sayEvent, .ref a_sayWhat, .ref a_sayA, .ref a_sayB, .ref a_sayC, .ref a_sayWeight, .ref a_copyOf, .ref a_isTaken, .int 0, .ref a_spanFrom, .ref a_spanTo, .ref a_spanMany, .int as_, .int fe, .int fdy, .ref a_eventFrom, .ref a_eventTo, .ref a_eventMany, .int lk, .int isp, .ref a_newFrom, .ref a_newTo, .ref a_low, .ref a_high, .ref a_took, .ref a_first, .ref a_last, .int hw_, .ref a_slipSets, .int smy, .ref a_newSets, .ref a_roots, .ref a_ownFirst, .ref a_ownLast]))] := hD
    refine lv_aload_n hx hb dX6_behind_11 rfl (lv_at hl 0 rfl) ?_
    refine va_get (D := (dC, dI)) (ci := 5) (v := .int (fy_M p0 p1)) (C := RX6) (T := TX6) (N := 43) hx hb hts (by decide +kernel) hown hK hP 0 rfl rfl 1 (by decide) (hts (.fieldLink RX6 133 "DayBenchModel" "foundYear" "I") (by decide +kernel)) (fun _ h9 => h9) rfl dX6_behind_12 ?_
    refine lv_iload_n hx hb dX6_behind_15 rfl (lv_at hl 3 rfl) ?_
    refine lv_iadd hx hb dX6_behind_16 ?_
    refine lv_istore (lv' := [(4, .int ((fy_M p0 p1) + p2)), (0, .ref h0), (1, .int p0), (2, .int p1), (3, .int p2)]) hx hb dX6_behind_17 hl (by decide) rfl (fun ls hl => ?_)
    refine lv_iload_n hx hb dX6_behind_19 rfl (lv_at hl 2 rfl) ?_
    refine lv_iload hx hb dX6_behind_20 (lv_at hl 0 rfl) ?_
    refine lv_aload_n hx hb dX6_behind_22 rfl (lv_at hl 1 rfl) ?_
    refine va_get (D := (dC, dI)) (ci := 5) (v := .int (fm_M p0 p1)) (C := RX6) (T := TX6) (N := 43) hx hb hts (by decide +kernel) hown hK hP 0 rfl rfl 2 (by decide) (hts (.fieldLink RX6 136 "DayBenchModel" "foundMonth" "I") (by decide +kernel)) (fun _ h9 => h9) rfl dX6_behind_23 ?_
    refine lv_aload_n hx hb dX6_behind_26 rfl (lv_at hl 1 rfl) ?_
    refine va_get (D := (dC, dI)) (ci := 5) (v := .int (fd_M p0 p1)) (C := RX6) (T := TX6) (N := 43) hx hb hts (by decide +kernel) hown hK hP 0 rfl rfl 3 (by decide) (hts (.fieldLink RX6 139 "DayBenchModel" "foundDay" "I") (by decide +kernel)) (fun _ h9 => h9) rfl dX6_behind_27 ?_
    refine vp_callSi (va_Run.run (va_runS (As := [.int p0, .int ((fy_M p0 p1) + p2), .int (fm_M p0 p1), .int (fd_M p0 p1)]) (rest := []) ⟨hx, hb, hml, hown, hts⟩ (k_X6_dayOf l p0 ((fy_M p0 p1) + p2) (fm_M p0 p1) (fd_M p0 p1)) (va_cwS 4 hts gX6_behind_X6_dayOf rfl rfl rfl (by decide +kernel) ⟨Nat.le_of_ble_eq_true rfl, Nat.le_of_ble_eq_true rfl⟩) ⟨fun _ _ _ _ q => q, fun _ _ _ => ⟨rfl, trivial⟩⟩ rfl rfl hl.1 rfl (lv_room (Nat.le_of_ble_eq_true rfl)) dX6_behind_30 ⟨Nat.le_of_ble_eq_true rfl, Nat.le_of_ble_eq_true rfl⟩)) (fun r_11 er_11 => ?_)
    subst er_11
    refine lv_istore (lv' := [(5, .int (f_X6_dayOf p0 ((fy_M p0 p1) + p2) (fm_M p0 p1) (fd_M p0 p1))), (4, .int ((fy_M p0 p1) + p2)), (0, .ref h0), (1, .int p0), (2, .int p1), (3, .int p2)]) hx hb dX6_behind_33 hl (by decide) rfl (fun ls hl => ?_)
    refine lv_iload hx hb dX6_behind_35 (lv_at hl 0 rfl) ?_
    refine lv_ldc (own := RX6) (v := 2000000) hx hb hown (hts (.constant RX6 114 (2000000)) (by decide +kernel)) dX6_behind_37 ?_
    refine lv_icmp_ne (tgt := 74) hx hb dX6_behind_39 (by decide) (fun h_12 => ?_) (fun h_12 => ?_)
    · refine lv_iload hx hb dX6_behind_74 (lv_at hl 0 rfl) ?_
      refine vp_callSi (va_Run.run (va_runS (As := [.int (f_X6_dayOf p0 ((fy_M p0 p1) + p2) (fm_M p0 p1) (fd_M p0 p1))]) (rest := []) ⟨hx, hb, hml, hown, hts⟩ (k_X6_isDay l (f_X6_dayOf p0 ((fy_M p0 p1) + p2) (fm_M p0 p1) (fd_M p0 p1))) (va_cwS 1 hts gX6_behind_X6_isDay rfl rfl rfl (by decide +kernel) ⟨Nat.le_of_ble_eq_true rfl, Nat.le_of_ble_eq_true rfl⟩) ⟨fun _ _ _ _ q => q, fun _ _ _ => ⟨rfl, trivial⟩⟩ rfl rfl hl.1 rfl (lv_room (Nat.le_of_ble_eq_true rfl)) dX6_behind_76 ⟨Nat.le_of_ble_eq_true rfl, Nat.le_of_ble_eq_true rfl⟩)) (fun r_13 er_13 => ?_)
      subst er_13
      refine lv_if_eq (tgt := 87) hx hb dX6_behind_79 (by decide) (fun h_14 => ?_) (fun h_14 => ?_)
      · refine lv_iconst (v := (-1)) hx hb dX6_behind_87 (by decide) ?_
        have hP9 := hP.sub (ws' := []) [] rfl
        have hD9 := hD.sub (ws' := []) [] (by decide) rfl
        exact W.iret (v := (-1)) hx hb hr (fun t ht hW => ⟨⟨_, (), rfl, by rw [f_X6_behind, if_neg h_7, if_neg h_12, if_pos h_14], by rw [ht]; exact hP9, hD9⟩, hS.F ht⟩) hS.2.2 dX6_behind_88
      · refine lv_iload hx hb dX6_behind_82 (lv_at hl 0 rfl) ?_
        refine lv_goto (tgt := 88) hx hb dX6_behind_84 (by decide) ?_
        have hP9 := hP.sub (ws' := []) [] rfl
        have hD9 := hD.sub (ws' := []) [] (by decide) rfl
        exact W.iret (v := f_X6_dayOf p0 ((fy_M p0 p1) + p2) (fm_M p0 p1) (fd_M p0 p1)) hx hb hr (fun t ht hW => ⟨⟨_, (), rfl, by rw [f_X6_behind, if_neg h_7, if_neg h_12, if_neg h_14], by rw [ht]; exact hP9, hD9⟩, hS.F ht⟩) hS.2.2 dX6_behind_88
    · refine lv_iload_n hx hb dX6_behind_42 rfl (lv_at hl 3 rfl) ?_
      refine lv_iconst (v := 2) hx hb dX6_behind_43 (by decide) ?_
      refine lv_icmp_ge (tgt := 74) hx hb dX6_behind_44 (by decide) (fun h_15 => ?_) (fun h_15 => ?_)
      · refine lv_iload hx hb dX6_behind_74 (lv_at hl 0 rfl) ?_
        refine vp_callSi (va_Run.run (va_runS (As := [.int (f_X6_dayOf p0 ((fy_M p0 p1) + p2) (fm_M p0 p1) (fd_M p0 p1))]) (rest := []) ⟨hx, hb, hml, hown, hts⟩ (k_X6_isDay l (f_X6_dayOf p0 ((fy_M p0 p1) + p2) (fm_M p0 p1) (fd_M p0 p1))) (va_cwS 1 hts gX6_behind_X6_isDay rfl rfl rfl (by decide +kernel) ⟨Nat.le_of_ble_eq_true rfl, Nat.le_of_ble_eq_true rfl⟩) ⟨fun _ _ _ _ q => q, fun _ _ _ => ⟨rfl, trivial⟩⟩ rfl rfl hl.1 rfl (lv_room (Nat.le_of_ble_eq_true rfl)) dX6_behind_76 ⟨Nat.le_of_ble_eq_true rfl, Nat.le_of_ble_eq_true rfl⟩)) (fun r_16 er_16 => ?_)
        subst er_16
        refine lv_if_eq (tgt := 87) hx hb dX6_behind_79 (by decide) (fun h_17 => ?_) (fun h_17 => ?_)
        · refine lv_iconst (v := (-1)) hx hb dX6_behind_87 (by decide) ?_
          have hP9 := hP.sub (ws' := []) [] rfl
          have hD9 := hD.sub (ws' := []) [] (by decide) rfl
          exact W.iret (v := (-1)) hx hb hr (fun t ht hW => ⟨⟨_, (), rfl, by rw [f_X6_behind, if_neg h_7, if_pos h_12, if_pos h_15, if_pos h_17], by rw [ht]; exact hP9, hD9⟩, hS.F ht⟩) hS.2.2 dX6_behind_88
        · refine lv_iload hx hb dX6_behind_82 (lv_at hl 0 rfl) ?_
          refine lv_goto (tgt := 88) hx hb dX6_behind_84 (by decide) ?_
          have hP9 := hP.sub (ws' := []) [] rfl
          have hD9 := hD.sub (ws' := []) [] (by decide) rfl
          exact W.iret (v := f_X6_dayOf p0 ((fy_M p0 p1) + p2) (fm_M p0 p1) (fd_M p0 p1)) hx hb hr (fun t ht hW => ⟨⟨_, (), rfl, by rw [f_X6_behind, if_neg h_7, if_pos h_12, if_pos h_15, if_neg h_17], by rw [ht]; exact hP9, hD9⟩, hS.F ht⟩) hS.2.2 dX6_behind_88
      · refine lv_aload_n hx hb dX6_behind_47 rfl (lv_at hl 2 rfl) ?_
        refine va_get (D := (dC, dI)) (ci := 5) (v := .int (fm_M p0 p1)) (C := RX6) (T := TX6) (N := 43) hx hb hts (by decide +kernel) hown hK hP 0 rfl rfl 2 (by decide) (hts (.fieldLink RX6 136 "DayBenchModel" "foundMonth" "I") (by decide +kernel)) (fun _ h9 => h9) rfl dX6_behind_48 ?_
        refine lv_iconst (v := 2) hx hb dX6_behind_51 (by decide) ?_
        refine lv_icmp_ne (tgt := 74) hx hb dX6_behind_52 (by decide) (fun h_18 => ?_) (fun h_18 => ?_)
        · refine lv_iload hx hb dX6_behind_74 (lv_at hl 0 rfl) ?_
          refine vp_callSi (va_Run.run (va_runS (As := [.int (f_X6_dayOf p0 ((fy_M p0 p1) + p2) (fm_M p0 p1) (fd_M p0 p1))]) (rest := []) ⟨hx, hb, hml, hown, hts⟩ (k_X6_isDay l (f_X6_dayOf p0 ((fy_M p0 p1) + p2) (fm_M p0 p1) (fd_M p0 p1))) (va_cwS 1 hts gX6_behind_X6_isDay rfl rfl rfl (by decide +kernel) ⟨Nat.le_of_ble_eq_true rfl, Nat.le_of_ble_eq_true rfl⟩) ⟨fun _ _ _ _ q => q, fun _ _ _ => ⟨rfl, trivial⟩⟩ rfl rfl hl.1 rfl (lv_room (Nat.le_of_ble_eq_true rfl)) dX6_behind_76 ⟨Nat.le_of_ble_eq_true rfl, Nat.le_of_ble_eq_true rfl⟩)) (fun r_19 er_19 => ?_)
          subst er_19
          refine lv_if_eq (tgt := 87) hx hb dX6_behind_79 (by decide) (fun h_20 => ?_) (fun h_20 => ?_)
          · refine lv_iconst (v := (-1)) hx hb dX6_behind_87 (by decide) ?_
            have hP9 := hP.sub (ws' := []) [] rfl
            have hD9 := hD.sub (ws' := []) [] (by decide) rfl
            exact W.iret (v := (-1)) hx hb hr (fun t ht hW => ⟨⟨_, (), rfl, by rw [f_X6_behind, if_neg h_7, if_pos h_12, if_neg h_15, if_neg h_18, if_pos h_20], by rw [ht]; exact hP9, hD9⟩, hS.F ht⟩) hS.2.2 dX6_behind_88
          · refine lv_iload hx hb dX6_behind_82 (lv_at hl 0 rfl) ?_
            refine lv_goto (tgt := 88) hx hb dX6_behind_84 (by decide) ?_
            have hP9 := hP.sub (ws' := []) [] rfl
            have hD9 := hD.sub (ws' := []) [] (by decide) rfl
            exact W.iret (v := f_X6_dayOf p0 ((fy_M p0 p1) + p2) (fm_M p0 p1) (fd_M p0 p1)) hx hb hr (fun t ht hW => ⟨⟨_, (), rfl, by rw [f_X6_behind, if_neg h_7, if_pos h_12, if_neg h_15, if_neg h_18, if_neg h_20], by rw [ht]; exact hP9, hD9⟩, hS.F ht⟩) hS.2.2 dX6_behind_88
        · refine lv_aload_n hx hb dX6_behind_55 rfl (lv_at hl 2 rfl) ?_
          refine va_get (D := (dC, dI)) (ci := 5) (v := .int (fd_M p0 p1)) (C := RX6) (T := TX6) (N := 43) hx hb hts (by decide +kernel) hown hK hP 0 rfl rfl 3 (by decide) (hts (.fieldLink RX6 139 "DayBenchModel" "foundDay" "I") (by decide +kernel)) (fun _ h9 => h9) rfl dX6_behind_56 ?_
          refine lv_bipush (v := 29) hx hb dX6_behind_59 (by decide) ?_
          refine lv_icmp_ne (tgt := 74) hx hb dX6_behind_61 (by decide) (fun h_21 => ?_) (fun h_21 => ?_)
          · refine lv_iload hx hb dX6_behind_74 (lv_at hl 0 rfl) ?_
            refine vp_callSi (va_Run.run (va_runS (As := [.int (f_X6_dayOf p0 ((fy_M p0 p1) + p2) (fm_M p0 p1) (fd_M p0 p1))]) (rest := []) ⟨hx, hb, hml, hown, hts⟩ (k_X6_isDay l (f_X6_dayOf p0 ((fy_M p0 p1) + p2) (fm_M p0 p1) (fd_M p0 p1))) (va_cwS 1 hts gX6_behind_X6_isDay rfl rfl rfl (by decide +kernel) ⟨Nat.le_of_ble_eq_true rfl, Nat.le_of_ble_eq_true rfl⟩) ⟨fun _ _ _ _ q => q, fun _ _ _ => ⟨rfl, trivial⟩⟩ rfl rfl hl.1 rfl (lv_room (Nat.le_of_ble_eq_true rfl)) dX6_behind_76 ⟨Nat.le_of_ble_eq_true rfl, Nat.le_of_ble_eq_true rfl⟩)) (fun r_22 er_22 => ?_)
            subst er_22
            refine lv_if_eq (tgt := 87) hx hb dX6_behind_79 (by decide) (fun h_23 => ?_) (fun h_23 => ?_)
            · refine lv_iconst (v := (-1)) hx hb dX6_behind_87 (by decide) ?_
              have hP9 := hP.sub (ws' := []) [] rfl
              have hD9 := hD.sub (ws' := []) [] (by decide) rfl
              exact W.iret (v := (-1)) hx hb hr (fun t ht hW => ⟨⟨_, (), rfl, by rw [f_X6_behind, if_neg h_7, if_pos h_12, if_neg h_15, if_pos h_18, if_neg h_21, if_pos h_23], by rw [ht]; exact hP9, hD9⟩, hS.F ht⟩) hS.2.2 dX6_behind_88
            · refine lv_iload hx hb dX6_behind_82 (lv_at hl 0 rfl) ?_
              refine lv_goto (tgt := 88) hx hb dX6_behind_84 (by decide) ?_
              have hP9 := hP.sub (ws' := []) [] rfl
              have hD9 := hD.sub (ws' := []) [] (by decide) rfl
              exact W.iret (v := f_X6_dayOf p0 ((fy_M p0 p1) + p2) (fm_M p0 p1) (fd_M p0 p1)) hx hb hr (fun t ht hW => ⟨⟨_, (), rfl, by rw [f_X6_behind, if_neg h_7, if_pos h_12, if_neg h_15, if_pos h_18, if_neg h_21, if_neg h_23], by rw [ht]; exact hP9, hD9⟩, hS.F ht⟩) hS.2.2 dX6_behind_88
          · refine lv_iload_n hx hb dX6_behind_64 rfl (lv_at hl 3 rfl) ?_
            refine lv_iload hx hb dX6_behind_65 (lv_at hl 1 rfl) ?_
            refine lv_iconst (v := 3) hx hb dX6_behind_67 (by decide) ?_
            refine lv_iconst (v := 1) hx hb dX6_behind_68 (by decide) ?_
            refine vp_callSi (va_Run.run (va_runS (As := [.int p0, .int ((fy_M p0 p1) + p2), .int 3, .int 1]) (rest := []) ⟨hx, hb, hml, hown, hts⟩ (k_X6_dayOf l p0 ((fy_M p0 p1) + p2) 3 1) (va_cwS 4 hts gX6_behind_X6_dayOf rfl rfl rfl (by decide +kernel) ⟨Nat.le_of_ble_eq_true rfl, Nat.le_of_ble_eq_true rfl⟩) ⟨fun _ _ _ _ q => q, fun _ _ _ => ⟨rfl, trivial⟩⟩ rfl rfl hl.1 rfl (lv_room (Nat.le_of_ble_eq_true rfl)) dX6_behind_69 ⟨Nat.le_of_ble_eq_true rfl, Nat.le_of_ble_eq_true rfl⟩)) (fun r_24 er_24 => ?_)
            subst er_24
            refine lv_istore (lv' := [(5, .int (f_X6_dayOf p0 ((fy_M p0 p1) + p2) 3 1)), (4, .int ((fy_M p0 p1) + p2)), (0, .ref h0), (1, .int p0), (2, .int p1), (3, .int p2)]) hx hb dX6_behind_72 hl (by decide) rfl (fun ls hl => ?_)
            refine lv_iload hx hb dX6_behind_74 (lv_at hl 0 rfl) ?_
            refine vp_callSi (va_Run.run (va_runS (As := [.int (f_X6_dayOf p0 ((fy_M p0 p1) + p2) 3 1)]) (rest := []) ⟨hx, hb, hml, hown, hts⟩ (k_X6_isDay l (f_X6_dayOf p0 ((fy_M p0 p1) + p2) 3 1)) (va_cwS 1 hts gX6_behind_X6_isDay rfl rfl rfl (by decide +kernel) ⟨Nat.le_of_ble_eq_true rfl, Nat.le_of_ble_eq_true rfl⟩) ⟨fun _ _ _ _ q => q, fun _ _ _ => ⟨rfl, trivial⟩⟩ rfl rfl hl.1 rfl (lv_room (Nat.le_of_ble_eq_true rfl)) dX6_behind_76 ⟨Nat.le_of_ble_eq_true rfl, Nat.le_of_ble_eq_true rfl⟩)) (fun r_25 er_25 => ?_)
            subst er_25
            refine lv_if_eq (tgt := 87) hx hb dX6_behind_79 (by decide) (fun h_26 => ?_) (fun h_26 => ?_)
            · refine lv_iconst (v := (-1)) hx hb dX6_behind_87 (by decide) ?_
              have hP9 := hP.sub (ws' := []) [] rfl
              have hD9 := hD.sub (ws' := []) [] (by decide) rfl
              exact W.iret (v := (-1)) hx hb hr (fun t ht hW => ⟨⟨_, (), rfl, by rw [f_X6_behind, if_neg h_7, if_pos h_12, if_neg h_15, if_pos h_18, if_pos h_21, if_pos h_26], by rw [ht]; exact hP9, hD9⟩, hS.F ht⟩) hS.2.2 dX6_behind_88
            · refine lv_iload hx hb dX6_behind_82 (lv_at hl 0 rfl) ?_
              refine lv_goto (tgt := 88) hx hb dX6_behind_84 (by decide) ?_
              have hP9 := hP.sub (ws' := []) [] rfl
              have hD9 := hD.sub (ws' := []) [] (by decide) rfl
              exact W.iret (v := f_X6_dayOf p0 ((fy_M p0 p1) + p2) 3 1) hx hb hr (fun t ht hW => ⟨⟨_, (), rfl, by rw [f_X6_behind, if_neg h_7, if_pos h_12, if_neg h_15, if_pos h_18, if_pos h_21, if_neg h_26], by rw [ht]; exact hP9, hD9⟩, hS.F ht⟩) hS.2.2 dX6_behind_88
  · refine lv_iconst (v := (-1)) hx hb dX6_behind_9 (by decide) ?_
    have hP9 := hP.sub (ws' := []) [] rfl
    have hD9 := hD.sub (ws' := []) [] (by decide) rfl
    exact W.iret (v := (-1)) hx hb hr (fun t ht hW => ⟨⟨_, (), rfl, by rw [f_X6_behind, if_pos h_7], by rw [ht]; exact hP9, hD9⟩, hS.F ht⟩) hS.2.2 dX6_behind_10

set_option maxHeartbeats 4000000 in
set_option maxRecDepth 100000 in
theorem k_X6_years (l : Launch) (dC : Nat → ClassId) (dI : Nat → Nat → Nat) (sz : Nat) (h0 : Nat) (a_kingCalendar : Nat) (a_kingFrom : Nat) (a_kingTo : Nat) (a_sayEvent : Nat) (a_sayWhat : Nat) (a_sayA : Nat) (a_sayB : Nat) (a_sayC : Nat) (a_sayWeight : Nat) (a_copyOf : Nat) (a_isTaken : Nat) (a_spanFrom : Nat) (a_spanTo : Nat) (a_spanMany : Nat) (a_eventFrom : Nat) (a_eventTo : Nat) (a_eventMany : Nat) (a_newFrom : Nat) (a_newTo : Nat) (a_low : Nat) (a_high : Nat) (a_took : Nat) (a_first : Nat) (a_last : Nat) (a_slipSets : Nat) (a_newSets : Nat) (a_roots : Nat) (a_ownFirst : Nat) (a_ownLast : Nat) (th : Int32) (fy : Int32) (fm : Int32) (fd : Int32) (as_ : Int32) (fe : Int32) (fdy : Int32) (lk : Int32) (isp : Int32) (hw_ : Int32) (smy : Int32) (p0 : Int32) (p1 : Int32) (p2 : Int32)  : Met l yX6_years wsX6_years ({ frames := 4, cells := 0, slots := 0, locals := 93 }) (va_Pc [.ref h0, .int p0, .int p1, .int p2] (wPre dC dI sz [(h0, .inr (5, [.int th, .int fy, .int fm, .int fd, .ref a_kingCalendar, .ref a_kingFrom, .ref a_kingTo, .int 0, .int 0, .ref a_sayEvent, .ref a_sayWhat, .ref a_sayA, .ref a_sayB, .ref a_sayC, .ref a_sayWeight, .ref a_copyOf, .ref a_isTaken, .int 0, .ref a_spanFrom, .ref a_spanTo, .ref a_spanMany, .int as_, .int fe, .int fdy, .ref a_eventFrom, .ref a_eventTo, .ref a_eventMany, .int lk, .int isp, .ref a_newFrom, .ref a_newTo, .ref a_low, .ref a_high, .ref a_took, .ref a_first, .ref a_last, .int hw_, .ref a_slipSets, .int smy, .ref a_newSets, .ref a_roots, .ref a_ownFirst, .ref a_ownLast]))] [])) (va_Qi (fun (r : Int32) (u : Unit) => r = f_X6_years p0 p1 p2) (fun (u : Unit) t => wPost dC dI (va_A [(h0, .inr (5, [.int th, .int fy, .int fm, .int fd, .ref a_kingCalendar, .ref a_kingFrom, .ref a_kingTo, .int 0, .int 0, .ref a_sayEvent, .ref a_sayWhat, .ref a_sayA, .ref a_sayB, .ref a_sayC, .ref a_sayWeight, .ref a_copyOf, .ref a_isTaken, .int 0, .ref a_spanFrom, .ref a_spanTo, .ref a_spanMany, .int as_, .int fe, .int fdy, .ref a_eventFrom, .ref a_eventTo, .ref a_eventMany, .int lk, .int isp, .ref a_newFrom, .ref a_newTo, .ref a_low, .ref a_high, .ref a_took, .ref a_first, .ref a_last, .int hw_, .ref a_slipSets, .int smy, .ref a_newSets, .ref a_roots, .ref a_ownFirst, .ref a_ownLast]))] sz) [] t) (va_A [(h0, .inr (5, [.int th, .int fy, .int fm, .int fd, .ref a_kingCalendar, .ref a_kingFrom, .ref a_kingTo, .int 0, .int 0, .ref a_sayEvent, .ref a_sayWhat, .ref a_sayA, .ref a_sayB, .ref a_sayC, .ref a_sayWeight, .ref a_copyOf, .ref a_isTaken, .int 0, .ref a_spanFrom, .ref a_spanTo, .ref a_spanMany, .int as_, .int fe, .int fdy, .ref a_eventFrom, .ref a_eventTo, .ref a_eventMany, .int lk, .int isp, .ref a_newFrom, .ref a_newTo, .ref a_low, .ref a_high, .ref a_took, .ref a_first, .ref a_last, .int hw_, .ref a_slipSets, .int smy, .ref a_newSets, .ref a_roots, .ref a_ownFirst, .ref a_ownLast]))] sz)) 0 0 (va_A [(h0, .inr (5, [.int th, .int fy, .int fm, .int fd, .ref a_kingCalendar, .ref a_kingFrom, .ref a_kingTo, .int 0, .int 0, .ref a_sayEvent, .ref a_sayWhat, .ref a_sayA, .ref a_sayB, .ref a_sayC, .ref a_sayWeight, .ref a_copyOf, .ref a_isTaken, .int 0, .ref a_spanFrom, .ref a_spanTo, .ref a_spanMany, .int as_, .int fe, .int fdy, .ref a_eventFrom, .ref a_eventTo, .ref a_eventMany, .int lk, .int isp, .ref a_newFrom, .ref a_newTo, .ref a_low, .ref a_high, .ref a_took, .ref a_first, .ref a_last, .int hw_, .ref a_slipSets, .int smy, .ref a_newSets, .ref a_roots, .ref a_ownFirst, .ref a_ownLast]))] sz) := by
  refine Met.ofW (cc := cX6_years) (maxL := 4) (ret := (some .int)) (by decide) rfl ?_
  intro p e s m args below meth c s₁ B hml hv
  obtain ⟨rfl, hsz, hP, hK, hD0⟩ := hv
  have hx := B.exec
  have hb := B.bytes
  have hr := B.returns
  have hts := atoms_spec (ws := wsX6_years) B.pre
  have hown : s.vm.findClass RX6 = some m.cls := findClass_of_methodNamed B.named
  have hlocks := B.notSynchronized
  subst hsz
  have hD := hD0.self (sz := s.heap.size)
  generalize hAe : va_A [(h0, .inr (5, [.int th, .int fy, .int fm, .int fd, .ref a_kingCalendar, .ref a_kingFrom, .ref a_kingTo, .int 0, .int 0, .ref a_sayEvent, .ref a_sayWhat, .ref a_sayA, .ref a_sayB, .ref a_sayC, .ref a_sayWeight, .ref a_copyOf, .ref a_isTaken, .int 0, .ref a_spanFrom, .ref a_spanTo, .ref a_spanMany, .int as_, .int fe, .int fdy, .ref a_eventFrom, .ref a_eventTo, .ref a_eventMany, .int lk, .int isp, .ref a_newFrom, .ref a_newTo, .ref a_low, .ref a_high, .ref a_took, .ref a_first, .ref a_last, .int hw_, .ref a_slipSets, .int smy, .ref a_newSets, .ref a_roots, .ref a_ownFirst, .ref a_ownLast]))] s.heap.size = A at hD ⊢
  have hA : ∀ q : Nat, s.heap.size ≤ q → A q := fun q h => by rw [← hAe]; exact Or.inr h
  have hS : va_S A s.heap s.heap [] := va_S.rf
  have hP : va_P (dC, dI) vwCl [(h0, .inr (5, [.int th, .int fy, .int fm, .int fd, .ref a_kingCalendar, .ref a_kingFrom, .ref a_kingTo, .int 0, .int 0, .ref a_sayEvent, .ref a_sayWhat, .ref a_sayA, .ref a_sayB, .ref a_sayC, .ref a_sayWeight, .ref a_copyOf, .ref a_isTaken, .int 0, .ref a_spanFrom, .ref a_spanTo, .ref a_spanMany, .int as_, .int fe, .int fdy, .ref a_eventFrom, .ref a_eventTo, .ref a_eventMany, .int lk, .int isp, .ref a_newFrom, .ref a_newTo, .ref a_low, .ref a_high, .ref a_took, .ref a_first, .ref a_last, .int hw_, .ref a_slipSets, .int smy, .ref a_newSets, .ref a_roots, .ref a_ownFirst, .ref a_ownLast]))] s.heap := hP
  have hl := lv_entry ([.ref h0, .int p0, .int p1, .int p2]) (n := 4) (Nat.le_of_ble_eq_true rfl)
  rw [lg_entry_eq]
  generalize (lg_sl ([.ref h0, .int p0, .int p1, .int p2]) ++ List.replicate (4 - (lg_sl ([.ref h0, .int p0, .int p1, .int p2])).length) Slot.unset).toArray = ls at hl ⊢
  have hl : lv_has ls 4 [(0, .ref h0), (1, .int p0), (2, .int p1), (3, .int p2)] := hl
  refine lv_aload_n hx hb dX6_years_0 rfl (lv_at hl 0 rfl) ?_
  refine lv_iconst (v := 0) hx hb dX6_years_1 (by decide) ?_
  refine va_put (D := (dC, dI)) (ci := 5) (v := .int 0) (ty := .int) (C := RX6) (T := TX6) (N := 43) hx hb hts (by decide +kernel) tyX6 tyX6_ok nmX6 hown hK hP hD hS 0 rfl rfl 0 (by decide) (hts (.fieldLink RX6 98 "DayBenchModel" "thrown" "I") (by decide +kernel)) (fun _ h9 => h9) rfl (by decide +kernel) rfl rfl (Nat.le_of_ble_eq_true rfl) dX6_years_2 (fun H locs hP hD hS => ?_)
  have hP : va_P (dC, dI) vwCl [(h0, .inr (5, [.int 0, .int fy, .int fm, .int fd, .ref a_kingCalendar, .ref a_kingFrom, .ref a_kingTo, .int 0, .int 0, .ref a_sayEvent, .ref a_sayWhat, .ref a_sayA, .ref a_sayB, .ref a_sayC, .ref a_sayWeight, .ref a_copyOf, .ref a_isTaken, .int 0, .ref a_spanFrom, .ref a_spanTo, .ref a_spanMany, .int as_, .int fe, .int fdy, .ref a_eventFrom, .ref a_eventTo, .ref a_eventMany, .int lk, .int isp, .ref a_newFrom, .ref a_newTo, .ref a_low, .ref a_high, .ref a_took, .ref a_first, .ref a_last, .int hw_, .ref a_slipSets, .int smy, .ref a_newSets, .ref a_roots, .ref a_ownFirst, .ref a_ownLast]))] H := hP
  have hD : va_D A [(h0, .inr (5, [.int 0, .int fy, .int fm, .int fd, .ref a_kingCalendar, .ref a_kingFrom, .ref a_kingTo, .int 0, .int 0, .ref a_sayEvent, .ref a_sayWhat, .ref a_sayA, .ref a_sayB, .ref a_sayC, .ref a_sayWeight, .ref a_copyOf, .ref a_isTaken, .int 0, .ref a_spanFrom, .ref a_spanTo, .ref a_spanMany, .int as_, .int fe, .int fdy, .ref a_eventFrom, .ref a_eventTo, .ref a_eventMany, .int lk, .int isp, .ref a_newFrom, .ref a_newTo, .ref a_low, .ref a_high, .ref a_took, .ref a_first, .ref a_last, .int hw_, .ref a_slipSets, .int smy, .ref a_newSets, .ref a_roots, .ref a_ownFirst, .ref a_ownLast]))] := hD
  refine lv_iload_n hx hb dX6_years_5 rfl (lv_at hl 3 rfl) ?_
  refine lv_if_lt (tgt := 15) hx hb dX6_years_6 (by decide) (fun h_1 => ?_) (fun h_1 => ?_)
  · refine lv_iconst (v := (-1)) hx hb dX6_years_15 (by decide) ?_
    refine lv_goto (tgt := 26) hx hb dX6_years_16 (by decide) ?_
    have hP9 := hP.sub (ws' := []) [] rfl
    have hD9 := hD.sub (ws' := []) [] (by decide) rfl
    exact W.iret (v := (-1)) hx hb hr (fun t ht hW => ⟨⟨_, (), rfl, by rw [f_X6_years, if_pos h_1], by rw [ht]; exact hP9, hD9⟩, hS.F ht⟩) hS.2.2 dX6_years_26
  · refine lv_iload_n hx hb dX6_years_9 rfl (lv_at hl 3 rfl) ?_
    refine lv_bipush (v := 100) hx hb dX6_years_10 (by decide) ?_
    refine lv_icmp_le (tgt := 19) hx hb dX6_years_12 (by decide) (fun h_2 => ?_) (fun h_2 => ?_)
    · refine lv_aload_n hx hb dX6_years_19 rfl (lv_at hl 0 rfl) ?_
      refine lv_iload_n hx hb dX6_years_20 rfl (lv_at hl 1 rfl) ?_
      refine lv_iload_n hx hb dX6_years_21 rfl (lv_at hl 2 rfl) ?_
      refine lv_iload_n hx hb dX6_years_22 rfl (lv_at hl 3 rfl) ?_
      have hPc := hP.sub (ws' := [(h0, .inr (5, [.int 0, .int fy, .int fm, .int fd, .ref a_kingCalendar, .ref a_kingFrom, .ref a_kingTo, .int 0, .int 0, .ref a_sayEvent, .ref a_sayWhat, .ref a_sayA, .ref a_sayB, .ref a_sayC, .ref a_sayWeight, .ref a_copyOf, .ref a_isTaken, .int 0, .ref a_spanFrom, .ref a_spanTo, .ref a_spanMany, .int as_, .int fe, .int fdy, .ref a_eventFrom, .ref a_eventTo, .ref a_eventMany, .int lk, .int isp, .ref a_newFrom, .ref a_newTo, .ref a_low, .ref a_high, .ref a_took, .ref a_first, .ref a_last, .int hw_, .ref a_slipSets, .int smy, .ref a_newSets, .ref a_roots, .ref a_ownFirst, .ref a_ownLast]))]) [0] rfl
      have hKc := hK.sub (tys' := []) [] rfl
      have hDc := hD.sub (ws' := [(h0, .inr (5, [.int 0, .int fy, .int fm, .int fd, .ref a_kingCalendar, .ref a_kingFrom, .ref a_kingTo, .int 0, .int 0, .ref a_sayEvent, .ref a_sayWhat, .ref a_sayA, .ref a_sayB, .ref a_sayC, .ref a_sayWeight, .ref a_copyOf, .ref a_isTaken, .int 0, .ref a_spanFrom, .ref a_spanTo, .ref a_spanMany, .int as_, .int fe, .int fdy, .ref a_eventFrom, .ref a_eventTo, .ref a_eventMany, .int lk, .int isp, .ref a_newFrom, .ref a_newTo, .ref a_low, .ref a_high, .ref a_took, .ref a_first, .ref a_last, .int hw_, .ref a_slipSets, .int smy, .ref a_newSets, .ref a_roots, .ref a_ownFirst, .ref a_ownLast]))]) [0] (by decide) rfl
      have hFc := va_free (wc := [(h0, .inr (5, [.int 0, .int fy, .int fm, .int fd, .ref a_kingCalendar, .ref a_kingFrom, .ref a_kingTo, .int 0, .int 0, .ref a_sayEvent, .ref a_sayWhat, .ref a_sayA, .ref a_sayB, .ref a_sayC, .ref a_sayWeight, .ref a_copyOf, .ref a_isTaken, .int 0, .ref a_spanFrom, .ref a_spanTo, .ref a_spanMany, .int as_, .int fe, .int fdy, .ref a_eventFrom, .ref a_eventTo, .ref a_eventMany, .int lk, .int isp, .ref a_newFrom, .ref a_newTo, .ref a_low, .ref a_high, .ref a_took, .ref a_first, .ref a_last, .int hw_, .ref a_slipSets, .int smy, .ref a_newSets, .ref a_roots, .ref a_ownFirst, .ref a_ownLast]))]) hD hS hA [0] rfl
      refine va_calli (va_runV (As := [.int p0, .int p1, .int p2]) (rest := []) ⟨hx, hb, hml, hown, hts⟩ (k_X6_behind l dC dI H.size h0 a_kingCalendar a_kingFrom a_kingTo a_sayEvent a_sayWhat a_sayA a_sayB a_sayC a_sayWeight a_copyOf a_isTaken a_spanFrom a_spanTo a_spanMany a_eventFrom a_eventTo a_eventMany a_newFrom a_newTo a_low a_high a_took a_first a_last a_slipSets a_newSets a_roots a_ownFirst a_ownLast 0 fy fm fd as_ fe fdy lk isp hw_ smy p0 p1 p2) (cwV 3 hts gX6_years_X6_behind rfl rfl rfl (by decide +kernel) ⟨Nat.le_of_ble_eq_true rfl, Nat.le_of_ble_eq_true rfl⟩) ⟨wPre_blind, va_recv hKc hPc (ci := 5) (q0 := 0) rfl rfl, fun U hU hW => ⟨rfl, wPre_at hPc hKc hDc hU hW⟩⟩ rfl rfl hl.1 rfl (lv_room (Nat.le_of_ble_eq_true rfl)) dX6_years_23 ⟨Nat.le_of_ble_eq_true rfl, Nat.le_of_ble_eq_true rfl⟩) hS (fun q _ h => hFc q h) hFc (fun r_3 u t H1 locs ht hvm hw hB hz1 hk1 hS => ?_)
      obtain ⟨hP1, hD1⟩ := hB
      rw [ht] at hP1
      obtain ⟨hP, hD⟩ := va_join (wr := []) (w1 := []) hP hD [0] [] rfl rfl (by decide) (by decide) hk1 hFc hP1 hD1
      clear hP1 hD1 hz1 hk1 hFc hPc hDc ht
      generalize H1 = H at hP hS ⊢
      have hP : va_P (dC, dI) vwCl [] H := hP
      have hD : va_D A [] := hD
      subst hw
      have hP9 := hP.sub (ws' := []) [] rfl
      have hD9 := hD.sub (ws' := []) [] (by decide) rfl
      exact W.iret (v := f_X6_behind p0 p1 p2) hx hb hr (fun t ht hW => ⟨⟨_, (), rfl, by rw [f_X6_years, if_neg h_1, if_pos h_2], by rw [ht]; exact hP9, hD9⟩, hS.F ht⟩) hS.2.2 dX6_years_26
    · refine lv_iconst (v := (-1)) hx hb dX6_years_15 (by decide) ?_
      refine lv_goto (tgt := 26) hx hb dX6_years_16 (by decide) ?_
      have hP9 := hP.sub (ws' := []) [] rfl
      have hD9 := hD.sub (ws' := []) [] (by decide) rfl
      exact W.iret (v := (-1)) hx hb hr (fun t ht hW => ⟨⟨_, (), rfl, by rw [f_X6_years, if_neg h_1, if_neg h_2], by rw [ht]; exact hP9, hD9⟩, hS.F ht⟩) hS.2.2 dX6_years_26

set_option maxHeartbeats 4000000 in
set_option maxRecDepth 100000 in
theorem k_X6_king (l : Launch) (dC : Nat → ClassId) (dI : Nat → Nat → Nat) (sz : Nat) (h0 : Nat) (a_kingCalendar : Nat) (a_kingFrom : Nat) (a_kingTo : Nat) (a_sayEvent : Nat) (a_sayWhat : Nat) (a_sayA : Nat) (a_sayB : Nat) (a_sayC : Nat) (a_sayWeight : Nat) (a_copyOf : Nat) (a_isTaken : Nat) (a_spanFrom : Nat) (a_spanTo : Nat) (a_spanMany : Nat) (a_eventFrom : Nat) (a_eventTo : Nat) (a_eventMany : Nat) (a_newFrom : Nat) (a_newTo : Nat) (a_low : Nat) (a_high : Nat) (a_took : Nat) (a_first : Nat) (a_last : Nat) (a_slipSets : Nat) (a_newSets : Nat) (a_roots : Nat) (a_ownFirst : Nat) (a_ownLast : Nat) (th : Int32) (fy : Int32) (fm : Int32) (fd : Int32) (as_ : Int32) (fe : Int32) (fdy : Int32) (lk : Int32) (isp : Int32) (hw_ : Int32) (smy : Int32) (cI : ClassId) (f1 : Nat → Int32) (f2 : Nat → Int32) (f3 : Nat → Int32) (p0 : Int32) (p1 : Int32) (p2 : Int32)  : Met l yX6_king wsX6_king ({ frames := 1, cells := 0, slots := 0, locals := 20 }) (va_Pc [.ref h0, .int p0, .int p1, .int p2] (wPre dC dI sz [(h0, .inr (5, [.int th, .int fy, .int fm, .int fd, .ref a_kingCalendar, .ref a_kingFrom, .ref a_kingTo, .int 0, .int 0, .ref a_sayEvent, .ref a_sayWhat, .ref a_sayA, .ref a_sayB, .ref a_sayC, .ref a_sayWeight, .ref a_copyOf, .ref a_isTaken, .int 0, .ref a_spanFrom, .ref a_spanTo, .ref a_spanMany, .int as_, .int fe, .int fdy, .ref a_eventFrom, .ref a_eventTo, .ref a_eventMany, .int lk, .int isp, .ref a_newFrom, .ref a_newTo, .ref a_low, .ref a_high, .ref a_took, .ref a_first, .ref a_last, .int hw_, .ref a_slipSets, .int smy, .ref a_newSets, .ref a_roots, .ref a_ownFirst, .ref a_ownLast])), (a_kingCalendar, .inl (cI, 6, .inl f1)), (a_kingFrom, .inl (cI, 6, .inl f2)), (a_kingTo, .inl (cI, 6, .inl f3))] [(cI, .int)])) (va_Qi (fun (r : Int32) (u : Unit) => r = f_X6_king p0 p1 p2) (fun (u : Unit) t => wPost dC dI (va_A [(h0, .inr (5, [.int th, .int fy, .int fm, .int fd, .ref a_kingCalendar, .ref a_kingFrom, .ref a_kingTo, .int 0, .int 0, .ref a_sayEvent, .ref a_sayWhat, .ref a_sayA, .ref a_sayB, .ref a_sayC, .ref a_sayWeight, .ref a_copyOf, .ref a_isTaken, .int 0, .ref a_spanFrom, .ref a_spanTo, .ref a_spanMany, .int as_, .int fe, .int fdy, .ref a_eventFrom, .ref a_eventTo, .ref a_eventMany, .int lk, .int isp, .ref a_newFrom, .ref a_newTo, .ref a_low, .ref a_high, .ref a_took, .ref a_first, .ref a_last, .int hw_, .ref a_slipSets, .int smy, .ref a_newSets, .ref a_roots, .ref a_ownFirst, .ref a_ownLast])), (a_kingCalendar, .inl (cI, 6, .inl f1)), (a_kingFrom, .inl (cI, 6, .inl f2)), (a_kingTo, .inl (cI, 6, .inl f3))] sz) [] t) (va_A [(h0, .inr (5, [.int th, .int fy, .int fm, .int fd, .ref a_kingCalendar, .ref a_kingFrom, .ref a_kingTo, .int 0, .int 0, .ref a_sayEvent, .ref a_sayWhat, .ref a_sayA, .ref a_sayB, .ref a_sayC, .ref a_sayWeight, .ref a_copyOf, .ref a_isTaken, .int 0, .ref a_spanFrom, .ref a_spanTo, .ref a_spanMany, .int as_, .int fe, .int fdy, .ref a_eventFrom, .ref a_eventTo, .ref a_eventMany, .int lk, .int isp, .ref a_newFrom, .ref a_newTo, .ref a_low, .ref a_high, .ref a_took, .ref a_first, .ref a_last, .int hw_, .ref a_slipSets, .int smy, .ref a_newSets, .ref a_roots, .ref a_ownFirst, .ref a_ownLast])), (a_kingCalendar, .inl (cI, 6, .inl f1)), (a_kingFrom, .inl (cI, 6, .inl f2)), (a_kingTo, .inl (cI, 6, .inl f3))] sz)) 0 0 (va_A [(h0, .inr (5, [.int th, .int fy, .int fm, .int fd, .ref a_kingCalendar, .ref a_kingFrom, .ref a_kingTo, .int 0, .int 0, .ref a_sayEvent, .ref a_sayWhat, .ref a_sayA, .ref a_sayB, .ref a_sayC, .ref a_sayWeight, .ref a_copyOf, .ref a_isTaken, .int 0, .ref a_spanFrom, .ref a_spanTo, .ref a_spanMany, .int as_, .int fe, .int fdy, .ref a_eventFrom, .ref a_eventTo, .ref a_eventMany, .int lk, .int isp, .ref a_newFrom, .ref a_newTo, .ref a_low, .ref a_high, .ref a_took, .ref a_first, .ref a_last, .int hw_, .ref a_slipSets, .int smy, .ref a_newSets, .ref a_roots, .ref a_ownFirst, .ref a_ownLast])), (a_kingCalendar, .inl (cI, 6, .inl f1)), (a_kingFrom, .inl (cI, 6, .inl f2)), (a_kingTo, .inl (cI, 6, .inl f3))] sz) := by
  refine Met.ofW (cc := cX6_king) (maxL := 4) (ret := (some .int)) (by decide) rfl ?_
  intro p e s m args below meth c s₁ B hml hv
  obtain ⟨rfl, hsz, hP, hK, hD0⟩ := hv
  have hx := B.exec
  have hb := B.bytes
  have hr := B.returns
  have hts := atoms_spec (ws := wsX6_king) B.pre
  have hown : s.vm.findClass RX6 = some m.cls := findClass_of_methodNamed B.named
  have hlocks := B.notSynchronized
  subst hsz
  have hD := hD0.self (sz := s.heap.size)
  generalize hAe : va_A [(h0, .inr (5, [.int th, .int fy, .int fm, .int fd, .ref a_kingCalendar, .ref a_kingFrom, .ref a_kingTo, .int 0, .int 0, .ref a_sayEvent, .ref a_sayWhat, .ref a_sayA, .ref a_sayB, .ref a_sayC, .ref a_sayWeight, .ref a_copyOf, .ref a_isTaken, .int 0, .ref a_spanFrom, .ref a_spanTo, .ref a_spanMany, .int as_, .int fe, .int fdy, .ref a_eventFrom, .ref a_eventTo, .ref a_eventMany, .int lk, .int isp, .ref a_newFrom, .ref a_newTo, .ref a_low, .ref a_high, .ref a_took, .ref a_first, .ref a_last, .int hw_, .ref a_slipSets, .int smy, .ref a_newSets, .ref a_roots, .ref a_ownFirst, .ref a_ownLast])), (a_kingCalendar, .inl (cI, 6, .inl f1)), (a_kingFrom, .inl (cI, 6, .inl f2)), (a_kingTo, .inl (cI, 6, .inl f3))] s.heap.size = A at hD ⊢
  have hA : ∀ q : Nat, s.heap.size ≤ q → A q := fun q h => by rw [← hAe]; exact Or.inr h
  have hS : va_S A s.heap s.heap [] := va_S.rf
  have hP : va_P (dC, dI) vwCl [(h0, .inr (5, [.int th, .int fy, .int fm, .int fd, .ref a_kingCalendar, .ref a_kingFrom, .ref a_kingTo, .int 0, .int 0, .ref a_sayEvent, .ref a_sayWhat, .ref a_sayA, .ref a_sayB, .ref a_sayC, .ref a_sayWeight, .ref a_copyOf, .ref a_isTaken, .int 0, .ref a_spanFrom, .ref a_spanTo, .ref a_spanMany, .int as_, .int fe, .int fdy, .ref a_eventFrom, .ref a_eventTo, .ref a_eventMany, .int lk, .int isp, .ref a_newFrom, .ref a_newTo, .ref a_low, .ref a_high, .ref a_took, .ref a_first, .ref a_last, .int hw_, .ref a_slipSets, .int smy, .ref a_newSets, .ref a_roots, .ref a_ownFirst, .ref a_ownLast])), (a_kingCalendar, .inl (cI, 6, .inl f1)), (a_kingFrom, .inl (cI, 6, .inl f2)), (a_kingTo, .inl (cI, 6, .inl f3))] s.heap := hP
  have hl := lv_entry ([.ref h0, .int p0, .int p1, .int p2]) (n := 4) (Nat.le_of_ble_eq_true rfl)
  rw [lg_entry_eq]
  generalize (lg_sl ([.ref h0, .int p0, .int p1, .int p2]) ++ List.replicate (4 - (lg_sl ([.ref h0, .int p0, .int p1, .int p2])).length) Slot.unset).toArray = ls at hl ⊢
  have hl : lv_has ls 4 [(0, .ref h0), (1, .int p0), (2, .int p1), (3, .int p2)] := hl
  refine lv_aload_n hx hb dX6_king_0 rfl (lv_at hl 0 rfl) ?_
  refine lv_iconst (v := 0) hx hb dX6_king_1 (by decide) ?_
  refine va_put (D := (dC, dI)) (ci := 5) (v := .int 0) (ty := .int) (C := RX6) (T := TX6) (N := 43) hx hb hts (by decide +kernel) tyX6 tyX6_ok nmX6 hown hK hP hD hS 0 rfl rfl 0 (by decide) (hts (.fieldLink RX6 98 "DayBenchModel" "thrown" "I") (by decide +kernel)) (fun _ h9 => h9) rfl (by decide +kernel) rfl rfl (Nat.le_of_ble_eq_true rfl) dX6_king_2 (fun H locs hP hD hS => ?_)
  have hP : va_P (dC, dI) vwCl [(h0, .inr (5, [.int 0, .int fy, .int fm, .int fd, .ref a_kingCalendar, .ref a_kingFrom, .ref a_kingTo, .int 0, .int 0, .ref a_sayEvent, .ref a_sayWhat, .ref a_sayA, .ref a_sayB, .ref a_sayC, .ref a_sayWeight, .ref a_copyOf, .ref a_isTaken, .int 0, .ref a_spanFrom, .ref a_spanTo, .ref a_spanMany, .int as_, .int fe, .int fdy, .ref a_eventFrom, .ref a_eventTo, .ref a_eventMany, .int lk, .int isp, .ref a_newFrom, .ref a_newTo, .ref a_low, .ref a_high, .ref a_took, .ref a_first, .ref a_last, .int hw_, .ref a_slipSets, .int smy, .ref a_newSets, .ref a_roots, .ref a_ownFirst, .ref a_ownLast])), (a_kingCalendar, .inl (cI, 6, .inl f1)), (a_kingFrom, .inl (cI, 6, .inl f2)), (a_kingTo, .inl (cI, 6, .inl f3))] H := hP
  have hD : va_D A [(h0, .inr (5, [.int 0, .int fy, .int fm, .int fd, .ref a_kingCalendar, .ref a_kingFrom, .ref a_kingTo, .int 0, .int 0, .ref a_sayEvent, .ref a_sayWhat, .ref a_sayA, .ref a_sayB, .ref a_sayC, .ref a_sayWeight, .ref a_copyOf, .ref a_isTaken, .int 0, .ref a_spanFrom, .ref a_spanTo, .ref a_spanMany, .int as_, .int fe, .int fdy, .ref a_eventFrom, .ref a_eventTo, .ref a_eventMany, .int lk, .int isp, .ref a_newFrom, .ref a_newTo, .ref a_low, .ref a_high, .ref a_took, .ref a_first, .ref a_last, .int hw_, .ref a_slipSets, .int smy, .ref a_newSets, .ref a_roots, .ref a_ownFirst, .ref a_ownLast])), (a_kingCalendar, .inl (cI, 6, .inl f1)), (a_kingFrom, .inl (cI, 6, .inl f2)), (a_kingTo, .inl (cI, 6, .inl f3))] := hD
  refine lv_iload_n hx hb dX6_king_5 rfl (lv_at hl 1 rfl) ?_
  refine lv_if_lt (tgt := 42) hx hb dX6_king_6 (by decide) (fun h_1 => ?_) (fun h_1 => ?_)
  · refine lv_iconst (v := (-1)) hx hb dX6_king_42 (by decide) ?_
    have hP9 := hP.sub (ws' := []) [] rfl
    have hD9 := hD.sub (ws' := []) [] (by decide) rfl
    exact W.iret (v := (-1)) hx hb hr (fun t ht hW => ⟨⟨_, (), rfl, by rw [f_X6_king, if_pos h_1], by rw [ht]; exact hP9, hD9⟩, hS.F ht⟩) hS.2.2 dX6_king_43
  · refine lv_iload_n hx hb dX6_king_9 rfl (lv_at hl 1 rfl) ?_
    refine lv_iconst (v := 2) hx hb dX6_king_10 (by decide) ?_
    refine lv_icmp_gt (tgt := 42) hx hb dX6_king_11 (by decide) (fun h_2 => ?_) (fun h_2 => ?_)
    · refine lv_iconst (v := (-1)) hx hb dX6_king_42 (by decide) ?_
      have hP9 := hP.sub (ws' := []) [] rfl
      have hD9 := hD.sub (ws' := []) [] (by decide) rfl
      exact W.iret (v := (-1)) hx hb hr (fun t ht hW => ⟨⟨_, (), rfl, by rw [f_X6_king, if_neg h_1, if_pos h_2], by rw [ht]; exact hP9, hD9⟩, hS.F ht⟩) hS.2.2 dX6_king_43
    · refine lv_iload_n hx hb dX6_king_14 rfl (lv_at hl 2 rfl) ?_
      refine vp_callSi (va_Run.run (va_runS (As := [.int p1]) (rest := []) ⟨hx, hb, hml, hown, hts⟩ (k_X6_isDay l p1) (va_cwS 1 hts gX6_king_X6_isDay rfl rfl rfl (by decide +kernel) ⟨Nat.le_of_ble_eq_true rfl, Nat.le_of_ble_eq_true rfl⟩) ⟨fun _ _ _ _ q => q, fun _ _ _ => ⟨rfl, trivial⟩⟩ rfl rfl hl.1 rfl (lv_room (Nat.le_of_ble_eq_true rfl)) dX6_king_15 ⟨Nat.le_of_ble_eq_true rfl, Nat.le_of_ble_eq_true rfl⟩)) (fun r_3 er_3 => ?_)
      subst er_3
      refine lv_if_eq (tgt := 42) hx hb dX6_king_18 (by decide) (fun h_4 => ?_) (fun h_4 => ?_)
      · refine lv_iconst (v := (-1)) hx hb dX6_king_42 (by decide) ?_
        have hP9 := hP.sub (ws' := []) [] rfl
        have hD9 := hD.sub (ws' := []) [] (by decide) rfl
        exact W.iret (v := (-1)) hx hb hr (fun t ht hW => ⟨⟨_, (), rfl, by rw [f_X6_king, if_neg h_1, if_neg h_2, if_pos h_4], by rw [ht]; exact hP9, hD9⟩, hS.F ht⟩) hS.2.2 dX6_king_43
      · refine lv_iload_n hx hb dX6_king_21 rfl (lv_at hl 3 rfl) ?_
        refine vp_callSi (va_Run.run (va_runS (As := [.int p2]) (rest := []) ⟨hx, hb, hml, hown, hts⟩ (k_X6_isDay l p2) (va_cwS 1 hts gX6_king_X6_isDay rfl rfl rfl (by decide +kernel) ⟨Nat.le_of_ble_eq_true rfl, Nat.le_of_ble_eq_true rfl⟩) ⟨fun _ _ _ _ q => q, fun _ _ _ => ⟨rfl, trivial⟩⟩ rfl rfl hl.1 rfl (lv_room (Nat.le_of_ble_eq_true rfl)) dX6_king_22 ⟨Nat.le_of_ble_eq_true rfl, Nat.le_of_ble_eq_true rfl⟩)) (fun r_5 er_5 => ?_)
        subst er_5
        refine lv_if_eq (tgt := 42) hx hb dX6_king_25 (by decide) (fun h_6 => ?_) (fun h_6 => ?_)
        · refine lv_iconst (v := (-1)) hx hb dX6_king_42 (by decide) ?_
          have hP9 := hP.sub (ws' := []) [] rfl
          have hD9 := hD.sub (ws' := []) [] (by decide) rfl
          exact W.iret (v := (-1)) hx hb hr (fun t ht hW => ⟨⟨_, (), rfl, by rw [f_X6_king, if_neg h_1, if_neg h_2, if_neg h_4, if_pos h_6], by rw [ht]; exact hP9, hD9⟩, hS.F ht⟩) hS.2.2 dX6_king_43
        · refine lv_iload_n hx hb dX6_king_28 rfl (lv_at hl 2 rfl) ?_
          refine lv_iload_n hx hb dX6_king_29 rfl (lv_at hl 3 rfl) ?_
          refine lv_icmp_gt (tgt := 42) hx hb dX6_king_30 (by decide) (fun h_7 => ?_) (fun h_7 => ?_)
          · refine lv_iconst (v := (-1)) hx hb dX6_king_42 (by decide) ?_
            have hP9 := hP.sub (ws' := []) [] rfl
            have hD9 := hD.sub (ws' := []) [] (by decide) rfl
            exact W.iret (v := (-1)) hx hb hr (fun t ht hW => ⟨⟨_, (), rfl, by rw [f_X6_king, if_neg h_1, if_neg h_2, if_neg h_4, if_neg h_6, if_pos h_7], by rw [ht]; exact hP9, hD9⟩, hS.F ht⟩) hS.2.2 dX6_king_43
          · refine lv_aload_n hx hb dX6_king_33 rfl (lv_at hl 0 rfl) ?_
            refine va_get (D := (dC, dI)) (ci := 5) (v := .int 0) (C := RX6) (T := TX6) (N := 43) hx hb hts (by decide +kernel) hown hK hP 0 rfl rfl 7 (by decide) (hts (.fieldLink RX6 148 "DayBenchModel" "kings" "I") (by decide +kernel)) (fun _ h9 => h9) rfl dX6_king_34 ?_
            refine lv_bipush (v := 6) hx hb dX6_king_37 (by decide) ?_
            refine lv_icmp_ne (tgt := 44) hx hb dX6_king_39 (by decide) (fun h_8 => ?_) (fun h_8 => ?_)
            · refine lv_aload_n hx hb dX6_king_44 rfl (lv_at hl 0 rfl) ?_
              refine va_get (D := (dC, dI)) (ci := 5) (v := .ref a_kingCalendar) (C := RX6) (T := TX6) (N := 43) hx hb hts (by decide +kernel) hown hK hP 0 rfl rfl 4 (by decide) (hts (.fieldLink RX6 7 "DayBenchModel" "kingCalendar" "[I") (by decide +kernel)) (fun _ h9 => h9) rfl dX6_king_45 ?_
              refine lv_aload_n hx hb dX6_king_48 rfl (lv_at hl 0 rfl) ?_
              refine va_get (D := (dC, dI)) (ci := 5) (v := .int 0) (C := RX6) (T := TX6) (N := 43) hx hb hts (by decide +kernel) hown hK hP 0 rfl rfl 7 (by decide) (hts (.fieldLink RX6 148 "DayBenchModel" "kings" "I") (by decide +kernel)) (fun _ h9 => h9) rfl dX6_king_49 ?_
              refine lv_iload_n hx hb dX6_king_52 rfl (lv_at hl 1 rfl) ?_
              refine va_iast hx hb hK hP hD hS 1 0 rfl rfl (by unfold vp_in; decide) dX6_king_53 (fun H locs hP hD hS => ?_)
              have hP : va_P (dC, dI) vwCl [(h0, .inr (5, [.int 0, .int fy, .int fm, .int fd, .ref a_kingCalendar, .ref a_kingFrom, .ref a_kingTo, .int 0, .int 0, .ref a_sayEvent, .ref a_sayWhat, .ref a_sayA, .ref a_sayB, .ref a_sayC, .ref a_sayWeight, .ref a_copyOf, .ref a_isTaken, .int 0, .ref a_spanFrom, .ref a_spanTo, .ref a_spanMany, .int as_, .int fe, .int fdy, .ref a_eventFrom, .ref a_eventTo, .ref a_eventMany, .int lk, .int isp, .ref a_newFrom, .ref a_newTo, .ref a_low, .ref a_high, .ref a_took, .ref a_first, .ref a_last, .int hw_, .ref a_slipSets, .int smy, .ref a_newSets, .ref a_roots, .ref a_ownFirst, .ref a_ownLast])), (a_kingCalendar, .inl (cI, 6, .inl (upd f1 (0 : Int32).toNatClampNeg p0))), (a_kingFrom, .inl (cI, 6, .inl f2)), (a_kingTo, .inl (cI, 6, .inl f3))] H := hP
              have hD : va_D A [(h0, .inr (5, [.int 0, .int fy, .int fm, .int fd, .ref a_kingCalendar, .ref a_kingFrom, .ref a_kingTo, .int 0, .int 0, .ref a_sayEvent, .ref a_sayWhat, .ref a_sayA, .ref a_sayB, .ref a_sayC, .ref a_sayWeight, .ref a_copyOf, .ref a_isTaken, .int 0, .ref a_spanFrom, .ref a_spanTo, .ref a_spanMany, .int as_, .int fe, .int fdy, .ref a_eventFrom, .ref a_eventTo, .ref a_eventMany, .int lk, .int isp, .ref a_newFrom, .ref a_newTo, .ref a_low, .ref a_high, .ref a_took, .ref a_first, .ref a_last, .int hw_, .ref a_slipSets, .int smy, .ref a_newSets, .ref a_roots, .ref a_ownFirst, .ref a_ownLast])), (a_kingCalendar, .inl (cI, 6, .inl (upd f1 (0 : Int32).toNatClampNeg p0))), (a_kingFrom, .inl (cI, 6, .inl f2)), (a_kingTo, .inl (cI, 6, .inl f3))] := hD
              refine lv_aload_n hx hb dX6_king_54 rfl (lv_at hl 0 rfl) ?_
              refine va_get (D := (dC, dI)) (ci := 5) (v := .ref a_kingFrom) (C := RX6) (T := TX6) (N := 43) hx hb hts (by decide +kernel) hown hK hP 0 rfl rfl 5 (by decide) (hts (.fieldLink RX6 13 "DayBenchModel" "kingFrom" "[I") (by decide +kernel)) (fun _ h9 => h9) rfl dX6_king_55 ?_
              refine lv_aload_n hx hb dX6_king_58 rfl (lv_at hl 0 rfl) ?_
              refine va_get (D := (dC, dI)) (ci := 5) (v := .int 0) (C := RX6) (T := TX6) (N := 43) hx hb hts (by decide +kernel) hown hK hP 0 rfl rfl 7 (by decide) (hts (.fieldLink RX6 148 "DayBenchModel" "kings" "I") (by decide +kernel)) (fun _ h9 => h9) rfl dX6_king_59 ?_
              refine lv_iload_n hx hb dX6_king_62 rfl (lv_at hl 2 rfl) ?_
              refine va_iast hx hb hK hP hD hS 2 0 rfl rfl (by unfold vp_in; decide) dX6_king_63 (fun H locs hP hD hS => ?_)
              have hP : va_P (dC, dI) vwCl [(h0, .inr (5, [.int 0, .int fy, .int fm, .int fd, .ref a_kingCalendar, .ref a_kingFrom, .ref a_kingTo, .int 0, .int 0, .ref a_sayEvent, .ref a_sayWhat, .ref a_sayA, .ref a_sayB, .ref a_sayC, .ref a_sayWeight, .ref a_copyOf, .ref a_isTaken, .int 0, .ref a_spanFrom, .ref a_spanTo, .ref a_spanMany, .int as_, .int fe, .int fdy, .ref a_eventFrom, .ref a_eventTo, .ref a_eventMany, .int lk, .int isp, .ref a_newFrom, .ref a_newTo, .ref a_low, .ref a_high, .ref a_took, .ref a_first, .ref a_last, .int hw_, .ref a_slipSets, .int smy, .ref a_newSets, .ref a_roots, .ref a_ownFirst, .ref a_ownLast])), (a_kingCalendar, .inl (cI, 6, .inl (upd f1 (0 : Int32).toNatClampNeg p0))), (a_kingFrom, .inl (cI, 6, .inl (upd f2 (0 : Int32).toNatClampNeg p1))), (a_kingTo, .inl (cI, 6, .inl f3))] H := hP
              have hD : va_D A [(h0, .inr (5, [.int 0, .int fy, .int fm, .int fd, .ref a_kingCalendar, .ref a_kingFrom, .ref a_kingTo, .int 0, .int 0, .ref a_sayEvent, .ref a_sayWhat, .ref a_sayA, .ref a_sayB, .ref a_sayC, .ref a_sayWeight, .ref a_copyOf, .ref a_isTaken, .int 0, .ref a_spanFrom, .ref a_spanTo, .ref a_spanMany, .int as_, .int fe, .int fdy, .ref a_eventFrom, .ref a_eventTo, .ref a_eventMany, .int lk, .int isp, .ref a_newFrom, .ref a_newTo, .ref a_low, .ref a_high, .ref a_took, .ref a_first, .ref a_last, .int hw_, .ref a_slipSets, .int smy, .ref a_newSets, .ref a_roots, .ref a_ownFirst, .ref a_ownLast])), (a_kingCalendar, .inl (cI, 6, .inl (upd f1 (0 : Int32).toNatClampNeg p0))), (a_kingFrom, .inl (cI, 6, .inl (upd f2 (0 : Int32).toNatClampNeg p1))), (a_kingTo, .inl (cI, 6, .inl f3))] := hD
              refine lv_aload_n hx hb dX6_king_64 rfl (lv_at hl 0 rfl) ?_
              refine va_get (D := (dC, dI)) (ci := 5) (v := .ref a_kingTo) (C := RX6) (T := TX6) (N := 43) hx hb hts (by decide +kernel) hown hK hP 0 rfl rfl 6 (by decide) (hts (.fieldLink RX6 16 "DayBenchModel" "kingTo" "[I") (by decide +kernel)) (fun _ h9 => h9) rfl dX6_king_65 ?_
              refine lv_aload_n hx hb dX6_king_68 rfl (lv_at hl 0 rfl) ?_
              refine va_get (D := (dC, dI)) (ci := 5) (v := .int 0) (C := RX6) (T := TX6) (N := 43) hx hb hts (by decide +kernel) hown hK hP 0 rfl rfl 7 (by decide) (hts (.fieldLink RX6 148 "DayBenchModel" "kings" "I") (by decide +kernel)) (fun _ h9 => h9) rfl dX6_king_69 ?_
              refine lv_iload_n hx hb dX6_king_72 rfl (lv_at hl 3 rfl) ?_
              refine va_iast hx hb hK hP hD hS 3 0 rfl rfl (by unfold vp_in; decide) dX6_king_73 (fun H locs hP hD hS => ?_)
              have hP : va_P (dC, dI) vwCl [(h0, .inr (5, [.int 0, .int fy, .int fm, .int fd, .ref a_kingCalendar, .ref a_kingFrom, .ref a_kingTo, .int 0, .int 0, .ref a_sayEvent, .ref a_sayWhat, .ref a_sayA, .ref a_sayB, .ref a_sayC, .ref a_sayWeight, .ref a_copyOf, .ref a_isTaken, .int 0, .ref a_spanFrom, .ref a_spanTo, .ref a_spanMany, .int as_, .int fe, .int fdy, .ref a_eventFrom, .ref a_eventTo, .ref a_eventMany, .int lk, .int isp, .ref a_newFrom, .ref a_newTo, .ref a_low, .ref a_high, .ref a_took, .ref a_first, .ref a_last, .int hw_, .ref a_slipSets, .int smy, .ref a_newSets, .ref a_roots, .ref a_ownFirst, .ref a_ownLast])), (a_kingCalendar, .inl (cI, 6, .inl (upd f1 (0 : Int32).toNatClampNeg p0))), (a_kingFrom, .inl (cI, 6, .inl (upd f2 (0 : Int32).toNatClampNeg p1))), (a_kingTo, .inl (cI, 6, .inl (upd f3 (0 : Int32).toNatClampNeg p2)))] H := hP
              have hD : va_D A [(h0, .inr (5, [.int 0, .int fy, .int fm, .int fd, .ref a_kingCalendar, .ref a_kingFrom, .ref a_kingTo, .int 0, .int 0, .ref a_sayEvent, .ref a_sayWhat, .ref a_sayA, .ref a_sayB, .ref a_sayC, .ref a_sayWeight, .ref a_copyOf, .ref a_isTaken, .int 0, .ref a_spanFrom, .ref a_spanTo, .ref a_spanMany, .int as_, .int fe, .int fdy, .ref a_eventFrom, .ref a_eventTo, .ref a_eventMany, .int lk, .int isp, .ref a_newFrom, .ref a_newTo, .ref a_low, .ref a_high, .ref a_took, .ref a_first, .ref a_last, .int hw_, .ref a_slipSets, .int smy, .ref a_newSets, .ref a_roots, .ref a_ownFirst, .ref a_ownLast])), (a_kingCalendar, .inl (cI, 6, .inl (upd f1 (0 : Int32).toNatClampNeg p0))), (a_kingFrom, .inl (cI, 6, .inl (upd f2 (0 : Int32).toNatClampNeg p1))), (a_kingTo, .inl (cI, 6, .inl (upd f3 (0 : Int32).toNatClampNeg p2)))] := hD
              refine lv_aload_n hx hb dX6_king_74 rfl (lv_at hl 0 rfl) ?_
              refine lv_dup hx hb dX6_king_75 rfl ?_
              refine va_get (D := (dC, dI)) (ci := 5) (v := .int 0) (C := RX6) (T := TX6) (N := 43) hx hb hts (by decide +kernel) hown hK hP 0 rfl rfl 7 (by decide) (hts (.fieldLink RX6 148 "DayBenchModel" "kings" "I") (by decide +kernel)) (fun _ h9 => h9) rfl dX6_king_76 ?_
              refine lv_iconst (v := 1) hx hb dX6_king_79 (by decide) ?_
              refine lv_iadd hx hb dX6_king_80 ?_
              refine lv_topi (fun x_9 ex_9 => ?_)
              have ex_9 : x_9 = 1 := ex_9.trans (by decide)
              subst ex_9
              refine va_put (D := (dC, dI)) (ci := 5) (v := .int 1) (ty := .int) (C := RX6) (T := TX6) (N := 43) hx hb hts (by decide +kernel) tyX6 tyX6_ok nmX6 hown hK hP hD hS 0 rfl rfl 7 (by decide) (hts (.fieldLink RX6 148 "DayBenchModel" "kings" "I") (by decide +kernel)) (fun _ h9 => h9) rfl (by decide +kernel) rfl rfl (Nat.le_of_ble_eq_true rfl) dX6_king_81 (fun H locs hP hD hS => ?_)
              have hP : va_P (dC, dI) vwCl [(h0, .inr (5, [.int 0, .int fy, .int fm, .int fd, .ref a_kingCalendar, .ref a_kingFrom, .ref a_kingTo, .int 1, .int 0, .ref a_sayEvent, .ref a_sayWhat, .ref a_sayA, .ref a_sayB, .ref a_sayC, .ref a_sayWeight, .ref a_copyOf, .ref a_isTaken, .int 0, .ref a_spanFrom, .ref a_spanTo, .ref a_spanMany, .int as_, .int fe, .int fdy, .ref a_eventFrom, .ref a_eventTo, .ref a_eventMany, .int lk, .int isp, .ref a_newFrom, .ref a_newTo, .ref a_low, .ref a_high, .ref a_took, .ref a_first, .ref a_last, .int hw_, .ref a_slipSets, .int smy, .ref a_newSets, .ref a_roots, .ref a_ownFirst, .ref a_ownLast])), (a_kingCalendar, .inl (cI, 6, .inl (upd f1 (0 : Int32).toNatClampNeg p0))), (a_kingFrom, .inl (cI, 6, .inl (upd f2 (0 : Int32).toNatClampNeg p1))), (a_kingTo, .inl (cI, 6, .inl (upd f3 (0 : Int32).toNatClampNeg p2)))] H := hP
              have hD : va_D A [(h0, .inr (5, [.int 0, .int fy, .int fm, .int fd, .ref a_kingCalendar, .ref a_kingFrom, .ref a_kingTo, .int 1, .int 0, .ref a_sayEvent, .ref a_sayWhat, .ref a_sayA, .ref a_sayB, .ref a_sayC, .ref a_sayWeight, .ref a_copyOf, .ref a_isTaken, .int 0, .ref a_spanFrom, .ref a_spanTo, .ref a_spanMany, .int as_, .int fe, .int fdy, .ref a_eventFrom, .ref a_eventTo, .ref a_eventMany, .int lk, .int isp, .ref a_newFrom, .ref a_newTo, .ref a_low, .ref a_high, .ref a_took, .ref a_first, .ref a_last, .int hw_, .ref a_slipSets, .int smy, .ref a_newSets, .ref a_roots, .ref a_ownFirst, .ref a_ownLast])), (a_kingCalendar, .inl (cI, 6, .inl (upd f1 (0 : Int32).toNatClampNeg p0))), (a_kingFrom, .inl (cI, 6, .inl (upd f2 (0 : Int32).toNatClampNeg p1))), (a_kingTo, .inl (cI, 6, .inl (upd f3 (0 : Int32).toNatClampNeg p2)))] := hD
              refine lv_aload_n hx hb dX6_king_84 rfl (lv_at hl 0 rfl) ?_
              refine va_get (D := (dC, dI)) (ci := 5) (v := .int 1) (C := RX6) (T := TX6) (N := 43) hx hb hts (by decide +kernel) hown hK hP 0 rfl rfl 7 (by decide) (hts (.fieldLink RX6 148 "DayBenchModel" "kings" "I") (by decide +kernel)) (fun _ h9 => h9) rfl dX6_king_85 ?_
              refine lv_iconst (v := 1) hx hb dX6_king_88 (by decide) ?_
              refine lv_isub hx hb dX6_king_89 ?_
              refine lv_topi (fun x_10 ex_10 => ?_)
              have ex_10 : x_10 = 0 := ex_10.trans (by decide)
              subst ex_10
              have hP9 := hP.sub (ws' := []) [] rfl
              have hD9 := hD.sub (ws' := []) [] (by decide) rfl
              exact W.iret (v := 0) hx hb hr (fun t ht hW => ⟨⟨_, (), rfl, by rw [f_X6_king, if_neg h_1, if_neg h_2, if_neg h_4, if_neg h_6, if_neg h_7], by rw [ht]; exact hP9, hD9⟩, hS.F ht⟩) hS.2.2 dX6_king_90
            · exact (by first | exact absurd h_8 (by decide) | exact absurd (by decide) h_8)

set_option maxHeartbeats 4000000 in
set_option maxRecDepth 100000 in
theorem k_X6_event (l : Launch) (dC : Nat → ClassId) (dI : Nat → Nat → Nat) (sz : Nat) (h0 : Nat) (a_kingCalendar : Nat) (a_kingFrom : Nat) (a_kingTo : Nat) (a_sayEvent : Nat) (a_sayWhat : Nat) (a_sayA : Nat) (a_sayB : Nat) (a_sayC : Nat) (a_sayWeight : Nat) (a_copyOf : Nat) (a_isTaken : Nat) (a_spanFrom : Nat) (a_spanTo : Nat) (a_spanMany : Nat) (a_eventFrom : Nat) (a_eventTo : Nat) (a_eventMany : Nat) (a_newFrom : Nat) (a_newTo : Nat) (a_low : Nat) (a_high : Nat) (a_took : Nat) (a_first : Nat) (a_last : Nat) (a_slipSets : Nat) (a_newSets : Nat) (a_roots : Nat) (a_ownFirst : Nat) (a_ownLast : Nat) (th : Int32) (fy : Int32) (fm : Int32) (fd : Int32) (as_ : Int32) (fe : Int32) (fdy : Int32) (lk : Int32) (isp : Int32) (hw_ : Int32) (smy : Int32)  : Met l yX6_event wsX6_event ({ frames := 0, cells := 0, slots := 0, locals := 0 }) (va_Pc [.ref h0] (wPre dC dI sz [(h0, .inr (5, [.int th, .int fy, .int fm, .int fd, .ref a_kingCalendar, .ref a_kingFrom, .ref a_kingTo, .int 0, .int 0, .ref a_sayEvent, .ref a_sayWhat, .ref a_sayA, .ref a_sayB, .ref a_sayC, .ref a_sayWeight, .ref a_copyOf, .ref a_isTaken, .int 0, .ref a_spanFrom, .ref a_spanTo, .ref a_spanMany, .int as_, .int fe, .int fdy, .ref a_eventFrom, .ref a_eventTo, .ref a_eventMany, .int lk, .int isp, .ref a_newFrom, .ref a_newTo, .ref a_low, .ref a_high, .ref a_took, .ref a_first, .ref a_last, .int hw_, .ref a_slipSets, .int smy, .ref a_newSets, .ref a_roots, .ref a_ownFirst, .ref a_ownLast]))] [])) (va_Qi (fun (r : Int32) (u : Unit) => r = 0) (fun (u : Unit) t => wPost dC dI (va_A [(h0, .inr (5, [.int th, .int fy, .int fm, .int fd, .ref a_kingCalendar, .ref a_kingFrom, .ref a_kingTo, .int 0, .int 0, .ref a_sayEvent, .ref a_sayWhat, .ref a_sayA, .ref a_sayB, .ref a_sayC, .ref a_sayWeight, .ref a_copyOf, .ref a_isTaken, .int 0, .ref a_spanFrom, .ref a_spanTo, .ref a_spanMany, .int as_, .int fe, .int fdy, .ref a_eventFrom, .ref a_eventTo, .ref a_eventMany, .int lk, .int isp, .ref a_newFrom, .ref a_newTo, .ref a_low, .ref a_high, .ref a_took, .ref a_first, .ref a_last, .int hw_, .ref a_slipSets, .int smy, .ref a_newSets, .ref a_roots, .ref a_ownFirst, .ref a_ownLast]))] sz) [] t) (va_A [(h0, .inr (5, [.int th, .int fy, .int fm, .int fd, .ref a_kingCalendar, .ref a_kingFrom, .ref a_kingTo, .int 0, .int 0, .ref a_sayEvent, .ref a_sayWhat, .ref a_sayA, .ref a_sayB, .ref a_sayC, .ref a_sayWeight, .ref a_copyOf, .ref a_isTaken, .int 0, .ref a_spanFrom, .ref a_spanTo, .ref a_spanMany, .int as_, .int fe, .int fdy, .ref a_eventFrom, .ref a_eventTo, .ref a_eventMany, .int lk, .int isp, .ref a_newFrom, .ref a_newTo, .ref a_low, .ref a_high, .ref a_took, .ref a_first, .ref a_last, .int hw_, .ref a_slipSets, .int smy, .ref a_newSets, .ref a_roots, .ref a_ownFirst, .ref a_ownLast]))] sz)) 0 0 (va_A [(h0, .inr (5, [.int th, .int fy, .int fm, .int fd, .ref a_kingCalendar, .ref a_kingFrom, .ref a_kingTo, .int 0, .int 0, .ref a_sayEvent, .ref a_sayWhat, .ref a_sayA, .ref a_sayB, .ref a_sayC, .ref a_sayWeight, .ref a_copyOf, .ref a_isTaken, .int 0, .ref a_spanFrom, .ref a_spanTo, .ref a_spanMany, .int as_, .int fe, .int fdy, .ref a_eventFrom, .ref a_eventTo, .ref a_eventMany, .int lk, .int isp, .ref a_newFrom, .ref a_newTo, .ref a_low, .ref a_high, .ref a_took, .ref a_first, .ref a_last, .int hw_, .ref a_slipSets, .int smy, .ref a_newSets, .ref a_roots, .ref a_ownFirst, .ref a_ownLast]))] sz) := by
  refine Met.ofW (cc := cX6_event) (maxL := 1) (ret := (some .int)) (by decide) rfl ?_
  intro p e s m args below meth c s₁ B hml hv
  obtain ⟨rfl, hsz, hP, hK, hD0⟩ := hv
  have hx := B.exec
  have hb := B.bytes
  have hr := B.returns
  have hts := atoms_spec (ws := wsX6_event) B.pre
  have hown : s.vm.findClass RX6 = some m.cls := findClass_of_methodNamed B.named
  have hlocks := B.notSynchronized
  subst hsz
  have hD := hD0.self (sz := s.heap.size)
  generalize hAe : va_A [(h0, .inr (5, [.int th, .int fy, .int fm, .int fd, .ref a_kingCalendar, .ref a_kingFrom, .ref a_kingTo, .int 0, .int 0, .ref a_sayEvent, .ref a_sayWhat, .ref a_sayA, .ref a_sayB, .ref a_sayC, .ref a_sayWeight, .ref a_copyOf, .ref a_isTaken, .int 0, .ref a_spanFrom, .ref a_spanTo, .ref a_spanMany, .int as_, .int fe, .int fdy, .ref a_eventFrom, .ref a_eventTo, .ref a_eventMany, .int lk, .int isp, .ref a_newFrom, .ref a_newTo, .ref a_low, .ref a_high, .ref a_took, .ref a_first, .ref a_last, .int hw_, .ref a_slipSets, .int smy, .ref a_newSets, .ref a_roots, .ref a_ownFirst, .ref a_ownLast]))] s.heap.size = A at hD ⊢
  have hA : ∀ q : Nat, s.heap.size ≤ q → A q := fun q h => by rw [← hAe]; exact Or.inr h
  have hS : va_S A s.heap s.heap [] := va_S.rf
  have hP : va_P (dC, dI) vwCl [(h0, .inr (5, [.int th, .int fy, .int fm, .int fd, .ref a_kingCalendar, .ref a_kingFrom, .ref a_kingTo, .int 0, .int 0, .ref a_sayEvent, .ref a_sayWhat, .ref a_sayA, .ref a_sayB, .ref a_sayC, .ref a_sayWeight, .ref a_copyOf, .ref a_isTaken, .int 0, .ref a_spanFrom, .ref a_spanTo, .ref a_spanMany, .int as_, .int fe, .int fdy, .ref a_eventFrom, .ref a_eventTo, .ref a_eventMany, .int lk, .int isp, .ref a_newFrom, .ref a_newTo, .ref a_low, .ref a_high, .ref a_took, .ref a_first, .ref a_last, .int hw_, .ref a_slipSets, .int smy, .ref a_newSets, .ref a_roots, .ref a_ownFirst, .ref a_ownLast]))] s.heap := hP
  have hl := lv_entry ([.ref h0]) (n := 1) (Nat.le_of_ble_eq_true rfl)
  rw [lg_entry_eq]
  generalize (lg_sl ([.ref h0]) ++ List.replicate (1 - (lg_sl ([.ref h0])).length) Slot.unset).toArray = ls at hl ⊢
  have hl : lv_has ls 1 [(0, .ref h0)] := hl
  refine lv_aload_n hx hb dX6_event_0 rfl (lv_at hl 0 rfl) ?_
  refine lv_iconst (v := 0) hx hb dX6_event_1 (by decide) ?_
  refine va_put (D := (dC, dI)) (ci := 5) (v := .int 0) (ty := .int) (C := RX6) (T := TX6) (N := 43) hx hb hts (by decide +kernel) tyX6 tyX6_ok nmX6 hown hK hP hD hS 0 rfl rfl 0 (by decide) (hts (.fieldLink RX6 98 "DayBenchModel" "thrown" "I") (by decide +kernel)) (fun _ h9 => h9) rfl (by decide +kernel) rfl rfl (Nat.le_of_ble_eq_true rfl) dX6_event_2 (fun H locs hP hD hS => ?_)
  have hP : va_P (dC, dI) vwCl [(h0, .inr (5, [.int 0, .int fy, .int fm, .int fd, .ref a_kingCalendar, .ref a_kingFrom, .ref a_kingTo, .int 0, .int 0, .ref a_sayEvent, .ref a_sayWhat, .ref a_sayA, .ref a_sayB, .ref a_sayC, .ref a_sayWeight, .ref a_copyOf, .ref a_isTaken, .int 0, .ref a_spanFrom, .ref a_spanTo, .ref a_spanMany, .int as_, .int fe, .int fdy, .ref a_eventFrom, .ref a_eventTo, .ref a_eventMany, .int lk, .int isp, .ref a_newFrom, .ref a_newTo, .ref a_low, .ref a_high, .ref a_took, .ref a_first, .ref a_last, .int hw_, .ref a_slipSets, .int smy, .ref a_newSets, .ref a_roots, .ref a_ownFirst, .ref a_ownLast]))] H := hP
  have hD : va_D A [(h0, .inr (5, [.int 0, .int fy, .int fm, .int fd, .ref a_kingCalendar, .ref a_kingFrom, .ref a_kingTo, .int 0, .int 0, .ref a_sayEvent, .ref a_sayWhat, .ref a_sayA, .ref a_sayB, .ref a_sayC, .ref a_sayWeight, .ref a_copyOf, .ref a_isTaken, .int 0, .ref a_spanFrom, .ref a_spanTo, .ref a_spanMany, .int as_, .int fe, .int fdy, .ref a_eventFrom, .ref a_eventTo, .ref a_eventMany, .int lk, .int isp, .ref a_newFrom, .ref a_newTo, .ref a_low, .ref a_high, .ref a_took, .ref a_first, .ref a_last, .int hw_, .ref a_slipSets, .int smy, .ref a_newSets, .ref a_roots, .ref a_ownFirst, .ref a_ownLast]))] := hD
  refine lv_aload_n hx hb dX6_event_5 rfl (lv_at hl 0 rfl) ?_
  refine va_get (D := (dC, dI)) (ci := 5) (v := .int 0) (C := RX6) (T := TX6) (N := 43) hx hb hts (by decide +kernel) hown hK hP 0 rfl rfl 8 (by decide) (hts (.fieldLink RX6 151 "DayBenchModel" "events" "I") (by decide +kernel)) (fun _ h9 => h9) rfl dX6_event_6 ?_
  refine lv_bipush (v := 6) hx hb dX6_event_9 (by decide) ?_
  refine lv_icmp_ne (tgt := 16) hx hb dX6_event_11 (by decide) (fun h_1 => ?_) (fun h_1 => ?_)
  · refine lv_aload_n hx hb dX6_event_16 rfl (lv_at hl 0 rfl) ?_
    refine lv_dup hx hb dX6_event_17 rfl ?_
    refine va_get (D := (dC, dI)) (ci := 5) (v := .int 0) (C := RX6) (T := TX6) (N := 43) hx hb hts (by decide +kernel) hown hK hP 0 rfl rfl 8 (by decide) (hts (.fieldLink RX6 151 "DayBenchModel" "events" "I") (by decide +kernel)) (fun _ h9 => h9) rfl dX6_event_18 ?_
    refine lv_iconst (v := 1) hx hb dX6_event_21 (by decide) ?_
    refine lv_iadd hx hb dX6_event_22 ?_
    refine lv_topi (fun x_2 ex_2 => ?_)
    have ex_2 : x_2 = 1 := ex_2.trans (by decide)
    subst ex_2
    refine va_put (D := (dC, dI)) (ci := 5) (v := .int 1) (ty := .int) (C := RX6) (T := TX6) (N := 43) hx hb hts (by decide +kernel) tyX6 tyX6_ok nmX6 hown hK hP hD hS 0 rfl rfl 8 (by decide) (hts (.fieldLink RX6 151 "DayBenchModel" "events" "I") (by decide +kernel)) (fun _ h9 => h9) rfl (by decide +kernel) rfl rfl (Nat.le_of_ble_eq_true rfl) dX6_event_23 (fun H locs hP hD hS => ?_)
    have hP : va_P (dC, dI) vwCl [(h0, .inr (5, [.int 0, .int fy, .int fm, .int fd, .ref a_kingCalendar, .ref a_kingFrom, .ref a_kingTo, .int 0, .int 1, .ref a_sayEvent, .ref a_sayWhat, .ref a_sayA, .ref a_sayB, .ref a_sayC, .ref a_sayWeight, .ref a_copyOf, .ref a_isTaken, .int 0, .ref a_spanFrom, .ref a_spanTo, .ref a_spanMany, .int as_, .int fe, .int fdy, .ref a_eventFrom, .ref a_eventTo, .ref a_eventMany, .int lk, .int isp, .ref a_newFrom, .ref a_newTo, .ref a_low, .ref a_high, .ref a_took, .ref a_first, .ref a_last, .int hw_, .ref a_slipSets, .int smy, .ref a_newSets, .ref a_roots, .ref a_ownFirst, .ref a_ownLast]))] H := hP
    have hD : va_D A [(h0, .inr (5, [.int 0, .int fy, .int fm, .int fd, .ref a_kingCalendar, .ref a_kingFrom, .ref a_kingTo, .int 0, .int 1, .ref a_sayEvent, .ref a_sayWhat, .ref a_sayA, .ref a_sayB, .ref a_sayC, .ref a_sayWeight, .ref a_copyOf, .ref a_isTaken, .int 0, .ref a_spanFrom, .ref a_spanTo, .ref a_spanMany, .int as_, .int fe, .int fdy, .ref a_eventFrom, .ref a_eventTo, .ref a_eventMany, .int lk, .int isp, .ref a_newFrom, .ref a_newTo, .ref a_low, .ref a_high, .ref a_took, .ref a_first, .ref a_last, .int hw_, .ref a_slipSets, .int smy, .ref a_newSets, .ref a_roots, .ref a_ownFirst, .ref a_ownLast]))] := hD
    refine lv_aload_n hx hb dX6_event_26 rfl (lv_at hl 0 rfl) ?_
    refine va_get (D := (dC, dI)) (ci := 5) (v := .int 1) (C := RX6) (T := TX6) (N := 43) hx hb hts (by decide +kernel) hown hK hP 0 rfl rfl 8 (by decide) (hts (.fieldLink RX6 151 "DayBenchModel" "events" "I") (by decide +kernel)) (fun _ h9 => h9) rfl dX6_event_27 ?_
    refine lv_iconst (v := 1) hx hb dX6_event_30 (by decide) ?_
    refine lv_isub hx hb dX6_event_31 ?_
    refine lv_topi (fun x_3 ex_3 => ?_)
    have ex_3 : x_3 = 0 := ex_3.trans (by decide)
    subst ex_3
    have hP9 := hP.sub (ws' := []) [] rfl
    have hD9 := hD.sub (ws' := []) [] (by decide) rfl
    exact W.iret (v := 0) hx hb hr (fun t ht hW => ⟨⟨_, (), rfl, rfl, by rw [ht]; exact hP9, hD9⟩, hS.F ht⟩) hS.2.2 dX6_event_32
  · exact (by first | exact absurd h_1 (by decide) | exact absurd (by decide) h_1)

set_option maxHeartbeats 4000000 in
set_option maxRecDepth 100000 in
theorem k_X6_isSaying (l : Launch) (dC : Nat → ClassId) (dI : Nat → Nat → Nat) (h0 : Nat) (a_kingCalendar : Nat) (a_kingFrom : Nat) (a_kingTo : Nat) (a_sayEvent : Nat) (a_sayWhat : Nat) (a_sayA : Nat) (a_sayB : Nat) (a_sayC : Nat) (a_sayWeight : Nat) (a_copyOf : Nat) (a_isTaken : Nat) (a_spanFrom : Nat) (a_spanTo : Nat) (a_spanMany : Nat) (a_eventFrom : Nat) (a_eventTo : Nat) (a_eventMany : Nat) (a_newFrom : Nat) (a_newTo : Nat) (a_low : Nat) (a_high : Nat) (a_took : Nat) (a_first : Nat) (a_last : Nat) (a_slipSets : Nat) (a_newSets : Nat) (a_roots : Nat) (a_ownFirst : Nat) (a_ownLast : Nat) (th : Int32) (fy : Int32) (fm : Int32) (fd : Int32) (as_ : Int32) (fe : Int32) (fdy : Int32) (lk : Int32) (isp : Int32) (hw_ : Int32) (smy : Int32) (p0 : Int32)  : Met l yX6_isSaying wsX6_isSaying ({ frames := 0, cells := 0, slots := 0, locals := 0 }) (va_Pc [.ref h0, .int p0] (rPre dC dI [(h0, .inr (5, [.int th, .int fy, .int fm, .int fd, .ref a_kingCalendar, .ref a_kingFrom, .ref a_kingTo, .int 0, .int 0, .ref a_sayEvent, .ref a_sayWhat, .ref a_sayA, .ref a_sayB, .ref a_sayC, .ref a_sayWeight, .ref a_copyOf, .ref a_isTaken, .int 0, .ref a_spanFrom, .ref a_spanTo, .ref a_spanMany, .int as_, .int fe, .int fdy, .ref a_eventFrom, .ref a_eventTo, .ref a_eventMany, .int lk, .int isp, .ref a_newFrom, .ref a_newTo, .ref a_low, .ref a_high, .ref a_took, .ref a_first, .ref a_last, .int hw_, .ref a_slipSets, .int smy, .ref a_newSets, .ref a_roots, .ref a_ownFirst, .ref a_ownLast]))] [])) (vp_Si (fun r => r = 0)) 0 0 (fun _ => False) := by
  refine Met.ofW (cc := cX6_isSaying) (maxL := 2) (ret := (some .boolean)) (by decide) rfl ?_
  intro p e s m args below meth c s₁ B hml hv
  obtain ⟨rfl, hP, hK⟩ := hv
  have hx := B.exec
  have hb := B.bytes
  have hr := B.returns
  have hts := atoms_spec (ws := wsX6_isSaying) B.pre
  have hown : s.vm.findClass RX6 = some m.cls := findClass_of_methodNamed B.named
  have hlocks := B.notSynchronized
  have hl := lv_entry ([.ref h0, .int p0]) (n := 2) (Nat.le_of_ble_eq_true rfl)
  rw [lg_entry_eq]
  generalize (lg_sl ([.ref h0, .int p0]) ++ List.replicate (2 - (lg_sl ([.ref h0, .int p0])).length) Slot.unset).toArray = ls at hl ⊢
  have hl : lv_has ls 2 [(0, .ref h0), (1, .int p0)] := hl
  refine lv_iload_n hx hb dX6_isSaying_0 rfl (lv_at hl 1 rfl) ?_
  refine lv_if_lt (tgt := 16) hx hb dX6_isSaying_1 (by decide) (fun h_1 => ?_) (fun h_1 => ?_)
  · refine lv_iconst (v := 0) hx hb dX6_isSaying_16 (by decide) ?_
    exact W.zret (v := 0) hx hb hr rfl (fun t ht hW => ⟨_, rfl, rfl, ht⟩) (fun _ h => by cases h) dX6_isSaying_17
  · refine lv_iload_n hx hb dX6_isSaying_4 rfl (lv_at hl 1 rfl) ?_
    refine lv_aload_n hx hb dX6_isSaying_5 rfl (lv_at hl 0 rfl) ?_
    refine va_get (D := (dC, dI)) (ci := 5) (v := .int 0) (C := RX6) (T := TX6) (N := 43) hx hb hts (by decide +kernel) hown hK hP 0 rfl rfl 17 (by decide) (hts (.fieldLink RX6 158 "DayBenchModel" "sayings" "I") (by decide +kernel)) (fun _ h9 => h9) rfl dX6_isSaying_6 ?_
    refine lv_icmp_ge (tgt := 16) hx hb dX6_isSaying_9 (by decide) (fun h_2 => ?_) (fun h_2 => ?_)
    · refine lv_iconst (v := 0) hx hb dX6_isSaying_16 (by decide) ?_
      exact W.zret (v := 0) hx hb hr rfl (fun t ht hW => ⟨_, rfl, rfl, ht⟩) (fun _ h => by cases h) dX6_isSaying_17
    · exact (nl_le h_1 h_2).elim

set_option maxHeartbeats 4000000 in
set_option maxRecDepth 100000 in
theorem k_X6_isEvent (l : Launch) (dC : Nat → ClassId) (dI : Nat → Nat → Nat) (h0 : Nat) (a_kingCalendar : Nat) (a_kingFrom : Nat) (a_kingTo : Nat) (a_sayEvent : Nat) (a_sayWhat : Nat) (a_sayA : Nat) (a_sayB : Nat) (a_sayC : Nat) (a_sayWeight : Nat) (a_copyOf : Nat) (a_isTaken : Nat) (a_spanFrom : Nat) (a_spanTo : Nat) (a_spanMany : Nat) (a_eventFrom : Nat) (a_eventTo : Nat) (a_eventMany : Nat) (a_newFrom : Nat) (a_newTo : Nat) (a_low : Nat) (a_high : Nat) (a_took : Nat) (a_first : Nat) (a_last : Nat) (a_slipSets : Nat) (a_newSets : Nat) (a_roots : Nat) (a_ownFirst : Nat) (a_ownLast : Nat) (th : Int32) (fy : Int32) (fm : Int32) (fd : Int32) (as_ : Int32) (fe : Int32) (fdy : Int32) (lk : Int32) (isp : Int32) (hw_ : Int32) (smy : Int32) (p0 : Int32)  : Met l yX6_isEvent wsX6_isEvent ({ frames := 0, cells := 0, slots := 0, locals := 0 }) (va_Pc [.ref h0, .int p0] (rPre dC dI [(h0, .inr (5, [.int th, .int fy, .int fm, .int fd, .ref a_kingCalendar, .ref a_kingFrom, .ref a_kingTo, .int 0, .int 0, .ref a_sayEvent, .ref a_sayWhat, .ref a_sayA, .ref a_sayB, .ref a_sayC, .ref a_sayWeight, .ref a_copyOf, .ref a_isTaken, .int 0, .ref a_spanFrom, .ref a_spanTo, .ref a_spanMany, .int as_, .int fe, .int fdy, .ref a_eventFrom, .ref a_eventTo, .ref a_eventMany, .int lk, .int isp, .ref a_newFrom, .ref a_newTo, .ref a_low, .ref a_high, .ref a_took, .ref a_first, .ref a_last, .int hw_, .ref a_slipSets, .int smy, .ref a_newSets, .ref a_roots, .ref a_ownFirst, .ref a_ownLast]))] [])) (vp_Si (fun r => r = 0)) 0 0 (fun _ => False) := by
  refine Met.ofW (cc := cX6_isEvent) (maxL := 2) (ret := (some .boolean)) (by decide) rfl ?_
  intro p e s m args below meth c s₁ B hml hv
  obtain ⟨rfl, hP, hK⟩ := hv
  have hx := B.exec
  have hb := B.bytes
  have hr := B.returns
  have hts := atoms_spec (ws := wsX6_isEvent) B.pre
  have hown : s.vm.findClass RX6 = some m.cls := findClass_of_methodNamed B.named
  have hlocks := B.notSynchronized
  have hl := lv_entry ([.ref h0, .int p0]) (n := 2) (Nat.le_of_ble_eq_true rfl)
  rw [lg_entry_eq]
  generalize (lg_sl ([.ref h0, .int p0]) ++ List.replicate (2 - (lg_sl ([.ref h0, .int p0])).length) Slot.unset).toArray = ls at hl ⊢
  have hl : lv_has ls 2 [(0, .ref h0), (1, .int p0)] := hl
  refine lv_iload_n hx hb dX6_isEvent_0 rfl (lv_at hl 1 rfl) ?_
  refine lv_if_lt (tgt := 16) hx hb dX6_isEvent_1 (by decide) (fun h_1 => ?_) (fun h_1 => ?_)
  · refine lv_iconst (v := 0) hx hb dX6_isEvent_16 (by decide) ?_
    exact W.zret (v := 0) hx hb hr rfl (fun t ht hW => ⟨_, rfl, rfl, ht⟩) (fun _ h => by cases h) dX6_isEvent_17
  · refine lv_iload_n hx hb dX6_isEvent_4 rfl (lv_at hl 1 rfl) ?_
    refine lv_aload_n hx hb dX6_isEvent_5 rfl (lv_at hl 0 rfl) ?_
    refine va_get (D := (dC, dI)) (ci := 5) (v := .int 0) (C := RX6) (T := TX6) (N := 43) hx hb hts (by decide +kernel) hown hK hP 0 rfl rfl 8 (by decide) (hts (.fieldLink RX6 151 "DayBenchModel" "events" "I") (by decide +kernel)) (fun _ h9 => h9) rfl dX6_isEvent_6 ?_
    refine lv_icmp_ge (tgt := 16) hx hb dX6_isEvent_9 (by decide) (fun h_2 => ?_) (fun h_2 => ?_)
    · refine lv_iconst (v := 0) hx hb dX6_isEvent_16 (by decide) ?_
      exact W.zret (v := 0) hx hb hr rfl (fun t ht hW => ⟨_, rfl, rfl, ht⟩) (fun _ h => by cases h) dX6_isEvent_17
    · exact (nl_le h_1 h_2).elim

