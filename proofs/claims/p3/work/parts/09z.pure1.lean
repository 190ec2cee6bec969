/-! the calendars' arithmetic: class and reference say the same -/
theorem far_0 : f_X6_isDay 2000000 = 0 := by decide
theorem isDay_eq (d : Int32) : f_X5_isDay d = f_X6_isDay d := by
  unfold f_X5_isDay f_X6_isDay
  by_cases h : d < 0
  · rw [if_pos h, if_pos h]
  · rw [if_neg h, if_neg h]
    have e : (985999 < d) ↔ (986000 ≤ d) := by
      rw [Int32.lt_iff_toInt_lt, Int32.le_iff_toInt_le]
      rw [show (985999 : Int32).toInt = 985999 from rfl, show (986000 : Int32).toInt = 986000 from rfl]
      omega
    by_cases q : 985999 < d
    · rw [if_pos q, if_pos (e.mp q)]
    · rw [if_neg q, if_neg (fun z => q (e.mpr z))]
theorem c3_of' {c : Int32} (h0 : ¬ c < 0) (h2 : ¬ 2 < c) : c = 0 ∨ c = 1 ∨ c = 2 := by
  obtain ⟨j, hj, rfl⟩ := nI_of2 (M := 2) (n := 2) rfl h0 (Int32.not_lt.mp h2)
  rcases (show j = 0 ∨ j = 1 ∨ j = 2 by omega) with rfl | rfl | rfl
  · exact Or.inl rfl
  · exact Or.inr (Or.inl rfl)
  · exact Or.inr (Or.inr rfl)
theorem ys_eq {c : Int32} (hc : c = 0 ∨ c = 1 ∨ c = 2) (y : Int32) : f_X0_yearStart c y = f_X6_yearFrom c y := by
  unfold f_X0_yearStart f_X6_yearFrom
  rcases hc with rfl | rfl | rfl
  · rw [if_pos rfl, if_neg (by decide), if_neg (by decide)]
  · rw [if_neg (by decide), if_pos rfl, if_neg (by decide), if_pos rfl]
  · rw [if_neg (by decide), if_neg (by decide), if_pos rfl]
theorem leap_eq {c : Int32} (hc : c = 0 ∨ c = 1) (y : Int32) : f_X0_isLeap c y = f_X6_isLeap c y := by
  unfold f_X0_isLeap f_X6_isLeap
  rcases hc with rfl | rfl
  · rw [if_neg (by decide), if_neg (show ¬ (0 : Int32) = 1 by decide), if_neg (show ¬ (0 : Int32) = 1 by decide)]
  · rw [if_neg (by decide), if_pos rfl, if_pos rfl]
theorem mt_1 : ∀ j : Nat, j < 12 → j ≠ 1 → md_tab (nI (j + 1) - 1).toNatClampNeg = (if nI (j + 1) = 4 then 30 else (if nI (j + 1) = 6 then 30 else (if nI (j + 1) = 9 then 30 else (if nI (j + 1) = 11 then 30 else 31)))) := by
  intro j hj
  rcases (show j = 0 ∨ j = 1 ∨ j = 2 ∨ j = 3 ∨ j = 4 ∨ j = 5 ∨ j = 6 ∨ j = 7 ∨ j = 8 ∨ j = 9 ∨ j = 10 ∨ j = 11 by omega) with rfl | rfl | rfl | rfl | rfl | rfl | rfl | rfl | rfl | rfl | rfl | rfl <;> intro h1 <;> first | exact absurd rfl h1 | decide
/-- months 1 .. 13 (1 .. 12 but for EVEN) -/
theorem md_eq {c : Int32} (hc : c = 0 ∨ c = 1 ∨ c = 2) (y : Int32) {j : Nat} (hj : nI (j + 1) ≤ f_X0_months c) (hj2 : j < 13) : f_X0_monthDays c y (nI (j + 1)) = f_X6_lengthOf c y (nI (j + 1)) := by
  unfold f_X0_monthDays f_X6_lengthOf
  by_cases h2 : c = 2
  · rw [if_pos h2, if_pos h2]
  · rw [if_neg h2, if_neg h2]
    have hc' : c = 0 ∨ c = 1 := by
      rcases hc with q | q | q
      · exact Or.inl q
      · exact Or.inr q
      · exact absurd q h2
    have hm : f_X0_months c = 12 := by unfold f_X0_months; rw [if_neg h2]
    rw [hm] at hj
    have hj3 : j < 12 := by
      have := (nI_leI (a := j + 1) (b := 12) (by omega) (by omega)).mp hj
      omega
    rw [if_neg (show ¬ nI (j + 1) < 1 from nI_nlt (b := 1) (by omega) (by omega)), if_pos (show nI (j + 1) ≤ 12 from hj)]
    by_cases h : j = 1
    · subst h
      rw [if_pos (show nI (1 + 1) = 2 from rfl), if_pos (show nI (1 + 1) = 2 from rfl), leap_eq hc' y]
      rfl
    · rw [if_neg (show ¬ nI (j + 1) = 2 from fun q => h (by have := (nI_eq (a := j + 1) (b := 2) (by omega) (by omega)).mp q; omega)), if_neg (show ¬ nI (j + 1) = 2 from fun q => h (by have := (nI_eq (a := j + 1) (b := 2) (by omega) (by omega)).mp q; omega))]
      exact mt_1 j hj3 h
theorem i32_1 (a b d : Int32) : a + b + d - 1 = a + d - 1 + b := by
  simp only [Int32.sub_eq_add_neg]
  ac_rfl
theorem ms_eq {c : Int32} (hc : c = 0 ∨ c = 1 ∨ c = 2) (y d : Int32) : ∀ M : Nat, M < 13 → nI (M + 1) ≤ f_X0_months c → ms_C c y M + d - 1 = ds_M c y (f_X6_yearFrom c y + d - 1) M
  | 0, _, _ => by
    show f_X0_yearStart c y + d - 1 = f_X6_yearFrom c y + d - 1
    rw [ys_eq hc]
  | M + 1, h1, h2 => by
    have h3 : nI (M + 1) ≤ f_X0_months c := Int32.le_trans (nI_le (by omega) (by omega)) h2
    show ms_C c y M + f_X0_monthDays c y (nI (M + 1)) + d - 1 = ds_M c y (f_X6_yearFrom c y + d - 1) M + f_X6_lengthOf c y (nI (M + 1))
    rw [i32_1, ms_eq hc y d M (by omega) h3, md_eq hc y h3 (by omega)]
theorem dm_M' {a c : Int32} (h1 : ¬ c < 1) (h2 : ¬ f_X0_months a < c) : ∃ M : Nat, M < 13 ∧ c = nI (M + 1) ∧ c.toNatClampNeg - 1 = M := by
  have h3 : c ≤ 13 := by
    have e := Int32.not_lt.mp h2
    unfold f_X0_months at e
    split at e
    · exact e
    · exact Int32.le_trans e (by decide)
  obtain ⟨j, hj, rfl⟩ := nI_of2 (M := 13) (n := 13) rfl (fun q => h1 (Int32.lt_trans q (by decide))) h3
  have hj1 : 1 ≤ j := by
    rcases Nat.eq_zero_or_pos j with q | q
    · subst q; exact absurd (by decide) h1
    · exact q
  exact ⟨j - 1, by omega, by rw [show j - 1 + 1 = j by omega], by rw [nI_clamp (by omega)]⟩
theorem day_eq (c y m d : Int32) : f_X0_dayOf c y m d = f_X6_day c y m d := by
  unfold f_X6_day f_X0_dayOf f_X6_dayOf f_X0_isMonth f_X0_isYear f_X0_isCalendar
  rw [show f_X6_monthsOf c = f_X0_months c from rfl]
  by_cases h1 : c < 0
  · simp [h1, far_0]
  by_cases h2 : 2 < c
  · simp [h1, h2, far_0]
  by_cases h3 : y < 1
  · simp [h1, h2, h3, far_0]
  by_cases h4 : 2699 < y
  · simp [h1, h2, h3, h4, far_0]
  by_cases h5 : m < 1
  · simp [h1, h2, h3, h4, h5, far_0]
  by_cases h6 : f_X0_months c < m
  · simp [h1, h2, h3, h4, h5, h6, far_0]
  by_cases h7 : d < 1
  · simp [h1, h2, h3, h4, h5, h6, h7, far_0]
  obtain ⟨M, hM, rfl, hMM⟩ := dm_M' h5 h6
  have hc := c3_of' h1 h2
  have hle := Int32.not_lt.mp h6
  rw [md_eq hc y hle hM, hMM]
  by_cases h8 : d ≤ f_X6_lengthOf c y (nI (M + 1))
  · rw [ms_eq hc y d M hM hle, isDay_eq]
    simp [h1, h2, h3, h4, h5, h6, h7, h8]
  · simp [h1, h2, h3, h4, h5, h6, h7, h8, far_0]
theorem king_eq (c a b : Int32) : (if f_X0_isCalendar c = 0 then (-1 : Int32) else (if f_X5_isRowOfDays a b = 0 then (-1) else 0)) = f_X6_king c a b := by
  unfold f_X6_king f_X0_isCalendar f_X5_isRowOfDays
  rw [isDay_eq, isDay_eq]
  by_cases h1 : c < 0
  · simp [h1]
  by_cases h2 : 2 < c
  · simp [h1, h2]
  by_cases h3 : f_X6_isDay a = 0
  · simp [h1, h2, h3]
  by_cases h4 : f_X6_isDay b = 0
  · simp [h1, h2, h3, h4]
  by_cases h5 : b < a
  · simp [h1, h2, h3, h4, h5]
  · simp [h1, h2, h3, h4, h5]
