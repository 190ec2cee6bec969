/-! years, months and days of a DAY: class and reference say the same -/
def yI (c : Int32) (n : Nat) : Int := if c = 2 then 365 * (n : Int) else (if c = 1 then 365 * (n : Int) + ((n / 4 : Nat) : Int) - 2 else 365 * (n : Int) + ((n / 4 : Nat) : Int) - ((n / 100 : Nat) : Int) + ((n / 400 : Nat) : Int))
theorem yF_int {c : Int32} (hc : c = 0 ∨ c = 1 ∨ c = 2) {n : Nat} (hn : n ≤ 2800) : (f_X6_yearFrom c (nI (n + 1))).toInt = yI c n := by
  have e1 : nI (n + 1) - 1 = nI n := nI_pred n
  have e2 : (365 : Int32) * nI n = nI (365 * n) := pk_mul 365 n
  have e3 : nI n / 4 = nI (n / 4) := pk_div (d := 4) (by omega) (by omega) (by omega)
  have e4 : nI n / 100 = nI (n / 100) := pk_div (d := 100) (by omega) (by omega) (by omega)
  have e5 : nI n / 400 = nI (n / 400) := pk_div (d := 400) (by omega) (by omega) (by omega)
  unfold f_X6_yearFrom yI
  rw [e1, e2, e3, e4, e5]
  rcases hc with rfl | rfl | rfl
  · rw [if_neg (by decide), if_neg (by decide), if_neg (by decide), if_neg (by decide), nI_add, pk_sub (by omega), nI_add, nI_toInt (by omega)]
    omega
  · rw [if_neg (by decide), if_pos rfl, if_neg (by decide), if_pos rfl, nI_add, show (2 : Int32) = nI 2 from rfl, pk_sub_toInt (by omega) (by omega)]
    omega
  · rw [if_pos rfl, if_pos rfl, nI_toInt (by omega)]
    omega
theorem yI_le {c : Int32} (hc : c = 0 ∨ c = 1 ∨ c = 2) (n : Nat) : yI c n ≤ 366 * (n : Int) := by
  unfold yI
  rcases hc with rfl | rfl | rfl
  · rw [if_neg (by decide), if_neg (by decide)]; omega
  · rw [if_neg (by decide), if_pos rfl]; omega
  · rw [if_pos rfl]; omega
theorem yI_ge {c : Int32} (hc : c = 0 ∨ c = 1 ∨ c = 2) (n : Nat) : 365 * (n : Int) - 2 ≤ yI c n := by
  unfold yI
  rcases hc with rfl | rfl | rfl
  · rw [if_neg (by decide), if_neg (by decide)]; omega
  · rw [if_neg (by decide), if_pos rfl]; omega
  · rw [if_pos rfl]; omega
theorem yl_Mz {c d : Int32} {D : Nat} (h0 : ¬ c < 0) (h2 : ¬ 2 < c) (hD : D ≤ 985999) (hd : d = nI D) : ∀ (n Y : Nat), Y ≤ 2702 → 2702 < Y + n → ∃ Z : Nat, Y ≤ Z ∧ Z ≤ 2702 ∧ yl_M c d n (nI Y) = nI Z ∧ d < f_X6_yearFrom c (nI (Z + 1)) ∧ (Z = Y ∨ ¬ d < f_X6_yearFrom c (nI Z)) := by
  intro n
  induction n with
  | zero => intro Y h1 h3; omega
  | succ n ih =>
    intro Y hY hn
    by_cases h : d < f_X6_yearFrom c (nI Y + 1)
    · exact ⟨Y, Nat.le_refl _, hY, by rw [yl_M, if_pos h], by rw [← nI_1]; exact h, Or.inl rfl⟩
    · have hY1 := yM_stop h0 h2 hD hd hY h
      obtain ⟨Z, a1, a2, a3, a4, a5⟩ := ih (Y + 1) (by omega) (by omega)
      refine ⟨Z, by omega, a2, by rw [yl_M, if_neg h, nI_1]; exact a3, a4, Or.inr ?_⟩
      rcases a5 with q | q
      · rw [q, ← nI_1]; exact h
      · exact q
theorem yl_Cz {c d : Int32} {D : Nat} (h0 : ¬ c < 0) (h2 : ¬ 2 < c) (hD : D ≤ 985999) (hd : d = nI D) : ∀ (n Y : Nat), Y ≤ 2700 → 2700 < Y + n → ∀ n' : Nat, 2702 < Y + n' → ∃ Z : Nat, yl_M c d n' (nI Y) = nI Z ∧ Y ≤ Z ∧ Z ≤ 2702 ∧ ((Z ≤ 2699 ∧ yl_C c d n (nI Y) = nI Z) ∨ (2699 < Z ∧ 2699 < yl_C c d n (nI Y))) := by
  intro n
  induction n with
  | zero => intro Y h1 h3; omega
  | succ n ih =>
    intro Y hY hn n' hn'
    by_cases q : 2699 < Y
    · obtain ⟨Z, a1, a2, a3, -, -⟩ := yl_Mz h0 h2 hD hd n' Y (by omega) hn'
      have hq : (2699 : Int32) < nI Y := nI_lt (a := 2699) q (by omega)
      exact ⟨Z, a3, a1, a2, Or.inr ⟨by omega, by rw [yl_C, if_pos hq]; exact hq⟩⟩
    · have hq : ¬ (2699 : Int32) < nI Y := nI_nlt (a := 2699) (by omega) (by omega)
      obtain ⟨m', rfl⟩ : ∃ m', n' = m' + 1 := ⟨n' - 1, by omega⟩
      by_cases h : d < f_X6_yearFrom c (nI Y + 1)
      · exact ⟨Y, by rw [yl_M, if_pos h], Nat.le_refl _, by omega, Or.inl ⟨by omega, by rw [yl_C, if_neg hq, ys_eq (c3_of' h0 h2), if_pos h]⟩⟩
      · obtain ⟨Z, a1, a2, a3, a4⟩ := ih (Y + 1) (by omega) (by omega) m' (by omega)
        refine ⟨Z, by rw [yl_M, if_neg h, nI_1]; exact a1, by omega, a3, ?_⟩
        rw [yl_C, if_neg hq, ys_eq (c3_of' h0 h2), if_neg h, nI_1]
        exact a4
theorem lt_toInt {a b : Int32} : a < b ↔ a.toInt < b.toInt := Int32.lt_iff_toInt_lt
/-- the year of a DAY, as both find it -/
theorem year_of {c d : Int32} {D : Nat} (h0 : ¬ c < 0) (h2 : ¬ 2 < c) (hD : D ≤ 985999) (hd : d = nI D) : ∃ Z : Nat, 1 ≤ Z ∧ Z ≤ 2702 ∧ fy_M c d = nI Z ∧ (D : Int) < yI c Z ∧ yI c (Z - 1) ≤ (D : Int) ∧ ((Z ≤ 2699 ∧ yl_C c d 2701 (d / 366 + 1) = nI Z) ∨ (2699 < Z ∧ 2699 < yl_C c d 2701 (d / 366 + 1))) := by
  have hc := c3_of' h0 h2
  have e0 : d / 366 + 1 = nI (D / 366 + 1) := by rw [hd, show (366 : Int32) = nI 366 from rfl, pk_div (by omega) (by omega) (by omega), nI_1]
  have hst : yI c (D / 366) ≤ (D : Int) := by
    have := yI_le hc (D / 366)
    omega
  have hfy : ∃ n' : Nat, 2702 < D / 366 + 1 + n' ∧ fy_M c d = yl_M c d n' (nI (D / 366 + 1)) := by
    have e1 : (if 1 < d / 366 then d / 366 else 1) = nI (max 1 (D / 366)) := by rw [hd]; exact y0_M hD
    by_cases q : D / 366 = 0
    · exact ⟨2703, by omega, by rw [fy_M, e1, q]; rfl⟩
    · refine ⟨2702, by omega, ?_⟩
      rw [fy_M, e1, Nat.max_eq_right (by omega), yl_M, if_neg, nI_1]
      rw [nI_1, lt_toInt, yF_int hc (by omega), hd, nI_toInt (by omega)]
      omega
  obtain ⟨n', hn', hfy⟩ := hfy
  obtain ⟨Z, a1, a2, a3, a4, a5⟩ := yl_Mz h0 h2 hD hd n' (D / 366 + 1) (by omega) hn'
  obtain ⟨Z', b1, b2, b3, b4⟩ := yl_Cz h0 h2 hD hd 2701 (D / 366 + 1) (by omega) (by omega) n' hn'
  have hZ : Z' = Z := (nI_eq (by omega) (by omega)).mp (b1.symm.trans a3)
  subst hZ
  rw [lt_toInt, yF_int hc (by omega), hd, nI_toInt (by omega)] at a4
  refine ⟨Z', by omega, a2, by rw [hfy]; exact a3, a4, ?_, by rw [e0]; exact b4⟩
  rcases a5 with q | q
  · rw [q]; exact hst
  · obtain ⟨z, rfl⟩ : ∃ z, Z' = z + 1 := ⟨Z' - 1, by omega⟩
    rw [lt_toInt, yF_int hc (by omega), hd, nI_toInt (by omega)] at q
    rw [show z + 1 - 1 = z by omega]
    omega
def lS (c y : Int32) (mc : Nat) : Nat → Int
  | 0 => 0
  | t + 1 => (f_X6_lengthOf c y (nI (mc - t))).toInt + lS c y mc t
theorem sub_toInt {a b : Int32} (h1 : 0 ≤ a.toInt) (h2 : -100 ≤ b.toInt) (h3 : b.toInt ≤ 1000000) (h4 : a.toInt ≤ 1000000) : (a - b).toInt = a.toInt - b.toInt := by
  rw [Int32.toInt_sub, Int.bmod_eq_of_le (by omega) (by omega)]
theorem len_b (a b c : Int32) : 5 ≤ (f_X6_lengthOf a b c).toInt ∧ (f_X6_lengthOf a b c).toInt ≤ 31 := by
  have h1 := len_5 a b c
  have h2 := len_31 a b c
  rw [Int32.le_iff_toInt_le] at h1 h2
  exact ⟨h1, h2⟩
/-- month by month, both the same -/
theorem ml_eq {c y : Int32} (hc : c = 0 ∨ c = 1 ∨ c = 2) {mc : Nat} (hmc : f_X0_months c = nI mc) (h13 : mc ≤ 13) : ∀ (n K F : Nat) (r : Int32), 1 ≤ K → K ≤ mc → mc < K + n → r.toNatClampNeg < F → 0 ≤ r.toInt → r.toInt ≤ 1000000 → r.toInt < lS c y mc (mc - K + 1) → ∃ K' : Nat, 1 ≤ K' ∧ K' ≤ mc ∧ ml_C c y n r K = ((ml_M c y F r (nI K)).1, K') ∧ (ml_M c y F r (nI K)).2 = nI K' ∧ (ml_M c y F r (nI K)).1 < f_X6_lengthOf c y (nI K') ∧ 0 ≤ (ml_M c y F r (nI K)).1.toInt := by
  intro n
  induction n with
  | zero => intro K F r h1 h2 h3; omega
  | succ n ih =>
    intro K F r hK1 hKm hn hF hr0 hr1 hr2
    obtain ⟨F, rfl⟩ : ∃ f, F = f + 1 := ⟨F - 1, by omega⟩
    obtain ⟨j, rfl⟩ : ∃ j, K = j + 1 := ⟨K - 1, by omega⟩
    have hlen := len_b c y (nI (j + 1))
    by_cases h : r < f_X6_lengthOf c y (nI (j + 1))
    · have em : ml_M c y (F + 1) r (nI (j + 1)) = (r, nI (j + 1)) := by rw [ml_M, if_pos h]
      refine ⟨j + 1, by omega, hKm, ?_, by rw [em], by rw [em]; exact h, by rw [em]; exact hr0⟩
      rw [em, ml_C]
      by_cases q : f_X0_months c ≤ nI (j + 1)
      · rw [if_pos q]
      · rw [if_neg q, md_eq hc y (by rw [hmc]; exact nI_le hKm (by omega)) (by omega), if_pos h]
    · have hlt : j + 1 < mc := by
        rcases Nat.lt_or_ge (j + 1) mc with q | q
        · exact q
        · have e : mc = j + 1 := by omega
          refine absurd ?_ h
          rw [lt_toInt]
          rw [e, show j + 1 - (j + 1) + 1 = 0 + 1 by omega] at hr2
          have e2 : lS c y (j + 1) (0 + 1) = (f_X6_lengthOf c y (nI (j + 1 - 0))).toInt + 0 := rfl
          rw [e2] at hr2
          simpa using hr2
      have em : ml_M c y (F + 1) r (nI (j + 1)) = ml_M c y F (r - f_X6_lengthOf c y (nI (j + 1))) (nI (j + 1 + 1)) := by rw [ml_M, if_neg h, nI_1]
      have hge : (f_X6_lengthOf c y (nI (j + 1))).toInt ≤ r.toInt := by
        have := Int32.not_lt.mp h
        rw [Int32.le_iff_toInt_le] at this
        exact this
      have es : (r - f_X6_lengthOf c y (nI (j + 1))).toInt = r.toInt - (f_X6_lengthOf c y (nI (j + 1))).toInt := sub_toInt hr0 (by omega) (by omega) hr1
      have hsum : lS c y mc (mc - (j + 1) + 1) = (f_X6_lengthOf c y (nI (j + 1))).toInt + lS c y mc (mc - (j + 1 + 1) + 1) := by
        have e3 : mc - (j + 1) = mc - (j + 1 + 1) + 1 := by omega
        rw [e3]
        show (f_X6_lengthOf c y (nI (mc - (mc - (j + 1 + 1) + 1)))).toInt + _ = _
        rw [show mc - (mc - (j + 1 + 1) + 1) = j + 1 by omega]
      obtain ⟨K', a1, a2, a3, a4, a5, a6⟩ := ih (j + 1 + 1) F (r - f_X6_lengthOf c y (nI (j + 1))) (by omega) (by omega) (by omega) (Nat.lt_of_lt_of_le (lm_M h) (Nat.le_of_lt_succ hF)) (by rw [es]; omega) (by rw [es]; omega) (by rw [es]; omega)
      refine ⟨K', a1, a2, ?_, by rw [em]; exact a4, by rw [em]; exact a5, by rw [em]; exact a6⟩
      rw [em, ← a3, ml_C, if_neg (show ¬ f_X0_months c ≤ nI (j + 1) from by rw [hmc]; exact nI_ge hlt (by omega)), md_eq hc y (by rw [hmc]; exact nI_le (by omega) (by omega)) (by omega), if_neg h]
theorem rem0 {Z d : Nat} (hZ : Z ≤ 3000) (hd : 0 < d) (hd2 : d ≤ 400) : (nI Z - nI Z / nI d * nI d) = 0 ↔ Z % d = 0 := by
  rw [pk_rem (by omega) hd (by omega)]
  exact nI_eq (a := Z % d) (b := 0) (by have := Nat.mod_lt Z hd; omega) (by omega)
theorem len2 {c y : Int32} (hc2 : ¬ c = 2) : f_X6_lengthOf c y (nI 2) = if f_X6_isLeap c y = 0 then 28 else 29 := by
  unfold f_X6_lengthOf
  rw [if_neg hc2]
  rfl
theorem lsum {c : Int32} (hc : c = 0 ∨ c = 1 ∨ c = 2) {Z : Nat} (h1 : 1 ≤ Z) (hZ : Z ≤ 2699) : ∃ mc : Nat, f_X0_months c = nI mc ∧ mc ≤ 13 ∧ 1 ≤ mc ∧ lS c (nI Z) mc (mc - 1 + 1) = yI c Z - yI c (Z - 1) := by
  by_cases hc2 : c = 2
  · subst hc2
    refine ⟨13, rfl, by omega, by omega, ?_⟩
    have e : ∀ k : Nat, k < 13 → f_X6_lengthOf 2 (nI Z) (nI k) = 30 := by
      intro k hk
      unfold f_X6_lengthOf
      rw [if_pos rfl, if_neg (fun q => by have := (nI_eq (a := k) (b := 13) (by omega) (by omega)).mp q; omega)]
    have e13 : f_X6_lengthOf 2 (nI Z) (nI 13) = 5 := by
      unfold f_X6_lengthOf
      rw [if_pos rfl]
      rfl
    show lS 2 (nI Z) 13 13 = _
    simp only [lS, e13, e 12 (by omega), e 11 (by omega), e 10 (by omega), e 9 (by omega), e 8 (by omega), e 7 (by omega), e 6 (by omega), e 5 (by omega), e 4 (by omega), e 3 (by omega), e 2 (by omega), e 1 (by omega), Nat.reduceSub]
    unfold yI
    rw [if_pos rfl, if_pos rfl, show (5 : Int32).toInt = 5 from rfl, show (30 : Int32).toInt = 30 from rfl]
    omega
  · refine ⟨12, by unfold f_X0_months; rw [if_neg hc2]; rfl, by omega, by omega, ?_⟩
    have e : ∀ (k : Nat) (v : Int32), (if nI k = 2 then (if f_X6_isLeap c (nI Z) = 0 then (28 : Int32) else 29) else (if nI k = 4 then 30 else (if nI k = 6 then 30 else (if nI k = 9 then 30 else (if nI k = 11 then 30 else 31))))) = v → f_X6_lengthOf c (nI Z) (nI k) = v := by
      intro k v h
      unfold f_X6_lengthOf
      rw [if_neg hc2]
      exact h
    show lS c (nI Z) 12 12 = _
    simp only [lS, e 12 31 rfl, e 11 30 rfl, e 10 31 rfl, e 9 30 rfl, e 8 31 rfl, e 7 31 rfl, e 6 30 rfl, e 5 31 rfl, e 4 30 rfl, e 3 31 rfl, e 1 31 rfl, len2 hc2, Nat.reduceSub]
    rw [show (31 : Int32).toInt = 31 from rfl, show (30 : Int32).toInt = 30 from rfl]
    have r4 := rem0 (Z := Z) (d := 4) (by omega) (by omega) (by omega)
    have r100 := rem0 (Z := Z) (d := 100) (by omega) (by omega) (by omega)
    have r400 := rem0 (Z := Z) (d := 400) (by omega) (by omega) (by omega)
    have l1 : ((if f_X6_isLeap c (nI Z) = 0 then (28 : Int32) else 29)).toInt = 28 + (if c = 1 then (if Z % 4 = 0 then 1 else 0) else (if Z % 4 = 0 then (if Z % 100 = 0 then (if Z % 400 = 0 then 1 else 0) else 1) else 0) : Int) := by
      have i4 : (nI Z - nI Z / 4 * 4 = 0) = (Z % 4 = 0) := propext r4
      have i100 : (nI Z - nI Z / 100 * 100 = 0) = (Z % 100 = 0) := propext r100
      have i400 : (nI Z - nI Z / 400 * 400 = 0) = (Z % 400 = 0) := propext r400
      unfold f_X6_isLeap
      simp only [i4, i100, i400]
      by_cases a1 : c = 1 <;> by_cases a2 : Z % 4 = 0 <;> by_cases a3 : Z % 100 = 0 <;> by_cases a4 : Z % 400 = 0 <;> simp only [a1, a2, a3, a4, if_true, if_false] <;> rfl
    rw [l1]
    unfold yI
    rw [if_neg hc2, if_neg hc2]
    by_cases a1 : c = 1
    · rw [if_pos a1, if_pos a1, if_pos a1]
      by_cases a2 : Z % 4 = 0
      · rw [if_pos a2]; omega
      · rw [if_neg a2]; omega
    · rw [if_neg a1, if_neg a1, if_neg a1]
      by_cases a2 : Z % 4 = 0
      · by_cases a3 : Z % 100 = 0
        · by_cases a4 : Z % 400 = 0
          · rw [if_pos a2, if_pos a3, if_pos a4]; omega
          · rw [if_pos a2, if_pos a3, if_neg a4]; omega
        · rw [if_pos a2, if_neg a3]; omega
      · rw [if_neg a2]; omega
/-- what a DAY's date is, as both find it -/
theorem date_of {c d : Int32} (h0 : ¬ c < 0) (h2 : ¬ 2 < c) (hd : ¬ f_X6_isDay d = 0) :
    (fo_M c d = 0 ∧ f_X0_yearOf c d = -1) ∨ (fo_M c d = 1 ∧ ∃ Z K : Nat, 1 ≤ Z ∧ Z ≤ 2699 ∧ 1 ≤ K ∧ K ≤ 13 ∧ fy_M c d = nI Z ∧ f_X0_yearOf c d = nI Z ∧ fm_M c d = nI K ∧ ml_C c (nI Z) 14 (d - f_X0_yearStart c (nI Z)) 1 = (fd_M c d - 1, K) ∧ 1 ≤ (fd_M c d).toInt ∧ (fd_M c d).toInt ≤ (f_X6_lengthOf c (nI Z) (nI K)).toInt) := by
  have hc := c3_of' h0 h2
  obtain ⟨hD, hdD⟩ := im_D hd
  generalize d.toNatClampNeg = D at hD hdD
  obtain ⟨Z, z1, z2, z3, z4, z5, z6⟩ := year_of h0 h2 hD hdD
  rcases z6 with ⟨q, e⟩ | ⟨q, e⟩
  · right
    have hle : fy_M c d ≤ 2699 := by rw [z3]; exact nI_le (b := 2699) q (by omega)
    have hn : ¬ (2699 : Int32) < nI Z := nI_nlt (a := 2699) q (by omega)
    obtain ⟨mc, m1, m2, m3, m4⟩ := lsum hc z1 q
    obtain ⟨z, rfl⟩ : ∃ z, Z = z + 1 := ⟨Z - 1, by omega⟩
    rw [show z + 1 - 1 = z by omega] at z5 m4
    have hyi := yF_int hc (n := z) (by omega)
    have hdi : d.toInt = (D : Int) := by rw [hdD, nI_toInt (by omega)]
    have hge := yI_ge hc z
    have hle2 := yI_le hc z
    have er : (d - f_X6_yearFrom c (nI (z + 1))).toInt = (D : Int) - yI c z := by rw [sub_toInt (by omega) (by rw [hyi]; omega) (by rw [hyi]; omega) (by omega), hyi, hdi]
    obtain ⟨K, k1, k2, k3, k4, k5, k6⟩ := ml_eq (y := nI (z + 1)) hc m1 m2 14 1 ((d - f_X6_yearFrom c (nI (z + 1))).toNatClampNeg + 1) (d - f_X6_yearFrom c (nI (z + 1))) (by omega) m3 (by omega) (Nat.lt_succ_self _) (by rw [er]; omega) (by rw [er]; omega) (by rw [er, m4]; omega)
    have emq : mq_M c d = ml_M c (nI (z + 1)) ((d - f_X6_yearFrom c (nI (z + 1))).toNatClampNeg + 1) (d - f_X6_yearFrom c (nI (z + 1))) (nI 1) := by rw [mq_M, z3]; rfl
    rw [← emq] at k3 k4 k5 k6
    have hlen := len_b c (nI (z + 1)) (nI K)
    rw [lt_toInt] at k5
    have efd : (fd_M c d).toInt = (mq_M c d).1.toInt + 1 := by
      rw [fd_M, Int32.toInt_add, show (1 : Int32).toInt = 1 from rfl, Int.bmod_eq_of_le (by omega) (by omega)]
    refine ⟨by rw [fo_M, if_neg h0, if_neg h2, if_neg hd, if_pos hle], z + 1, K, z1, q, k1, by omega, z3, by rw [f_X0_yearOf, e, if_neg hn], by rw [fm_M]; exact k4, ?_, by rw [efd]; omega, by rw [efd]; omega⟩
    rw [ys_eq hc, k3, fd_M]
    simp
  · left
    have hgt : ¬ fy_M c d ≤ 2699 := by rw [z3]; exact nI_ge (a := 2699) q (by omega)
    exact ⟨by rw [fo_M, if_neg h0, if_neg h2, if_neg hd, if_neg hgt], by rw [f_X0_yearOf, if_pos e]⟩
theorem nI_m1 {Z : Nat} (hZ : Z ≤ 3000) : ¬ nI Z = -1 := by
  intro h
  have := congrArg Int32.toInt h
  rw [nI_toInt (by omega), show (-1 : Int32).toInt = -1 from rfl] at this
  omega
theorem date_eq (c d w : Int32) : f_X0_partOf c d w = f_X6_date c d w := by
  unfold f_X0_partOf f_X6_date f_X0_isCalendar
  rw [isDay_eq]
  by_cases h0 : c < 0
  · rw [if_pos h0, if_pos rfl, if_pos (show fo_M c d = 0 by rw [fo_M, if_pos h0])]
  by_cases h2 : 2 < c
  · rw [if_neg h0, if_pos h2, if_pos rfl, if_pos (show fo_M c d = 0 by rw [fo_M, if_neg h0, if_pos h2])]
  by_cases hd : f_X6_isDay d = 0
  · rw [if_neg h0, if_neg h2, if_neg (by decide), if_pos hd, if_pos (show fo_M c d = 0 by rw [fo_M, if_neg h0, if_neg h2, if_pos hd])]
  rw [if_neg h0, if_neg h2, if_neg (by decide), if_neg hd]
  rcases date_of h0 h2 hd with ⟨e1, e2⟩ | ⟨e1, Z, K, z1, z2, k1, k2, e2, e3, e4, e5, -, -⟩
  · rw [if_pos e1, e2, if_pos rfl]
    by_cases a : w < 0
    · rw [if_pos a]
    · rw [if_neg a]
      by_cases b : w ≤ 2
      · rw [if_pos b]
        by_cases b2 : w = 0
        · rw [if_pos b2]
        · rw [if_neg b2]
      · rw [if_neg b]
  · rw [if_neg (show ¬ fo_M c d = 0 by rw [e1]; decide), e3, e2, e4]
    have hZ := nI_m1 (Z := Z) (by omega)
    rw [if_neg hZ, e5]
    unfold pe_C
    by_cases w0 : w = 0
    · subst w0
      rw [if_neg (by decide), if_pos (by decide), if_pos rfl, if_pos rfl]
    · rw [if_neg w0, if_neg w0]
      by_cases w1 : w = 1
      · subst w1
        rw [if_neg (by decide), if_pos (by decide), if_pos rfl, if_pos rfl]
      · rw [if_neg w1, if_neg w1]
        by_cases w2 : w = 2
        · subst w2
          rw [if_neg (by decide), if_pos (by decide), if_pos rfl]
          simp
        · rw [if_neg w2]
          by_cases a : w < 0
          · rw [if_pos a]
          · rw [if_neg a, if_neg]
            intro b
            obtain ⟨j, hj, rfl⟩ := nI_of2 (M := 2) (n := 2) rfl a b
            rcases (show j = 0 ∨ j = 1 ∨ j = 2 by omega) with rfl | rfl | rfl
            · exact w0 rfl
            · exact w1 rfl
            · exact w2 rfl
theorem add_toInt {a b : Int32} (h1 : -1000 ≤ a.toInt) (h2 : a.toInt ≤ 2000000) (h3 : -1000 ≤ b.toInt) (h4 : b.toInt ≤ 1000) : (a + b).toInt = a.toInt + b.toInt := by
  rw [Int32.toInt_add, Int.bmod_eq_of_le (by omega) (by omega)]
/-- a valid date of February isn't FAR -/
theorem feb_near {c Y d : Int32} (hc : c = 0 ∨ c = 1 ∨ c = 2) (y1 : ¬ Y < 1) (y2 : ¬ 2699 < Y) (d1 : 1 ≤ d.toInt) (d2 : d.toInt ≤ 31) : ¬ ds_M c Y (f_X6_yearFrom c Y + d - 1) 1 = 2000000 := by
  obtain ⟨j, hj, rfl⟩ := nI_of2 (M := 2699) (n := 2699) rfl (fun q => y1 (Int32.lt_trans q (by decide))) (Int32.not_lt.mp y2)
  have hj1 : 1 ≤ j := by
    rcases Nat.eq_zero_or_pos j with q | q
    · subst q; exact absurd (by decide) y1
    · exact q
  obtain ⟨z, rfl⟩ : ∃ z, j = z + 1 := ⟨j - 1, by omega⟩
  have e1 := yF_int hc (n := z) (by omega)
  have g1 := yI_ge hc z
  have g2 := yI_le hc z
  have hl := len_b c (nI (z + 1)) (nI 1)
  intro h
  have h := congrArg Int32.toInt h
  have e2 : (f_X6_yearFrom c (nI (z + 1)) + d).toInt = yI c z + d.toInt := by rw [add_toInt (by rw [e1]; omega) (by rw [e1]; omega) (by omega) (by omega), e1]
  have e3 : (f_X6_yearFrom c (nI (z + 1)) + d - 1).toInt = yI c z + d.toInt - 1 := by
    rw [Int32.toInt_sub, e2, show (1 : Int32).toInt = 1 from rfl, Int.bmod_eq_of_le (by omega) (by omega)]
  rw [show ds_M c (nI (z + 1)) (f_X6_yearFrom c (nI (z + 1)) + d - 1) 1 = (f_X6_yearFrom c (nI (z + 1)) + d - 1) + f_X6_lengthOf c (nI (z + 1)) (nI 1) from rfl, add_toInt (by rw [e3]; omega) (by rw [e3]; omega) (by omega) (by omega), e3, show (2000000 : Int32).toInt = 2000000 from rfl] at h
  omega
theorem fo_in {c d : Int32} (h : ¬ fo_M c d = 0) : ¬ c < 0 ∧ ¬ 2 < c ∧ ¬ f_X6_isDay d = 0 := by
  have a : ¬ c < 0 := fun q => h (by rw [fo_M, if_pos q])
  have b : ¬ 2 < c := fun q => h (by rw [fo_M, if_neg a, if_pos q])
  exact ⟨a, b, fun q => h (by rw [fo_M, if_neg a, if_neg b, if_pos q])⟩
/-- where the year isn't one, or the day is past the month's: FAR -/
theorem feb_far {c Y d : Int32} (h0 : ¬ c < 0) (h2 : ¬ 2 < c) (d1 : ¬ d < 1) (h : (Y < 1 ∨ 2699 < Y) ∨ ¬ d ≤ f_X6_lengthOf c Y 2) : f_X6_dayOf c Y 2 d = 2000000 := by
  have hm : ¬ f_X6_monthsOf c < 2 := by unfold f_X6_monthsOf; split <;> decide
  rw [f_X6_dayOf, if_neg h0, if_neg h2]
  by_cases y1 : Y < 1
  · rw [if_pos y1]
  · rw [if_neg y1]
    by_cases y2 : 2699 < Y
    · rw [if_pos y2]
    · rw [if_neg y2, if_neg (by decide), if_neg hm, if_neg d1]
      rcases h with (q | q) | q
      · exact absurd q y1
      · exact absurd q y2
      · rw [if_neg q]
theorem feb_val {c Y d : Int32} (h0 : ¬ c < 0) (h2 : ¬ 2 < c) (d1 : ¬ d < 1) (y1 : ¬ Y < 1) (y2 : ¬ 2699 < Y) (hd : d ≤ f_X6_lengthOf c Y 2) : f_X6_dayOf c Y 2 d = ds_M c Y (f_X6_yearFrom c Y + d - 1) 1 := by
  have hm : ¬ f_X6_monthsOf c < 2 := by unfold f_X6_monthsOf; split <;> decide
  rw [f_X6_dayOf, if_neg h0, if_neg h2, if_neg y1, if_neg y2, if_neg (by decide), if_neg hm, if_neg d1, if_pos hd]
  rfl
theorem mar_far {c Y : Int32} (h0 : ¬ c < 0) (h2 : ¬ 2 < c) (h : Y < 1 ∨ 2699 < Y) : f_X6_day c Y 3 1 = -1 := by
  have e : f_X6_dayOf c Y 3 1 = 2000000 := by
    rw [f_X6_dayOf, if_neg h0, if_neg h2]
    by_cases y1 : Y < 1
    · rw [if_pos y1]
    · rw [if_neg y1]
      rcases h with q | q
      · exact absurd q y1
      · rw [if_pos q]
  rw [f_X6_day, e, if_pos far_0]
theorem behind_eq (c d n : Int32) : f_X6_behind c d n = if fo_M c d = 0 then -1 else (if f_X6_dayOf c (fy_M c d + n) (fm_M c d) (fd_M c d) = 2000000 then (if 2 ≤ c then f_X6_day c (fy_M c d + n) (fm_M c d) (fd_M c d) else (if fm_M c d = 2 then (if fd_M c d = 29 then f_X6_day c (fy_M c d + n) 3 1 else f_X6_day c (fy_M c d + n) (fm_M c d) (fd_M c d)) else f_X6_day c (fy_M c d + n) (fm_M c d) (fd_M c d))) else f_X6_day c (fy_M c d + n) (fm_M c d) (fd_M c d)) := rfl
theorem years_eq (c d n : Int32) : f_X0_yearsBehind c d n = f_X6_years c d n := by
  unfold f_X0_yearsBehind f_X6_years
  rw [behind_eq]
  simp only [date_eq, day_eq]
  by_cases hfo : fo_M c d = 0
  · have e : f_X6_date c d 0 = -1 := by rw [f_X6_date, if_pos hfo]
    rw [if_pos e, if_pos hfo]
    by_cases a : n < 0
    · rw [if_pos a]
    · rw [if_neg a]
      by_cases b : n ≤ 100
      · rw [if_pos b]
      · rw [if_neg b]
  obtain ⟨h0, h2, hd⟩ := fo_in hfo
  have hc := c3_of' h0 h2
  rcases date_of h0 h2 hd with ⟨e1, -⟩ | ⟨-, Z, K, z1, z2, k1, k2, e2, -, e4, -, f1, f2⟩
  · exact absurd e1 hfo
  have d0 : f_X6_date c d 0 = nI Z := by rw [f_X6_date, if_neg hfo, if_pos rfl, e2]
  have d1 : f_X6_date c d 1 = nI K := by rw [f_X6_date, if_neg hfo, if_neg (by decide), if_pos rfl, e4]
  have d2 : f_X6_date c d 2 = fd_M c d := by rw [f_X6_date, if_neg hfo, if_neg (by decide), if_neg (by decide), if_pos rfl]
  rw [d0, d1, d2, if_neg (nI_m1 (by omega)), if_neg hfo, e2, e4]
  generalize fd_M c d = dd at f1 f2
  by_cases a : n < 0
  · rw [if_pos a, if_pos a]
  rw [if_neg a, if_neg a]
  by_cases b : ¬ n ≤ 100
  · rw [if_neg b, if_neg b]
  have b : n ≤ 100 := Classical.not_not.mp b
  rw [if_pos b, if_pos b]
  generalize nI Z + n = Y
  have hdd1 : ¬ dd < 1 := by rw [lt_toInt, show (1 : Int32).toInt = 1 from rfl]; omega
  by_cases hK : ¬ nI K = 2
  · rw [if_neg hK, if_neg hK]
    by_cases q : f_X6_dayOf c Y (nI K) dd = 2000000
    · rw [if_pos q]
      by_cases q2 : 2 ≤ c
      · rw [if_pos q2]
      · rw [if_neg q2]
    · rw [if_neg q]
  have hK : nI K = 2 := Classical.not_not.mp hK
  have hK2 : K = 2 := (nI_eq (a := K) (b := 2) (by omega) (by omega)).mp hK
  subst hK2
  rw [if_pos hK, if_pos hK, show nI 2 = 2 from rfl]
  rw [show nI 2 = 2 from rfl] at f2
  have hmd : f_X0_monthDays c Y 2 = f_X6_lengthOf c Y 2 := md_eq (j := 1) hc Y (by unfold f_X0_months; split <;> decide) (by omega)
  rw [hmd]
  have hl := len_b c Y 2
  have hl0 := len_b c (nI Z) 2
  by_cases hc2 : c = 2
  · subst hc2
    have e30 : ∀ y : Int32, f_X6_lengthOf 2 y 2 = 30 := fun y => by unfold f_X6_lengthOf; rw [if_pos rfl, if_neg (by decide)]
    rw [e30, show (30 : Int32).toInt = 30 from rfl] at f2
    rw [e30, if_pos (show dd ≤ 30 by rw [Int32.le_iff_toInt_le]; exact f2), if_pos (show (2 : Int32) ≤ 2 by decide)]
    by_cases q : f_X6_dayOf 2 Y 2 dd = 2000000
    · rw [if_pos q]
    · rw [if_neg q]
  · have hc3 : ¬ 2 ≤ c := by
      rcases hc with rfl | rfl | rfl
      · decide
      · decide
      · exact absurd rfl hc2
    have l2 : ∀ y : Int32, f_X6_lengthOf c y 2 = if f_X6_isLeap c y = 0 then 28 else 29 := fun y => len2 hc2
    have b2 : ∀ y : Int32, 28 ≤ (f_X6_lengthOf c y 2).toInt ∧ (f_X6_lengthOf c y 2).toInt ≤ 29 := fun y => by
      rw [l2]
      split <;> decide
    have b28 := b2 Y
    have b29 := b2 (nI Z)
    rw [if_neg hc3]
    by_cases hle : dd ≤ f_X6_lengthOf c Y 2
    · rw [if_pos hle]
      by_cases q : f_X6_dayOf c Y 2 dd = 2000000
      · rw [if_pos q]
        by_cases q29 : dd = 29
        · rw [if_pos q29]
          have hy : Y < 1 ∨ 2699 < Y := by
            by_cases y1 : Y < 1
            · exact Or.inl y1
            · by_cases y2 : 2699 < Y
              · exact Or.inr y2
              · exact absurd (by rw [← feb_val h0 h2 hdd1 y1 y2 hle]; exact q) (feb_near hc y1 y2 f1 (by omega))
          rw [mar_far h0 h2 hy, f_X6_day, q, if_pos far_0]
        · rw [if_neg q29]
      · rw [if_neg q]
    · rw [if_neg hle]
      have q29 : dd = 29 := by
        have g := Int32.not_le.mp hle
        rw [lt_toInt] at g
        apply Int32.toInt_inj.mp
        rw [show (29 : Int32).toInt = 29 from rfl]
        omega
      rw [if_pos (feb_far h0 h2 hdd1 (Or.inr hle)), if_pos q29]
