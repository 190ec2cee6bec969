/-! a date's days in two years differ; own work -/
theorem ds_b {c y : Int32} : ∀ (k : Nat) (a : Int32), k ≤ 13 → -100 ≤ a.toInt → a.toInt ≤ 1100000 → a.toInt + 5 * (k : Int) ≤ (ds_M c y a k).toInt ∧ (ds_M c y a k).toInt ≤ a.toInt + 31 * (k : Int)
  | 0, a, _, _, _ => by
    show a.toInt + 5 * ((0 : Nat) : Int) ≤ a.toInt ∧ a.toInt ≤ a.toInt + 31 * ((0 : Nat) : Int)
    omega
  | k + 1, a, hk, h1, h2 => by
    have ih := ds_b (c := c) (y := y) k a (by omega) h1 h2
    have hl := len_b c y (nI (k + 1))
    have e : (ds_M c y a k + f_X6_lengthOf c y (nI (k + 1))).toInt = (ds_M c y a k).toInt + (f_X6_lengthOf c y (nI (k + 1))).toInt := add_toInt (by omega) (by omega) (by omega) (by omega)
    show a.toInt + 5 * ((k + 1 : Nat) : Int) ≤ (ds_M c y a k + f_X6_lengthOf c y (nI (k + 1))).toInt ∧ (ds_M c y a k + f_X6_lengthOf c y (nI (k + 1))).toInt ≤ a.toInt + 31 * ((k + 1 : Nat) : Int)
    omega
theorem yI_up {c : Int32} (hc : c = 0 ∨ c = 1 ∨ c = 2) {n m : Nat} (h : n < m) (hm : m < n + 10) : yI c n + 364 ≤ yI c m := by
  unfold yI
  rcases hc with rfl | rfl | rfl
  · rw [if_neg (by decide), if_neg (by decide), if_neg (by decide), if_neg (by decide)]
    omega
  · rw [if_neg (by decide), if_pos rfl, if_neg (by decide), if_pos rfl]
    omega
  · rw [if_pos rfl, if_pos rfl]
    omega
/-- the day, if it is one, is the sum -/
theorem dayOf_sum {c m d : Int32} {Y : Nat} (hY : Y < 3000) (h : ¬ f_X6_isDay (f_X6_dayOf c (nI Y) m d) = 0) : (c = 0 ∨ c = 1 ∨ c = 2) ∧ 1 ≤ Y ∧ Y ≤ 2699 ∧ 1 ≤ d.toInt ∧ d.toInt ≤ 31 ∧ m.toNatClampNeg - 1 ≤ 12 ∧ f_X6_dayOf c (nI Y) m d = ds_M c (nI Y) (f_X6_yearFrom c (nI Y) + d - 1) (m.toNatClampNeg - 1) := by
  rw [f_X6_dayOf] at h ⊢
  by_cases a1 : c < 0
  · rw [if_pos a1] at h; exact absurd far_0 h
  rw [if_neg a1] at h ⊢
  by_cases a2 : 2 < c
  · rw [if_pos a2] at h; exact absurd far_0 h
  rw [if_neg a2] at h ⊢
  by_cases a3 : nI Y < 1
  · rw [if_pos a3] at h; exact absurd far_0 h
  rw [if_neg a3] at h ⊢
  by_cases a4 : 2699 < nI Y
  · rw [if_pos a4] at h; exact absurd far_0 h
  rw [if_neg a4] at h ⊢
  by_cases a5 : m < 1
  · rw [if_pos a5] at h; exact absurd far_0 h
  rw [if_neg a5] at h ⊢
  by_cases a6 : f_X6_monthsOf c < m
  · rw [if_pos a6] at h; exact absurd far_0 h
  rw [if_neg a6] at h ⊢
  by_cases a7 : d < 1
  · rw [if_pos a7] at h; exact absurd far_0 h
  rw [if_neg a7] at h ⊢
  by_cases a8 : d ≤ f_X6_lengthOf c (nI Y) m
  · rw [if_pos a8]
    have y1 : ¬ Y < 1 := fun q => a3 ((nI_ltI (a := Y) (b := 1) (by omega) (by omega)).mpr q)
    have y2 : ¬ 2699 < Y := fun q => a4 ((nI_ltI (a := 2699) (b := Y) (by omega) (by omega)).mpr q)
    obtain ⟨M, hM, -, eM⟩ := dm_M' (a := c) a5 (show ¬ f_X0_months c < m from a6)
    have hl := len_b c (nI Y) m
    rw [Int32.lt_iff_toInt_lt] at a7
    rw [Int32.le_iff_toInt_le] at a8
    have e1 : (1 : Int32).toInt = 1 := rfl
    exact ⟨c3_of' a1 a2, by omega, by omega, by omega, by omega, by omega, rfl⟩
  · rw [if_neg a8] at h; exact absurd far_0 h
theorem day_ne {c m d : Int32} {Y Z : Nat} (hYZ : Y < Z) (hZ : Z < Y + 10) (hZ3 : Z < 3000) (h1 : ¬ f_X6_isDay (f_X6_dayOf c (nI Y) m d) = 0) (h2 : ¬ f_X6_isDay (f_X6_dayOf c (nI Z) m d) = 0) : ¬ f_X6_dayOf c (nI Y) m d = f_X6_dayOf c (nI Z) m d := by
  obtain ⟨hc, y1, y2, d1, d2, hm, e1⟩ := dayOf_sum (by omega) h1
  obtain ⟨-, z1, z2, -, -, -, e2⟩ := dayOf_sum (by omega) h2
  intro q
  rw [e1, e2] at q
  have qi := congrArg Int32.toInt q
  have fy : ∀ W : Nat, 1 ≤ W → W ≤ 2699 → (f_X6_yearFrom c (nI W) + d - 1).toInt = yI c (W - 1) + d.toInt - 1 := fun W w1 w2 => by
    have g := yF_int hc (n := W - 1) (by omega)
    rw [show W - 1 + 1 = W by omega] at g
    have u1 := yI_le hc (W - 1)
    have u2 := yI_ge hc (W - 1)
    have s1 : (f_X6_yearFrom c (nI W) + d).toInt = (f_X6_yearFrom c (nI W)).toInt + d.toInt := add_toInt (by rw [g]; omega) (by rw [g]; omega) (by omega) (by omega)
    have s2 : (f_X6_yearFrom c (nI W) + d - 1).toInt = (f_X6_yearFrom c (nI W) + d).toInt + (-1 : Int32).toInt := by
      rw [Int32.sub_eq_add_neg]
      exact add_toInt (by rw [s1, g]; omega) (by rw [s1, g]; omega) (by decide) (by decide)
    rw [s2, s1, g]
    have : (-1 : Int32).toInt = -1 := rfl
    omega
  have b1 := ds_b (c := c) (y := nI Y) (m.toNatClampNeg - 1) (f_X6_yearFrom c (nI Y) + d - 1) (by omega) (by rw [fy Y y1 y2]; have := yI_ge hc (Y - 1); omega) (by rw [fy Y y1 y2]; have := yI_le hc (Y - 1); omega)
  have b2 := ds_b (c := c) (y := nI Z) (m.toNatClampNeg - 1) (f_X6_yearFrom c (nI Z) + d - 1) (by omega) (by rw [fy Z z1 z2]; have := yI_ge hc (Z - 1); omega) (by rw [fy Z z1 z2]; have := yI_le hc (Z - 1); omega)
  rw [fy Y y1 y2] at b1
  rw [fy Z z1 z2] at b2
  have up := yI_up hc (n := Y - 1) (m := Z - 1) (by omega) (by omega)
  omega
/-- the feast's days -/
def feD (a b c : Int32) (i : Nat) : Int32 := f_X6_dayOf a (b + nI i) (c / 100) (c - c / 100 * 100)
theorem feD_ne {a b c : Int32} (b1 : ¬ b < 1) (b2 : b ≤ 2699) {i j : Nat} (hij : i < j) (hj : j < 10) (h1 : ¬ f_X6_isDay (feD a b c i) = 0) (h2 : ¬ f_X6_isDay (feD a b c j) = 0) : ¬ feD a b c i = feD a b c j := by
  obtain ⟨B, hB, rfl⟩ := nI_of (x := b) (fun q => b1 (Int32.lt_trans q (by decide)))
  have hB2 : B ≤ 2699 := (nI_leI (a := B) (b := 2699) hB (by omega)).mp b2
  unfold feD at h1 h2 ⊢
  rw [nI_add] at h1 h2 ⊢
  rw [nI_add]
  exact day_ne (by omega) (by omega) (by omega) h1 h2
