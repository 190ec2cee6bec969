/-! the law's rows over the class's pool beside the reference's cells; own work -/
def tyL (cI cS cP cA cZ : ClassId) : List (ClassId × FieldType) := [(cI, .int), (cS, .object "DayBench$Saying"), (cP, .object "DayBench$Spans"), (cA, .array .int), (cZ, .boolean)]
theorem K_all {D : va_G} {s : State} {a : Array Value} (hK : ∀ (k : Nat) (q : vw_C), vwCl[k]? = some q → u_Kn s q.1 q.2.1 q.2.2 (D.1 k) (D.2 k)) (h1 : (Cond.arrayClass .int).before a s = true) (h2 : va_AO "DayBench$Saying" s) (h3 : va_AO "DayBench$Spans" s) (h4 : va_AOA .int s) (h5 : (Cond.arrayClass .boolean).before a s = true) : ∃ cI cS cP cA cZ : ClassId, va_K D vwCl (tyL cI cS cP cA cZ) s := by
  obtain ⟨cI, kI, coI, i1, i2, i3⟩ := Cond.arrayClass_spec h1
  obtain ⟨cZ, kZ, coZ, z1, z2, z3⟩ := Cond.arrayClass_spec h5
  obtain ⟨coS, cS, kS, s1, -, s2, s3, s4⟩ := Cond.arrayOver_spec h2
  obtain ⟨coP, cP, kP, p1, -, p2, p3, p4⟩ := Cond.arrayOver_spec h3
  obtain ⟨coA, cA, kA, a1, -, a2, a3, a4⟩ := arrayOverA_spec h4
  refine ⟨cI, cS, cP, cA, cZ, hK, fun k q hq => ?_⟩
  match k, hq with
  | 0, hq => cases hq; exact ⟨fun n z => ⟨fun k h => (by cases h), kI, i2, coI, i3⟩, i1⟩
  | 1, hq => cases hq; exact ⟨fun n z => ⟨fun k h => (by cases h), kS, s2, coS, s3⟩, kS, coS, s2, s3, s1, s4⟩
  | 2, hq => cases hq; exact ⟨fun n z => ⟨fun k h => (by cases h), kP, p2, coP, p3⟩, kP, coP, p2, p3, p1, p4⟩
  | 3, hq => cases hq; exact ⟨fun n z => ⟨fun k h => (by cases h), kA, a2, coA, a3⟩, a4⟩
  | 4, hq => cases hq; exact ⟨fun n z => ⟨fun k h => (by cases h), kZ, z2, coZ, z3⟩, z1⟩
  | k + 5, hq => simp [tyL] at hq
section LWR
variable {p : Program} {l : Launch} {e : Env} {R : Room} {s : State} {m : MethodId} {args : Array Value} {below : List Frame} {meth : Method} {c : Code} {H : Heap} {locs : List Loc} {cells slots : Nat} {Q : State → Prop}
variable {X : va_W} {A : Nat → Prop} {dC : Nat → ClassId} {dI : Nat → Nat → Nat} {cI cS cP cA : ClassId} {L : List Nat} {tg : Nat → Nat} {f : Nat → va_E}
theorem lw_hLA (hD : va_D A (X ++ va_pl L f)) : ∀ q : Nat, q ∈ L → A q := fun q hq => by
  obtain ⟨k, hk⟩ := va_pl_get (X := X) (f := f) hq
  exact hD.2 k _ hk
theorem lw_poolP (hP : va_P (dC, dI) vwCl (X ++ va_pl L f) H) : va_P (dC, dI) vwCl (va_pl L f) H := hP.part (cx := []) [] rfl
theorem lw_tPre {U : State} (hP : va_P (dC, dI) vwCl (X ++ va_pl L f) H) (hD : va_D A (X ++ va_pl L f)) (hK : va_K (dC, dI) vwCl (tyC cI cS cP cA) s) (hcm : cmL A s) (hS : va_S A s.heap H locs) (hU : U.heap = H) (hW : s.WarmedH U.vm) : tPre dC dI cI cS cP cA L f U := ⟨by rw [hU]; exact lw_poolP hP, va_K.moved hW.alike hK, cm_pool hcm hS hU hW (lw_hLA hD)⟩
theorem lw_recv {a t ci : Nat} {ps : List (Nat × Nat)} {q : vw_C} {tys : List (ClassId × FieldType)} (hK : va_K (dC, dI) vwCl tys s) (hP : va_P (dC, dI) vwCl (X ++ va_pl L f) H) (hI : PI cI cS cP cA L tg f) (hm : a ∈ L) (ht : tg a = t) (hok : ∀ e, okT cI cS cP cA L tg t e = okO L tg ci ps e) (hc : vwCl[ci]? = some q) : ∃ cell : Cell, H[a]? = some cell ∧ cell.vm.isStatics = false ∧ s.vm.findClass q.1 = some cell.cls := by
  have h1 := hI a hm
  rw [ht, hok] at h1
  obtain ⟨fs, e1, -, -⟩ := h1
  obtain ⟨k9, e9⟩ := va_pl_get (X := X) (f := f) hm
  rw [e1] at e9
  exact va_recv hK hP hc e9
/-- behind a call on the class: the other cells are as they were -/
theorem lw_joinC {f1 : Nat → va_E} {H1 : Heap} (hP : va_P (dC, dI) vwCl (X ++ va_pl L f) H) (hD : va_D A (X ++ va_pl L f)) (hk : ∀ q : Nat, q < H.size → ¬ q ∈ L → H1[q]? = H[q]?) (hP1 : va_P (dC, dI) vwCl (va_pl L f1) H1) : va_P (dC, dI) vwCl (X ++ va_pl L f1) H1 ∧ va_D A (X ++ va_pl L f1) := by
  have hX : ∀ (k : Nat) (q : Nat × va_E), X[k]? = some q → (X ++ va_pl L f)[k]? = some q := fun k q h => by
    rw [List.getElem?_append_left (List.getElem?_eq_some_iff.mp h).1]
    exact h
  have hn : ∀ (k : Nat) (q : Nat × va_E), X[k]? = some q → q.1 ∉ L := fun k q h hq => by
    obtain ⟨j, hj⟩ := List.getElem?_of_mem (show (q.1, f q.1) ∈ va_pl L f from List.mem_map.mpr ⟨q.1, hq, rfl⟩)
    have h3 : (X ++ va_pl L f)[X.length + j]? = some (q.1, f q.1) := by
      rw [List.getElem?_append_right (by omega), Nat.add_sub_cancel_left]
      exact hj
    have h4 := hD.1 _ _ _ _ (hX k q h) h3 rfl
    have h5 := (List.getElem?_eq_some_iff.mp h).1
    omega
  refine ⟨va_P.app (fun k q h => (hP k q (hX k q h)).kept (hk q.1 ((hP k q (hX k q h)).lt) (hn k q h))) hP1, ?_⟩
  have same : ∀ (k : Nat) (q : Nat × va_E), (X ++ va_pl L f1)[k]? = some q → ∃ e : va_E, (X ++ va_pl L f)[k]? = some (q.1, e) := fun k q h => by
    by_cases hl : k < X.length
    · rw [List.getElem?_append_left hl] at h
      exact ⟨q.2, hX k q h⟩
    · rw [List.getElem?_append_right (by omega)] at h
      rw [List.getElem?_append_right (by omega)]
      unfold va_pl at h ⊢
      rw [List.getElem?_map] at h ⊢
      cases hb : L[k - X.length]? with
      | none => rw [hb] at h; cases h
      | some b => rw [hb] at h; cases h; exact ⟨f b, rfl⟩
  refine ⟨fun i j x y hx hy hxy => ?_, fun k q h => ?_⟩
  · obtain ⟨e1, h1⟩ := same i x hx
    obtain ⟨e2, h2⟩ := same j y hy
    exact hD.1 i j _ _ h1 h2 hxy
  · obtain ⟨e1, h1⟩ := same k q h
    exact hD.2 k (q.1, e1) h1
theorem pl_nd (hD : va_D A (X ++ va_pl L f)) : L.Nodup := by
  rw [List.Nodup, List.pairwise_iff_getElem]
  intro i j hi hj hij he
  have at' : ∀ (i : Nat) (hi : i < L.length), (X ++ va_pl L f)[X.length + i]? = some (L[i], f L[i]) := fun i hi => by
    rw [List.getElem?_append_right (by omega), Nat.add_sub_cancel_left]
    unfold va_pl
    rw [List.getElem?_map, List.getElem?_eq_getElem hi]
    rfl
  have h := hD.1 _ _ _ _ (at' i hi) (at' j hj) he
  omega
end LWR
theorem lw_in {Ln t : Nat} (hL : Ln ≤ 3584) (ht : 7 * t ≤ 3584) (h : ¬ (Int32.ofNat Ln - 7) < nI (7 * t)) : 7 * t + 7 ≤ Ln := by
  rw [Int32.lt_iff_toInt_lt, nI_toInt (by omega)] at h
  have e : (Int32.ofNat Ln - 7).toInt = (Ln : Int) - 7 := pk_sub_toInt (a := Ln) (b := 7) (by omega) (by omega)
  rw [e] at h
  omega
theorem kg_mn (a b c : Int32) {n : Nat} (hn : n ≤ 6) : kg_m a b c n = kg_n a b c n ∧ kg_c a b c n = kg_r a b c n := by
  have hk := king_eq a b c
  rw [f_X6_king] at hk
  unfold kg_m kg_n kg_c kg_r
  by_cases h6 : n = 6
  · subst h6
    constructor <;> (repeat' split) <;> first | rfl | omega
  · rw [if_neg (show ¬ 6 ≤ n by omega), if_neg (show ¬ 6 ≤ n by omega)]
    by_cases a1 : a < 0
    · rw [if_pos a1, if_pos a1]
      rw [if_pos a1] at hk
      by_cases c1 : f_X0_isCalendar a = 0
      · rw [if_pos c1, if_pos c1]; exact ⟨rfl, rfl⟩
      · rw [if_neg c1] at hk
        rw [if_neg c1, if_neg c1]
        by_cases c2 : f_X5_isRowOfDays b c = 0
        · rw [if_pos c2, if_pos c2]; exact ⟨rfl, rfl⟩
        · rw [if_neg c2] at hk; exact absurd hk (by decide)
    · rw [if_neg a1, if_neg a1]
      rw [if_neg a1] at hk
      by_cases a2 : 2 < a
      · rw [if_pos a2, if_pos a2]
        rw [if_pos a2] at hk
        by_cases c1 : f_X0_isCalendar a = 0
        · rw [if_pos c1, if_pos c1]; exact ⟨rfl, rfl⟩
        · rw [if_neg c1] at hk
          rw [if_neg c1, if_neg c1]
          by_cases c2 : f_X5_isRowOfDays b c = 0
          · rw [if_pos c2, if_pos c2]; exact ⟨rfl, rfl⟩
          · rw [if_neg c2] at hk; exact absurd hk (by decide)
      · rw [if_neg a2, if_neg a2]
        rw [if_neg a2] at hk
        by_cases a3 : f_X6_isDay b = 0
        · rw [if_pos a3, if_pos a3]
          rw [if_pos a3] at hk
          by_cases c1 : f_X0_isCalendar a = 0
          · rw [if_pos c1, if_pos c1]; exact ⟨rfl, rfl⟩
          · rw [if_neg c1] at hk
            rw [if_neg c1, if_neg c1]
            by_cases c2 : f_X5_isRowOfDays b c = 0
            · rw [if_pos c2, if_pos c2]; exact ⟨rfl, rfl⟩
            · rw [if_neg c2] at hk; exact absurd hk (by decide)
        · rw [if_neg a3, if_neg a3]
          rw [if_neg a3] at hk
          by_cases a4 : f_X6_isDay c = 0
          · rw [if_pos a4, if_pos a4]
            rw [if_pos a4] at hk
            by_cases c1 : f_X0_isCalendar a = 0
            · rw [if_pos c1, if_pos c1]; exact ⟨rfl, rfl⟩
            · rw [if_neg c1] at hk
              rw [if_neg c1, if_neg c1]
              by_cases c2 : f_X5_isRowOfDays b c = 0
              · rw [if_pos c2, if_pos c2]; exact ⟨rfl, rfl⟩
              · rw [if_neg c2] at hk; exact absurd hk (by decide)
          · rw [if_neg a4, if_neg a4]
            rw [if_neg a4] at hk
            by_cases a5 : c < b
            · rw [if_pos a5, if_pos a5]
              rw [if_pos a5] at hk
              by_cases c1 : f_X0_isCalendar a = 0
              · rw [if_pos c1, if_pos c1]; exact ⟨rfl, rfl⟩
              · rw [if_neg c1] at hk
                rw [if_neg c1, if_neg c1]
                by_cases c2 : f_X5_isRowOfDays b c = 0
                · rw [if_pos c2, if_pos c2]; exact ⟨rfl, rfl⟩
                · rw [if_neg c2] at hk; exact absurd hk (by decide)
            · rw [if_neg a5, if_neg a5, if_neg h6, if_neg h6]
              rw [if_neg a5] at hk
              by_cases c1 : f_X0_isCalendar a = 0
              · rw [if_pos c1] at hk; exact absurd hk (by decide)
              · rw [if_neg c1] at hk
                rw [if_neg c1, if_neg c1]
                by_cases c2 : f_X5_isRowOfDays b c = 0
                · rw [if_pos c2] at hk; exact absurd hk (by decide)
                · rw [if_neg c2, if_neg c2]; exact ⟨rfl, rfl⟩
theorem kg_n_le (a b c : Int32) {n : Nat} (hn : n ≤ 6) : kg_n a b c n ≤ 6 := by
  unfold kg_n
  repeat' split
  all_goals omega
theorem ev_n_le {n : Nat} (hn : n ≤ 6) : ev_n n ≤ 6 := by
  unfold ev_n
  split <;> omega
