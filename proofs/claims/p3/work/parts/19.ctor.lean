/-! constructors: cells go into the pool as they stand; own work -/
def Gr (L : List Nat) (tg : Nat → Nat) (L' : List Nat) (tg' : Nat → Nat) : Prop := ∀ a : Nat, a ∈ L → a ∈ L' ∧ tg' a = tg a
theorem Gr.at {L : List Nat} {tg : Nat → Nat} {L' : List Nat} {tg' : Nat → Nat} (g : Gr L tg L' tg') {a t : Nat} (h : a ∈ L ∧ tg a = t) : a ∈ L' ∧ tg' a = t := ⟨(g a h.1).1, (g a h.1).2.trans h.2⟩
theorem tv.up {L : List Nat} {tg : Nat → Nat} {L' : List Nat} {tg' : Nat → Nat} (g : Gr L tg L' tg') {p : Nat × Nat} {v : Value} (h : tv L tg p v) : tv L' tg' p v := by
  obtain ⟨k, n⟩ := p
  match k with
  | 0 =>
    obtain ⟨b, e, hb, ht⟩ := h
    exact ⟨b, e, (g.at ⟨hb, ht⟩).1, (g.at ⟨hb, ht⟩).2⟩
  | 1 => exact h
  | 2 => exact h
  | 3 => exact h
  | (k + 4) => exact h
theorem okO.up {L : List Nat} {tg : Nat → Nat} {L' : List Nat} {tg' : Nat → Nat} (g : Gr L tg L' tg') {ci : Nat} {ps : List (Nat × Nat)} {e : va_E} (h : okO L tg ci ps e) : okO L' tg' ci ps e := by
  obtain ⟨fs, e1, hl, h2⟩ := h
  refine ⟨fs, e1, hl, fun k p hp => ?_⟩
  obtain ⟨v, a, b⟩ := h2 k p hp
  exact ⟨v, a, b.up g⟩
theorem okR.up {L : List Nat} {tg : Nat → Nat} {L' : List Nat} {tg' : Nat → Nat} (g : Gr L tg L' tg') {cR : ClassId} {n t : Nat} {e : va_E} (h : okR L tg cR n t e) : okR L' tg' cR n t e := by
  obtain ⟨q, e1, h2⟩ := h
  refine ⟨q, e1, fun i hi => ?_⟩
  obtain ⟨b, a, c, d⟩ := h2 i hi
  exact ⟨b, a, (g.at ⟨c, d⟩).1, (g.at ⟨c, d⟩).2⟩
theorem okT.up {cI cS cP cA : ClassId} {L : List Nat} {tg : Nat → Nat} {L' : List Nat} {tg' : Nat → Nat} (g : Gr L tg L' tg') {t : Nat} (ht : t < 13) {e : va_E} (h : okT cI cS cP cA L tg t e) : okT cI cS cP cA L' tg' t e := by
  match t, ht with
  | 0, _ => exact okO.up g (show okO L tg _ _ _ from h)
  | 1, _ => exact okO.up g (show okO L tg _ _ _ from h)
  | 2, _ => exact h
  | 3, _ => exact h
  | 4, _ => exact okO.up g (show okO L tg _ _ _ from h)
  | 5, _ => exact okO.up g (show okO L tg _ _ _ from h)
  | 6, _ => exact okO.up g (show okO L tg _ _ _ from h)
  | 7, _ => exact h
  | 8, _ => exact h
  | 9, _ => exact okR.up g (show okR L tg _ _ _ _ from h)
  | 10, _ => exact okR.up g (show okR L tg _ _ _ _ from h)
  | 11, _ => exact okR.up g (show okR L tg _ _ _ _ from h)
  | 12, _ => exact okR.up g (show okR L tg _ _ _ _ from h)
  | (k + 13), h9 => exact absurd h9 (by omega)
def okL (L : List Nat) (tg : Nat → Nat) : List (Nat × Nat) → List Value → Prop
  | [], [] => True
  | p :: ps, v :: vs => tv L tg p v ∧ okL L tg ps vs
  | _, _ => False
theorem okL_O {L : List Nat} {tg : Nat → Nat} (ci : Nat) : ∀ (ps : List (Nat × Nat)) (fs : List Value), okL L tg ps fs → okO L tg ci ps (.inr (ci, fs))
  | [], [], _ => ⟨[], rfl, rfl, fun k p h => by simp at h⟩
  | p :: ps, v :: vs, h => by
    obtain ⟨fs, e1, hl, h2⟩ := okL_O ci ps vs h.2
    cases e1
    refine ⟨_, rfl, by simp [hl], fun k q hq => ?_⟩
    cases k with
    | zero => cases hq; exact ⟨v, rfl, h.1⟩
    | succ k => exact h2 k q hq
  | [], _ :: _, h => h.elim
  | _ :: _, [], h => h.elim
/-- a reference array so far -/
def RAk (n : Nat) (g : Nat → Option Nat) (L : List Nat) (tg : Nat → Nat) (t : Nat) : Prop := ∀ i : Nat, i < n → ∃ b : Nat, g i = some b ∧ b ∈ L ∧ tg b = t
theorem RAk.up {n : Nat} {q : Nat → Option Nat} {L : List Nat} {tg : Nat → Nat} {L' : List Nat} {tg' : Nat → Nat} {t : Nat} (h : RAk n q L tg t) (g : Gr L tg L' tg') : RAk n q L' tg' t := fun i hi => by
  obtain ⟨b, a, c, d⟩ := h i hi
  exact ⟨b, a, (g.at ⟨c, d⟩).1, (g.at ⟨c, d⟩).2⟩
theorem RAk.set {n : Nat} {q : Nat → Option Nat} {L : List Nat} {tg : Nat → Nat} {t : Nat} (h : RAk n q L tg t) {i : Int32} (hi : i.toNatClampNeg = n) {b : Nat} (hb : b ∈ L ∧ tg b = t) : RAk (n + 1) (va_up q i.toNatClampNeg (some b)) L tg t := fun j hj => by
  rw [hi]
  by_cases e : j = n
  · subst e
    exact ⟨b, va_up_self _ _ _, hb⟩
  · rw [va_up_ne _ _ e]
    exact h j (by omega)
theorem pl_in {X : va_W} {L : List Nat} {f : Nat → va_E} {A : Nat → Prop} {a : Nat} {e : va_E} (hD : va_D A ((X ++ [(a, e)]) ++ va_pl L f)) : a ∉ L := by
  intro h
  have h2 : ((X ++ [(a, e)]) ++ va_pl L f)[X.length]? = some (a, e) := by
    rw [List.append_assoc, List.getElem?_append_right (Nat.le_refl _), Nat.sub_self]
    rfl
  obtain ⟨j, hj⟩ := List.getElem?_of_mem (show (a, f a) ∈ va_pl L f from List.mem_map.mpr ⟨a, h, rfl⟩)
  have h3 : ((X ++ [(a, e)]) ++ va_pl L f)[(X ++ [(a, e)]).length + j]? = some (a, f a) := by
    rw [List.getElem?_append_right (by omega), Nat.add_sub_cancel_left]
    exact hj
  have h4 := hD.1 _ _ _ _ h3 h2 rfl
  rw [List.length_append] at h4
  have h5 : ([(a, e)] : va_W).length = 1 := rfl
  omega
/-- a cell that stands goes into the pool -/
theorem cw_abs {dC : Nat → ClassId} {dI : Nat → Nat → Nat} {cI cS cP cA : ClassId} {X : va_W} {L : List Nat} {tg : Nat → Nat} {f : Nat → va_E} {A : Nat → Prop} {H : Heap} {a : Nat} {e : va_E} (hP : va_P (dC, dI) vwCl ((X ++ [(a, e)]) ++ va_pl L f) H) (hD : va_D A ((X ++ [(a, e)]) ++ va_pl L f)) (hI : PI cI cS cP cA L tg f) (hT : ∀ a : Nat, a ∈ L → tg a < 13) (t : Nat) (ht : t < 13) (he : okT cI cS cP cA L tg t e) : ∃ (L' : List Nat) (tg' : Nat → Nat) (f' : Nat → va_E), va_P (dC, dI) vwCl (X ++ va_pl L' f') H ∧ va_D A (X ++ va_pl L' f') ∧ PI cI cS cP cA L' tg' f' ∧ (∀ a : Nat, a ∈ L' → tg' a < 13) ∧ Gr L tg L' tg' ∧ (a ∈ L' ∧ tg' a = t) ∧ f' a = e := by
  have hn := pl_in hD
  have hne : ∀ b : Nat, b ∈ L → b ≠ a := fun b hb q => hn (q ▸ hb)
  have e1 : (X ++ [(a, e)]) ++ va_pl L f = X ++ va_pl (a :: L) (va_up f a e) := by
    rw [List.append_assoc]
    congr 1
    unfold va_pl
    rw [List.map_cons, va_up_self]
    show (a, e) :: _ = _
    congr 1
    apply List.map_congr_left
    intro b hb
    rw [va_up_ne _ _ (hne b hb)]
  have g : Gr L tg (a :: L) (va_up tg a t) := fun b hb => ⟨List.mem_cons_of_mem _ hb, va_up_ne _ _ (hne b hb)⟩
  refine ⟨a :: L, va_up tg a t, va_up f a e, e1 ▸ hP, e1 ▸ hD, fun b hb => ?_, fun b hb => ?_, g, ⟨List.mem_cons_self, va_up_self _ _ _⟩, va_up_self _ _ _⟩
  · rcases List.mem_cons.mp hb with q | q
    · subst q
      rw [va_up_self, va_up_self]
      exact okT.up g ht he
    · rw [va_up_ne _ _ (hne b q), va_up_ne _ _ (hne b q)]
      exact okT.up g (hT b q) (hI b q)
  · rcases List.mem_cons.mp hb with q | q
    · subst q
      rw [va_up_self]
      exact ht
    · rw [va_up_ne _ _ (hne b q)]
      exact hT b q
/-- a pool beside a pool -/
theorem cw_join {dC : Nat → ClassId} {dI : Nat → Nat → Nat} {cI cS cP cA : ClassId} {X : va_W} {L L1 : List Nat} {tg tg1 : Nat → Nat} {f f1 : Nat → va_E} {A : Nat → Prop} {H : Heap} (hP : va_P (dC, dI) vwCl ((X ++ va_pl L1 f1) ++ va_pl L f) H) (hD : va_D A ((X ++ va_pl L1 f1) ++ va_pl L f)) (hI : PI cI cS cP cA L tg f) (hT : ∀ a : Nat, a ∈ L → tg a < 13) (hI1 : PI cI cS cP cA L1 tg1 f1) (hT1 : ∀ a : Nat, a ∈ L1 → tg1 a < 13) : ∃ (L' : List Nat) (tg' : Nat → Nat) (f' : Nat → va_E), va_P (dC, dI) vwCl (X ++ va_pl L' f') H ∧ va_D A (X ++ va_pl L' f') ∧ PI cI cS cP cA L' tg' f' ∧ (∀ a : Nat, a ∈ L' → tg' a < 13) ∧ Gr L tg L' tg' ∧ Gr L1 tg1 L' tg' := by
  have hne : ∀ b : Nat, b ∈ L → b ∉ L1 := fun b hb h1 => by
    obtain ⟨j, hj⟩ := List.getElem?_of_mem (show (b, f b) ∈ va_pl L f from List.mem_map.mpr ⟨b, hb, rfl⟩)
    obtain ⟨i, hi⟩ := List.getElem?_of_mem (show (b, f1 b) ∈ va_pl L1 f1 from List.mem_map.mpr ⟨b, h1, rfl⟩)
    have il := (List.getElem?_eq_some_iff.mp hi).1
    have h2 : ((X ++ va_pl L1 f1) ++ va_pl L f)[X.length + i]? = some (b, f1 b) := by
      rw [List.getElem?_append_left (by rw [List.length_append]; omega), List.getElem?_append_right (by omega), Nat.add_sub_cancel_left]
      exact hi
    have h3 : ((X ++ va_pl L1 f1) ++ va_pl L f)[(X ++ va_pl L1 f1).length + j]? = some (b, f b) := by
      rw [List.getElem?_append_right (by omega), Nat.add_sub_cancel_left]
      exact hj
    have := hD.1 _ _ _ _ h2 h3 rfl
    rw [List.length_append] at this
    omega
  have e1 : (X ++ va_pl L1 f1) ++ va_pl L f = X ++ va_pl (L1 ++ L) (fun a => if a ∈ L1 then f1 a else f a) := by
    rw [List.append_assoc]
    congr 1
    unfold va_pl
    rw [List.map_append]
    congr 1
    · apply List.map_congr_left
      intro b hb
      show (b, f1 b) = (b, if b ∈ L1 then f1 b else f b)
      rw [if_pos hb]
    · apply List.map_congr_left
      intro b hb
      show (b, f b) = (b, if b ∈ L1 then f1 b else f b)
      rw [if_neg (hne b hb)]
  have g : Gr L tg (L1 ++ L) (fun a => if a ∈ L1 then tg1 a else tg a) := fun b hb => ⟨List.mem_append_right _ hb, if_neg (hne b hb)⟩
  have g1 : Gr L1 tg1 (L1 ++ L) (fun a => if a ∈ L1 then tg1 a else tg a) := fun b hb => ⟨List.mem_append_left _ hb, if_pos hb⟩
  refine ⟨L1 ++ L, fun a => if a ∈ L1 then tg1 a else tg a, fun a => if a ∈ L1 then f1 a else f a, e1 ▸ hP, e1 ▸ hD, fun b hb => ?_, fun b hb => ?_, g, g1⟩
  · show okT _ _ _ _ _ _ (if b ∈ L1 then tg1 b else tg b) (if b ∈ L1 then f1 b else f b)
    by_cases q : b ∈ L1
    · rw [if_pos q, if_pos q]
      exact okT.up g1 (hT1 b q) (hI1 b q)
    · rw [if_neg q, if_neg q]
      have hbL := (List.mem_append.mp hb).resolve_left q
      exact okT.up g (hT b hbL) (hI b hbL)
  · show (if b ∈ L1 then tg1 b else tg b) < 13
    by_cases q : b ∈ L1
    · rw [if_pos q]
      exact hT1 b q
    · rw [if_neg q]
      exact hT b ((List.mem_append.mp hb).resolve_left q)
section CTR
variable {p : Program} {l : Launch} {e : Env} {R : Room} {s : State} {m : MethodId} {args : Array Value} {below : List Frame} {meth : Method} {c : Code} {H : Heap} {locs : List Loc} {cells slots : Nat} {Q : State → Prop}
variable {cc : ByteArray} {pc : Nat} {ls : Array Slot} {rest : List Value} {A : Nat → Prop} {H0 : Heap} {X : va_W}
variable {dC : Nat → ClassId} {dI : Nat → Nat → Nat} {cI cS cP cA : ClassId} {L : List Nat} {tg : Nat → Nat} {f : Nat → va_E}
theorem ar_same {D : va_G} {tys : List (ClassId × FieldType)} {s : State} (hK : va_K D vwCl tys s) (j i : Nat) {c0 c1 : ClassId} {ty : FieldType} (hj : tys[j]? = some (c1, ty)) (hi : tys[i]? = some (c0, ty)) : c0 = c1 := by
  have a := (hK.2 j _ hj).2
  have b := (hK.2 i _ hi).2
  cases ty with
  | object C =>
    obtain ⟨_, _, -, -, -, h4⟩ := a
    obtain ⟨_, _, -, -, -, g4⟩ := b
    exact Option.some.inj (g4.symm.trans h4)
  | _ => exact Option.some.inj ((show s.vm.findClass _ = some c0 from b).symm.trans (show s.vm.findClass _ = some c1 from a))
/-- new int[n], into the pool at once -/
theorem cn_newa (hexec : p.tables.exec = Jvm.exec) (hb : c.code = cc) (harr : (Cond.arrayClass .int).before args s = true) (hK : va_K (dC, dI) vwCl (tyC cI cS cP cA) s) (hP : va_P (dC, dI) vwCl (X ++ va_pl L f) H) (hD : va_D A (X ++ va_pl L f)) (hS : va_S A H0 H locs) (hA : ∀ q, H0.size ≤ q → A q) (hI : PI cI cS cP cA L tg f) (hT : ∀ a : Nat, a ∈ L → tg a < 13) {n : Int32} (N' : Nat) (t : Nat) (ht : t < 13) (hok : ∀ L tg e, okT cI cS cP cA L tg t e = okI cI N' e) (hn : ¬ n < 0) (hN : n.toNatClampNeg = N') (hbytes : N' * 4 ≤ 536870912) (hcells : cells + 1 ≤ R.cells) (hslots : slots + N' ≤ R.slots) (hdg : decode cc pc = .ok (.newarray .int, 2))
    (kk : ∀ (q : Nat) (H1 : Heap) (L' : List Nat) (tg' : Nat → Nat) (f' : Nat → va_E), va_P (dC, dI) vwCl (X ++ va_pl L' f') H1 → va_D A (X ++ va_pl L' f') → va_S A H0 H1 locs → PI cI cS cP cA L' tg' f' → (∀ a : Nat, a ∈ L' → tg' a < 13) → Gr L tg L' tg' → (q ∈ L' ∧ tg' q = t) →
      W p l e R s m args below meth c H1 locs (cells + 1) (slots + N') Q (F0 m (pc + 2) ls (.ref q :: rest))) : W p l e R s m args below meth c H locs cells slots Q (F0 m pc ls (.int n :: rest)) := by
  refine va_newa (atype := .int) (ty := .int) (N' := N') (a0 := (N', .inl (fun _ => 0))) hexec hb harr rfl hK hP hD hS hA (fun _ => rfl) hn hN hbytes hcells hslots hdg (fun q cA' H1 hK1 hP1 hD1 hS1 => ?_)
  have ec := ar_same hK1 4 0 rfl rfl
  subst ec
  obtain ⟨L', tg', f', a1, a2, a3, a4, a5, a6, -⟩ := cw_abs (hP1.swap) (hD1.swap) hI hT t ht (by rw [hok]; exact ⟨_, rfl⟩)
  exact kk q H1 L' tg' f' a1 a2 hS1 a3 a4 a5 a6
theorem cn_newq (hexec : p.tables.exec = Jvm.exec) (hb : c.code = cc) {own C : String} {index : Nat} (hown : s.vm.findClass own = some m.cls) (hclink : (Cond.classLink own index C).before args s = true) (hover : va_AO C s) (hK : va_K (dC, dI) vwCl (tyC cI cS cP cA) s) (hP : va_P (dC, dI) vwCl (X ++ va_pl L f) H) (hD : va_D A (X ++ va_pl L f)) (hS : va_S A H0 H locs) (hA : ∀ q, H0.size ≤ q → A q)
    {n : Int32} (N' : Nat) (j : Nat) (cR : ClassId) (hj : (tyC cI cS cP cA)[j]? = some (cR, .object C)) (hn : ¬ n < 0) (hN : n.toNatClampNeg = N') (hbytes : N' * 4 ≤ 536870912) (hcells : cells + 1 ≤ R.cells) (hslots : slots + N' ≤ R.slots) (hdg : decode cc pc = .ok (.anewarray index, 3))
    (kk : ∀ (q : Nat) (H1 : Heap), va_P (dC, dI) vwCl ((X ++ [(q, .inl (cR, N', .inr (.inr (.inr (.inr (fun _ => none))))))]) ++ va_pl L f) H1 → va_D A ((X ++ [(q, .inl (cR, N', .inr (.inr (.inr (.inr (fun _ => none))))))]) ++ va_pl L f) → va_S A H0 H1 locs →
      W p l e R s m args below meth c H1 locs (cells + 1) (slots + N') Q (F0 m (pc + 3) ls (.ref q :: rest))) : W p l e R s m args below meth c H locs cells slots Q (F0 m pc ls (.int n :: rest)) := by
  refine va_newq (N' := N') hexec hb hown hclink hover hK hP hD hS hA hn hN hbytes hcells hslots hdg (fun q cA' H1 hK1 hP1 hD1 hS1 => ?_)
  have ec := ar_same hK1 4 j rfl (by rw [List.getElem?_append_left (List.getElem?_eq_some_iff.mp hj).1]; exact hj)
  subst ec
  exact kk q H1 hP1.swap hD1.swap hS1
theorem cn_new (hexec : p.tables.exec = Jvm.exec) (hb : c.code = cc) {own C : String} {T : u_T} {N ci index : Nat} {Ts : List Cond} (hts : ∀ w ∈ Ts, w.before args s = true) (hin : ∀ w ∈ u_ws C T N, w ∈ Ts) (ty : Nat → FieldType) (hty : ∀ k, k < N → parseFieldDescriptor (T k).2.2.1 = some (ty k)) (hown : s.vm.findClass own = some m.cls) (hcl : (Cond.classLink own index C).before args s = true) (hinst : (Cond.instantiable C N).before args s = true) (hini : (Cond.initialized C).before args s = true)
    (hK : va_K (dC, dI) vwCl (tyC cI cS cP cA) s) (hP : va_P (dC, dI) vwCl (X ++ va_pl L f) H) (hD : va_D A (X ++ va_pl L f)) (hS : va_S A H0 H locs) (hA : ∀ q, H0.size ≤ q → A q) (hc : vwCl[ci]? = some (C, T, N)) {fs : List Value} (hfs : ∀ j, j < N → defaultValue (ty j) = vp_V fs j) (hcells : cells + 1 ≤ R.cells) (hslots : slots + N ≤ R.slots) (hdg : decode cc pc = .ok (.new index, 3))
    (kk : ∀ (q : Nat) (H1 : Heap), va_P (dC, dI) vwCl ((X ++ [(q, .inr (ci, fs))]) ++ va_pl L f) H1 → va_D A ((X ++ [(q, .inr (ci, fs))]) ++ va_pl L f) → va_S A H0 H1 locs →
      W p l e R s m args below meth c H1 locs (cells + 1) (slots + N) Q (F0 m (pc + 3) ls (.ref q :: rest))) : W p l e R s m args below meth c H locs cells slots Q (F0 m pc ls rest) :=
  va_new hexec hb hts hin ty hty hown hcl hinst hini hK hP hD hS hA hc hfs hcells hslots hdg (fun q H1 hP1 hD1 hS1 => kk q H1 hP1.swap hD1.swap hS1)
/-- new int[n][6]: the rows into the pool -/
theorem cn_mna (hexec : p.tables.exec = Jvm.exec) (hb : c.code = cc) {own : String} {index : Nat} (hown : s.vm.findClass own = some m.cls) (hclink : (Cond.classLink own index "[[I").before args s = true) (hover : va_AOA .int s) (harr : (Cond.arrayClass .int).before args s = true)
    (hK : va_K (dC, dI) vwCl (tyC cI cS cP cA) s) (hP : va_P (dC, dI) vwCl (X ++ va_pl L f) H) (hD : va_D A (X ++ va_pl L f)) (hS : va_S A H0 H locs) (hA : ∀ q, H0.size ≤ q → A q) (hI : PI cI cS cP cA L tg f) (hT : ∀ a : Nat, a ∈ L → tg a < 13) {n : Int32} (N' : Nat) (t : Nat) (ht : t < 13) (hok : ∀ L tg e, okT cI cS cP cA L tg t e = okR L tg cA N' 3 e) (hn : ¬ n < 0) (hN : n.toNatClampNeg = N')
    (hb1 : N' * 4 ≤ 536870912) (hcells : cells + (1 + N') ≤ R.cells) (hslots : slots + (N' + N' * 6) ≤ R.slots) (hdg : decode cc pc = .ok (.multianewarray index 2, 4))
    (kk : ∀ (q : Nat) (H1 : Heap) (L' : List Nat) (tg' : Nat → Nat) (f' : Nat → va_E), va_P (dC, dI) vwCl (X ++ va_pl L' f') H1 → va_D A (X ++ va_pl L' f') → va_S A H0 H1 locs → PI cI cS cP cA L' tg' f' → (∀ a : Nat, a ∈ L' → tg' a < 13) → Gr L tg L' tg' → (q ∈ L' ∧ tg' q = t) →
      W p l e R s m args below meth c H1 locs (cells + 1 + N') (slots + N' + N' * 6) Q (F0 m (pc + 4) ls (.ref q :: rest))) : W p l e R s m args below meth c H locs cells slots Q (F0 m pc ls (.int 6 :: .int n :: rest)) := by
  refine va_mna (ty := .int) (cy := cI) (z := (6, .inl (fun _ => 0))) (N' := N') (K' := 6) hexec hb hown hclink hover harr (hK.2 0 _ rfl).2 hK hP hD hS hA hn (by decide) hN (by decide) hb1 (by decide) (by decide) rfl rfl hcells hslots (fun c0 => ?_) hdg (fun q r cA' H1 hri hrn hK1 hP1 hD1 hS1 => ?_)
  · rw [vp_cell_i]
    exact arrV_new _ _ _
  · have ec := ar_same hK1 4 3 rfl rfl
    subst ec
    have hrL : ∀ b : Nat, b ∈ (List.range N').map r → b ∉ L := fun b hb => by
      obtain ⟨i, hi, rfl⟩ := List.mem_map.mp hb
      exact hrn i (List.mem_range.mp hi)
    have g : Gr L tg (L ++ (List.range N').map r) (vr_up tg ((List.range N').map r) 3) := fun b hb => ⟨List.mem_append_left _ hb, vr_up_ne (fun q => hrL b q hb)⟩
    have hI2 : PI cI cS cP cA (L ++ (List.range N').map r) (vr_up tg ((List.range N').map r) 3) (vr_up f ((List.range N').map r) (.inl (cI, 6, .inl (fun _ => 0)))) := fun b hb => by
      by_cases q : b ∈ (List.range N').map r
      · rw [vr_up_in q, vr_up_in q]
        exact ⟨_, rfl⟩
      · rw [vr_up_ne q, vr_up_ne q]
        have hbL := (List.mem_append.mp hb).resolve_right q
        exact okT.up g (hT b hbL) (hI b hbL)
    have hT2 : ∀ b : Nat, b ∈ L ++ (List.range N').map r → vr_up tg ((List.range N').map r) 3 b < 13 := fun b hb => by
      by_cases q : b ∈ (List.range N').map r
      · rw [vr_up_in q]
        decide
      · rw [vr_up_ne q]
        exact hT b ((List.mem_append.mp hb).resolve_right q)
    obtain ⟨L', tg', f', a1, a2, a3, a4, a5, a6, -⟩ := cw_abs hP1 hD1 hI2 hT2 t ht (by
      rw [hok]
      refine ⟨_, rfl, fun i hi => ⟨r i, if_pos hi, ?_, ?_⟩⟩
      · exact List.mem_append_right _ (List.mem_map.mpr ⟨i, List.mem_range.mpr hi, rfl⟩)
      · exact vr_up_in (List.mem_map.mpr ⟨i, List.mem_range.mpr hi, rfl⟩))
    exact kk q H1 L' tg' f' a1 a2 hS1 a3 a4 (fun b hb => ⟨(a5 b (g b hb).1).1, (a5 b (g b hb).1).2.trans (g b hb).2⟩) a6
/-- a pooled object goes into a reference array that stands apart, at the place k -/
theorem cn_aast (hexec : p.tables.exec = Jvm.exec) (hb : c.code = cc) (hK : va_K (dC, dI) vwCl (tyC cI cS cP cA) s) (hP : va_P (dC, dI) vwCl (X ++ va_pl L f) H) (hD : va_D A (X ++ va_pl L f)) (hS : va_S A H0 H locs) (hI : PI cI cS cP cA L tg f) (k j : Nat) {a v t n ci : Nat} {cR : ClassId} {r : vw_C} {ps : List (Nat × Nat)} {g : Nat → Option Nat} (ha : (X ++ va_pl L f)[k]? = some (a, .inl (cR, n, .inr (.inr (.inr (.inr g)))))) (hj : (tyC cI cS cP cA)[j]? = some (cR, .object r.1)) (hv : v ∈ L ∧ tg v = t) (hvo : ∀ L tg e, okT cI cS cP cA L tg t e = okO L tg ci ps e) (hc : vwCl[ci]? = some r) {i : Int32} (hin : vp_in i n) (hdg : decode cc pc = .ok (.aastore, 1))
    (kk : ∀ (H1 : Heap) (locs1 : List Loc), va_P (dC, dI) vwCl ((X ++ va_pl L f).set k (a, .inl (cR, n, .inr (.inr (.inr (.inr (va_up g i.toNatClampNeg (some v)))))))) H1 → va_D A ((X ++ va_pl L f).set k (a, .inl (cR, n, .inr (.inr (.inr (.inr (va_up g i.toNatClampNeg (some v)))))))) → va_S A H0 H1 locs1 → W p l e R s m args below meth c H1 locs1 cells slots Q (F0 m (pc + 1) ls rest)) : W p l e R s m args below meth c H locs cells slots Q (F0 m pc ls (.ref v :: .int i :: .ref a :: rest)) := by
  have g1 := hI v hv.1
  rw [hv.2, hvo] at g1
  obtain ⟨vs, ev, -, -⟩ := g1
  obtain ⟨kv, e7⟩ := va_pl_get (X := X) (f := f) hv.1
  rw [ev] at e7
  exact va_astq hexec hb hK hP hD hS k j kv ci ha hj e7 hc hin hdg kk
end CTR
def nk_ok (U : State) : Prop := va_Nw (.methodLinkNest RX5 25 yX1_init "DayBench") U ∧ va_Nw (.methodLinkNest RX5 35 yX3_init "DayBench") U ∧ va_Nw (.methodLinkNest RX1 11 yX4_init "DayBench") U ∧ va_Nw (.methodLinkNest RX2 24 yX4_init "DayBench") U ∧ va_AO "DayBench$Saying" U ∧ va_AO "DayBench$Spans" U ∧ va_AOA .int U
theorem va_AOA.moved {ty : FieldType} {u U : State} (hvm : u.vm.Alike U.vm) (h : va_AOA ty u) : va_AOA ty U := Jvm.Stand.arrayOver_alikeB hvm h
theorem nk_warm {s U : State} (h : nk_ok s) (hW : s.WarmedH U.vm) : nk_ok U := ⟨va_Nw.warmM hW h.1, va_Nw.warmM hW h.2.1, va_Nw.warmM hW h.2.2.1, va_Nw.warmM hW h.2.2.2.1, va_AO.moved hW.alike h.2.2.2.2.1, va_AO.moved hW.alike h.2.2.2.2.2.1, va_AOA.moved hW.alike h.2.2.2.2.2.2⟩
theorem nk_calling {U : State} {g : JFrame} {mk : MethodId} {a : Array Value} (h : nk_ok U) : nk_ok (U.calling g mk a) := ⟨va_Nw.same (u := U) (U := U.calling g mk a) rfl rfl h.1, va_Nw.same (u := U) (U := U.calling g mk a) rfl rfl h.2.1, va_Nw.same (u := U) (U := U.calling g mk a) rfl rfl h.2.2.1, va_Nw.same (u := U) (U := U.calling g mk a) rfl rfl h.2.2.2.1, va_AO.moved (u := U) (U := U.calling g mk a) (Vm.Alike.refl U.vm) h.2.2.2.2.1, va_AO.moved (u := U) (U := U.calling g mk a) (Vm.Alike.refl U.vm) h.2.2.2.2.2.1, va_AOA.moved (u := U) (U := U.calling g mk a) (Vm.Alike.refl U.vm) h.2.2.2.2.2.2⟩
def nPre (dC : Nat → ClassId) (dI : Nat → Nat → Nat) (sz : Nat) (Ws : va_W) (Ty : List (ClassId × FieldType)) (U : State) : Prop := wPre dC dI sz Ws Ty U ∧ nk_ok U
theorem nPre_blind {dC : Nat → ClassId} {dI : Nat → Nat → Nat} {sz : Nat} {Ws : va_W} {Ty : List (ClassId × FieldType)} {av : List Value} : FrameBlind (va_Pc av (nPre dC dI sz Ws Ty)) := fun a U g mk q => by
  obtain ⟨q0, ⟨q1, qP, qK, qD⟩, qn⟩ := q
  exact ⟨q0, ⟨q1, qP, va_K.moved (u := U) (U := U.calling g mk a) (Vm.Alike.refl U.vm) qK, qD⟩, nk_calling qn⟩
theorem cw_0 {dC : Nat → ClassId} {dI : Nat → Nat → Nat} {cI cS cP cA : ClassId} {X : va_W} {A : Nat → Prop} {H : Heap} (hP : va_P (dC, dI) vwCl X H) (hD : va_D A X) : ∃ (L : List Nat) (tg : Nat → Nat) (f : Nat → va_E), va_P (dC, dI) vwCl (X ++ va_pl L f) H ∧ va_D A (X ++ va_pl L f) ∧ PI cI cS cP cA L tg f ∧ ∀ a : Nat, a ∈ L → tg a < 13 := by
  have e : X ++ va_pl [] (fun _ => .inr (0, [])) = X := List.append_nil X
  exact ⟨[], fun _ => 0, fun _ => .inr (0, []), e.symm ▸ hP, e.symm ▸ hD, fun a h => absurd h List.not_mem_nil, fun a h => absurd h List.not_mem_nil⟩
