/-! the class's cells as one pool of typed cells: own work -/
/-- what a value of a field is: (0, t) a reference to a cell of tag t; (1, n) a number at most n; (2, _) any number; (3, _) 0 or 1; else -1 or a place below 12 -/
def tv (L : List Nat) (tg : Nat → Nat) (p : Nat × Nat) (v : Value) : Prop := match p with
  | (0, t) => ∃ b : Nat, v = .ref b ∧ b ∈ L ∧ tg b = t
  | (1, n) => ∃ k : Nat, v = .int (nI k) ∧ k ≤ n
  | (2, _) => ∃ x : Int32, v = .int x
  | (3, _) => ∃ x : Int32, v = .int x ∧ (x = 0 ∨ x = 1)
  | (_, _) => ∃ x : Int32, v = .int x ∧ (x = -1 ∨ ∃ q : Nat, q < 12 ∧ x = nI q)
def okO (L : List Nat) (tg : Nat → Nat) (ci : Nat) (ps : List (Nat × Nat)) (e : va_E) : Prop := ∃ fs : List Value, e = .inr (ci, fs) ∧ fs.length = ps.length ∧ ∀ (k : Nat) (p : Nat × Nat), ps[k]? = some p → ∃ v : Value, fs[k]? = some v ∧ tv L tg p v
def okI (cI : ClassId) (n : Nat) (e : va_E) : Prop := ∃ g : Nat → Int32, e = .inl (cI, n, .inl g)
def okR (L : List Nat) (tg : Nat → Nat) (cR : ClassId) (n t : Nat) (e : va_E) : Prop := ∃ g : Nat → Option Nat, e = .inl (cR, n, .inr (.inr (.inr (.inr g)))) ∧ ∀ i : Nat, i < n → ∃ b : Nat, g i = some b ∧ b ∈ L ∧ tg b = t
/-- the tags: 0 a Saying, 1 a Spans, 2 int[10], 3 int[6], 4 the Search, 5 the SlipSets, 6 the DayBench, 7 int[12], 8 int[924], 9 Saying[12], 10 Spans[6], 11 int[6][], 12 int[7][] -/
def okT (cI cS cP cA : ClassId) (L : List Nat) (tg : Nat → Nat) (t : Nat) (e : va_E) : Prop := match t with
  | 0 => okO L tg 0 [(0, 1), (1, 5), (2, 0), (2, 0), (3, 0), (4, 0), (2, 0), (2, 0), (1, 5)] e
  | 1 => okO L tg 3 [(0, 2), (0, 2), (1, 10)] e
  | 2 => okI cI 10 e
  | 3 => okI cI 6 e
  | 4 => okO L tg 1 [(0, 3), (0, 3), (2, 0), (1, 6), (3, 0), (3, 0), (3, 0), (3, 0), (0, 10), (0, 1), (0, 1), (0, 11), (0, 12), (0, 12)] e
  | 5 => okO L tg 2 [(1, 12), (2, 0), (1, 924), (0, 8), (0, 7), (0, 7), (0, 7), (0, 8), (1, 924)] e
  | 6 => okO L tg 4 [(0, 3), (0, 3), (0, 3), (1, 6), (1, 6), (0, 9), (1, 12), (0, 4), (0, 5), (0, 3), (0, 3)] e
  | 7 => okI cI 12 e
  | 8 => okI cI 924 e
  | 9 => okR L tg cS 12 0 e
  | 10 => okR L tg cP 6 1 e
  | 11 => okR L tg cA 6 3 e
  | 12 => okR L tg cA 7 3 e
  | _ => True
def PI (cI cS cP cA : ClassId) (L : List Nat) (tg : Nat → Nat) (f : Nat → va_E) : Prop := ∀ a : Nat, a ∈ L → okT cI cS cP cA L tg (tg a) (f a)
def Fr (L : List Nat) (tg : Nat → Nat) (S : Nat → Bool) (f f' : Nat → va_E) : Prop := ∀ a : Nat, a ∈ L → S (tg a) = false → f' a = f a
def fld (e : va_E) (k : Nat) : Option Value := match e with
  | .inr o => o.2[k]?
  | .inl _ => none
def el (e : va_E) (i : Nat) : Option Nat := match e with
  | .inl (_, _, .inr (.inr (.inr (.inr g)))) => g i
  | _ => none
theorem met_room {l : Launch} {y : MethodName} {ws : List Cond} {rm rm' : Room} {Pc : Array Value → State → Prop} {Qc : Array Value → State → Outcome → State → Prop} {mc ms : Nat} {free : Addr → Prop} (h : Met l y ws rm Pc Qc mc ms free) (hf : rm.frames ≤ rm'.frames) (hl : rm.locals ≤ rm'.locals) (hc : rm.cells ≤ rm'.cells) (hs : rm.slots ≤ rm'.slots) : Met l y ws rm' Pc Qc mc ms free := by
  intro p e ha hcs hk s m args below hfr happ hP hK
  obtain ⟨a1, a2, a3, a4, a5, a6, a7, a8⟩ := (Spec.appliesLoose_iff hfr).mp happ
  refine h p e ha hcs hk s m args below hfr ((Spec.appliesLoose_iff hfr).mpr ⟨a1, a2, a3, a4, a5, a6, ?_, a8⟩) hP hK
  have hf' : (headSpec ws rm).room.frames ≤ (headSpec ws rm').room.frames := hf
  have hl' : (headSpec ws rm).room.locals ≤ (headSpec ws rm').room.locals := hl
  have hc' : (headSpec ws rm).room.cells ≤ (headSpec ws rm').room.cells := hc
  have hs' : (headSpec ws rm).room.slots ≤ (headSpec ws rm').room.slots := hs
  simp only [State.hasRoom, Bool.and_eq_true, decide_eq_true_eq] at a7 ⊢
  obtain ⟨⟨⟨⟨y, a, b, c, d, e⟩, f⟩, g⟩, i⟩ := a7
  exact ⟨⟨⟨⟨by omega, by omega, by omega, by omega, by omega, e⟩, by omega⟩, by omega⟩, i⟩
theorem PI.up {cI cS cP cA : ClassId} {L : List Nat} {tg : Nat → Nat} {f : Nat → va_E} (h : PI cI cS cP cA L tg f) {a : Nat} {e : va_E} (he : okT cI cS cP cA L tg (tg a) e) : PI cI cS cP cA L tg (va_up f a e) := fun b hb => by
  by_cases q : b = a
  · subst q
    rw [va_up_self]
    exact he
  · rw [va_up_ne _ _ q]
    exact h b hb
theorem Fr.rf {L : List Nat} {tg : Nat → Nat} {S : Nat → Bool} {f : Nat → va_E} : Fr L tg S f f := fun _ _ _ => rfl
theorem Fr.up {L : List Nat} {tg : Nat → Nat} {S : Nat → Bool} {f0 f : Nat → va_E} (h : Fr L tg S f0 f) {a : Nat} {e : va_E} (hs : S (tg a) = true) : Fr L tg S f0 (va_up f a e) := fun b hb hq => by
  have q : b ≠ a := fun q => by
    subst q
    rw [hs] at hq
    cases hq
  rw [va_up_ne _ _ q]
  exact h b hb hq
theorem Fr.trans {L : List Nat} {tg : Nat → Nat} {S S' : Nat → Bool} {f0 f f1 : Nat → va_E} (h : Fr L tg S f0 f) (h1 : Fr L tg S' f f1) (hs : ∀ t : Nat, t < 13 → S t = false → S' t = false) (ht : ∀ a : Nat, a ∈ L → tg a < 13) : Fr L tg S f0 f1 := fun b hb hq => (h1 b hb (hs _ (ht b hb) hq)).trans (h b hb hq)
theorem pl_D {L : List Nat} (hN : L.Nodup) (g : Nat → va_E) : va_D (fun q : Nat => q ∈ L) (va_pl L g) := by
  have at' : ∀ (i : Nat) (p : Nat × va_E), (va_pl L g)[i]? = some p → L[i]? = some p.1 := fun i p h => by
    unfold va_pl at h
    rw [List.getElem?_map] at h
    cases hb : L[i]? with
    | none => rw [hb] at h; cases h
    | some b => rw [hb] at h; cases h; rfl
  refine ⟨fun i j p q hi hj hpq => ?_, fun k q hk => List.mem_of_getElem? (at' k q hk)⟩
  have h1 := at' i p hi
  have h2 := at' j q hj
  rw [← hpq] at h2
  exact (List.getElem?_inj (List.getElem?_eq_some_iff.mp h1).1 hN).mp (h1.trans h2.symm)
def tyC (cI cS cP cA : ClassId) : List (ClassId × FieldType) := [(cI, .int), (cS, .object "DayBench$Saying"), (cP, .object "DayBench$Spans"), (cA, .array .int)]
def cmL (A : Nat → Prop) (s : State) : Prop := (∃ t : Nat, va_Z "DayBench$Calendars" "MONTH_DAYS" "[I" (.ref t) A s s.heap ∧ va_T .int t 12 (fun j => .int (md_tab j)) A s s.heap) ∧ va_Nw (.methodLinkNest RX0 45 yX5_isDay "DayBench") s
theorem cm_law {A : Nat → Prop} {s U : State} {H : Heap} {locs : List Loc} (h : cmL A s) (hS : va_S A s.heap H locs) (hU : U.heap = H) (hW : s.WarmedH U.vm) : cm_ok U := by
  obtain ⟨⟨t, h1, h2⟩, h3⟩ := h
  refine ⟨⟨t, ?_, ?_⟩, va_Nw.warmM hW h3⟩
  · rw [hU]
    exact (va_Z.moved hW.alike (h1.kept (fun q a b => hS.2.1 q a b))).narrow (fun _ h => h.elim)
  · rw [hU]
    exact (va_T.moved hW.alike (h2.kept (fun q a b => hS.2.1 q a b))).narrow (fun _ h => h.elim)
theorem cm_pool {A B : Nat → Prop} {s U : State} {H : Heap} {locs : List Loc} (h : cmL A s) (hS : va_S A s.heap H locs) (hU : U.heap = H) (hW : s.WarmedH U.vm) (hBA : ∀ q, B q → A q) : cmL B U := by
  obtain ⟨⟨t, h1, h2⟩, h3⟩ := h
  refine ⟨⟨t, ?_, ?_⟩, va_Nw.warmM hW h3⟩
  · rw [hU]
    exact (va_Z.moved hW.alike (h1.kept (fun q a b => hS.2.1 q a b))).narrow hBA
  · rw [hU]
    exact (va_T.moved hW.alike (h2.kept (fun q a b => hS.2.1 q a b))).narrow hBA
/-- a method's start over the pool -/
def tPre (dC : Nat → ClassId) (dI : Nat → Nat → Nat) (cI cS cP cA : ClassId) (L : List Nat) (f : Nat → va_E) (U : State) : Prop := va_P (dC, dI) vwCl (va_pl L f) U.heap ∧ va_K (dC, dI) vwCl (tyC cI cS cP cA) U ∧ cmL (fun q : Nat => q ∈ L) U
theorem tPre_blind {dC : Nat → ClassId} {dI : Nat → Nat → Nat} {cI cS cP cA : ClassId} {L : List Nat} {f : Nat → va_E} {av : List Value} : FrameBlind (va_Pc av (tPre dC dI cI cS cP cA L f)) := fun a U g mk q => by
  obtain ⟨q0, qP, qK, ⟨t, q1, q2⟩, q3⟩ := q
  exact ⟨q0, qP, va_K.moved (u := U) (U := U.calling g mk a) (Vm.Alike.refl U.vm) qK, ⟨t, va_Z.moved (u := U) (U := U.calling g mk a) (Vm.Alike.refl U.vm) q1, va_T.moved (u := U) (U := U.calling g mk a) (Vm.Alike.refl U.vm) q2⟩, va_Nw.same (u := U) (U := U.calling g mk a) rfl rfl q3⟩
/-- the walk's state over the pool -/
def PW (dC : Nat → ClassId) (dI : Nat → Nat → Nat) (cI cS cP cA : ClassId) (L : List Nat) (tg : Nat → Nat) (S : Nat → Bool) (f0 : Nat → va_E) (H0 : Heap) (f : Nat → va_E) (H : Heap) (locs : List Loc) : Prop := va_P (dC, dI) vwCl (va_pl L f) H ∧ PI cI cS cP cA L tg f ∧ Fr L tg S f0 f ∧ va_S (fun q : Nat => q ∈ L) H0 H locs
theorem tPre_at {dC : Nat → ClassId} {dI : Nat → Nat → Nat} {cI cS cP cA : ClassId} {L : List Nat} {tg : Nat → Nat} {S : Nat → Bool} {f0 f : Nat → va_E} {s U : State} {H : Heap} {locs : List Loc} (hw : PW dC dI cI cS cP cA L tg S f0 s.heap f H locs) (hK : va_K (dC, dI) vwCl (tyC cI cS cP cA) s) (hcm : cmL (fun q : Nat => q ∈ L) s) (hU : U.heap = H) (hW : s.WarmedH U.vm) : tPre dC dI cI cS cP cA L f U := ⟨by rw [hU]; exact hw.1, va_K.moved hW.alike hK, cm_pool hcm hw.2.2.2 hU hW (fun _ h => h)⟩
theorem nar_b {x : Int32} (h : x = 0 ∨ x = 1) : narrow .boolean (.int x) = .int x := by rcases h with rfl | rfl <;> rfl
theorem fit_b {x : Int32} (h : x = 0 ∨ x = 1) : fits .boolean (.int x) = true := by rcases h with rfl | rfl <;> rfl
theorem fld_of {f : Nat → va_E} {a ci k : Nat} {fs : List Value} (h : f a = .inr (ci, fs)) : fld (f a) k = fs[k]? := by rw [h]; rfl
theorem tne {tg : Nat → Nat} {a b t u : Nat} (ha : tg a = t) (hb : tg b = u) (h : t ≠ u) : a ≠ b := fun q => h (by rw [← ha, ← hb, q])
theorem lt_nI {p : Int32} {n M : Nat} (h0 : ¬ p < 0) (h1 : ¬ nI n ≤ p) (hn : n ≤ M) (hM : M < 2 ^ 31) : ∃ j : Nat, j < M ∧ p = nI j := by
  obtain ⟨j, hj, rfl⟩ := nI_of h0
  refine ⟨j, ?_, rfl⟩
  rcases Nat.lt_or_ge j n with q | q
  · omega
  · exact absurd (nI_le q hj) h1
theorem sw_out4 {x : Int32} (h0 : ¬ x = 0) (h1 : ¬ x = 1) (h2 : ¬ x = 2) (h3 : ¬ x = 3) : x.toInt < 0 ∨ 3 < x.toInt := by
  have a0 := lv_neT (a := 0) h0 rfl
  have a1 := lv_neT (a := 1) h1 rfl
  have a2 := lv_neT (a := 2) h2 rfl
  have a3 := lv_neT (a := 3) h3 rfl
  omega
theorem sw_out6 {x : Int32} (h0 : ¬ x = 0) (h1 : ¬ x = 1) (h2 : ¬ x = 2) (h3 : ¬ x = 3) (h4 : ¬ x = 4) (h5 : ¬ x = 5) : x.toInt < 0 ∨ 5 < x.toInt := by
  have a0 := sw_out4 h0 h1 h2 h3
  have a4 := lv_neT (a := 4) h4 rfl
  have a5 := lv_neT (a := 5) h5 rfl
  omega
theorem sw_out7 {x : Int32} (h0 : ¬ x = 0) (h1 : ¬ x = 1) (h2 : ¬ x = 2) (h3 : ¬ x = 3) (h4 : ¬ x = 4) (h5 : ¬ x = 5) (h6 : ¬ x = 6) : x.toInt < 0 ∨ 6 < x.toInt := by
  have a0 := sw_out6 h0 h1 h2 h3 h4 h5
  have a6 := lv_neT (a := 6) h6 rfl
  omega
section TPR
variable {p : Program} {l : Launch} {e : Env} {R : Room} {s : State} {m : MethodId} {args : Array Value} {below : List Frame} {meth : Method} {c : Code} {H : Heap} {locs : List Loc} {cells slots : Nat} {Q : State → Prop}
variable {cc : ByteArray} {pc : Nat} {ls : Array Slot} {rest : List Value} {a : Nat} {H0 : Heap}
variable {dC : Nat → ClassId} {dI : Nat → Nat → Nat} {cI cS cP cA : ClassId} {L : List Nat} {tg : Nat → Nat} {S : Nat → Bool} {f0 f : Nat → va_E}
theorem tp_get (hexec : p.tables.exec = Jvm.exec) (hb : c.code = cc) {own ref C : String} {T : u_T} {N ci index : Nat} {Ts : List Cond} (hts : ∀ w ∈ Ts, w.before args s = true) (hin : ∀ w ∈ u_ws C T N, w ∈ Ts) (hown : s.vm.findClass own = some m.cls) (hK : va_K (dC, dI) vwCl (tyC cI cS cP cA) s) (hw : PW dC dI cI cS cP cA L tg S f0 H0 f H locs) (hm : a ∈ L) (t : Nat) (ht : tg a = t) {ps : List (Nat × Nat)} (hok : ∀ e, okT cI cS cP cA L tg t e = okO L tg ci ps e) (hc : vwCl[ci]? = some (C, T, N)) (k : Nat) (hk : k < N) {q : Nat × Nat} (hq : ps[k]? = some q) (hlink : (Cond.fieldLink own index ref (T k).2.1 (T k).2.2.1).before args s = true) (hsame : ∀ x, s.fieldFound? (T k).1 (T k).2.1 (T k).2.2.1 = some x → s.fieldFound? ref (T k).2.1 (T k).2.2.1 = some x) (hdg : decode cc pc = .ok (.getfield index, 3))
    (kk : ∀ v : Value, fld (f a) k = some v → tv L tg q v → W p l e R s m args below meth c H locs cells slots Q (F0 m (pc + 3) ls (v :: rest))) : W p l e R s m args below meth c H locs cells slots Q (F0 m pc ls (.ref a :: rest)) := by
  have h1 := hw.2.1 a hm
  rw [ht, hok] at h1
  obtain ⟨fs, e1, -, h2⟩ := h1
  obtain ⟨v, h3, h4⟩ := h2 k q hq
  obtain ⟨k9, e9⟩ := va_pl_get (X := []) (f := f) hm
  rw [e1] at e9
  exact va_get hexec hb hts hin hown hK hw.1 k9 e9 hc k hk hlink hsame h3 hdg (kk v ((fld_of e1).trans h3) h4)
theorem tp_getK (hexec : p.tables.exec = Jvm.exec) (hb : c.code = cc) {own ref C : String} {T : u_T} {N ci index : Nat} {Ts : List Cond} (hts : ∀ w ∈ Ts, w.before args s = true) (hin : ∀ w ∈ u_ws C T N, w ∈ Ts) (hown : s.vm.findClass own = some m.cls) (hK : va_K (dC, dI) vwCl (tyC cI cS cP cA) s) (hw : PW dC dI cI cS cP cA L tg S f0 H0 f H locs) (hm : a ∈ L) (t : Nat) (ht : tg a = t) {ps : List (Nat × Nat)} (hok : ∀ e, okT cI cS cP cA L tg t e = okO L tg ci ps e) (hc : vwCl[ci]? = some (C, T, N)) (k : Nat) (hk : k < N) {v : Value} (hv : fld (f a) k = some v) (hlink : (Cond.fieldLink own index ref (T k).2.1 (T k).2.2.1).before args s = true) (hsame : ∀ x, s.fieldFound? (T k).1 (T k).2.1 (T k).2.2.1 = some x → s.fieldFound? ref (T k).2.1 (T k).2.2.1 = some x) (hdg : decode cc pc = .ok (.getfield index, 3))
    (kk : W p l e R s m args below meth c H locs cells slots Q (F0 m (pc + 3) ls (v :: rest))) : W p l e R s m args below meth c H locs cells slots Q (F0 m pc ls (.ref a :: rest)) := by
  have h1 := hw.2.1 a hm
  rw [ht, hok] at h1
  obtain ⟨fs, e1, -, h2⟩ := h1
  obtain ⟨k9, e9⟩ := va_pl_get (X := []) (f := f) hm
  rw [e1] at e9
  exact va_get hexec hb hts hin hown hK hw.1 k9 e9 hc k hk hlink hsame ((fld_of e1).symm.trans hv) hdg kk
theorem okO_set {ci : Nat} {ps : List (Nat × Nat)} {fs : List Value} {k : Nat} {q : Nat × Nat} {v : Value} (h : okO L tg ci ps (.inr (ci, fs))) (hq : ps[k]? = some q) (hv : tv L tg q v) : okO L tg ci ps (.inr (ci, fs.set k v)) := by
  obtain ⟨fs', e1, hl, h2⟩ := h
  cases e1
  refine ⟨_, rfl, by rw [List.length_set]; exact hl, fun j r hr => ?_⟩
  by_cases e : j = k
  · subst e
    have e2 : q = r := Option.some.inj (hq.symm.trans hr)
    subst e2
    have hj := (List.getElem?_eq_some_iff.mp hq).1
    exact ⟨v, by rw [List.getElem?_set_self (by omega)], hv⟩
  · rw [List.getElem?_set_ne (Ne.symm e)]
    exact h2 j r hr
theorem tp_put (hexec : p.tables.exec = Jvm.exec) (hb : c.code = cc) {own ref C : String} {T : u_T} {N ci index : Nat} {Ts : List Cond} (hts : ∀ w ∈ Ts, w.before args s = true) (hin : ∀ w ∈ u_ws C T N, w ∈ Ts) (ty0 : Nat → FieldType) (hty : ∀ k, k < N → parseFieldDescriptor (T k).2.2.1 = some (ty0 k)) (hnm : ∀ a, a < N → ∀ b, b < N → a ≠ b → (T a).2.1 ≠ (T b).2.1) (hown : s.vm.findClass own = some m.cls) (hN : L.Nodup) (hK : va_K (dC, dI) vwCl (tyC cI cS cP cA) s) (hw : PW dC dI cI cS cP cA L tg S f0 H0 f H locs) (hm : a ∈ L) (t : Nat) (ht : tg a = t) (hS : S t = true) {ps : List (Nat × Nat)} (hok : ∀ e, okT cI cS cP cA L tg t e = okO L tg ci ps e) (hc : vwCl[ci]? = some (C, T, N)) (k : Nat) (hk : k < N) {q : Nat × Nat} (hq : ps[k]? = some q) (hlink : (Cond.fieldLink own index ref (T k).2.1 (T k).2.2.1).before args s = true) (hsame : ∀ x, s.fieldFound? (T k).1 (T k).2.1 (T k).2.2.1 = some x → s.fieldFound? ref (T k).2.1 (T k).2.2.1 = some x) (hfin : (T k).2.2.2 = false) {ty : FieldType} {v : Value} (hd : parseFieldDescriptor (T k).2.2.1 = some ty) (hn : narrow ty v = v) (hfit : fits ty v = true) (hv : tv L tg q v)
    (hdg : decode cc pc = .ok (.putfield index, 3)) (kk : ∀ (H1 : Heap) (locs1 : List Loc) (f1 : Nat → va_E), PW dC dI cI cS cP cA L tg S f0 H0 f1 H1 locs1 → (∀ b : Nat, b ≠ a → f1 b = f b) → fld (f1 a) k = some v → (∀ i : Nat, i ≠ k → fld (f1 a) i = fld (f a) i) → W p l e R s m args below meth c H1 locs1 cells slots Q (F0 m (pc + 3) ls rest)) : W p l e R s m args below meth c H locs cells slots Q (F0 m pc ls (v :: .ref a :: rest)) := by
  have h1 := hw.2.1 a hm
  rw [ht, hok] at h1
  have h1' := h1
  obtain ⟨fs, e1, hl, h2⟩ := h1
  obtain ⟨k9, e9⟩ := va_pl_get (X := []) (f := f) hm
  have hkl : k < fs.length := by rw [hl]; exact (List.getElem?_eq_some_iff.mp hq).1
  have e8 := e9
  rw [e1] at e9
  refine va_put hexec hb hts hin ty0 hty hnm hown hK hw.1 (pl_D hN f) hw.2.2.2 k9 e9 hc k hk hlink hsame hfin hd hn hfit hkl hdg (fun H1 locs1 hP1 _ hS1 => ?_)
  have es := va_pl_set (X := []) (e := .inr (ci, fs.set k v)) (pl_D hN f) hm e8
  refine kk H1 locs1 (va_up f a (.inr (ci, fs.set k v))) ⟨(show (va_pl L f).set k9 _ = va_pl L _ from es) ▸ hP1, hw.2.1.up ?_, hw.2.2.1.up (by rw [ht]; exact hS), hS1⟩ (fun b hb => va_up_ne _ _ hb) ?_ (fun i hi => ?_)
  · rw [ht, hok]
    rw [e1] at h1'
    exact okO_set h1' hq hv
  · rw [va_up_self]
    exact List.getElem?_set_self hkl
  · rw [va_up_self, fld_of e1]
    exact List.getElem?_set_ne (Ne.symm hi)
theorem tp_iald (hexec : p.tables.exec = Jvm.exec) (hb : c.code = cc) (hK : va_K (dC, dI) vwCl (tyC cI cS cP cA) s) (hw : PW dC dI cI cS cP cA L tg S f0 H0 f H locs) (hm : a ∈ L) (t : Nat) (ht : tg a = t) {n : Nat} (hok : ∀ e, okT cI cS cP cA L tg t e = okI cI n e) {i : Int32} (hin : vp_in i n) (hdg : decode cc pc = .ok (.iaload, 1))
    (kk : ∀ x : Int32, W p l e R s m args below meth c H locs cells slots Q (F0 m (pc + 1) ls (.int x :: rest))) : W p l e R s m args below meth c H locs cells slots Q (F0 m pc ls (.int i :: .ref a :: rest)) := by
  have h1 := hw.2.1 a hm
  rw [ht, hok] at h1
  obtain ⟨g, e1⟩ := h1
  obtain ⟨k9, e9⟩ := va_pl_get (X := []) (f := f) hm
  rw [e1] at e9
  exact va_iald hexec hb hK hw.1 k9 0 e9 rfl hin hdg (kk _)
theorem tp_iast (hexec : p.tables.exec = Jvm.exec) (hb : c.code = cc) (hN : L.Nodup) (hK : va_K (dC, dI) vwCl (tyC cI cS cP cA) s) (hw : PW dC dI cI cS cP cA L tg S f0 H0 f H locs) (hm : a ∈ L) (t : Nat) (ht : tg a = t) (hS : S t = true) {n : Nat} (hok : ∀ e, okT cI cS cP cA L tg t e = okI cI n e) {i x : Int32} (hin : vp_in i n) (hdg : decode cc pc = .ok (.iastore, 1))
    (kk : ∀ (H1 : Heap) (locs1 : List Loc) (f1 : Nat → va_E), PW dC dI cI cS cP cA L tg S f0 H0 f1 H1 locs1 → (∀ b : Nat, b ≠ a → f1 b = f b) → W p l e R s m args below meth c H1 locs1 cells slots Q (F0 m (pc + 1) ls rest)) : W p l e R s m args below meth c H locs cells slots Q (F0 m pc ls (.int x :: .int i :: .ref a :: rest)) := by
  have h1 := hw.2.1 a hm
  rw [ht, hok] at h1
  obtain ⟨g, e1⟩ := h1
  obtain ⟨k9, e9⟩ := va_pl_get (X := []) (f := f) hm
  have e8 := e9
  rw [e1] at e9
  refine va_iast hexec hb hK hw.1 (pl_D hN f) hw.2.2.2 k9 0 e9 rfl hin hdg (fun H1 locs1 hP1 _ hS1 => ?_)
  have es := va_pl_set (X := []) (e := .inl (cI, n, .inl (upd g i.toNatClampNeg x))) (pl_D hN f) hm e8
  refine kk H1 locs1 (va_up f a (.inl (cI, n, .inl (upd g i.toNatClampNeg x)))) ⟨(show (va_pl L f).set k9 _ = va_pl L _ from es) ▸ hP1, hw.2.1.up ?_, hw.2.2.1.up (by rw [ht]; exact hS), hS1⟩ (fun b hb => va_up_ne _ _ hb)
  rw [ht, hok]
  exact ⟨_, rfl⟩
theorem tp_aald (hexec : p.tables.exec = Jvm.exec) (hb : c.code = cc) (hK : va_K (dC, dI) vwCl (tyC cI cS cP cA) s) (hw : PW dC dI cI cS cP cA L tg S f0 H0 f H locs) (hm : a ∈ L) (t : Nat) (ht : tg a = t) (j : Nat) {n t' : Nat} {cR : ClassId} {ty : FieldType} (hok : ∀ e, okT cI cS cP cA L tg t e = okR L tg cR n t' e) (hj : (tyC cI cS cP cA)[j]? = some (cR, ty)) (hty : ty.isReference = true) {i : Int32} (hin : vp_in i n) (hdg : decode cc pc = .ok (.aaload, 1))
    (kk : ∀ b : Nat, el (f a) i.toNatClampNeg = some b → b ∈ L → tg b = t' → W p l e R s m args below meth c H locs cells slots Q (F0 m (pc + 1) ls (.ref b :: rest))) : W p l e R s m args below meth c H locs cells slots Q (F0 m pc ls (.int i :: .ref a :: rest)) := by
  have h1 := hw.2.1 a hm
  rw [ht, hok] at h1
  obtain ⟨g, e1, h2⟩ := h1
  obtain ⟨k9, e9⟩ := va_pl_get (X := []) (f := f) hm
  rw [e1] at e9
  have hlt : i.toNatClampNeg < n := Nat.not_le.mp fun q => hin (Or.inr q)
  obtain ⟨b, hb1, hb2, hb3⟩ := h2 _ hlt
  refine W.aald (v := .ref b) (ty := ty) hexec hb (hw.1 k9 _ e9) ((hK.2 j _ hj).1 n (fun j => va_rf (g j))) hty (fun q => by cases q) (by show ¬ (i < 0 ∨ (arrV _ _ _).slots.size ≤ _); rw [arrV_size]; exact hin) (by show (arrV _ _ _).slots[_]? = _; rw [arrV_read _ _ hlt, hb1]; rfl) rfl rfl hdg (kk b (by rw [e1]; exact hb1) hb2 hb3)
theorem tp_aaldK (hexec : p.tables.exec = Jvm.exec) (hb : c.code = cc) (hK : va_K (dC, dI) vwCl (tyC cI cS cP cA) s) (hw : PW dC dI cI cS cP cA L tg S f0 H0 f H locs) (hm : a ∈ L) (t : Nat) (ht : tg a = t) (j : Nat) {n t' : Nat} {cR : ClassId} {ty : FieldType} (hok : ∀ e, okT cI cS cP cA L tg t e = okR L tg cR n t' e) (hj : (tyC cI cS cP cA)[j]? = some (cR, ty)) (hty : ty.isReference = true) {i : Int32} (hin : vp_in i n) {b : Nat} (hb1 : el (f a) i.toNatClampNeg = some b) (hdg : decode cc pc = .ok (.aaload, 1))
    (kk : W p l e R s m args below meth c H locs cells slots Q (F0 m (pc + 1) ls (.ref b :: rest))) : W p l e R s m args below meth c H locs cells slots Q (F0 m pc ls (.int i :: .ref a :: rest)) := by
  have h1 := hw.2.1 a hm
  rw [ht, hok] at h1
  obtain ⟨g, e1, h2⟩ := h1
  obtain ⟨k9, e9⟩ := va_pl_get (X := []) (f := f) hm
  rw [e1] at e9
  have hlt : i.toNatClampNeg < n := Nat.not_le.mp fun q => hin (Or.inr q)
  rw [e1] at hb1
  have hb1 : g i.toNatClampNeg = some b := hb1
  refine W.aald (v := .ref b) (ty := ty) hexec hb (hw.1 k9 _ e9) ((hK.2 j _ hj).1 n (fun j => va_rf (g j))) hty (fun q => by cases q) (by show ¬ (i < 0 ∨ (arrV _ _ _).slots.size ≤ _); rw [arrV_size]; exact hin) (by show (arrV _ _ _).slots[_]? = _; rw [arrV_read _ _ hlt, hb1]; rfl) rfl rfl hdg kk
theorem tp_aast (hexec : p.tables.exec = Jvm.exec) (hb : c.code = cc) (hN : L.Nodup) (hK : va_K (dC, dI) vwCl (tyC cI cS cP cA) s) (hw : PW dC dI cI cS cP cA L tg S f0 H0 f H locs) (hm : a ∈ L) (t : Nat) (ht : tg a = t) (hS : S t = true) (j : Nat) {n t' ci : Nat} {cR : ClassId} {r : vw_C} {ps : List (Nat × Nat)} (hok : ∀ e, okT cI cS cP cA L tg t e = okR L tg cR n t' e) (hj : (tyC cI cS cP cA)[j]? = some (cR, .object r.1)) {v : Nat} (hvm : v ∈ L) (hvt : tg v = t') (hvo : ∀ e, okT cI cS cP cA L tg t' e = okO L tg ci ps e) (hc : vwCl[ci]? = some r) {i : Int32} (hin : vp_in i n) (hdg : decode cc pc = .ok (.aastore, 1))
    (kk : ∀ (H1 : Heap) (locs1 : List Loc) (f1 : Nat → va_E), PW dC dI cI cS cP cA L tg S f0 H0 f1 H1 locs1 → (∀ b : Nat, b ≠ a → f1 b = f b) → W p l e R s m args below meth c H1 locs1 cells slots Q (F0 m (pc + 1) ls rest)) : W p l e R s m args below meth c H locs cells slots Q (F0 m pc ls (.ref v :: .int i :: .ref a :: rest)) := by
  have h1 := hw.2.1 a hm
  rw [ht, hok] at h1
  obtain ⟨g, e1, h2⟩ := h1
  obtain ⟨k9, e9⟩ := va_pl_get (X := []) (f := f) hm
  have e8 := e9
  rw [e1] at e9
  have g1 := hw.2.1 v hvm
  rw [hvt, hvo] at g1
  obtain ⟨vs, ev, -, -⟩ := g1
  obtain ⟨kv, e7⟩ := va_pl_get (X := []) (f := f) hvm
  rw [ev] at e7
  refine va_astq hexec hb hK hw.1 (pl_D hN f) hw.2.2.2 k9 j kv ci e9 hj e7 hc hin hdg (fun H1 locs1 hP1 _ hS1 => ?_)
  have es := va_pl_set (X := []) (e := .inl (cR, n, .inr (.inr (.inr (.inr (va_up g i.toNatClampNeg (some v))))))) (pl_D hN f) hm e8
  refine kk H1 locs1 (va_up f a (.inl (cR, n, .inr (.inr (.inr (.inr (va_up g i.toNatClampNeg (some v)))))))) ⟨(show (va_pl L f).set k9 _ = va_pl L _ from es) ▸ hP1, hw.2.1.up ?_, hw.2.2.1.up (by rw [ht]; exact hS), hS1⟩ (fun b hb => va_up_ne _ _ hb)
  rw [ht, hok]
  refine ⟨_, rfl, fun i9 h9 => ?_⟩
  by_cases q : i9 = i.toNatClampNeg
  · subst q
    exact ⟨v, va_up_self _ _ _, hvm, hvt⟩
  · rw [va_up_ne _ _ q]
    exact h2 i9 h9
theorem tp_alen (hexec : p.tables.exec = Jvm.exec) (hb : c.code = cc) (hK : va_K (dC, dI) vwCl (tyC cI cS cP cA) s) (hw : PW dC dI cI cS cP cA L tg S f0 H0 f H locs) (hm : a ∈ L) (t : Nat) (ht : tg a = t) (j : Nat) {n t' : Nat} {cR : ClassId} {ty : FieldType} (hok : ∀ e, okT cI cS cP cA L tg t e = okR L tg cR n t' e) (hj : (tyC cI cS cP cA)[j]? = some (cR, ty)) {v : Int32} (hv : Int32.ofNat n = v) (hdg : decode cc pc = .ok (.arraylength, 1))
    (kk : W p l e R s m args below meth c H locs cells slots Q (F0 m (pc + 1) ls (.int v :: rest))) : W p l e R s m args below meth c H locs cells slots Q (F0 m pc ls (.ref a :: rest)) := by
  have h1 := hw.2.1 a hm
  rw [ht, hok] at h1
  obtain ⟨g, e1, h2⟩ := h1
  obtain ⟨k9, e9⟩ := va_pl_get (X := []) (f := f) hm
  rw [e1] at e9
  exact va_alen hexec hb hK hw.1 k9 j e9 hj hv hdg kk
theorem tp_copyi (hexec : p.tables.exec = Jvm.exec) (hb : c.code = cc) (hml : c.maxLocals = ls.size) {own : String} {index : Nat} (hown : s.vm.findClass own = some m.cls) (hlink : (Cond.methodLink own index arraycopyName).before args s = true) (hnat : (Cond.native arraycopyName).before args s = true) (hstat : (Cond.static arraycopyName).before args s = true) (hini : (Cond.initialized "java/lang/System").before args s = true)
    (hN : L.Nodup) (hK : va_K (dC, dI) vwCl (tyC cI cS cP cA) s) (hw : PW dC dI cI cS cP cA L tg S f0 H0 f H locs) {a0 : Nat} (hm0 : a0 ∈ L) (t0 : Nat) (ht0 : tg a0 = t0) (hm : a ∈ L) (t : Nat) (ht : tg a = t) (hS : S t = true) {n0 n1 : Nat} (hok0 : ∀ e, okT cI cS cP cA L tg t0 e = okI cI n0 e) (hok : ∀ e, okT cI cS cP cA L tg t e = okI cI n1 e)
    {sp dp n : Int32} (h1 : ¬ sp < 0) (h2 : ¬ dp < 0) (h3 : ¬ n < 0) (h4 : sp.toNatClampNeg + n.toNatClampNeg ≤ n0) (h5 : dp.toNatClampNeg + n.toNatClampNeg ≤ n1)
    (hframes : 1 ≤ R.frames) (hlocals : (rest.map fun v => v.category).sum + (nativeFrameWords "java/lang/System" "arraycopy" 5 + 11) ≤ R.locals) (hdg : decode cc pc = .ok (.invokestatic index, 3))
    (kk : ∀ (H1 : Heap) (locs1 : List Loc) (f1 : Nat → va_E), PW dC dI cI cS cP cA L tg S f0 H0 f1 H1 locs1 → (∀ b : Nat, b ≠ a → f1 b = f b) → W p l e R s m args below meth c H1 locs1 cells slots Q (F0 m (pc + 3) ls rest)) : W p l e R s m args below meth c H locs cells slots Q (F0 m pc ls (.int n :: .int dp :: .ref a :: .int sp :: .ref a0 :: rest)) := by
  have q1 := hw.2.1 a hm
  rw [ht, hok] at q1
  obtain ⟨g, e1⟩ := q1
  have q0 := hw.2.1 a0 hm0
  rw [ht0, hok0] at q0
  obtain ⟨g0, e0⟩ := q0
  obtain ⟨k9, e9⟩ := va_pl_get (X := []) (f := f) hm
  have e8 := e9
  rw [e1] at e9
  obtain ⟨k0, e7⟩ := va_pl_get (X := []) (f := f) hm0
  rw [e0] at e7
  refine va_copyi (ty := .int) hexec hb hml hown hlink hnat hstat hini hK hw.1 (pl_D hN f) hw.2.2.2 k0 k9 0 0 e7 e9 rfl rfl rfl h1 h2 h3 h4 h5 (fun _ _ => rfl) hframes hlocals hdg (fun H1 locs1 hP1 _ hS1 => ?_)
  have es := va_pl_set (X := []) (e := .inl (cI, n1, .inl (va_cpy g0 g sp.toNatClampNeg dp.toNatClampNeg n.toNatClampNeg))) (pl_D hN f) hm e8
  refine kk H1 locs1 (va_up f a (.inl (cI, n1, .inl (va_cpy g0 g sp.toNatClampNeg dp.toNatClampNeg n.toNatClampNeg)))) ⟨(show (va_pl L f).set k9 _ = va_pl L _ from es) ▸ hP1, hw.2.1.up ?_, hw.2.2.1.up (by rw [ht]; exact hS), hS1⟩ (fun b hb => va_up_ne _ _ hb)
  rw [ht, hok]
  exact ⟨_, rfl⟩
/-- the receiver of a call -/
theorem tp_recv (hK : va_K (dC, dI) vwCl (tyC cI cS cP cA) s) (hw : PW dC dI cI cS cP cA L tg S f0 H0 f H locs) (hm : a ∈ L) (t : Nat) (ht : tg a = t) {ci : Nat} {ps : List (Nat × Nat)} {q : vw_C} (hok : ∀ e, okT cI cS cP cA L tg t e = okO L tg ci ps e) (hc : vwCl[ci]? = some q) : ∃ cell : Cell, H[a]? = some cell ∧ cell.vm.isStatics = false ∧ s.vm.findClass q.1 = some cell.cls := by
  have h1 := hw.2.1 a hm
  rw [ht, hok] at h1
  obtain ⟨fs, e1, -, -⟩ := h1
  obtain ⟨k9, e9⟩ := va_pl_get (X := []) (f := f) hm
  rw [e1] at e9
  exact va_recv hK hw.1 hc e9
/-- behind a call over the pool -/
theorem PW.back {S' : Nat → Bool} {f1 : Nat → va_E} {t : State} {H1 : Heap} {locs1 : List Loc} (hw : PW dC dI cI cS cP cA L tg S f0 H0 f H locs) (hS : ∀ t : Nat, t < 13 → S t = false → S' t = false) (hT : ∀ a : Nat, a ∈ L → tg a < 13) (hI : PI cI cS cP cA L tg f1) (hF : Fr L tg S' f f1) (hP : va_P (dC, dI) vwCl (va_pl L f1) t.heap) (ht : t.heap = H1) (hs : va_S (fun q : Nat => q ∈ L) H0 H1 locs1) : PW dC dI cI cS cP cA L tg S f0 H0 f1 H1 locs1 := ⟨by rw [← ht]; exact hP, hI, hw.2.2.1.trans hF hS hT, hs⟩
theorem PW.at {t : State} (hw : PW dC dI cI cS cP cA L tg S f0 H0 f H locs) (ht : t.heap = H) : va_P (dC, dI) vwCl (va_pl L f) t.heap := by
  rw [ht]
  exact hw.1
theorem PW.start {U : State} (hP : va_P (dC, dI) vwCl (va_pl L f) U.heap) (hI : PI cI cS cP cA L tg f) : PW dC dI cI cS cP cA L tg S f U.heap f U.heap [] := ⟨hP, hI, Fr.rf, va_S.rf⟩
end TPR
/-- Int32 loops: the way to go falls -/
theorem i_falls {x y b : Int32} (h : ¬ b ≤ x) (e : y = x + 1) : (b.toInt - y.toInt).toNat < (b.toInt - x.toInt).toNat := by
  have h1 := Int32.not_le.mp h
  rw [Int32.lt_iff_toInt_lt] at h1
  have hb := b.toInt_lt
  have hx := x.le_toInt
  have h2 : y.toInt = x.toInt + 1 := by
    rw [e, Int32.toInt_add, show (1 : Int32).toInt = 1 from rfl]
    exact Int.bmod_eq_of_le (by omega) (by omega)
  omega
def ev_r (n : Nat) : Int32 := if n = 6 then (-1) else nI n
def ev_n (n : Nat) : Nat := if n = 6 then 6 else n + 1
def kg_c (a b c : Int32) (n : Nat) : Int32 := if 6 ≤ n then (-1) else (if f_X0_isCalendar a = 0 then (-1) else (if f_X5_isRowOfDays b c = 0 then (-1) else nI n))
def kg_m (a b c : Int32) (n : Nat) : Nat := if 6 ≤ n then n else (if f_X0_isCalendar a = 0 then n else (if f_X5_isRowOfDays b c = 0 then n else n + 1))
