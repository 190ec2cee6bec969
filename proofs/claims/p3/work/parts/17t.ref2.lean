/-! the reference: what its arrays keep; own work -/
def IvSE (f : Nat → Int32) : Prop := ∀ j : Nat, j < 12 → ∃ q : Nat, q < 6 ∧ f j = nI q
def IvSC (n : Nat) (fW fC : Nat → Int32) : Prop := ∀ j : Nat, j < n → fW j = 6 → ∃ q : Nat, q < 6 ∧ fC j = nI q
theorem sw_out5 {x : Int32} (h0 : ¬ x = 0) (h1 : ¬ x = 1) (h2 : ¬ x = 2) (h3 : ¬ x = 3) (h4 : ¬ x = 4) : x.toInt < 0 ∨ 4 < x.toInt := by
  have a0 := sw_out4 h0 h1 h2 h3
  have a4 := lv_neT (a := 4) h4 rfl
  omega
/-- a saying's spans: one at most, or single days, no two the same -/
def SpS (q s : Nat) (fF fT : Nat → Int32) : Prop := q ≤ 1 ∨ ((∀ i : Nat, i < q → fF (10 * s + i) = fT (10 * s + i)) ∧ ∀ i j : Nat, i < j → j < q → ¬ fF (10 * s + i) = fF (10 * s + j))
def SpOK (fM fF fT : Nat → Int32) (s : Nat) : Prop := ∃ q : Nat, q ≤ 10 ∧ fM s = nI q ∧ SpS q s fF fT
def IvSP (fM fF fT : Nat → Int32) : Prop := ∀ s : Nat, s < 13 → SpOK fM fF fT s
def SpSet (ns : Nat) (fM fF fT gM gF gT : Nat → Int32) : Prop := (∀ s : Nat, s ≠ ns → gM s = fM s) ∧ (∀ i : Nat, (i < 10 * ns ∨ 10 * ns + 10 ≤ i) → gF i = fF i ∧ gT i = fT i) ∧ SpOK gM gF gT ns
theorem IvSP.set {ns : Nat} {fM fF fT gM gF gT : Nat → Int32} (h : IvSP fM fF fT) (hs : SpSet ns fM fF fT gM gF gT) : IvSP gM gF gT := by
  intro s hs13
  by_cases e : s = ns
  · subst e
    exact hs.2.2
  · obtain ⟨q, hq, e1, h1⟩ := h s hs13
    refine ⟨q, hq, (hs.1 s e).trans e1, ?_⟩
    have at' : ∀ i : Nat, i < q → gF (10 * s + i) = fF (10 * s + i) ∧ gT (10 * s + i) = fT (10 * s + i) := fun i hi => hs.2.1 _ (by omega)
    rcases h1 with h1 | ⟨h1, h2⟩
    · exact Or.inl h1
    · refine Or.inr ⟨fun i hi => ?_, fun i j hij hj => ?_⟩
      · rw [(at' i hi).1, (at' i hi).2]
        exact h1 i hi
      · rw [(at' i (by omega)).1, (at' j hj).1]
        exact h2 i j hij hj
theorem IvSP.many {fM fF fT : Nat → Int32} (h : IvSP fM fF fT) : IvSM fM := fun j hj => by
  obtain ⟨q, hq, e, -⟩ := h j hj
  exact ⟨q, hq, e⟩
theorem SpSet.none {ns : Nat} {fM fF fT : Nat → Int32} : SpSet ns fM fF fT (upd fM (nI ns : Int32).toNatClampNeg 0) fF fT ∨ 2 ^ 31 ≤ ns := by
  by_cases hn : ns < 2 ^ 31
  · left
    rw [nI_clamp hn]
    exact ⟨fun s hs => pk_un hs, fun i _ => ⟨rfl, rfl⟩, 0, by omega, pk_us, Or.inl (by omega)⟩
  · right
    omega
/-- one span laid, or none, behind an emptied place -/
theorem ly_set {a b : Int32} {ns : Nat} {fM fM0 fF fT gM gF gT : Nat → Int32} (h0 : fM0 = upd fM (nI ns : Int32).toNatClampNeg 0) (hn : ns < 2 ^ 31) (h : ly_r a b ns 0 fM0 fF fT gM gF gT) : SpSet ns fM fF fT gM gF gT := by
  rw [nI_clamp hn] at h0
  rcases h with ⟨-, e1, e2, e3⟩ | ⟨-, e1, e2, e3⟩
  · rw [e1, e2, e3, h0]
    exact ⟨fun s hs => pk_un hs, fun i _ => ⟨rfl, rfl⟩, 0, by omega, pk_us, Or.inl (by omega)⟩
  · refine ⟨fun s hs => ?_, fun i hi => ?_, 1, by omega, by rw [e1, pk_us], Or.inl (by omega)⟩
    · rw [e1, pk_un hs, h0, pk_un hs]
    · rw [e2, e3, pk_un (by omega), pk_un (by omega)]
      exact ⟨rfl, rfl⟩
/-- the feast's days so far: i years looked at, q days laid -/
def FeS (ns i q : Nat) (D : Nat → Int32) (fM fF fT gM gF gT : Nat → Int32) : Prop := q ≤ i ∧ (∀ s : Nat, s ≠ ns → gM s = fM s) ∧ gM ns = nI q ∧ (∀ j : Nat, (j < 10 * ns ∨ 10 * ns + 10 ≤ j) → gF j = fF j ∧ gT j = fT j) ∧ (∀ j : Nat, j < q → gF (10 * ns + j) = gT (10 * ns + j) ∧ ∃ k : Nat, k < i ∧ gF (10 * ns + j) = D k ∧ ¬ f_X6_isDay (D k) = 0) ∧ ∀ j k : Nat, j < k → k < q → ¬ gF (10 * ns + j) = gF (10 * ns + k)
theorem FeS.start {ns : Nat} {D : Nat → Int32} {fM fF fT : Nat → Int32} (hn : ns < 2 ^ 31) : FeS ns 0 0 D fM fF fT (upd fM (nI ns : Int32).toNatClampNeg 0) fF fT := by
  rw [nI_clamp hn]
  exact ⟨by omega, fun s hs => pk_un hs, pk_us, fun j _ => ⟨rfl, rfl⟩, fun j hj => absurd hj (by omega), fun j k _ hk => absurd hk (by omega)⟩
theorem FeS.skip {ns i q : Nat} {D : Nat → Int32} {fM fF fT gM gF gT : Nat → Int32} (h : FeS ns i q D fM fF fT gM gF gT) : FeS ns (i + 1) q D fM fF fT gM gF gT := by
  obtain ⟨h1, h2, h3, h4, h5, h6⟩ := h
  refine ⟨by omega, h2, h3, h4, fun j hj => ?_, h6⟩
  obtain ⟨a, k, b, c⟩ := h5 j hj
  exact ⟨a, k, by omega, c⟩
theorem FeS.done {ns i q : Nat} {D : Nat → Int32} {fM fF fT gM gF gT : Nat → Int32} (h : FeS ns i q D fM fF fT gM gF gT) (hi : i ≤ 10) : SpSet ns fM fF fT gM gF gT := by
  obtain ⟨h1, h2, h3, h4, h5, h6⟩ := h
  exact ⟨h2, h4, q, by omega, h3, Or.inr ⟨fun j hj => (h5 j hj).1, h6⟩⟩
theorem isDay_le {d : Int32} (h : ¬ f_X6_isDay d = 0) : (if 0 < d then d else 0) = d ∧ (if d < 985999 then d else 985999) = d := by
  have h1 : ¬ d < 0 := fun q => h (by rw [f_X6_isDay, if_pos q])
  have h2 : ¬ 986000 ≤ d := fun q => h (by rw [f_X6_isDay, if_neg h1, if_pos q])
  rw [Int32.lt_iff_toInt_lt] at h1
  rw [Int32.le_iff_toInt_le] at h2
  have e0 : (0 : Int32).toInt = 0 := rfl
  have e1 : (986000 : Int32).toInt = 986000 := rfl
  have e2 : (985999 : Int32).toInt = 985999 := rfl
  constructor
  · by_cases q : 0 < d
    · rw [if_pos q]
    · rw [if_neg q]
      rw [Int32.lt_iff_toInt_lt] at q
      exact Int32.toInt_inj.mp (by omega)
  · by_cases q : d < 985999
    · rw [if_pos q]
    · rw [if_neg q]
      rw [Int32.lt_iff_toInt_lt] at q
      exact Int32.toInt_inj.mp (by omega)
theorem FeS.add {ns i q : Nat} {D : Nat → Int32} {fM fF fT gM gF gT kM kF kT : Nat → Int32} {d : Int32} (h : FeS ns i q D fM fF fT gM gF gT) (hd : d = D i) (hday : ¬ f_X6_isDay d = 0) (hl : ly_r d d ns q gM gF gT kM kF kT) (hi : i < 10) (hD : ∀ k : Nat, k < i → ¬ f_X6_isDay (D k) = 0 → ¬ D k = D i) : FeS ns (i + 1) (q + 1) D fM fF fT kM kF kT := by
  obtain ⟨h1, h2, h3, h4, h5, h6⟩ := h
  obtain ⟨d1, d2⟩ := isDay_le hday
  rcases hl with ⟨hno, -⟩ | ⟨-, e1, e2, e3⟩
  · rw [d1, d2] at hno
    exact absurd Int32.le_rfl hno
  · rw [d1] at e2
    rw [d2] at e3
    refine ⟨by omega, fun s hs => ?_, by rw [e1, pk_us], fun j hj => ?_, fun j hj => ?_, fun j k hjk hk => ?_⟩
    · rw [e1, pk_un hs]
      exact h2 s hs
    · rw [e2, e3, pk_un (by omega), pk_un (by omega)]
      exact h4 j hj
    · by_cases ej : j = q
      · subst ej
        rw [e2, e3, pk_us, pk_us]
        exact ⟨rfl, i, by omega, hd, hd ▸ hday⟩
      · rw [e2, e3, pk_un (by omega), pk_un (by omega)]
        obtain ⟨a, k, b, c⟩ := h5 j (by omega)
        exact ⟨a, k, by omega, c⟩
    · rw [e2]
      by_cases ek : k = q
      · subst ek
        rw [pk_us, pk_un (by omega)]
        obtain ⟨-, k0, b, c, c2⟩ := h5 j (by omega)
        rw [c, hd]
        exact hD k0 b c2
      · rw [pk_un (by omega), pk_un (by omega)]
        exact h6 j k hjk (by omega)
/-- two lines: the greater start, the lesser end -/
theorem sg_1 {e1 s1 e2 s2 a b : Int32} (ha : a = if e1 < s1 then s1 else e1) (hb : b = if s2 < e2 then s2 else e2) (hab : a ≤ b) : (s1 = s2 → a = b ∧ a = s1) ∧ (e1 = e2 → a = b ∧ a = e1) := by
  have h1 : s1.toInt ≤ a.toInt ∧ e1.toInt ≤ a.toInt := by
    by_cases q : e1 < s1
    · rw [if_pos q] at ha
      rw [Int32.lt_iff_toInt_lt] at q
      rw [ha]
      omega
    · rw [if_neg q] at ha
      rw [Int32.lt_iff_toInt_lt] at q
      rw [ha]
      omega
  have h2 : b.toInt ≤ s2.toInt ∧ b.toInt ≤ e2.toInt := by
    by_cases q : s2 < e2
    · rw [if_pos q] at hb
      rw [Int32.lt_iff_toInt_lt] at q
      rw [hb]
      omega
    · rw [if_neg q] at hb
      rw [Int32.lt_iff_toInt_lt] at q
      rw [hb]
      omega
  rw [Int32.le_iff_toInt_le] at hab
  constructor
  · intro e
    subst e
    exact ⟨Int32.toInt_inj.mp (by omega), Int32.toInt_inj.mp (by omega)⟩
  · intro e
    subst e
    exact ⟨Int32.toInt_inj.mp (by omega), Int32.toInt_inj.mp (by omega)⟩
/-- an event's spans: one at most, or single days -/
def EvS (m e : Nat) (fF fT : Nat → Int32) : Prop := m ≤ 1 ∨ ∀ i : Nat, i < m → fF (20 * e + i) = fT (20 * e + i)
def EvB (n : Nat) (fM : Nat → Int32) : Prop := ∀ e : Nat, e < n → ∃ m : Nat, m ≤ 10 ∧ fM e = nI m
def CdN (i n m q : Nat) : Prop := n ≤ i ∨ (m ≤ 1 ∧ i = 1 ∧ n ≤ q)
def CdS (n m q : Nat) (nF nT : Nat → Int32) : Prop := (q ≤ 1 ∧ m ≤ 1) ∨ ∀ j : Nat, j < n → nF j = nT j
def CdK (n0 n k i m q je js : Nat) (eF sF : Nat → Int32) : Prop := n0 ≤ n ∧ n ≤ n0 + k ∧ (2 ≤ q → 2 ≤ m → n = n0 ∨ (n = n0 + 1 ∧ ∃ k0 : Nat, k0 < k ∧ sF (10 * js + k0) = eF (20 * je + i)))
def CdR (je : Nat) (fM gM gF gT : Nat → Int32) : Prop := ∃ n : Nat, n ≤ 10 ∧ gM = upd fM je (nI n) ∧ EvS n je gF gT
theorem cd_lt {i n n2 k m q je js : Nat} {eF sF : Nat → Int32} (hn : CdN i n m q) (h : CdK n n2 k i m q je js eF sF) (hi : i < m) (hk : k < q) (hm : m ≤ 10) (hq : q ≤ 10) : n2 < 20 := by
  obtain ⟨h1, h2, h3⟩ := h
  unfold CdN at hn
  by_cases a : 2 ≤ q
  · by_cases b : 2 ≤ m
    · rcases h3 a b with e | ⟨e, -⟩ <;> (clear h3; omega)
    · clear h3
      omega
  · clear h3
    omega
theorem cdK_0 {n i m q je js : Nat} {eF sF : Nat → Int32} : CdK n n 0 i m q je js eF sF := ⟨Nat.le_refl _, by omega, fun _ _ => Or.inl rfl⟩
theorem CdK.skip {n n2 k i m q je js : Nat} {eF sF : Nat → Int32} (h : CdK n n2 k i m q je js eF sF) : CdK n n2 (k + 1) i m q je js eF sF := ⟨h.1, by have := h.2.1; omega, fun a b => (h.2.2 a b).imp id (fun ⟨e, k0, hk, q⟩ => ⟨e, k0, by omega, q⟩)⟩
theorem CdK.add {n n2 k i m q je js : Nat} {eF eT sF sT : Nat → Int32} {a b : Int32} (h : CdK n n2 k i m q je js eF sF) (hE : EvS m je eF eT) (hS : SpS q js sF sT) (hi : i < m) (hk : k < q) (ha : a = if eF (20 * je + i) < sF (10 * js + k) then sF (10 * js + k) else eF (20 * je + i)) (hb : b = if sT (10 * js + k) < eT (20 * je + i) then sT (10 * js + k) else eT (20 * je + i)) (hab : a ≤ b) : CdK n (n2 + 1) (k + 1) i m q je js eF sF := by
  refine ⟨by have := h.1; omega, by have := h.2.1; omega, fun q2 m2 => ?_⟩
  obtain ⟨s1, s2⟩ := sg_1 ha hb hab
  have e1 : ∀ i : Nat, i < m → eF (20 * je + i) = eT (20 * je + i) := hE.resolve_left (by omega)
  have e2 := hS.resolve_left (by omega)
  have es : sF (10 * js + k) = eF (20 * je + i) := ((s1 (e2.1 k hk)).2).symm.trans (s2 (e1 i hi)).2
  rcases h.2.2 q2 m2 with e | ⟨e, k0, hk0, e3⟩
  · exact Or.inr ⟨by omega, k, by omega, es⟩
  · exact absurd (e3.trans es.symm) (e2.2 k0 k hk0 hk)
theorem CdS.add {n m q k i je js : Nat} {nF nT eF eT sF sT : Nat → Int32} {a b : Int32} (h : CdS n m q nF nT) (hE : EvS m je eF eT) (hS : SpS q js sF sT) (hi : i < m) (hk : k < q) (hn : n < 20) (ha : a = if eF (20 * je + i) < sF (10 * js + k) then sF (10 * js + k) else eF (20 * je + i)) (hb : b = if sT (10 * js + k) < eT (20 * je + i) then sT (10 * js + k) else eT (20 * je + i)) (hab : a ≤ b) : CdS (n + 1) m q (upd nF (nI n : Int32).toNatClampNeg a) (upd nT (nI n : Int32).toNatClampNeg b) := by
  rcases h with h | h
  · exact Or.inl h
  · by_cases c : q ≤ 1 ∧ m ≤ 1
    · exact Or.inl c
    · refine Or.inr (fun j hj => ?_)
      rw [nI_clamp (by omega)]
      obtain ⟨s1, s2⟩ := sg_1 ha hb hab
      have ab : a = b := by
        rcases hS with h1 | h1
        · rcases hE with h2 | h2
          · exact absurd ⟨h1, h2⟩ c
          · exact (s2 (h2 i hi)).1
        · exact (s1 (h1.1 k hk)).1
      by_cases e : j = n
      · subst e
        rw [pk_us, pk_us]
        exact ab
      · rw [pk_un e, pk_un e]
        exact h j (by omega)
theorem cdN_next {i n n2 k m q je js : Nat} {eF sF : Nat → Int32} (hn : CdN i n m q) (h : CdK n n2 k i m q je js eF sF) (hi : i < m) (hk : ¬ k < q) (hk2 : k ≤ q) : CdN (i + 1) n2 m q := by
  obtain ⟨h1, h2, h3⟩ := h
  unfold CdN at hn ⊢
  by_cases a : 2 ≤ q
  · by_cases b : 2 ≤ m
    · rcases h3 a b with e | ⟨e, -⟩ <;> (clear h3; omega)
    · clear h3
      omega
  · clear h3
    omega
theorem CdN.le {i n m q : Nat} (h : CdN i n m q) (hi : i ≤ m) (hm : m ≤ 10) (hq : q ≤ 10) : n ≤ 10 := by
  unfold CdN at h
  omega
def CdC (k je : Nat) (nF nT gF gT : Nat → Int32) : Prop := ∀ j : Nat, j < k → gF (20 * je + j) = nF j ∧ gT (20 * je + j) = nT j
theorem CdC.add {k je : Nat} {nF nT gF gT : Nat → Int32} (h : CdC k je nF nT gF gT) (hk : k < 20) (hj : je < 6) : CdC (k + 1) je nF nT (upd gF (nI ((20 * je) + k) : Int32).toNatClampNeg (nF k)) (upd gT (nI ((20 * je) + k) : Int32).toNatClampNeg (nT k)) := by
  intro j hj'
  rw [nI_clamp (by omega)]
  by_cases e : j = k
  · subst e
    rw [pk_us, pk_us]
    exact ⟨rfl, rfl⟩
  · rw [pk_un (by omega), pk_un (by omega)]
    exact h j (by omega)
theorem cdR_end {n m q i je k : Nat} {fM nF nT gF gT : Nat → Int32} (hN : CdN i n m q) (hS : CdS n m q nF nT) (hC : CdC k je nF nT gF gT) (hi : i ≤ m) (hi2 : ¬ i < m) (hm : m ≤ 10) (hq : q ≤ 10) (hk : ¬ k < n) (hj : je < 6) : CdR je fM (upd fM (nI je : Int32).toNatClampNeg (nI n)) gF gT := by
  refine ⟨n, hN.le hi hm hq, by rw [nI_clamp (by omega)], ?_⟩
  rcases hS with ⟨h1, h2⟩ | h
  · left
    unfold CdN at hN
    omega
  · right
    intro j hj'
    obtain ⟨a, b⟩ := hC j (by omega)
    rw [a, b]
    exact h j hj'
theorem EvB.next {i : Nat} {fM gM : Nat → Int32} (h : EvB i fM) {n : Nat} (hn : n ≤ 10) (e : gM = upd fM i (nI n)) : EvB (i + 1) gM := by
  intro j hj
  by_cases q : j = i
  · subst q
    exact ⟨n, hn, by rw [e, pk_us]⟩
  · obtain ⟨m, hm, em⟩ := h j (by omega)
    exact ⟨m, hm, by rw [e, pk_un q]; exact em⟩
theorem EvB.up {i : Nat} {fM gM : Nat → Int32} (h : EvB i fM) {x : Int32} (e : gM = upd fM i x) : EvB i gM := by
  intro j hj
  obtain ⟨m, hm, em⟩ := h j hj
  exact ⟨m, hm, by rw [e, pk_un (by omega)]; exact em⟩
/-- the walk's places: those ahead of j are good, j's own is good or -1 -/
def TkA (j : Nat) (f : Nat → Int32) : Prop := ∀ i : Nat, i < j → ∃ q : Nat, q < 10 ∧ f i = nI q
def TkP (j : Nat) (f : Nat → Int32) : Prop := TkA j f ∧ (f j = -1 ∨ ∃ q : Nat, q < 10 ∧ f j = nI q)
theorem TkA.up {j : Nat} {f : Nat → Int32} (h : TkA j f) {k : Nat} {x : Int32} (hk : j ≤ k) : TkA j (upd f k x) := fun i hi => by
  rw [pk_un (by omega)]
  exact h i hi
theorem TkA.next {j : Nat} {f : Nat → Int32} (h : TkA j f) {q : Nat} (hq : q < 10) : TkA (j + 1) (upd f j (nI q)) := fun i hi => by
  by_cases e : i = j
  · subst e
    exact ⟨q, hq, pk_us⟩
  · rw [pk_un e]
    exact h i (by omega)
theorem TkP.inc {j : Nat} {f : Nat → Int32} (h : TkP j f) : ∃ q : Nat, q ≤ 10 ∧ f j + 1 = nI q := by
  rcases h.2 with e | ⟨q, hq, e⟩
  · exact ⟨0, by omega, by rw [e]; decide⟩
  · exact ⟨q + 1, by omega, by rw [e, nI_1]⟩
/-- where the walk stands: M - 1, or gone -/
def WkE (M ne : Nat) (ee : Int32) (f : Nat → Int32) : Prop := (M = 0 ∧ ee = -1) ∨ (0 < M ∧ M ≤ ne ∧ ee = nI (M - 1) ∧ TkP (M - 1) f)
theorem WkE.at {M ne : Nat} {ee : Int32} {f : Nat → Int32} (h : WkE M ne ee f) (h0 : ¬ ee < 0) : ∃ j : Nat, M = j + 1 ∧ j < ne ∧ ee = nI j ∧ TkP j f := by
  rcases h with ⟨-, e⟩ | ⟨h1, h2, h3, h4⟩
  · exact absurd (by rw [e]; decide) h0
  · exact ⟨M - 1, by omega, by omega, h3, h4⟩
theorem WkE.back {j ne : Nat} {f : Nat → Int32} {x : Int32} (h : TkA j f) (hj : j < ne) (hx : x = nI j + (-1)) (hn : ne ≤ 6) {k : Nat} {y : Int32} (hk : k = j) : WkE j ne x (upd f k y) := by
  subst hk
  cases k with
  | zero => exact Or.inl ⟨rfl, by rw [hx]; decide⟩
  | succ j =>
    refine Or.inr ⟨by omega, by omega, by rw [hx, pk_m1]; rfl, ?_, Or.inr ?_⟩
    · intro i hi
      rw [pk_un (by omega)]
      exact h i (by omega)
    · obtain ⟨q, hq, e⟩ := h j (by omega)
      refine ⟨q, hq, ?_⟩
      show upd f (j + 1) y j = nI q
      rw [pk_un (by omega)]
      exact e
theorem WkE.stay {j ne : Nat} {f : Nat → Int32} (h : TkA (j + 1) f) (hj : j < ne) : WkE (j + 1) ne (nI j) f := by
  refine Or.inr ⟨by omega, by omega, rfl, fun i hi => h i (by omega), Or.inr ?_⟩
  exact h j (by omega)
theorem WkE.go {j ne : Nat} {f : Nat → Int32} (h : TkA (j + 1) f) (hj : j + 1 < ne) : WkE (j + 2) ne (nI (j + 1)) (upd f (j + 1) (-1)) := by
  refine Or.inr ⟨by omega, by omega, rfl, ?_, Or.inl ?_⟩
  · exact TkA.up h (by omega)
  · exact pk_us
theorem ie_of {p : Int32} {n : Nat} (hn : n ≤ 6) (h : ¬ f_X6_isEvent p n = 0) : ∃ j : Nat, j < n ∧ p = nI j := by
  have h1 : ¬ p < 0 := fun q => h (by rw [f_X6_isEvent, if_pos q])
  have h2 : ¬ nI n ≤ p := fun q => h (by rw [f_X6_isEvent, if_neg h1, if_pos q])
  exact lt_of_nI h1 h2 (by omega)
theorem shl_p {n : Nat} (h : n ≤ 12) : (1 : Int32) <<< (nI n &&& 31) = nI (2 ^ n) ∧ 2 ^ n ≤ 4096 := by
  match n, h with
  | 0, _ | 1, _ | 2, _ | 3, _ | 4, _ | 5, _ | 6, _ | 7, _ | 8, _ | 9, _ | 10, _ | 11, _ | 12, _ => decide
  | (n + 13), h => exact absurd h (by omega)
/-- x is ahead of y: at the lowest place where they differ x has the bit -/
def ahd (x y : Int32) : Prop := ¬ x &&& (x ^^^ y) &&& -(x ^^^ y) = 0
def rvB (x : Int32) (i : Nat) : Nat := if x.toBitVec.getLsbD i then 1 else 0
def rv (x : Int32) : Nat := 2048 * rvB x 0 + 1024 * rvB x 1 + 512 * rvB x 2 + 256 * rvB x 3 + 128 * rvB x 4 + 64 * rvB x 5 + 32 * rvB x 6 + 16 * rvB x 7 + 8 * rvB x 8 + 4 * rvB x 9 + 2 * rvB x 10 + rvB x 11
theorem rvB_le (x : Int32) (i : Nat) : rvB x i ≤ 1 := by
  unfold rvB
  split <;> omega
theorem ahd_bit {x y : Int32} (h : ahd x y) : ∃ i : Nat, i < 32 ∧ x.toBitVec.getLsbD i = true ∧ y.toBitVec.getLsbD i = false ∧ ∀ j : Nat, j < i → x.toBitVec.getLsbD j = y.toBitVec.getLsbD j := by
  have h1 : ¬ (x.toBitVec &&& (x.toBitVec ^^^ y.toBitVec) &&& -(x.toBitVec ^^^ y.toBitVec)) = 0#32 := fun q => h (Int32.toBitVec_inj.mp (by simpa using q))
  have h2 : ∃ i : Nat, (x.toBitVec &&& (x.toBitVec ^^^ y.toBitVec) &&& -(x.toBitVec ^^^ y.toBitVec)).getLsbD i = true := by
    refine Classical.byContradiction (fun q => h1 (BitVec.eq_of_getLsbD_eq (fun i hi => ?_)))
    rw [BitVec.getLsbD_zero]
    cases hb : (x.toBitVec &&& (x.toBitVec ^^^ y.toBitVec) &&& -(x.toBitVec ^^^ y.toBitVec)).getLsbD i with
    | false => rfl
    | true => exact absurd ⟨i, hb⟩ q
  obtain ⟨i, hi⟩ := h2
  rw [BitVec.getLsbD_and, BitVec.getLsbD_and, Bool.and_eq_true, Bool.and_eq_true, BitVec.getLsbD_xor, BitVec.getLsbD_neg] at hi
  obtain ⟨⟨a, b⟩, c⟩ := hi
  have hi32 : i < 32 := BitVec.lt_of_getLsbD a
  have bx : (x.toBitVec ^^^ y.toBitVec).getLsbD i = true := by rw [BitVec.getLsbD_xor]; exact b
  rw [bx, Bool.true_xor, Bool.not_eq_true', decide_eq_true hi32, Bool.true_and, decide_eq_false_iff_not] at c
  rw [a, Bool.true_xor, Bool.not_eq_true'] at b
  have c2 := c
  refine ⟨i, hi32, a, b, fun j hj => ?_⟩
  refine Classical.byContradiction (fun q => c2 ⟨j, hj, ?_⟩)
  rw [BitVec.getLsbD_xor]
  cases hx : x.toBitVec.getLsbD j <;> cases hy : y.toBitVec.getLsbD j <;> simp_all
theorem hi_0 {n i : Nat} (hn : n < 4096) (hi : 12 ≤ i) : (nI n).toBitVec.getLsbD i = false := by
  rw [← BitVec.testBit_toNat, pk_tn (by omega)]
  exact Nat.testBit_lt_two_pow (Nat.lt_of_lt_of_le hn (show 4096 ≤ 2 ^ i from Nat.pow_le_pow_right (n := 2) (i := 12) (by omega) hi))
theorem rv_falls {n : Nat} {y : Int32} (hn : n < 4096) (h : ahd (nI n) y) : rv y < rv (nI n) := by
  obtain ⟨i, hi, h1, h2, h3⟩ := ahd_bit h
  have hi2 : i < 12 := Nat.not_le.mp (fun q => by rw [hi_0 hn q] at h1; cases h1)
  have b1 : rvB (nI n) i = 1 := by unfold rvB; rw [h1]; rfl
  have b2 : rvB y i = 0 := by unfold rvB; rw [h2]; rfl
  have b3 : ∀ j : Nat, j < i → rvB (nI n) j = rvB y j := fun j hj => by unfold rvB; rw [h3 j hj]
  have l := rvB_le y
  have l0 := l 0; have l1 := l 1; have l2 := l 2; have l3 := l 3; have l4 := l 4; have l5 := l 5; have l6 := l 6; have l7 := l 7; have l8 := l 8; have l9 := l 9; have l10 := l 10; have l11 := l 11
  have e0 := b3 0; have e1 := b3 1; have e2 := b3 2; have e3 := b3 3; have e4 := b3 4; have e5 := b3 5; have e6 := b3 6; have e7 := b3 7; have e8 := b3 8; have e9 := b3 9; have e10 := b3 10
  unfold rv
  match i, hi2 with
  | 0, _ | 1, _ | 2, _ | 3, _ | 4, _ | 5, _ | 6, _ | 7, _ | 8, _ | 9, _ | 10, _ | 11, _ => omega
  | (k + 12), h => exact absurd h (by omega)
theorem rv_pos {n : Nat} (hn : n < 4096) (h0 : ¬ nI n = 0) : rv 0 < rv (nI n) := by
  have z : ∀ i : Nat, rvB 0 i = 0 := fun i => by
    unfold rvB
    rw [show (0 : Int32).toBitVec = 0#32 from rfl, BitVec.getLsbD_zero]
    rfl
  have hx : ∃ i : Nat, i < 12 ∧ rvB (nI n) i = 1 := by
    refine Classical.byContradiction (fun q => h0 ?_)
    apply Int32.toBitVec_inj.mp
    apply BitVec.eq_of_getLsbD_eq
    intro i hi
    rw [show (0 : Int32).toBitVec = 0#32 from rfl, BitVec.getLsbD_zero]
    cases hb : (nI n).toBitVec.getLsbD i with
    | false => rfl
    | true =>
      have hi2 : i < 12 := Nat.not_le.mp (fun r => by rw [hi_0 hn r] at hb; cases hb)
      exact absurd ⟨i, hi2, by unfold rvB; rw [hb]; rfl⟩ q
  obtain ⟨i, hi2, b1⟩ := hx
  unfold rv
  simp only [z]
  match i, hi2 with
  | 0, _ | 1, _ | 2, _ | 3, _ | 4, _ | 5, _ | 6, _ | 7, _ | 8, _ | 9, _ | 10, _ | 11, _ => omega
  | (k + 12), h => exact absurd h (by omega)
theorem IvCO.say {n : Nat} {f : Nat → Int32} (h : IvCO n f) (hn : n < 2 ^ 31) : IvCO (n + 1) (upd f (nI n : Int32).toNatClampNeg (-1)) := by
  intro j hj
  rw [nI_clamp hn]
  by_cases e : j = n
  · subst e
    exact Or.inl pk_us
  · rw [pk_un e]
    exact h j (by omega)
theorem IvSE.set {f : Nat → Int32} (h : IvSE f) {a b : Nat} (ha : a < 2 ^ 31) (hb : b < 6) : IvSE (upd f (nI a : Int32).toNatClampNeg (nI b)) := by
  intro j hj
  rw [nI_clamp ha]
  by_cases e : j = a
  · subst e
    exact ⟨b, hb, pk_us⟩
  · rw [pk_un e]
    exact h j hj
theorem IvSC.say {n : Nat} {fW fC : Nat → Int32} (h : IvSC n fW fC) (hn : n < 2 ^ 31) {w c : Int32} (hq : w = 6 → ∃ q : Nat, q < 6 ∧ c = nI q) : IvSC (n + 1) (upd fW (nI n : Int32).toNatClampNeg w) (upd fC (nI n : Int32).toNatClampNeg c) := by
  intro j hj
  rw [nI_clamp hn]
  by_cases e : j = n
  · subst e
    rw [pk_us, pk_us]
    exact hq
  · rw [pk_un e, pk_un e]
    exact h j (by omega)
theorem EvB.at {i m : Nat} {fM : Nat → Int32} (h : EvB i fM) (hm : m ≤ 10) (e : fM i = nI m) : EvB (i + 1) fM := by
  intro j hj
  by_cases q : j = i
  · subst q
    exact ⟨m, hm, e⟩
  · exact h j (by omega)
theorem EvB.of {i n : Nat} {fM : Nat → Int32} (h : EvB i fM) (hi : i ≤ n) (hn : ¬ i < n) : EvB n fM := by
  rw [show n = i by omega]
  exact h
