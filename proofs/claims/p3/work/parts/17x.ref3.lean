/-! quarrel: the sets asked go on; own work -/
def NxO (x r : Int32) : Prop := r = 0 ∨ ∃ q : Nat, q < 4096 ∧ r = nI q ∧ (x = 0 ∨ ahd x r)
theorem NxO.any {x r : Int32} (h : NxO x r) : NxO 0 r := h.imp id (fun ⟨q, a, b, _⟩ => ⟨q, a, b, Or.inl rfl⟩)
theorem NxO.falls {x r : Int32} (h : NxO x r) (hx : NxO 0 x) (h0 : ¬ x = 0) : rv r < rv x := by
  obtain ⟨n, hn, rfl, -⟩ := hx.resolve_left h0
  rcases h with rfl | ⟨q, -, -, e | e⟩
  · exact rv_pos hn h0
  · exact absurd e h0
  · exact rv_falls hn e
