/-! what holds of the model's rows: n actors, TIME T -/
def okS (n : Nat) (v : Int32) : Prop := (∃ s, s ≤ 8 ∧ v = nI (100 + s)) ∨ v = 200 ∨ (∃ t s, t < n ∧ s ≤ 7 ∧ v = nI (300 + 10 * t + s)) ∨ v = 400 ∨ v = 500
def okL (x y : Int32) : Prop := (∃ s, s ≤ 8 ∧ x = nI s) ∧ (y = -1 ∨ ∃ f, f < 6 ∧ y = nI f)
def okR (T : Nat) (r : Int32) : Prop := r = -268435456 ∨ ∃ t, t ≤ T ∧ r = nI t
def WA (n T : Nat) (S : Mem) (i : Nat) : Prop :=
  (∃ c, c ≤ 4 ∧ S 127 i = nI c) ∧ (S 130 i = 0 ∨ S 130 i = 1) ∧ (∃ t x, 1 ≤ t ∧ t ≤ 3 ∧ x < t ∧ S 128 i = nI t ∧ S 131 i = nI x ∧ ∀ j, j < t → okS n (S 129 (3 * i + j))) ∧
  (∃ u, u ≤ 2 ∧ S 132 i = nI u) ∧ (∃ b, b ≤ 5 ∧ S 133 i = nI b ∧ ∀ j, j < b → okL (S 134 (5 * i + j)) (S 135 (5 * i + j))) ∧ (okR T (S 137 (2 * i)) ∧ okR T (S 137 (2 * i + 1)))
def WLk (n : Nat) (S : Mem) : Prop := ∃ l, l ≤ 6 ∧ S 126 13 = nI l ∧ ∀ j, j < l → ∃ x y, x < n ∧ y < n ∧ x ≠ y ∧ S 138 j = nI x ∧ S 139 j = nI y
def WS (n T : Nat) (S : Mem) : Prop := n ≤ 6 ∧ S 126 1 = nI n ∧ S 126 16 = nI T ∧ WLk n S ∧ ∀ i, i < n → WA n T S i
/-- the two agree on what counts of an actor -/
def agA (S S' : Mem) (i : Nat) : Prop := S' 127 i = S 127 i ∧ S' 128 i = S 128 i ∧ (∀ j, j < 3 → S' 129 (3 * i + j) = S 129 (3 * i + j)) ∧ S' 130 i = S 130 i ∧ S' 131 i = S 131 i ∧ S' 132 i = S 132 i ∧ S' 133 i = S 133 i ∧ (∀ j, j < 5 → S' 134 (5 * i + j) = S 134 (5 * i + j) ∧ S' 135 (5 * i + j) = S 135 (5 * i + j)) ∧ S' 137 (2 * i) = S 137 (2 * i) ∧ S' 137 (2 * i + 1) = S 137 (2 * i + 1)
def agH (S S' : Mem) : Prop := S' 126 1 = S 126 1 ∧ S' 126 13 = S 126 13 ∧ S' 126 16 = S 126 16 ∧ S' 138 = S 138 ∧ S' 139 = S 139
theorem WA.ag {n T i : Nat} {S S' : Mem} (h : WA n T S i) (e : agA S S' i) : WA n T S' i := by
  obtain ⟨e1, e2, e3, e4, e5, e6, e7, e8, e9, e10⟩ := e
  obtain ⟨h1, h2, ⟨t, x, a1, a2, a3, a4, a5, a6⟩, h4, ⟨b, b1, b2, b3⟩, h6, h7⟩ := h
  refine ⟨by rw [e1]; exact h1, by rw [e4]; exact h2, ⟨t, x, a1, a2, a3, by rw [e2]; exact a4, by rw [e5]; exact a5, fun j hj => by rw [e3 j (by omega)]; exact a6 j hj⟩, by rw [e6]; exact h4, ⟨b, b1, by rw [e7]; exact b2, fun j hj => by rw [(e8 j (by omega)).1, (e8 j (by omega)).2]; exact b3 j hj⟩, by rw [e9]; exact h6, by rw [e10]; exact h7⟩
theorem WS.row {n T a : Nat} {S S' : Mem} (h : WS n T S) (e : agH S S') (hr : ∀ i, i ≠ a → agA S S' i) (ha : WA n T S' a) : WS n T S' := by
  obtain ⟨h1, h2, h3, ⟨l, l1, l2, l3⟩, h5⟩ := h
  obtain ⟨e1, e2, e3, e4, e5⟩ := e
  refine ⟨h1, by rw [e1]; exact h2, by rw [e3]; exact h3, ⟨l, l1, by rw [e2]; exact l2, fun j hj => by rw [e4, e5]; exact l3 j hj⟩, fun i hi => ?_⟩
  by_cases hia : i = a
  · rw [hia]; exact ha
  · exact (h5 i hi).ag (hr i hia)
theorem WS.all {n T : Nat} {S S' : Mem} (h : WS n T S) (e : agH S S') (hr : ∀ i, agA S S' i) : WS n T S' := by
  obtain ⟨h1, h2, h3, ⟨l, l1, l2, l3⟩, h5⟩ := h
  obtain ⟨e1, e2, e3, e4, e5⟩ := e
  exact ⟨h1, by rw [e1]; exact h2, by rw [e3]; exact h3, ⟨l, l1, by rw [e2]; exact l2, fun j hj => by rw [e4, e5]; exact l3 j hj⟩, fun i hi => (h5 i hi).ag (hr i)⟩
/-- a cell of no account -/
def scrC (b j : Nat) : Prop := b < 126 ∨ (b = 126 ∧ j ≠ 1 ∧ j ≠ 13 ∧ j ≠ 16) ∨ b = 136 ∨ 140 ≤ b
theorem WS.scr {n T b j : Nat} {S : Mem} {x : Int32} (h : WS n T S) (hs : scrC b j) : WS n T (uI S b j x) := by
  unfold scrC at hs
  refine h.all ⟨?_, ?_, ?_, ?_, ?_⟩ (fun i => ⟨?_, ?_, fun j _ => ?_, ?_, ?_, ?_, ?_, fun j _ => ⟨?_, ?_⟩, ?_, ?_⟩)
  all_goals first | (rw [uI_ap, if_neg (by omega)]) | (exact uI_ne (by omega))
theorem WS.begin {n T a : Nat} {S : Mem} (h : WS n T S) (ha : a < n) : WS n T (fBegin S a) := by
  have hA := h.2.2.2.2 a ha
  refine h.row (a := a) ⟨?_, ?_, ?_, ?_, ?_⟩ (fun i hi => ⟨?_, ?_, fun j _ => ?_, ?_, ?_, ?_, ?_, fun j _ => ⟨?_, ?_⟩, ?_, ?_⟩) ?_
  all_goals first | (simp [fBegin, uI_ap, *]; done) | (funext j; simp [fBegin, uI_ap]; done) | skip
  obtain ⟨h1, h2, ⟨t, x, a1, a2, a3, a4, a5, a6⟩, h4, h5, h6, h7⟩ := hA
  exact ⟨by simpa [fBegin, uI_ap] using h1, by simp [fBegin, uI_ap], ⟨t, 0, a1, a2, by omega, by simpa [fBegin, uI_ap] using a4, by simp [fBegin, uI_ap]; rfl, by simpa [fBegin, uI_ap] using a6⟩, ⟨0, by omega, by simp [fBegin, uI_ap]; rfl⟩, ⟨0, by omega, by simp [fBegin, uI_ap]; rfl, fun j hj => by omega⟩, by simpa [fBegin, uI_ap] using h6, by simpa [fBegin, uI_ap] using h7⟩
