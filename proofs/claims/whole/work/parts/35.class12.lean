/-! two states are alike just when their numbers are -/
theorem mx_inj {x y a b m : Nat} (ha : a < m) (hb : b < m) (h : x * m + a = y * m + b) : x = y ∧ a = b := by
  have hm : 0 < m := by omega
  have h1 : (x * m + a) / m = x := by rw [Nat.mul_comm, Nat.mul_add_div hm, Nat.div_eq_of_lt ha, Nat.add_zero]
  have h2 : (y * m + b) / m = y := by rw [Nat.mul_comm, Nat.mul_add_div hm, Nat.div_eq_of_lt hb, Nat.add_zero]
  have hxy : x = y := by rw [← h1, ← h2, h]
  subst hxy
  exact ⟨rfl, by omega⟩
theorem ltN_lt {n T i j : Nat} {G : Mem} (h : WA n T G i) : ltN G i j < 128 := by
  obtain ⟨u, st, wt, b, g1, g2, g3, g4, e1, e2, e3, e4, e5⟩ := h.nat
  unfold ltN
  rw [e4, tn_nI (by omega)]
  split
  next hc =>
    obtain ⟨s, f, q1, q2, q3, q4⟩ := e5 j hc
    rw [q3, q4, tn_nI (by omega), tn_nI (by omega)]
    omega
  · omega
theorem agN_W {T : Nat} {m : Int32} (hT : T < 100000) (h : okR T m) : (nI T - m ≤ 4 ∧ agN T m ≤ 4 ∧ nI T - m = nI (agN T m)) ∨ (¬ nI T - m ≤ 4 ∧ agN T m = 5) := by
  rcases h with rfl | ⟨t, ht, rfl⟩
  · refine Or.inr ⟨?_, rfl⟩
    have e2 : nI T - (-268435456) = nI (T + 268435456) := by
      rw [← nI_add, Int32.sub_eq_add_neg]
      exact congrArg (nI T + ·) (by decide)
    rw [e2, show (4 : Int32) = nI 4 from rfl, nI_leI (by omega) (by omega)]
    omega
  · have hne : ¬ nI t = -268435456 := by
      intro hc
      have h1 := nI_pos (n := t) (by omega)
      rw [hc] at h1
      exact h1 (by decide)
    have e2 : nI T - nI t = nI (T - t) := by
      have := nI_add (T - t) t
      rw [show T - t + t = T by omega] at this
      rw [← this, Int32.sub_eq_add_neg, Int32.add_assoc, ← Int32.sub_eq_add_neg, Int32.sub_self, Int32.add_zero]
    unfold agN
    rw [if_neg hne, tn_nI (by omega), e2, show (4 : Int32) = nI 4 from rfl, nI_leg (by omega) (by omega)]
    by_cases hc : T - t ≤ 4
    · exact Or.inl ⟨hc, by omega, by rw [Nat.min_eq_left (by omega)]⟩
    · exact Or.inr ⟨hc, by omega⟩
theorem agW_eq {T T' : Nat} {G G' : Mem} {q : Nat} (hT : T < 100000) (hT' : T' < 100000) (h1 : G 126 16 = nI T) (h2 : G' 126 16 = nI T') (h : okR T (G 137 q)) (h' : okR T' (G' 137 q)) : agW G q = agW G' q ↔ agN T (G 137 q) = agN T' (G' 137 q) := by
  unfold agW
  rw [h1, h2]
  rcases agN_W hT h with ⟨a1, a2, a3⟩ | ⟨a1, a2⟩ <;> rcases agN_W hT' h' with ⟨b1, b2, b3⟩ | ⟨b1, b2⟩
  · rw [if_pos a1, if_pos b1, a3, b3, nI_eqg (by omega) (by omega)]
  · rw [if_pos a1, if_neg b1, a3]
    constructor
    · intro hc; exact absurd hc (nI_small (by omega))
    · intro hc; omega
  · rw [if_neg a1, if_pos b1, b3]
    constructor
    · intro hc; exact absurd hc.symm (nI_small (by omega))
    · intro hc; omega
  · rw [if_neg a1, if_neg b1, a2, b2]; simp
theorem tr_eq {n T T' i : Nat} {G G' : Mem} (hW : WS n T G) (hW' : WS n T' G') (hT : T < 100000) (hT' : T' < 100000) (hi : i < n) : trN T G i 5 = trN T' G' i 5 ↔ ∀ q, q < 16 → stv G i q = stv G' i q := by
  have hA := hW.2.2.2.2 i hi
  have hA' := hW'.2.2.2.2 i hi
  have hL : ∀ j, ltN G i j < 128 := fun j => ltN_lt hA
  have hL' : ∀ j, ltN G' i j < 128 := fun j => ltN_lt hA'
  obtain ⟨-, -, -, -, -, o1, o2⟩ := id hA
  obtain ⟨-, -, -, -, -, p1, p2⟩ := id hA'
  obtain ⟨u, st, wt, b, g1, g2, g3, g4, e1, e2, e3, e4, e5⟩ := hA.nat
  obtain ⟨u', st', wt', b', g1', g2', g3', g4', e1', e2', e3', e4', e5'⟩ := hA'.nat
  have w1 := agW_eq hT hT' hW.2.2.1 hW'.2.2.1 o1 p1
  have w2 := agW_eq hT hT' hW.2.2.1 hW'.2.2.1 o2 p2
  have hl : ∀ j, j < 5 → b = b' → (ltN G i j = ltN G' i j ↔ stv G i (4 + 2 * j) = stv G' i (4 + 2 * j) ∧ stv G i (5 + 2 * j) = stv G' i (5 + 2 * j)) := by
    intro j hj hb
    subst hb
    rw [stv_s G i hj, stv_s G' i hj, stv_f G i hj, stv_f G' i hj]
    unfold ltN
    rw [e4, e4', tn_nI (by omega)]
    by_cases hjb : j < b
    · obtain ⟨s, f, q1, q2, q3, q4⟩ := e5 j hjb
      obtain ⟨s', f', q1', q2', q3', q4'⟩ := e5' j hjb
      rw [if_pos hjb, if_pos hjb, if_pos hjb, if_pos hjb, if_pos hjb, if_pos hjb, q3, q4, q3', q4', tn_nI (by omega), tn_nI (by omega), tn_nI (by omega), tn_nI (by omega), nI_eqg (by omega) (by omega)]
      have hf : G 135 (5 * i + j) = G' 135 (5 * i + j) ↔ f = f' := by
        constructor
        · intro hc
          rw [hc, q4'] at q4
          exact ((nI_eqg (by omega) (by omega)).mp q4).symm
        · intro hc
          have h1 : G 135 (5 * i + j) + 1 = G' 135 (5 * i + j) + 1 := by rw [q4, q4', hc]
          have h2 := congrArg (fun z : Int32 => z - 1) h1
          simpa [Int32.add_sub_cancel] using h2
      rw [hf]
      omega
    · simp [hjb]
  constructor
  · intro h
    simp only [trN] at h
    obtain ⟨h, l4⟩ := mx_inj (hL 4) (hL' 4) h
    obtain ⟨h, l3⟩ := mx_inj (hL 3) (hL' 3) h
    obtain ⟨h, l2⟩ := mx_inj (hL 2) (hL' 2) h
    obtain ⟨h, l1⟩ := mx_inj (hL 1) (hL' 1) h
    obtain ⟨h, l0⟩ := mx_inj (hL 0) (hL' 0) h
    unfold t5N at h
    rw [e1, e2, e3, e4, e1', e2', e3', e4', tn_nI (by omega), tn_nI (by omega), tn_nI (by omega), tn_nI (by omega), tn_nI (by omega), tn_nI (by omega), tn_nI (by omega), tn_nI (by omega)] at h
    obtain ⟨h, hb⟩ := mx_inj (by omega) (by omega) h
    obtain ⟨h, ha2⟩ := mx_inj (agN_lt _ _) (agN_lt _ _) h
    obtain ⟨h, ha1⟩ := mx_inj (agN_lt _ _) (agN_lt _ _) h
    obtain ⟨h, hw⟩ := mx_inj (by omega) (by omega) h
    obtain ⟨hu, hs⟩ := mx_inj (by omega) (by omega) h
    subst hb hw hu hs
    intro q hq
    rcases (show q = 0 ∨ q = 1 ∨ q = 2 ∨ q = 3 ∨ q = 14 ∨ q = 15 ∨ (∃ j, j < 5 ∧ (q = 4 + 2 * j ∨ q = 5 + 2 * j)) by
      by_cases hc : q < 4 ∨ 13 < q
      · omega
      · exact Or.inr (Or.inr (Or.inr (Or.inr (Or.inr (Or.inr ⟨(q - 4) / 2, by omega, by omega⟩)))))) with rfl | rfl | rfl | rfl | rfl | rfl | ⟨j, hj, hq2⟩
    · show G 130 i = G' 130 i; rw [e1, e1']
    · show G 131 i = G' 131 i; rw [e2, e2']
    · show G 132 i = G' 132 i; rw [e3, e3']
    · show G 133 i = G' 133 i; rw [e4, e4']
    · exact w1.mpr ha1
    · exact w2.mpr ha2
    · have hlj : ltN G i j = ltN G' i j := by
        rcases (show j = 0 ∨ j = 1 ∨ j = 2 ∨ j = 3 ∨ j = 4 by omega) with rfl | rfl | rfl | rfl | rfl <;> assumption
      have := (hl j hj rfl).mp hlj
      rcases hq2 with rfl | rfl
      · exact this.1
      · exact this.2
  · intro h
    have hu : u = u' := by have := h 0 (by omega); exact (nI_eqg (by omega) (by omega)).mp (e1.symm.trans (Eq.trans this e1'))
    have hs : st = st' := by have := h 1 (by omega); exact (nI_eqg (by omega) (by omega)).mp (e2.symm.trans (Eq.trans this e2'))
    have hw : wt = wt' := by have := h 2 (by omega); exact (nI_eqg (by omega) (by omega)).mp (e3.symm.trans (Eq.trans this e3'))
    have hb : b = b' := by have := h 3 (by omega); exact (nI_eqg (by omega) (by omega)).mp (e4.symm.trans (Eq.trans this e4'))
    have ha1 := w1.mp (h 14 (by omega))
    have ha2 := w2.mp (h 15 (by omega))
    have hj : ∀ j, j < 5 → ltN G i j = ltN G' i j := fun j hj => (hl j hj hb).mpr ⟨h _ (by omega), h _ (by omega)⟩
    simp only [trN]
    rw [hj 0 (by omega), hj 1 (by omega), hj 2 (by omega), hj 3 (by omega), hj 4 (by omega)]
    unfold t5N
    rw [e1, e2, e3, e4, e1', e2', e3', e4', hu, hs, hw, hb, ha1, ha2]
