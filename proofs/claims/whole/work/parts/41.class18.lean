theorem WS.be {n T a : Nat} {S : Mem} {c : Nat} (h : WS n T S) (ha : a < n) (hc : c ≤ 4) : WS n T (fBe S a (nI c)) := by
  unfold fBe
  refine ⟨h.1, by simp only [uI_ap]; simp [h.2.1], by simp only [uI_ap]; simp [h.2.2.1], ?_, fun i hi => ?_⟩
  · obtain ⟨l, h1, h2, h3⟩ := h.2.2.2.1
    exact ⟨l, h1, by simp [uI_ap, h2], fun j hj => by rw [uI_ne (by decide), uI_ne (by decide), uI_ne (by decide), uI_ne (by decide), uI_ne (by decide), uI_ne (by decide)]; exact h3 j hj⟩
  · obtain ⟨k1, k2, k3, k4, k5, k6, k7⟩ := h.2.2.2.2 i hi
    refine ⟨?_, by simp [uI_ap, k2], ?_, ?_, ?_, ?_, ?_⟩
    · by_cases e : i = a
      · subst e; exact ⟨c, hc, by simp [uI_ap]⟩
      · obtain ⟨d, h1, h2⟩ := k1; exact ⟨d, h1, by simp [uI_ap, e, h2]⟩
    · simpa [uI_ap] using k3
    · simpa [uI_ap] using k4
    · simpa [uI_ap] using k5
    · by_cases e : i = a
      · subst e; exact Or.inl (by simp [uI_ap])
      · rw [uI_ap, if_neg (by omega), uI_ap, if_neg (by omega), uI_ap, if_neg (by omega)]; exact k6
    · by_cases e : i = a
      · subst e; exact Or.inl (by simp [uI_ap])
      · rw [uI_ap, if_neg (by omega), uI_ap, if_neg (by omega), uI_ap, if_neg (by omega)]; exact k7
theorem Rc.be {n k i : Nat} {dl y : Int32} {I G : Mem} (h : Rc n dl I k G) (hi : i < n) : Rc n dl (uI (uI (uI I (k + 9 + 4 * i) 1 y) (k + 9 + 4 * i) 6 (-1000)) (k + 9 + 4 * i) 7 (-1000)) k (fBe G i y) := by
  unfold fBe
  have hI : ∀ b, b ≠ k + 9 + 4 * i → (uI (uI (uI I (k + 9 + 4 * i) 1 y) (k + 9 + 4 * i) 6 (-1000)) (k + 9 + 4 * i) 7 (-1000)) b = I b := fun b hb => by rw [uI_ne hb, uI_ne hb, uI_ne hb]
  have hG : ∀ b, b ≠ 127 → b ≠ 137 → (uI (uI (uI G 127 i y) 137 (2 * i) (-268435456)) 137 (2 * i + 1) (-268435456)) b = G b := fun b h1 h2 => by rw [uI_ne h2, uI_ne h2, uI_ne h1]
  obtain ⟨q1, q2, q3, q4, q5⟩ := h
  refine ⟨?_, ?_, fun j hj => ?_, ?_, ?_⟩
  · rw [hI k (by omega), hG 126 (by omega) (by omega)]; exact q1
  · rw [hI k (by omega), hG 126 (by omega) (by omega)]; exact q2
  · have t := q3 j hj
    unfold RcA at t ⊢
    rw [hI (k + 9 + 4 * j + 1) (by omega), hI (k + 9 + 4 * j + 2) (by omega), hI (k + 9 + 4 * j + 3) (by omega), hG 130 (by omega) (by omega), hG 131 (by omega) (by omega), hG 132 (by omega) (by omega), hG 133 (by omega) (by omega), hG 134 (by omega) (by omega), hG 135 (by omega) (by omega), hG 136 (by omega) (by omega)]
    by_cases e : j = i
    · subst e
      obtain ⟨a1, a2, a3, a4, a5, a6, a7, a8, a9⟩ := t
      exact ⟨by simp [uI_ap], by simpa [uI_ap] using a2, by simpa [uI_ap] using a3, by simpa [uI_ap] using a4, by simpa [uI_ap] using a5, by simp [uI_ap, rr], by simp [uI_ap, rr], a8, a9⟩
    · rw [hI (k + 9 + 4 * j) (by omega)]
      obtain ⟨a1, a2, a3, a4, a5, a6, a7, a8, a9⟩ := t
      refine ⟨by simp [uI_ap, e]; exact a1, a2, a3, a4, a5, ?_, ?_, a8, a9⟩
      · rw [uI_ap, if_neg (by omega), uI_ap, if_neg (by omega), uI_ap, if_neg (by omega)]; exact a6
      · rw [uI_ap, if_neg (by omega), uI_ap, if_neg (by omega), uI_ap, if_neg (by omega)]; exact a7
  · unfold RcL at q4 ⊢
    rw [hI (k + 2) (by omega), hI (k + 3) (by omega), hI (k + 4) (by omega), hG 126 (by omega) (by omega), hG 138 (by omega) (by omega), hG 139 (by omega) (by omega)]; exact q4
  · unfold RcS at q5 ⊢
    rw [hI (k + 5) (by omega), hI (k + 6) (by omega), hI (k + 7) (by omega), hG 126 (by omega) (by omega), hG 140 (by omega) (by omega), hG 141 (by omega) (by omega), hG 142 (by omega) (by omega)]; exact q5
