theorem WS.be {n T a : Nat} {S : Mem} {c : Nat} (h : WS n T S) (ha : a < n) (hc : c ≤ 4) : WS n T (fBe S a (nI c)) := by
  unfold fBe
  refine ⟨h.1, by simp only [uI_ap]; simp [h.2.1], by simp only [uI_ap]; simp [h.2.2.1], ?_, fun i hi => ?_⟩
  · obtain ⟨l, h1, h2, h3⟩ := h.2.2.2.1
    exact ⟨l, h1, by simp [uI_ap, h2], fun j hj => by rw [uI_ne (by decide), uI_ne (by decide), uI_ne (by decide), uI_ne (by decide), uI_ne (by decide), uI_ne (by decide)]; exact h3 j hj⟩
  · obtain ⟨k1, k2, k3, k4, k5, k6, k7⟩ := h.2.2.2.2 i hi
    refine ⟨?_, by simp [uI_ap, k2], ?_, ?_, ?_, ?_, ?_⟩
    · by_cases e : i = a
      · subst e; exact ⟨c, hc, by simp [uI_ap]⟩
      · obtain ⟨d, h1, h2⟩ := k1; exact ⟨d, h1, by simp [uI_ap, e, h2]⟩
    · simpa [uI_ap] using k3
    · simpa [uI_ap] using k4
    · simpa [uI_ap] using k5
    · by_cases e : i = a
      · subst e; exact Or.inl (by simp [uI_ap])
      · rw [uI_ap, if_neg (by omega), uI_ap, if_neg (by omega), uI_ap, if_neg (by omega)]; exact k6
    · by_cases e : i = a
      · subst e; exact Or.inl (by simp [uI_ap])
      · rw [uI_ap, if_neg (by omega), uI_ap, if_neg (by omega), uI_ap, if_neg (by omega)]; exact k7
