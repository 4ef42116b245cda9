theorem fd_eq {I S : Mem} {k a b l n : Nat} (ha : a < 6) (hb : b < 6) (hR : RcL I k S) (hl : S 126 13 = nI l) (hl6 : l ≤ 6) (hn : n ≤ 6) (h : ∀ j, j < l → ∃ x y, x < n ∧ y < n ∧ x ≠ y ∧ S 138 j = nI x ∧ S 139 j = nI y) : ∀ c, c ≤ l → fdC I (k + 2) (nI a) (nI b) l c = lkB S (nI a) (nI b) l c := by
  intro c
  induction c with
  | zero => intro _; rfl
  | succ c ih =>
    intro hc
    have t := hR.2 (l - (c + 1)) (by rw [hl, tn_nI (by omega)]; omega)
    obtain ⟨x, y, hx, hy, hxy, ex, ey⟩ := h (l - (c + 1)) (by omega)
    simp only [fdC, lkB]
    rw [ih (by omega), show k + 2 + 1 = k + 3 from rfl, show k + 2 + 2 = k + 4 from rfl, t.1, t.2, ex, ey]
    have hne : ¬ nI x = nI y := fun e => hxy (by have := congrArg tn e; rwa [tn_nI (by omega), tn_nI (by omega)] at this)
    have nb : ¬ (-1 : Int32) = nI b := fun e => nI_small (by omega) e.symm
    clear ih t ex ey
    generalize lkB S (nI a) (nI b) l c = W
    generalize nI (l - (c + 1)) = V
    generalize nI x = X at *
    generalize nI y = Y at *
    generalize nI a = A at *
    generalize nI b = B at *
    by_cases q1 : X = A
    · subst q1; by_cases q2 : Y = B
      · subst q2; simp [hne]
      · rw [if_pos rfl, if_neg (fun q => q2 q.2), if_neg (by grind)]
    · rw [if_neg q1]
      by_cases q2 : Y = A
      · subst q2; rw [if_pos rfl]; by_cases q3 : X = B
        · subst q3; rw [if_pos ⟨fun e => hne e.symm, rfl⟩, if_pos (Or.inr ⟨rfl, rfl⟩)]
        · rw [if_neg (fun q => q3 q.2), if_neg (by grind)]
      · rw [if_neg q2, if_neg (fun q => nb q.2), if_neg (by grind)]
