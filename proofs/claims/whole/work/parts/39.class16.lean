theorem fd_eq {I S : Mem} {k a b l n : Nat} (ha : a < 6) (hb : b < 6) (hR : RcL I k S) (hl : S 126 13 = nI l) (hl6 : l ≤ 6) (hn : n ≤ 6) (h : ∀ j, j < l → ∃ x y, x < n ∧ y < n ∧ x ≠ y ∧ S 138 j = nI x ∧ S 139 j = nI y) : ∀ c, c ≤ l → fdC I (k + 2) (nI a) (nI b) l c = lkB S (nI a) (nI b) l c := by
  intro c
  induction c with
  | zero => intro _; rfl
  | succ c ih =>
    intro hc
    have t := hR.2 (l - (c + 1)) (by rw [hl, tn_nI (by omega)]; omega)
    obtain ⟨x, y, hx, hy, hxy, ex, ey⟩ := h (l - (c + 1)) (by omega)
    simp only [fdC, lkB]
    rw [ih (by omega), show k + 2 + 1 = k + 3 from rfl, show k + 2 + 2 = k + 4 from rfl, t.1, t.2, ex, ey]
    have hne : ¬ nI x = nI y := fun e => hxy (by have := congrArg tn e; rwa [tn_nI (by omega), tn_nI (by omega)] at this)
    have nb : ¬ (-1 : Int32) = nI b := fun e => nI_small (by omega) e.symm
    clear ih t ex ey
    generalize lkB S (nI a) (nI b) l c = W
    generalize nI (l - (c + 1)) = V
    generalize nI x = X at *
    generalize nI y = Y at *
    generalize nI a = A at *
    generalize nI b = B at *
    by_cases q1 : X = A
    · subst q1; by_cases q2 : Y = B
      · subst q2; simp [hne]
      · rw [if_pos rfl, if_neg (fun q => q2 q.2), if_neg (by grind)]
    · rw [if_neg q1]
      by_cases q2 : Y = A
      · subst q2; rw [if_pos rfl]; by_cases q3 : X = B
        · subst q3; rw [if_pos ⟨fun e => hne e.symm, rfl⟩, if_pos (Or.inr ⟨rfl, rfl⟩)]
        · rw [if_neg (fun q => q3 q.2), if_neg (by grind)]
      · rw [if_neg q2, if_neg (fun q => nb q.2), if_neg (by grind)]
/-- a change of the links alone -/
theorem Hc.lks {n T k : Nat} {dl : Int32} {I I' G G' : Mem} (h : Hc n T dl I k G) (hI : ∀ b, b ≠ k + 2 → b ≠ k + 3 → b ≠ k + 4 → I' b = I b) (hG : ∀ b, (127 ≤ b ∧ b ≤ 137) ∨ (140 ≤ b ∧ b ≤ 142) → G' b = G b) (h1 : G' 126 1 = G 126 1) (h2 : G' 126 16 = G 126 16) (hg : G' 126 17 = G 126 17) (hs : G' 126 19 = G 126 19) (hL : RcL I' k G') (hW : WLk n G') : Hc n T dl I' k G' := by
  obtain ⟨hC, hW0, hR, hP, hT⟩ := h
  have hk := hC.2.2.2.2.2.2.2.2.2.2.2.2
  obtain ⟨q1, q2, q3, q4, q5⟩ := hR
  refine ⟨hC, ⟨hW0.1, h1.trans hW0.2.1, h2.trans hW0.2.2.1, hW, fun i hi => ?_⟩, ⟨?_, ?_, fun i hi => ?_, hL, ?_⟩, ?_, hT⟩
  · have := hW0.2.2.2.2 i hi
    unfold WA at this ⊢
    rw [hG 127 (by omega), hG 128 (by omega), hG 129 (by omega), hG 130 (by omega), hG 131 (by omega), hG 132 (by omega), hG 133 (by omega), hG 134 (by omega), hG 135 (by omega), hG 137 (by omega)]
    exact this
  · rw [hI k (by omega) (by omega) (by omega), q1, h2]
  · rw [hI k (by omega) (by omega) (by omega), q2, hg]
  · have := q3 i hi
    unfold RcA at this ⊢
    rw [hI (k + 9 + 4 * i) (by omega) (by omega) (by omega), hI (k + 9 + 4 * i + 1) (by omega) (by omega) (by omega), hI (k + 9 + 4 * i + 2) (by omega) (by omega) (by omega), hI (k + 9 + 4 * i + 3) (by omega) (by omega) (by omega), hG 127 (by omega), hG 130 (by omega), hG 131 (by omega), hG 132 (by omega), hG 133 (by omega), hG 134 (by omega), hG 135 (by omega), hG 136 (by omega), hG 137 (by omega)]
    exact this
  · unfold RcS at q5 ⊢
    rw [hI (k + 5) (by omega) (by omega) (by omega), hI (k + 6) (by omega) (by omega) (by omega), hI (k + 7) (by omega) (by omega) (by omega), hs, hG 140 (by omega), hG 141 (by omega), hG 142 (by omega)]
    exact q5
  · unfold Rp at hP ⊢
    rw [hI 15 (by omega) (by omega) (by omega), hI 17 (by omega) (by omega) (by omega), hI 18 (by omega) (by omega) (by omega), hI 19 (by omega) (by omega) (by omega), hI 20 (by omega) (by omega) (by omega), hG 128 (by omega), hG 129 (by omega)]
    exact hP
theorem RcL.add {I G : Mem} {k z : Nat} {x y : Int32} (h : RcL I k G) (hz : G 126 13 = nI z) (hz6 : z < 6) : RcL (uI (uI (uI I (k + 2 + 1) z x) (k + 2 + 2) z y) (k + 2) 2 (nI z + 1)) k (uI (uI (uI G 138 z x) 139 z y) 126 13 (nI z + 1)) := by
  refine ⟨by simp [uI_ap], fun j hj => ?_⟩
  rw [uI_self, nI_1, tn_nI (by omega)] at hj
  rw [show k + 2 + 1 = k + 3 from rfl, show k + 2 + 2 = k + 4 from rfl]
  by_cases e : j = z
  · subst e
    exact ⟨by simp [uI_ap], by simp [uI_ap]⟩
  · have t := h.2 j (by rw [hz, tn_nI (by omega)]; omega)
    simp only [uI_ap]
    simp [e]
    exact t
theorem WLk.add {n z a b : Nat} {G : Mem} (hz6 : z < 6) (ha : a < n) (hb : b < n) (hab : a ≠ b) (h : ∀ j, j < z → ∃ x y, x < n ∧ y < n ∧ x ≠ y ∧ G 138 j = nI x ∧ G 139 j = nI y) : WLk n (uI (uI (uI G 138 z (nI a)) 139 z (nI b)) 126 13 (nI z + 1)) := by
  refine ⟨z + 1, by omega, by rw [uI_self, nI_1], fun j hj => ?_⟩
  by_cases e : j = z
  · subst e
    exact ⟨a, b, ha, hb, hab, by simp [uI_ap], by simp [uI_ap]⟩
  · obtain ⟨x, y, hx, hy, hxy, ex, ey⟩ := h j (by omega)
    exact ⟨x, y, hx, hy, hxy, by simp [uI_ap, e, ex], by simp [uI_ap, e, ey]⟩
