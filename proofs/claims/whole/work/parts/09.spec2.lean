theorem nI_small {n : Nat} (h : n < 2 ^ 31) : nI n ≠ -1 := fun e => by
  have h1 := nI_pos h
  rw [e] at h1
  exact h1 (by decide)
theorem WS.lost {n T : Nat} {S : Mem} {j : Nat} {x : Int32} (h : WS n T S) (hj : j ≠ 1 ∧ j ≠ 13 ∧ j ≠ 16) : WS n T (uI S 126 j x) := h.scr (Or.inr (Or.inl ⟨rfl, hj⟩))
theorem WS.post {n T t : Nat} {S : Mem} {x y : Int32} (h : WS n T S) (ht : t < n) (hx : okL x y) : WS n T (fPost S t x y) := by
  have hA := h.2.2.2.2 t ht
  unfold fPost
  split
  · exact h.lost (by decide)
  next hc =>
  obtain ⟨h1, h2, h3, h4, ⟨b, b1, b2, b3⟩, h6, h7⟩ := hA
  have hb : b < 5 := by
    have : b ≠ 5 := fun e => hc (Or.inr (by rw [b2, e]; rfl))
    omega
  rw [b2, tn_nI (by omega)]
  refine h.row (a := t) ⟨?_, ?_, ?_, ?_, ?_⟩ (fun i hi => ⟨?_, ?_, fun j _ => ?_, ?_, ?_, ?_, ?_, fun j _ => ⟨?_, ?_⟩, ?_, ?_⟩) ?_
  all_goals first | (simp only [uI_ap]; rw [if_neg (by omega), if_neg (by omega), if_neg (by omega)]; done) | (rw [uI_ne (by decide), uI_ne (by decide), uI_ne (by decide)]; done) | skip
  · exact ⟨by simpa [uI_ap] using h1, by simpa [uI_ap] using h2, by simpa [uI_ap] using h3, by simpa [uI_ap] using h4, ⟨b + 1, by omega, by simp [uI_ap]; exact nI_1 b, fun j hj => by
      simp only [uI_ap]
      by_cases hjb : j = b
      · subst hjb; simpa using hx
      · have := b3 j (by omega)
        rw [if_neg (by omega), if_neg (by omega), if_neg (by omega), if_neg (by omega), if_neg (by omega), if_neg (by omega)]
        exact this⟩, by simpa [uI_ap] using h6, by simpa [uI_ap] using h7⟩
theorem WS.box {n T a : Nat} {S : Mem} (h : WS n T S) (ha : a < n) : ∃ b, b ≤ 5 ∧ S 133 a = nI b := by
  obtain ⟨-, -, -, -, ⟨b, b1, b2, -⟩, -⟩ := h.2.2.2.2 a ha
  exact ⟨b, b1, b2⟩
theorem WS.take {n T a p b : Nat} {S : Mem} (h : WS n T S) (ha : a < n) (hb : S 133 a = nI b) (hb5 : b ≤ 5) (hp : p < b) : WS n T (fTake S a p) := by
  have hA := h.2.2.2.2 a ha
  obtain ⟨h1, h2, h3, h4, ⟨b', b1, b2, b3⟩, h6, h7⟩ := hA
  have hbb : b' = b := (nI_eqg (by omega) (by omega)).mp (b2.symm.trans hb)
  subst hbb
  unfold fTake
  rw [b2, tn_nI (by omega)]
  refine h.row (a := a) ⟨?_, ?_, ?_, ?_, ?_⟩ (fun i hi => ⟨?_, ?_, fun j _ => ?_, ?_, ?_, ?_, ?_, fun j _ => ⟨?_, ?_⟩, ?_, ?_⟩) ?_
  all_goals first | (simp only [uI_ap, tkS]; rw [if_neg (by omega), if_neg (by omega)]; done) | (rw [uI_ne (by decide), tkS_n _ _ _ _ (by decide) (by decide)]; done) | skip
  · refine ⟨by simpa [uI_ap, tkS] using h1, by simpa [uI_ap, tkS] using h2, by simpa [uI_ap, tkS] using h3, by simpa [uI_ap, tkS] using h4, ⟨b' - 1, by omega, by simp [uI_ap]; exact nI_s1 (by omega), fun j hj => ?_⟩, by simpa [uI_ap, tkS] using h6, by simpa [uI_ap, tkS] using h7⟩
    rw [uI_ne (by decide), uI_ne (by decide)]
    simp only [tkS]
    by_cases hjp : p ≤ j
    · rw [if_pos (by simp; omega), if_pos (by simp; omega)]
      exact b3 (j + 1) (by omega)
    · rw [if_neg (fun h => hjp (by omega)), if_neg (fun h => hjp (by omega))]
      exact b3 j (by omega)
theorem mod_at : ∀ t : Nat, t < 4 → ∀ x : Nat, x < t → nI x + 1 - (nI x + 1) / nI t * nI t = nI (if x + 1 < t then x + 1 else 0) := by decide
theorem WS.steps {n T a : Nat} {S : Mem} (h : WS n T S) (ha : a < n) : ¬ S 128 a = 0 := by
  obtain ⟨-, -, ⟨t, x, a1, a2, a3, a4, -⟩, -⟩ := h.2.2.2.2 a ha
  rw [a4]
  exact nI_ne0 (by omega) (by omega)
theorem WS.goOn {n T a : Nat} {S : Mem} (h : WS n T S) (ha : a < n) : WS n T (fGoOn S a) := by
  have hA := h.2.2.2.2 a ha
  obtain ⟨h1, h2, ⟨t, x, a1, a2, a3, a4, a5, a6⟩, h4, h5, h6, h7⟩ := hA
  unfold fGoOn
  rw [a4, a5, mod_at t (by omega) x a3]
  refine WS.lost ?_ (by decide)
  refine h.row (a := a) ⟨?_, ?_, ?_, ?_, ?_⟩ (fun i hi => ⟨?_, ?_, fun j _ => ?_, ?_, ?_, ?_, ?_, fun j _ => ⟨?_, ?_⟩, ?_, ?_⟩) ?_
  all_goals first | (simp only [uI_ap]; rw [if_neg (by omega)]; done) | (rw [uI_ne (by decide)]; done) | skip
  exact ⟨by simpa [uI_ap] using h1, by simpa [uI_ap] using h2, ⟨t, if x + 1 < t then x + 1 else 0, a1, a2, by split <;> omega, by simpa [uI_ap] using a4, by simp [uI_ap], by simpa [uI_ap] using a6⟩, by simpa [uI_ap] using h4, by simpa [uI_ap] using h5, by simpa [uI_ap] using h6, by simpa [uI_ap] using h7⟩
theorem WS.waited {n T a u : Nat} {S : Mem} (h : WS n T S) (ha : a < n) (hu : u ≤ 2) : WS n T (uI S 132 a (nI u)) := by
  have hA := h.2.2.2.2 a ha
  obtain ⟨h1, h2, h3, h4, h5, h6, h7⟩ := hA
  refine h.row (a := a) ⟨?_, ?_, ?_, ?_, ?_⟩ (fun i hi => ⟨?_, ?_, fun j _ => ?_, ?_, ?_, ?_, ?_, fun j _ => ⟨?_, ?_⟩, ?_, ?_⟩) ?_
  all_goals first | (simp only [uI_ap]; rw [if_neg (by omega)]; done) | (rw [uI_ne (by decide)]; done) | skip
  exact ⟨by simpa [uI_ap] using h1, by simpa [uI_ap] using h2, by simpa [uI_ap] using h3, ⟨u, hu, by simp [uI_ap]⟩, by simpa [uI_ap] using h5, by simpa [uI_ap] using h6, by simpa [uI_ap] using h7⟩
theorem uI_uI (S : Mem) (a j : Nat) (x y : Int32) : uI (uI S a j x) a j y = uI S a j y := by
  funext b k
  simp only [uI_ap]
  split <;> rfl
theorem WS.waits {n T a : Nat} {S : Mem} {u : Int32} (h : WS n T S) (ha : a < n) : WS n T (fWaits S a u) := by
  obtain ⟨b, hb5, hb⟩ := h.box ha
  unfold fWaits
  split
  · obtain ⟨-, -, -, ⟨v, v1, v2⟩, -⟩ := h.2.2.2.2 a ha
    split
    · rw [uI_uI]
      exact (h.waited ha (u := 0) (by omega)).goOn ha
    next hc =>
      rw [v2, nI_1]
      refine h.waited ha ?_
      have : v ≠ 2 := fun e => hc (by rw [v2, e]; rfl)
      omega
  next hc =>
    obtain ⟨p, hp, ep⟩ := (fWant_r S (u := u) hb hb5).resolve_left hc
    rw [ep, tn_nI (by omega)]
    exact ((h.take ha hb hb5 hp).waited ha (u := 0) (by omega)).goOn ha
theorem WS.raise {n T a : Nat} {S : Mem} (h : WS n T S) (ha : a < n) : WS n T (uI (uI S 137 (2 * a + 1) (S 137 (2 * a))) 137 (2 * a) (S 126 16)) := by
  have hA := h.2.2.2.2 a ha
  have hT := h.2.2.1
  obtain ⟨h1, h2, h3, h4, h5, h6, h7⟩ := hA
  refine h.row (a := a) ⟨?_, ?_, ?_, ?_, ?_⟩ (fun i hi => ⟨?_, ?_, fun j _ => ?_, ?_, ?_, ?_, ?_, fun j _ => ⟨?_, ?_⟩, ?_, ?_⟩) ?_
  all_goals first | (simp only [uI_ap]; rw [if_neg (by omega), if_neg (by omega)]; done) | (rw [uI_ne (by decide), uI_ne (by decide)]; done) | skip
  refine ⟨by simpa [uI_ap] using h1, by simpa [uI_ap] using h2, by simpa [uI_ap] using h3, by simpa [uI_ap] using h4, by simpa [uI_ap] using h5, ?_, ?_⟩
  · rw [uI_self, hT]; exact Or.inr ⟨T, by omega, rfl⟩
  · rw [uI_ap, if_neg (by omega), uI_self]; exact h6
theorem okL8 {f : Nat} (hf : f < 6) : okL 8 (nI f) := ⟨⟨8, by omega, rfl⟩, Or.inr ⟨f, hf, rfl⟩⟩
theorem WS.stand {n T : Nat} {S : Mem} {x : Int32} (h : WS n T S) : WS n T (fStand S x) := (h.scr (b := 149) (Or.inr (Or.inr (Or.inr (by omega))))).lost (by decide)
theorem WS.hear {n T a f : Nat} {S : Mem} (h : WS n T S) (ha : a < n) (hf : f < n) : WS n T (fHear S a f) := by
  have hn := h.1
  unfold fHear
  split
  · exact h.post ha (okL8 (by omega))
  · split
    · exact (h.raise ha).begin hf
    · exact h.stand
/-! one that falls -/
def fDown (S : Mem) (a : Nat) : Mem := uI (uI (uI (uI (uI S 130 a 0) 126 17 (S 126 17 + S 133 a)) 133 a 0) 136 a (S 136 a + 1)) 126 36 (S 126 36 + 1)
def fOther (S : Mem) (k a : Nat) : Int32 := if S 138 k = nI a then S 139 k else if S 139 k = nI a then S 138 k else -1
def fLk (S : Mem) (a : Nat) : Nat → Mem
  | 0 => S
  | k + 1 => if ¬ fOther (fLk S a k) k a = -1 ∧ fLk S a k 130 (tn (fOther (fLk S a k) k a)) = 1 then fHear (fLk S a k) (tn (fOther (fLk S a k) k a)) a else fLk S a k
def fFallOne (S : Mem) (a : Nat) : Mem := fLk (fDown S a) a (tn (S 126 13))
theorem WS.down {n T a : Nat} {S : Mem} (h : WS n T S) (ha : a < n) : WS n T (fDown S a) := by
  have hA := h.2.2.2.2 a ha
  obtain ⟨h1, h2, h3, h4, h5, h6, h7⟩ := hA
  unfold fDown
  refine WS.lost ?_ (by decide)
  refine WS.scr ?_ (Or.inr (Or.inr (Or.inl rfl)))
  have e : uI (uI (uI S 130 a 0) 126 17 (S 126 17 + S 133 a)) 133 a 0 = uI (uI (uI S 130 a 0) 133 a 0) 126 17 (S 126 17 + S 133 a) := by
    funext b k
    simp only [uI_ap]
    by_cases hb : b = 126 <;> simp [hb]
  rw [e]
  refine WS.lost ?_ (by decide)
  refine h.row (a := a) ⟨?_, ?_, ?_, ?_, ?_⟩ (fun i hi => ⟨?_, ?_, fun j _ => ?_, ?_, ?_, ?_, ?_, fun j _ => ⟨?_, ?_⟩, ?_, ?_⟩) ?_
  all_goals first | (simp only [uI_ap]; rw [if_neg (by omega), if_neg (by omega)]; done) | (rw [uI_ne (by decide), uI_ne (by decide)]; done) | skip
  exact ⟨by simpa [uI_ap] using h1, by simp [uI_ap], by simpa [uI_ap] using h3, by simpa [uI_ap] using h4, ⟨0, by omega, by simp [uI_ap]; rfl, fun j hj => by omega⟩, by simpa [uI_ap] using h6, by simpa [uI_ap] using h7⟩
/-- of a link of a: the other one, or none -/
theorem fOther_r {n T a k : Nat} {S : Mem} (h : WS n T S) (hl : ∀ l, S 126 13 = nI l → l ≤ 6 → k < l) : (∃ p q, p < n ∧ q < n ∧ p ≠ q ∧ S 138 k = nI p ∧ S 139 k = nI q) ∧ (fOther S k a = -1 ∨ ∃ p, p < n ∧ p ≠ a ∧ fOther S k a = nI p) := by
  obtain ⟨hn, -, -, ⟨l, l1, l2, l3⟩, -⟩ := h
  obtain ⟨p, q, hp, hq, hpq, e1, e2⟩ := l3 k (hl l l2 l1)
  refine ⟨⟨p, q, hp, hq, hpq, e1, e2⟩, ?_⟩
  unfold fOther
  rw [e1, e2]
  split
  next hh =>
    refine Or.inr ⟨q, hq, fun e => hpq ?_, rfl⟩
    subst e
    by_cases hb : q < 1000000
    · exact (nI_eqg (by omega) hb).mp hh
    · omega
  next hh =>
    split
    next h2 =>
      exact Or.inr ⟨p, hp, fun e => hh (by rw [e]), rfl⟩
    · exact Or.inl rfl
theorem fHear_hd (S : Mem) (a f : Nat) : (fHear S a f) 126 13 = S 126 13 ∧ (fHear S a f) 138 = S 138 ∧ (fHear S a f) 139 = S 139 := by
  unfold fHear fPost fBegin fStand
  split
  · split
    · exact ⟨by simp [uI_ap], uI_ne (by decide), uI_ne (by decide)⟩
    · exact ⟨by simp [uI_ap], by funext j; simp [uI_ap], by funext j; simp [uI_ap]⟩
  · split
    · exact ⟨by simp [uI_ap], by funext j; simp [uI_ap], by funext j; simp [uI_ap]⟩
    · exact ⟨by simp [uI_ap], by funext j; simp [uI_ap], by funext j; simp [uI_ap]⟩
theorem fLk_hd (S : Mem) (a : Nat) (k : Nat) : (fLk S a k) 126 13 = S 126 13 ∧ (fLk S a k) 138 = S 138 ∧ (fLk S a k) 139 = S 139 := by
  induction k with
  | zero => exact ⟨rfl, rfl, rfl⟩
  | succ k ih =>
    simp only [fLk]
    split
    · obtain ⟨h1, h2, h3⟩ := fHear_hd (fLk S a k) (tn (fOther (fLk S a k) k a)) a
      exact ⟨h1.trans ih.1, h2.trans ih.2.1, h3.trans ih.2.2⟩
    · exact ih

