/-! the sum of the falls grows as the model's own count -/
def dwD (n : Nat) (S S' : Mem) : Prop := smI (S' 136) n - S' 126 36 = smI (S 136) n - S 126 36
theorem dwD.same {n : Nat} {S S' : Mem} (h : S' 136 = S 136) (h2 : S' 126 36 = S 126 36) : dwD n S S' := by unfold dwD; rw [h, h2]
theorem dwD.tr {n : Nat} {S S' S2 : Mem} (h : dwD n S S') (h2 : dwD n S' S2) : dwD n S S2 := Eq.trans h2 h
theorem smI_up (f : Nat → Int32) (a : Nat) (g : Nat → Int32) (hg : ∀ j, g j = if j = a then f j + 1 else f j) : ∀ n, smI g n = smI f n + (if a < n then 1 else 0) := by
  intro n
  induction n with
  | zero => simp [smI]
  | succ n ih =>
    simp only [smI]
    rw [ih, hg n]
    by_cases e : n = a
    · subst e; simp [Int32.add_assoc]
    · by_cases e2 : a < n
      · rw [if_pos e2, if_neg e, if_pos (by omega), Int32.add_assoc, Int32.add_comm 1, Int32.add_assoc]
      · rw [if_neg e2, if_neg e, if_neg (by omega)]; simp
theorem dwD.down {n a : Nat} {S : Mem} (ha : a < n) : dwD n S (fDown S a) := by
  unfold dwD
  have h := smI_up (S 136) a ((fDown S a) 136) (fun j => by simp only [fDown, uI_ap]; by_cases e : j = a <;> simp [e]) n
  rw [h, if_pos ha]
  have h2 : (fDown S a) 126 36 = S 126 36 + 1 := by simp [fDown, uI_ap]
  rw [h2]
  generalize smI (S 136) n = X
  generalize S 126 36 = Y
  rw [Int32.sub_eq_add_neg, Int32.neg_add, Int32.sub_eq_add_neg]
  grind
theorem dwD.hear {n : Nat} (S : Mem) (a f : Nat) : dwD n S (fHear S a f) := by
  unfold fHear
  split
  · unfold fPost; split <;> exact dwD.same (by simp [uI_ne]) (by simp [uI_ap])
  · split
    · unfold fBegin; exact dwD.same (by simp [uI_ne]) (by simp [uI_ap])
    · unfold fStand; exact dwD.same (by simp [uI_ne]) (by simp [uI_ap])
theorem dwD.lk {n : Nat} (S : Mem) (a k : Nat) : dwD n S (fLk S a k) := by
  induction k with
  | zero => exact dwD.same rfl rfl
  | succ k ih =>
    simp only [fLk]
    split
    · exact ih.tr (dwD.hear _ _ _)
    · exact ih
theorem dwD.row {n T : Nat} : ∀ (m f r : Nat) (S : Mem), RV n T f r S → dwD n S (fRow m S) := by
  intro m
  induction m with
  | zero => exact fun f r S h => dwD.same rfl rfl
  | succ m ih =>
    intro f r S h
    simp only [fRow]
    split
    next hc =>
      obtain ⟨h1, h2, h3, h4, h5⟩ := id h
      have hn := h1.1
      rw [h2, h4.1, nI_ltg (by omega) (by omega)] at hc
      obtain ⟨r', h'⟩ := h.next hc
      refine dwD.tr ?_ (ih _ _ _ h')
      obtain ⟨x, hx, ex⟩ := h4.2 f hc
      have s0 : dwD n S (uI S 126 37 (S 126 37 + 1)) := dwD.same (by simp [uI_ne]) (by simp [uI_ap])
      unfold fNext
      rw [h2, tn_nI (by omega), ex, tn_nI (by omega)]
      rw [h2] at s0
      split
      · unfold fFallOne; exact s0.tr ((dwD.down hx).tr (dwD.lk _ _ _))
      · exact s0
    · exact dwD.same rfl rfl
theorem dwD.fall {n T a : Nat} {S : Mem} (h : WS n T S) (ha : a < n) : dwD n S (fFall S a) := by
  unfold fFall
  refine dwD.tr ?_ (dwD.row 128 0 1 _ (RV.start h ha))
  unfold fStand
  exact dwD.same (by simp [uI_ne]) (by simp [uI_ap])
