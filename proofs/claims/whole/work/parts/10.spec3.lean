/-! sums -/
def sm (f : Nat → Nat) : Nat → Nat
  | 0 => 0
  | k + 1 => sm f k + f k
theorem sm_eq {f g : Nat → Nat} {n : Nat} (h : ∀ i, i < n → f i = g i) : sm f n = sm g n := by
  induction n with
  | zero => rfl
  | succ n ih => simp only [sm]; rw [ih (fun i hi => h i (by omega)), h n (by omega)]
theorem sm_le {f : Nat → Nat} {n m : Nat} (h : ∀ i, i < n → f i ≤ m) : sm f n ≤ m * n := by
  induction n with
  | zero => simp [sm]
  | succ n ih =>
    simp only [sm]
    have h1 := ih (fun i hi => h i (by omega))
    have h2 := h n (by omega)
    rw [Nat.mul_succ]
    omega
theorem sm_one {f g : Nat → Nat} {n a : Nat} (ha : a < n) (h : ∀ i, i ≠ a → f i = g i) : sm f n + g a = sm g n + f a := by
  induction n with
  | zero => omega
  | succ n ih =>
    simp only [sm]
    by_cases hn : a = n
    · subst hn
      rw [sm_eq (fun i hi => h i (by omega))]
      omega
    · have := ih (by omega)
      rw [h n (by omega)]
      omega
def u1 (x : Int32) : Nat := if x = 1 then 1 else 0
def pr (T : Nat) (r q : Int32) : Nat := if r = nI T then (if q = nI T then 0 else 1) else 2
def potU (n : Nat) (S : Mem) : Nat := sm (fun i => u1 (S 130 i)) n
def potP (n T : Nat) (S : Mem) : Nat := sm (fun i => pr T (S 137 (2 * i)) (S 137 (2 * i + 1))) n
theorem potU_le (n : Nat) (S : Mem) : potU n S ≤ n := by
  have := sm_le (f := fun i => u1 (S 130 i)) (n := n) (m := 1) (fun i _ => by unfold u1; split <;> omega)
  unfold potU; omega
theorem potP_le (n T : Nat) (S : Mem) : potP n T S ≤ 2 * n := by
  have := sm_le (f := fun i => pr T (S 137 (2 * i)) (S 137 (2 * i + 1))) (n := n) (m := 2) (fun i _ => by unfold pr; split <;> (try split) <;> omega)
  unfold potP; omega
/-- the row: where it begins, how long it is, who stands in it -/
def RVr (n r : Nat) (S : Mem) : Prop := S 126 38 = nI r ∧ ∀ j, j < r → ∃ x, x < n ∧ S 149 j = nI x
theorem fRs_lt {S : Mem} {a T : Nat} (hT : S 126 16 = nI T) (h : fRs S a < 2) : ¬ (S 137 (2 * a) = nI T ∧ S 137 (2 * a + 1) = nI T) := by
  intro ⟨h1, h2⟩
  unfold fRs at h
  rw [hT, h1, h2, b01_t (by simp)] at h
  exact absurd h (by decide)
theorem hear_pot {n T a f r : Nat} {S : Mem} (h : WS n T S) (ha : a < n) (hf : f < n) (hr : RVr n r S) (hr2 : r < 200) : ∃ r', RVr n r' (fHear S a f) ∧ (r ≤ r' ∧ r' ≤ r + 1) ∧ potU n (fHear S a f) + potP n T (fHear S a f) ≤ potU n S + potP n T S ∧ (fHear S a f) 126 37 = S 126 37 := by
  have hT := h.2.2.1
  unfold fHear
  split
  · refine ⟨r, ?_, by omega, ?_, ?_⟩
    · unfold fPost; split
      · exact ⟨by rw [uI_ap, if_neg (by omega)]; exact hr.1, fun j hj => by rw [uI_ne (by decide)]; exact hr.2 j hj⟩
      · exact ⟨by simp only [uI_ap]; simpa using hr.1, fun j hj => by rw [uI_ne (by decide), uI_ne (by decide), uI_ne (by decide)]; exact hr.2 j hj⟩
    · unfold fPost potU potP; split
      · simp only [uI_ne (show (130:Nat) ≠ 126 by decide), uI_ne (show (137:Nat) ≠ 126 by decide)]; exact Nat.le_refl _
      · simp only [uI_ne (show (130:Nat) ≠ 133 by decide), uI_ne (show (137:Nat) ≠ 133 by decide), uI_ne (show (130:Nat) ≠ 134 by decide), uI_ne (show (137:Nat) ≠ 134 by decide), uI_ne (show (130:Nat) ≠ 135 by decide), uI_ne (show (137:Nat) ≠ 135 by decide)]; exact Nat.le_refl _
    · unfold fPost; split <;> simp [uI_ap]
  · split
    next hc =>
      have hlt := fRs_lt hT hc.2
      refine ⟨r, ?_, by omega, ?_, ?_⟩
      · exact ⟨by unfold fBegin; simp only [uI_ap]; simpa using hr.1, fun j hj => by unfold fBegin; simp only [uI_ap]; simpa using hr.2 j hj⟩
      · rw [hT]
        have hU : potU n (fBegin (uI (uI S 137 (2 * a + 1) (S 137 (2 * a))) 137 (2 * a) (nI T)) f) ≤ potU n S + 1 := by
          have := sm_one (f := fun i => u1 ((fBegin (uI (uI S 137 (2 * a + 1) (S 137 (2 * a))) 137 (2 * a) (nI T)) f) 130 i)) (g := fun i => u1 (S 130 i)) hf (fun i hi => by simp [fBegin, uI_ap, hi])
          simp only [fBegin, uI_ap] at this
          have h1 : u1 (1 : Int32) = 1 := rfl
          simp [h1] at this
          unfold potU
          simp only [fBegin, uI_ap]
          simp
          omega
        have hP : potP n T (fBegin (uI (uI S 137 (2 * a + 1) (S 137 (2 * a))) 137 (2 * a) (nI T)) f) + 1 ≤ potP n T S := by
          have := sm_one (f := fun i => pr T ((fBegin (uI (uI S 137 (2 * a + 1) (S 137 (2 * a))) 137 (2 * a) (nI T)) f) 137 (2 * i)) ((fBegin (uI (uI S 137 (2 * a + 1) (S 137 (2 * a))) 137 (2 * a) (nI T)) f) 137 (2 * i + 1))) (g := fun i => pr T (S 137 (2 * i)) (S 137 (2 * i + 1))) ha (fun i hi => by
            have e1 : ∀ q, q < 2 → (fBegin (uI (uI S 137 (2 * a + 1) (S 137 (2 * a))) 137 (2 * a) (nI T)) f) 137 (2 * i + q) = S 137 (2 * i + q) := by
              intro q hq
              simp only [fBegin, uI_ne (show (137:Nat) ≠ 133 by decide), uI_ne (show (137:Nat) ≠ 132 by decide), uI_ne (show (137:Nat) ≠ 131 by decide), uI_ne (show (137:Nat) ≠ 130 by decide)]
              rw [uI_ap, if_neg (by omega), uI_ap, if_neg (by omega)]
            have e2 := e1 0 (by omega)
            have e3 := e1 1 (by omega)
            simp only [Nat.add_zero] at e2
            rw [e2, e3])
          have e4 : (fBegin (uI (uI S 137 (2 * a + 1) (S 137 (2 * a))) 137 (2 * a) (nI T)) f) 137 (2 * a) = nI T := by
            simp only [fBegin, uI_ne (show (137:Nat) ≠ 133 by decide), uI_ne (show (137:Nat) ≠ 132 by decide), uI_ne (show (137:Nat) ≠ 131 by decide), uI_ne (show (137:Nat) ≠ 130 by decide)]
            rw [uI_self]
          have e5 : (fBegin (uI (uI S 137 (2 * a + 1) (S 137 (2 * a))) 137 (2 * a) (nI T)) f) 137 (2 * a + 1) = S 137 (2 * a) := by
            simp only [fBegin, uI_ne (show (137:Nat) ≠ 133 by decide), uI_ne (show (137:Nat) ≠ 132 by decide), uI_ne (show (137:Nat) ≠ 131 by decide), uI_ne (show (137:Nat) ≠ 130 by decide)]
            rw [uI_ap, if_neg (by omega), uI_self]
          rw [e4, e5] at this
          have h2 : pr T (nI T) (S 137 (2 * a)) + 1 ≤ pr T (S 137 (2 * a)) (S 137 (2 * a + 1)) := by
            unfold pr
            rw [if_pos rfl]
            by_cases c1 : S 137 (2 * a) = nI T
            · rw [if_pos c1, if_pos c1, if_neg (fun c2 => hlt ⟨c1, c2⟩)]; omega
            · rw [if_neg c1, if_neg c1]; omega
          unfold potP
          omega
        omega
      · simp [fBegin, uI_ap]
    · refine ⟨r + 1, ?_, by omega, ?_, ?_⟩
      · refine ⟨by unfold fStand; rw [uI_self, hr.1, nI_1], fun j hj => ?_⟩
        unfold fStand
        rw [uI_ne (by decide), hr.1, tn_nI (by omega), uI_ap]
        by_cases hjr : j = r
        · rw [if_pos ⟨rfl, hjr⟩]; exact ⟨a, ha, rfl⟩
        · rw [if_neg (by omega)]; exact hr.2 j (by omega)
      · unfold potU potP fStand
        simp only [uI_ne (show (130:Nat) ≠ 126 by decide), uI_ne (show (137:Nat) ≠ 126 by decide), uI_ne (show (130:Nat) ≠ 149 by decide), uI_ne (show (137:Nat) ≠ 149 by decide)]; exact Nat.le_refl _
      · simp [fStand, uI_ap]
theorem lk_pot {n T a r l : Nat} {S : Mem} (h : WS n T S) (ha : a < n) (hl : S 126 13 = nI l) (hl6 : l ≤ 6) (hr : RVr n r S) (hr2 : r < 150) : ∀ k, k ≤ l → WS n T (fLk S a k) ∧ ∃ r', RVr n r' (fLk S a k) ∧ (r ≤ r' ∧ r' ≤ r + k) ∧ potU n (fLk S a k) + potP n T (fLk S a k) ≤ potU n S + potP n T S ∧ (fLk S a k) 126 37 = S 126 37 := by
  intro k
  induction k with
  | zero => exact fun _ => ⟨h, r, hr, by omega, Nat.le_refl _, rfl⟩
  | succ k ih =>
    intro hk
    obtain ⟨h1, r', h2, h3, h4, h5⟩ := ih (by omega)
    have hhd := fLk_hd S a k
    obtain ⟨-, ho⟩ := fOther_r (k := k) (a := a) h1 (fun l' e1 e2 => by
      rw [hhd.1, hl] at e1
      have := (nI_eqg (by omega) (by omega)).mp e1
      omega)
    simp only [fLk]
    split
    next hc =>
      obtain ⟨p, hp, hpa, ep⟩ := ho.resolve_left hc.1
      rw [ep, tn_nI (by have := h.1; omega)]
      obtain ⟨r2, g1, g2, g3, g4⟩ := hear_pot h1 hp ha h2 (by omega)
      exact ⟨h1.hear hp ha, r2, g1, by omega, by omega, by rw [g4]; exact h5⟩
    · exact ⟨h1, r', h2, by omega, h4, h5⟩
theorem down_pot {n T a r : Nat} {S : Mem} (ha : a < n) (hu : S 130 a = 1) (hr : RVr n r S) : RVr n r (fDown S a) ∧ potU n (fDown S a) + 1 + potP n T (fDown S a) = potU n S + potP n T S ∧ (fDown S a) 126 37 = S 126 37 ∧ (fDown S a) 126 13 = S 126 13 := by
  refine ⟨⟨by unfold fDown; simp only [uI_ap]; simpa using hr.1, fun j hj => by unfold fDown; simp only [uI_ap]; simpa using hr.2 j hj⟩, ?_, by simp [fDown, uI_ap], by simp [fDown, uI_ap]⟩
  have hU := sm_one (f := fun i => u1 ((fDown S a) 130 i)) (g := fun i => u1 (S 130 i)) ha (fun i hi => by simp [fDown, uI_ap, hi])
  have e1 : (fDown S a) 130 a = 0 := by simp [fDown, uI_ap]
  have e2 : u1 (0 : Int32) = 0 := rfl
  have e3 : u1 (1 : Int32) = 1 := rfl
  rw [e1, hu, e2, e3] at hU
  have hP : potP n T (fDown S a) = potP n T S := by
    unfold potP fDown
    simp only [uI_ne (show (137:Nat) ≠ 126 by decide), uI_ne (show (137:Nat) ≠ 136 by decide), uI_ne (show (137:Nat) ≠ 133 by decide), uI_ne (show (137:Nat) ≠ 130 by decide)]
  rw [hP]
  unfold potU
  omega
theorem one_pot {n T a r : Nat} {S : Mem} (h : WS n T S) (ha : a < n) (hu : S 130 a = 1) (hr : RVr n r S) (hr2 : r < 150) : WS n T (fFallOne S a) ∧ ∃ r', RVr n r' (fFallOne S a) ∧ (r ≤ r' ∧ r' ≤ r + 6) ∧ potU n (fFallOne S a) + potP n T (fFallOne S a) + 1 ≤ potU n S + potP n T S ∧ (fFallOne S a) 126 37 = S 126 37 := by
  obtain ⟨d1, d2, d3, d4⟩ := down_pot (T := T) ha hu hr
  obtain ⟨l, l1, l2, -⟩ := h.2.2.2.1
  unfold fFallOne
  rw [l2, tn_nI (by omega)]
  obtain ⟨g1, r', g2, g3, g4, g5⟩ := lk_pot (h.down ha) ha (d4.trans l2) l1 d1 hr2 l (Nat.le_refl _)
  exact ⟨g1, r', g2, by omega, by omega, by rw [g5, d3]⟩
/-! the row is gone through -/
def fNext (S : Mem) : Mem := if (uI S 126 37 (S 126 37 + 1)) 130 (tn (S 149 (tn (S 126 37)))) = 1 then fFallOne (uI S 126 37 (S 126 37 + 1)) (tn (S 149 (tn (S 126 37)))) else uI S 126 37 (S 126 37 + 1)
def fRow : Nat → Mem → Mem
  | 0, S => S
  | m + 1, S => if S 126 37 < S 126 38 then fRow m (fNext S) else S
def fFall (S : Mem) (a : Nat) : Mem := fRow 128 (fStand (uI (uI S 126 37 0) 126 38 0) (nI a))
/-- where the row stands: f gone through of r -/
def RV (n T f r : Nat) (S : Mem) : Prop := WS n T S ∧ S 126 37 = nI f ∧ f ≤ r ∧ RVr n r S ∧ r + 6 * (potU n S + potP n T S) ≤ 109
theorem RV.next {n T f r : Nat} {S : Mem} (h : RV n T f r S) (hf : f < r) : ∃ r', RV n T (f + 1) r' (fNext S) := by
  obtain ⟨h1, h2, h3, h4, h5⟩ := h
  have hn := h1.1
  obtain ⟨x, hx, ex⟩ := h4.2 f hf
  have w1 : WS n T (uI S 126 37 (S 126 37 + 1)) := h1.lost (by decide)
  have w2 : RVr n r (uI S 126 37 (S 126 37 + 1)) := ⟨by rw [uI_ap, if_neg (by omega)]; exact h4.1, fun j hj => by rw [uI_ne (by decide)]; exact h4.2 j hj⟩
  have w3 : potU n (uI S 126 37 (S 126 37 + 1)) = potU n S := by unfold potU; simp only [uI_ne (show (130:Nat) ≠ 126 by decide)]
  have w4 : potP n T (uI S 126 37 (S 126 37 + 1)) = potP n T S := by unfold potP; simp only [uI_ne (show (137:Nat) ≠ 126 by decide)]
  unfold fNext
  rw [h2, tn_nI (by omega), ex, tn_nI (by omega)]
  rw [h2] at w1 w2 w3 w4
  split
  next hu =>
    obtain ⟨g1, r', g2, g3, g4, g5⟩ := one_pot w1 hx hu w2 (by omega)
    exact ⟨r', g1, by rw [g5, uI_self, nI_1], by omega, g2, by omega⟩
  · exact ⟨r, w1, by rw [uI_self, nI_1], by omega, w2, by rw [w3, w4]; exact h5⟩
theorem fRow_RV {n T : Nat} : ∀ (m f r : Nat) (S : Mem), RV n T f r S → WS n T (fRow m S) := by
  intro m
  induction m with
  | zero => exact fun f r S h => h.1
  | succ m ih =>
    intro f r S h
    simp only [fRow]
    split
    next hc =>
      obtain ⟨h1, h2, h3, h4, h5⟩ := id h
      rw [h2, h4.1, nI_ltg (by omega) (by omega)] at hc
      obtain ⟨r', h'⟩ := h.next hc
      exact ih _ _ _ h'
    · exact h.1
theorem RV.start {n T a : Nat} {S : Mem} (h : WS n T S) (ha : a < n) : RV n T 0 1 (fStand (uI (uI S 126 37 0) 126 38 0) (nI a)) := by
  have hn := h.1
  have h1 : WS n T (fStand (uI (uI S 126 37 0) 126 38 0) (nI a)) := ((h.lost (by decide)).lost (by decide)).stand
  refine ⟨h1, by simp [fStand, uI_ap]; rfl, by omega, ⟨by simp [fStand, uI_ap]; rfl, fun j hj => ⟨a, ha, ?_⟩⟩, ?_⟩
  · have : j = 0 := by omega
    subst this
    unfold fStand
    rw [uI_ne (by decide), uI_self]
    exact uI_self _ _ _ _
  · have := potU_le n (fStand (uI (uI S 126 37 0) 126 38 0) (nI a))
    have := potP_le n T (fStand (uI (uI S 126 37 0) 126 38 0) (nI a))
    omega
theorem WS.fall {n T a : Nat} {S : Mem} (h : WS n T S) (ha : a < n) : WS n T (fFall S a) := fRow_RV 128 0 1 _ (RV.start h ha)
/-! a step, a tick -/
def fDoStep (S : Mem) (a : Nat) : Mem :=
  if S 129 (3 * a + tn (S 131 a)) < 400 ∧ 300 ≤ S 129 (3 * a + tn (S 131 a)) then fGoOn (fPost S (tn (S 129 (3 * a + tn (S 131 a)) / 10 - S 129 (3 * a + tn (S 131 a)) / 10 / 10 * 10)) (S 129 (3 * a + tn (S 131 a)) - S 129 (3 * a + tn (S 131 a)) / 10 * 10) (nI a)) a
  else if S 129 (3 * a + tn (S 131 a)) = 400 then fGoOn S a
  else if S 129 (3 * a + tn (S 131 a)) = 500 then fFall (fGoOn S a) a
  else fWaits S a (S 129 (3 * a + tn (S 131 a)))
def fTk (S : Mem) : Nat → Mem
  | 0 => S
  | i + 1 => if fTk S i 130 i = 1 then fDoStep (fTk S i) i else fTk S i
def fTick (S : Mem) : Mem := fTk (uI S 126 16 (S 126 16 + 1)) (tn (S 126 1))
theorem snd_dec : ∀ t : Nat, t < 6 → ∀ s : Nat, s < 8 → (nI (300 + 10 * t + s) / 10 - nI (300 + 10 * t + s) / 10 / 10 * 10 = nI t ∧ nI (300 + 10 * t + s) - nI (300 + 10 * t + s) / 10 * 10 = nI s) := by decide
theorem WS.stp {n T a : Nat} {S : Mem} (h : WS n T S) (ha : a < n) : ∃ x, x < 3 ∧ S 131 a = nI x ∧ okS n (S 129 (3 * a + x)) := by
  obtain ⟨-, -, ⟨t, x, a1, a2, a3, a4, a5, a6⟩, -⟩ := h.2.2.2.2 a ha
  exact ⟨x, by omega, a5, a6 x a3⟩
theorem okS_snd {n : Nat} {v : Int32} (hn : n ≤ 6) (h : okS n v) (h1 : v < 400) (h2 : 300 ≤ v) : ∃ t s, t < n ∧ s ≤ 7 ∧ v = nI (300 + 10 * t + s) ∧ v / 10 - v / 10 / 10 * 10 = nI t ∧ v - v / 10 * 10 = nI s := by
  rcases h with ⟨s, hs, e⟩ | e | ⟨t, s, ht, hs, e⟩ | e | e
  · exfalso
    rw [e] at h2
    have : (300 : Int32) = nI 300 := rfl
    rw [this, nI_leg (by omega) (by omega)] at h2
    omega
  · rw [e] at h2; exact absurd h2 (by decide)
  · have := snd_dec t (by omega) s (by omega)
    exact ⟨t, s, ht, hs, e, by rw [e]; exact this.1, by rw [e]; exact this.2⟩
  · rw [e] at h1; exact absurd h1 (by decide)
  · rw [e] at h1; exact absurd h1 (by decide)
theorem WS.doStep {n T a : Nat} {S : Mem} (h : WS n T S) (ha : a < n) : WS n T (fDoStep S a) := by
  have hn := h.1
  obtain ⟨x, hx, ex, hok⟩ := h.stp ha
  unfold fDoStep
  rw [ex, tn_nI (by omega)]
  split
  next hc =>
    obtain ⟨t, s, ht, hs, -, e1, e2⟩ := okS_snd hn hok hc.1 hc.2
    rw [e1, e2, tn_nI (by omega)]
    exact (h.post ht ⟨⟨s, by omega, rfl⟩, Or.inr ⟨a, by omega, rfl⟩⟩).goOn ha
  · split
    · exact h.goOn ha
    · split
      · exact (h.goOn ha).fall ha
      · exact h.waits ha
theorem WS.tk {n T : Nat} {S : Mem} (h : WS n T S) : ∀ i, i ≤ n → WS n T (fTk S i) := by
  intro i
  induction i with
  | zero => exact fun _ => h
  | succ i ih =>
    intro hi
    simp only [fTk]
    split
    · exact (ih (by omega)).doStep (by omega)
    · exact ih (by omega)
theorem WS.time {n T : Nat} {S : Mem} (h : WS n T S) : WS n (T + 1) (uI S 126 16 (S 126 16 + 1)) := by
  obtain ⟨h1, h2, h3, ⟨l, l1, l2, l3⟩, h5⟩ := h
  refine ⟨h1, by rw [uI_ap, if_neg (by omega)]; exact h2, by rw [uI_self, h3, nI_1], ⟨l, l1, by rw [uI_ap, if_neg (by omega)]; exact l2, fun j hj => by rw [uI_ne (by decide), uI_ne (by decide)]; exact l3 j hj⟩, fun i hi => ?_⟩
  obtain ⟨a1, a2, a3, a4, a5, a6, a7⟩ := h5 i hi
  have hR : ∀ r, okR T r → okR (T + 1) r := fun r hr => hr.imp id (fun ⟨t, t1, t2⟩ => ⟨t, by omega, t2⟩)
  refine ⟨?_, ?_, ?_, ?_, ?_, ?_, ?_⟩
  all_goals simp only [uI_ne (show (127:Nat) ≠ 126 by decide), uI_ne (show (128:Nat) ≠ 126 by decide), uI_ne (show (129:Nat) ≠ 126 by decide), uI_ne (show (130:Nat) ≠ 126 by decide), uI_ne (show (131:Nat) ≠ 126 by decide), uI_ne (show (132:Nat) ≠ 126 by decide), uI_ne (show (133:Nat) ≠ 126 by decide), uI_ne (show (134:Nat) ≠ 126 by decide), uI_ne (show (135:Nat) ≠ 126 by decide), uI_ne (show (137:Nat) ≠ 126 by decide)]
  · exact a1
  · exact a2
  · exact a3
  · exact a4
  · exact a5
  · exact hR _ a6
  · exact hR _ a7
theorem WS.tick {n T : Nat} {S : Mem} (h : WS n T S) : WS n (T + 1) (fTick S) := by
  have hn := h.1
  unfold fTick
  rw [h.2.1, tn_nI (by omega)]
  exact h.time.tk n (Nat.le_refl n)

theorem fLk_no1 {S : Mem} {a x : Nat} (h : fOther (fLk S a x) x a = -1) : fLk S a (x + 1) = fLk S a x := by
  simp only [fLk]
  exact if_neg (fun q => q.1 h)
theorem fLk_no2 {S : Mem} {a x p : Nat} (h : fOther (fLk S a x) x a = nI p) (hp : p < 6) (hu : ¬ fLk S a x 130 p = 1) : fLk S a (x + 1) = fLk S a x := by
  simp only [fLk]
  rw [h, tn_nI (by omega)]
  exact if_neg (fun q => hu q.2)
theorem fLk_yes {S : Mem} {a x p : Nat} (h : fOther (fLk S a x) x a = nI p) (hp : p < 6) (hu : fLk S a x 130 p = 1) : fLk S a (x + 1) = fHear (fLk S a x) p a := by
  simp only [fLk]
  rw [h, tn_nI (by omega)]
  exact if_pos ⟨nI_small (by omega), hu⟩
set_option maxHeartbeats 4000000 in
theorem l_fallOne {I S : Mem} {J : Mel} {Q : Option Value → Mem → Mem → Mel → Prop} {n T a l r : Nat} (hW : WS n T S) (ha : a < n) (hl : S 126 13 = nI l) (hl6 : l ≤ 6) (hr : RVr n r S) (hr2 : r < 150) (k : Q none I (fLk S a l) J) : ∀ (x : Nat) (v : Value), (x ≤ l) → W2 mX11_fallOne 3 Q I (fLk S a x) J 51 [.ref 126, .int (nI a), .int (nI x), v] [] := by
  intro x v
  induction hm : l - x using Nat.strongRecOn generalizing x v with
  | _ c ih =>
    intro hx
    have hn := hW.1
    obtain ⟨g1, r1, g2, g3, g4, g5⟩ := lk_pot hW ha hl hl6 hr hr2 x hx
    have hhd := fLk_hd S a x
    refine wp_iload_n dX11_fallOne_51 rfl ?_
    refine wp_aload_n dX11_fallOne_52 rfl ?_
    refine m_getI dX11_fallOne_53 flRX11_221 (by first | rfl | assumption) (by decide) ?_
    refine wp_icmp_ge dX11_fallOne_56 (fun h56 => ?_) (fun h56 => ?_)
    · skip
      refine g_vret dX11_fallOne_126 rfl ?_
      have e : x = l := by rw [hhd.1, hl, nI_leg (by omega) (by omega)] at h56; omega
      rw [e]; exact k
    · skip
      have hxl : x < l := by rw [hhd.1, hl, nI_leg (by omega) (by omega)] at h56; omega
      obtain ⟨⟨p, q, hp, hq, hpq, e1, e2⟩, ho⟩ := fOther_r (k := x) (a := a) g1 (fun l2 e1 e2 => by rw [hhd.1, hl] at e1; have := (nI_eqg (by omega) (by omega)).mp e1; omega)
      refine wp_aload_n dX11_fallOne_59 rfl ?_
      refine wp_getA (by first | rfl | assumption) dX11_fallOne_60 flRX11_43 (by first | rfl | assumption) ?_
      refine wp_iload_n dX11_fallOne_63 rfl ?_
      refine m_iald dX11_fallOne_64 rfl rfl (by omega) (by decide) (by decide) ?_
      refine wp_iload_n dX11_fallOne_65 rfl ?_
      refine wp_icmp_ne dX11_fallOne_66 (fun h66 => ?_) (fun h66 => ?_)
      · skip
        refine wp_aload_n dX11_fallOne_78 rfl ?_
        refine wp_getA (by first | rfl | assumption) dX11_fallOne_79 flRX11_46 (by first | rfl | assumption) ?_
        refine wp_iload_n dX11_fallOne_82 rfl ?_
        refine m_iald dX11_fallOne_83 rfl rfl (by omega) (by decide) (by decide) ?_
        refine wp_iload_n dX11_fallOne_84 rfl ?_
        refine wp_icmp_ne dX11_fallOne_85 (fun h85 => ?_) (fun h85 => ?_)
        · skip
          refine wp_iconst (-1) dX11_fallOne_97 (by decide) ?_
          refine st_i_4_3 dX11_fallOne_98 (by decide) rfl ?_
          refine wp_iload_n dX11_fallOne_99 rfl ?_
          refine wp_iconst (-1) dX11_fallOne_100 (by decide) ?_
          refine wp_icmp_eq dX11_fallOne_101 (fun h101 => ?_) (fun h101 => absurd h101 (by decide))
          refine ic_4_2 (nI (x + 1)) dX11_fallOne_120 (nI_inc x) (by decide) rfl ?_
          refine wp_goto dX11_fallOne_123 ?_
          have eo : fOther (fLk S a x) x a = -1 ∨ fOther (fLk S a x) x a = nI q ∨ fOther (fLk S a x) x a = nI p := by unfold fOther; rw [e1, e2]; split <;> (try split) <;> simp
          first | (rw [← fLk_no1 (x := x) (a := a) (S := S) (by unfold fOther; grind)]; exact ih _ (by omega) (x + 1) _ rfl (by omega)) | (rw [← fLk_no2 (p := q) (x := x) (a := a) (S := S) (by unfold fOther; grind) (by omega) (by grind)]; exact ih _ (by omega) (x + 1) _ rfl (by omega)) | (rw [← fLk_no2 (p := p) (x := x) (a := a) (S := S) (by unfold fOther; grind) (by omega) (by grind)]; exact ih _ (by omega) (x + 1) _ rfl (by omega)) | (rw [← fLk_yes (p := q) (x := x) (a := a) (S := S) (by unfold fOther; grind) (by omega) (by grind)]; exact ih _ (by omega) (x + 1) _ rfl (by omega)) | (rw [← fLk_yes (p := p) (x := x) (a := a) (S := S) (by unfold fOther; grind) (by omega) (by grind)]; exact ih _ (by omega) (x + 1) _ rfl (by omega))
        · skip
          refine wp_aload_n dX11_fallOne_88 rfl ?_
          refine wp_getA (by first | rfl | assumption) dX11_fallOne_89 flRX11_43 (by first | rfl | assumption) ?_
          refine wp_iload_n dX11_fallOne_92 rfl ?_
          refine m_iald dX11_fallOne_93 rfl rfl (by omega) (by decide) (by decide) ?_
          refine wp_goto dX11_fallOne_94 ?_
          refine st_i_4_3 dX11_fallOne_98 (by decide) rfl ?_
          refine wp_iload_n dX11_fallOne_99 rfl ?_
          refine wp_iconst (-1) dX11_fallOne_100 (by decide) ?_
          refine wp_icmp_eq dX11_fallOne_101 (fun h101 => ?_) (fun h101 => ?_)
          · skip
            refine ic_4_2 (nI (x + 1)) dX11_fallOne_120 (nI_inc x) (by decide) rfl ?_
            refine wp_goto dX11_fallOne_123 ?_
            have eo : fOther (fLk S a x) x a = -1 ∨ fOther (fLk S a x) x a = nI q ∨ fOther (fLk S a x) x a = nI p := by unfold fOther; rw [e1, e2]; split <;> (try split) <;> simp
            first | (rw [← fLk_no1 (x := x) (a := a) (S := S) (by unfold fOther; grind)]; exact ih _ (by omega) (x + 1) _ rfl (by omega)) | (rw [← fLk_no2 (p := q) (x := x) (a := a) (S := S) (by unfold fOther; grind) (by omega) (by grind)]; exact ih _ (by omega) (x + 1) _ rfl (by omega)) | (rw [← fLk_no2 (p := p) (x := x) (a := a) (S := S) (by unfold fOther; grind) (by omega) (by grind)]; exact ih _ (by omega) (x + 1) _ rfl (by omega)) | (rw [← fLk_yes (p := q) (x := x) (a := a) (S := S) (by unfold fOther; grind) (by omega) (by grind)]; exact ih _ (by omega) (x + 1) _ rfl (by omega)) | (rw [← fLk_yes (p := p) (x := x) (a := a) (S := S) (by unfold fOther; grind) (by omega) (by grind)]; exact ih _ (by omega) (x + 1) _ rfl (by omega))
          · skip
            first | rw [e2] | rw [e1]
            refine wp_aload_n dX11_fallOne_104 rfl ?_
            refine wp_getA (by first | rfl | assumption) dX11_fallOne_105 flRX11_19 (by first | rfl | assumption) ?_
            refine wp_iload_n dX11_fallOne_108 rfl ?_
            refine m_iald dX11_fallOne_109 rfl rfl (by omega) (by decide) (by decide) ?_
            refine wp_iconst 1 dX11_fallOne_110 (by decide) ?_
            refine wp_icmp_ne dX11_fallOne_111 (fun h111 => ?_) (fun h111 => ?_)
            · skip
              refine ic_4_2 (nI (x + 1)) dX11_fallOne_120 (nI_inc x) (by decide) rfl ?_
              refine wp_goto dX11_fallOne_123 ?_
              have eo : fOther (fLk S a x) x a = -1 ∨ fOther (fLk S a x) x a = nI q ∨ fOther (fLk S a x) x a = nI p := by unfold fOther; rw [e1, e2]; split <;> (try split) <;> simp
              first | (rw [← fLk_no1 (x := x) (a := a) (S := S) (by unfold fOther; grind)]; exact ih _ (by omega) (x + 1) _ rfl (by omega)) | (rw [← fLk_no2 (p := q) (x := x) (a := a) (S := S) (by unfold fOther; grind) (by omega) (by grind)]; exact ih _ (by omega) (x + 1) _ rfl (by omega)) | (rw [← fLk_no2 (p := p) (x := x) (a := a) (S := S) (by unfold fOther; grind) (by omega) (by grind)]; exact ih _ (by omega) (x + 1) _ rfl (by omega)) | (rw [← fLk_yes (p := q) (x := x) (a := a) (S := S) (by unfold fOther; grind) (by omega) (by grind)]; exact ih _ (by omega) (x + 1) _ rfl (by omega)) | (rw [← fLk_yes (p := p) (x := x) (a := a) (S := S) (by unfold fOther; grind) (by omega) (by grind)]; exact ih _ (by omega) (x + 1) _ rfl (by omega))
            · skip
              refine wp_aload_n dX11_fallOne_114 rfl ?_
              refine wp_iload_n dX11_fallOne_115 rfl ?_
              refine wp_iload_n dX11_fallOne_116 rfl ?_
              refine g_callV2 (mj := mX11_hear) dX11_fallOne_117 lkRX11_281 mkX11_hear (by first | rfl | assumption) (by decide) (by decide) (Nat.le_of_ble_eq_true rfl) (c_hear (b := (g1.box (by assumption)).choose) (r := r1) (by omega) (by omega) (g1.box (by assumption)).choose_spec.2 (g1.box (by assumption)).choose_spec.1 g2.1 (by omega) ?_)
              refine ic_4_2 (nI (x + 1)) dX11_fallOne_120 (nI_inc x) (by decide) rfl ?_
              refine wp_goto dX11_fallOne_123 ?_
              have eo : fOther (fLk S a x) x a = -1 ∨ fOther (fLk S a x) x a = nI q ∨ fOther (fLk S a x) x a = nI p := by unfold fOther; rw [e1, e2]; split <;> (try split) <;> simp
              first | (rw [← fLk_no1 (x := x) (a := a) (S := S) (by unfold fOther; grind)]; exact ih _ (by omega) (x + 1) _ rfl (by omega)) | (rw [← fLk_no2 (p := q) (x := x) (a := a) (S := S) (by unfold fOther; grind) (by omega) (by grind)]; exact ih _ (by omega) (x + 1) _ rfl (by omega)) | (rw [← fLk_no2 (p := p) (x := x) (a := a) (S := S) (by unfold fOther; grind) (by omega) (by grind)]; exact ih _ (by omega) (x + 1) _ rfl (by omega)) | (rw [← fLk_yes (p := q) (x := x) (a := a) (S := S) (by unfold fOther; grind) (by omega) (by grind)]; exact ih _ (by omega) (x + 1) _ rfl (by omega)) | (rw [← fLk_yes (p := p) (x := x) (a := a) (S := S) (by unfold fOther; grind) (by omega) (by grind)]; exact ih _ (by omega) (x + 1) _ rfl (by omega))
      · skip
        refine wp_aload_n dX11_fallOne_69 rfl ?_
        refine wp_getA (by first | rfl | assumption) dX11_fallOne_70 flRX11_46 (by first | rfl | assumption) ?_
        refine wp_iload_n dX11_fallOne_73 rfl ?_
        refine m_iald dX11_fallOne_74 rfl rfl (by omega) (by decide) (by decide) ?_
        refine wp_goto dX11_fallOne_75 ?_
        refine st_i_4_3 dX11_fallOne_98 (by decide) rfl ?_
        refine wp_iload_n dX11_fallOne_99 rfl ?_
        refine wp_iconst (-1) dX11_fallOne_100 (by decide) ?_
        refine wp_icmp_eq dX11_fallOne_101 (fun h101 => ?_) (fun h101 => ?_)
        · skip
          refine ic_4_2 (nI (x + 1)) dX11_fallOne_120 (nI_inc x) (by decide) rfl ?_
          refine wp_goto dX11_fallOne_123 ?_
          have eo : fOther (fLk S a x) x a = -1 ∨ fOther (fLk S a x) x a = nI q ∨ fOther (fLk S a x) x a = nI p := by unfold fOther; rw [e1, e2]; split <;> (try split) <;> simp
          first | (rw [← fLk_no1 (x := x) (a := a) (S := S) (by unfold fOther; grind)]; exact ih _ (by omega) (x + 1) _ rfl (by omega)) | (rw [← fLk_no2 (p := q) (x := x) (a := a) (S := S) (by unfold fOther; grind) (by omega) (by grind)]; exact ih _ (by omega) (x + 1) _ rfl (by omega)) | (rw [← fLk_no2 (p := p) (x := x) (a := a) (S := S) (by unfold fOther; grind) (by omega) (by grind)]; exact ih _ (by omega) (x + 1) _ rfl (by omega)) | (rw [← fLk_yes (p := q) (x := x) (a := a) (S := S) (by unfold fOther; grind) (by omega) (by grind)]; exact ih _ (by omega) (x + 1) _ rfl (by omega)) | (rw [← fLk_yes (p := p) (x := x) (a := a) (S := S) (by unfold fOther; grind) (by omega) (by grind)]; exact ih _ (by omega) (x + 1) _ rfl (by omega))
        · skip
          first | rw [e2] | rw [e1]
          refine wp_aload_n dX11_fallOne_104 rfl ?_
          refine wp_getA (by first | rfl | assumption) dX11_fallOne_105 flRX11_19 (by first | rfl | assumption) ?_
          refine wp_iload_n dX11_fallOne_108 rfl ?_
          refine m_iald dX11_fallOne_109 rfl rfl (by omega) (by decide) (by decide) ?_
          refine wp_iconst 1 dX11_fallOne_110 (by decide) ?_
          refine wp_icmp_ne dX11_fallOne_111 (fun h111 => ?_) (fun h111 => ?_)
          · skip
            refine ic_4_2 (nI (x + 1)) dX11_fallOne_120 (nI_inc x) (by decide) rfl ?_
            refine wp_goto dX11_fallOne_123 ?_
            have eo : fOther (fLk S a x) x a = -1 ∨ fOther (fLk S a x) x a = nI q ∨ fOther (fLk S a x) x a = nI p := by unfold fOther; rw [e1, e2]; split <;> (try split) <;> simp
            first | (rw [← fLk_no1 (x := x) (a := a) (S := S) (by unfold fOther; grind)]; exact ih _ (by omega) (x + 1) _ rfl (by omega)) | (rw [← fLk_no2 (p := q) (x := x) (a := a) (S := S) (by unfold fOther; grind) (by omega) (by grind)]; exact ih _ (by omega) (x + 1) _ rfl (by omega)) | (rw [← fLk_no2 (p := p) (x := x) (a := a) (S := S) (by unfold fOther; grind) (by omega) (by grind)]; exact ih _ (by omega) (x + 1) _ rfl (by omega)) | (rw [← fLk_yes (p := q) (x := x) (a := a) (S := S) (by unfold fOther; grind) (by omega) (by grind)]; exact ih _ (by omega) (x + 1) _ rfl (by omega)) | (rw [← fLk_yes (p := p) (x := x) (a := a) (S := S) (by unfold fOther; grind) (by omega) (by grind)]; exact ih _ (by omega) (x + 1) _ rfl (by omega))
          · skip
            refine wp_aload_n dX11_fallOne_114 rfl ?_
            refine wp_iload_n dX11_fallOne_115 rfl ?_
            refine wp_iload_n dX11_fallOne_116 rfl ?_
            refine g_callV2 (mj := mX11_hear) dX11_fallOne_117 lkRX11_281 mkX11_hear (by first | rfl | assumption) (by decide) (by decide) (Nat.le_of_ble_eq_true rfl) (c_hear (b := (g1.box (by assumption)).choose) (r := r1) (by omega) (by omega) (g1.box (by assumption)).choose_spec.2 (g1.box (by assumption)).choose_spec.1 g2.1 (by omega) ?_)
            refine ic_4_2 (nI (x + 1)) dX11_fallOne_120 (nI_inc x) (by decide) rfl ?_
            refine wp_goto dX11_fallOne_123 ?_
            have eo : fOther (fLk S a x) x a = -1 ∨ fOther (fLk S a x) x a = nI q ∨ fOther (fLk S a x) x a = nI p := by unfold fOther; rw [e1, e2]; split <;> (try split) <;> simp
            first | (rw [← fLk_no1 (x := x) (a := a) (S := S) (by unfold fOther; grind)]; exact ih _ (by omega) (x + 1) _ rfl (by omega)) | (rw [← fLk_no2 (p := q) (x := x) (a := a) (S := S) (by unfold fOther; grind) (by omega) (by grind)]; exact ih _ (by omega) (x + 1) _ rfl (by omega)) | (rw [← fLk_no2 (p := p) (x := x) (a := a) (S := S) (by unfold fOther; grind) (by omega) (by grind)]; exact ih _ (by omega) (x + 1) _ rfl (by omega)) | (rw [← fLk_yes (p := q) (x := x) (a := a) (S := S) (by unfold fOther; grind) (by omega) (by grind)]; exact ih _ (by omega) (x + 1) _ rfl (by omega)) | (rw [← fLk_yes (p := p) (x := x) (a := a) (S := S) (by unfold fOther; grind) (by omega) (by grind)]; exact ih _ (by omega) (x + 1) _ rfl (by omega))
