/-! the dynamics see nothing but these cells -/
def vis (b j : Nat) : Prop := (127 ≤ b ∧ b ≤ 139) ∨ b = 149 ∨ (b = 126 ∧ (j = 1 ∨ j = 13 ∨ j = 16 ∨ j = 17 ∨ (35 ≤ j ∧ j ≤ 38)))
def eqD (G G' : Mem) : Prop := ∀ b j, vis b j → G' b j = G b j
theorem eqD.rf {G : Mem} : eqD G G := fun _ _ _ => rfl
theorem eqD.sy {G G' : Mem} (h : eqD G G') : eqD G' G := fun b j hv => (h b j hv).symm
theorem eqD.tr {G G' G2 : Mem} (h : eqD G G') (h2 : eqD G' G2) : eqD G G2 := fun b j hv => (h2 b j hv).trans (h b j hv)
theorem eqD.u {G G' : Mem} {a i : Nat} {x y : Int32} (h : eqD G G') (e : y = x) : eqD (uI G a i x) (uI G' a i y) := by
  intro b j hv
  rw [uI_ap, uI_ap, e]
  split
  · rfl
  · exact h b j hv
theorem eqD.r {G G' : Mem} (h : eqD G G') {b : Nat} (hb : (127 ≤ b ∧ b ≤ 139) ∨ b = 149) : G' b = G b := by
  funext j
  exact h b j (by unfold vis; omega)
theorem eqD.s {G G' : Mem} (h : eqD G G') {j : Nat} (hj : j = 1 ∨ j = 13 ∨ j = 16 ∨ j = 17 ∨ (35 ≤ j ∧ j ≤ 38)) : G' 126 j = G 126 j := h 126 j (by unfold vis; omega)
theorem eqD.post {G G' : Mem} (h : eqD G G') (t : Nat) (x y : Int32) : eqD (fPost G t x y) (fPost G' t x y) := by
  unfold fPost
  rw [h.r (b := 130) (by omega), h.r (b := 133) (by omega), h.s (j := 17) (by omega)]
  split
  · exact h.u rfl
  · exact ((h.u rfl).u rfl).u rfl
theorem eqD.tk {G G' : Mem} (h : eqD G G') (a p x : Nat) : eqD (tkS G a p x) (tkS G' a p x) := by
  intro b j hv
  unfold tkS
  split
  next hc => exact h b (j + 1) (by unfold vis at hv ⊢; omega)
  · exact h b j hv
theorem eqD.take {G G' : Mem} (h : eqD G G') (a p : Nat) : eqD (fTake G a p) (fTake G' a p) := by
  unfold fTake
  rw [h.r (b := 133) (by omega)]
  exact (h.tk _ _ _).u rfl
theorem wl_eq {G G' : Mem} (h : eqD G G') (a : Nat) (u : Int32) (k : Nat) : wl G' a u k = wl G a u k := by
  induction k with
  | zero => rfl
  | succ k ih =>
    simp only [wl]
    rw [ih, h.r (b := 134) (by omega), h.r (b := 127) (by omega)]
theorem fWant_eq {G G' : Mem} (h : eqD G G') (a : Nat) (u : Int32) : fWant G' a u = fWant G a u := by
  unfold fWant
  rw [h.r (b := 127) (by omega), h.r (b := 133) (by omega), wl_eq h]
theorem eqD.goOn {G G' : Mem} (h : eqD G G') (a : Nat) : eqD (fGoOn G a) (fGoOn G' a) := by
  unfold fGoOn
  rw [h.r (b := 131) (by omega), h.r (b := 128) (by omega), h.s (j := 35) (by omega)]
  exact (h.u rfl).u rfl
theorem eqD.waits {G G' : Mem} (h : eqD G G') (a : Nat) (u : Int32) : eqD (fWaits G a u) (fWaits G' a u) := by
  unfold fWaits
  rw [fWant_eq h, h.r (b := 132) (by omega)]
  split
  · split
    · exact ((h.u rfl).u rfl).goOn a
    · exact h.u rfl
  · exact ((h.take a _).u rfl).goOn a
theorem eqD.begin {G G' : Mem} (h : eqD G G') (a : Nat) : eqD (fBegin G a) (fBegin G' a) := (((h.u rfl).u rfl).u rfl).u rfl
theorem eqD.stand {G G' : Mem} (h : eqD G G') (x : Int32) : eqD (fStand G x) (fStand G' x) := by
  unfold fStand
  rw [h.s (j := 38) (by omega)]
  exact (h.u rfl).u rfl
theorem fRs_eq {G G' : Mem} (h : eqD G G') (a : Nat) : fRs G' a = fRs G a := by
  unfold fRs
  rw [h.s (j := 16) (by omega), h.r (b := 137) (by omega)]
theorem eqD.hear {G G' : Mem} (h : eqD G G') (a f : Nat) : eqD (fHear G a f) (fHear G' a f) := by
  unfold fHear
  rw [h.r (b := 127) (by omega), fRs_eq h, h.r (b := 137) (by omega), h.s (j := 16) (by omega)]
  split
  · exact h.post _ _ _
  · split
    · exact ((h.u rfl).u rfl).begin f
    · exact h.stand _
theorem fOther_eq {G G' : Mem} (h : eqD G G') (k a : Nat) : fOther G' k a = fOther G k a := by
  unfold fOther
  rw [h.r (b := 138) (by omega), h.r (b := 139) (by omega)]
theorem eqD.lk {G G' : Mem} (h : eqD G G') (a k : Nat) : eqD (fLk G a k) (fLk G' a k) := by
  induction k with
  | zero => exact h
  | succ k ih =>
    simp only [fLk]
    rw [fOther_eq ih, ih.r (b := 130) (by omega)]
    split
    · exact ih.hear _ _
    · exact ih
theorem eqD.down {G G' : Mem} (h : eqD G G') (a : Nat) : eqD (fDown G a) (fDown G' a) := by
  unfold fDown
  rw [h.s (j := 17) (by omega), h.r (b := 133) (by omega), h.r (b := 136) (by omega), h.s (j := 36) (by omega)]
  exact ((((h.u rfl).u rfl).u rfl).u rfl).u rfl
theorem eqD.one {G G' : Mem} (h : eqD G G') (a : Nat) : eqD (fFallOne G a) (fFallOne G' a) := by
  unfold fFallOne
  rw [h.s (j := 13) (by omega)]
  exact (h.down a).lk _ _
theorem eqD.next {G G' : Mem} (h : eqD G G') : eqD (fNext G) (fNext G') := by
  unfold fNext
  rw [h.s (j := 37) (by omega), h.r (b := 149) (by omega), uI_ne (show (130 : Nat) ≠ 126 by decide), uI_ne (show (130 : Nat) ≠ 126 by decide), h.r (b := 130) (by omega)]
  split
  · exact (h.u rfl).one _
  · exact h.u rfl
theorem eqD.row (m : Nat) : ∀ {G G' : Mem}, eqD G G' → eqD (fRow m G) (fRow m G') := by
  induction m with
  | zero => exact fun h => h
  | succ m ih =>
    intro G G' h
    simp only [fRow]
    rw [h.s (j := 37) (by omega), h.s (j := 38) (by omega)]
    split
    · exact ih h.next
    · exact h
theorem eqD.fall {G G' : Mem} (h : eqD G G') (a : Nat) : eqD (fFall G a) (fFall G' a) := eqD.row 128 (((h.u rfl).u rfl).stand _)
theorem eqD.doStep {G G' : Mem} (h : eqD G G') (a : Nat) : eqD (fDoStep G a) (fDoStep G' a) := by
  unfold fDoStep
  rw [h.r (b := 129) (by omega), h.r (b := 131) (by omega)]
  split
  · exact (h.post _ _ _).goOn a
  · split
    · exact h.goOn a
    · split
      · exact (h.goOn a).fall a
      · exact h.waits a _
theorem eqD.tkn {G G' : Mem} (h : eqD G G') (i : Nat) : eqD (fTk G i) (fTk G' i) := by
  induction i with
  | zero => exact h
  | succ i ih =>
    simp only [fTk]
    rw [ih.r (b := 130) (by omega)]
    split
    · exact ih.doStep i
    · exact ih
theorem eqD.tick {G G' : Mem} (h : eqD G G') : eqD (fTick G) (fTick G') := by
  unfold fTick
  rw [h.s (j := 16) (by omega), h.s (j := 1) (by omega)]
  exact (h.u rfl).tkn _
theorem eqD.tks {G G' : Mem} (h : eqD G G') (m : Nat) : eqD (tks m G) (tks m G') := by
  induction m with
  | zero => exact h
  | succ m ih => exact ih.tick
theorem kpD.tks (G : Mem) (m : Nat) : kpD G (tks m G) := by
  induction m with
  | zero => exact kpD.rf
  | succ m ih => exact ih.tr (kpD.tick _)
/-! what is written of a turn -/
def agW (S : Mem) (q : Nat) : Int32 := if S 126 16 - S 137 q ≤ 4 then S 126 16 - S 137 q else -1
def stv (S : Mem) (a q : Nat) : Int32 := if q = 0 then S 130 a else if q = 1 then S 131 a else if q = 2 then S 132 a else if q = 3 then S 133 a else if q = 14 then agW S (2 * a) else if q = 15 then agW S (2 * a + 1) else if q % 2 = 0 then (if (q - 4) / 2 < tn (S 133 a) then S 134 (5 * a + (q - 4) / 2) else -1) else (if (q - 5) / 2 < tn (S 133 a) then S 135 (5 * a + (q - 5) / 2) else -1)
theorem stv_s (S : Mem) (a : Nat) {e : Nat} (he : e < 5) : stv S a (4 + 2 * e) = if e < tn (S 133 a) then S 134 (5 * a + e) else -1 := by
  unfold stv
  rw [if_neg (by omega), if_neg (by omega), if_neg (by omega), if_neg (by omega), if_neg (by omega), if_neg (by omega), if_pos (by omega), show (4 + 2 * e - 4) / 2 = e by omega]
theorem stv_f (S : Mem) (a : Nat) {e : Nat} (he : e < 5) : stv S a (5 + 2 * e) = if e < tn (S 133 a) then S 135 (5 * a + e) else -1 := by
  unfold stv
  rw [if_neg (by omega), if_neg (by omega), if_neg (by omega), if_neg (by omega), if_neg (by omega), if_neg (by omega), if_neg (by omega), show (5 + 2 * e - 5) / 2 = e by omega]
theorem stv_eq {G G' : Mem} (h : eqD G G') (a q : Nat) : stv G' a q = stv G a q := by
  unfold stv agW
  rw [h.r (b := 130) (by omega), h.r (b := 131) (by omega), h.r (b := 132) (by omega), h.r (b := 133) (by omega), h.r (b := 134) (by omega), h.r (b := 135) (by omega), h.r (b := 137) (by omega), h.s (j := 16) (by omega)]
/-- of turn t the rows of x actors stand, and q of the next one's -/
def wrI (S S' : Mem) (t x q : Nat) : Prop := (∀ b, b ≠ 158 → S' b = S b) ∧ (∀ a, a < x → ∀ i, i < 16 → S' 158 (16 * (6 * t + a) + i) = stv S a i) ∧ (∀ i, i < q → S' 158 (16 * (6 * t + x) + i) = stv S x i) ∧ ∀ j, j < 96 * t → S' 158 j = S 158 j
theorem wr_step {S S' : Mem} {t x q : Nat} {v : Int32} (h : wrI S S' t x q) (hv : v = stv S x q) (hq : q < 16) : wrI S (uI S' 158 (16 * (6 * t + x) + q) v) t x (q + 1) := by
  obtain ⟨h1, h2, h3, h4⟩ := h
  refine ⟨fun b hb => by rw [uI_ne hb]; exact h1 b hb, fun a ha i hi => by rw [uI_ap, if_neg (by omega)]; exact h2 a ha i hi, fun i hi => ?_, fun j hj => by rw [uI_ap, if_neg (by omega)]; exact h4 j hj⟩
  rw [uI_ap]
  by_cases hiq : i = q
  · rw [if_pos (by omega), hv, hiq]
  · rw [if_neg (by omega)]; exact h3 i (by omega)
theorem wr_row {S S' : Mem} {t x : Nat} (h : wrI S S' t x 16) : wrI S S' t (x + 1) 0 := by
  obtain ⟨h1, h2, h3, h4⟩ := h
  refine ⟨h1, fun a ha i hi => ?_, fun i hi => by omega, h4⟩
  by_cases hax : a = x
  · rw [hax]; exact h3 i hi
  · exact h2 a (by omega) i hi
theorem wr_iast {mi : MI} {R : Room} {sc : Option (Nat × (Nat → Int32))} {Fn : FinT} {cs ss : Nat} {I S S0 : Mem} {J : Mel} {pc q t x e : Nat} {Ls st : List Value} {y v : Int32} (d : Dc mi.2.1 pc .iastore 1 q) (hy : y = nI (16 * (6 * t + x) + e)) (hb : t ≤ 60 ∧ x < 6 ∧ e < 16) (hw : wrI S0 S t x e) (hv : v = stv S0 x e) (k : ∀ S', wrI S0 S' t x (e + 1) → Wp mi R sc Fn cs ss gA (mg I S') J q Ls st) : Wp mi R sc Fn cs ss gA (mg I S) J pc Ls (.int v :: .int y :: .ref 158 :: st) :=
  m_iast (n := 5856) d rfl hy (by omega) (by decide) (by decide) (k _ (wr_step hw hv hb.2.2))
