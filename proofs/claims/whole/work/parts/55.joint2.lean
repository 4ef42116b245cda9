theorem LI.pic {n T p cr r : Nat} {I I2 S S' : Mem} (h : LI n T p cr r I S) (hR : Rc n 0 I2 57 S) (hf : Fr 57 I I2) (hi : imgR S S') : LI n T p cr r (uI I2 2 8 1) S' := by
  obtain ⟨hH, hT, hE, ⟨b1, b2, b3, b4, b5, b6, b7, b8, b9⟩, -⟩ := h
  have hk := kpt.img hi
  obtain ⟨r1, r2, r3, r4, r5, r6, r7, r8, r9, r10, r11⟩ := hi
  have s126 : ∀ j, j < 52 → S' 126 j = S 126 j := fun j hj => r11 j (by omega) (by omega) (by omega) (by omega) (by omega) (by omega)
  have hI : ∀ b, b ≠ 2 → (b < 57 ∨ 90 ≤ b) → (uI I2 2 8 1) b = I b := fun b h1 h2 => by rw [uI_ne h1]; exact hf b (by omega)
  have h2 : ∀ j, j ≠ 8 → (uI I2 2 8 1) 2 j = I 2 j := fun j hj => by rw [uI_ap, if_neg (by omega), hf 2 (by omega)]
  have ag : agR S S' := agR.of (fun b h3 h4 => r10 b (by omega) (by omega)) (fun j hj => s126 j (by omega))
  refine ⟨(hH.cg (fun b hb => hI b (by omega) (by omega))).agr hE ag, hT, hE.agr ag, ⟨?_, ?_, ?_, ?_, b5, ?_, ⟨?_, b7.2.1, ?_⟩, ?_, ?_⟩, ?_⟩
  · rw [h2 9 (by decide), s126 0 (by omega)]; exact b1
  · rw [s126 0 (by omega)]; exact b2
  · rw [h2 10 (by decide), s126 18 (by omega)]; exact b3
  · rw [s126 18 (by omega)]; exact b4
  · rw [hI 3 (by decide) (by omega), s126 23 (by omega)]; exact b6
  · rw [s126 23 (by omega)]; exact b7.1
  · rw [r10 143 (by decide) (by omega)]; exact b7.2.2
  · rw [hI 4 (by decide) (by omega), r10 143 (by decide) (by omega)]; exact b8
  · exact Or.inr ⟨cr, Nat.le_refl _, by rw [r5]; exact b2⟩
  · refine Or.inr ⟨uI_self _ _ _ _, ⟨by rw [r4]; decide, by rw [r5, s126 0 (by omega)]⟩, T, S, ⟨crew57, hH.2.1, hR.cg hH.2.1.1 (fun b h1 _ => uI_ne (by omega)), hH.2.2.2.1.cg (fun b h1 h2 => hI b (by omega) (by omega)), hH.2.2.2.2⟩, hT, hE, hk⟩
theorem LI.rst {n T T2 p cr r : Nat} {I I2 S S' K : Mem} (h : LI n T p cr r I S) (hK : Hc n T2 0 I 57 K) (hT : T2 ≤ 9999) (hE : WSe n K) (hk : kpt K S) (hR : Rc n 0 I2 24 K) (hf : Fr 24 I I2) (hr : rstR S S') : LI n T2 p cr r I2 S' := by
  have ag := hk.rst hr
  have hH : Hc n T2 0 I2 24 K := ⟨crew24, hK.2.1, hR, hK.2.2.2.1.go hf (by omega) rfl rfl, hK.2.2.2.2⟩
  obtain ⟨r1, r2, r3, r4, r5, r6, r7, r8, r9⟩ := hr
  exact h.go (hH.agr hE ag) hT (hE.agr ag) hf.ll ⟨fun b hb => r8 b (by omega) (by omega), fun j hj => r9 j (by omega) (by omega) (by omega) (by omega)⟩
theorem LI.rnd {n T p cr r : Nat} {I I2 S S2 : Mem} (h : LI n T p cr r I S) (hr6 : r < 6) (hI : ∀ b, b < 90 → I2 b = uI I 2 10 (I 2 10 + 1) b) (he : rndE S S2) (h18 : S2 126 18 = S 126 18 + 1) : LI n T p cr (r + 1) I2 S2 := by
  obtain ⟨hH, hT, hE, ⟨b1, b2, b3, b4, b5, b6, b7, b8, b9⟩, hK⟩ := h
  have ag := he.ag
  obtain ⟨r1, r2, r3, r4, r5⟩ := he
  have hI2 : ∀ b, b ≠ 2 → b < 90 → I2 b = I b := fun b h1 h2 => by rw [hI b h2, uI_ne h1]
  have h2 : ∀ j, j ≠ 10 → I2 2 j = I 2 j := fun j hj => by rw [hI 2 (by omega), uI_ap, if_neg (by omega)]
  refine ⟨(hH.cg (fun b hb => hI2 b (by omega) (by omega))).agr hE ag, hT, hE.agr ag, ⟨?_, ?_, ?_, ?_, by omega, ?_, ⟨?_, b7.2.1, ?_⟩, ?_, ?_⟩, hK.go (h2 8 (by decide)) (fun b hb => hI2 b (by omega) (by omega)) ⟨fun b hb => r4 b (by omega) (by omega), fun j hj => r5 j (by omega) (by omega)⟩⟩
  · rw [h2 9 (by decide), r5 0 (by decide) (by omega)]; exact b1
  · rw [r5 0 (by decide) (by omega)]; exact b2
  · rw [hI 2 (by omega), uI_self, h18, b3]
  · rw [h18, b4, nI_1]
  · rw [hI2 3 (by decide) (by omega), r5 23 (by decide) (by omega)]; exact b6
  · rw [r5 23 (by decide) (by omega)]; exact b7.1
  · rw [r4 143 (by decide) (by omega)]; exact b7.2.2
  · rw [hI2 4 (by decide) (by omega), r4 143 (by decide) (by omega)]; exact b8
  · rw [r5 52 (by decide) (by omega), r5 53 (by decide) (by omega)]; exact b9
theorem LI.drw {n T p cr r : Nat} {I I2 S S2 : Mem} (h : LI n T p cr r I S) (hI : ∀ b, b < 90 → I2 b = I b) (he : rndE S S2) (h18 : S2 126 18 = S 126 18) : LI n T p cr r I2 S2 := by
  have ag := he.ag
  obtain ⟨r1, r2, r3, r4, r5⟩ := he
  refine h.go ((h.1.cg (fun b hb => hI b (by omega))).agr h.2.2.1 ag) h.2.1 (h.2.2.1.agr ag) (fun b hb => hI b (by omega)) ⟨fun b hb => r4 b (by omega) (by omega), fun j hj => ?_⟩
  by_cases e : j = 18
  · rw [e]; exact h18
  · exact r5 j e (by omega)
theorem LI.flt {n T p cr r : Nat} {I I2 S S2 : Mem} (h : LI n T p cr r I S) (hI : FrR I I2) (hk : kpQ S S2) : LI n T p cr r I2 S2 := by
  have ag : agR S S2 := agR.of (fun b h3 h4 => hk.1 b (by omega) (by omega)) (fun j hj => hk.2 j (by omega))
  exact h.go ((h.1.cg (fun b hb => hI b (by omega))).agr h.2.2.1 ag) h.2.1 (h.2.2.1.agr ag) (fun b hb => hI b (by omega)) ⟨fun b hb => hk.1 b (by omega) (by omega), fun j hj => hk.2 j (by omega)⟩
theorem byte_q : ∀ q : Nat, q < 127 → vp_nar .byte (nI q).toInt8.toInt32 = nI q := by decide +kernel
theorem in_rng {x : Int32} (h1 : 32 ≤ x) (h2 : x ≤ 126) : ∃ q, 32 ≤ q ∧ q ≤ 126 ∧ x = nI q := by
  obtain ⟨q, hq, rfl⟩ := in_of (m := 126) (by omega) (Int32.le_trans (by decide) h1) h2
  rw [show (32 : Int32) = nI 32 from rfl, nI_leg (by omega) (by omega)] at h1
  exact ⟨q, h1, hq, rfl⟩
theorem LI.let {n T p cr r : Nat} {I S : Mem} {x : Int32} (h : LI n T p cr r I S) (h1 : 32 ≤ x) (h2 : x ≤ 126) (hp : p < 84) : LI n T (p + 1) cr r (uI (uI I 4 p x) 3 1 (nI p + 1)) (uI (uI S 143 p (vp_nar .byte x.toInt8.toInt32)) 126 23 (nI p + 1)) := by
  obtain ⟨q, q1, q2, rfl⟩ := in_rng h1 h2
  rw [byte_q q (by omega)]
  obtain ⟨hH, hT, hE, ⟨b1, b2, b3, b4, b5, b6, b7, b8, b9⟩, hK⟩ := h
  have hI : ∀ b, b ≠ 3 → b ≠ 4 → (uI (uI I 4 p (nI q)) 3 1 (nI p + 1)) b = I b := fun b h3 h4 => by rw [uI_ne h3, uI_ne h4]
  have hS : ∀ b, b ≠ 126 → b ≠ 143 → (uI (uI S 143 p (nI q)) 126 23 (nI p + 1)) b = S b := fun b h3 h4 => by rw [uI_ne h3, uI_ne h4]
  have hj : ∀ j, j ≠ 23 → (uI (uI S 143 p (nI q)) 126 23 (nI p + 1)) 126 j = S 126 j := fun j h3 => by rw [uI_ap, if_neg (by omega), uI_ne (by decide)]
  have ag : agR S (uI (uI S 143 p (nI q)) 126 23 (nI p + 1)) := agR.of (fun b h3 h4 => hS b (by omega) (by omega)) (fun j h3 => hj j (by omega))
  refine ⟨(hH.cg (fun b hb => hI b (by omega) (by omega))).agr hE ag, hT, hE.agr ag, ⟨?_, ?_, ?_, ?_, b5, ?_, ⟨?_, by omega, fun j hj2 => ?_⟩, fun j hj2 => ?_, ?_⟩, hK.go (by rw [hI 2 (by decide) (by decide)]) (fun b hb => hI b (by omega) (by omega)) ⟨fun b hb => hS b (by omega) (by omega), fun j h3 => hj j (by omega)⟩⟩
  · rw [hI 2 (by decide) (by decide), hj 0 (by decide)]; exact b1
  · rw [hj 0 (by decide)]; exact b2
  · rw [hI 2 (by decide) (by decide), hj 18 (by decide)]; exact b3
  · rw [hj 18 (by decide)]; exact b4
  · rw [uI_self, uI_self]
  · rw [uI_self, nI_1]
  · rw [uI_ne (by decide)]
    by_cases e : j = p
    · subst e; exact ⟨q, q1, q2, uI_self _ _ _ _⟩
    · rw [uI_ap, if_neg (by omega)]; exact b7.2.2 j (by omega)
  · rw [uI_ne (by decide), uI_ne (show (143 : Nat) ≠ 126 by decide)]
    by_cases e : j = p
    · subst e; rw [uI_self, uI_self]
    · rw [uI_ap, if_neg (by omega), uI_ap, if_neg (by omega)]; exact b8 j (by omega)
  · rw [hj 52 (by decide), hj 53 (by decide)]; exact b9
theorem LI.blk {n T p cr r : Nat} {I S : Mem} (h : LI n T p cr r I S) : LI n T 0 cr r (uI I 3 1 0) (uI S 126 23 0) := by
  obtain ⟨hH, hT, hE, ⟨b1, b2, b3, b4, b5, b6, b7, b8, b9⟩, hK⟩ := h
  have hI : ∀ b, b ≠ 3 → (uI I 3 1 0) b = I b := fun b h3 => by rw [uI_ne h3]
  have hS : ∀ b, b ≠ 126 → (uI S 126 23 0) b = S b := fun b h3 => by rw [uI_ne h3]
  have hj : ∀ j, j ≠ 23 → (uI S 126 23 0) 126 j = S 126 j := fun j h3 => by rw [uI_ap, if_neg (by omega)]
  have ag : agR S (uI S 126 23 0) := agR.of (fun b h3 h4 => hS b (by omega)) (fun j h3 => hj j (by omega))
  refine ⟨(hH.cg (fun b hb => hI b (by omega))).agr hE ag, hT, hE.agr ag, ⟨?_, ?_, ?_, ?_, b5, ?_, ⟨?_, by omega, fun j hj2 => by omega⟩, fun j hj2 => by omega, ?_⟩, hK.go (by rw [hI 2 (by decide)]) (fun b hb => hI b (by omega)) ⟨fun b hb => hS b (by omega), fun j h3 => hj j (by omega)⟩⟩
  · rw [hI 2 (by decide), hj 0 (by decide)]; exact b1
  · rw [hj 0 (by decide)]; exact b2
  · rw [hI 2 (by decide), hj 18 (by decide)]; exact b3
  · rw [hj 18 (by decide)]; exact b4
  · rw [uI_self, uI_self]
  · rw [uI_self]; rfl
  · rw [hj 52 (by decide), hj 53 (by decide)]; exact b9
theorem aRun_cg {P P' : Nat → Int32} : ∀ (m k : Nat) (I : Mem), (∀ j, k ≤ j → j < k + m → P j = P' j) → aRun P m k I = aRun P' m k I := by
  intro m
  induction m with
  | zero => intro k I _; rfl
  | succ m ih =>
    intro k I h
    have e0 := h k (by omega) (by omega)
    rcases e : aTk I (P k) with _ | I2
    · rw [aRun_no e, aRun_no (by rw [← e0]; exact e)]
    · rw [aRun_go e, aRun_go (by rw [← e0]; exact e)]; exact ih (k + 1) I2 (fun j h1 h2 => h j (by omega) (by omega))
theorem sto_ms {n : Nat} {I : Mem} {M : Int32} (hn : n ≤ 6) (h : MS n I M) : sto n I ↔ M < nI n := by
  obtain ⟨m1, m2⟩ := h
  constructor
  · intro hs
    rcases m2 with m2 | ⟨i, j, q1, q2, q3, q4⟩
    · rw [m2]
      refine Int32.lt_of_lt_of_le (show (-1 : Int32) < 0 by decide) ?_
      exact nI_pos' (by omega)
    · rw [← q4]; exact hs i q1 j q2 q3
  · intro hM i hi j hj q
    exact Int32.lt_of_le_of_lt (m1 i hi j hj q) hM
theorem LI.crw {n T p cr r : Nat} {I S : Mem} (h : LI n T p cr r I S) (hcr : cr < 100000) {a l : Nat} {R I' S' S2 : Mem} (hd : crD a l I R I') (ha1 : 1 ≤ a) {l2 : Nat} (hR : RM a a l2 R S') (hM : MS a R (S' 126 29)) (hm : S' 126 29 < nI a) (hk : kpQ S S') (hc : crS a l2 S' S2) : LI a 0 0 (cr + 1) r I' S2 := by
  obtain ⟨-, -, -, ⟨b1, b2, b3, b4, b5, b6, b7, b8, b9⟩, -⟩ := h
  obtain ⟨d1, d2, d3, d4, d5, d6, d7, d8, d9, d10, d11, d12, d13, d14, d15, d16, d17, d18, d19⟩ := hd
  obtain ⟨m1, m2, m3, m4, ⟨l1, l3, l4, l5⟩, m6⟩ := hR
  obtain ⟨c1, c2, c3, c4, c5, c6, c7, c8, c9, c10, c11⟩ := hc
  have el : l2 = l := by rw [d3, nI_eqg (by omega) (by omega)] at l3; exact l3.symm
  subst el
  have e126 : ∀ j, (j ≠ 0 ∧ j ≠ 1 ∧ j ≠ 13 ∧ j ≠ 16 ∧ j ≠ 17 ∧ j ≠ 19 ∧ j ≠ 23) → (j < 25 ∨ 29 < j) → S2 126 j = S 126 j := fun j h1 h2 => (c11 j h1).trans (hk.2 j h2)
  have hW : WS a 0 S2 := by
    refine ⟨m1, c1, c5, ⟨l2, l1, c3, fun j hj => ?_⟩, fun i hi => ?_⟩
    · obtain ⟨x, y, q1, q2, q3, q4, q5, q6, q7⟩ := l5 j hj
      exact ⟨x, y, q1, q2, q3, by rw [(c4 j hj).1]; exact q5, by rw [(c4 j hj).2]; exact q7⟩
    · obtain ⟨k, u, k1, k2, k3, k4, k5, k6, k7, k8⟩ := m4 i hi
      rw [if_pos hi] at k3
      obtain ⟨t1, t2, t3, t4, t5, t6, t7, t8, t9, t10⟩ := c2 i hi
      refine ⟨⟨k, k1, t1.trans k5⟩, Or.inr t4, ⟨u, 0, k3, k2, by omega, t2.trans k7, t5, fun j hj => ?_⟩, ⟨0, by omega, t6⟩, ⟨0, by omega, t7, fun j hj => by omega⟩, Or.inl t9, Or.inl t10⟩
      rw [t3 j (by omega)]
      rcases k8 j hj with ⟨q1, q2, q3⟩ | ⟨x, q1, q2, q3, q4⟩ | ⟨y, x, q0, q1, q2, q3, q4, q5⟩ | ⟨q1, q2⟩ | ⟨q1, q2⟩
      · exact Or.inr (Or.inl q3)
      · exact Or.inl ⟨x, q1, q4⟩
      · refine Or.inr (Or.inr (Or.inl ⟨y, x, ?_, q1, q5⟩))
        have t := Int32.lt_of_le_of_lt (hM.1 i hi j (by rw [k6, tn_nI (by omega)]; exact hj) q2) hm
        rw [q3, nI_ltg (by omega) (by omega)] at t
        exact t
      · exact Or.inr (Or.inr (Or.inr (Or.inl q2)))
      · exact Or.inr (Or.inr (Or.inr (Or.inr q2)))
  have hRc : Rc a 0 I' 24 S2 := by
    refine ⟨by rw [d12, c5], by rw [d13, c6]; rfl, fun i hi => ?_, ⟨by rw [c3]; exact d9, fun j hj => ?_⟩, by rw [c8]; exact d11, fun j hj => ?_⟩
    · obtain ⟨k, u, k1, k2, k3, k4, k5, k6, k7, k8⟩ := m4 i hi
      obtain ⟨t1, t2, t3, t4, t5, t6, t7, t8, t9, t10⟩ := c2 i hi
      obtain ⟨s1, s2, s3, s4, s5, s6, s7, s8⟩ := d8 i hi
      refine ⟨by rw [s1, t1, k4, k5], by rw [s2, t4], by rw [s3, t5], by rw [s4, t6], by rw [s5, t8], by rw [s6, t9]; rfl, by rw [s7, t10]; rfl, by rw [s8, t7], fun j hj => ?_⟩
      rw [t7] at hj
      exact absurd hj (by show ¬ j < tn (nI 0); rw [tn_nI (by omega)]; omega)
    · rw [c3, tn_nI (by omega)] at hj
      obtain ⟨x, y, q1, q2, q3, q4, q5, q6, q7⟩ := l5 j hj
      have t := d10 j hj
      exact ⟨t.1.trans (q4.trans (q5.symm.trans (c4 j hj).1.symm)), t.2.trans (q6.trans (q7.symm.trans (c4 j hj).2.symm))⟩
    · rw [c8] at hj
      exact absurd hj (by show ¬ j < tn (nI 0); rw [tn_nI (by omega)]; omega)
  have hRp : Rp a I' S2 := by
    refine ⟨d5, fun i hi => ?_, fun i hi j hj hj2 => ?_⟩
    · obtain ⟨k, u, k1, k2, k3, k4, k5, k6, k7, k8⟩ := m4 i hi
      rw [d6 i (by omega), (c2 i hi).2.1, k6, k7]
    · obtain ⟨k, u, k1, k2, k3, k4, k5, k6, k7, k8⟩ := m4 i hi
      rw [(c2 i hi).2.1, k7, tn_nI (by omega)] at hj2
      obtain ⟨t1, t2, t3⟩ := d7 (3 * i + j) (by omega)
      rw [t1, t2, t3, (c2 i hi).2.2.1 j hj]
      exact k8 j hj2
  refine ⟨⟨crew24, hW, hRc, hRp, by omega⟩, by omega, ⟨0, by omega, c8, fun j hj => by omega⟩, ⟨?_, ?_, ?_, ?_, b5, ?_, ⟨c9, by omega, fun j hj => by omega⟩, fun j hj => by omega, ?_⟩, Or.inl ⟨d15, ?_⟩⟩
  · rw [d16, c7, b1, hk.2 0 (by omega)]
  · rw [c7, hk.2 0 (by omega), b2, nI_1]
  · rw [d17, b3, e126 18 (by decide) (by omega)]
  · rw [e126 18 (by decide) (by omega)]; exact b4
  · rw [d14, c9]
  · rw [e126 52 (by decide) (by omega), e126 53 (by decide) (by omega)]
    rcases b9 with q | ⟨q, q1, q2⟩
    · exact Or.inl q
    · exact Or.inr ⟨q, by omega, q2⟩
  · rw [e126 52 (by decide) (by omega), e126 53 (by decide) (by omega), c7, hk.2 0 (by omega), b2, nI_1]
    rintro ⟨q0, q1⟩
    rcases b9 with q | ⟨q, q2, q3⟩
    · exact q0 q
    · rw [q3, nI_eqg (by omega) (by omega)] at q1; omega
