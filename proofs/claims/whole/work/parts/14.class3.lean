/-! the plan: the steps of both -/
def stR (d t s v : Int32) : Prop := (d = 1 ∧ s = 9 ∧ v = 200) ∨ (∃ x, x ≤ 8 ∧ d = 1 ∧ s = nI x ∧ v = nI (100 + x)) ∨ (∃ y x, y < 6 ∧ x ≤ 7 ∧ d = 2 ∧ t = nI y ∧ s = nI x ∧ v = nI (300 + 10 * y + x)) ∨ (d = 0 ∧ v = 400) ∨ (d = 3 ∧ v = 500)
def Rp (n : Nat) (I G : Mem) : Prop := I 15 6 = nI n ∧ (∀ i, i < n → I 17 i = G 128 i) ∧ ∀ i, i < n → ∀ j, j < 3 → j < tn (G 128 i) → stR (I 18 (3 * i + j)) (I 19 (3 * i + j)) (I 20 (3 * i + j)) (G 129 (3 * i + j))
theorem Rp.go {n k : Nat} {I I' G G' : Mem} (h : Rp n I G) (hf : Fr k I I') (hk : 24 ≤ k) (h1 : G' 128 = G 128) (h2 : G' 129 = G 129) : Rp n I' G' := by
  obtain ⟨p1, p2, p3⟩ := h
  refine ⟨by rw [hf 15 (by omega)]; exact p1, fun i hi => by rw [hf 17 (by omega), h1]; exact p2 i hi, fun i hi j hj hj2 => ?_⟩
  rw [h1] at hj2
  rw [hf 18 (by omega), hf 19 (by omega), hf 20 (by omega), h2]
  exact p3 i hi j hj hj2
/-! what the dynamics leave as it is -/
def kpD (G G' : Mem) : Prop := (∀ b, b ≠ 126 → (b < 130 ∨ (138 ≤ b ∧ b ≠ 149)) → G' b = G b) ∧ ∀ j, j ≠ 16 → j ≠ 17 → (j < 35 ∨ 38 < j) → G' 126 j = G 126 j
theorem kpD.rf {G : Mem} : kpD G G := ⟨fun _ _ _ => rfl, fun _ _ _ _ => rfl⟩
theorem kpD.tr {G G' G2 : Mem} (h : kpD G G') (h2 : kpD G' G2) : kpD G G2 := ⟨fun b h3 h4 => (h2.1 b h3 h4).trans (h.1 b h3 h4), fun j h3 h4 h5 => (h2.2 j h3 h4 h5).trans (h.2 j h3 h4 h5)⟩
theorem kpD.st {G G' : Mem} {a j : Nat} {x : Int32} (h : kpD G G') (ha : (130 ≤ a ∧ a ≤ 137) ∨ a = 149 ∨ (a = 126 ∧ (j = 16 ∨ j = 17 ∨ (35 ≤ j ∧ j ≤ 38)))) : kpD G (uI G' a j x) :=
  ⟨fun b h3 h4 => by rw [uI_ne (by omega)]; exact h.1 b h3 h4, fun q h3 h4 h5 => by rw [uI_ap, if_neg (by omega)]; exact h.2 q h3 h4 h5⟩
theorem kpD.post (G : Mem) (t : Nat) (x y : Int32) : kpD G (fPost G t x y) := by
  unfold fPost
  split
  · exact kpD.rf.st (by omega)
  · exact ((kpD.rf.st (by omega)).st (by omega)).st (by omega)
theorem kpD.take (G : Mem) (a p : Nat) : kpD G (fTake G a p) := by
  unfold fTake
  refine kpD.st ⟨fun b h1 h2 => tkS_n _ _ _ _ (by omega) (by omega), fun j _ _ _ => by rw [tkS_n _ _ _ _ (by decide) (by decide)]⟩ (by omega)
theorem kpD.goOn (G : Mem) (a : Nat) : kpD G (fGoOn G a) := (kpD.rf.st (by omega)).st (by omega)
theorem kpD.waits (G : Mem) (a : Nat) (u : Int32) : kpD G (fWaits G a u) := by
  unfold fWaits
  split
  · split
    · exact ((kpD.rf.st (by omega)).st (by omega)).tr (kpD.goOn _ _)
    · exact kpD.rf.st (by omega)
  · exact ((kpD.take _ _ _).st (by omega)).tr (kpD.goOn _ _)
theorem kpD.begin (G : Mem) (a : Nat) : kpD G (fBegin G a) := (((kpD.rf.st (by omega)).st (by omega)).st (by omega)).st (by omega)
theorem kpD.stand (G : Mem) (x : Int32) : kpD G (fStand G x) := (kpD.rf.st (by omega)).st (by omega)
theorem kpD.hear (G : Mem) (a f : Nat) : kpD G (fHear G a f) := by
  unfold fHear
  split
  · exact kpD.post _ _ _ _
  · split
    · exact ((kpD.rf.st (by omega)).st (by omega)).tr (kpD.begin _ _)
    · exact kpD.stand _ _
theorem kpD.lk (G : Mem) (a k : Nat) : kpD G (fLk G a k) := by
  induction k with
  | zero => exact kpD.rf
  | succ k ih =>
    simp only [fLk]
    split
    · exact ih.tr (kpD.hear _ _ _)
    · exact ih
theorem kpD.one (G : Mem) (a : Nat) : kpD G (fFallOne G a) := by
  unfold fFallOne
  exact (((((kpD.rf.st (by omega)).st (by omega)).st (by omega)).st (by omega)).st (by omega)).tr (kpD.lk (fDown G a) _ _)
theorem kpD.next (G : Mem) : kpD G (fNext G) := by
  unfold fNext
  split
  · exact (kpD.rf.st (by omega)).tr (kpD.one _ _)
  · exact kpD.rf.st (by omega)
theorem kpD.row (m : Nat) : ∀ G : Mem, kpD G (fRow m G) := by
  induction m with
  | zero => exact fun G => kpD.rf
  | succ m ih =>
    intro G
    simp only [fRow]
    split
    · exact (kpD.next G).tr (ih _)
    · exact kpD.rf
theorem kpD.fall (G : Mem) (a : Nat) : kpD G (fFall G a) := ((kpD.rf.st (by omega)).st (by omega)).tr ((kpD.stand _ _).tr (kpD.row _ _))
theorem kpD.doStep (G : Mem) (a : Nat) : kpD G (fDoStep G a) := by
  unfold fDoStep
  split
  · exact (kpD.post _ _ _ _).tr (kpD.goOn _ _)
  · split
    · exact kpD.goOn _ _
    · split
      · exact (kpD.goOn _ _).tr (kpD.fall _ _)
      · exact kpD.waits _ _ _
theorem kpD.tk (G : Mem) (i : Nat) : kpD G (fTk G i) := by
  induction i with
  | zero => exact kpD.rf
  | succ i ih =>
    simp only [fTk]
    split
    · exact ih.tr (kpD.doStep _ _)
    · exact ih
theorem kpD.tick (G : Mem) : kpD G (fTick G) := (kpD.rf.st (by omega)).tr (kpD.tk _ _)
/-- the class's crew at k, its plan, the model's state G -/
def Hc (n T : Nat) (dl : Int32) (I : Mem) (k : Nat) (G : Mem) : Prop := IsCrew k ∧ WS n T G ∧ Rc n dl I k G ∧ Rp n I G ∧ T < 100000
theorem Hc.go {n T T' k : Nat} {dl : Int32} {I I' G G' : Mem} (h : Hc n T dl I k G) (hW : WS n T' G') (hR : Rc n dl I' k G') (hf : Fr k I I') (hk : kpD G G') (hT : T' < 100000) : Hc n T' dl I' k G' :=
  ⟨h.1, hW, hR, h.2.2.2.1.go hf h.1.2.2.2.2.2.2.2.2.2.2.2.2.1 (hk.1 128 (by omega) (by omega)) (hk.1 129 (by omega) (by omega)), hT⟩
set_option maxHeartbeats 4000000 in
theorem c_cgoOn {I S : Mem} {J : Mel} {Q : Option Value → Mem → Mem → Mel → Prop} {n T k : Nat} {dl : Int32} {G : Mem} (hH_q : Hc n T dl I k G) {i : Nat} (hi_q : i < n) (kk_q : ∀ I', Rc n dl I' k (fGoOn G i) → Fr k I I' → Q none I' S J) : M2 mX2_goOn 1 [.ref k, .int (nI i)] I S J Q := by
  obtain ⟨hC_q, hW_q, hR_q, hP_q, hT_q⟩ := id hH_q
  obtain ⟨c1_q, c2_q, c3_q, c4_q, c5_q, c6_q, c7_q, c8_q, c9_q, c10_q, c11_q, c12_q, c13_q, c14_q⟩ := id hC_q
  have hn_q := hW_q.1
  have c5i_q := c5_q i (by omega)
  have cAi_q := c12_q i (by omega)
  obtain ⟨a1i_q, a2i_q, aBi_q, a6i_q⟩ := id cAi_q
  obtain ⟨b1i_q, b2i_q, b3i_q, b4i_q, b5i_q, b6i_q⟩ := id aBi_q
  obtain ⟨r1i_q, r2i_q, r3i_q, r4i_q, r5i_q, r6i_q, r7i_q, r8i_q, r9i_q⟩ := hR_q.2.2.1 i (by omega)
  obtain ⟨-, -, ⟨t, x, w1_q, w2_q, w3_q, w4_q, w5_q, w6_q⟩, -⟩ := hW_q.2.2.2.2 i hi_q
  have pI_q := hP_q.2.1 i hi_q
  refine m2_of [.ref k, .int (nI i), dum] moX2_goOn (Nat.le_of_ble_eq_true rfl) rfl ?_
  refine wp_aload_n dX2_goOn_0 rfl ?_
  refine wp_getA (by first | rfl | assumption) dX2_goOn_1 flRX2_11 (by first | rfl | assumption) ?_
  refine wp_iload_n dX2_goOn_4 rfl ?_
  refine wp_aald (by first | rfl | assumption) dX2_goOn_5 (by first | rfl | assumption) (by first | rfl | assumption) (by first | decide | omega | assumption) (by decide) ?_
  refine st_a_3_2 dX2_goOn_6 (by decide) rfl ?_
  refine wp_aload_n dX2_goOn_7 rfl ?_
  refine wp_aload_n dX2_goOn_8 rfl ?_
  refine c_getI dX2_goOn_9 flRX2_80 (by first | rfl | assumption) (by omega) ?_
  refine wp_iconst 1 dX2_goOn_12 (by decide) ?_
  refine wp_iadd dX2_goOn_13 ?_
  refine wp_aload_n dX2_goOn_14 rfl ?_
  refine wp_getA (by first | rfl | assumption) dX2_goOn_15 flRX2_35 (by first | rfl | assumption) ?_
  refine wp_getA (by first | rfl | assumption) dX2_goOn_18 flRX2_126 (by first | rfl | assumption) ?_
  refine wp_iload_n dX2_goOn_21 rfl ?_
  refine c_iald dX2_goOn_22 (by first | rfl | assumption) (by first | rfl | assumption) (by first | decide | omega | assumption) (by omega) (by decide) ?_
  refine wp_icmp_ge dX2_goOn_23 (fun h23 => ?_) (fun h23 => ?_)
  · skip
    refine wp_iconst 0 dX2_goOn_35 (by decide) ?_
    refine c_putI dX2_goOn_36 flRX2_80 (by first | rfl | assumption) (by omega) ?_
    refine g_vret dX2_goOn_39 rfl ?_
    refine kk_q _ ?_ (Fr.rf.st (by omega))
    unfold fGoOn
    rw [uI_comm (by decide), w4_q, w5_q, mod_at t (by omega) x w3_q]
    rw [pI_q, w4_q, r3i_q, w5_q, nI_1, nI_leg (by omega) (by omega)] at h23
    first | (rw [if_neg (by omega)]; exact (hR_q.gscr hW_q.bx (by omega)).step (hW_q.bx.ne (by decide)) hi_q) | (rw [if_pos (by omega), r3i_q, w5_q, nI_1]; exact (hR_q.gscr hW_q.bx (by omega)).step (hW_q.bx.ne (by decide)) hi_q)
  · skip
    refine wp_aload_n dX2_goOn_26 rfl ?_
    refine c_getI dX2_goOn_27 flRX2_80 (by first | rfl | assumption) (by omega) ?_
    refine wp_iconst 1 dX2_goOn_30 (by decide) ?_
    refine wp_iadd dX2_goOn_31 ?_
    refine wp_goto dX2_goOn_32 ?_
    refine c_putI dX2_goOn_36 flRX2_80 (by first | rfl | assumption) (by omega) ?_
    refine g_vret dX2_goOn_39 rfl ?_
    refine kk_q _ ?_ (Fr.rf.st (by omega))
    unfold fGoOn
    rw [uI_comm (by decide), w4_q, w5_q, mod_at t (by omega) x w3_q]
    rw [pI_q, w4_q, r3i_q, w5_q, nI_1, nI_leg (by omega) (by omega)] at h23
    first | (rw [if_neg (by omega)]; exact (hR_q.gscr hW_q.bx (by omega)).step (hW_q.bx.ne (by decide)) hi_q) | (rw [if_pos (by omega), r3i_q, w5_q, nI_1]; exact (hR_q.gscr hW_q.bx (by omega)).step (hW_q.bx.ne (by decide)) hi_q)
set_option maxHeartbeats 4000000 in
theorem c_cpost {I S : Mem} {J : Mel} {Q : Option Value → Mem → Mem → Mel → Prop} {n T k : Nat} {dl : Int32} {G : Mem} (hH_q : Hc n T dl I k G) {i : Nat} {x y : Int32} (hi_q : i < n) (kk_q : ∀ I', Rc n dl I' k (fPost G i x y) → Fr k I I' → Q none I' S J) : M2 mX2_post 2 [.ref k, .int (nI i), .int x, .int y] I S J Q := by
  obtain ⟨hC_q, hW_q, hR_q, hP_q, hT_q⟩ := id hH_q
  obtain ⟨c1_q, c2_q, c3_q, c4_q, c5_q, c6_q, c7_q, c8_q, c9_q, c10_q, c11_q, c12_q, c13_q, c14_q⟩ := id hC_q
  have hn_q := hW_q.1
  have c5i_q := c5_q i (by omega)
  have cAi_q := c12_q i (by omega)
  obtain ⟨a1i_q, a2i_q, aBi_q, a6i_q⟩ := id cAi_q
  obtain ⟨b1i_q, b2i_q, b3i_q, b4i_q, b5i_q, b6i_q⟩ := id aBi_q
  obtain ⟨r1i_q, r2i_q, r3i_q, r4i_q, r5i_q, r6i_q, r7i_q, r8i_q, r9i_q⟩ := hR_q.2.2.1 i (by omega)
  obtain ⟨z, hz5_q, hz_q⟩ := hW_q.box hi_q
  have hzI_q : I (k + 9 + 4 * i + 1) 2 = nI z := r8i_q.trans hz_q
  have hu_q := (hW_q.2.2.2.2 i hi_q).2.1
  have h5_q : (5 : Int32) = nI 5 := rfl
  refine m2_of [.ref k, .int (nI i), .int x, .int y, dum] moX2_post (Nat.le_of_ble_eq_true rfl) rfl ?_
  refine wp_aload_n dX2_post_0 rfl ?_
  refine wp_getA (by first | rfl | assumption) dX2_post_1 flRX2_11 (by first | rfl | assumption) ?_
  refine wp_iload_n dX2_post_4 rfl ?_
  refine wp_aald (by first | rfl | assumption) dX2_post_5 (by first | rfl | assumption) (by first | rfl | assumption) (by first | decide | omega | assumption) (by decide) ?_
  refine st_a_5_4 dX2_post_6 (by decide) rfl ?_
  refine wp_aload dX2_post_8 rfl ?_
  refine c_getZ dX2_post_10 flRX2_72 (by first | rfl | assumption) (by omega) ?_
  refine wp_if_eq dX2_post_13 (fun h13 => ?_) (fun h13 => ?_)
  · skip
    refine wp_aload_n dX2_post_40 rfl ?_
    refine wp_dup dX2_post_41 rfl ?_
    refine c_getI dX2_post_42 flRX2_63 (by first | rfl | assumption) (by omega) ?_
    refine wp_iconst 1 dX2_post_45 (by decide) ?_
    refine wp_iadd dX2_post_46 ?_
    refine c_putI dX2_post_47 flRX2_63 (by first | rfl | assumption) (by omega) ?_
    refine g_vret dX2_post_50 rfl ?_
    unfold fPost at kk_q
    rw [r2i_q] at h13
    first | (rw [if_pos (Or.inl h13)] at kk_q; exact kk_q _ (hR_q.lost hW_q.bx) (Fr.rf.st (by omega))) | (rcases (show z = 5 ∨ z < 5 by omega) with e5_q | e5_q <;> first | (rw [if_pos (Or.inr (by rw [hz_q, e5_q]; rfl))] at kk_q; exact kk_q _ (hR_q.lost hW_q.bx) (Fr.rf.st (by omega))) | (rw [hzI_q, b01_t (by rw [h5_q, nI_leg (by omega) (by omega)]; omega)] at h24; exact absurd h24 (by decide)) | (rw [hzI_q, b01_f (by rw [h5_q, nI_leg (by omega) (by omega)]; omega)] at h24; exact absurd rfl h24) | (rw [if_neg (by rintro (h | h); exact h13 h; rw [hz_q, h5_q, nI_eqg (by omega) (by omega)] at h; omega), hz_q, tn_nI (by omega)] at kk_q; exact kk_q _ (hR_q.push hW_q.bx hi_q hz_q e5_q) (((Fr.rf.st (by omega)).st (by omega)).st (by omega))))
  · skip
    refine wp_aload dX2_post_16 rfl ?_
    refine wp_getA (by first | rfl | assumption) dX2_post_18 flRX2_114 (by first | rfl | assumption) ?_
    refine g_callV0 (mj := mX1_isFull) dX2_post_21 lkRX2_129 mkX1_isFull (by first | rfl | assumption) (by decide) (by decide) (Nat.le_of_ble_eq_true rfl) (c_isFull aBi_q ?_)
    refine wp_if_ne dX2_post_24 (fun h24 => ?_) (fun h24 => ?_)
    · skip
      refine wp_aload_n dX2_post_40 rfl ?_
      refine wp_dup dX2_post_41 rfl ?_
      refine c_getI dX2_post_42 flRX2_63 (by first | rfl | assumption) (by omega) ?_
      refine wp_iconst 1 dX2_post_45 (by decide) ?_
      refine wp_iadd dX2_post_46 ?_
      refine c_putI dX2_post_47 flRX2_63 (by first | rfl | assumption) (by omega) ?_
      refine g_vret dX2_post_50 rfl ?_
      unfold fPost at kk_q
      rw [r2i_q] at h13
      first | (rw [if_pos (Or.inl h13)] at kk_q; exact kk_q _ (hR_q.lost hW_q.bx) (Fr.rf.st (by omega))) | (rcases (show z = 5 ∨ z < 5 by omega) with e5_q | e5_q <;> first | (rw [if_pos (Or.inr (by rw [hz_q, e5_q]; rfl))] at kk_q; exact kk_q _ (hR_q.lost hW_q.bx) (Fr.rf.st (by omega))) | (rw [hzI_q, b01_t (by rw [h5_q, nI_leg (by omega) (by omega)]; omega)] at h24; exact absurd h24 (by decide)) | (rw [hzI_q, b01_f (by rw [h5_q, nI_leg (by omega) (by omega)]; omega)] at h24; exact absurd rfl h24) | (rw [if_neg (by rintro (h | h); exact h13 h; rw [hz_q, h5_q, nI_eqg (by omega) (by omega)] at h; omega), hz_q, tn_nI (by omega)] at kk_q; exact kk_q _ (hR_q.push hW_q.bx hi_q hz_q e5_q) (((Fr.rf.st (by omega)).st (by omega)).st (by omega))))
    · skip
      refine wp_aload dX2_post_27 rfl ?_
      refine wp_getA (by first | rfl | assumption) dX2_post_29 flRX2_114 (by first | rfl | assumption) ?_
      refine wp_iload_n dX2_post_32 rfl ?_
      refine wp_iload_n dX2_post_33 rfl ?_
      refine g_callV2 (mj := mX1_add) dX2_post_34 lkRX2_133 mkX1_add (by first | rfl | assumption) (by decide) (by decide) (Nat.le_of_ble_eq_true rfl) (c_add aBi_q hzI_q (by rcases Nat.lt_or_ge z 5 with e | e; exact e; rw [hzI_q, b01_t (by rw [h5_q, nI_leg (by omega) (by omega)]; omega)] at h24; exact absurd h24 (by decide)) ?_)
      refine wp_goto dX2_post_37 ?_
      refine g_vret dX2_post_50 rfl ?_
      unfold fPost at kk_q
      rw [r2i_q] at h13
      first | (rw [if_pos (Or.inl h13)] at kk_q; exact kk_q _ (hR_q.lost hW_q.bx) (Fr.rf.st (by omega))) | (rcases (show z = 5 ∨ z < 5 by omega) with e5_q | e5_q <;> first | (rw [if_pos (Or.inr (by rw [hz_q, e5_q]; rfl))] at kk_q; exact kk_q _ (hR_q.lost hW_q.bx) (Fr.rf.st (by omega))) | (rw [hzI_q, b01_t (by rw [h5_q, nI_leg (by omega) (by omega)]; omega)] at h24; exact absurd h24 (by decide)) | (rw [hzI_q, b01_f (by rw [h5_q, nI_leg (by omega) (by omega)]; omega)] at h24; exact absurd rfl h24) | (rw [if_neg (by rintro (h | h); exact h13 h; rw [hz_q, h5_q, nI_eqg (by omega) (by omega)] at h; omega), hz_q, tn_nI (by omega)] at kk_q; exact kk_q _ (hR_q.push hW_q.bx hi_q hz_q e5_q) (((Fr.rf.st (by omega)).st (by omega)).st (by omega))))
