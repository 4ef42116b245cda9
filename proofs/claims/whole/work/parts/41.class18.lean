theorem WS.be {n T a : Nat} {S : Mem} {c : Nat} (h : WS n T S) (ha : a < n) (hc : c ≤ 4) : WS n T (fBe S a (nI c)) := by
  unfold fBe
  refine ⟨h.1, by simp only [uI_ap]; simp [h.2.1], by simp only [uI_ap]; simp [h.2.2.1], ?_, fun i hi => ?_⟩
  · obtain ⟨l, h1, h2, h3⟩ := h.2.2.2.1
    exact ⟨l, h1, by simp [uI_ap, h2], fun j hj => by rw [uI_ne (by decide), uI_ne (by decide), uI_ne (by decide), uI_ne (by decide), uI_ne (by decide), uI_ne (by decide)]; exact h3 j hj⟩
  · obtain ⟨k1, k2, k3, k4, k5, k6, k7⟩ := h.2.2.2.2 i hi
    refine ⟨?_, by simp [uI_ap, k2], ?_, ?_, ?_, ?_, ?_⟩
    · by_cases e : i = a
      · subst e; exact ⟨c, hc, by simp [uI_ap]⟩
      · obtain ⟨d, h1, h2⟩ := k1; exact ⟨d, h1, by simp [uI_ap, e, h2]⟩
    · simpa [uI_ap] using k3
    · simpa [uI_ap] using k4
    · simpa [uI_ap] using k5
    · by_cases e : i = a
      · subst e; exact Or.inl (by simp [uI_ap])
      · rw [uI_ap, if_neg (by omega), uI_ap, if_neg (by omega), uI_ap, if_neg (by omega)]; exact k6
    · by_cases e : i = a
      · subst e; exact Or.inl (by simp [uI_ap])
      · rw [uI_ap, if_neg (by omega), uI_ap, if_neg (by omega), uI_ap, if_neg (by omega)]; exact k7
theorem Rc.be {n k i : Nat} {dl y : Int32} {I G : Mem} (h : Rc n dl I k G) (hi : i < n) : Rc n dl (uI (uI (uI I (k + 9 + 4 * i) 1 y) (k + 9 + 4 * i) 6 (-1000)) (k + 9 + 4 * i) 7 (-1000)) k (fBe G i y) := by
  unfold fBe
  have hI : ∀ b, b ≠ k + 9 + 4 * i → (uI (uI (uI I (k + 9 + 4 * i) 1 y) (k + 9 + 4 * i) 6 (-1000)) (k + 9 + 4 * i) 7 (-1000)) b = I b := fun b hb => by rw [uI_ne hb, uI_ne hb, uI_ne hb]
  have hG : ∀ b, b ≠ 127 → b ≠ 137 → (uI (uI (uI G 127 i y) 137 (2 * i) (-268435456)) 137 (2 * i + 1) (-268435456)) b = G b := fun b h1 h2 => by rw [uI_ne h2, uI_ne h2, uI_ne h1]
  obtain ⟨q1, q2, q3, q4, q5⟩ := h
  refine ⟨?_, ?_, fun j hj => ?_, ?_, ?_⟩
  · rw [hI k (by omega), hG 126 (by omega) (by omega)]; exact q1
  · rw [hI k (by omega), hG 126 (by omega) (by omega)]; exact q2
  · have t := q3 j hj
    unfold RcA at t ⊢
    rw [hI (k + 9 + 4 * j + 1) (by omega), hI (k + 9 + 4 * j + 2) (by omega), hI (k + 9 + 4 * j + 3) (by omega), hG 130 (by omega) (by omega), hG 131 (by omega) (by omega), hG 132 (by omega) (by omega), hG 133 (by omega) (by omega), hG 134 (by omega) (by omega), hG 135 (by omega) (by omega), hG 136 (by omega) (by omega)]
    by_cases e : j = i
    · subst e
      obtain ⟨a1, a2, a3, a4, a5, a6, a7, a8, a9⟩ := t
      exact ⟨by simp [uI_ap], by simpa [uI_ap] using a2, by simpa [uI_ap] using a3, by simpa [uI_ap] using a4, by simpa [uI_ap] using a5, by simp [uI_ap, rr], by simp [uI_ap, rr], a8, a9⟩
    · rw [hI (k + 9 + 4 * j) (by omega)]
      obtain ⟨a1, a2, a3, a4, a5, a6, a7, a8, a9⟩ := t
      refine ⟨by simp [uI_ap, e]; exact a1, a2, a3, a4, a5, ?_, ?_, a8, a9⟩
      · rw [uI_ap, if_neg (by omega), uI_ap, if_neg (by omega), uI_ap, if_neg (by omega)]; exact a6
      · rw [uI_ap, if_neg (by omega), uI_ap, if_neg (by omega), uI_ap, if_neg (by omega)]; exact a7
  · unfold RcL at q4 ⊢
    rw [hI (k + 2) (by omega), hI (k + 3) (by omega), hI (k + 4) (by omega), hG 126 (by omega) (by omega), hG 138 (by omega) (by omega), hG 139 (by omega) (by omega)]; exact q4
  · unfold RcS at q5 ⊢
    rw [hI (k + 5) (by omega), hI (k + 6) (by omega), hI (k + 7) (by omega), hG 126 (by omega) (by omega), hG 140 (by omega) (by omega), hG 141 (by omega) (by omega), hG 142 (by omega) (by omega)]; exact q5
set_option maxHeartbeats 4000000 in
theorem c_pbe {I S : Mem} {J : Mel} {Q : Option Value → Mem → Mem → Mel → Prop} {n T : Nat} {G : Mem} (hH_q : Hc n T 0 I 24 G) {x y : Int32} (hT9_q : T ≤ 9999) (k : ∀ I' T', T' ≤ 9999 → Hc n T' 0 I' 24 (spBe G x y).2 → Fr 24 I I' → Q (some (.int (spBe G x y).1)) I' S J) : M2 mX10_be 2 [.ref 2, .int x, .int y] I S J Q := by
  obtain ⟨hC_q, hW_q, hR_q, hP_q, hT_q⟩ := id hH_q
  obtain ⟨c1_q, c2_q, c3_q, c4_q, c5_q, c6_q, c7_q, c8_q, c9_q, c10_q, c11_q, c12_q, c13_q, c14_q⟩ := id hC_q
  have hn_q := hW_q.1
  unfold spBe at k
  have hA_q := has_eq (x := x) hW_q.2.1 hn_q hP_q.1
  refine m2_of [.ref 2, .int x, .int y, dum] moX10_be (Nat.le_of_ble_eq_true rfl) rfl ?_
  refine wp_aload_n dX10_be_0 rfl ?_
  refine wp_getA (by first | rfl | assumption) dX10_be_1 flRX10_26 (by first | rfl | assumption) ?_
  refine wp_iload_n dX10_be_4 rfl ?_
  refine g_callV1 (mj := mX6_has) dX10_be_5 lkRX10_92 mkX6_has (by first | rfl | assumption) (by decide) (by decide) (Nat.le_of_ble_eq_true rfl) (c_has plan15 ?_)
  refine wp_if_ne dX10_be_8 (fun h8 => ?_) (fun h8 => ?_)
  · skip
    refine wp_iload_n dX10_be_14 rfl ?_
    refine wp_if_lt dX10_be_15 (fun h15 => ?_) (fun h15 => ?_)
    · skip
      refine wp_bipush (-102) dX10_be_23 (by decide) ?_
      refine g_iret dX10_be_25 rfl ?_
      have hx_q := hA_q.mp (b01_ne h8)
      rw [if_pos hx_q, if_neg (by grind)] at k; exact k _ _ hT9_q hH_q Fr.rf
    · skip
      refine wp_iload_n dX10_be_18 rfl ?_
      refine wp_iconst 5 dX10_be_19 (by decide) ?_
      refine wp_icmp_lt dX10_be_20 (fun h20 => ?_) (fun h20 => ?_)
      · skip
        have hx_q := hA_q.mp (b01_ne h8)
        have hy_q : 0 ≤ y ∧ y ≤ 4 := by grind
        obtain ⟨i, hi_q, rfl⟩ := isA_of hW_q.2.1 hn_q hx_q
        have c5i_q := c5_q i (by omega)
        have cAi_q := c12_q i (by omega)
        obtain ⟨a1i_q, a2i_q, aBi_q, a6i_q⟩ := id cAi_q
        obtain ⟨b1i_q, b2i_q, b3i_q, b4i_q, b5i_q, b6i_q⟩ := id aBi_q
        obtain ⟨r1i_q, r2i_q, r3i_q, r4i_q, r5i_q, r6i_q, r7i_q, r8i_q, r9i_q⟩ := hR_q.2.2.1 i (by omega)
        rw [if_pos hx_q, if_pos hy_q, tn_nI (by omega)] at k
        obtain ⟨c, hc_q, rfl⟩ := in_of (m := 4) (by omega) hy_q.1 hy_q.2
        refine wp_aload_n dX10_be_26 rfl ?_
        refine wp_getA (by first | rfl | assumption) dX10_be_27 flRX10_35 (by first | rfl | assumption) ?_
        refine wp_getA (by first | rfl | assumption) dX10_be_30 flRX10_100 (by first | rfl | assumption) ?_
        refine wp_iload_n dX10_be_33 rfl ?_
        refine wp_aald c5i_q dX10_be_34 c4_q rfl (by omega) (by decide) ?_
        refine c_getI dX10_be_35 flRX10_119 (by first | rfl | assumption) (by omega) ?_
        refine st_i_4_3 dX10_be_38 (by decide) rfl ?_
        refine wp_aload_n dX10_be_39 rfl ?_
        refine wp_getA (by first | rfl | assumption) dX10_be_40 flRX10_35 (by first | rfl | assumption) ?_
        refine wp_getA (by first | rfl | assumption) dX10_be_43 flRX10_100 (by first | rfl | assumption) ?_
        refine wp_iload_n dX10_be_46 rfl ?_
        refine wp_aald c5i_q dX10_be_47 c4_q rfl (by omega) (by decide) ?_
        refine wp_iload_n dX10_be_48 rfl ?_
        refine g_callV1 (mj := mX0_turnInto) dX10_be_49 lkRX10_175 mkX0_turnInto (by first | rfl | assumption) (by decide) (by decide) (Nat.le_of_ble_eq_true rfl) (c_turnInto cAi_q ?_)
        refine wp_iload_n dX10_be_52 rfl ?_
        refine g_iret dX10_be_53 rfl ?_
        rw [r1i_q]
        have f_q : Fr 24 I (uI (uI (uI I (24 + 9 + 4 * i) 1 (nI c)) (24 + 9 + 4 * i) 6 (-1000)) (24 + 9 + 4 * i) 7 (-1000)) := ((Fr.rf.st (by omega)).st (by omega)).st (by omega)
        refine k _ _ hT9_q ⟨hC_q, hW_q.be hi_q hc_q, hR_q.be hi_q, hP_q.go f_q (by omega) ?_ ?_, hT_q⟩ f_q
        all_goals (dsimp only; unfold fBe; rw [uI_ne (by decide), uI_ne (by decide), uI_ne (by decide)])
      · skip
        refine wp_bipush (-102) dX10_be_23 (by decide) ?_
        refine g_iret dX10_be_25 rfl ?_
        have hx_q := hA_q.mp (b01_ne h8)
        rw [if_pos hx_q, if_neg (by grind)] at k; exact k _ _ hT9_q hH_q Fr.rf
  · skip
    refine wp_bipush (-101) dX10_be_11 (by decide) ?_
    refine g_iret dX10_be_13 rfl ?_
    rw [if_neg (fun q => b01_e0 (by first | exact h8 | exact Classical.not_not.mp h8) (hA_q.mpr q))] at k; exact k _ _ hT9_q hH_q Fr.rf
