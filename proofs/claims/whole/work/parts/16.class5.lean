theorem Rrw.ne {I G : Mem} {k b j : Nat} {x : Int32} (h : Rrw I k G) (hs : b ≠ 149 ∧ (b ≠ 126 ∨ j ≠ 38)) : Rrw I k (uI G b j x) := by
  obtain ⟨h1, h2⟩ := h
  have e : (uI G b j x) 126 38 = G 126 38 := by rw [uI_ap, if_neg (by omega)]
  refine ⟨by rw [e]; exact h1, fun q hq => ?_⟩
  rw [e] at hq
  rw [uI_ne (by omega)]
  exact h2 q hq
theorem Rrw.inn {I G : Mem} {k b j : Nat} {x : Int32} (h : Rrw I k G) (hs : b ≠ k + 8 ∧ (b ≠ k ∨ j ≠ 5)) : Rrw (uI I b j x) k G := by
  obtain ⟨h1, h2⟩ := h
  refine ⟨by rw [uI_ap, if_neg (by omega)]; exact h1, fun q hq => ?_⟩
  rw [uI_ne (by omega)]
  exact h2 q hq
theorem Hc.down {n T k a : Nat} {dl x y : Int32} {I G : Mem} (h : Hc n T dl I k G) (ha : a < n) (hx : x = I (k + 9 + 4 * a) 5 + 1) (hy : y = I (k + 9 + 4 * a + 1) 2) : Hc n T dl (uI (uI (uI (uI I (k + 9 + 4 * a) 2 0) (k + 9 + 4 * a) 5 x) k 7 ((uI (uI I (k + 9 + 4 * a) 2 0) (k + 9 + 4 * a) 5 x) k 7 + y)) (k + 9 + 4 * a + 1) 2 0) k (fDown G a) := by
  obtain ⟨hC_q, hW_q, hR_q, hP_q, hT_q⟩ := id h
  have hk_q := hC_q.2.2.2.2.2.2.2.2.2.2.2.2
  have hn_q := hW_q.1
  obtain ⟨-, -, -, -, r5_q, -, -, r8_q, -⟩ := hR_q.2.2.1 a ha
  have b0_q := hW_q.bx
  have q1_q := hR_q.up b0_q ha (x := 0)
  have q2_q := q1_q.downs (b0_q.ne (by decide)) ha (x := x)
  have q3_q := q2_q.lost ((b0_q.ne (by decide)).ne (by decide)) (x := y)
  have q4_q := q3_q.size0 (((b0_q.ne (by decide)).ne (by decide)).ne (by decide)) ha
  have bd_q : BX n (uI (uI (uI (uI G 130 a 0) 136 a x) 126 17 ((uI (uI G 130 a 0) 136 a x) 126 17 + y)) 133 a 0) := by
    refine ⟨hn_q, fun j hj => ?_⟩
    by_cases hja : j = a
    · exact ⟨0, by omega, by rw [hja, uI_self]; rfl⟩
    · obtain ⟨b, c1_q, c2_q⟩ := hW_q.box hj
      exact ⟨b, c1_q, by rw [uI_ap, if_neg (by omega), uI_ne (by decide), uI_ne (by decide), uI_ne (by decide)]; exact c2_q⟩
  have q5_q := q4_q.gscr bd_q (b := 126) (j := 36) (x := G 126 36 + 1) (by omega)
  have eG_q : uI (uI (uI (uI (uI G 130 a 0) 136 a x) 126 17 ((uI (uI G 130 a 0) 136 a x) 126 17 + y)) 133 a 0) 126 36 (G 126 36 + 1) = fDown G a := by
    rw [hx, hy, r5_q, r8_q]
    funext b j
    unfold fDown
    simp only [uI_ap]
    grind
  rw [eG_q] at q5_q
  exact h.go (hW_q.down ha) q5_q ((((Fr.rf.st (by omega)).st (by omega)).st (by omega)).st (by omega)) ((((((kpD.rf.st (by omega)).st (by omega)).st (by omega)).st (by omega)).st (by omega))) hT_q
set_option maxHeartbeats 4000000 in
theorem c_down {I S : Mem} {J : Mel} {Q : Option Value → Mem → Mem → Mel → Prop} {n T k : Nat} {dl : Int32} {G : Mem} (hH_q : Hc n T dl I k G) {a r : Nat} (ha_q : a < n) (hu_q : G 130 a = 1) (hr_q : RVr n r G) (hr2_q : r < 110) (hw_q : Rrw I k G) (kk_q : ∀ I', Rc n dl I' k (fFallOne G a) → Fr k I I' → Rrw I' k (fFallOne G a) → Q none I' S J) : M2 mX2_goDown 4 [.ref k, .int (nI a)] I S J Q := by
  obtain ⟨hC_q, hW_q, hR_q, hP_q, hT_q⟩ := id hH_q
  obtain ⟨c1_q, c2_q, c3_q, c4_q, c5_q, c6_q, c7_q, c8_q, c9_q, c10_q, c11_q, c12_q, c13_q, c14_q⟩ := id hC_q
  have hn_q := hW_q.1
  have c5a_q := c5_q a (by omega)
  have cAa_q := c12_q a (by omega)
  obtain ⟨a1a_q, a2a_q, aBa_q, a6a_q⟩ := id cAa_q
  obtain ⟨b1a_q, b2a_q, b3a_q, b4a_q, b5a_q, b6a_q⟩ := id aBa_q
  obtain ⟨r1a_q, r2a_q, r3a_q, r4a_q, r5a_q, r6a_q, r7a_q, r8a_q, r9a_q⟩ := hR_q.2.2.1 a (by omega)
  refine m2_of [.ref k, .int (nI a), dum, dum, dum] moX2_goDown (Nat.le_of_ble_eq_true rfl) rfl ?_
  refine wp_aload_n dX2_goDown_0 rfl ?_
  refine wp_getA (by first | rfl | assumption) dX2_goDown_1 flRX2_11 (by first | rfl | assumption) ?_
  refine wp_iload_n dX2_goDown_4 rfl ?_
  refine wp_aald c5a_q dX2_goDown_5 c4_q rfl (by omega) (by decide) ?_
  refine st_a_5_2 dX2_goDown_6 (by decide) rfl ?_
  refine wp_aload_n dX2_goDown_7 rfl ?_
  refine wp_iconst 0 dX2_goDown_8 (by decide) ?_
  refine c_putZ dX2_goDown_9 flRX2_72 (by first | rfl | assumption) (by first | decide | assumption) (by omega) ?_
  refine wp_aload_n dX2_goDown_12 rfl ?_
  refine wp_dup dX2_goDown_13 rfl ?_
  refine c_getI dX2_goDown_14 flRX2_146 (by first | rfl | assumption) (by omega) ?_
  refine wp_iconst 1 dX2_goDown_17 (by decide) ?_
  refine wp_iadd dX2_goDown_18 ?_
  refine c_putI dX2_goDown_19 flRX2_146 (by first | rfl | assumption) (by omega) ?_
  refine wp_aload_n dX2_goDown_22 rfl ?_
  refine wp_dup dX2_goDown_23 rfl ?_
  refine c_getI dX2_goDown_24 flRX2_63 (by first | rfl | assumption) (by omega) ?_
  refine wp_aload_n dX2_goDown_27 rfl ?_
  refine wp_getA (by first | rfl | assumption) dX2_goDown_28 flRX2_114 (by first | rfl | assumption) ?_
  refine c_getI dX2_goDown_31 flRX2_149 (by first | rfl | assumption) (by omega) ?_
  refine wp_iadd dX2_goDown_34 ?_
  refine c_putI dX2_goDown_35 flRX2_63 (by first | rfl | assumption) (by omega) ?_
  refine wp_aload_n dX2_goDown_38 rfl ?_
  refine wp_getA (by first | rfl | assumption) dX2_goDown_39 flRX2_114 (by first | rfl | assumption) ?_
  refine wp_iconst 0 dX2_goDown_42 (by decide) ?_
  refine c_putI dX2_goDown_43 flRX2_149 (by first | rfl | assumption) (by omega) ?_
  refine wp_iconst 0 dX2_goDown_46 (by decide) ?_
  refine st_i_5_3 dX2_goDown_47 (by decide) rfl ?_
  obtain ⟨l, l1_q, l2_q, -⟩ := hW_q.2.2.2.1
  obtain ⟨d1_q, d2_q, d3_q, d4_q⟩ := down_pot (T := T) ha_q hu_q hr_q
  unfold fFallOne at kk_q
  rw [l2_q, tn_nI (by omega)] at kk_q
  have hD_q := hH_q.down ha_q (x := I (k + 9 + 4 * a) 5 + 1) (y := I (k + 9 + 4 * a + 1) 2) rfl rfl
  have e1_q : uI I (k + 9 + 4 * a) 2 0 (k + 9 + 4 * a) 5 = I (k + 9 + 4 * a) 5 := by rw [uI_ap, if_neg (by omega)]
  rw [e1_q]
  have e2_q : uI (uI I (k + 9 + 4 * a) 2 0) (k + 9 + 4 * a) 5 (I (k + 9 + 4 * a) 5 + 1) (k + 9 + 4 * a + 1) 2 = I (k + 9 + 4 * a + 1) 2 := by rw [uI_ne (by omega), uI_ne (by omega)]
  rw [e2_q]
  exact l_down (hW_q.down ha_q) ha_q (d4_q.trans l2_q) l1_q d1_q hr2_q kk_q 0 _ dum (by omega) hD_q ((((Fr.rf.st (by omega)).st (by omega)).st (by omega)).st (by omega)) (((((((((hw_q.inn (by omega)).inn (by omega)).inn (by omega)).inn (by omega)).ne (by omega)).ne (by omega)).ne (by omega)).ne (by omega)).ne (by omega))
theorem Hc.scr {n T k b j : Nat} {dl x : Int32} {I G : Mem} (h : Hc n T dl I k G) (hs : (b = 126 ∧ 35 ≤ j ∧ j ≤ 38) ∨ b = 149) : Hc n T dl I k (uI G b j x) :=
  ⟨h.1, h.2.1.scr (by unfold scrC; omega), h.2.2.1.gscr h.2.1.bx (by omega), ⟨h.2.2.2.1.1, fun i hi => by rw [uI_ne (by omega)]; exact h.2.2.2.1.2.1 i hi, fun i hi q h1 h2 => by rw [uI_ne (by omega)] at h2 ⊢; exact h.2.2.2.1.2.2 i hi q h1 h2⟩, h.2.2.2.2⟩
set_option maxHeartbeats 4000000 in
theorem l_cfall {I0 S : Mem} {J : Mel} {Q : Option Value → Mem → Mem → Mel → Prop} {n T k : Nat} {dl : Int32} : ∀ (m f r : Nat) (I G : Mem) (u : Int32), (128 ≤ f + m) → (RV n T f r G) → (Hc n T dl I k G) → (Fr k I0 I) → (Rrw I k G) → (∀ I', Rc n dl I' k (fRow m G) → Fr k I0 I' → Q none I' S J) → W2 mX2_fall 5 Q I S J 12 [.ref k, .int u, .int (nI f)] [] := by
  intro m f r I G u
  induction hm : m using Nat.strongRecOn generalizing m f r I G u with
  | _ c ih =>
    intro hm_q hV_q hH_q hF_q hw_q kk_q
    subst hm
    obtain ⟨hC_q, hW_q, hR_q, hP_q, hT_q⟩ := id hH_q
    obtain ⟨c1_q, c2_q, c3_q, c4_q, c5_q, c6_q, c7_q, c8_q, c9_q, c10_q, c11_q, c12_q, c13_q, c14_q⟩ := id hC_q
    have hn_q := hW_q.1
    obtain ⟨v1_q, v2_q, v3_q, v4_q, v5_q⟩ := id hV_q
    have hre_q : I k 5 = nI r := hw_q.1.trans v4_q.1
    refine wp_iload_n dX2_fall_12 rfl ?_
    refine wp_aload_n dX2_fall_13 rfl ?_
    refine c_getI dX2_fall_14 flRX2_137 (by first | rfl | assumption) (by omega) ?_
    refine wp_icmp_ge dX2_fall_17 (fun h17 => ?_) (fun h17 => ?_)
    · skip
      refine g_vret dX2_fall_60 rfl ?_
      have e0_q : fRow m G = G := by
        cases m with
        | zero => rfl
        | succ m => simp only [fRow]; exact if_neg (by rw [v2_q, v4_q.1, nI_ltg (by omega) (by omega)]; rw [hre_q, nI_leg (by omega) (by omega)] at h17; omega)
      rw [e0_q] at kk_q; exact kk_q _ hR_q hF_q
    · skip
      have hfr_q : f < r := by rw [hre_q, nI_leg (by omega) (by omega)] at h17; omega
      refine wp_iload_n dX2_fall_20 rfl ?_
      refine wp_sipush 128 dX2_fall_21 (by decide) ?_
      refine wp_icmp_ge dX2_fall_24 (fun h24 => absurd h24 (by rw [hre_q] at h17; rw [show (128 : Int32) = nI 128 from rfl, nI_leg (by omega) (by omega)]; omega)) (fun h24 => ?_)
      obtain ⟨x, hx_q, ex_q⟩ := v4_q.2 f hfr_q
      have eI_q : I (k + 8) f = nI x := (hw_q.2 f (by rw [v4_q.1, tn_nI (by omega)]; exact hfr_q)).trans ex_q
      have c5x_q := c5_q x (by omega)
      have a1x_q := (c12_q x (by omega)).1
      obtain ⟨u1_q, u2_q⟩ := hH_q.u01 hx_q
      obtain ⟨r2, hV2_q⟩ := hV_q.next hfr_q
      obtain ⟨m, rfl⟩ : ∃ m2, m = m2 + 1 := ⟨m - 1, by omega⟩
      have e0_q : fRow (m + 1) G = fRow m (fNext G) := by simp only [fRow]; exact if_pos (by rw [v2_q, v4_q.1, nI_ltg (by omega) (by omega)]; exact hfr_q)
      rw [e0_q] at kk_q
      have e1_q : fNext G = if (uI G 126 37 (nI (f + 1))) 130 x = 1 then fFallOne (uI G 126 37 (nI (f + 1))) x else uI G 126 37 (nI (f + 1)) := by unfold fNext; rw [v2_q, tn_nI (by omega), ex_q, tn_nI (by omega), nI_1]
      have hHs_q : Hc n T dl I k (uI G 126 37 (nI (f + 1))) := hH_q.scr (by omega)
      have hws_q : Rrw I k (uI G 126 37 (nI (f + 1))) := hw_q.ne (by omega)
      refine wp_aload_n dX2_fall_27 rfl ?_
      refine wp_getA (by first | rfl | assumption) dX2_fall_28 flRX2_11 (by first | rfl | assumption) ?_
      refine wp_aload_n dX2_fall_31 rfl ?_
      refine wp_getA (by first | rfl | assumption) dX2_fall_32 flRX2_31 (by first | rfl | assumption) ?_
      refine wp_iload_n dX2_fall_35 rfl ?_
      refine c_iald dX2_fall_36 c11_q rfl (by omega) (by omega) (by decide) ?_
      rw [eI_q]
      refine wp_aald c5x_q dX2_fall_37 c4_q rfl (by omega) (by decide) ?_
      refine c_getZ dX2_fall_38 flRX2_72 (by first | rfl | assumption) (by omega) ?_
      refine wp_if_eq dX2_fall_41 (fun h41 => ?_) (fun h41 => ?_)
      · skip
        refine ic_3_2 (nI (f + 1)) dX2_fall_54 (nI_inc f) (by decide) rfl ?_
        refine wp_goto dX2_fall_57 ?_
        first | (rw [if_neg (by rw [uI_ne (by decide), ← u1_q, h41]; decide)] at e1_q; rw [e1_q] at hV2_q kk_q; exact ih m (by omega) m (f + 1) r2 I _ u rfl (by omega) hV2_q hHs_q hF_q hws_q kk_q) | (rw [if_pos (by rw [uI_ne (by decide)]; exact u2_q.resolve_left (by rw [← u1_q]; exact h41))] at e1_q; rw [e1_q] at hV2_q kk_q; exact ih m (by omega) m (f + 1) r2 I2 _ u rfl (by omega) hV2_q (hHs_q.go hV2_q.1 m1_q m2_q (kpD.one _ _) hT_q) (hF_q.tr m2_q) m3_q kk_q)
      · skip
        refine wp_aload_n dX2_fall_44 rfl ?_
        refine wp_aload_n dX2_fall_45 rfl ?_
        refine wp_getA (by first | rfl | assumption) dX2_fall_46 flRX2_31 (by first | rfl | assumption) ?_
        refine wp_iload_n dX2_fall_49 rfl ?_
        refine c_iald dX2_fall_50 c11_q rfl (by omega) (by omega) (by decide) ?_
        rw [eI_q]
        refine g_callV1 (mj := mX2_goDown) dX2_fall_51 lkRX2_143 mkX2_goDown (by first | rfl | assumption) (by decide) (by decide) (Nat.le_of_ble_eq_true rfl) (c_down hHs_q hx_q (r := r) (by rw [uI_ne (by decide)]; exact u2_q.resolve_left (by rw [← u1_q]; exact h41)) ⟨by rw [uI_ap, if_neg (by omega)]; exact v4_q.1, fun j hj => by rw [uI_ne (by decide)]; exact v4_q.2 j hj⟩ (by omega) hws_q (fun I2 m1_q m2_q m3_q => ?_))
        refine ic_3_2 (nI (f + 1)) dX2_fall_54 (nI_inc f) (by decide) rfl ?_
        refine wp_goto dX2_fall_57 ?_
        first | (rw [if_neg (by rw [uI_ne (by decide), ← u1_q, h41]; decide)] at e1_q; rw [e1_q] at hV2_q kk_q; exact ih m (by omega) m (f + 1) r2 I _ u rfl (by omega) hV2_q hHs_q hF_q hws_q kk_q) | (rw [if_pos (by rw [uI_ne (by decide)]; exact u2_q.resolve_left (by rw [← u1_q]; exact h41))] at e1_q; rw [e1_q] at hV2_q kk_q; exact ih m (by omega) m (f + 1) r2 I2 _ u rfl (by omega) hV2_q (hHs_q.go hV2_q.1 m1_q m2_q (kpD.one _ _) hT_q) (hF_q.tr m2_q) m3_q kk_q)
set_option maxHeartbeats 4000000 in
theorem c_cfall {I S : Mem} {J : Mel} {Q : Option Value → Mem → Mem → Mel → Prop} {n T k : Nat} {dl : Int32} {G : Mem} (hH_q : Hc n T dl I k G) {a : Nat} (ha_q : a < n) (kk_q : ∀ I', Rc n dl I' k (fFall G a) → Fr k I I' → Q none I' S J) : M2 mX2_fall 5 [.ref k, .int (nI a)] I S J Q := by
  obtain ⟨hC_q, hW_q, hR_q, hP_q, hT_q⟩ := id hH_q
  obtain ⟨c1_q, c2_q, c3_q, c4_q, c5_q, c6_q, c7_q, c8_q, c9_q, c10_q, c11_q, c12_q, c13_q, c14_q⟩ := id hC_q
  have hn_q := hW_q.1
  refine m2_of [.ref k, .int (nI a), dum] moX2_fall (Nat.le_of_ble_eq_true rfl) rfl ?_
  refine wp_aload_n dX2_fall_0 rfl ?_
  refine wp_iconst 0 dX2_fall_1 (by decide) ?_
  refine c_putI dX2_fall_2 flRX2_137 (by first | rfl | assumption) (by omega) ?_
  refine wp_aload_n dX2_fall_5 rfl ?_
  refine wp_iload_n dX2_fall_6 rfl ?_
  refine g_callV1 (mj := mX2_joinRow) dX2_fall_7 lkRX2_140 mkX2_joinRow (by first | rfl | assumption) (by decide) (by decide) (Nat.le_of_ble_eq_true rfl) (c_join hC_q (r := 0) (by rw [uI_self]; rfl) (by omega) ?_)
  refine wp_iconst 0 dX2_fall_10 (by decide) ?_
  refine st_i_3_2 dX2_fall_11 (by decide) rfl ?_
  have hH2_q : Hc n T dl (uI (uI (uI I k 5 0) (k + 8) 0 (nI a)) k 5 (nI (0 + 1))) k (fStand (uI (uI G 126 37 0) 126 38 0) (nI a)) := hH_q.go (((hW_q.lost (by decide)).lost (by decide)).stand) ((((((hR_q.iscr hW_q.bx (by omega)).iscr hW_q.bx (by omega)).iscr hW_q.bx (by omega)).gscr hW_q.bx (by omega)).gscr (hW_q.bx.ne (by decide)) (by omega)).gscr ((hW_q.bx.ne (by decide)).ne (by decide)) (by omega) |>.gscr (((hW_q.bx.ne (by decide)).ne (by decide)).ne (by decide)) (by omega)) (((Fr.rf.st (by omega)).st (by omega)).st (by omega)) (((kpD.rf.st (by omega)).st (by omega)).tr (kpD.stand _ _)) hT_q
  refine l_cfall 128 0 1 _ _ (nI a) (by omega) (RV.start hW_q ha_q) hH2_q (((Fr.rf.st (by omega)).st (by omega)).st (by omega)) ⟨?_, fun j hj_q => ?_⟩ kk_q
  · unfold fStand; rw [uI_self, uI_self, uI_self]; rfl
  · unfold fStand at hj_q ⊢
    rw [uI_self, uI_self, show (0 : Int32) + 1 = nI 1 from rfl, tn_nI (by omega)] at hj_q
    have hj0_q : j = 0 := by omega
    subst hj0_q
    rw [uI_ne (by omega), uI_self, uI_ne (by decide), uI_self]
    exact (uI_self _ _ _ _).symm
