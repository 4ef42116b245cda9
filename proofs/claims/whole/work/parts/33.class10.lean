/-- an actor's copy -/
def cpA (I I' : Mem) (d s z : Nat) : Prop := (∀ b, (b < d ∨ d + 4 ≤ b) → I' b = I b) ∧ (∀ j, 1 ≤ j → j ≤ 7 → I' d j = I s j) ∧ I' (d + 1) 2 = nI z ∧ ∀ j, j < z → I' (d + 2) j = I (s + 2) j ∧ I' (d + 3) j = I (s + 3) j
set_option maxHeartbeats 4000000 in
theorem c_acopy {I S : Mem} {J : Mel} {Q : Option Value → Mem → Mem → Mel → Prop} {d s z : Nat} (hA_q : IsActor d) (hM_q : IsActor s) (hds_q : s + 4 ≤ d ∨ d + 4 ≤ s) (hz_q : I (s + 1) 2 = nI z) (hz5_q : z ≤ 5) (hu_q : I s 2 = 0 ∨ I s 2 = 1) (k : ∀ I2, cpA I I2 d s z → Q none I2 S J) : M2 mX0_copyFrom 2 [.ref d, .ref s] I S J Q := by
  obtain ⟨d1_q, d2_q, dB_q, d6_q⟩ := id hA_q
  obtain ⟨db1_q, db2_q, db3_q, db4_q, db5_q, db6_q⟩ := id dB_q
  obtain ⟨s1_q, s2_q, sB_q, s6_q⟩ := id hM_q
  obtain ⟨sb1_q, sb2_q, sb3_q, sb4_q, sb5_q, sb6_q⟩ := id sB_q
  refine m2_of [.ref d, .ref s] moX0_copyFrom (Nat.le_of_ble_eq_true rfl) rfl ?_
  refine wp_aload_n dX0_copyFrom_0 rfl ?_
  refine wp_getA (by first | rfl | assumption) dX0_copyFrom_1 flRX0_12 (by first | rfl | assumption) ?_
  refine wp_aload_n dX0_copyFrom_4 rfl ?_
  refine wp_getA (by first | rfl | assumption) dX0_copyFrom_5 flRX0_12 (by first | rfl | assumption) ?_
  refine g_callV1 (mj := mX1_copyFrom) dX0_copyFrom_8 lkRX0_74 mkX1_copyFrom (by first | rfl | assumption) (by decide) (by decide) (Nat.le_of_ble_eq_true rfl) (c_bcopy dB_q sB_q (by omega) hz_q hz5_q (fun I2 hc_q => ?_))
  have es_q : I2 s = I s := hc_q.1 s (by omega) (by omega) (by omega)
  refine wp_aload_n dX0_copyFrom_11 rfl ?_
  refine wp_aload_n dX0_copyFrom_12 rfl ?_
  refine c_getI dX0_copyFrom_13 flRX0_29 (by first | rfl | assumption) (by omega) ?_
  refine c_putI dX0_copyFrom_16 flRX0_29 (by first | rfl | assumption) (by omega) ?_
  refine wp_aload_n dX0_copyFrom_19 rfl ?_
  refine wp_aload_n dX0_copyFrom_20 rfl ?_
  refine c_getZ dX0_copyFrom_21 flRX0_38 (by first | rfl | assumption) (by omega) ?_
  refine c_putZ dX0_copyFrom_24 flRX0_38 (by first | rfl | assumption) (by rw [uI_ne (by omega), es_q]; exact hu_q) (by omega) ?_
  refine wp_aload_n dX0_copyFrom_27 rfl ?_
  refine wp_aload_n dX0_copyFrom_28 rfl ?_
  refine c_getI dX0_copyFrom_29 flRX0_42 (by first | rfl | assumption) (by omega) ?_
  refine c_putI dX0_copyFrom_32 flRX0_42 (by first | rfl | assumption) (by omega) ?_
  refine wp_aload_n dX0_copyFrom_35 rfl ?_
  refine wp_aload_n dX0_copyFrom_36 rfl ?_
  refine c_getI dX0_copyFrom_37 flRX0_45 (by first | rfl | assumption) (by omega) ?_
  refine c_putI dX0_copyFrom_40 flRX0_45 (by first | rfl | assumption) (by omega) ?_
  refine wp_aload_n dX0_copyFrom_43 rfl ?_
  refine wp_aload_n dX0_copyFrom_44 rfl ?_
  refine c_getI dX0_copyFrom_45 flRX0_22 (by first | rfl | assumption) (by omega) ?_
  refine c_putI dX0_copyFrom_48 flRX0_22 (by first | rfl | assumption) (by omega) ?_
  refine wp_aload_n dX0_copyFrom_51 rfl ?_
  refine wp_aload_n dX0_copyFrom_52 rfl ?_
  refine c_getI dX0_copyFrom_53 flRX0_32 (by first | rfl | assumption) (by omega) ?_
  refine c_putI dX0_copyFrom_56 flRX0_32 (by first | rfl | assumption) (by omega) ?_
  refine wp_aload_n dX0_copyFrom_59 rfl ?_
  refine wp_aload_n dX0_copyFrom_60 rfl ?_
  refine c_getI dX0_copyFrom_61 flRX0_35 (by first | rfl | assumption) (by omega) ?_
  refine c_putI dX0_copyFrom_64 flRX0_35 (by first | rfl | assumption) (by omega) ?_
  refine g_vret dX0_copyFrom_67 rfl ?_
  refine k _ ⟨fun b hb_q => ?_, fun j h1_q h2_q => ?_, ?_, fun j hj_q => ?_⟩
  · rw [uI_ne (by omega), uI_ne (by omega), uI_ne (by omega), uI_ne (by omega), uI_ne (by omega), uI_ne (by omega), uI_ne (by omega)]; exact hc_q.1 b (by omega) (by omega) (by omega)
  · have hsd_q : s ≠ d := by omega
    rcases (show j = 1 ∨ j = 2 ∨ j = 3 ∨ j = 4 ∨ j = 5 ∨ j = 6 ∨ j = 7 by omega) with rfl | rfl | rfl | rfl | rfl | rfl | rfl <;> simp [uI_ap, hsd_q, es_q]
  · rw [uI_ne (by omega), uI_ne (by omega), uI_ne (by omega), uI_ne (by omega), uI_ne (by omega), uI_ne (by omega), uI_ne (by omega), hc_q.2.1, uI_self]
  · rw [uI_ne (by omega), uI_ne (by omega), uI_ne (by omega), uI_ne (by omega), uI_ne (by omega), uI_ne (by omega), uI_ne (by omega), uI_ne (by omega), uI_ne (by omega), uI_ne (by omega), uI_ne (by omega), uI_ne (by omega), uI_ne (by omega), uI_ne (by omega)]; exact hc_q.2.2 j hj_q
theorem cpA.rc {I I' G : Mem} {d s z i : Nat} (h : cpA I I' d s z) (hz : G 133 i = nI z) (hz5 : z ≤ 5) (hR : RcA I s G i) : RcA I' d G i := by
  obtain ⟨h1, h2, h3, h4⟩ := h
  obtain ⟨a1, a2, a3, a4, a5, a6, a7, a8, a9⟩ := hR
  refine ⟨(h2 1 (by omega) (by omega)).trans a1, (h2 2 (by omega) (by omega)).trans a2, (h2 3 (by omega) (by omega)).trans a3, (h2 4 (by omega) (by omega)).trans a4, (h2 5 (by omega) (by omega)).trans a5, (h2 6 (by omega) (by omega)).trans a6, (h2 7 (by omega) (by omega)).trans a7, h3.trans hz.symm, fun j hj => ?_⟩
  have := a9 j hj
  rw [hz, tn_nI (by omega)] at hj
  rw [(h4 j hj).1, (h4 j hj).2]
  exact this
set_option maxHeartbeats 4000000 in
theorem l_cups {I S : Mem} {J : Mel} {Q : Option Value → Mem → Mem → Mel → Prop} {n T k : Nat} {dl : Int32} {G : Mem} (hH_q : Hc n T dl I k G) (kk_q : Q (some (.int (smI (G 130) n))) I S J) : ∀ (x : Nat), (x ≤ n) → W2 mX2_upInAll 1 Q I S J 4 [.ref k, .int (smI (G 130) x), .int (nI x)] [] := by
  intro x
  induction hm : n - x using Nat.strongRecOn generalizing x with
  | _ c ih =>
    intro hx_q
    obtain ⟨hC_q, hW_q, hR_q, hP_q, hT_q⟩ := id hH_q
    obtain ⟨c1_q, c2_q, c3_q, c4_q, c5_q, c6_q, c7_q, c8_q, c9_q, c10_q, c11_q, c12_q, c13_q, c14_q⟩ := id hC_q
    have hn_q := hW_q.1
    have hpn_q := hP_q.1
    refine wp_iload_n dX2_upInAll_4 rfl ?_
    refine wp_aload_n dX2_upInAll_5 rfl ?_
    refine wp_getA (by first | rfl | assumption) dX2_upInAll_6 flRX2_35 (by first | rfl | assumption) ?_
    refine c_getI dX2_upInAll_9 flRX2_40 (by first | rfl | assumption) (by omega) ?_
    refine wp_icmp_ge dX2_upInAll_12 (fun h12 => ?_) (fun h12 => ?_)
    · skip
      refine wp_iload_n dX2_upInAll_36 rfl ?_
      refine g_iret dX2_upInAll_37 rfl ?_
      have e_q : x = n := by rw [hpn_q, nI_leg (by omega) (by omega)] at h12; omega
      rw [e_q]; exact kk_q
    · skip
      have hxn_q : x < n := by rw [hpn_q, nI_leg (by omega) (by omega)] at h12; omega
      have c5x_q := c5_q x (by omega)
      have cAx_q := c12_q x (by omega)
      obtain ⟨a1x_q, a2x_q, aBx_q, a6x_q⟩ := id cAx_q
      obtain ⟨b1x_q, b2x_q, b3x_q, b4x_q, b5x_q, b6x_q⟩ := id aBx_q
      obtain ⟨r1x_q, r2x_q, r3x_q, r4x_q, r5x_q, r6x_q, r7x_q, r8x_q, r9x_q⟩ := hR_q.2.2.1 x (by omega)
      refine wp_aload_n dX2_upInAll_15 rfl ?_
      refine wp_getA (by first | rfl | assumption) dX2_upInAll_16 flRX2_11 (by first | rfl | assumption) ?_
      refine wp_iload_n dX2_upInAll_19 rfl ?_
      refine wp_aald c5x_q dX2_upInAll_20 c4_q rfl (by omega) (by decide) ?_
      refine c_getZ dX2_upInAll_21 flRX2_72 (by first | rfl | assumption) (by omega) ?_
      refine wp_if_eq dX2_upInAll_24 (fun h24 => ?_) (fun h24 => ?_)
      · skip
        refine ic_3_2 (nI (x + 1)) dX2_upInAll_30 (nI_inc x) (by decide) rfl ?_
        refine wp_goto dX2_upInAll_33 ?_
        have t_q := ih _ (by omega) (x + 1) rfl (by omega)
        simp only [smI] at t_q
        obtain ⟨u1_q, u2_q⟩ := hH_q.u01 hxn_q
        first | (rw [show G 130 x = 0 from u1_q.symm.trans h24, Int32.add_zero] at t_q; exact t_q) | (rw [show G 130 x = 1 from u2_q.resolve_left (by rw [← u1_q]; exact h24)] at t_q; exact t_q)
      · skip
        refine ic_3_1 _ dX2_upInAll_27 rfl (by decide) rfl ?_
        refine ic_3_2 (nI (x + 1)) dX2_upInAll_30 (nI_inc x) (by decide) rfl ?_
        refine wp_goto dX2_upInAll_33 ?_
        have t_q := ih _ (by omega) (x + 1) rfl (by omega)
        simp only [smI] at t_q
        obtain ⟨u1_q, u2_q⟩ := hH_q.u01 hxn_q
        first | (rw [show G 130 x = 0 from u1_q.symm.trans h24, Int32.add_zero] at t_q; exact t_q) | (rw [show G 130 x = 1 from u2_q.resolve_left (by rw [← u1_q]; exact h24)] at t_q; exact t_q)
set_option maxHeartbeats 4000000 in
theorem c_cups {I S : Mem} {J : Mel} {Q : Option Value → Mem → Mem → Mel → Prop} {n T k : Nat} {dl : Int32} {G : Mem} (hH_q : Hc n T dl I k G) (kk_q : Q (some (.int (smI (G 130) n))) I S J) : M2 mX2_upInAll 1 [.ref k] I S J Q := by
  refine m2_of [.ref k, dum, dum] moX2_upInAll (Nat.le_of_ble_eq_true rfl) rfl ?_
  refine wp_iconst 0 dX2_upInAll_0 (by decide) ?_
  refine st_i_3_1 dX2_upInAll_1 (by decide) rfl ?_
  refine wp_iconst 0 dX2_upInAll_2 (by decide) ?_
  refine st_i_3_2 dX2_upInAll_3 (by decide) rfl ?_
  exact l_cups hH_q kk_q 0 (by omega)
set_option maxHeartbeats 4000000 in
theorem l_clets {I S : Mem} {J : Mel} {Q : Option Value → Mem → Mem → Mel → Prop} {n T k : Nat} {dl : Int32} {G : Mem} (hH_q : Hc n T dl I k G) (kk_q : Q (some (.int (smI (G 133) n))) I S J) : ∀ (x : Nat), (x ≤ n) → W2 mX2_lettersInAll 1 Q I S J 4 [.ref k, .int (smI (G 133) x), .int (nI x)] [] := by
  intro x
  induction hm : n - x using Nat.strongRecOn generalizing x with
  | _ c ih =>
    intro hx_q
    obtain ⟨hC_q, hW_q, hR_q, hP_q, hT_q⟩ := id hH_q
    obtain ⟨c1_q, c2_q, c3_q, c4_q, c5_q, c6_q, c7_q, c8_q, c9_q, c10_q, c11_q, c12_q, c13_q, c14_q⟩ := id hC_q
    have hn_q := hW_q.1
    have hpn_q := hP_q.1
    refine wp_iload_n dX2_lettersInAll_4 rfl ?_
    refine wp_aload_n dX2_lettersInAll_5 rfl ?_
    refine wp_getA (by first | rfl | assumption) dX2_lettersInAll_6 flRX2_35 (by first | rfl | assumption) ?_
    refine c_getI dX2_lettersInAll_9 flRX2_40 (by first | rfl | assumption) (by omega) ?_
    refine wp_icmp_ge dX2_lettersInAll_12 (fun h12 => ?_) (fun h12 => ?_)
    · skip
      refine wp_iload_n dX2_lettersInAll_36 rfl ?_
      refine g_iret dX2_lettersInAll_37 rfl ?_
      have e_q : x = n := by rw [hpn_q, nI_leg (by omega) (by omega)] at h12; omega
      rw [e_q]; exact kk_q
    · skip
      have hxn_q : x < n := by rw [hpn_q, nI_leg (by omega) (by omega)] at h12; omega
      have c5x_q := c5_q x (by omega)
      have cAx_q := c12_q x (by omega)
      obtain ⟨a1x_q, a2x_q, aBx_q, a6x_q⟩ := id cAx_q
      obtain ⟨b1x_q, b2x_q, b3x_q, b4x_q, b5x_q, b6x_q⟩ := id aBx_q
      obtain ⟨r1x_q, r2x_q, r3x_q, r4x_q, r5x_q, r6x_q, r7x_q, r8x_q, r9x_q⟩ := hR_q.2.2.1 x (by omega)
      refine wp_iload_n dX2_lettersInAll_15 rfl ?_
      refine wp_aload_n dX2_lettersInAll_16 rfl ?_
      refine wp_getA (by first | rfl | assumption) dX2_lettersInAll_17 flRX2_11 (by first | rfl | assumption) ?_
      refine wp_iload_n dX2_lettersInAll_20 rfl ?_
      refine wp_aald c5x_q dX2_lettersInAll_21 c4_q rfl (by omega) (by decide) ?_
      refine wp_getA (by first | rfl | assumption) dX2_lettersInAll_22 flRX2_114 (by first | rfl | assumption) ?_
      refine c_getI dX2_lettersInAll_25 flRX2_149 (by first | rfl | assumption) (by omega) ?_
      refine wp_iadd dX2_lettersInAll_28 ?_
      refine st_i_3_1 dX2_lettersInAll_29 (by decide) rfl ?_
      refine ic_3_2 (nI (x + 1)) dX2_lettersInAll_30 (nI_inc x) (by decide) rfl ?_
      refine wp_goto dX2_lettersInAll_33 ?_
      have t_q := ih _ (by omega) (x + 1) rfl (by omega)
      simp only [smI] at t_q
      rw [r8x_q]; exact t_q
set_option maxHeartbeats 4000000 in
theorem c_clets {I S : Mem} {J : Mel} {Q : Option Value → Mem → Mem → Mel → Prop} {n T k : Nat} {dl : Int32} {G : Mem} (hH_q : Hc n T dl I k G) (kk_q : Q (some (.int (smI (G 133) n))) I S J) : M2 mX2_lettersInAll 1 [.ref k] I S J Q := by
  refine m2_of [.ref k, dum, dum] moX2_lettersInAll (Nat.le_of_ble_eq_true rfl) rfl ?_
  refine wp_iconst 0 dX2_lettersInAll_0 (by decide) ?_
  refine st_i_3_1 dX2_lettersInAll_1 (by decide) rfl ?_
  refine wp_iconst 0 dX2_lettersInAll_2 (by decide) ?_
  refine st_i_3_2 dX2_lettersInAll_3 (by decide) rfl ?_
  exact l_clets hH_q kk_q 0 (by omega)
set_option maxHeartbeats 4000000 in
theorem l_cdowns {I S : Mem} {J : Mel} {Q : Option Value → Mem → Mem → Mel → Prop} {n T k : Nat} {dl : Int32} {G : Mem} (hH_q : Hc n T dl I k G) (kk_q : Q (some (.int (smI (G 136) n))) I S J) : ∀ (x : Nat), (x ≤ n) → W2 mX2_downsInAll 1 Q I S J 4 [.ref k, .int (smI (G 136) x), .int (nI x)] [] := by
  intro x
  induction hm : n - x using Nat.strongRecOn generalizing x with
  | _ c ih =>
    intro hx_q
    obtain ⟨hC_q, hW_q, hR_q, hP_q, hT_q⟩ := id hH_q
    obtain ⟨c1_q, c2_q, c3_q, c4_q, c5_q, c6_q, c7_q, c8_q, c9_q, c10_q, c11_q, c12_q, c13_q, c14_q⟩ := id hC_q
    have hn_q := hW_q.1
    have hpn_q := hP_q.1
    refine wp_iload_n dX2_downsInAll_4 rfl ?_
    refine wp_aload_n dX2_downsInAll_5 rfl ?_
    refine wp_getA (by first | rfl | assumption) dX2_downsInAll_6 flRX2_35 (by first | rfl | assumption) ?_
    refine c_getI dX2_downsInAll_9 flRX2_40 (by first | rfl | assumption) (by omega) ?_
    refine wp_icmp_ge dX2_downsInAll_12 (fun h12 => ?_) (fun h12 => ?_)
    · skip
      refine wp_iload_n dX2_downsInAll_33 rfl ?_
      refine g_iret dX2_downsInAll_34 rfl ?_
      have e_q : x = n := by rw [hpn_q, nI_leg (by omega) (by omega)] at h12; omega
      rw [e_q]; exact kk_q
    · skip
      have hxn_q : x < n := by rw [hpn_q, nI_leg (by omega) (by omega)] at h12; omega
      have c5x_q := c5_q x (by omega)
      have cAx_q := c12_q x (by omega)
      obtain ⟨a1x_q, a2x_q, aBx_q, a6x_q⟩ := id cAx_q
      obtain ⟨b1x_q, b2x_q, b3x_q, b4x_q, b5x_q, b6x_q⟩ := id aBx_q
      obtain ⟨r1x_q, r2x_q, r3x_q, r4x_q, r5x_q, r6x_q, r7x_q, r8x_q, r9x_q⟩ := hR_q.2.2.1 x (by omega)
      refine wp_iload_n dX2_downsInAll_15 rfl ?_
      refine wp_aload_n dX2_downsInAll_16 rfl ?_
      refine wp_getA (by first | rfl | assumption) dX2_downsInAll_17 flRX2_11 (by first | rfl | assumption) ?_
      refine wp_iload_n dX2_downsInAll_20 rfl ?_
      refine wp_aald c5x_q dX2_downsInAll_21 c4_q rfl (by omega) (by decide) ?_
      refine c_getI dX2_downsInAll_22 flRX2_146 (by first | rfl | assumption) (by omega) ?_
      refine wp_iadd dX2_downsInAll_25 ?_
      refine st_i_3_1 dX2_downsInAll_26 (by decide) rfl ?_
      refine ic_3_2 (nI (x + 1)) dX2_downsInAll_27 (nI_inc x) (by decide) rfl ?_
      refine wp_goto dX2_downsInAll_30 ?_
      have t_q := ih _ (by omega) (x + 1) rfl (by omega)
      simp only [smI] at t_q
      rw [r5x_q]; exact t_q
set_option maxHeartbeats 4000000 in
theorem c_cdowns {I S : Mem} {J : Mel} {Q : Option Value → Mem → Mem → Mel → Prop} {n T k : Nat} {dl : Int32} {G : Mem} (hH_q : Hc n T dl I k G) (kk_q : Q (some (.int (smI (G 136) n))) I S J) : M2 mX2_downsInAll 1 [.ref k] I S J Q := by
  refine m2_of [.ref k, dum, dum] moX2_downsInAll (Nat.le_of_ble_eq_true rfl) rfl ?_
  refine wp_iconst 0 dX2_downsInAll_0 (by decide) ?_
  refine st_i_3_1 dX2_downsInAll_1 (by decide) rfl ?_
  refine wp_iconst 0 dX2_downsInAll_2 (by decide) ?_
  refine st_i_3_2 dX2_downsInAll_3 (by decide) rfl ?_
  exact l_cdowns hH_q kk_q 0 (by omega)
set_option maxHeartbeats 4000000 in
theorem l_ccopy {I0 S : Mem} {J : Mel} {Q : Option Value → Mem → Mem → Mel → Prop} {n T k h l s : Nat} {dl : Int32} {G : Mem} (hC_q : IsCrew k) (hH_q : Hc n T dl I0 h G) (hkh_q : k + 33 ≤ h ∨ h + 33 ≤ k) (hl_q : G 126 13 = nI l) (hl6_q : l ≤ 6) (hs_q : G 126 19 = nI s) (hs6_q : s ≤ 6) (kk_q : ∀ I2, Rc n dl I2 k G → Fr k I0 I2 → Q none I2 S J) : ∀ (x : Nat) (I2 : Mem), (x ≤ n) → (Fr k I0 I2) → (∀ i, i < x → RcA I2 (k + 9 + 4 * i) G i) → W2 mX2_copyFrom 3 Q I2 S J 2 [.ref k, .ref h, .int (nI x)] [] := by
  intro x I2
  induction hm : n - x using Nat.strongRecOn generalizing x I2 with
  | _ c ih =>
    intro hx_q h2_q h3_q
    obtain ⟨hD_q, hW_q, hRh_q, hP_q, hT_q⟩ := id hH_q
    obtain ⟨c1_q, c2_q, c3_q, c4_q, c5_q, c6_q, c7_q, c8_q, c9_q, c10_q, c11_q, c12_q, c13_q, c14_q⟩ := id hC_q
    obtain ⟨d1_q, d2_q, d3_q, d4_q, d5_q, d6_q, d7_q, d8_q, d9_q, d10_q, d11_q, d12_q, d13_q, d14_q⟩ := id hD_q
    have hn_q := hW_q.1
    have lk1_q := c7_q.1
    have sk1_q := c9_q.1
    have hfh_q : ∀ b, (h ≤ b ∧ b < h + 33) → I2 b = I0 b := fun b hb_q => h2_q b (by omega)
    have hpn_q : I2 15 6 = nI n := by rw [h2_q 15 (by omega)]; exact hP_q.1
    refine wp_iload_n dX2_copyFrom_2 rfl ?_
    refine wp_aload_n dX2_copyFrom_3 rfl ?_
    refine wp_getA (by first | rfl | assumption) dX2_copyFrom_4 flRX2_35 (by first | rfl | assumption) ?_
    refine c_getI dX2_copyFrom_7 flRX2_40 (by first | rfl | assumption) (by omega) ?_
    refine wp_icmp_ge dX2_copyFrom_10 (fun h10 => ?_) (fun h10 => ?_)
    · skip
      have e_q : x = n := by rw [hpn_q, nI_leg (by omega) (by omega)] at h10; omega
      rw [e_q] at h3_q
      refine wp_aload_n dX2_copyFrom_34 rfl ?_
      refine wp_getA (by first | rfl | assumption) dX2_copyFrom_35 flRX2_20 (by first | rfl | assumption) ?_
      refine wp_aload_n dX2_copyFrom_38 rfl ?_
      refine wp_getA (by first | rfl | assumption) dX2_copyFrom_39 flRX2_20 (by first | rfl | assumption) ?_
      refine g_callV1 (mj := mX4_copyFrom) dX2_copyFrom_42 lkRX2_53 mkX4_copyFrom (by first | rfl | assumption) (by decide) (by decide) (Nat.le_of_ble_eq_true rfl) (c_lcopy c7_q d7_q (by omega) (z := l) (by rw [hfh_q (h + 2) (by omega)]; exact hRh_q.2.2.2.1.1.trans hl_q) hl6_q (fun I3 m1_q => ?_))
      refine wp_aload_n dX2_copyFrom_45 rfl ?_
      refine wp_getA (by first | rfl | assumption) dX2_copyFrom_46 flRX2_27 (by first | rfl | assumption) ?_
      refine wp_aload_n dX2_copyFrom_49 rfl ?_
      refine wp_getA (by first | rfl | assumption) dX2_copyFrom_50 flRX2_27 (by first | rfl | assumption) ?_
      refine g_callV1 (mj := mX8_copyFrom) dX2_copyFrom_53 lkRX2_69 mkX8_copyFrom (by first | rfl | assumption) (by decide) (by decide) (Nat.le_of_ble_eq_true rfl) (c_scopy c9_q d9_q (by omega) (z := s) (by rw [m1_q.1 (h + 5) (by omega) (by omega) (by omega), hfh_q (h + 5) (by omega)]; exact hRh_q.2.2.2.2.1.trans hs_q) hs6_q (fun I4 m2_q => ?_))
      refine wp_aload_n dX2_copyFrom_56 rfl ?_
      refine wp_aload_n dX2_copyFrom_57 rfl ?_
      refine c_getI dX2_copyFrom_58 flRX2_60 (by first | rfl | assumption) (by omega) ?_
      refine c_putI dX2_copyFrom_61 flRX2_60 (by first | rfl | assumption) (by omega) ?_
      refine wp_aload_n dX2_copyFrom_64 rfl ?_
      refine wp_aload_n dX2_copyFrom_65 rfl ?_
      refine c_getI dX2_copyFrom_66 flRX2_63 (by first | rfl | assumption) (by omega) ?_
      refine c_putI dX2_copyFrom_69 flRX2_63 (by first | rfl | assumption) (by omega) ?_
      refine g_vret dX2_copyFrom_72 rfl ?_
      have f3_q : ∀ b, (b < k ∨ k + 33 ≤ b) → I3 b = I2 b := fun b hb_q => m1_q.1 b (by omega) (by omega) (by omega)
      have f4_q : ∀ b, (b < k ∨ k + 33 ≤ b) → I4 b = I3 b := fun b hb_q => m2_q.1 b (by omega) (by omega) (by omega)
      have eh_q : I4 h = I0 h := (f4_q h (by omega)).trans ((f3_q h (by omega)).trans (hfh_q h (by omega)))
      have ea_q : ∀ b, (k + 9 ≤ b ∧ b < k + 33) → uI (uI I4 k 6 (I4 h 6)) k 7 (uI I4 k 6 (I4 h 6) h 7) b = I2 b := fun b hb_q => by rw [uI_ne (by omega), uI_ne (by omega), m2_q.1 b (by omega) (by omega) (by omega), m1_q.1 b (by omega) (by omega) (by omega)]
      refine kk_q _ ⟨?_, ?_, fun i hi_q => ?_, ⟨?_, fun j hj_q => ?_⟩, ?_, fun j hj_q => ?_⟩ (fun b hb_q => ?_)
      · rw [uI_ap, if_neg (by omega), uI_self, eh_q]; exact hRh_q.1
      · rw [uI_self, uI_ne (by omega), eh_q]; exact hRh_q.2.1
      · obtain ⟨z, hz5_q, hz_q⟩ := hW_q.box hi_q
        refine (h3_q i hi_q).ag hz_q hz5_q (ea_q _ (by omega)) (ea_q _ (by omega)) (ea_q _ (by omega)) (ea_q _ (by omega)) ⟨rfl, rfl, rfl, rfl, rfl, rfl, rfl, rfl, fun _ _ => ⟨rfl, rfl⟩⟩
      · rw [uI_ne (by omega), uI_ne (by omega), m2_q.1 (k + 2) (by omega) (by omega) (by omega), m1_q.2.1, uI_self, hl_q]
      · rw [hl_q, tn_nI (by omega)] at hj_q
        obtain ⟨x1_q, x2_q⟩ := m1_q.2.2 j hj_q
        have y_q := hRh_q.2.2.2.1.2 j (by rw [hl_q, tn_nI (by omega)]; exact hj_q)
        rw [uI_ne (by omega), uI_ne (by omega), uI_ne (by omega), uI_ne (by omega), m2_q.1 (k + 3) (by omega) (by omega) (by omega), m2_q.1 (k + 4) (by omega) (by omega) (by omega), show k + 3 = k + 2 + 1 from rfl, show k + 4 = k + 2 + 2 from rfl, x1_q, x2_q, hfh_q (h + 2 + 1) (by omega), hfh_q (h + 2 + 2) (by omega)]
        exact y_q
      · rw [uI_ne (by omega), uI_ne (by omega), m2_q.2.1, uI_self, hs_q]
      · rw [hs_q, tn_nI (by omega)] at hj_q
        obtain ⟨x1_q, x2_q⟩ := m2_q.2.2 j hj_q
        have y_q := hRh_q.2.2.2.2.2 j (by rw [hs_q, tn_nI (by omega)]; exact hj_q)
        rw [uI_ne (by omega), uI_ne (by omega), uI_ne (by omega), uI_ne (by omega), show k + 6 = k + 5 + 1 from rfl, show k + 7 = k + 5 + 2 from rfl, x1_q, x2_q, f3_q (h + 5 + 1) (by omega), f3_q (h + 5 + 2) (by omega), hfh_q (h + 5 + 1) (by omega), hfh_q (h + 5 + 2) (by omega)]
        exact y_q
      · rw [uI_ne (by omega), uI_ne (by omega), f4_q b hb_q, f3_q b hb_q]; exact h2_q b hb_q
    · skip
      have hxn_q : x < n := by rw [hpn_q, nI_leg (by omega) (by omega)] at h10; omega
      have c5x_q := c5_q x (by omega)
      have d5x_q := d5_q x (by omega)
      have cAx_q := c12_q x (by omega)
      have dAx_q := d12_q x (by omega)
      have a1x_q := cAx_q.1
      obtain ⟨z, hz5_q, hz_q⟩ := hW_q.box hxn_q
      have rA_q := hRh_q.2.2.1 x hxn_q
      have hu_q := (hW_q.2.2.2.2 x hxn_q).2.1
      refine wp_aload_n dX2_copyFrom_13 rfl ?_
      refine wp_getA (by first | rfl | assumption) dX2_copyFrom_14 flRX2_11 (by first | rfl | assumption) ?_
      refine wp_iload_n dX2_copyFrom_17 rfl ?_
      refine wp_aald c5x_q dX2_copyFrom_18 c4_q rfl (by omega) (by decide) ?_
      refine wp_aload_n dX2_copyFrom_19 rfl ?_
      refine wp_getA (by first | rfl | assumption) dX2_copyFrom_20 flRX2_11 (by first | rfl | assumption) ?_
      refine wp_iload_n dX2_copyFrom_23 rfl ?_
      refine wp_aald d5x_q dX2_copyFrom_24 d4_q rfl (by omega) (by decide) ?_
      refine g_callV1 (mj := mX0_copyFrom) dX2_copyFrom_25 lkRX2_66 mkX0_copyFrom (by first | rfl | assumption) (by decide) (by decide) (Nat.le_of_ble_eq_true rfl) (c_acopy cAx_q dAx_q (by omega) (z := z) (by rw [hfh_q _ (by omega)]; exact rA_q.2.2.2.2.2.2.2.1.trans hz_q) hz5_q (by rw [hfh_q _ (by omega), rA_q.2.1]; exact hu_q) (fun I3 m1_q => ?_))
      refine ic_3_2 (nI (x + 1)) dX2_copyFrom_28 (nI_inc x) (by decide) rfl ?_
      refine wp_goto dX2_copyFrom_31 ?_
      have rI_q : RcA I2 (h + 9 + 4 * x) G x := rA_q.ag hz_q hz5_q (hfh_q _ (by omega)) (hfh_q _ (by omega)) (hfh_q _ (by omega)) (hfh_q _ (by omega)) ⟨rfl, rfl, rfl, rfl, rfl, rfl, rfl, rfl, fun _ _ => ⟨rfl, rfl⟩⟩
      refine ih _ (by omega) (x + 1) I3 rfl (by omega) (fun b hb_q => (m1_q.1 b (by omega)).trans (h2_q b hb_q)) (fun i hi_q => ?_)
      by_cases hix_q : i = x
      · rw [hix_q]; exact m1_q.rc hz_q hz5_q rI_q
      · obtain ⟨z2, g5_q, g_q⟩ := hW_q.box (show i < n by omega)
        exact (h3_q i (by omega)).ag g_q g5_q (m1_q.1 _ (by omega)) (m1_q.1 _ (by omega)) (m1_q.1 _ (by omega)) (m1_q.1 _ (by omega)) ⟨rfl, rfl, rfl, rfl, rfl, rfl, rfl, rfl, fun _ _ => ⟨rfl, rfl⟩⟩
set_option maxHeartbeats 4000000 in
theorem c_ccopy {I S : Mem} {J : Mel} {Q : Option Value → Mem → Mem → Mel → Prop} {n T k h l s : Nat} {dl : Int32} {G : Mem} (hC_q : IsCrew k) (hH_q : Hc n T dl I h G) (hkh_q : k + 33 ≤ h ∨ h + 33 ≤ k) (hl_q : G 126 13 = nI l) (hl6_q : l ≤ 6) (hs_q : G 126 19 = nI s) (hs6_q : s ≤ 6) (kk_q : ∀ I2, Rc n dl I2 k G → Fr k I I2 → Q none I2 S J) : M2 mX2_copyFrom 3 [.ref k, .ref h] I S J Q := by
  refine m2_of [.ref k, .ref h, dum] moX2_copyFrom (Nat.le_of_ble_eq_true rfl) rfl ?_
  refine wp_iconst 0 dX2_copyFrom_0 (by decide) ?_
  refine st_i_3_2 dX2_copyFrom_1 (by decide) rfl ?_
  exact l_ccopy hC_q hH_q hkh_q hl_q hl6_q hs_q hs6_q kk_q 0 I (by omega) Fr.rf (fun i hi_q => by omega)
theorem sdC_eq {s : Nat} (h : s < 2147483648) : (1103515245 * (nI s).toInt64 + 12345 - (1103515245 * (nI s).toInt64 + 12345) / 2147483648 * 2147483648 : Int64).toInt32 = nI (sN s) := by
  rw [nI_l (by omega), show (1103515245 : Int64) = lN 1103515245 from rfl, show (12345 : Int64) = lN 12345 from rfl, show (2147483648 : Int64) = lN 2147483648 from rfl, lN_mul, lN_add, pk_lRem (by omega) (by decide) (by decide), lN_i]
  rfl
theorem drC_eq {t m : Nat} (h : t < 2147483648) (hm : 1 ≤ m) (hm2 : m < 100) : nI t / 65536 - nI t / 65536 / nI m * nI m = nI (t / 65536 % m) := by
  rw [show (65536 : Int32) = nI 65536 from rfl, pk_div (by omega) (by decide) (by decide), pk_rem (by omega) (by omega) (by omega)]
set_option maxHeartbeats 4000000 in
theorem c_cdraw {I S : Mem} {J : Mel} {Q : Option Value → Mem → Mem → Mel → Prop} {s m : Nat} (hs_q : s < 2147483648) (hm_q : 1 ≤ m) (hm2_q : m < 100) (hI_q : I 125 0 = nI s) (k : Q (some (.int (nI (sN s / 65536 % m)))) (uI I 125 0 (nI (sN s))) S J) : M2 mX3_draw 1 [.ref 125, .int (nI m)] I S J Q := by
  refine m2_of [.ref 125, .int (nI m)] moX3_draw (Nat.le_of_ble_eq_true rfl) rfl ?_
  refine wp_aload_n dX3_draw_0 rfl ?_
  refine wp_ldc2 dX3_draw_1 kcRX3_7 ?_
  refine wp_aload_n dX3_draw_4 rfl ?_
  refine c_getI dX3_draw_5 flRX3_9 (by first | rfl | assumption) (by omega) ?_
  refine wp_i2l dX3_draw_8 ?_
  refine wp_lmul dX3_draw_9 ?_
  refine wp_ldc2 dX3_draw_10 kcRX3_15 ?_
  refine wp_ladd dX3_draw_13 ?_
  refine wp_ldc2 dX3_draw_14 kcRX3_17 ?_
  refine wp_lrem dX3_draw_17 (by decide) ?_
  refine wp_l2i dX3_draw_18 ?_
  rw [hI_q, sdC_eq hs_q]
  refine c_putI dX3_draw_19 flRX3_9 (by first | rfl | assumption) (by omega) ?_
  refine wp_iload_n dX3_draw_22 rfl ?_
  refine wp_if_le dX3_draw_23 (fun h23 => absurd h23 (nI_nle (by omega) (by omega))) (fun h23 => ?_)
  refine wp_aload_n dX3_draw_26 rfl ?_
  refine c_getI dX3_draw_27 flRX3_9 (by first | rfl | assumption) (by omega) ?_
  refine wp_ldc dX3_draw_30 kcRX3_19 ?_
  refine wp_idiv dX3_draw_32 (by decide) ?_
  refine wp_iload_n dX3_draw_33 rfl ?_
  refine wp_irem dX3_draw_34 (nI_ne0 (by omega) (by omega)) ?_
  refine wp_goto dX3_draw_35 ?_
  refine g_iret dX3_draw_39 rfl ?_
  rw [uI_self, drC_eq (sN_lt s) hm_q hm2_q]; exact k
