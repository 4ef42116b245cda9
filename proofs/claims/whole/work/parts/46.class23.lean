set_option maxHeartbeats 4000000 in
theorem c_tkAfter {I S : Mem} {J : Mel} {Q : Option Value → Mem → Mem → Mel → Prop} {c z : Nat} (ha_q : I 6 6 = nI (c + 1)) (hc_q : c < 6) (hz_q : I 8 c = nI z) (hz3_q : z ≤ 3) {x : Int32} (hd_q : I 5 1 = 5) (k : QO (aTk I x) I Q S J) : M2 mX7_takesAfterStep 5 [.ref 5, .int x] I S J Q := by
  rw [aTk_5 hd_q, ha_q, tn_nI (by omega), Nat.add_sub_cancel, hz_q] at k
  refine m2_of [.ref 5, .int x] moX7_takesAfterStep (Nat.le_of_ble_eq_true rfl) rfl ?_
  refine wp_iload_n dX7_takesAfterStep_0 rfl ?_
  refine wp_bipush 59 dX7_takesAfterStep_1 (by decide) ?_
  refine wp_icmp_ne dX7_takesAfterStep_3 (fun h3 => ?_) (fun h3 => ?_)
  · skip
    refine wp_iload_n dX7_takesAfterStep_14 rfl ?_
    refine wp_bipush 44 dX7_takesAfterStep_15 (by decide) ?_
    refine wp_icmp_ne dX7_takesAfterStep_17 (fun h17 => ?_) (fun h17 => ?_)
    · skip
      rw [if_neg h3, if_neg h17] at k
      refine wp_aload_n dX7_takesAfterStep_43 rfl ?_
      refine wp_getA (by first | rfl | assumption) dX7_takesAfterStep_44 flRX7_12 (by first | rfl | assumption) ?_
      refine g_callV0 (mj := mX6_lastTakesStep) dX7_takesAfterStep_47 lkRX7_91 mkX6_lastTakesStep (by first | rfl | assumption) (by decide) (by decide) (Nat.le_of_ble_eq_true rfl) (c_lastTakes ha_q hc_q hz_q hz3_q ?_)
      refine wp_if_eq dX7_takesAfterStep_50 (fun h50 => ?_) (fun h50 => ?_)
      · skip
        refine wp_iconst 0 dX7_takesAfterStep_65 (by decide) ?_
        refine g_zret dX7_takesAfterStep_66 rfl (by first | decide | assumption) ?_
        rw [if_neg (by rw [show (3 : Int32) = nI 3 from rfl, nI_ltg (by omega) (by omega)]; exact b01_e0 h50)] at k; exact k I FrR.rf
      · skip
        rw [if_pos (by rw [show (3 : Int32) = nI 3 from rfl, nI_ltg (by omega) (by omega)]; exact b01_ne h50)] at k
        refine wp_aload_n dX7_takesAfterStep_53 rfl ?_
        refine wp_iload_n dX7_takesAfterStep_54 rfl ?_
        refine g_callV1 (mj := mX7_takesStep) dX7_takesAfterStep_55 lkRX7_45 mkX7_takesStep (by first | rfl | assumption) (by decide) (by decide) (Nat.le_of_ble_eq_true rfl) (c_tkStep ha_q hc_q hz_q (b01_ne h50) ?_)
        rcases hS_q : aSt I x with _ | I2
        · rw [hS_q] at k
          intro I2 hf_q
          refine wp_if_eq dX7_takesAfterStep_58 (fun h58 => ?_) (fun h58 => absurd h58 (by decide))
          refine wp_iconst 0 dX7_takesAfterStep_65 (by decide) ?_
          refine g_zret dX7_takesAfterStep_66 rfl (by first | decide | assumption) ?_
          exact k I2 hf_q
        · rw [hS_q] at k
          show W2 mX7_takesAfterStep 5 Q I2 S J 58 [.ref 5, .int x] [.int 1]
          refine wp_if_eq dX7_takesAfterStep_58 (fun h58 => absurd h58 (by decide)) (fun h58 => ?_)
          refine wp_iconst 1 dX7_takesAfterStep_61 (by decide) ?_
          refine wp_goto dX7_takesAfterStep_62 ?_
          refine g_zret dX7_takesAfterStep_66 rfl (by first | decide | assumption) ?_
          exact k
    · skip
      refine wp_aload_n dX7_takesAfterStep_20 rfl ?_
      refine wp_iconst 0 dX7_takesAfterStep_21 (by decide) ?_
      refine c_putI dX7_takesAfterStep_22 flRX7_21 (by first | rfl | assumption) (by omega) ?_
      refine wp_aload_n dX7_takesAfterStep_25 rfl ?_
      refine wp_getA (by first | rfl | assumption) dX7_takesAfterStep_26 flRX7_12 (by first | rfl | assumption) ?_
      refine c_getI dX7_takesAfterStep_29 flRX7_88 (by first | rfl | assumption) (by omega) ?_
      rw [uI_ne (by decide), ha_q]
      refine wp_bipush 6 dX7_takesAfterStep_32 (by decide) ?_
      refine wp_icmp_ge dX7_takesAfterStep_34 (fun h34 => ?_) (fun h34 => ?_)
      · skip
        refine wp_iconst 0 dX7_takesAfterStep_41 (by decide) ?_
        refine g_zret dX7_takesAfterStep_42 rfl (by first | decide | assumption) ?_
        rw [if_neg h3, if_pos (by first | exact h17 | exact Classical.not_not.mp h17)] at k
        first | (rw [if_pos (by first | exact h34 | exact Int32.not_le.mp h34)] at k; exact k) | (rw [if_neg (by first | exact h34 | exact Int32.not_lt.mpr h34)] at k; exact k _ (FrR.rf.st (by omega)))
      · skip
        refine wp_iconst 1 dX7_takesAfterStep_37 (by decide) ?_
        refine wp_goto dX7_takesAfterStep_38 ?_
        refine g_zret dX7_takesAfterStep_42 rfl (by first | decide | assumption) ?_
        rw [if_neg h3, if_pos (by first | exact h17 | exact Classical.not_not.mp h17)] at k
        first | (rw [if_pos (by first | exact h34 | exact Int32.not_le.mp h34)] at k; exact k) | (rw [if_neg (by first | exact h34 | exact Int32.not_lt.mpr h34)] at k; exact k _ (FrR.rf.st (by omega)))
  · skip
    refine wp_aload_n dX7_takesAfterStep_6 rfl ?_
    refine wp_bipush 6 dX7_takesAfterStep_7 (by decide) ?_
    refine c_putI dX7_takesAfterStep_9 flRX7_21 (by first | rfl | assumption) (by omega) ?_
    refine wp_iconst 1 dX7_takesAfterStep_12 (by decide) ?_
    refine g_zret dX7_takesAfterStep_13 rfl (by first | decide | assumption) ?_
    rw [if_pos (by first | exact h3 | exact Classical.not_not.mp h3)] at k; exact k
set_option maxHeartbeats 4000000 in
theorem c_tkOne {I S : Mem} {J : Mel} {Q : Option Value → Mem → Mem → Mel → Prop} {x : Int32} (hd_q : I 5 1 = 6 ∨ I 5 1 = 7) (k : QO (aTk I x) I Q S J) : M2 mX7_takesOne 2 [.ref 5, .int x] I S J Q := by
  rw [aTk_67 hd_q] at k
  refine m2_of [.ref 5, .int x] moX7_takesOne (Nat.le_of_ble_eq_true rfl) rfl ?_
  refine wp_aload_n dX7_takesOne_0 rfl ?_
  refine wp_iload_n dX7_takesOne_1 rfl ?_
  refine wp_bipush 48 dX7_takesOne_2 (by decide) ?_
  refine wp_isub dX7_takesOne_4 ?_
  refine c_putI dX7_takesOne_5 flRX7_94 (by first | rfl | assumption) (by omega) ?_
  refine wp_aload_n dX7_takesOne_8 rfl ?_
  refine wp_bipush 8 dX7_takesOne_9 (by decide) ?_
  refine c_putI dX7_takesOne_11 flRX7_21 (by first | rfl | assumption) (by omega) ?_
  refine wp_aload_n dX7_takesOne_14 rfl ?_
  refine wp_getA (by first | rfl | assumption) dX7_takesOne_15 flRX7_12 (by first | rfl | assumption) ?_
  refine wp_aload_n dX7_takesOne_18 rfl ?_
  refine c_getI dX7_takesOne_19 flRX7_94 (by first | rfl | assumption) (by omega) ?_
  rw [uI_ap, if_neg (by decide), uI_self]
  refine g_callV1 (mj := mX6_has) dX7_takesOne_22 lkRX7_97 mkX6_has (by first | rfl | assumption) (by decide) (by decide) (Nat.le_of_ble_eq_true rfl) (c_has plan6 ?_)
  rw [uI_ne (by decide), uI_ne (by decide)]
  refine g_zret dX7_takesOne_25 rfl (b01_b _) ?_
  by_cases h_q : 0 ≤ x - 48 ∧ x - 48 < I 6 6
  · rw [if_pos h_q] at k; rw [b01_t h_q]; exact k
  · rw [if_neg h_q] at k; rw [b01_f h_q]; exact k _ ((FrR.rf.st (by omega)).st (by omega))
set_option maxHeartbeats 4000000 in
theorem c_tkAfterL {I S : Mem} {J : Mel} {Q : Option Value → Mem → Mem → Mel → Prop} {x : Int32} (hd_q : I 5 1 = 9) (k : QO (aTk I x) I Q S J) : M2 mX7_takesAfterLink 2 [.ref 5, .int x] I S J Q := by
  rw [aTk_9 hd_q] at k
  refine m2_of [.ref 5, .int x] moX7_takesAfterLink (Nat.le_of_ble_eq_true rfl) rfl ?_
  refine wp_aload_n dX7_takesAfterLink_0 rfl ?_
  refine wp_bipush 7 dX7_takesAfterLink_1 (by decide) ?_
  refine c_putI dX7_takesAfterLink_3 flRX7_21 (by first | rfl | assumption) (by omega) ?_
  refine wp_iload_n dX7_takesAfterLink_6 rfl ?_
  refine wp_bipush 44 dX7_takesAfterLink_7 (by decide) ?_
  refine wp_icmp_ne dX7_takesAfterLink_9 (fun h9 => ?_) (fun h9 => ?_)
  · skip
    refine wp_iconst 0 dX7_takesAfterLink_29 (by decide) ?_
    refine g_zret dX7_takesAfterLink_30 rfl (by first | decide | assumption) ?_
    first | (rw [if_pos ⟨(by first | exact h9 | exact Classical.not_not.mp h9), b01_e0 (by first | exact h22 | exact Classical.not_not.mp h22)⟩] at k; exact k) | (rw [if_neg (fun q => h9 q.1)] at k; exact k _ (FrR.rf.st (by omega))) | (rw [if_neg (fun q => q.2 (b01_ne h22))] at k; exact k _ (FrR.rf.st (by omega)))
  · skip
    refine wp_aload_n dX7_takesAfterLink_12 rfl ?_
    refine wp_getA (by first | rfl | assumption) dX7_takesAfterLink_13 flRX7_12 (by first | rfl | assumption) ?_
    refine wp_getA (by first | rfl | assumption) dX7_takesAfterLink_16 flRX7_100 (by first | rfl | assumption) ?_
    refine g_callV0 (mj := mX4_isFull) dX7_takesAfterLink_19 lkRX7_114 mkX4_isFull (by first | rfl | assumption) (by decide) (by decide) (Nat.le_of_ble_eq_true rfl) (c_lFull lks12 ?_)
    rw [uI_ne (by decide)]
    refine wp_if_ne dX7_takesAfterLink_22 (fun h22 => ?_) (fun h22 => ?_)
    · skip
      refine wp_iconst 0 dX7_takesAfterLink_29 (by decide) ?_
      refine g_zret dX7_takesAfterLink_30 rfl (by first | decide | assumption) ?_
      first | (rw [if_pos ⟨(by first | exact h9 | exact Classical.not_not.mp h9), b01_e0 (by first | exact h22 | exact Classical.not_not.mp h22)⟩] at k; exact k) | (rw [if_neg (fun q => h9 q.1)] at k; exact k _ (FrR.rf.st (by omega))) | (rw [if_neg (fun q => q.2 (b01_ne h22))] at k; exact k _ (FrR.rf.st (by omega)))
    · skip
      refine wp_iconst 1 dX7_takesAfterLink_25 (by decide) ?_
      refine wp_goto dX7_takesAfterLink_26 ?_
      refine g_zret dX7_takesAfterLink_30 rfl (by first | decide | assumption) ?_
      first | (rw [if_pos ⟨(by first | exact h9 | exact Classical.not_not.mp h9), b01_e0 (by first | exact h22 | exact Classical.not_not.mp h22)⟩] at k; exact k) | (rw [if_neg (fun q => h9 q.1)] at k; exact k _ (FrR.rf.st (by omega))) | (rw [if_neg (fun q => q.2 (b01_ne h22))] at k; exact k _ (FrR.rf.st (by omega)))
set_option maxHeartbeats 4000000 in
theorem c_tkOther {I S : Mem} {J : Mel} {Q : Option Value → Mem → Mem → Mel → Prop} {x : Int32} {l : Nat} (hl_q : I 12 2 = nI l) (hl6_q : l < 6) (hd_q : I 5 1 = 8) (k : QO (aTk I x) I Q S J) : M2 mX7_takesOther 3 [.ref 5, .int x] I S J Q := by
  rw [aTk_8 hd_q, hl_q, tn_nI (by omega)] at k
  refine m2_of [.ref 5, .int x, dum] moX7_takesOther (Nat.le_of_ble_eq_true rfl) rfl ?_
  refine wp_iload_n dX7_takesOther_0 rfl ?_
  refine wp_bipush 48 dX7_takesOther_1 (by decide) ?_
  refine wp_isub dX7_takesOther_3 ?_
  refine st_i_3_2 dX7_takesOther_4 (by decide) rfl ?_
  refine wp_aload_n dX7_takesOther_5 rfl ?_
  refine wp_getA (by first | rfl | assumption) dX7_takesOther_6 flRX7_12 (by first | rfl | assumption) ?_
  refine wp_iload_n dX7_takesOther_9 rfl ?_
  refine g_callV1 (mj := mX6_has) dX7_takesOther_10 lkRX7_97 mkX6_has (by first | rfl | assumption) (by decide) (by decide) (Nat.le_of_ble_eq_true rfl) (c_has plan6 ?_)
  refine wp_if_eq dX7_takesOther_13 (fun h13 => ?_) (fun h13 => ?_)
  · skip
    refine wp_iconst 0 dX7_takesOther_43 (by decide) ?_
    refine g_zret dX7_takesOther_44 rfl (by first | decide | assumption) ?_
    first | (rw [if_neg (fun q => b01_e0 h13 q.1)] at k; exact k I FrR.rf) | (rw [if_neg (fun q => q.2.1 (by first | exact h21 | exact Classical.not_not.mp h21))] at k; exact k I FrR.rf) | (rw [if_neg (fun q => h40 q.2.2)] at k; exact k I FrR.rf)
  · skip
    refine wp_iload_n dX7_takesOther_16 rfl ?_
    refine wp_aload_n dX7_takesOther_17 rfl ?_
    refine c_getI dX7_takesOther_18 flRX7_94 (by first | rfl | assumption) (by omega) ?_
    refine wp_icmp_eq dX7_takesOther_21 (fun h21 => ?_) (fun h21 => ?_)
    · skip
      refine wp_iconst 0 dX7_takesOther_43 (by decide) ?_
      refine g_zret dX7_takesOther_44 rfl (by first | decide | assumption) ?_
      first | (rw [if_neg (fun q => b01_e0 h13 q.1)] at k; exact k I FrR.rf) | (rw [if_neg (fun q => q.2.1 (by first | exact h21 | exact Classical.not_not.mp h21))] at k; exact k I FrR.rf) | (rw [if_neg (fun q => h40 q.2.2)] at k; exact k I FrR.rf)
    · skip
      refine wp_aload_n dX7_takesOther_24 rfl ?_
      refine wp_getA (by first | rfl | assumption) dX7_takesOther_25 flRX7_12 (by first | rfl | assumption) ?_
      refine wp_getA (by first | rfl | assumption) dX7_takesOther_28 flRX7_100 (by first | rfl | assumption) ?_
      refine wp_aload_n dX7_takesOther_31 rfl ?_
      refine c_getI dX7_takesOther_32 flRX7_94 (by first | rfl | assumption) (by omega) ?_
      refine wp_iload_n dX7_takesOther_35 rfl ?_
      refine g_callV2 (mj := mX4_find) dX7_takesOther_36 lkRX7_104 mkX4_find (by first | rfl | assumption) (by decide) (by decide) (Nat.le_of_ble_eq_true rfl) (c_find lks12 hl_q (by omega) ?_)
      refine wp_iconst (-1) dX7_takesOther_39 (by decide) ?_
      refine wp_icmp_eq dX7_takesOther_40 (fun h40 => ?_) (fun h40 => ?_)
      · skip
        refine wp_aload_n dX7_takesOther_45 rfl ?_
        refine wp_getA (by first | rfl | assumption) dX7_takesOther_46 flRX7_12 (by first | rfl | assumption) ?_
        refine wp_getA (by first | rfl | assumption) dX7_takesOther_49 flRX7_100 (by first | rfl | assumption) ?_
        refine wp_aload_n dX7_takesOther_52 rfl ?_
        refine c_getI dX7_takesOther_53 flRX7_94 (by first | rfl | assumption) (by omega) ?_
        refine wp_iload_n dX7_takesOther_56 rfl ?_
        refine g_callV2 (mj := mX4_add) dX7_takesOther_57 lkRX7_110 mkX4_add (by first | rfl | assumption) (by decide) (by decide) (Nat.le_of_ble_eq_true rfl) (c_ladd lks12 hl_q hl6_q ?_)
        refine wp_aload_n dX7_takesOther_60 rfl ?_
        refine wp_bipush 9 dX7_takesOther_61 (by decide) ?_
        refine c_putI dX7_takesOther_63 flRX7_21 (by first | rfl | assumption) (by omega) ?_
        refine wp_iconst 1 dX7_takesOther_66 (by decide) ?_
        refine g_zret dX7_takesOther_67 rfl (by first | decide | assumption) ?_
        rw [if_pos ⟨b01_ne h13, h21, (by first | exact h40 | exact Classical.not_not.mp h40)⟩] at k; exact k
      · skip
        refine wp_iconst 0 dX7_takesOther_43 (by decide) ?_
        refine g_zret dX7_takesOther_44 rfl (by first | decide | assumption) ?_
        first | (rw [if_neg (fun q => b01_e0 h13 q.1)] at k; exact k I FrR.rf) | (rw [if_neg (fun q => q.2.1 (by first | exact h21 | exact Classical.not_not.mp h21))] at k; exact k I FrR.rf) | (rw [if_neg (fun q => h40 q.2.2)] at k; exact k I FrR.rf)
def AI (I : Mem) : Prop := ∃ a l d, I 6 6 = nI a ∧ a ≤ 6 ∧ (∀ i, i < a → ∃ z, z ≤ 3 ∧ I 8 i = nI z) ∧ I 12 2 = nI l ∧ l ≤ 6 ∧ I 5 1 = nI d ∧ d ≤ 9 ∧ (d = 0 → a < 6) ∧ (1 ≤ d → d ≤ 4 → ∃ c z, a = c + 1 ∧ z < 3 ∧ I 8 c = nI z) ∧ (d = 5 → 1 ≤ a) ∧ (d ≠ 9 → l < 6)
theorem AI.ed {I : Mem} {c z l : Nat} {d t s : Int32} (h1 : I 6 6 = nI (c + 1)) (h2 : c < 6) (h3 : ∀ i, i < c + 1 → ∃ z, z ≤ 3 ∧ I 8 i = nI z) (h4 : I 12 2 = nI l) (h5 : l < 6) (hz : z < 3) : AI (aEd I c z d t s) := by
  unfold aEd
  refine ⟨c + 1, l, 5, ?_, by omega, fun i hi => ?_, ?_, by omega, ?_, by omega, fun q => by omega, fun q1 q2 => by omega, fun _ => by omega, fun _ => h5⟩
  · rw [uI_ne (by decide), uI_ne (by decide), uI_ne (by decide), uI_ne (by decide), uI_ne (by decide)]; exact h1
  · rw [uI_ne (by decide)]
    by_cases e : i = c
    · subst e; exact ⟨z + 1, by omega, uI_self _ _ _ _⟩
    · rw [uI_ap, if_neg (by omega), uI_ne (by decide), uI_ne (by decide), uI_ne (by decide)]; exact h3 i hi
  · rw [uI_ne (by decide), uI_ne (by decide), uI_ne (by decide), uI_ne (by decide), uI_ne (by decide)]; exact h4
  · exact uI_self _ _ _ _
theorem AI.st {I : Mem} {a l c z : Nat} {x : Int32} {I' : Mem} (h1 : I 6 6 = nI (c + 1)) (h2 : c < 6) (h3 : ∀ i, i < c + 1 → ∃ z, z ≤ 3 ∧ I 8 i = nI z) (h4 : I 12 2 = nI l) (h5 : l < 6) (hz : z < 3) (hz2 : I 8 c = nI z) (e : aSt I x = some I') : AI I' ∧ FrR I I' := by
  unfold aSt at e
  have du : ∀ d, 2 ≤ d → d ≤ 3 → AI (uI I 5 1 (nI d)) := fun d q1 q2 => by
    refine ⟨c + 1, l, d, by rw [uI_ne (by decide)]; exact h1, by omega, fun i hi => by rw [uI_ne (by decide)]; exact h3 i hi, by rw [uI_ne (by decide)]; exact h4, by omega, uI_self _ _ _ _, by omega, fun q => by omega, fun _ _ => ⟨c, z, rfl, hz, by rw [uI_ne (by decide)]; exact hz2⟩, fun q => by omega, fun _ => h5⟩
  have en : ∀ d t s, AI (aEnd I d t s) ∧ FrR I (aEnd I d t s) := fun d t s => by rw [aEnd_eq h1 h2 hz2 hz]; exact ⟨AI.ed h1 h2 h3 h4 h5 hz, FrR.aEd _ _ _ _ _ _⟩
  split at e
  · cases e; exact ⟨du 2 (by omega) (by omega), FrR.rf.st (by omega)⟩
  split at e
  · cases e; exact ⟨du 3 (by omega) (by omega), FrR.rf.st (by omega)⟩
  split at e
  · cases e; exact en _ _ _
  split at e
  · cases e; exact en _ _ _
  split at e
  · cases e; exact en _ _ _
  · cases e
theorem AI.tk {I I' : Mem} {x : Int32} (h : AI I) (e : aTk I x = some I') : AI I' ∧ FrR I I' := by
  obtain ⟨a, l, d, h1, h2, h3, h4, h5, h6, h7, h8, h9, h10, h11⟩ := h
  rcases (show d = 0 ∨ d = 1 ∨ d = 2 ∨ d = 3 ∨ d = 4 ∨ d = 5 ∨ d = 6 ∨ d = 7 ∨ d = 8 ∨ d = 9 by omega) with rfl | rfl | rfl | rfl | rfl | rfl | rfl | rfl | rfl | rfl
  · rw [aTk_0 h6, h1, tn_nI (by omega)] at e
    split at e
    · cases e
    · cases e
      have ha := h8 rfl
      refine ⟨⟨a + 1, l, 1, by rw [uI_ne (by decide), uI_self, nI_1], by omega, fun i hi => ?_, by rw [uI_ne (by decide), uI_ne (by decide), uI_ne (by decide), uI_ne (by decide)]; exact h4, by omega, uI_self _ _ _ _, by omega, fun q => by omega, fun _ _ => ⟨a, 0, rfl, by omega, by rw [uI_ne (by decide), uI_ne (by decide), uI_self]; rfl⟩, fun q => by omega, fun _ => h11 (by omega)⟩, (((FrR.rf.st (by omega)).st (by omega)).st (by omega)).st (by omega)⟩
      rw [uI_ne (by decide), uI_ne (by decide)]
      by_cases e : i = a
      · subst e; exact ⟨0, by omega, uI_self _ _ _ _⟩
      · rw [uI_ap, if_neg (by omega), uI_ne (by decide)]; exact h3 i (by omega)
  · rw [aTk_1 h6] at e
    obtain ⟨c, z, rfl, hz, hz2⟩ := h9 (by omega) (by omega)
    exact AI.st (a := 0) h1 (by omega) h3 h4 (h11 (by omega)) hz hz2 e
  · rw [aTk_2 h6] at e
    obtain ⟨c, z, rfl, hz, hz2⟩ := h9 (by omega) (by omega)
    rw [aEnd_eq h1 (by omega) hz2 hz] at e
    split at e
    · cases e; exact ⟨AI.ed h1 (by omega) h3 h4 (h11 (by omega)) hz, FrR.aEd _ _ _ _ _ _⟩
    · cases e
  · rw [aTk_3 h6] at e
    obtain ⟨c, z, rfl, hz, hz2⟩ := h9 (by omega) (by omega)
    split at e
    · cases e
      exact ⟨⟨c + 1, l, 4, by rw [uI_ne (by decide), uI_ne (by decide)]; exact h1, by omega, fun i hi => by rw [uI_ne (by decide), uI_ne (by decide)]; exact h3 i hi, by rw [uI_ne (by decide), uI_ne (by decide)]; exact h4, by omega, uI_self _ _ _ _, by omega, fun q => by omega, fun _ _ => ⟨c, z, rfl, hz, by rw [uI_ne (by decide), uI_ne (by decide)]; exact hz2⟩, fun q => by omega, fun _ => h11 (by omega)⟩, (FrR.rf.st (by omega)).st (by omega)⟩
    · cases e
  · rw [aTk_4 h6] at e
    obtain ⟨c, z, rfl, hz, hz2⟩ := h9 (by omega) (by omega)
    rw [aEnd_eq h1 (by omega) hz2 hz] at e
    split at e
    · cases e; exact ⟨AI.ed h1 (by omega) h3 h4 (h11 (by omega)) hz, FrR.aEd _ _ _ _ _ _⟩
    · cases e
  · rw [aTk_5 h6] at e
    obtain ⟨c, rfl⟩ : ∃ c, a = c + 1 := ⟨a - 1, by have := h10 rfl; omega⟩
    split at e
    · cases e
      exact ⟨⟨c + 1, l, 6, by rw [uI_ne (by decide)]; exact h1, by omega, fun i hi => by rw [uI_ne (by decide)]; exact h3 i hi, by rw [uI_ne (by decide)]; exact h4, by omega, uI_self _ _ _ _, by omega, fun q => by omega, fun _ q => by omega, fun q => by omega, fun _ => h11 (by omega)⟩, FrR.rf.st (by omega)⟩
    split at e
    · split at e
      · cases e
        rename_i hlt
        rw [h1, show (6 : Int32) = nI 6 from rfl, nI_ltg (by omega) (by omega)] at hlt
        exact ⟨⟨c + 1, l, 0, by rw [uI_ne (by decide)]; exact h1, by omega, fun i hi => by rw [uI_ne (by decide)]; exact h3 i hi, by rw [uI_ne (by decide)]; exact h4, by omega, uI_self _ _ _ _, by omega, fun q => hlt, fun q _ => by omega, fun q => by omega, fun _ => h11 (by omega)⟩, FrR.rf.st (by omega)⟩
      · cases e
    split at e
    · rename_i hlt
      rw [h1, tn_nI (by omega), Nat.add_sub_cancel] at hlt
      obtain ⟨z, hz, hz2⟩ := h3 c (by omega)
      rw [hz2, show (3 : Int32) = nI 3 from rfl, nI_ltg (by omega) (by omega)] at hlt
      exact AI.st (a := 0) h1 (by omega) h3 h4 (h11 (by omega)) hlt hz2 e
    · cases e
  · rw [aTk_67 (Or.inl h6)] at e
    split at e
    · cases e
      exact ⟨⟨a, l, 8, by rw [uI_ne (by decide), uI_ne (by decide)]; exact h1, by omega, fun i hi => by rw [uI_ne (by decide), uI_ne (by decide)]; exact h3 i hi, by rw [uI_ne (by decide), uI_ne (by decide)]; exact h4, by omega, uI_self _ _ _ _, by omega, fun q => by omega, fun _ q => by omega, fun q => by omega, fun _ => h11 (by omega)⟩, (FrR.rf.st (by omega)).st (by omega)⟩
    · cases e
  · rw [aTk_67 (Or.inr h6)] at e
    split at e
    · cases e
      exact ⟨⟨a, l, 8, by rw [uI_ne (by decide), uI_ne (by decide)]; exact h1, by omega, fun i hi => by rw [uI_ne (by decide), uI_ne (by decide)]; exact h3 i hi, by rw [uI_ne (by decide), uI_ne (by decide)]; exact h4, by omega, uI_self _ _ _ _, by omega, fun q => by omega, fun _ q => by omega, fun q => by omega, fun _ => h11 (by omega)⟩, (FrR.rf.st (by omega)).st (by omega)⟩
    · cases e
  · rw [aTk_8 h6, h4, tn_nI (by omega)] at e
    have hl := h11 (by omega)
    split at e
    · cases e
      exact ⟨⟨a, l + 1, 9, by rw [uI_ne (by decide), uI_ne (by decide), uI_ne (by decide), uI_ne (by decide)]; exact h1, by omega, fun i hi => by rw [uI_ne (by decide), uI_ne (by decide), uI_ne (by decide), uI_ne (by decide)]; exact h3 i hi, by rw [uI_ne (by decide), uI_self, nI_1], by omega, uI_self _ _ _ _, by omega, fun q => by omega, fun _ q => by omega, fun q => by omega, fun q => absurd rfl q⟩, (((FrR.rf.st (by omega)).st (by omega)).st (by omega)).st (by omega)⟩
    · cases e
  · rw [aTk_9 h6] at e
    split at e
    · cases e
      rename_i hlt
      have hl := hlt.2
      rw [h4, show (6 : Int32) = nI 6 from rfl, nI_leg (by omega) (by omega)] at hl
      exact ⟨⟨a, l, 7, by rw [uI_ne (by decide)]; exact h1, by omega, fun i hi => by rw [uI_ne (by decide)]; exact h3 i hi, by rw [uI_ne (by decide)]; exact h4, by omega, uI_self _ _ _ _, by omega, fun q => by omega, fun _ q => by omega, fun q => by omega, fun _ => by omega⟩, FrR.rf.st (by omega)⟩
    · cases e
set_option maxHeartbeats 4000000 in
theorem c_takes {I S : Mem} {J : Mel} {Q : Option Value → Mem → Mem → Mel → Prop} {x : Int32} (h : AI I) (k : QO (aTk I x) I Q S J) : M2 mX7_takes 6 [.ref 5, .int x] I S J Q := by
  obtain ⟨a, l, d, h1, h2, h3, h4, h5, h6, h7, h8, h9, h10, h11⟩ := id h
  refine m2_of [.ref 5, .int x] moX7_takes (Nat.le_of_ble_eq_true rfl) rfl ?_
  refine wp_aload_n dX7_takes_0 rfl ?_
  refine c_getI dX7_takes_1 flRX7_21 (by first | rfl | assumption) (by omega) ?_
  rw [h6]
  rcases (show d = 0 ∨ d = 1 ∨ d = 2 ∨ d = 3 ∨ d = 4 ∨ d = 5 ∨ d = 6 ∨ d = 7 ∨ d = 8 ∨ d = 9 by omega) with rfl | rfl | rfl | rfl | rfl | rfl | rfl | rfl | rfl | rfl
  · skip
    refine wp_tswIn (off := 56) (tgt := 60) dX7_takes_4 0 rfl (by decide) (by decide) (by decide) (by decide) ?_
    refine wp_aload_n dX7_takes_60 rfl ?_
    refine wp_iload_n dX7_takes_61 rfl ?_
    refine g_callV1 (mj := mX7_takesKind) dX7_takes_62 lkRX7_42 mkX7_takesKind (by first | rfl | assumption) (by decide) (by decide) (Nat.le_of_ble_eq_true rfl) (c_tkKind h6 h1 (h8 rfl) ?_)
    rcases hS_q : aTk I x with _ | I2
    · rw [hS_q] at k
      exact fun I2 hf_q => g_zret dX7_takes_65 rfl (by decide) (k I2 hf_q)
    · rw [hS_q] at k
      exact g_zret dX7_takes_65 rfl (by decide) k
  · skip
    obtain ⟨c, z, rfl, hz_q, hz2_q⟩ := h9 (by omega) (by omega)
    refine wp_tswIn (off := 62) (tgt := 66) dX7_takes_4 1 rfl (by decide) (by decide) (by decide) (by decide) ?_
    refine wp_aload_n dX7_takes_66 rfl ?_
    refine wp_iload_n dX7_takes_67 rfl ?_
    refine g_callV1 (mj := mX7_takesStep) dX7_takes_68 lkRX7_45 mkX7_takesStep (by first | rfl | assumption) (by decide) (by decide) (Nat.le_of_ble_eq_true rfl) (c_tkStep h1 (by omega) hz2_q hz_q ?_)
    rw [aTk_1 h6] at k
    rcases hS_q : aSt I x with _ | I2
    · rw [hS_q] at k
      exact fun I2 hf_q => g_zret dX7_takes_71 rfl (by decide) (k I2 hf_q)
    · rw [hS_q] at k
      exact g_zret dX7_takes_71 rfl (by decide) k
  · skip
    obtain ⟨c, z, rfl, hz_q, hz2_q⟩ := h9 (by omega) (by omega)
    refine wp_tswIn (off := 68) (tgt := 72) dX7_takes_4 2 rfl (by decide) (by decide) (by decide) (by decide) ?_
    refine wp_aload_n dX7_takes_72 rfl ?_
    refine wp_iload_n dX7_takes_73 rfl ?_
    refine g_callV1 (mj := mX7_takesWaitSign) dX7_takes_74 lkRX7_48 mkX7_takesWaitSign (by first | rfl | assumption) (by decide) (by decide) (Nat.le_of_ble_eq_true rfl) (c_tkWait h1 (by omega) hz2_q hz_q h6 ?_)
    rcases hS_q : aTk I x with _ | I2
    · rw [hS_q] at k
      exact fun I2 hf_q => g_zret dX7_takes_77 rfl (by decide) (k I2 hf_q)
    · rw [hS_q] at k
      exact g_zret dX7_takes_77 rfl (by decide) k
  · skip
    refine wp_tswIn (off := 74) (tgt := 78) dX7_takes_4 3 rfl (by decide) (by decide) (by decide) (by decide) ?_
    refine wp_aload_n dX7_takes_78 rfl ?_
    refine wp_iload_n dX7_takes_79 rfl ?_
    refine g_callV1 (mj := mX7_takesTarget) dX7_takes_80 lkRX7_51 mkX7_takesTarget (by first | rfl | assumption) (by decide) (by decide) (Nat.le_of_ble_eq_true rfl) (c_tkTarget h6 ?_)
    rcases hS_q : aTk I x with _ | I2
    · rw [hS_q] at k
      exact fun I2 hf_q => g_zret dX7_takes_83 rfl (by decide) (k I2 hf_q)
    · rw [hS_q] at k
      exact g_zret dX7_takes_83 rfl (by decide) k
  · skip
    obtain ⟨c, z, rfl, hz_q, hz2_q⟩ := h9 (by omega) (by omega)
    refine wp_tswIn (off := 80) (tgt := 84) dX7_takes_4 4 rfl (by decide) (by decide) (by decide) (by decide) ?_
    refine wp_aload_n dX7_takes_84 rfl ?_
    refine wp_iload_n dX7_takes_85 rfl ?_
    refine g_callV1 (mj := mX7_takesSendSign) dX7_takes_86 lkRX7_54 mkX7_takesSendSign (by first | rfl | assumption) (by decide) (by decide) (Nat.le_of_ble_eq_true rfl) (c_tkSend h1 (by omega) hz2_q hz_q h6 ?_)
    rcases hS_q : aTk I x with _ | I2
    · rw [hS_q] at k
      exact fun I2 hf_q => g_zret dX7_takes_89 rfl (by decide) (k I2 hf_q)
    · rw [hS_q] at k
      exact g_zret dX7_takes_89 rfl (by decide) k
  · skip
    obtain ⟨c, rfl⟩ : ∃ c, a = c + 1 := ⟨a - 1, by have := h10 rfl; omega⟩
    obtain ⟨z, hz_q, hz2_q⟩ := h3 c (by omega)
    refine wp_tswIn (off := 86) (tgt := 90) dX7_takes_4 5 rfl (by decide) (by decide) (by decide) (by decide) ?_
    refine wp_aload_n dX7_takes_90 rfl ?_
    refine wp_iload_n dX7_takes_91 rfl ?_
    refine g_callV1 (mj := mX7_takesAfterStep) dX7_takes_92 lkRX7_57 mkX7_takesAfterStep (by first | rfl | assumption) (by decide) (by decide) (Nat.le_of_ble_eq_true rfl) (c_tkAfter h1 (by omega) hz2_q hz_q h6 ?_)
    rcases hS_q : aTk I x with _ | I2
    · rw [hS_q] at k
      exact fun I2 hf_q => g_zret dX7_takes_95 rfl (by decide) (k I2 hf_q)
    · rw [hS_q] at k
      exact g_zret dX7_takes_95 rfl (by decide) k
  · skip
    refine wp_tswIn (off := 104) (tgt := 108) dX7_takes_4 6 rfl (by decide) (by decide) (by decide) (by decide) ?_
    refine wp_aload_n dX7_takes_108 rfl ?_
    refine wp_iload_n dX7_takes_109 rfl ?_
    refine g_callV1 (mj := mX7_takesOne) dX7_takes_110 lkRX7_66 mkX7_takesOne (by first | rfl | assumption) (by decide) (by decide) (Nat.le_of_ble_eq_true rfl) (c_tkOne (by first | exact Or.inl h6 | exact Or.inr h6) ?_)
    rcases hS_q : aTk I x with _ | I2
    · rw [hS_q] at k
      exact fun I2 hf_q => g_zret dX7_takes_113 rfl (by decide) (k I2 hf_q)
    · rw [hS_q] at k
      exact g_zret dX7_takes_113 rfl (by decide) k
  · skip
    refine wp_tswIn (off := 104) (tgt := 108) dX7_takes_4 7 rfl (by decide) (by decide) (by decide) (by decide) ?_
    refine wp_aload_n dX7_takes_108 rfl ?_
    refine wp_iload_n dX7_takes_109 rfl ?_
    refine g_callV1 (mj := mX7_takesOne) dX7_takes_110 lkRX7_66 mkX7_takesOne (by first | rfl | assumption) (by decide) (by decide) (Nat.le_of_ble_eq_true rfl) (c_tkOne (by first | exact Or.inl h6 | exact Or.inr h6) ?_)
    rcases hS_q : aTk I x with _ | I2
    · rw [hS_q] at k
      exact fun I2 hf_q => g_zret dX7_takes_113 rfl (by decide) (k I2 hf_q)
    · rw [hS_q] at k
      exact g_zret dX7_takes_113 rfl (by decide) k
  · skip
    refine wp_tswIn (off := 98) (tgt := 102) dX7_takes_4 8 rfl (by decide) (by decide) (by decide) (by decide) ?_
    refine wp_aload_n dX7_takes_102 rfl ?_
    refine wp_iload_n dX7_takes_103 rfl ?_
    refine g_callV1 (mj := mX7_takesOther) dX7_takes_104 lkRX7_63 mkX7_takesOther (by first | rfl | assumption) (by decide) (by decide) (Nat.le_of_ble_eq_true rfl) (c_tkOther h4 (h11 (by omega)) h6 ?_)
    rcases hS_q : aTk I x with _ | I2
    · rw [hS_q] at k
      exact fun I2 hf_q => g_zret dX7_takes_107 rfl (by decide) (k I2 hf_q)
    · rw [hS_q] at k
      exact g_zret dX7_takes_107 rfl (by decide) k
  · skip
    refine wp_tswIn (off := 92) (tgt := 96) dX7_takes_4 9 rfl (by decide) (by decide) (by decide) (by decide) ?_
    refine wp_aload_n dX7_takes_96 rfl ?_
    refine wp_iload_n dX7_takes_97 rfl ?_
    refine g_callV1 (mj := mX7_takesAfterLink) dX7_takes_98 lkRX7_60 mkX7_takesAfterLink (by first | rfl | assumption) (by decide) (by decide) (Nat.le_of_ble_eq_true rfl) (c_tkAfterL h6 ?_)
    rcases hS_q : aTk I x with _ | I2
    · rw [hS_q] at k
      exact fun I2 hf_q => g_zret dX7_takes_101 rfl (by decide) (k I2 hf_q)
    · rw [hS_q] at k
      exact g_zret dX7_takes_101 rfl (by decide) k
def aRun (P : Nat → Int32) : Nat → Nat → Mem → Nat × Mem
  | 0, k, I => (k, I)
  | m + 1, k, I => match aTk I (P k) with
    | none => (k, I)
    | some I' => aRun P m (k + 1) I'
def aIni (I : Mem) : Mem := uI (uI (uI I 6 6 0) 12 2 0) 5 1 0
theorem aRun_no {P : Nat → Int32} {m k : Nat} {I : Mem} (e : aTk I (P k) = none) : aRun P (m + 1) k I = (k, I) := by simp only [aRun]; rw [e]
theorem aRun_go {P : Nat → Int32} {m k : Nat} {I I' : Mem} (e : aTk I (P k) = some I') : aRun P (m + 1) k I = aRun P m (k + 1) I' := by simp only [aRun]; rw [e]
theorem AI.ini (I : Mem) : AI (aIni I) := by
  unfold aIni
  exact ⟨0, 0, 0, by rw [uI_ne (by decide), uI_ne (by decide), uI_self]; rfl, by omega, fun i hi => by omega, by rw [uI_ne (by decide), uI_self]; rfl, by omega, uI_self _ _ _ _, by omega, fun _ => by omega, fun q => by omega, fun q => by omega, fun _ => by omega⟩
set_option maxHeartbeats 4000000 in
theorem l_read {I0 S : Mem} {J : Mel} {Q : Option Value → Mem → Mem → Mel → Prop} {p : Nat} (hp_q : I0 3 1 = nI p) (hp84_q : p ≤ 84) : ∀ (x : Nat) (I : Mem), (x ≤ p) → (AI I) → (FrR I0 I) → (∀ I', FrR I0 I' → ((aRun (I0 4) (p - x) x I).1 = p → I' = (aRun (I0 4) (p - x) x I).2) → Q (some (.int (nI (aRun (I0 4) (p - x) x I).1))) I' S J) → W2 mX7_readTillFault 7 Q I S J 14 [.ref 5, .ref 3, .int (nI x)] [] := by
  intro x I
  induction hm : p - x using Nat.strongRecOn generalizing x I with
  | _ c ih =>
    intro hx_q hA_q hf_q k
    rw [← hm] at k
    have hq_q : I 3 1 = nI p := by rw [hf_q 3 (by omega)]; exact hp_q
    have hr_q : I 4 = I0 4 := hf_q 4 (by omega)
    refine wp_iload_n dX7_readTillFault_14 rfl ?_
    refine wp_aload_n dX7_readTillFault_15 rfl ?_
    refine c_getI dX7_readTillFault_16 flRX7_25 (by first | rfl | assumption) (by omega) ?_
    refine wp_icmp_ge dX7_readTillFault_19 (fun h19 => ?_) (fun h19 => ?_)
    · skip
      refine wp_aload_n dX7_readTillFault_43 rfl ?_
      refine c_getI dX7_readTillFault_44 flRX7_25 (by first | rfl | assumption) (by omega) ?_
      refine g_iret dX7_readTillFault_47 rfl ?_
      have e_q : x = p := by rw [hq_q, nI_leg (by omega) (by omega)] at h19; omega
      subst e_q
      rw [hq_q]
      rw [Nat.sub_self] at k
      exact k I hf_q (fun _ => rfl)
    · skip
      have hx2_q : x < p := by rw [hq_q, nI_leg (by omega) (by omega)] at h19; omega
      have em_q : p - x = p - (x + 1) + 1 := by omega
      rw [em_q] at k
      refine wp_aload_n dX7_readTillFault_22 rfl ?_
      refine wp_aload_n dX7_readTillFault_23 rfl ?_
      refine wp_getA (by first | rfl | assumption) dX7_readTillFault_24 flRX7_30 (by first | rfl | assumption) ?_
      refine wp_iload_n dX7_readTillFault_27 rfl ?_
      refine c_iald dX7_readTillFault_28 rfl rfl (by omega) (by omega) (by decide) ?_
      rw [hr_q]
      refine g_callV1 (mj := mX7_takes) dX7_readTillFault_29 lkRX7_34 mkX7_takes (by first | rfl | assumption) (by decide) (by decide) (Nat.le_of_ble_eq_true rfl) (c_takes hA_q ?_)
      rcases hS_q : aTk I (I0 4 x) with _ | I2
      · rw [aRun_no hS_q] at k
        intro I2 hf2_q
        refine wp_if_ne dX7_readTillFault_32 (fun h32 => absurd h32 (by decide)) (fun h32 => ?_)
        refine wp_iload_n dX7_readTillFault_35 rfl ?_
        refine g_iret dX7_readTillFault_36 rfl ?_
        exact k I2 (hf_q.tr hf2_q) (fun q => by dsimp only at q; omega)
      · rw [aRun_go hS_q] at k
        obtain ⟨hA2_q, hf2_q⟩ := hA_q.tk hS_q
        show W2 mX7_readTillFault 7 Q I2 S J 32 [.ref 5, .ref 3, .int (nI x)] [.int 1]
        refine wp_if_ne dX7_readTillFault_32 (fun h32 => ?_) (fun h32 => absurd h32 (by decide))
        refine ic_3_2 (nI (x + 1)) dX7_readTillFault_37 (nI_inc x) (by decide) rfl ?_
        refine wp_goto dX7_readTillFault_40 ?_
        exact ih _ (by omega) (x + 1) I2 rfl (by omega) hA2_q (hf_q.tr hf2_q) k
set_option maxHeartbeats 4000000 in
theorem c_readTill {I S : Mem} {J : Mel} {Q : Option Value → Mem → Mem → Mel → Prop} {p : Nat} (hp_q : I 3 1 = nI p) (hp84_q : p ≤ 84) (k : ∀ I', FrR I I' → ((aRun (I 4) p 0 (aIni I)).1 = p → I' = (aRun (I 4) p 0 (aIni I)).2) → Q (some (.int (nI (aRun (I 4) p 0 (aIni I)).1))) I' S J) : M2 mX7_readTillFault 7 [.ref 5, .ref 3] I S J Q := by
  refine m2_of [.ref 5, .ref 3, dum] moX7_readTillFault (Nat.le_of_ble_eq_true rfl) rfl ?_
  refine wp_aload_n dX7_readTillFault_0 rfl ?_
  refine wp_getA (by first | rfl | assumption) dX7_readTillFault_1 flRX7_12 (by first | rfl | assumption) ?_
  refine g_callV0 (mj := mX6_clear) dX7_readTillFault_4 lkRX7_18 mkX6_clear (by first | rfl | assumption) (by decide) (by decide) (Nat.le_of_ble_eq_true rfl) (c_clear ?_)
  refine wp_aload_n dX7_readTillFault_7 rfl ?_
  refine wp_iconst 0 dX7_readTillFault_8 (by decide) ?_
  refine c_putI dX7_readTillFault_9 flRX7_21 (by first | rfl | assumption) (by omega) ?_
  refine wp_iconst 0 dX7_readTillFault_12 (by decide) ?_
  refine st_i_3_2 dX7_readTillFault_13 (by decide) rfl ?_
  exact l_read hp_q hp84_q 0 _ (by omega) (AI.ini I) (((FrR.rf.st (by omega)).st (by omega)).st (by omega)) k
