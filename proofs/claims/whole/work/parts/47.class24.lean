def sto (a : Nat) (I : Mem) : Prop := ∀ i, i < a → ∀ j, j < tn (I 8 i) → I 9 (3 * i + j) = 2 → I 10 (3 * i + j) < nI a
theorem aRun_le {P : Nat → Int32} : ∀ (m k : Nat) (I : Mem), (aRun P m k I).1 ≤ k + m := by
  intro m
  induction m with
  | zero => intro k I; exact Nat.le_refl _
  | succ m ih =>
    intro k I
    rcases e : aTk I (P k) with _ | I2
    · rw [aRun_no e]; dsimp only; omega
    · rw [aRun_go e]; have := ih (k + 1) I2; omega
theorem AI.run {P : Nat → Int32} : ∀ (m k : Nat) (I : Mem), AI I → AI (aRun P m k I).2 ∧ FrR I (aRun P m k I).2 := by
  intro m
  induction m with
  | zero => intro k I h; exact ⟨h, FrR.rf⟩
  | succ m ih =>
    intro k I h
    rcases e : aTk I (P k) with _ | I2
    · rw [aRun_no e]; exact ⟨h, FrR.rf⟩
    · rw [aRun_go e]; obtain ⟨q1, q2⟩ := h.tk e; obtain ⟨q3, q4⟩ := ih (k + 1) I2 q1; exact ⟨q3, q2.tr q4⟩
set_option maxHeartbeats 4000000 in
theorem l_own2 {I S : Mem} {J : Mel} {Q : Option Value → Mem → Mem → Mel → Prop} {a : Nat} (ha_q : I 6 6 = nI a) (ha6_q : a ≤ 6) (hz_q : ∀ i, i < a → ∃ z, z ≤ 3 ∧ I 8 i = nI z) {x z : Nat} (hx_q : x < a) (hzx_q : I 8 x = nI z) (hz3_q : z ≤ 3) (k : ∀ r, (r = 1 ∧ sto a I) ∨ (r = 0 ∧ ¬ sto a I) → Q (some (.int r)) I S J) (k2 : (∀ j, j < z → I 9 (3 * x + j) = 2 → I 10 (3 * x + j) < nI a) → ∀ u v, W2 mX6_sendsToItsOwn 2 Q I S J 60 [.ref 6, .int (nI x), u, v] []) : ∀ (y : Nat) (v : Value), (y ≤ z) → (∀ j, j < y → I 9 (3 * x + j) = 2 → I 10 (3 * x + j) < nI a) → W2 mX6_sendsToItsOwn 2 Q I S J 12 [.ref 6, .int (nI x), .int (nI y), v] [] := by
  intro y v
  induction hm : z - y using Nat.strongRecOn generalizing y v with
  | _ c ih =>
    intro hy_q hj_q
    refine wp_iload_n dX6_sendsToItsOwn_12 rfl ?_
    refine wp_aload_n dX6_sendsToItsOwn_13 rfl ?_
    refine wp_getA (by first | rfl | assumption) dX6_sendsToItsOwn_14 flRX6_15 (by first | rfl | assumption) ?_
    refine wp_iload_n dX6_sendsToItsOwn_17 rfl ?_
    refine c_iald dX6_sendsToItsOwn_18 rfl rfl (by omega) (by omega) (by decide) ?_
    refine wp_icmp_ge dX6_sendsToItsOwn_19 (fun h19 => ?_) (fun h19 => ?_)
    · skip
      have e_q : y = z := by rw [hzx_q, nI_leg (by omega) (by omega)] at h19; omega
      subst e_q; exact k2 hj_q _ _
    · skip
      have hy2_q : y < z := by rw [hzx_q, nI_leg (by omega) (by omega)] at h19; omega
      refine wp_aload_n dX6_sendsToItsOwn_22 rfl ?_
      refine wp_iload_n dX6_sendsToItsOwn_23 rfl ?_
      refine wp_iload_n dX6_sendsToItsOwn_24 rfl ?_
      refine g_callV2 (mj := mX6_placeOf) dX6_sendsToItsOwn_25 lkRX6_45 mkX6_placeOf (by first | rfl | assumption) (by decide) (by decide) (Nat.le_of_ble_eq_true rfl) (c_placeOf ?_)
      refine st_i_4_3 dX6_sendsToItsOwn_28 (by decide) rfl ?_
      refine wp_aload_n dX6_sendsToItsOwn_29 rfl ?_
      refine wp_getA (by first | rfl | assumption) dX6_sendsToItsOwn_30 flRX6_18 (by first | rfl | assumption) ?_
      refine wp_iload_n dX6_sendsToItsOwn_33 rfl ?_
      refine c_iald dX6_sendsToItsOwn_34 rfl rfl (by omega) (by omega) (by decide) ?_
      refine wp_iconst 2 dX6_sendsToItsOwn_35 (by decide) ?_
      refine wp_icmp_ne dX6_sendsToItsOwn_36 (fun h36 => ?_) (fun h36 => ?_)
      · skip
        refine ic_4_2 (nI (y + 1)) dX6_sendsToItsOwn_54 (nI_inc y) (by decide) rfl ?_
        refine wp_goto dX6_sendsToItsOwn_57 ?_
        refine ih _ (by omega) (y + 1) _ rfl (by omega) (fun j hj2_q h2_q => ?_)
        by_cases e_q : j = y
        · subst e_q; first | exact absurd h2_q h36 | (rw [ha_q] at h49; exact h49)
        · exact hj_q j (by omega) h2_q
      · skip
        refine wp_aload_n dX6_sendsToItsOwn_39 rfl ?_
        refine wp_getA (by first | rfl | assumption) dX6_sendsToItsOwn_40 flRX6_21 (by first | rfl | assumption) ?_
        refine wp_iload_n dX6_sendsToItsOwn_43 rfl ?_
        refine c_iald dX6_sendsToItsOwn_44 rfl rfl (by omega) (by omega) (by decide) ?_
        refine wp_aload_n dX6_sendsToItsOwn_45 rfl ?_
        refine c_getI dX6_sendsToItsOwn_46 flRX6_34 (by first | rfl | assumption) (by omega) ?_
        refine wp_icmp_lt dX6_sendsToItsOwn_49 (fun h49 => ?_) (fun h49 => ?_)
        · skip
          refine ic_4_2 (nI (y + 1)) dX6_sendsToItsOwn_54 (nI_inc y) (by decide) rfl ?_
          refine wp_goto dX6_sendsToItsOwn_57 ?_
          refine ih _ (by omega) (y + 1) _ rfl (by omega) (fun j hj2_q h2_q => ?_)
          by_cases e_q : j = y
          · subst e_q; first | exact absurd h2_q h36 | (rw [ha_q] at h49; exact h49)
          · exact hj_q j (by omega) h2_q
        · skip
          refine wp_iconst 0 dX6_sendsToItsOwn_52 (by decide) ?_
          refine g_zret dX6_sendsToItsOwn_53 rfl (by first | decide | assumption) ?_
          refine k _ (Or.inr ⟨rfl, fun q => h49 ?_⟩)
          rw [ha_q]; exact q x hx_q y (by rw [hzx_q, tn_nI (by omega)]; exact hy2_q) (by first | exact h36 | exact Classical.not_not.mp h36)
set_option maxHeartbeats 4000000 in
theorem l_own {I S : Mem} {J : Mel} {Q : Option Value → Mem → Mem → Mel → Prop} {a : Nat} (ha_q : I 6 6 = nI a) (ha6_q : a ≤ 6) (hz_q : ∀ i, i < a → ∃ z, z ≤ 3 ∧ I 8 i = nI z) (k : ∀ r, (r = 1 ∧ sto a I) ∨ (r = 0 ∧ ¬ sto a I) → Q (some (.int r)) I S J) : ∀ (x : Nat) (u v : Value), (x ≤ a) → (∀ i, i < x → ∀ j, j < tn (I 8 i) → I 9 (3 * i + j) = 2 → I 10 (3 * i + j) < nI a) → W2 mX6_sendsToItsOwn 2 Q I S J 2 [.ref 6, .int (nI x), u, v] [] := by
  intro x u v
  induction hm : a - x using Nat.strongRecOn generalizing x u v with
  | _ c ih =>
    intro hx_q hj_q
    refine wp_iload_n dX6_sendsToItsOwn_2 rfl ?_
    refine wp_aload_n dX6_sendsToItsOwn_3 rfl ?_
    refine c_getI dX6_sendsToItsOwn_4 flRX6_34 (by first | rfl | assumption) (by omega) ?_
    refine wp_icmp_ge dX6_sendsToItsOwn_7 (fun h7 => ?_) (fun h7 => ?_)
    · skip
      refine wp_iconst 1 dX6_sendsToItsOwn_66 (by decide) ?_
      refine g_zret dX6_sendsToItsOwn_67 rfl (by first | decide | assumption) ?_
      have e_q : x = a := by rw [ha_q, nI_leg (by omega) (by omega)] at h7; omega
      subst e_q; exact k _ (Or.inl ⟨rfl, hj_q⟩)
    · skip
      have hx2_q : x < a := by rw [ha_q, nI_leg (by omega) (by omega)] at h7; omega
      obtain ⟨z, hz3_q, hzx_q⟩ := hz_q x hx2_q
      refine wp_iconst 0 dX6_sendsToItsOwn_10 (by decide) ?_
      refine st_i_4_2 dX6_sendsToItsOwn_11 (by decide) rfl ?_
      refine l_own2 ha_q ha6_q hz_q hx2_q hzx_q hz3_q k (fun q_q u2 v2 => ?_) 0 _ (by omega) (fun j h => by omega)
      refine ic_4_1 (nI (x + 1)) dX6_sendsToItsOwn_60 (nI_inc x) (by decide) rfl ?_
      refine wp_goto dX6_sendsToItsOwn_63 ?_
      refine ih _ (by omega) (x + 1) _ _ rfl (by omega) (fun i hi_q j hj2_q h2_q => ?_)
      by_cases e_q : i = x
      · subst e_q; rw [hzx_q, tn_nI (by omega)] at hj2_q; exact q_q j hj2_q h2_q
      · exact hj_q i (by omega) j hj2_q h2_q
set_option maxHeartbeats 4000000 in
theorem c_own {I S : Mem} {J : Mel} {Q : Option Value → Mem → Mem → Mel → Prop} {a : Nat} (ha_q : I 6 6 = nI a) (ha6_q : a ≤ 6) (hz_q : ∀ i, i < a → ∃ z, z ≤ 3 ∧ I 8 i = nI z) (k : ∀ r, (r = 1 ∧ sto a I) ∨ (r = 0 ∧ ¬ sto a I) → Q (some (.int r)) I S J) : M2 mX6_sendsToItsOwn 2 [.ref 6] I S J Q := by
  refine m2_of [.ref 6, dum, dum, dum] moX6_sendsToItsOwn (Nat.le_of_ble_eq_true rfl) rfl ?_
  refine wp_iconst 0 dX6_sendsToItsOwn_0 (by decide) ?_
  refine st_i_4_1 dX6_sendsToItsOwn_1 (by decide) rfl ?_
  exact l_own ha_q ha6_q hz_q k 0 _ _ (by omega) (fun i h => by omega)
set_option maxHeartbeats 4000000 in
theorem c_isWhole {I S : Mem} {J : Mel} {Q : Option Value → Mem → Mem → Mel → Prop} {a : Nat} (ha_q : I 6 6 = nI a) (ha6_q : a ≤ 6) (hz_q : ∀ i, i < a → ∃ z, z ≤ 3 ∧ I 8 i = nI z) (k : ∀ r, (r = 1 ∧ (I 5 1 = 6 ∨ I 5 1 = 9) ∧ sto a I) ∨ (r = 0 ∧ ¬ ((I 5 1 = 6 ∨ I 5 1 = 9) ∧ sto a I)) → Q (some (.int r)) I S J) : M2 mX7_isWhole 3 [.ref 5] I S J Q := by
  refine m2_of [.ref 5] moX7_isWhole (Nat.le_of_ble_eq_true rfl) rfl ?_
  refine wp_aload_n dX7_isWhole_0 rfl ?_
  refine c_getI dX7_isWhole_1 flRX7_21 (by first | rfl | assumption) (by omega) ?_
  refine wp_bipush 6 dX7_isWhole_4 (by decide) ?_
  refine wp_icmp_eq dX7_isWhole_6 (fun h6 => ?_) (fun h6 => ?_)
  · skip
    refine wp_aload_n dX7_isWhole_18 rfl ?_
    refine wp_getA (by first | rfl | assumption) dX7_isWhole_19 flRX7_12 (by first | rfl | assumption) ?_
    refine g_callV0 (mj := mX6_sendsToItsOwn) dX7_isWhole_22 lkRX7_38 mkX6_sendsToItsOwn (by first | rfl | assumption) (by decide) (by decide) (Nat.le_of_ble_eq_true rfl) (c_own ha_q ha6_q hz_q (fun r hr_q => ?_))
    refine wp_if_eq dX7_isWhole_25 (fun h25 => ?_) (fun h25 => ?_)
    · skip
      refine wp_iconst 0 dX7_isWhole_32 (by decide) ?_
      refine g_zret dX7_isWhole_33 rfl (by first | decide | assumption) ?_
      first | exact k _ (Or.inr ⟨rfl, fun q => q.1.elim h6 h15⟩) | (have hr2_q := hr_q.resolve_left (fun q => by rw [q.1] at h25; exact absurd h25 (by decide)); exact k _ (Or.inr ⟨rfl, fun q => hr2_q.2 q.2⟩)) | (have hr2_q := hr_q.resolve_right (fun q => h25 q.1); exact k _ (Or.inl ⟨rfl, by first | exact Or.inl h6 | exact Or.inr (by first | exact h15 | exact Classical.not_not.mp h15), hr2_q.2⟩))
    · skip
      refine wp_iconst 1 dX7_isWhole_28 (by decide) ?_
      refine wp_goto dX7_isWhole_29 ?_
      refine g_zret dX7_isWhole_33 rfl (by first | decide | assumption) ?_
      first | exact k _ (Or.inr ⟨rfl, fun q => q.1.elim h6 h15⟩) | (have hr2_q := hr_q.resolve_left (fun q => by rw [q.1] at h25; exact absurd h25 (by decide)); exact k _ (Or.inr ⟨rfl, fun q => hr2_q.2 q.2⟩)) | (have hr2_q := hr_q.resolve_right (fun q => h25 q.1); exact k _ (Or.inl ⟨rfl, by first | exact Or.inl h6 | exact Or.inr (by first | exact h15 | exact Classical.not_not.mp h15), hr2_q.2⟩))
  · skip
    refine wp_aload_n dX7_isWhole_9 rfl ?_
    refine c_getI dX7_isWhole_10 flRX7_21 (by first | rfl | assumption) (by omega) ?_
    refine wp_bipush 9 dX7_isWhole_13 (by decide) ?_
    refine wp_icmp_ne dX7_isWhole_15 (fun h15 => ?_) (fun h15 => ?_)
    · skip
      refine wp_iconst 0 dX7_isWhole_32 (by decide) ?_
      refine g_zret dX7_isWhole_33 rfl (by first | decide | assumption) ?_
      first | exact k _ (Or.inr ⟨rfl, fun q => q.1.elim h6 h15⟩) | (have hr2_q := hr_q.resolve_left (fun q => by rw [q.1] at h25; exact absurd h25 (by decide)); exact k _ (Or.inr ⟨rfl, fun q => hr2_q.2 q.2⟩)) | (have hr2_q := hr_q.resolve_right (fun q => h25 q.1); exact k _ (Or.inl ⟨rfl, by first | exact Or.inl h6 | exact Or.inr (by first | exact h15 | exact Classical.not_not.mp h15), hr2_q.2⟩))
    · skip
      refine wp_aload_n dX7_isWhole_18 rfl ?_
      refine wp_getA (by first | rfl | assumption) dX7_isWhole_19 flRX7_12 (by first | rfl | assumption) ?_
      refine g_callV0 (mj := mX6_sendsToItsOwn) dX7_isWhole_22 lkRX7_38 mkX6_sendsToItsOwn (by first | rfl | assumption) (by decide) (by decide) (Nat.le_of_ble_eq_true rfl) (c_own ha_q ha6_q hz_q (fun r hr_q => ?_))
      refine wp_if_eq dX7_isWhole_25 (fun h25 => ?_) (fun h25 => ?_)
      · skip
        refine wp_iconst 0 dX7_isWhole_32 (by decide) ?_
        refine g_zret dX7_isWhole_33 rfl (by first | decide | assumption) ?_
        first | exact k _ (Or.inr ⟨rfl, fun q => q.1.elim h6 h15⟩) | (have hr2_q := hr_q.resolve_left (fun q => by rw [q.1] at h25; exact absurd h25 (by decide)); exact k _ (Or.inr ⟨rfl, fun q => hr2_q.2 q.2⟩)) | (have hr2_q := hr_q.resolve_right (fun q => h25 q.1); exact k _ (Or.inl ⟨rfl, by first | exact Or.inl h6 | exact Or.inr (by first | exact h15 | exact Classical.not_not.mp h15), hr2_q.2⟩))
      · skip
        refine wp_iconst 1 dX7_isWhole_28 (by decide) ?_
        refine wp_goto dX7_isWhole_29 ?_
        refine g_zret dX7_isWhole_33 rfl (by first | decide | assumption) ?_
        first | exact k _ (Or.inr ⟨rfl, fun q => q.1.elim h6 h15⟩) | (have hr2_q := hr_q.resolve_left (fun q => by rw [q.1] at h25; exact absurd h25 (by decide)); exact k _ (Or.inr ⟨rfl, fun q => hr2_q.2 q.2⟩)) | (have hr2_q := hr_q.resolve_right (fun q => h25 q.1); exact k _ (Or.inl ⟨rfl, by first | exact Or.inl h6 | exact Or.inr (by first | exact h15 | exact Classical.not_not.mp h15), hr2_q.2⟩))
def cpP (I I' : Mem) (l : Nat) : Prop := I' 15 6 = I 6 6 ∧ (∀ j, j < 6 → I' 16 j = I 7 j ∧ I' 17 j = I 8 j) ∧ (∀ j, j < 18 → I' 18 j = I 9 j ∧ I' 19 j = I 10 j ∧ I' 20 j = I 11 j) ∧ I' 21 2 = nI l ∧ (∀ j, j < l → I' 22 j = I 13 j ∧ I' 23 j = I 14 j) ∧ ∀ b, (b < 15 ∨ 24 ≤ b) → I' b = I b
theorem lks21 : IsLinks 21 := by unfold IsLinks; decide
theorem lks26 : IsLinks 26 := by unfold IsLinks; decide
theorem cpy_ne {I : Mem} {a d n b : Nat} (h : b ≠ d) : cpy I a d n b = I b := by funext k; simp [cpy, h]
theorem cpy_at {I : Mem} {a d n k : Nat} (h : k < n) : cpy I a d n d k = I a k := by simp [cpy, h]
set_option maxHeartbeats 4000000 in
theorem c_pcopy {I S : Mem} {J : Mel} {Q : Option Value → Mem → Mem → Mel → Prop} {l : Nat} (hl_q : I 12 2 = nI l) (hl6_q : l ≤ 6) (k : ∀ I', cpP I I' l → Q none I' S J) : M2 mX6_copyFrom 2 [.ref 15, .ref 6] I S J Q := by
  refine m2_of [.ref 15, .ref 6] moX6_copyFrom (Nat.le_of_ble_eq_true rfl) rfl ?_
  refine wp_aload_n dX6_copyFrom_0 rfl ?_
  refine wp_aload_n dX6_copyFrom_1 rfl ?_
  refine c_getI dX6_copyFrom_2 flRX6_34 (by first | rfl | assumption) (by omega) ?_
  refine c_putI dX6_copyFrom_5 flRX6_34 (by first | rfl | assumption) (by omega) ?_
  refine wp_aload_n dX6_copyFrom_8 rfl ?_
  refine wp_getA (by first | rfl | assumption) dX6_copyFrom_9 flRX6_9 (by first | rfl | assumption) ?_
  refine wp_iconst 0 dX6_copyFrom_12 (by decide) ?_
  refine wp_aload_n dX6_copyFrom_13 rfl ?_
  refine wp_getA (by first | rfl | assumption) dX6_copyFrom_14 flRX6_9 (by first | rfl | assumption) ?_
  refine wp_iconst 0 dX6_copyFrom_17 (by decide) ?_
  refine wp_bipush 6 dX6_copyFrom_18 (by decide) ?_
  refine g_copy dX6_copyFrom_20 lkRX6_49 (by first | rfl | assumption) (by first | rfl | assumption) rfl rfl rfl (by decide) (by decide) (by decide) (by decide) (Nat.le_of_ble_eq_true rfl) ?_
  refine wp_aload_n dX6_copyFrom_23 rfl ?_
  refine wp_getA (by first | rfl | assumption) dX6_copyFrom_24 flRX6_15 (by first | rfl | assumption) ?_
  refine wp_iconst 0 dX6_copyFrom_27 (by decide) ?_
  refine wp_aload_n dX6_copyFrom_28 rfl ?_
  refine wp_getA (by first | rfl | assumption) dX6_copyFrom_29 flRX6_15 (by first | rfl | assumption) ?_
  refine wp_iconst 0 dX6_copyFrom_32 (by decide) ?_
  refine wp_bipush 6 dX6_copyFrom_33 (by decide) ?_
  refine g_copy dX6_copyFrom_35 lkRX6_49 (by first | rfl | assumption) (by first | rfl | assumption) rfl rfl rfl (by decide) (by decide) (by decide) (by decide) (Nat.le_of_ble_eq_true rfl) ?_
  refine wp_aload_n dX6_copyFrom_38 rfl ?_
  refine wp_getA (by first | rfl | assumption) dX6_copyFrom_39 flRX6_18 (by first | rfl | assumption) ?_
  refine wp_iconst 0 dX6_copyFrom_42 (by decide) ?_
  refine wp_aload_n dX6_copyFrom_43 rfl ?_
  refine wp_getA (by first | rfl | assumption) dX6_copyFrom_44 flRX6_18 (by first | rfl | assumption) ?_
  refine wp_iconst 0 dX6_copyFrom_47 (by decide) ?_
  refine wp_bipush 18 dX6_copyFrom_48 (by decide) ?_
  refine g_copy dX6_copyFrom_50 lkRX6_49 (by first | rfl | assumption) (by first | rfl | assumption) rfl rfl rfl (by decide) (by decide) (by decide) (by decide) (Nat.le_of_ble_eq_true rfl) ?_
  refine wp_aload_n dX6_copyFrom_53 rfl ?_
  refine wp_getA (by first | rfl | assumption) dX6_copyFrom_54 flRX6_21 (by first | rfl | assumption) ?_
  refine wp_iconst 0 dX6_copyFrom_57 (by decide) ?_
  refine wp_aload_n dX6_copyFrom_58 rfl ?_
  refine wp_getA (by first | rfl | assumption) dX6_copyFrom_59 flRX6_21 (by first | rfl | assumption) ?_
  refine wp_iconst 0 dX6_copyFrom_62 (by decide) ?_
  refine wp_bipush 18 dX6_copyFrom_63 (by decide) ?_
  refine g_copy dX6_copyFrom_65 lkRX6_49 (by first | rfl | assumption) (by first | rfl | assumption) rfl rfl rfl (by decide) (by decide) (by decide) (by decide) (Nat.le_of_ble_eq_true rfl) ?_
  refine wp_aload_n dX6_copyFrom_68 rfl ?_
  refine wp_getA (by first | rfl | assumption) dX6_copyFrom_69 flRX6_24 (by first | rfl | assumption) ?_
  refine wp_iconst 0 dX6_copyFrom_72 (by decide) ?_
  refine wp_aload_n dX6_copyFrom_73 rfl ?_
  refine wp_getA (by first | rfl | assumption) dX6_copyFrom_74 flRX6_24 (by first | rfl | assumption) ?_
  refine wp_iconst 0 dX6_copyFrom_77 (by decide) ?_
  refine wp_bipush 18 dX6_copyFrom_78 (by decide) ?_
  refine g_copy dX6_copyFrom_80 lkRX6_49 (by first | rfl | assumption) (by first | rfl | assumption) rfl rfl rfl (by decide) (by decide) (by decide) (by decide) (Nat.le_of_ble_eq_true rfl) ?_
  refine wp_aload_n dX6_copyFrom_83 rfl ?_
  refine wp_getA (by first | rfl | assumption) dX6_copyFrom_84 flRX6_30 (by first | rfl | assumption) ?_
  refine wp_aload_n dX6_copyFrom_87 rfl ?_
  refine wp_getA (by first | rfl | assumption) dX6_copyFrom_88 flRX6_30 (by first | rfl | assumption) ?_
  refine g_callV1 (mj := mX4_copyFrom) dX6_copyFrom_91 lkRX6_55 mkX4_copyFrom (by first | rfl | assumption) (by decide) (by decide) (Nat.le_of_ble_eq_true rfl) (c_lcopy lks21 lks12 (by omega) (by rw [cpy_ne (by decide), cpy_ne (by decide), cpy_ne (by decide), cpy_ne (by decide), cpy_ne (by decide), uI_ne (by decide)]; exact hl_q) hl6_q (fun I2 hc_q => ?_))
  refine g_vret dX6_copyFrom_94 rfl ?_
  obtain ⟨c1_q, c2_q, c3_q⟩ := hc_q
  refine k I2 ⟨?_, fun j hj_q => ⟨?_, ?_⟩, fun j hj_q => ⟨?_, ?_, ?_⟩, ?_, fun j hj_q => ⟨?_, ?_⟩, fun b hb_q => ?_⟩
  · rw [c1_q 15 (by decide) (by decide) (by decide), cpy_ne (by decide), cpy_ne (by decide), cpy_ne (by decide), cpy_ne (by decide), cpy_ne (by decide), uI_self]
  · rw [c1_q 16 (by decide) (by decide) (by decide), cpy_ne (by decide), cpy_ne (by decide), cpy_ne (by decide), cpy_ne (by decide), cpy_at hj_q, uI_ne (by decide)]
  · rw [c1_q 17 (by decide) (by decide) (by decide), cpy_ne (by decide), cpy_ne (by decide), cpy_ne (by decide), cpy_at hj_q, cpy_ne (by decide), uI_ne (by decide)]
  · rw [c1_q 18 (by decide) (by decide) (by decide), cpy_ne (by decide), cpy_ne (by decide), cpy_at hj_q, cpy_ne (by decide), cpy_ne (by decide), uI_ne (by decide)]
  · rw [c1_q 19 (by decide) (by decide) (by decide), cpy_ne (by decide), cpy_at hj_q, cpy_ne (by decide), cpy_ne (by decide), cpy_ne (by decide), uI_ne (by decide)]
  · rw [c1_q 20 (by decide) (by decide) (by decide), cpy_at hj_q, cpy_ne (by decide), cpy_ne (by decide), cpy_ne (by decide), cpy_ne (by decide), uI_ne (by decide)]
  · rw [c2_q, uI_self]
  · rw [(c3_q j hj_q).1, cpy_ne (by decide), cpy_ne (by decide), cpy_ne (by decide), cpy_ne (by decide), cpy_ne (by decide), uI_ne (by decide)]
  · rw [(c3_q j hj_q).2, cpy_ne (by decide), cpy_ne (by decide), cpy_ne (by decide), cpy_ne (by decide), cpy_ne (by decide), uI_ne (by decide)]
  · rw [c1_q b (by omega) (by omega) (by omega), cpy_ne (by omega), cpy_ne (by omega), cpy_ne (by omega), cpy_ne (by omega), cpy_ne (by omega), uI_ne (by omega)]
set_option maxHeartbeats 4000000 in
theorem c_astart {I S : Mem} {J : Mel} {Q : Option Value → Mem → Mem → Mel → Prop} {a : Nat} {x : Int32} (hA_q : IsActor a) (k : Q none (uI (uI (uI (uI (uI (uI (uI (uI I a 1 x) a 6 (-1000)) a 7 (-1000)) a 5 0) a 2 1) a 3 0) a 4 0) (a + 1) 2 0) S J) : M2 mX0_start 2 [.ref a, .int x] I S J Q := by
  obtain ⟨a1_q, a2_q, aB_q, a6_q⟩ := id hA_q
  refine m2_of [.ref a, .int x] moX0_start (Nat.le_of_ble_eq_true rfl) rfl ?_
  refine wp_aload_n dX0_start_0 rfl ?_
  refine wp_iload_n dX0_start_1 rfl ?_
  refine g_callV1 (mj := mX0_turnInto) dX0_start_2 lkRX0_18 mkX0_turnInto (by first | rfl | assumption) (by decide) (by decide) (Nat.le_of_ble_eq_true rfl) (c_turnInto hA_q ?_)
  refine wp_aload_n dX0_start_5 rfl ?_
  refine wp_iconst 0 dX0_start_6 (by decide) ?_
  refine c_putI dX0_start_7 flRX0_22 (by first | rfl | assumption) (by omega) ?_
  refine wp_aload_n dX0_start_10 rfl ?_
  refine g_callV0 (mj := mX0_rise) dX0_start_11 lkRX0_26 mkX0_rise (by first | rfl | assumption) (by decide) (by decide) (Nat.le_of_ble_eq_true rfl) (c_rise hA_q ?_)
  refine g_vret dX0_start_14 rfl ?_
  exact k
def stA (I I' : Mem) (i : Nat) : Prop := I' (24 + 9 + 4 * i) 1 = I 16 i ∧ I' (24 + 9 + 4 * i) 2 = 1 ∧ I' (24 + 9 + 4 * i) 3 = 0 ∧ I' (24 + 9 + 4 * i) 4 = 0 ∧ I' (24 + 9 + 4 * i) 5 = 0 ∧ I' (24 + 9 + 4 * i) 6 = -1000 ∧ I' (24 + 9 + 4 * i) 7 = -1000 ∧ I' (24 + 9 + 4 * i + 1) 2 = 0
def stC (n l : Nat) (I I' : Mem) : Prop := (∀ i, i < n → stA I I' i) ∧ I' 26 2 = nI l ∧ (∀ j, j < l → I' 27 j = I 22 j ∧ I' 28 j = I 23 j) ∧ I' 29 2 = 0 ∧ I' 24 6 = 0 ∧ I' 24 7 = 0 ∧ Fr 24 I I'
theorem stA.cg {I I' I2 : Mem} {i : Nat} (h : stA I I' i) (h1 : I2 (24 + 9 + 4 * i) = I' (24 + 9 + 4 * i)) (h2 : I2 (24 + 9 + 4 * i + 1) = I' (24 + 9 + 4 * i + 1)) : stA I I2 i := by
  unfold stA at h ⊢
  rw [h1, h2]; exact h
set_option maxHeartbeats 4000000 in
theorem l_cstart {I0 S : Mem} {J : Mel} {Q : Option Value → Mem → Mem → Mel → Prop} {n l : Nat} (hn_q : n ≤ 6) (hn2_q : I0 15 6 = nI n) (hl_q : I0 21 2 = nI l) (hl6_q : l ≤ 6) (kk_q : ∀ I', stC n l I0 I' → Q none I' S J) : ∀ (x : Nat) (I : Mem), (x ≤ n) → (Fr 24 I0 I) → (∀ i, i < x → stA I0 I i) → W2 mX2_start 3 Q I S J 2 [.ref 24, .int (nI x)] [] := by
  intro x I
  induction hm : n - x using Nat.strongRecOn generalizing x I with
  | _ c ih =>
    intro hx_q hf_q hs_q
    obtain ⟨c1_q, c2_q, c3_q, c4_q, c5_q, c6_q, c7_q, c8_q, c9_q, c10_q, c11_q, c12_q, c13_q, c14_q⟩ := id crew24
    have hq_q : I 15 6 = nI n := by rw [hf_q 15 (by omega)]; exact hn2_q
    refine wp_iload_n dX2_start_2 rfl ?_
    refine wp_aload_n dX2_start_3 rfl ?_
    refine wp_getA (by first | rfl | assumption) dX2_start_4 flRX2_35 (by first | rfl | assumption) ?_
    refine c_getI dX2_start_7 flRX2_40 (by first | rfl | assumption) (by omega) ?_
    refine wp_icmp_ge dX2_start_10 (fun h10 => ?_) (fun h10 => ?_)
    · skip
      have e_q : x = n := by rw [hq_q, nI_leg (by omega) (by omega)] at h10; omega
      subst e_q
      refine wp_aload_n dX2_start_37 rfl ?_
      refine wp_getA (by first | rfl | assumption) dX2_start_38 flRX2_20 (by first | rfl | assumption) ?_
      refine wp_aload_n dX2_start_41 rfl ?_
      refine wp_getA (by first | rfl | assumption) dX2_start_42 flRX2_35 (by first | rfl | assumption) ?_
      refine wp_getA (by first | rfl | assumption) dX2_start_45 flRX2_52 (by first | rfl | assumption) ?_
      refine g_callV1 (mj := mX4_copyFrom) dX2_start_48 lkRX2_53 mkX4_copyFrom (by first | rfl | assumption) (by decide) (by decide) (Nat.le_of_ble_eq_true rfl) (c_lcopy lks26 lks21 (by omega) (by rw [hf_q 21 (by omega)]; exact hl_q) hl6_q (fun I2 hc_q => ?_))
      refine wp_aload_n dX2_start_51 rfl ?_
      refine wp_getA (by first | rfl | assumption) dX2_start_52 flRX2_27 (by first | rfl | assumption) ?_
      refine wp_iconst 0 dX2_start_55 (by decide) ?_
      refine c_putI dX2_start_56 flRX2_57 (by first | rfl | assumption) (by omega) ?_
      refine wp_aload_n dX2_start_59 rfl ?_
      refine wp_iconst 0 dX2_start_60 (by decide) ?_
      refine c_putI dX2_start_61 flRX2_60 (by first | rfl | assumption) (by omega) ?_
      refine wp_aload_n dX2_start_64 rfl ?_
      refine wp_iconst 0 dX2_start_65 (by decide) ?_
      refine c_putI dX2_start_66 flRX2_63 (by first | rfl | assumption) (by omega) ?_
      refine g_vret dX2_start_69 rfl ?_
      obtain ⟨e1_q, e2_q, e3_q⟩ := hc_q
      have hI_q : ∀ b, b ≠ 24 → b ≠ 26 → b ≠ 27 → b ≠ 28 → b ≠ 29 → (uI (uI (uI I2 29 2 0) 24 6 0) 24 7 0) b = I b := fun b q1 q2 q3 q4 q5 => by rw [uI_ne q1, uI_ne q1, uI_ne q5]; exact e1_q b q2 q3 q4
      refine kk_q _ ⟨fun i hi_q => (hs_q i (by omega)).cg (hI_q _ (by omega) (by omega) (by omega) (by omega) (by omega)) (hI_q _ (by omega) (by omega) (by omega) (by omega) (by omega)), ?_, fun j hj_q => ⟨?_, ?_⟩, ?_, ?_, uI_self _ _ _ _, fun b hb_q => (hI_q b (by omega) (by omega) (by omega) (by omega) (by omega)).trans (hf_q b hb_q)⟩
      · rw [uI_ne (by decide), uI_ne (by decide), uI_ne (by decide), e2_q, uI_self]
      · rw [uI_ne (by decide), uI_ne (by decide), uI_ne (by decide), (e3_q j hj_q).1, hf_q 22 (by omega)]
      · rw [uI_ne (by decide), uI_ne (by decide), uI_ne (by decide), (e3_q j hj_q).2, hf_q 23 (by omega)]
      · rw [uI_ne (by decide), uI_ne (by decide), uI_self]
      · rw [uI_ap, if_neg (by decide), uI_self]
    · skip
      have hx2_q : x < n := by rw [hq_q, nI_leg (by omega) (by omega)] at h10; omega
      have c5x_q := c5_q x (by omega)
      have cA_q := c12_q x (by omega)
      refine wp_aload_n dX2_start_13 rfl ?_
      refine wp_getA (by first | rfl | assumption) dX2_start_14 flRX2_11 (by first | rfl | assumption) ?_
      refine wp_iload_n dX2_start_17 rfl ?_
      refine wp_aald c5x_q dX2_start_18 c4_q rfl (by omega) (by decide) ?_
      refine wp_aload_n dX2_start_19 rfl ?_
      refine wp_getA (by first | rfl | assumption) dX2_start_20 flRX2_35 (by first | rfl | assumption) ?_
      refine wp_getA (by first | rfl | assumption) dX2_start_23 flRX2_45 (by first | rfl | assumption) ?_
      refine wp_iload_n dX2_start_26 rfl ?_
      refine c_iald dX2_start_27 rfl rfl (by omega) (by omega) (by decide) ?_
      refine g_callV1 (mj := mX0_start) dX2_start_28 lkRX2_48 mkX0_start cA_q.1 (by decide) (by decide) (Nat.le_of_ble_eq_true rfl) (c_astart cA_q ?_)
      refine ic_2_1 (nI (x + 1)) dX2_start_31 (nI_inc x) (by decide) rfl ?_
      refine wp_goto dX2_start_34 ?_
      have hI_q : ∀ b, b ≠ 24 + 9 + 4 * x → b ≠ 24 + 9 + 4 * x + 1 → (uI (uI (uI (uI (uI (uI (uI (uI I (24 + 9 + 4 * x) 1 (I 16 x)) (24 + 9 + 4 * x) 6 (-1000)) (24 + 9 + 4 * x) 7 (-1000)) (24 + 9 + 4 * x) 5 0) (24 + 9 + 4 * x) 2 1) (24 + 9 + 4 * x) 3 0) (24 + 9 + 4 * x) 4 0) (24 + 9 + 4 * x + 1) 2 0) b = I b := fun b q1 q2 => by rw [uI_ne q2, uI_ne q1, uI_ne q1, uI_ne q1, uI_ne q1, uI_ne q1, uI_ne q1, uI_ne q1]
      refine ih _ (by omega) (x + 1) _ rfl (by omega) (fun b hb_q => (hI_q b (by omega) (by omega)).trans (hf_q b hb_q)) (fun i hi_q => ?_)
      by_cases e_q : i = x
      · subst e_q; unfold stA; rw [hf_q 16 (by omega)]; simp [uI_ap]
      · exact (hs_q i (by omega)).cg (hI_q _ (by omega) (by omega)) (hI_q _ (by omega) (by omega))
set_option maxHeartbeats 4000000 in
theorem c_cstart {I S : Mem} {J : Mel} {Q : Option Value → Mem → Mem → Mel → Prop} {n l : Nat} (hn_q : n ≤ 6) (hn2_q : I 15 6 = nI n) (hl_q : I 21 2 = nI l) (hl6_q : l ≤ 6) (kk_q : ∀ I', stC n l I I' → Q none I' S J) : M2 mX2_start 3 [.ref 24] I S J Q := by
  refine m2_of [.ref 24, dum] moX2_start (Nat.le_of_ble_eq_true rfl) rfl ?_
  refine wp_iconst 0 dX2_start_0 (by decide) ?_
  refine st_i_2_1 dX2_start_1 (by decide) rfl ?_
  exact l_cstart hn_q hn2_q hl_q hl6_q kk_q 0 I (by omega) Fr.rf (fun i h => by omega)
set_option maxHeartbeats 4000000 in
theorem c_pfault {I S : Mem} {J : Mel} {Q : Option Value → Mem → Mem → Mel → Prop} {p : Nat} (hp_q : I 3 1 = nI p) (hp84_q : p ≤ 84) (k : ∀ I', FrR I I' → Q (some (.int (nI (aRun (I 4) p 0 (aIni I)).1))) I' S J) : M2 mX10_fault 8 [.ref 2] I S J Q := by
  refine m2_of [.ref 2] moX10_fault (Nat.le_of_ble_eq_true rfl) rfl ?_
  refine wp_aload_n dX10_fault_0 rfl ?_
  refine wp_getA (by first | rfl | assumption) dX10_fault_1 flRX10_19 (by first | rfl | assumption) ?_
  refine wp_aload_n dX10_fault_4 rfl ?_
  refine wp_getA (by first | rfl | assumption) dX10_fault_5 flRX10_10 (by first | rfl | assumption) ?_
  refine g_callV1 (mj := mX7_readTillFault) dX10_fault_8 lkRX10_67 mkX7_readTillFault (by first | rfl | assumption) (by decide) (by decide) (Nat.le_of_ble_eq_true rfl) (c_readTill hp_q hp84_q (fun I2 hf_q he_q => ?_))
  refine g_iret dX10_fault_11 rfl ?_
  exact k I2 hf_q
/-- what a crew read leaves of the class's cells: R the reader's end -/
def crD (n l : Nat) (I R I' : Mem) : Prop := R 6 6 = nI n ∧ n ≤ 6 ∧ R 12 2 = nI l ∧ l ≤ 6 ∧ I' 15 6 = nI n ∧ (∀ i, i < 6 → I' 17 i = R 8 i) ∧ (∀ j, j < 18 → I' 18 j = R 9 j ∧ I' 19 j = R 10 j ∧ I' 20 j = R 11 j) ∧ (∀ i, i < n → I' (24 + 9 + 4 * i) 1 = R 7 i ∧ I' (24 + 9 + 4 * i) 2 = 1 ∧ I' (24 + 9 + 4 * i) 3 = 0 ∧ I' (24 + 9 + 4 * i) 4 = 0 ∧ I' (24 + 9 + 4 * i) 5 = 0 ∧ I' (24 + 9 + 4 * i) 6 = -1000 ∧ I' (24 + 9 + 4 * i) 7 = -1000 ∧ I' (24 + 9 + 4 * i + 1) 2 = 0) ∧ I' 26 2 = nI l ∧ (∀ j, j < l → I' 27 j = R 13 j ∧ I' 28 j = R 14 j) ∧ I' 29 2 = 0 ∧ I' 24 6 = 0 ∧ I' 24 7 = 0 ∧ I' 3 1 = 0 ∧ I' 2 8 = 0 ∧ I' 2 9 = I 2 9 + 1 ∧ I' 2 10 = I 2 10 ∧ I' 4 = I 4 ∧ ∀ b, 57 ≤ b → I' b = I b
set_option maxHeartbeats 4000000 in
theorem c_pcrew {I S : Mem} {J : Mel} {Q : Option Value → Mem → Mem → Mel → Prop} {p : Nat} (hp_q : I 3 1 = nI p) (hp84_q : p ≤ 84) (k1_q : ((aRun (I 4) p 0 (aIni I)).1 = p → ((aRun (I 4) p 0 (aIni I)).2 5 1 = 6 ∨ (aRun (I 4) p 0 (aIni I)).2 5 1 = 9) → ¬ ∃ a, (aRun (I 4) p 0 (aIni I)).2 6 6 = nI a ∧ a ≤ 6 ∧ sto a (aRun (I 4) p 0 (aIni I)).2) → ∀ I', FrR I I' → Q (some (.int (-103))) I' S J) (k : ∀ n l, (aRun (I 4) p 0 (aIni I)).1 = p → ((aRun (I 4) p 0 (aIni I)).2 5 1 = 6 ∨ (aRun (I 4) p 0 (aIni I)).2 5 1 = 9) → sto n (aRun (I 4) p 0 (aIni I)).2 → ∀ I', crD n l I (aRun (I 4) p 0 (aIni I)).2 I' → Q (some (.int (nI n))) I' S J) : M2 mX10_crew 8 [.ref 2] I S J Q := by
  have hle_q := aRun_le (P := I 4) p 0 (aIni I)
  obtain ⟨hA_q, hF0_q⟩ := AI.run (P := I 4) p 0 (aIni I) (AI.ini I)
  have hF_q : FrR I (aRun (I 4) p 0 (aIni I)).2 := FrR.tr (((FrR.rf.st (by omega)).st (by omega)).st (by omega)) hF0_q
  generalize hR_q : (aRun (I 4) p 0 (aIni I)) = R at *
  obtain ⟨r, R⟩ := R
  dsimp only at *
  obtain ⟨a, l, d, h1, h2, h3, h4, h5, h6, -⟩ := id hA_q
  refine m2_of [.ref 2] moX10_crew (Nat.le_of_ble_eq_true rfl) rfl ?_
  refine wp_aload_n dX10_crew_0 rfl ?_
  refine wp_getA (by first | rfl | assumption) dX10_crew_1 flRX10_19 (by first | rfl | assumption) ?_
  refine wp_aload_n dX10_crew_4 rfl ?_
  refine wp_getA (by first | rfl | assumption) dX10_crew_5 flRX10_10 (by first | rfl | assumption) ?_
  refine g_callV1 (mj := mX7_readTillFault) dX10_crew_8 lkRX10_67 mkX7_readTillFault (by first | rfl | assumption) (by decide) (by decide) (Nat.le_of_ble_eq_true rfl) (c_readTill hp_q hp84_q (fun I2 hf_q he_q => ?_))
  rw [hR_q] at he_q ⊢
  dsimp only at he_q ⊢
  refine wp_aload_n dX10_crew_11 rfl ?_
  refine wp_getA (by first | rfl | assumption) dX10_crew_12 flRX10_10 (by first | rfl | assumption) ?_
  refine c_getI dX10_crew_15 flRX10_59 (by first | rfl | assumption) (by omega) ?_
  rw [hf_q 3 (by omega), hp_q]
  refine wp_icmp_lt dX10_crew_18 (fun h18 => ?_) (fun h18 => ?_)
  · skip
    refine wp_bipush (-103) dX10_crew_31 (by decide) ?_
    refine g_iret dX10_crew_33 rfl ?_
    first
    | (rw [nI_ltg (by omega) (by omega)] at h18; exact k1_q (fun q => by omega) _ hf_q)
    | (have hr4_q := (hr3_q.resolve_left (fun q => by rw [q.1] at h28; exact absurd h28 (by decide))).2; exact k1_q (fun _ hd_q q => by obtain ⟨b, q1, q2, q3⟩ := q; rw [h1, nI_eqg (by omega) (by omega)] at q1; subst q1; exact hr4_q ⟨hd_q, q3⟩) _ hf_q)
  · skip
    have hru_q : r = p := by rw [nI_ltg (by omega) (by omega)] at h18; omega
    obtain rfl := he_q hru_q
    refine wp_aload_n dX10_crew_21 rfl ?_
    refine wp_getA (by first | rfl | assumption) dX10_crew_22 flRX10_19 (by first | rfl | assumption) ?_
    refine g_callV0 (mj := mX7_isWhole) dX10_crew_25 lkRX10_71 mkX7_isWhole (by first | rfl | assumption) (by decide) (by decide) (Nat.le_of_ble_eq_true rfl) (c_isWhole h1 h2 h3 (fun r3 hr3_q => ?_))
    refine wp_if_ne dX10_crew_28 (fun h28 => ?_) (fun h28 => ?_)
    · skip
      obtain ⟨-, hdu_q, hst_q⟩ := hr3_q.resolve_right (fun q => h28 q.1)
      refine wp_aload_n dX10_crew_34 rfl ?_
      refine wp_getA (by first | rfl | assumption) dX10_crew_35 flRX10_26 (by first | rfl | assumption) ?_
      refine wp_aload_n dX10_crew_38 rfl ?_
      refine wp_getA (by first | rfl | assumption) dX10_crew_39 flRX10_19 (by first | rfl | assumption) ?_
      refine wp_getA (by first | rfl | assumption) dX10_crew_42 flRX10_75 (by first | rfl | assumption) ?_
      refine g_callV1 (mj := mX6_copyFrom) dX10_crew_45 lkRX10_76 mkX6_copyFrom (by first | rfl | assumption) (by decide) (by decide) (Nat.le_of_ble_eq_true rfl) (c_pcopy h4 h5 (fun I3 hc_q => ?_))
      refine wp_aload_n dX10_crew_48 rfl ?_
      refine wp_getA (by first | rfl | assumption) dX10_crew_49 flRX10_35 (by first | rfl | assumption) ?_
      refine g_callV0 (mj := mX2_start) dX10_crew_52 lkRX10_79 mkX2_start (by first | rfl | assumption) (by decide) (by decide) (Nat.le_of_ble_eq_true rfl) (c_cstart h2 (hc_q.1.trans h1) hc_q.2.2.2.1 h5 (fun I4 hs_q => ?_))
      refine wp_aload_n dX10_crew_55 rfl ?_
      refine wp_getA (by first | rfl | assumption) dX10_crew_56 flRX10_10 (by first | rfl | assumption) ?_
      refine wp_iconst 0 dX10_crew_59 (by decide) ?_
      refine c_putI dX10_crew_60 flRX10_59 (by first | rfl | assumption) (by omega) ?_
      refine wp_aload_n dX10_crew_63 rfl ?_
      refine wp_iconst 0 dX10_crew_64 (by decide) ?_
      refine c_putZ dX10_crew_65 flRX10_82 (by first | rfl | assumption) (by first | decide | assumption) (by omega) ?_
      refine wp_aload_n dX10_crew_68 rfl ?_
      refine wp_dup dX10_crew_69 rfl ?_
      refine c_getI dX10_crew_70 flRX10_86 (by first | rfl | assumption) (by omega) ?_
      refine wp_iconst 1 dX10_crew_73 (by decide) ?_
      refine wp_iadd dX10_crew_74 ?_
      refine c_putI dX10_crew_75 flRX10_86 (by first | rfl | assumption) (by omega) ?_
      refine wp_aload_n dX10_crew_78 rfl ?_
      refine wp_getA (by first | rfl | assumption) dX10_crew_79 flRX10_26 (by first | rfl | assumption) ?_
      refine c_getI dX10_crew_82 flRX10_89 (by first | rfl | assumption) (by omega) ?_
      refine g_iret dX10_crew_85 rfl ?_
      obtain ⟨d1_q, d2_q, d3_q, d4_q, d5_q, d6_q⟩ := hc_q
      obtain ⟨e1_q, e2_q, e3_q, e4_q, e5_q, e6_q, e7_q⟩ := hs_q
      have hI_q : ∀ b, b ≠ 2 → b ≠ 3 → (uI (uI (uI I4 3 1 0) 2 8 0) 2 9 ((uI (uI I4 3 1 0) 2 8 0) 2 9 + 1)) b = I4 b := fun b q1 q2 => by rw [uI_ne q1, uI_ne q1, uI_ne q2]
      have h9_q : (uI (uI I4 3 1 0) 2 8 0) 2 9 = I 2 9 := by rw [uI_ap, if_neg (by decide), uI_ne (by decide), e7_q 2 (by omega), d6_q 2 (by omega), hF_q 2 (by omega)]
      have h15_q : I4 15 6 = nI a := by rw [e7_q 15 (by omega), d1_q]; exact h1
      rw [hI_q 15 (by decide) (by decide), h15_q]
      refine k a l hru_q hdu_q hst_q _ ⟨h1, h2, h4, h5, ?_, fun i hi_q => ?_, fun j hj_q => ?_, fun i hi_q => ?_, ?_, fun j hj_q => ?_, ?_, ?_, ?_, ?_, ?_, ?_, ?_, ?_, fun b hb_q => ?_⟩
      · rw [hI_q 15 (by decide) (by decide)]; exact h15_q
      · rw [hI_q 17 (by decide) (by decide), e7_q 17 (by omega)]; exact (d2_q i hi_q).2
      · rw [hI_q 18 (by decide) (by decide), hI_q 19 (by decide) (by decide), hI_q 20 (by decide) (by decide), e7_q 18 (by omega), e7_q 19 (by omega), e7_q 20 (by omega)]; exact d3_q j hj_q
      · have t_q := e1_q i hi_q
        unfold stA at t_q
        rw [(d2_q i (by omega)).1] at t_q
        rw [hI_q (24 + 9 + 4 * i) (by omega) (by omega), hI_q (24 + 9 + 4 * i + 1) (by omega) (by omega)]; exact t_q
      · rw [hI_q 26 (by decide) (by decide)]; exact e2_q
      · rw [hI_q 27 (by decide) (by decide), hI_q 28 (by decide) (by decide), (e3_q j hj_q).1, (e3_q j hj_q).2]; exact d5_q j hj_q
      · rw [hI_q 29 (by decide) (by decide)]; exact e4_q
      · rw [hI_q 24 (by decide) (by decide)]; exact e5_q
      · rw [hI_q 24 (by decide) (by decide)]; exact e6_q
      · rw [uI_ne (by decide), uI_ne (by decide), uI_self]
      · rw [uI_ap, if_neg (by decide), uI_self]
      · rw [uI_self, h9_q]
      · rw [uI_ap, if_neg (by decide), uI_ap, if_neg (by decide), uI_ne (by decide), e7_q 2 (by omega), d6_q 2 (by omega), hF_q 2 (by omega)]
      · rw [hI_q 4 (by decide) (by decide), e7_q 4 (by omega), d6_q 4 (by omega), hF_q 4 (by omega)]
      · rw [hI_q b (by omega) (by omega), e7_q b (by omega), d6_q b (by omega), hF_q b (by omega)]
    · skip
      refine wp_bipush (-103) dX10_crew_31 (by decide) ?_
      refine g_iret dX10_crew_33 rfl ?_
      first
      | (rw [nI_ltg (by omega) (by omega)] at h18; exact k1_q (fun q => by omega) _ hf_q)
      | (have hr4_q := (hr3_q.resolve_left (fun q => by rw [q.1] at h28; exact absurd h28 (by decide))).2; exact k1_q (fun _ hd_q q => by obtain ⟨b, q1, q2, q3⟩ := q; rw [h1, nI_eqg (by omega) (by omega)] at q1; subst q1; exact hr4_q ⟨hd_q, q3⟩) _ hf_q)
