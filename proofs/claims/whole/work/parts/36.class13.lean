theorem Hc.out {n T k b j : Nat} {dl x : Int32} {I G : Mem} (h : Hc n T dl I k G) (hb : 123 ≤ b) : Hc n T dl (uI I b j x) k G := by
  obtain ⟨hC, hW, hR, hP, hT⟩ := h
  have hk := hC.2.2.2.2.2.2.2.2.2.2.2.2
  exact ⟨hC, hW, hR.iscr hW.bx (by omega), ⟨by rw [uI_ne (by omega)]; exact hP.1, fun i hi => by rw [uI_ne (by omega)]; exact hP.2.1 i hi, fun i hi q h1 h2 => by rw [uI_ne (by omega), uI_ne (by omega), uI_ne (by omega)]; exact hP.2.2 i hi q h1 h2⟩, hT⟩
/-- the numbers of turn t stand written, those of the turns below as they were -/
def twR (n T t : Nat) (G : Mem) (J J' : Mel) : Prop := (∀ i, i < n → J' 124 (6 * t + i) = lN (trN T G i 5)) ∧ ∀ j, j < 6 * t → J' 124 j = J 124 j
set_option maxHeartbeats 4000000 in
theorem l_tw {I S : Mem} {J0 : Mel} {Q : Option Value → Mem → Mem → Mel → Prop} {n T k : Nat} {dl : Int32} {G : Mem} (hH_q : Hc n T dl I k G) {t : Nat} (ht_q : t ≤ 60) (h1_q : I 123 1 = nI n) (kk_q : ∀ J', twR n T t G J0 J' → Q none I S J') : ∀ (x : Nat) (J : Mel), (x ≤ n) → ((∀ i, i < x → J 124 (6 * t + i) = lN (trN T G i 5)) ∧ ∀ j, j < 6 * t → J 124 j = J0 124 j) → W2 mX9_write 3 Q I S J 13 [.ref 123, .int (nI t), .ref k, .int (nI x)] [] := by
  intro x J
  induction hm : n - x using Nat.strongRecOn generalizing x J with
  | _ c ih =>
    intro hx_q hw_q
    obtain ⟨hC_q, hW_q, hR_q, hP_q, hT_q⟩ := id hH_q
    obtain ⟨c1_q, c2_q, c3_q, c4_q, c5_q, c6_q, c7_q, c8_q, c9_q, c10_q, c11_q, c12_q, c13_q, c14_q⟩ := id hC_q
    have hn_q := hW_q.1
    refine wp_iload_n dX9_write_13 rfl ?_
    refine wp_aload_n dX9_write_14 rfl ?_
    refine c_getI dX9_write_15 flRX9_27 (by first | rfl | assumption) (by omega) ?_
    refine wp_icmp_ge dX9_write_18 (fun h18 => ?_) (fun h18 => ?_)
    · skip
      refine g_vret dX9_write_51 rfl ?_
      have e_q : x = n := by rw [h1_q, nI_leg (by omega) (by omega)] at h18; omega
      subst e_q; exact kk_q J hw_q
    · skip
      have hxn_q : x < n := by rw [h1_q, nI_leg (by omega) (by omega)] at h18; omega
      have c5x_q := c5_q x (by omega)
      have cAx_q := c12_q x (by omega)
      obtain ⟨a1x_q, a2x_q, aBx_q, a6x_q⟩ := id cAx_q
      obtain ⟨b1x_q, b2x_q, b3x_q, b4x_q, b5x_q, b6x_q⟩ := id aBx_q
      obtain ⟨r1x_q, r2x_q, r3x_q, r4x_q, r5x_q, r6x_q, r7x_q, r8x_q, r9x_q⟩ := hR_q.2.2.1 x (by omega)
      refine wp_aload_n dX9_write_21 rfl ?_
      refine wp_getA (by first | rfl | assumption) dX9_write_22 flRX9_9 (by first | rfl | assumption) ?_
      refine wp_iload_n dX9_write_25 rfl ?_
      refine wp_bipush 6 dX9_write_26 (by decide) ?_
      refine wp_imul dX9_write_28 ?_
      refine wp_iload_n dX9_write_29 rfl ?_
      refine wp_iadd dX9_write_30 ?_
      refine wp_aload_n dX9_write_31 rfl ?_
      refine wp_getA (by first | rfl | assumption) dX9_write_32 flRX9_28 (by first | rfl | assumption) ?_
      refine wp_iload_n dX9_write_35 rfl ?_
      refine wp_aald c5x_q dX9_write_36 c4_q rfl (by omega) (by decide) ?_
      refine wp_aload_n dX9_write_37 rfl ?_
      refine c_getI dX9_write_38 flRX9_31 (by first | rfl | assumption) (by omega) ?_
      rw [show I k 6 = nI T from hR_q.1.trans hW_q.2.2.1]
      refine g_callV1 (mj := mX0_track) dX9_write_41 lkRX9_34 mkX0_track (by first | rfl | assumption) (by decide) (by decide) (Nat.le_of_ble_eq_true rfl) (c_track hH_q hxn_q ?_)
      refine g_last dX9_write_44 rfl (by rw [show (6 : Int32) = nI 6 from rfl, Int32.mul_comm]; exact nI_mad 6 t x) (by omega) (by decide) ?_
      refine ic_4_3 (nI (x + 1)) dX9_write_45 (nI_inc x) (by decide) rfl ?_
      refine wp_goto dX9_write_48 ?_
      refine ih _ (by omega) (x + 1) _ rfl (by omega) ⟨fun i hi_q => ?_, fun j hj_q => ?_⟩
      · simp only [uJ]
        by_cases hix_q : i = x
        · subst hix_q; simp
        · simp [hix_q]; exact hw_q.1 i (by omega)
      · simp only [uJ]
        rw [if_pos trivial, if_neg (by omega)]; exact hw_q.2 j hj_q
set_option maxHeartbeats 4000000 in
theorem c_tw {I S : Mem} {J : Mel} {Q : Option Value → Mem → Mem → Mel → Prop} {n T k : Nat} {dl : Int32} {G : Mem} (hH_q : Hc n T dl I k G) {t : Nat} (ht_q : t ≤ 60) (kk_q : ∀ J', twR n T t G J J' → Q none (uI I 123 1 (nI n)) S J') : M2 mX9_write 3 [.ref 123, .int (nI t), .ref k] I S J Q := by
  obtain ⟨hC_q, hW_q, hR_q, hP_q, hT_q⟩ := id hH_q
  obtain ⟨c1_q, c2_q, c3_q, c4_q, c5_q, c6_q, c7_q, c8_q, c9_q, c10_q, c11_q, c12_q, c13_q, c14_q⟩ := id hC_q
  have hn_q := hW_q.1
  refine m2_of [.ref 123, .int (nI t), .ref k, dum] moX9_write (Nat.le_of_ble_eq_true rfl) rfl ?_
  refine wp_aload_n dX9_write_0 rfl ?_
  refine wp_aload_n dX9_write_1 rfl ?_
  refine wp_getA (by first | rfl | assumption) dX9_write_2 flRX9_15 (by first | rfl | assumption) ?_
  refine c_getI dX9_write_5 flRX9_21 (by first | rfl | assumption) (by omega) ?_
  refine c_putI dX9_write_8 flRX9_27 (by first | rfl | assumption) (by omega) ?_
  refine wp_iconst 0 dX9_write_11 (by decide) ?_
  refine st_i_4_3 dX9_write_12 (by decide) rfl ?_
  rw [hP_q.1]
  exact l_tw (hH_q.out (by omega)) ht_q (uI_self _ _ _ _) kk_q 0 J (by omega) ⟨fun i hi_q => by omega, fun j _ => rfl⟩
def alk (n : Nat) (J : Mel) (t u : Nat) : Prop := ∀ i, i < n → J 124 (6 * t + i) = J 124 (6 * u + i)
theorem ix6 (t x : Nat) : nI t * 6 + nI x = nI (6 * t + x) := by rw [show (6 : Int32) = nI 6 from rfl, Int32.mul_comm]; exact nI_mad 6 t x
set_option maxHeartbeats 4000000 in
theorem l_alike {I S : Mem} {J : Mel} {Q : Option Value → Mem → Mem → Mel → Prop} {n t u : Nat} (hn_q : n ≤ 6) (h1_q : I 123 1 = nI n) (ht_q : t ≤ 60) (hu_q : u ≤ 60) (k : ∀ r, (r = 1 ∧ alk n J t u) ∨ (r = 0 ∧ ¬ alk n J t u) → Q (some (.int r)) I S J) : ∀ (x : Nat), (x ≤ n) → (∀ i, i < x → J 124 (6 * t + i) = J 124 (6 * u + i)) → W2 mX9_areAlike 1 Q I S J 2 [.ref 123, .int (nI t), .int (nI u), .int (nI x)] [] := by
  intro x
  induction hm : n - x using Nat.strongRecOn generalizing x with
  | _ c ih =>
    intro hx_q ha_q
    refine wp_iload_n dX9_areAlike_2 rfl ?_
    refine wp_aload_n dX9_areAlike_3 rfl ?_
    refine c_getI dX9_areAlike_4 flRX9_27 (by first | rfl | assumption) (by omega) ?_
    refine wp_icmp_ge dX9_areAlike_7 (fun h7 => ?_) (fun h7 => ?_)
    · skip
      refine wp_iconst 1 dX9_areAlike_44 (by decide) ?_
      refine g_zret dX9_areAlike_45 rfl (by first | decide | assumption) ?_
      exact k _ (Or.inl ⟨rfl, fun i hi_q => ha_q i (by rw [h1_q, nI_leg (by omega) (by omega)] at h7; omega)⟩)
    · skip
      have hxn_q : x < n := by rw [h1_q, nI_leg (by omega) (by omega)] at h7; omega
      refine wp_aload_n dX9_areAlike_10 rfl ?_
      refine wp_getA (by first | rfl | assumption) dX9_areAlike_11 flRX9_9 (by first | rfl | assumption) ?_
      refine wp_iload_n dX9_areAlike_14 rfl ?_
      refine wp_bipush 6 dX9_areAlike_15 (by decide) ?_
      refine wp_imul dX9_areAlike_17 ?_
      refine wp_iload_n dX9_areAlike_18 rfl ?_
      refine wp_iadd dX9_areAlike_19 ?_
      refine wp_lald dX9_areAlike_20 rfl (ix6 t x) (by omega) (by decide) ?_
      refine wp_aload_n dX9_areAlike_21 rfl ?_
      refine wp_getA (by first | rfl | assumption) dX9_areAlike_22 flRX9_9 (by first | rfl | assumption) ?_
      refine wp_iload_n dX9_areAlike_25 rfl ?_
      refine wp_bipush 6 dX9_areAlike_26 (by decide) ?_
      refine wp_imul dX9_areAlike_28 ?_
      refine wp_iload_n dX9_areAlike_29 rfl ?_
      refine wp_iadd dX9_areAlike_30 ?_
      refine wp_lald dX9_areAlike_31 rfl (ix6 u x) (by omega) (by decide) ?_
      refine wp_lcmp dX9_areAlike_32 ?_
      refine wp_if_eq dX9_areAlike_33 (fun h33 => ?_) (fun h33 => ?_)
      · skip
        refine ic_4_3 (nI (x + 1)) dX9_areAlike_38 (nI_inc x) (by decide) rfl ?_
        refine wp_goto dX9_areAlike_41 ?_
        exact ih _ (by omega) (x + 1) rfl (by omega) (fun i hi_q => by by_cases e_q : i = x; (rw [e_q]; exact (lg_cmp_eq _ _).mp h33); exact ha_q i (by omega))
      · skip
        refine wp_iconst 0 dX9_areAlike_36 (by decide) ?_
        refine g_zret dX9_areAlike_37 rfl (by first | decide | assumption) ?_
        exact k _ (Or.inr ⟨rfl, fun q => h33 ((lg_cmp_eq _ _).mpr (q x hxn_q))⟩)
set_option maxHeartbeats 4000000 in
theorem c_alike {I S : Mem} {J : Mel} {Q : Option Value → Mem → Mem → Mel → Prop} {n t u : Nat} (hn_q : n ≤ 6) (h1_q : I 123 1 = nI n) (ht_q : t ≤ 60) (hu_q : u ≤ 60) (k : ∀ r, (r = 1 ∧ alk n J t u) ∨ (r = 0 ∧ ¬ alk n J t u) → Q (some (.int r)) I S J) : M2 mX9_areAlike 1 [.ref 123, .int (nI t), .int (nI u)] I S J Q := by
  refine m2_of [.ref 123, .int (nI t), .int (nI u), dum] moX9_areAlike (Nat.le_of_ble_eq_true rfl) rfl ?_
  refine wp_iconst 0 dX9_areAlike_0 (by decide) ?_
  refine st_i_4_3 dX9_areAlike_1 (by decide) rfl ?_
  exact l_alike hn_q h1_q ht_q hu_q k 0 (by omega) (fun i hi_q => by omega)
set_option maxHeartbeats 4000000 in
theorem l_first {I S : Mem} {J : Mel} {Q : Option Value → Mem → Mem → Mel → Prop} {n t : Nat} (hn_q : n ≤ 6) (h1_q : I 123 1 = nI n) (ht_q : t ≤ 60) (k : ∀ r, (∃ u, u < t ∧ r = nI u ∧ alk n J u t ∧ ∀ v, v < u → ¬ alk n J v t) ∨ (r = -1 ∧ ∀ u, u < t → ¬ alk n J u t) → Q (some (.int r)) I S J) : ∀ (x : Nat), (x ≤ t) → (∀ u, u < x → ¬ alk n J u t) → W2 mX9_firstLike 2 Q I S J 2 [.ref 123, .int (nI t), .int (nI x)] [] := by
  intro x
  induction hm : t - x using Nat.strongRecOn generalizing x with
  | _ c ih =>
    intro hx_q ha_q
    refine wp_iload_n dX9_firstLike_2 rfl ?_
    refine wp_iload_n dX9_firstLike_3 rfl ?_
    refine wp_icmp_ge dX9_firstLike_4 (fun h4 => ?_) (fun h4 => ?_)
    · skip
      refine wp_iconst (-1) dX9_firstLike_24 (by decide) ?_
      refine g_iret dX9_firstLike_25 rfl ?_
      exact k _ (Or.inr ⟨rfl, fun u hu_q => ha_q u (by rw [nI_leg (by omega) (by omega)] at h4; omega)⟩)
    · skip
      have hxt_q : x < t := by rw [nI_leg (by omega) (by omega)] at h4; omega
      refine wp_aload_n dX9_firstLike_7 rfl ?_
      refine wp_iload_n dX9_firstLike_8 rfl ?_
      refine wp_iload_n dX9_firstLike_9 rfl ?_
      refine g_callV2 (mj := mX9_areAlike) dX9_firstLike_10 lkRX9_40 mkX9_areAlike (by first | rfl | assumption) (by decide) (by decide) (Nat.le_of_ble_eq_true rfl) (c_alike hn_q h1_q (by omega) ht_q (fun s hs_q => ?_))
      refine wp_if_eq dX9_firstLike_13 (fun h13 => ?_) (fun h13 => ?_)
      · skip
        refine ic_3_2 (nI (x + 1)) dX9_firstLike_18 (nI_inc x) (by decide) rfl ?_
        refine wp_goto dX9_firstLike_21 ?_
        have hna_q := (hs_q.resolve_left (fun q => by rw [q.1] at h13; exact absurd h13 (by decide))).2
        exact ih _ (by omega) (x + 1) rfl (by omega) (fun u hu_q => by by_cases e_q : u = x; (rw [e_q]; exact hna_q); exact ha_q u (by omega))
      · skip
        refine wp_iload_n dX9_firstLike_16 rfl ?_
        refine g_iret dX9_firstLike_17 rfl ?_
        exact k _ (Or.inl ⟨x, hxt_q, rfl, (hs_q.resolve_right (fun q => h13 q.1)).2, ha_q⟩)
set_option maxHeartbeats 4000000 in
theorem c_first {I S : Mem} {J : Mel} {Q : Option Value → Mem → Mem → Mel → Prop} {n t : Nat} (hn_q : n ≤ 6) (h1_q : I 123 1 = nI n) (ht_q : t ≤ 60) (k : ∀ r, (∃ u, u < t ∧ r = nI u ∧ alk n J u t ∧ ∀ v, v < u → ¬ alk n J v t) ∨ (r = -1 ∧ ∀ u, u < t → ¬ alk n J u t) → Q (some (.int r)) I S J) : M2 mX9_firstLike 2 [.ref 123, .int (nI t)] I S J Q := by
  refine m2_of [.ref 123, .int (nI t), dum] moX9_firstLike (Nat.le_of_ble_eq_true rfl) rfl ?_
  refine wp_iconst 0 dX9_firstLike_0 (by decide) ?_
  refine st_i_3_2 dX9_firstLike_1 (by decide) rfl ?_
  exact l_first hn_q h1_q ht_q k 0 (by omega) (fun u hu_q => by omega)
