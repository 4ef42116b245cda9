/-- the row of both -/
def Rrw (I : Mem) (k : Nat) (G : Mem) : Prop := I k 5 = G 126 38 ∧ ∀ j, j < tn (G 126 38) → I (k + 8) j = G 149 j
theorem rr_nI {t : Nat} (h : t < 1000000) : rr (nI t) = nI t := by
  unfold rr
  rw [if_neg]
  intro hc
  have h1 := nI_pos (n := t) (by omega)
  rw [hc] at h1
  exact h1 (by decide)
theorem rr_cmp {T : Nat} {m : Int32} (hT : T < 100000) (h : okR T m) : nI T - rr m ≤ 4 ↔ nI T - m ≤ 4 := by
  rcases h with rfl | ⟨t, ht, rfl⟩
  · have e1 : nI T - rr (-268435456) = nI (T + 1000) := by
      have : rr (-268435456) = -1000 := by decide
      rw [this, ← nI_add, Int32.sub_eq_add_neg]
      exact congrArg (nI T + ·) (by decide)
    have e2 : nI T - (-268435456) = nI (T + 268435456) := by
      rw [← nI_add, Int32.sub_eq_add_neg]
      exact congrArg (nI T + ·) (by decide)
    have h4 : (4 : Int32) = nI 4 := rfl
    rw [e1, e2, h4, nI_leI (by omega) (by omega), nI_leI (by omega) (by omega)]
    omega
  · rw [rr_nI (by omega)]
theorem b01_iff {p q : Prop} [Decidable p] [Decidable q] (h : p ↔ q) : b01 p = b01 q := by
  unfold b01
  by_cases hp : p
  · rw [if_pos hp, if_pos (h.mp hp)]
  · rw [if_neg hp, if_neg (fun hq => hp (h.mpr hq))]
set_option maxHeartbeats 4000000 in
theorem c_join {I S : Mem} {J : Mel} {Q : Option Value → Mem → Mem → Mel → Prop} {k r : Nat} {x : Int32} (hC_q : IsCrew k) (hr_q : I k 5 = nI r) (hr2_q : r < 128) (kk_q : Q none (uI (uI I (k + 8) r x) k 5 (nI (r + 1))) S J) : M2 mX2_joinRow 1 [.ref k, .int x] I S J Q := by
  obtain ⟨c1_q, c2_q, c3_q, c4_q, c5_q, c6_q, c7_q, c8_q, c9_q, c10_q, c11_q, c12_q, c13_q, c14_q⟩ := id hC_q
  refine m2_of [.ref k, .int x] moX2_joinRow (Nat.le_of_ble_eq_true rfl) rfl ?_
  refine wp_aload_n dX2_joinRow_0 rfl ?_
  refine c_getI dX2_joinRow_1 flRX2_137 (by first | rfl | assumption) (by omega) ?_
  refine wp_sipush 128 dX2_joinRow_4 (by decide) ?_
  refine wp_icmp_ge dX2_joinRow_7 (fun h7 => absurd h7 (by rw [hr_q, show (128 : Int32) = nI 128 from rfl, nI_leg (by omega) (by omega)]; omega)) (fun h7 => ?_)
  refine wp_aload_n dX2_joinRow_10 rfl ?_
  refine wp_getA (by first | rfl | assumption) dX2_joinRow_11 flRX2_31 (by first | rfl | assumption) ?_
  refine wp_aload_n dX2_joinRow_14 rfl ?_
  refine c_getI dX2_joinRow_15 flRX2_137 (by first | rfl | assumption) (by omega) ?_
  refine wp_iload_n dX2_joinRow_18 rfl ?_
  refine c_iast dX2_joinRow_19 c11_q hr_q hr2_q (by omega) (by decide) ?_
  refine wp_aload_n dX2_joinRow_20 rfl ?_
  refine wp_dup dX2_joinRow_21 rfl ?_
  refine c_getI dX2_joinRow_22 flRX2_137 (by first | rfl | assumption) (by omega) ?_
  refine wp_iconst 1 dX2_joinRow_25 (by decide) ?_
  refine wp_iadd dX2_joinRow_26 ?_
  refine c_putI dX2_joinRow_27 flRX2_137 (by first | rfl | assumption) (by omega) ?_
  refine g_vret dX2_joinRow_30 rfl ?_
  rw [uI_ne (by omega), hr_q, nI_1]; exact kk_q
theorem fPost_hd (G : Mem) (t : Nat) (x y : Int32) : (fPost G t x y) 126 38 = G 126 38 ∧ (fPost G t x y) 149 = G 149 := by
  unfold fPost
  split
  · exact ⟨by simp [uI_ap], uI_ne (by decide)⟩
  · exact ⟨by simp [uI_ap], by rw [uI_ne (by decide), uI_ne (by decide), uI_ne (by decide)]⟩
set_option maxHeartbeats 4000000 in
theorem c_cpostR {I S : Mem} {J : Mel} {Q : Option Value → Mem → Mem → Mel → Prop} {n T k : Nat} {dl : Int32} {G : Mem} (hH_q : Hc n T dl I k G) {i : Nat} {x y : Int32} (hi_q : i < n) (hr_q : Rrw I k G) (kk_q : ∀ I', Rc n dl I' k (fPost G i x y) → Fr k I I' → Rrw I' k (fPost G i x y) → Q none I' S J) : M2 mX2_post 2 [.ref k, .int (nI i), .int x, .int y] I S J Q := by
  obtain ⟨hC_q, hW_q, hR_q, hP_q, hT_q⟩ := id hH_q
  obtain ⟨c1_q, c2_q, c3_q, c4_q, c5_q, c6_q, c7_q, c8_q, c9_q, c10_q, c11_q, c12_q, c13_q, c14_q⟩ := id hC_q
  have hn_q := hW_q.1
  have c5i_q := c5_q i (by omega)
  have cAi_q := c12_q i (by omega)
  obtain ⟨a1i_q, a2i_q, aBi_q, a6i_q⟩ := id cAi_q
  obtain ⟨b1i_q, b2i_q, b3i_q, b4i_q, b5i_q, b6i_q⟩ := id aBi_q
  obtain ⟨r1i_q, r2i_q, r3i_q, r4i_q, r5i_q, r6i_q, r7i_q, r8i_q, r9i_q⟩ := hR_q.2.2.1 i (by omega)
  obtain ⟨z, hz5_q, hz_q⟩ := hW_q.box hi_q
  have hzI_q : I (k + 9 + 4 * i + 1) 2 = nI z := r8i_q.trans hz_q
  have hu_q := (hW_q.2.2.2.2 i hi_q).2.1
  have h5_q : (5 : Int32) = nI 5 := rfl
  obtain ⟨hd1_q, hd2_q⟩ := fPost_hd G i x y
  have hrr_q : ∀ I', I' k 5 = I k 5 → I' (k + 8) = I (k + 8) → Rrw I' k (fPost G i x y) := fun I' e1 e2 => ⟨by rw [e1, hd1_q]; exact hr_q.1, fun j hj => by rw [hd1_q] at hj; rw [e2, hd2_q]; exact hr_q.2 j hj⟩
  refine m2_of [.ref k, .int (nI i), .int x, .int y, dum] moX2_post (Nat.le_of_ble_eq_true rfl) rfl ?_
  refine wp_aload_n dX2_post_0 rfl ?_
  refine wp_getA (by first | rfl | assumption) dX2_post_1 flRX2_11 (by first | rfl | assumption) ?_
  refine wp_iload_n dX2_post_4 rfl ?_
  refine wp_aald (by first | rfl | assumption) dX2_post_5 (by first | rfl | assumption) (by first | rfl | assumption) (by first | decide | omega | assumption) (by decide) ?_
  refine st_a_5_4 dX2_post_6 (by decide) rfl ?_
  refine wp_aload dX2_post_8 rfl ?_
  refine c_getZ dX2_post_10 flRX2_72 (by first | rfl | assumption) (by omega) ?_
  refine wp_if_eq dX2_post_13 (fun h13 => ?_) (fun h13 => ?_)
  · skip
    refine wp_aload_n dX2_post_40 rfl ?_
    refine wp_dup dX2_post_41 rfl ?_
    refine c_getI dX2_post_42 flRX2_63 (by first | rfl | assumption) (by omega) ?_
    refine wp_iconst 1 dX2_post_45 (by decide) ?_
    refine wp_iadd dX2_post_46 ?_
    refine c_putI dX2_post_47 flRX2_63 (by first | rfl | assumption) (by omega) ?_
    refine g_vret dX2_post_50 rfl ?_
    refine kk_q _ ?_ ?_ (hrr_q _ ?_ ?_)
    · unfold fPost
      rw [r2i_q] at h13
      first | (rw [if_pos (Or.inl h13)]; exact hR_q.lost hW_q.bx) | (rcases (show z = 5 ∨ z < 5 by omega) with e5_q | e5_q <;> first | (rw [if_pos (Or.inr (by rw [hz_q, e5_q]; rfl))]; exact hR_q.lost hW_q.bx) | (rw [hzI_q, b01_t (by rw [h5_q, nI_leg (by omega) (by omega)]; omega)] at h24; exact absurd h24 (by decide)) | (rw [hzI_q, b01_f (by rw [h5_q, nI_leg (by omega) (by omega)]; omega)] at h24; exact absurd rfl h24) | (rw [if_neg (by rintro (h | h); exact h13 h; rw [hz_q, h5_q, nI_eqg (by omega) (by omega)] at h; omega), hz_q, tn_nI (by omega)]; exact hR_q.push hW_q.bx hi_q hz_q e5_q))
    · first | exact Fr.rf.st (by omega) | exact ((Fr.rf.st (by omega)).st (by omega)).st (by omega)
    · first | (rw [uI_ap, if_neg (by omega)]; done) | (rw [uI_ap, if_neg (by omega), uI_ap, if_neg (by omega), uI_ap, if_neg (by omega)]; done)
    · first | exact uI_ne (by omega) | (rw [uI_ne (by omega), uI_ne (by omega), uI_ne (by omega)]; done)
  · skip
    refine wp_aload dX2_post_16 rfl ?_
    refine wp_getA (by first | rfl | assumption) dX2_post_18 flRX2_114 (by first | rfl | assumption) ?_
    refine g_callV0 (mj := mX1_isFull) dX2_post_21 lkRX2_129 mkX1_isFull (by first | rfl | assumption) (by decide) (by decide) (Nat.le_of_ble_eq_true rfl) (c_isFull aBi_q ?_)
    refine wp_if_ne dX2_post_24 (fun h24 => ?_) (fun h24 => ?_)
    · skip
      refine wp_aload_n dX2_post_40 rfl ?_
      refine wp_dup dX2_post_41 rfl ?_
      refine c_getI dX2_post_42 flRX2_63 (by first | rfl | assumption) (by omega) ?_
      refine wp_iconst 1 dX2_post_45 (by decide) ?_
      refine wp_iadd dX2_post_46 ?_
      refine c_putI dX2_post_47 flRX2_63 (by first | rfl | assumption) (by omega) ?_
      refine g_vret dX2_post_50 rfl ?_
      refine kk_q _ ?_ ?_ (hrr_q _ ?_ ?_)
      · unfold fPost
        rw [r2i_q] at h13
        first | (rw [if_pos (Or.inl h13)]; exact hR_q.lost hW_q.bx) | (rcases (show z = 5 ∨ z < 5 by omega) with e5_q | e5_q <;> first | (rw [if_pos (Or.inr (by rw [hz_q, e5_q]; rfl))]; exact hR_q.lost hW_q.bx) | (rw [hzI_q, b01_t (by rw [h5_q, nI_leg (by omega) (by omega)]; omega)] at h24; exact absurd h24 (by decide)) | (rw [hzI_q, b01_f (by rw [h5_q, nI_leg (by omega) (by omega)]; omega)] at h24; exact absurd rfl h24) | (rw [if_neg (by rintro (h | h); exact h13 h; rw [hz_q, h5_q, nI_eqg (by omega) (by omega)] at h; omega), hz_q, tn_nI (by omega)]; exact hR_q.push hW_q.bx hi_q hz_q e5_q))
      · first | exact Fr.rf.st (by omega) | exact ((Fr.rf.st (by omega)).st (by omega)).st (by omega)
      · first | (rw [uI_ap, if_neg (by omega)]; done) | (rw [uI_ap, if_neg (by omega), uI_ap, if_neg (by omega), uI_ap, if_neg (by omega)]; done)
      · first | exact uI_ne (by omega) | (rw [uI_ne (by omega), uI_ne (by omega), uI_ne (by omega)]; done)
    · skip
      refine wp_aload dX2_post_27 rfl ?_
      refine wp_getA (by first | rfl | assumption) dX2_post_29 flRX2_114 (by first | rfl | assumption) ?_
      refine wp_iload_n dX2_post_32 rfl ?_
      refine wp_iload_n dX2_post_33 rfl ?_
      refine g_callV2 (mj := mX1_add) dX2_post_34 lkRX2_133 mkX1_add (by first | rfl | assumption) (by decide) (by decide) (Nat.le_of_ble_eq_true rfl) (c_add aBi_q hzI_q (by rcases Nat.lt_or_ge z 5 with e | e; exact e; rw [hzI_q, b01_t (by rw [h5_q, nI_leg (by omega) (by omega)]; omega)] at h24; exact absurd h24 (by decide)) ?_)
      refine wp_goto dX2_post_37 ?_
      refine g_vret dX2_post_50 rfl ?_
      refine kk_q _ ?_ ?_ (hrr_q _ ?_ ?_)
      · unfold fPost
        rw [r2i_q] at h13
        first | (rw [if_pos (Or.inl h13)]; exact hR_q.lost hW_q.bx) | (rcases (show z = 5 ∨ z < 5 by omega) with e5_q | e5_q <;> first | (rw [if_pos (Or.inr (by rw [hz_q, e5_q]; rfl))]; exact hR_q.lost hW_q.bx) | (rw [hzI_q, b01_t (by rw [h5_q, nI_leg (by omega) (by omega)]; omega)] at h24; exact absurd h24 (by decide)) | (rw [hzI_q, b01_f (by rw [h5_q, nI_leg (by omega) (by omega)]; omega)] at h24; exact absurd rfl h24) | (rw [if_neg (by rintro (h | h); exact h13 h; rw [hz_q, h5_q, nI_eqg (by omega) (by omega)] at h; omega), hz_q, tn_nI (by omega)]; exact hR_q.push hW_q.bx hi_q hz_q e5_q))
      · first | exact Fr.rf.st (by omega) | exact ((Fr.rf.st (by omega)).st (by omega)).st (by omega)
      · first | (rw [uI_ap, if_neg (by omega)]; done) | (rw [uI_ap, if_neg (by omega), uI_ap, if_neg (by omega), uI_ap, if_neg (by omega)]; done)
      · first | exact uI_ne (by omega) | (rw [uI_ne (by omega), uI_ne (by omega), uI_ne (by omega)]; done)
set_option maxHeartbeats 4000000 in
theorem c_meet {I S : Mem} {J : Mel} {Q : Option Value → Mem → Mem → Mel → Prop} {n T k : Nat} {dl : Int32} {G : Mem} (hH_q : Hc n T dl I k G) {p f r : Nat} (hp_q : p < n) (hf_q : f < n) (hpf_q : p ≠ f) (hr_q : Rrw I k G) (hg_q : G 126 38 = nI r) (hr2_q : r < 120) (kk_q : ∀ I', Rc n dl I' k (fHear G p f) → Fr k I I' → Rrw I' k (fHear G p f) → Q none I' S J) : M2 mX2_meetFallen 3 [.ref k, .int (nI p), .int (nI f)] I S J Q := by
  obtain ⟨hC_q, hW_q, hR_q, hP_q, hT_q⟩ := id hH_q
  obtain ⟨c1_q, c2_q, c3_q, c4_q, c5_q, c6_q, c7_q, c8_q, c9_q, c10_q, c11_q, c12_q, c13_q, c14_q⟩ := id hC_q
  have hn_q := hW_q.1
  have c5p_q := c5_q p (by omega)
  have cAp_q := c12_q p (by omega)
  obtain ⟨a1p_q, a2p_q, aBp_q, a6p_q⟩ := id cAp_q
  obtain ⟨b1p_q, b2p_q, b3p_q, b4p_q, b5p_q, b6p_q⟩ := id aBp_q
  obtain ⟨r1p_q, r2p_q, r3p_q, r4p_q, r5p_q, r6p_q, r7p_q, r8p_q, r9p_q⟩ := hR_q.2.2.1 p (by omega)
  have c5f_q := c5_q f (by omega)
  have cAf_q := c12_q f (by omega)
  have a1f_q := cAf_q.1
  have hTT_q := hW_q.2.2.1
  obtain ⟨-, -, -, -, -, o1_q, o2_q⟩ := hW_q.2.2.2.2 p hp_q
  have ers_q : b01 (I k 6 - I (k + 9 + 4 * p) 6 ≤ 4) + b01 (I k 6 - I (k + 9 + 4 * p) 7 ≤ 4) = fRs G p := by
    unfold fRs
    rw [r6p_q, r7p_q, hR_q.1, hTT_q, b01_iff (rr_cmp hT_q o1_q), b01_iff (rr_cmp hT_q o2_q)]
  refine m2_of [.ref k, .int (nI p), .int (nI f), dum] moX2_meetFallen (Nat.le_of_ble_eq_true rfl) rfl ?_
  refine wp_aload_n dX2_meetFallen_0 rfl ?_
  refine wp_getA (by first | rfl | assumption) dX2_meetFallen_1 flRX2_11 (by first | rfl | assumption) ?_
  refine wp_iload_n dX2_meetFallen_4 rfl ?_
  refine wp_aald c5p_q dX2_meetFallen_5 c4_q rfl (by omega) (by decide) ?_
  refine st_a_4_3 dX2_meetFallen_6 (by decide) rfl ?_
  refine wp_aload_n dX2_meetFallen_7 rfl ?_
  refine c_getI dX2_meetFallen_8 flRX2_157 (by first | rfl | assumption) (by omega) ?_
  refine wp_iconst 2 dX2_meetFallen_11 (by decide) ?_
  refine wp_icmp_ne dX2_meetFallen_12 (fun h12 => ?_) (fun h12 => ?_)
  · skip
    refine wp_aload_n dX2_meetFallen_46 rfl ?_
    refine c_getI dX2_meetFallen_47 flRX2_157 (by first | rfl | assumption) (by omega) ?_
    refine wp_iconst 1 dX2_meetFallen_50 (by decide) ?_
    refine wp_icmp_ne dX2_meetFallen_51 (fun h51 => ?_) (fun h51 => ?_)
    · skip
      have hst_q : ¬ (G 127 p = 2 ∧ fRs G p < 2) := by
        rintro ⟨x1_q, x2_q⟩
        first | (rw [ers_q, b01_t x2_q] at h23; exact absurd h23 (by decide)) | exact h12 (r1p_q.trans x1_q)
      refine wp_aload_n dX2_meetFallen_65 rfl ?_
      refine wp_iload_n dX2_meetFallen_66 rfl ?_
      refine g_callV1 (mj := mX2_joinRow) dX2_meetFallen_67 lkRX2_140 mkX2_joinRow (by first | rfl | assumption) (by decide) (by decide) (Nat.le_of_ble_eq_true rfl) (c_join hC_q (hr_q.1.trans hg_q) (by omega) ?_)
      refine g_vret dX2_meetFallen_70 rfl ?_
      unfold fHear at kk_q
      rw [if_neg (by rw [← r1p_q]; exact h51), if_neg hst_q] at kk_q
      refine kk_q _ ?_ ((Fr.rf.st (by omega)).st (by omega)) ⟨?_, fun j hj_q => ?_⟩
      · unfold fStand; exact (((hR_q.iscr hW_q.bx (by omega)).iscr hW_q.bx (by omega)).gscr hW_q.bx (by omega)).gscr (hW_q.bx.ne (by decide)) (by omega)
      · unfold fStand; rw [uI_self, uI_self, hg_q, nI_1]
      · unfold fStand at hj_q ⊢; rw [uI_self, hg_q, nI_1, tn_nI (by omega)] at hj_q; rw [uI_ne (by omega), uI_ne (show (149 : Nat) ≠ 126 by decide), hg_q, tn_nI (by omega), uI_ap, uI_ap]
        by_cases hjr_q : j = r
        · rw [if_pos ⟨rfl, hjr_q⟩, if_pos ⟨rfl, hjr_q⟩]
        · rw [if_neg (by omega), if_neg (by omega)]; exact hr_q.2 j (by rw [hg_q, tn_nI (by omega)]; omega)
    · skip
      refine wp_aload_n dX2_meetFallen_54 rfl ?_
      refine wp_iload_n dX2_meetFallen_55 rfl ?_
      refine wp_bipush 8 dX2_meetFallen_56 (by decide) ?_
      refine wp_iload_n dX2_meetFallen_58 rfl ?_
      refine g_callV3 (mj := mX2_post) dX2_meetFallen_59 lkRX2_100 mkX2_post (by first | rfl | assumption) (by decide) (by decide) (Nat.le_of_ble_eq_true rfl) (c_cpostR hH_q hp_q hr_q (fun I' g1_q g2_q g3_q => ?_))
      refine wp_goto dX2_meetFallen_62 ?_
      refine g_vret dX2_meetFallen_70 rfl ?_
      unfold fHear at kk_q
      rw [if_pos (by rw [← r1p_q]; exact h51)] at kk_q
      exact kk_q _ g1_q g2_q g3_q
  · skip
    refine wp_aload_n dX2_meetFallen_15 rfl ?_
    refine wp_aload_n dX2_meetFallen_16 rfl ?_
    refine c_getI dX2_meetFallen_17 flRX2_60 (by first | rfl | assumption) (by omega) ?_
    refine g_callV1 (mj := mX0_mayRaise) dX2_meetFallen_20 lkRX2_160 mkX0_mayRaise (by first | rfl | assumption) (by decide) (by decide) (Nat.le_of_ble_eq_true rfl) (c_mayRaise cAp_q ?_)
    refine wp_if_eq dX2_meetFallen_23 (fun h23 => ?_) (fun h23 => ?_)
    · skip
      refine wp_aload_n dX2_meetFallen_46 rfl ?_
      refine c_getI dX2_meetFallen_47 flRX2_157 (by first | rfl | assumption) (by omega) ?_
      refine wp_iconst 1 dX2_meetFallen_50 (by decide) ?_
      refine wp_icmp_ne dX2_meetFallen_51 (fun h51 => ?_) (fun h51 => ?_)
      · skip
        have hst_q : ¬ (G 127 p = 2 ∧ fRs G p < 2) := by
          rintro ⟨x1_q, x2_q⟩
          first | (rw [ers_q, b01_t x2_q] at h23; exact absurd h23 (by decide)) | exact h12 (r1p_q.trans x1_q)
        refine wp_aload_n dX2_meetFallen_65 rfl ?_
        refine wp_iload_n dX2_meetFallen_66 rfl ?_
        refine g_callV1 (mj := mX2_joinRow) dX2_meetFallen_67 lkRX2_140 mkX2_joinRow (by first | rfl | assumption) (by decide) (by decide) (Nat.le_of_ble_eq_true rfl) (c_join hC_q (hr_q.1.trans hg_q) (by omega) ?_)
        refine g_vret dX2_meetFallen_70 rfl ?_
        unfold fHear at kk_q
        rw [if_neg (by rw [← r1p_q]; exact h51), if_neg hst_q] at kk_q
        refine kk_q _ ?_ ((Fr.rf.st (by omega)).st (by omega)) ⟨?_, fun j hj_q => ?_⟩
        · unfold fStand; exact (((hR_q.iscr hW_q.bx (by omega)).iscr hW_q.bx (by omega)).gscr hW_q.bx (by omega)).gscr (hW_q.bx.ne (by decide)) (by omega)
        · unfold fStand; rw [uI_self, uI_self, hg_q, nI_1]
        · unfold fStand at hj_q ⊢; rw [uI_self, hg_q, nI_1, tn_nI (by omega)] at hj_q; rw [uI_ne (by omega), uI_ne (show (149 : Nat) ≠ 126 by decide), hg_q, tn_nI (by omega), uI_ap, uI_ap]
          by_cases hjr_q : j = r
          · rw [if_pos ⟨rfl, hjr_q⟩, if_pos ⟨rfl, hjr_q⟩]
          · rw [if_neg (by omega), if_neg (by omega)]; exact hr_q.2 j (by rw [hg_q, tn_nI (by omega)]; omega)
      · skip
        refine wp_aload_n dX2_meetFallen_54 rfl ?_
        refine wp_iload_n dX2_meetFallen_55 rfl ?_
        refine wp_bipush 8 dX2_meetFallen_56 (by decide) ?_
        refine wp_iload_n dX2_meetFallen_58 rfl ?_
        refine g_callV3 (mj := mX2_post) dX2_meetFallen_59 lkRX2_100 mkX2_post (by first | rfl | assumption) (by decide) (by decide) (Nat.le_of_ble_eq_true rfl) (c_cpostR hH_q hp_q hr_q (fun I' g1_q g2_q g3_q => ?_))
        refine wp_goto dX2_meetFallen_62 ?_
        refine g_vret dX2_meetFallen_70 rfl ?_
        unfold fHear at kk_q
        rw [if_pos (by rw [← r1p_q]; exact h51)] at kk_q
        exact kk_q _ g1_q g2_q g3_q
    · skip
      rw [ers_q] at h23
      have hrs_q : fRs G p < 2 := by
        rcases Classical.em (fRs G p < 2) with hh_q | hh_q
        · exact hh_q
        · rw [b01_f hh_q] at h23; exact absurd rfl h23
      refine wp_aload_n dX2_meetFallen_26 rfl ?_
      refine wp_aload_n dX2_meetFallen_27 rfl ?_
      refine c_getI dX2_meetFallen_28 flRX2_60 (by first | rfl | assumption) (by omega) ?_
      refine g_callV1 (mj := mX0_noteRaise) dX2_meetFallen_31 lkRX2_163 mkX0_noteRaise (by first | rfl | assumption) (by decide) (by decide) (Nat.le_of_ble_eq_true rfl) (c_noteRaise cAp_q ?_)
      refine wp_aload_n dX2_meetFallen_34 rfl ?_
      refine wp_getA (by first | rfl | assumption) dX2_meetFallen_35 flRX2_11 (by first | rfl | assumption) ?_
      refine wp_iload_n dX2_meetFallen_38 rfl ?_
      refine wp_aald c5f_q dX2_meetFallen_39 c4_q rfl (by omega) (by decide) ?_
      refine g_callV0 (mj := mX0_rise) dX2_meetFallen_40 lkRX2_166 mkX0_rise (by first | rfl | assumption) (by decide) (by decide) (Nat.le_of_ble_eq_true rfl) (c_rise cAf_q ?_)
      refine wp_goto dX2_meetFallen_43 ?_
      refine g_vret dX2_meetFallen_70 rfl ?_
      unfold fHear at kk_q
      rw [if_neg (by rw [← r1p_q, h12]; decide), if_pos ⟨by rw [← r1p_q]; exact h12, hrs_q⟩] at kk_q
      refine kk_q _ ?_ ((((((Fr.rf.st (by omega)).st (by omega)).st (by omega)).st (by omega)).st (by omega)).st (by omega)) ⟨?_, fun j hj_q => ?_⟩
      · unfold fBegin
        have q1_q := hR_q.raise hW_q.bx hT_q hTT_q hp_q
        have bx_q : BX n (uI (uI G 137 (2 * p + 1) (G 137 (2 * p))) 137 (2 * p) (G 126 16)) := (hW_q.bx.ne (by decide)).ne (by decide)
        exact (((q1_q.up bx_q hf_q).step (bx_q.ne (by decide)) hf_q).waited ((bx_q.ne (by decide)).ne (by decide)) hf_q).size0 (((bx_q.ne (by decide)).ne (by decide)).ne (by decide)) hf_q
      · rw [uI_ap, if_neg (by omega), uI_ap, if_neg (by omega), uI_ap, if_neg (by omega), uI_ap, if_neg (by omega), uI_ap, if_neg (by omega), uI_ap, if_neg (by omega)]; simp only [fBegin, uI_ap]; simpa using hr_q.1
      · rw [uI_ne (by omega), uI_ne (by omega), uI_ne (by omega), uI_ne (by omega), uI_ne (by omega), uI_ne (by omega)]; unfold fBegin; rw [uI_ne (by decide), uI_ne (by decide), uI_ne (by decide), uI_ne (by decide), uI_ne (by decide), uI_ne (by decide)]; exact hr_q.2 j (by simp only [fBegin, uI_ap] at hj_q; simpa using hj_q)
theorem Hc.u01 {n T k i : Nat} {dl : Int32} {I G : Mem} (h : Hc n T dl I k G) (hi : i < n) : I (k + 9 + 4 * i) 2 = G 130 i ∧ (G 130 i = 0 ∨ G 130 i = 1) := ⟨(h.2.2.1.2.2.1 i hi).2.1, (h.2.1.2.2.2.2 i hi).2.1⟩
theorem Hc.lnk {n T k l j : Nat} {dl : Int32} {I G : Mem} (h : Hc n T dl I k G) (hl : G 126 13 = nI l) (hl6 : l ≤ 6) (hj : j < l) : I (k + 2) 2 = nI l ∧ I (k + 3) j = G 138 j ∧ I (k + 4) j = G 139 j := by
  obtain ⟨h1, h2⟩ := h.2.2.1.2.2.2.1
  have := h2 j (by rw [hl, tn_nI (by omega)]; exact hj)
  exact ⟨h1.trans hl, this.1, this.2⟩
set_option maxHeartbeats 4000000 in
theorem l_down {I0 S : Mem} {J : Mel} {Q : Option Value → Mem → Mem → Mel → Prop} {n T k : Nat} {dl : Int32} {G : Mem} {a l r : Nat} (hW_q : WS n T G) (ha_q : a < n) (hl_q : G 126 13 = nI l) (hl6_q : l ≤ 6) (hr_q : RVr n r G) (hr2_q : r < 110) (kk_q : ∀ I', Rc n dl I' k (fLk G a l) → Fr k I0 I' → Rrw I' k (fLk G a l) → Q none I' S J) : ∀ (x : Nat) (I : Mem) (v : Value), (x ≤ l) → (Hc n T dl I k (fLk G a x)) → (Fr k I0 I) → (Rrw I k (fLk G a x)) → W2 mX2_goDown 4 Q I S J 48 [.ref k, .int (nI a), .ref (k + 9 + 4 * a), .int (nI x), v] [] := by
  intro x I v
  induction hm : l - x using Nat.strongRecOn generalizing x I v with
  | _ c ih =>
    intro hx_q hH_q hF_q hw_q
    obtain ⟨hC_q, hWx_q, hR_q, hP_q, hT_q⟩ := id hH_q
    obtain ⟨c1_q, c2_q, c3_q, c4_q, c5_q, c6_q, c7_q, c8_q, c9_q, c10_q, c11_q, c12_q, c13_q, c14_q⟩ := id hC_q
    have hn_q := hW_q.1
    obtain ⟨l1_q, l2_q, l3_q, l4_q, l5_q, l6_q⟩ := id c7_q
    have hhd_q := fLk_hd G a x
    obtain ⟨g1_q, r1, g2_q, g3_q, g4_q, g5_q⟩ := lk_pot hW_q ha_q hl_q hl6_q hr_q (by omega) x hx_q
    have hlx_q : (fLk G a x) 126 13 = nI l := hhd_q.1.trans hl_q
    have hls_q : I (k + 2) 2 = nI l := hR_q.2.2.2.1.1.trans hlx_q
    refine wp_iload_n dX2_goDown_48 rfl ?_
    refine wp_aload_n dX2_goDown_49 rfl ?_
    refine wp_getA (by first | rfl | assumption) dX2_goDown_50 flRX2_20 (by first | rfl | assumption) ?_
    refine c_getI dX2_goDown_53 flRX2_150 (by first | rfl | assumption) (by omega) ?_
    refine wp_icmp_ge dX2_goDown_56 (fun h56 => ?_) (fun h56 => ?_)
    · skip
      refine g_vret dX2_goDown_102 rfl ?_
      have e_q : x = l := by rw [hls_q, nI_leg (by omega) (by omega)] at h56; omega
      rw [e_q] at hR_q hw_q
      exact kk_q _ hR_q hF_q hw_q
    · skip
      have hxl_q : x < l := by rw [hls_q, nI_leg (by omega) (by omega)] at h56; omega
      obtain ⟨-, j1_q, j2_q⟩ := hH_q.lnk hlx_q hl6_q hxl_q
      obtain ⟨⟨p, q, hp_q, hq_q, hpq_q, e1_q, e2_q⟩, ho_q⟩ := fOther_r (k := x) (a := a) hWx_q (fun l2 e1 e2 => by rw [hlx_q] at e1; have := (nI_eqg (by omega) (by omega)).mp e1; omega)
      refine wp_aload_n dX2_goDown_59 rfl ?_
      refine wp_getA (by first | rfl | assumption) dX2_goDown_60 flRX2_20 (by first | rfl | assumption) ?_
      refine wp_iload_n dX2_goDown_63 rfl ?_
      refine wp_iload_n dX2_goDown_64 rfl ?_
      refine g_callV2 (mj := mX4_partnerOf) dX2_goDown_65 lkRX2_151 mkX4_partnerOf (by first | rfl | assumption) (by decide) (by decide) (Nat.le_of_ble_eq_true rfl) (c_partner c7_q (by omega) ?_)
      have ef_q : (if I (k + 2 + 1) x = nI a then I (k + 2 + 2) x else if I (k + 2 + 2) x = nI a then I (k + 2 + 1) x else -1) = fOther (fLk G a x) x a := by unfold fOther; rw [show k + 2 + 1 = k + 3 from rfl, show k + 2 + 2 = k + 4 from rfl, j1_q, j2_q]
      rw [ef_q]
      refine st_i_5_4 dX2_goDown_68 (by decide) rfl ?_
      refine wp_iload dX2_goDown_70 rfl ?_
      refine wp_iconst (-1) dX2_goDown_72 (by decide) ?_
      refine wp_icmp_eq dX2_goDown_73 (fun h73 => ?_) (fun h73 => ?_)
      · skip
        refine ic_5_3 (nI (x + 1)) dX2_goDown_96 (nI_inc x) (by decide) rfl ?_
        refine wp_goto dX2_goDown_99 ?_
        first | (have ee_q := fLk_no1 h73; exact ih _ (by omega) (x + 1) I _ rfl (by omega) (by rw [ee_q]; exact hH_q) hF_q (by rw [ee_q]; exact hw_q)) | (have ee_q := fLk_no2 ey_q (by omega) (by rw [← u1_q, h86]; decide); exact ih _ (by omega) (x + 1) I _ rfl (by omega) (by rw [ee_q]; exact hH_q) hF_q (by rw [ee_q]; exact hw_q)) | (have ee_q := fLk_yes ey_q (by omega) (u2_q.resolve_left (by rw [← u1_q]; exact h86)); exact ih _ (by omega) (x + 1) I2 _ rfl (by omega) (by rw [ee_q]; exact hH_q.go (hWx_q.hear hy_q ha_q) m1_q m2_q (kpD.hear _ _ _) hT_q) (hF_q.tr m2_q) (by rw [ee_q]; exact m3_q))
      · skip
        obtain ⟨y, hy_q, hya_q, ey_q⟩ := ho_q.resolve_left h73
        rw [ey_q]
        have c5y_q := c5_q y (by omega)
        have a1y_q := (c12_q y (by omega)).1
        obtain ⟨u1_q, u2_q⟩ := hH_q.u01 hy_q
        refine wp_aload_n dX2_goDown_76 rfl ?_
        refine wp_getA (by first | rfl | assumption) dX2_goDown_77 flRX2_11 (by first | rfl | assumption) ?_
        refine wp_iload dX2_goDown_80 rfl ?_
        refine wp_aald c5y_q dX2_goDown_82 c4_q rfl (by omega) (by decide) ?_
        refine c_getZ dX2_goDown_83 flRX2_72 (by first | rfl | assumption) (by omega) ?_
        refine wp_if_eq dX2_goDown_86 (fun h86 => ?_) (fun h86 => ?_)
        · skip
          refine ic_5_3 (nI (x + 1)) dX2_goDown_96 (nI_inc x) (by decide) rfl ?_
          refine wp_goto dX2_goDown_99 ?_
          first | (have ee_q := fLk_no1 h73; exact ih _ (by omega) (x + 1) I _ rfl (by omega) (by rw [ee_q]; exact hH_q) hF_q (by rw [ee_q]; exact hw_q)) | (have ee_q := fLk_no2 ey_q (by omega) (by rw [← u1_q, h86]; decide); exact ih _ (by omega) (x + 1) I _ rfl (by omega) (by rw [ee_q]; exact hH_q) hF_q (by rw [ee_q]; exact hw_q)) | (have ee_q := fLk_yes ey_q (by omega) (u2_q.resolve_left (by rw [← u1_q]; exact h86)); exact ih _ (by omega) (x + 1) I2 _ rfl (by omega) (by rw [ee_q]; exact hH_q.go (hWx_q.hear hy_q ha_q) m1_q m2_q (kpD.hear _ _ _) hT_q) (hF_q.tr m2_q) (by rw [ee_q]; exact m3_q))
        · skip
          refine wp_aload_n dX2_goDown_89 rfl ?_
          refine wp_iload dX2_goDown_90 rfl ?_
          refine wp_iload_n dX2_goDown_92 rfl ?_
          refine g_callV2 (mj := mX2_meetFallen) dX2_goDown_93 lkRX2_154 mkX2_meetFallen (by first | rfl | assumption) (by decide) (by decide) (Nat.le_of_ble_eq_true rfl) (c_meet hH_q hy_q ha_q hya_q hw_q g2_q.1 (by omega) (fun I2 m1_q m2_q m3_q => ?_))
          refine ic_5_3 (nI (x + 1)) dX2_goDown_96 (nI_inc x) (by decide) rfl ?_
          refine wp_goto dX2_goDown_99 ?_
          first | (have ee_q := fLk_no1 h73; exact ih _ (by omega) (x + 1) I _ rfl (by omega) (by rw [ee_q]; exact hH_q) hF_q (by rw [ee_q]; exact hw_q)) | (have ee_q := fLk_no2 ey_q (by omega) (by rw [← u1_q, h86]; decide); exact ih _ (by omega) (x + 1) I _ rfl (by omega) (by rw [ee_q]; exact hH_q) hF_q (by rw [ee_q]; exact hw_q)) | (have ee_q := fLk_yes ey_q (by omega) (u2_q.resolve_left (by rw [← u1_q]; exact h86)); exact ih _ (by omega) (x + 1) I2 _ rfl (by omega) (by rw [ee_q]; exact hH_q.go (hWx_q.hear hy_q ha_q) m1_q m2_q (kpD.hear _ _ _) hT_q) (hF_q.tr m2_q) (by rw [ee_q]; exact m3_q))
