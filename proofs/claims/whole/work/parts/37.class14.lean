set_option maxHeartbeats 4000000 in
theorem c_isOfKind {I S : Mem} {J : Mel} {Q : Option Value → Mem → Mem → Mel → Prop} {a y : Int32} (k : Q (some (.int (b01 (y = 0 ∨ a = y ∨ (y = 1 ∧ a = 2))))) I S J) : M2 mX10_isOfKind 1 [.int a, .int y] I S J Q := by
  refine m2_of [.int a, .int y] moX10_isOfKind (Nat.le_of_ble_eq_true rfl) rfl ?_
  refine wp_iload_n dX10_isOfKind_0 rfl ?_
  refine wp_if_eq dX10_isOfKind_1 (fun h1 => ?_) (fun h1 => ?_)
  · skip
    refine wp_iconst 1 dX10_isOfKind_19 (by decide) ?_
    refine wp_goto dX10_isOfKind_20 ?_
    refine g_zret dX10_isOfKind_24 rfl (by first | decide | assumption) ?_
    first | (rw [b01_t (by grind)] at k; exact k) | (rw [b01_f (by grind)] at k; exact k)
  · skip
    refine wp_iload_n dX10_isOfKind_4 rfl ?_
    refine wp_iload_n dX10_isOfKind_5 rfl ?_
    refine wp_icmp_eq dX10_isOfKind_6 (fun h6 => ?_) (fun h6 => ?_)
    · skip
      refine wp_iconst 1 dX10_isOfKind_19 (by decide) ?_
      refine wp_goto dX10_isOfKind_20 ?_
      refine g_zret dX10_isOfKind_24 rfl (by first | decide | assumption) ?_
      first | (rw [b01_t (by grind)] at k; exact k) | (rw [b01_f (by grind)] at k; exact k)
    · skip
      refine wp_iload_n dX10_isOfKind_9 rfl ?_
      refine wp_iconst 1 dX10_isOfKind_10 (by decide) ?_
      refine wp_icmp_ne dX10_isOfKind_11 (fun h11 => ?_) (fun h11 => ?_)
      · skip
        refine wp_iconst 0 dX10_isOfKind_23 (by decide) ?_
        refine g_zret dX10_isOfKind_24 rfl (by first | decide | assumption) ?_
        first | (rw [b01_t (by grind)] at k; exact k) | (rw [b01_f (by grind)] at k; exact k)
      · skip
        refine wp_iload_n dX10_isOfKind_14 rfl ?_
        refine wp_iconst 2 dX10_isOfKind_15 (by decide) ?_
        refine wp_icmp_ne dX10_isOfKind_16 (fun h16 => ?_) (fun h16 => ?_)
        · skip
          refine wp_iconst 0 dX10_isOfKind_23 (by decide) ?_
          refine g_zret dX10_isOfKind_24 rfl (by first | decide | assumption) ?_
          first | (rw [b01_t (by grind)] at k; exact k) | (rw [b01_f (by grind)] at k; exact k)
        · skip
          refine wp_iconst 1 dX10_isOfKind_19 (by decide) ?_
          refine wp_goto dX10_isOfKind_20 ?_
          refine g_zret dX10_isOfKind_24 rfl (by first | decide | assumption) ?_
          first | (rw [b01_t (by grind)] at k; exact k) | (rw [b01_f (by grind)] at k; exact k)
theorem ct_eq {I S : Mem} {k i l n : Nat} (hi : i < n) (hR : RcL I k S) (hl : S 126 13 = nI l) (hl6 : l ≤ 6) (h : ∀ j, j < l → ∃ a b, a < 6 ∧ b < 6 ∧ S 138 j = nI a ∧ S 139 j = nI b) : ∀ c, c ≤ l → ctC I (k + 2) (nI i) c = lkN S i c := by
  intro c
  induction c with
  | zero => intro _; rfl
  | succ c ih =>
    intro hc
    have t := hR.2 c (by rw [hl, tn_nI (by omega)]; omega)
    obtain ⟨a, b, ha, hb, ea, eb⟩ := h c (by omega)
    simp only [ctC, lkN]
    rw [ih (by omega), show k + 2 + 1 = k + 3 from rfl, show k + 2 + 2 = k + 4 from rfl, t.1, t.2]
    have na : nI a ≠ -1 := nI_small (by omega)
    have nb : nI b ≠ -1 := nI_small (by omega)
    rw [ea, eb]
    by_cases q1 : nI a = nI i
    · simp [q1, nb]
    · by_cases q2 : nI b = nI i
      · simp [q1, q2, na]
      · simp [q1, q2]
theorem has_eq {n : Nat} {G : Mem} {x p : Int32} (h1 : G 126 1 = nI n) (hn : n ≤ 6) (hp : p = nI n) : (0 ≤ x ∧ x < p) ↔ isA G x := by
  unfold isA
  rw [h1, hp]
  have : n = 0 ∨ n = 1 ∨ n = 2 ∨ n = 3 ∨ n = 4 ∨ n = 5 ∨ n = 6 := by omega
  obtain h | h | h | h | h | h | h := this <;> subst h <;> constructor <;> intro ⟨a, b⟩ <;> refine ⟨a, ?_⟩ <;> revert a b <;> simp only [Int32.le_iff_toInt_le, Int32.lt_iff_toInt_lt] <;> simp only [nI] <;> intro a b <;> (first | (have := b; simp at *; omega) | skip)
set_option maxHeartbeats 4000000 in
theorem c_pas {I S : Mem} {J : Mel} {Q : Option Value → Mem → Mem → Mel → Prop} {n T : Nat} {G : Mem} (hH_q : Hc n T 0 I 24 G) {x y : Int32} (k : Q (some (.int (spAs G x y))) I S J) : M2 mX10_as 2 [.ref 2, .int x, .int y] I S J Q := by
  obtain ⟨hC_q, hW_q, hR_q, hP_q, hT_q⟩ := id hH_q
  obtain ⟨c1_q, c2_q, c3_q, c4_q, c5_q, c6_q, c7_q, c8_q, c9_q, c10_q, c11_q, c12_q, c13_q, c14_q⟩ := id hC_q
  have hn_q := hW_q.1
  unfold spAs at k
  have hA_q := has_eq (x := x) hW_q.2.1 hn_q hP_q.1
  refine m2_of [.ref 2, .int x, .int y] moX10_as (Nat.le_of_ble_eq_true rfl) rfl ?_
  refine wp_aload_n dX10_as_0 rfl ?_
  refine wp_getA (by first | rfl | assumption) dX10_as_1 flRX10_26 (by first | rfl | assumption) ?_
  refine wp_iload_n dX10_as_4 rfl ?_
  refine g_callV1 (mj := mX6_has) dX10_as_5 lkRX10_92 mkX6_has (by first | rfl | assumption) (by decide) (by decide) (Nat.le_of_ble_eq_true rfl) (c_has plan15 ?_)
  refine wp_if_ne dX10_as_8 (fun h8 => ?_) (fun h8 => ?_)
  · skip
    refine wp_iload_n dX10_as_14 rfl ?_
    refine wp_if_lt dX10_as_15 (fun h15 => ?_) (fun h15 => ?_)
    · skip
      refine wp_bipush (-102) dX10_as_23 (by decide) ?_
      refine g_iret dX10_as_25 rfl ?_
      have hx_q := hA_q.mp (b01_ne h8)
      rw [if_pos hx_q, if_neg (by grind)] at k; exact k
    · skip
      refine wp_iload_n dX10_as_18 rfl ?_
      refine wp_iconst 5 dX10_as_19 (by decide) ?_
      refine wp_icmp_lt dX10_as_20 (fun h20 => ?_) (fun h20 => ?_)
      · skip
        have hx_q := hA_q.mp (b01_ne h8)
        obtain ⟨i, hi_q, rfl⟩ := isA_of hW_q.2.1 hn_q hx_q
        have c5i_q := c5_q i (by omega)
        have cAi_q := c12_q i (by omega)
        obtain ⟨a1i_q, a2i_q, aBi_q, a6i_q⟩ := id cAi_q
        obtain ⟨b1i_q, b2i_q, b3i_q, b4i_q, b5i_q, b6i_q⟩ := id aBi_q
        obtain ⟨r1i_q, r2i_q, r3i_q, r4i_q, r5i_q, r6i_q, r7i_q, r8i_q, r9i_q⟩ := hR_q.2.2.1 i (by omega)
        refine wp_aload_n dX10_as_26 rfl ?_
        refine wp_getA (by first | rfl | assumption) dX10_as_27 flRX10_35 (by first | rfl | assumption) ?_
        refine wp_getA (by first | rfl | assumption) dX10_as_30 flRX10_100 (by first | rfl | assumption) ?_
        refine wp_iload_n dX10_as_33 rfl ?_
        refine wp_aald c5i_q dX10_as_34 c4_q rfl (by omega) (by decide) ?_
        refine c_getI dX10_as_35 flRX10_119 (by first | rfl | assumption) (by omega) ?_
        refine wp_iload_n dX10_as_38 rfl ?_
        refine g_callS2 (mj := mX10_isOfKind) dX10_as_39 lkRX10_122 mkX10_isOfKind (by decide) (by decide) (Nat.le_of_ble_eq_true rfl) (c_isOfKind ?_)
        refine wp_if_eq dX10_as_42 (fun h42 => ?_) (fun h42 => ?_)
        · skip
          refine wp_iconst (-1) dX10_as_49 (by decide) ?_
          refine g_iret dX10_as_50 rfl ?_
          rw [if_pos hx_q, if_pos (by grind), tn_nI (by omega), ← r1i_q] at k
          first | (rw [if_pos (b01_ne h42)] at k; exact k) | (rw [if_neg (b01_e0 h42)] at k; exact k)
        · skip
          refine wp_iload_n dX10_as_45 rfl ?_
          refine wp_goto dX10_as_46 ?_
          refine g_iret dX10_as_50 rfl ?_
          rw [if_pos hx_q, if_pos (by grind), tn_nI (by omega), ← r1i_q] at k
          first | (rw [if_pos (b01_ne h42)] at k; exact k) | (rw [if_neg (b01_e0 h42)] at k; exact k)
      · skip
        refine wp_bipush (-102) dX10_as_23 (by decide) ?_
        refine g_iret dX10_as_25 rfl ?_
        have hx_q := hA_q.mp (b01_ne h8)
        rw [if_pos hx_q, if_neg (by grind)] at k; exact k
  · skip
    refine wp_bipush (-101) dX10_as_11 (by decide) ?_
    refine g_iret dX10_as_13 rfl ?_
    rw [if_neg (fun q => b01_e0 (by first | exact h8 | exact Classical.not_not.mp h8) (hA_q.mpr q))] at k; exact k
set_option maxHeartbeats 4000000 in
theorem c_actorFact {I S : Mem} {J : Mel} {Q : Option Value → Mem → Mem → Mel → Prop} {n T : Nat} {G : Mem} (hH_q : Hc n T 0 I 24 G) (hE_q : WSe n G) {i v : Nat} (hi_q : i < n) (hv9_q : v < 10) (k : Q (some (.int (aN G i v))) I S J) : M2 mX10_actorFact 3 [.ref 2, .int (nI i), .int (nI v)] I S J Q := by
  obtain ⟨hC_q, hW_q, hR_q, hP_q, hT_q⟩ := id hH_q
  obtain ⟨c1_q, c2_q, c3_q, c4_q, c5_q, c6_q, c7_q, c8_q, c9_q, c10_q, c11_q, c12_q, c13_q, c14_q⟩ := id hC_q
  have hn_q := hW_q.1
  have c5i_q := c5_q i (by omega)
  have cAi_q := c12_q i (by omega)
  obtain ⟨a1i_q, a2i_q, aBi_q, a6i_q⟩ := id cAi_q
  obtain ⟨b1i_q, b2i_q, b3i_q, b4i_q, b5i_q, b6i_q⟩ := id aBi_q
  obtain ⟨r1i_q, r2i_q, r3i_q, r4i_q, r5i_q, r6i_q, r7i_q, r8i_q, r9i_q⟩ := hR_q.2.2.1 i (by omega)
  obtain ⟨p1_q, p2_q, p3_q, p4_q, p5_q, p6_q, p7_q, p8_q, p9_q⟩ := id plan15
  have pI_q := hP_q.2.1 i hi_q
  obtain ⟨s, hs6_q, hs_q, hsv_q⟩ := id hE_q
  obtain ⟨l, hl6_q, hl_q, hlv_q⟩ := id hW_q.2.2.2.1
  have so_q := so_eq (i := i) (n := n) hR_q.2.2.2.2 hs_q hs6_q (fun j hj => (hsv_q j hj).2) s (by omega)
  have ct_q := ct_eq hi_q hR_q.2.2.2.1 hl_q hl6_q (fun j hj => by obtain ⟨x, y, hx, hy, -, ex, ey⟩ := hlv_q j hj; exact ⟨x, y, by omega, by omega, ex, ey⟩) l (by omega)
  have sb_q := sb_eq (a := i) (s := s) (fun j hj => (hsv_q j hj).2.1)
  refine m2_of [.ref 2, .int (nI i), .int (nI v), dum] moX10_actorFact (Nat.le_of_ble_eq_true rfl) rfl ?_
  refine wp_aload_n dX10_actorFact_0 rfl ?_
  refine wp_getA (by first | rfl | assumption) dX10_actorFact_1 flRX10_35 (by first | rfl | assumption) ?_
  refine wp_getA (by first | rfl | assumption) dX10_actorFact_4 flRX10_100 (by first | rfl | assumption) ?_
  refine wp_iload_n dX10_actorFact_7 rfl ?_
  refine wp_aald c5i_q dX10_actorFact_8 c4_q rfl (by omega) (by decide) ?_
  refine st_a_4_3 dX10_actorFact_9 (by decide) rfl ?_
  refine wp_iload_n dX10_actorFact_10 rfl ?_
  rcases (show v = 0 ∨ v = 1 ∨ v = 2 ∨ v = 3 ∨ v = 4 ∨ v = 5 ∨ v = 6 ∨ v = 7 ∨ v = 8 ∨ v = 9 by omega) with rfl | rfl | rfl | rfl | rfl | rfl | rfl | rfl | rfl | rfl
  · skip
    refine wp_tswIn (off := 49) (tgt := 60) dX10_actorFact_11 0 rfl (by decide) (by decide) (by decide) (by decide) ?_
    refine wp_aload_n dX10_actorFact_60 rfl ?_
    refine c_getI dX10_actorFact_61 flRX10_119 (by first | rfl | assumption) (by omega) ?_
    refine g_iret dX10_actorFact_64 rfl ?_
    rw [r1i_q]; exact k
  · skip
    refine wp_tswIn (off := 54) (tgt := 65) dX10_actorFact_11 1 rfl (by decide) (by decide) (by decide) (by decide) ?_
    refine wp_aload_n dX10_actorFact_65 rfl ?_
    refine c_getZ dX10_actorFact_66 flRX10_126 (by first | rfl | assumption) (by omega) ?_
    refine wp_if_eq dX10_actorFact_69 (fun h69 => ?_) (fun h69 => ?_)
    · skip
      refine wp_iconst 0 dX10_actorFact_76 (by decide) ?_
      refine g_iret dX10_actorFact_77 rfl ?_
      simp only [aN] at k
      obtain ⟨-, u_q, -⟩ := hW_q.2.2.2.2 i hi_q
      rw [r2i_q] at h69
      first | (rw [h69] at k; exact k) | (rw [u_q.resolve_left h69] at k; exact k)
    · skip
      refine wp_iconst 1 dX10_actorFact_72 (by decide) ?_
      refine wp_goto dX10_actorFact_73 ?_
      refine g_iret dX10_actorFact_77 rfl ?_
      simp only [aN] at k
      obtain ⟨-, u_q, -⟩ := hW_q.2.2.2.2 i hi_q
      rw [r2i_q] at h69
      first | (rw [h69] at k; exact k) | (rw [u_q.resolve_left h69] at k; exact k)
  · skip
    refine wp_tswIn (off := 67) (tgt := 78) dX10_actorFact_11 2 rfl (by decide) (by decide) (by decide) (by decide) ?_
    refine wp_aload_n dX10_actorFact_78 rfl ?_
    refine c_getI dX10_actorFact_79 flRX10_222 (by first | rfl | assumption) (by omega) ?_
    refine g_iret dX10_actorFact_82 rfl ?_
    rw [r3i_q]; exact k
  · skip
    refine wp_tswIn (off := 72) (tgt := 83) dX10_actorFact_11 3 rfl (by decide) (by decide) (by decide) (by decide) ?_
    refine wp_aload_n dX10_actorFact_83 rfl ?_
    refine c_getI dX10_actorFact_84 flRX10_225 (by first | rfl | assumption) (by omega) ?_
    refine g_iret dX10_actorFact_87 rfl ?_
    rw [r4i_q]; exact k
  · skip
    refine wp_tswIn (off := 77) (tgt := 88) dX10_actorFact_11 4 rfl (by decide) (by decide) (by decide) (by decide) ?_
    refine wp_aload_n dX10_actorFact_88 rfl ?_
    refine wp_getA (by first | rfl | assumption) dX10_actorFact_89 flRX10_103 (by first | rfl | assumption) ?_
    refine c_getI dX10_actorFact_92 flRX10_109 (by first | rfl | assumption) (by omega) ?_
    refine g_iret dX10_actorFact_95 rfl ?_
    rw [r8i_q]; exact k
  · skip
    refine wp_tswIn (off := 85) (tgt := 96) dX10_actorFact_11 5 rfl (by decide) (by decide) (by decide) (by decide) ?_
    refine wp_aload_n dX10_actorFact_96 rfl ?_
    refine c_getI dX10_actorFact_97 flRX10_228 (by first | rfl | assumption) (by omega) ?_
    refine g_iret dX10_actorFact_100 rfl ?_
    rw [r5i_q]; exact k
  · skip
    refine wp_tswIn (off := 90) (tgt := 101) dX10_actorFact_11 6 rfl (by decide) (by decide) (by decide) (by decide) ?_
    refine wp_aload_n dX10_actorFact_101 rfl ?_
    refine wp_getA (by first | rfl | assumption) dX10_actorFact_102 flRX10_26 (by first | rfl | assumption) ?_
    refine wp_getA (by first | rfl | assumption) dX10_actorFact_105 flRX10_231 (by first | rfl | assumption) ?_
    refine wp_iload_n dX10_actorFact_108 rfl ?_
    refine c_iald dX10_actorFact_109 rfl rfl (by omega) (by omega) (by decide) ?_
    refine g_iret dX10_actorFact_110 rfl ?_
    rw [pI_q]; exact k
  · skip
    refine wp_tswIn (off := 100) (tgt := 111) dX10_actorFact_11 7 rfl (by decide) (by decide) (by decide) (by decide) ?_
    refine wp_aload_n dX10_actorFact_111 rfl ?_
    refine wp_getA (by first | rfl | assumption) dX10_actorFact_112 flRX10_35 (by first | rfl | assumption) ?_
    refine wp_getA (by first | rfl | assumption) dX10_actorFact_115 flRX10_194 (by first | rfl | assumption) ?_
    refine wp_iload_n dX10_actorFact_118 rfl ?_
    refine g_callV1 (mj := mX8_sortsOf) dX10_actorFact_119 lkRX10_234 mkX8_sortsOf (by first | rfl | assumption) (by decide) (by decide) (Nat.le_of_ble_eq_true rfl) (c_csorts c9_q (hR_q.2.2.2.2.1.trans hs_q) hs6_q ?_)
    refine g_iret dX10_actorFact_122 rfl ?_
    simp only [aN] at k; rw [hs_q, tn_nI (by omega), sb_q] at k; rw [so_q]; exact k
  · skip
    refine wp_tswIn (off := 112) (tgt := 123) dX10_actorFact_11 8 rfl (by decide) (by decide) (by decide) (by decide) ?_
    refine wp_aload_n dX10_actorFact_123 rfl ?_
    refine wp_getA (by first | rfl | assumption) dX10_actorFact_124 flRX10_35 (by first | rfl | assumption) ?_
    refine wp_getA (by first | rfl | assumption) dX10_actorFact_127 flRX10_194 (by first | rfl | assumption) ?_
    refine wp_iload_n dX10_actorFact_130 rfl ?_
    refine g_callV1 (mj := mX8_sortsOf) dX10_actorFact_131 lkRX10_234 mkX8_sortsOf (by first | rfl | assumption) (by decide) (by decide) (Nat.le_of_ble_eq_true rfl) (c_csorts c9_q (hR_q.2.2.2.2.1.trans hs_q) hs6_q ?_)
    refine g_callS1 (mj := mX8_askFor) dX10_actorFact_134 lkRX10_237 mkX8_askFor (by decide) (by decide) (Nat.le_of_ble_eq_true rfl) (c_askFor ?_)
    refine g_iret dX10_actorFact_137 rfl ?_
    simp only [aN] at k; rw [hs_q, tn_nI (by omega), sb_q] at k; rw [so_q, ask_eq _ (mNs_lt (n := n) _ _ (fun j hj => (hsv_q j hj).2.1))]; exact k
  · skip
    refine wp_tswOut (tgt := 138) dX10_actorFact_11 (by decide) (by decide) ?_
    refine wp_aload_n dX10_actorFact_138 rfl ?_
    refine wp_getA (by first | rfl | assumption) dX10_actorFact_139 flRX10_35 (by first | rfl | assumption) ?_
    refine wp_getA (by first | rfl | assumption) dX10_actorFact_142 flRX10_158 (by first | rfl | assumption) ?_
    refine wp_iload_n dX10_actorFact_145 rfl ?_
    refine g_callV1 (mj := mX4_countOf) dX10_actorFact_146 lkRX10_240 mkX4_countOf (by first | rfl | assumption) (by decide) (by decide) (Nat.le_of_ble_eq_true rfl) (c_countOf c7_q (hR_q.2.2.2.1.1.trans hl_q) hl6_q ?_)
    refine g_iret dX10_actorFact_149 rfl ?_
    simp only [aN] at k; rw [hl_q, tn_nI (by omega)] at k; rw [ct_q]; exact k
set_option maxHeartbeats 4000000 in
theorem c_pactor {I S : Mem} {J : Mel} {Q : Option Value → Mem → Mem → Mel → Prop} {n T : Nat} {G : Mem} (hH_q : Hc n T 0 I 24 G) (hE_q : WSe n G) {x y : Int32} (k : Q (some (.int (spActor G x y))) I S J) : M2 mX10_actor 4 [.ref 2, .int x, .int y] I S J Q := by
  obtain ⟨hC_q, hW_q, hR_q, hP_q, hT_q⟩ := id hH_q
  obtain ⟨c1_q, c2_q, c3_q, c4_q, c5_q, c6_q, c7_q, c8_q, c9_q, c10_q, c11_q, c12_q, c13_q, c14_q⟩ := id hC_q
  have hn_q := hW_q.1
  unfold spActor at k
  have hA_q := has_eq (x := x) hW_q.2.1 hn_q hP_q.1
  refine m2_of [.ref 2, .int x, .int y] moX10_actor (Nat.le_of_ble_eq_true rfl) rfl ?_
  refine wp_aload_n dX10_actor_0 rfl ?_
  refine wp_getA (by first | rfl | assumption) dX10_actor_1 flRX10_26 (by first | rfl | assumption) ?_
  refine wp_iload_n dX10_actor_4 rfl ?_
  refine g_callV1 (mj := mX6_has) dX10_actor_5 lkRX10_92 mkX6_has (by first | rfl | assumption) (by decide) (by decide) (Nat.le_of_ble_eq_true rfl) (c_has plan15 ?_)
  refine wp_if_ne dX10_actor_8 (fun h8 => ?_) (fun h8 => ?_)
  · skip
    refine wp_iload_n dX10_actor_14 rfl ?_
    refine wp_if_lt dX10_actor_15 (fun h15 => ?_) (fun h15 => ?_)
    · skip
      refine wp_bipush (-102) dX10_actor_24 (by decide) ?_
      refine g_iret dX10_actor_26 rfl ?_
      have hx_q := hA_q.mp (b01_ne h8)
      rw [if_pos hx_q, if_neg (by grind)] at k; exact k
    · skip
      refine wp_iload_n dX10_actor_18 rfl ?_
      refine wp_bipush 10 dX10_actor_19 (by decide) ?_
      refine wp_icmp_lt dX10_actor_21 (fun h21 => ?_) (fun h21 => ?_)
      · skip
        have hx_q := hA_q.mp (b01_ne h8)
        have hy_q : 0 ≤ y ∧ y ≤ 9 := by grind
        obtain ⟨v, hv9_q, rfl⟩ := in_of (m := 9) (by omega) hy_q.1 hy_q.2
        replace hv9_q : v < 10 := by omega
        obtain ⟨i, hi_q, rfl⟩ := isA_of hW_q.2.1 hn_q hx_q
        refine wp_aload_n dX10_actor_27 rfl ?_
        refine wp_iload_n dX10_actor_28 rfl ?_
        refine wp_iload_n dX10_actor_29 rfl ?_
        refine g_callV2 (mj := mX10_actorFact) dX10_actor_30 lkRX10_96 mkX10_actorFact (by first | rfl | assumption) (by decide) (by decide) (Nat.le_of_ble_eq_true rfl) (c_actorFact hH_q hE_q hi_q hv9_q ?_)
        refine g_iret dX10_actor_33 rfl ?_
        rw [if_pos hx_q, if_pos hy_q, tn_nI (by omega), tn_nI (by omega)] at k; exact k
      · skip
        refine wp_bipush (-102) dX10_actor_24 (by decide) ?_
        refine g_iret dX10_actor_26 rfl ?_
        have hx_q := hA_q.mp (b01_ne h8)
        rw [if_pos hx_q, if_neg (by grind)] at k; exact k
  · skip
    refine wp_bipush (-101) dX10_actor_11 (by decide) ?_
    refine g_iret dX10_actor_13 rfl ?_
    rw [if_neg (fun q => b01_e0 (by first | exact h8 | exact Classical.not_not.mp h8) (hA_q.mpr q))] at k; exact k
set_option maxHeartbeats 4000000 in
theorem c_countFact {I S : Mem} {J : Mel} {Q : Option Value → Mem → Mem → Mel → Prop} {n T : Nat} {G : Mem} (hH_q : Hc n T 0 I 24 G) (q0_q : I 2 9 = G 126 0) (q1_q : I 2 10 = G 126 18) (q2_q : I 3 1 = G 126 23) {v : Nat} (hv_q : v < 11) (k : Q (some (.int (spCount G (nI v)))) I S J) : M2 mX10_countFact 2 [.ref 2, .int (nI v)] I S J Q := by
  obtain ⟨hC_q, hW_q, hR_q, hP_q, hT_q⟩ := id hH_q
  obtain ⟨c1_q, c2_q, c3_q, c4_q, c5_q, c6_q, c7_q, c8_q, c9_q, c10_q, c11_q, c12_q, c13_q, c14_q⟩ := id hC_q
  have hn_q := hW_q.1
  obtain ⟨p1_q, p2_q, p3_q, p4_q, p5_q, p6_q, p7_q, p8_q, p9_q⟩ := id plan15
  have hl_q := c7_q.1
  have hs_q := c9_q.1
  unfold spCount at k
  rw [hW_q.2.1, tn_nI (by omega)] at k
  refine m2_of [.ref 2, .int (nI v)] moX10_countFact (Nat.le_of_ble_eq_true rfl) rfl ?_
  refine wp_iload_n dX10_countFact_0 rfl ?_
  rcases (show v = 0 ∨ v = 1 ∨ v = 2 ∨ v = 3 ∨ v = 4 ∨ v = 5 ∨ v = 6 ∨ v = 7 ∨ v = 8 ∨ v = 9 ∨ v = 10 by omega) with rfl | rfl | rfl | rfl | rfl | rfl | rfl | rfl | rfl | rfl | rfl
  · skip
    refine wp_tswIn (off := 55) (tgt := 56) dX10_countFact_1 0 rfl (by decide) (by decide) (by decide) (by decide) ?_
    refine wp_aload_n dX10_countFact_56 rfl ?_
    refine wp_getA (by first | rfl | assumption) dX10_countFact_57 flRX10_26 (by first | rfl | assumption) ?_
    refine c_getI dX10_countFact_60 flRX10_89 (by first | rfl | assumption) (by omega) ?_
    refine g_iret dX10_countFact_63 rfl ?_
    rw [hP_q.1]; exact k
  · skip
    refine wp_tswIn (off := 63) (tgt := 64) dX10_countFact_1 1 rfl (by decide) (by decide) (by decide) (by decide) ?_
    refine wp_aload_n dX10_countFact_64 rfl ?_
    refine wp_getA (by first | rfl | assumption) dX10_countFact_65 flRX10_35 (by first | rfl | assumption) ?_
    refine g_callV0 (mj := mX2_upInAll) dX10_countFact_68 lkRX10_155 mkX2_upInAll (by first | rfl | assumption) (by decide) (by decide) (Nat.le_of_ble_eq_true rfl) (c_cups hH_q ?_)
    refine g_iret dX10_countFact_71 rfl ?_
    exact k
  · skip
    refine wp_tswIn (off := 71) (tgt := 72) dX10_countFact_1 2 rfl (by decide) (by decide) (by decide) (by decide) ?_
    refine wp_aload_n dX10_countFact_72 rfl ?_
    refine wp_getA (by first | rfl | assumption) dX10_countFact_73 flRX10_35 (by first | rfl | assumption) ?_
    refine wp_getA (by first | rfl | assumption) dX10_countFact_76 flRX10_158 (by first | rfl | assumption) ?_
    refine c_getI dX10_countFact_79 flRX10_171 (by first | rfl | assumption) (by omega) ?_
    refine g_iret dX10_countFact_82 rfl ?_
    rw [hR_q.2.2.2.1.1]; exact k
  · skip
    refine wp_tswIn (off := 82) (tgt := 83) dX10_countFact_1 3 rfl (by decide) (by decide) (by decide) (by decide) ?_
    refine wp_aload_n dX10_countFact_83 rfl ?_
    refine wp_getA (by first | rfl | assumption) dX10_countFact_84 flRX10_35 (by first | rfl | assumption) ?_
    refine c_getI dX10_countFact_87 flRX10_139 (by first | rfl | assumption) (by omega) ?_
    refine g_iret dX10_countFact_90 rfl ?_
    rw [hR_q.1]; exact k
  · skip
    refine wp_tswIn (off := 90) (tgt := 91) dX10_countFact_1 4 rfl (by decide) (by decide) (by decide) (by decide) ?_
    refine wp_aload_n dX10_countFact_91 rfl ?_
    refine wp_getA (by first | rfl | assumption) dX10_countFact_92 flRX10_35 (by first | rfl | assumption) ?_
    refine g_callV0 (mj := mX2_lettersInAll) dX10_countFact_95 lkRX10_243 mkX2_lettersInAll (by first | rfl | assumption) (by decide) (by decide) (Nat.le_of_ble_eq_true rfl) (c_clets hH_q ?_)
    refine g_iret dX10_countFact_98 rfl ?_
    exact k
  · skip
    refine wp_tswIn (off := 98) (tgt := 99) dX10_countFact_1 5 rfl (by decide) (by decide) (by decide) (by decide) ?_
    refine wp_aload_n dX10_countFact_99 rfl ?_
    refine wp_getA (by first | rfl | assumption) dX10_countFact_100 flRX10_35 (by first | rfl | assumption) ?_
    refine c_getI dX10_countFact_103 flRX10_209 (by first | rfl | assumption) (by omega) ?_
    refine g_iret dX10_countFact_106 rfl ?_
    rw [hR_q.2.1, Int32.add_zero]; exact k
  · skip
    refine wp_tswIn (off := 106) (tgt := 107) dX10_countFact_1 6 rfl (by decide) (by decide) (by decide) (by decide) ?_
    refine wp_aload_n dX10_countFact_107 rfl ?_
    refine wp_getA (by first | rfl | assumption) dX10_countFact_108 flRX10_35 (by first | rfl | assumption) ?_
    refine g_callV0 (mj := mX2_downsInAll) dX10_countFact_111 lkRX10_146 mkX2_downsInAll (by first | rfl | assumption) (by decide) (by decide) (Nat.le_of_ble_eq_true rfl) (c_cdowns hH_q ?_)
    refine g_iret dX10_countFact_114 rfl ?_
    exact k
  · skip
    refine wp_tswIn (off := 114) (tgt := 115) dX10_countFact_1 7 rfl (by decide) (by decide) (by decide) (by decide) ?_
    refine wp_aload_n dX10_countFact_115 rfl ?_
    refine wp_getA (by first | rfl | assumption) dX10_countFact_116 flRX10_35 (by first | rfl | assumption) ?_
    refine wp_getA (by first | rfl | assumption) dX10_countFact_119 flRX10_194 (by first | rfl | assumption) ?_
    refine c_getI dX10_countFact_122 flRX10_202 (by first | rfl | assumption) (by omega) ?_
    refine g_iret dX10_countFact_125 rfl ?_
    rw [hR_q.2.2.2.2.1]; exact k
  · skip
    refine wp_tswIn (off := 125) (tgt := 126) dX10_countFact_1 8 rfl (by decide) (by decide) (by decide) (by decide) ?_
    refine wp_aload_n dX10_countFact_126 rfl ?_
    refine wp_getA (by first | rfl | assumption) dX10_countFact_127 flRX10_10 (by first | rfl | assumption) ?_
    refine c_getI dX10_countFact_130 flRX10_59 (by first | rfl | assumption) (by omega) ?_
    refine g_iret dX10_countFact_133 rfl ?_
    rw [q2_q]; exact k
  · skip
    refine wp_tswIn (off := 133) (tgt := 134) dX10_countFact_1 9 rfl (by decide) (by decide) (by decide) (by decide) ?_
    refine wp_aload_n dX10_countFact_134 rfl ?_
    refine c_getI dX10_countFact_135 flRX10_86 (by first | rfl | assumption) (by omega) ?_
    refine g_iret dX10_countFact_138 rfl ?_
    rw [q0_q]; exact k
  · skip
    refine wp_tswOut (tgt := 139) dX10_countFact_1 (by decide) (by decide) ?_
    refine wp_aload_n dX10_countFact_139 rfl ?_
    refine c_getI dX10_countFact_140 flRX10_178 (by first | rfl | assumption) (by omega) ?_
    refine g_iret dX10_countFact_143 rfl ?_
    rw [q1_q]; exact k
theorem spC_out {G : Mem} {y : Int32} (h : ¬ (0 ≤ y ∧ y ≤ 10)) : spCount G y = -102 := by
  unfold spCount
  have f : ∀ z : Int32, (0 ≤ z ∧ z ≤ 10) → y ≠ z := fun z hz e => h (e ▸ hz)
  rw [if_neg (f 0 (by decide)), if_neg (f 1 (by decide)), if_neg (f 2 (by decide)), if_neg (f 3 (by decide)), if_neg (f 4 (by decide)), if_neg (f 5 (by decide)), if_neg (f 6 (by decide)), if_neg (f 7 (by decide)), if_neg (f 8 (by decide)), if_neg (f 9 (by decide)), if_neg (f 10 (by decide))]
set_option maxHeartbeats 4000000 in
theorem c_pcount {I S : Mem} {J : Mel} {Q : Option Value → Mem → Mem → Mel → Prop} {n T : Nat} {G : Mem} (hH_q : Hc n T 0 I 24 G) (q0_q : I 2 9 = G 126 0) (q1_q : I 2 10 = G 126 18) (q2_q : I 3 1 = G 126 23) {y : Int32} (k : Q (some (.int (spCount G y))) I S J) : M2 mX10_count 3 [.ref 2, .int y] I S J Q := by
  refine m2_of [.ref 2, .int y] moX10_count (Nat.le_of_ble_eq_true rfl) rfl ?_
  refine wp_iload_n dX10_count_0 rfl ?_
  refine wp_if_lt dX10_count_1 (fun h1 => ?_) (fun h1 => ?_)
  · skip
    refine wp_bipush (-102) dX10_count_10 (by decide) ?_
    refine g_iret dX10_count_12 rfl ?_
    rw [spC_out (by grind)] at k; exact k
  · skip
    refine wp_iload_n dX10_count_4 rfl ?_
    refine wp_bipush 11 dX10_count_5 (by decide) ?_
    refine wp_icmp_lt dX10_count_7 (fun h7 => ?_) (fun h7 => ?_)
    · skip
      have hy_q : 0 ≤ y ∧ y ≤ 10 := by grind
      obtain ⟨v, hv9_q, rfl⟩ := in_of (m := 10) (by omega) hy_q.1 hy_q.2
      refine wp_aload_n dX10_count_13 rfl ?_
      refine wp_iload_n dX10_count_14 rfl ?_
      refine g_callV1 (mj := mX10_countFact) dX10_count_15 lkRX10_212 mkX10_countFact (by first | rfl | assumption) (by decide) (by decide) (Nat.le_of_ble_eq_true rfl) (c_countFact hH_q q0_q q1_q q2_q (by omega) ?_)
      refine g_iret dX10_count_18 rfl ?_
      exact k
    · skip
      refine wp_bipush (-102) dX10_count_10 (by decide) ?_
      refine g_iret dX10_count_12 rfl ?_
      rw [spC_out (by grind)] at k; exact k
set_option maxHeartbeats 4000000 in
theorem c_pbox {I S : Mem} {J : Mel} {Q : Option Value → Mem → Mem → Mel → Prop} {n T : Nat} {G : Mem} (hH_q : Hc n T 0 I 24 G) {x y v : Int32} (k : Q (some (.int (spBox G x y v))) I S J) : M2 mX10_box 2 [.ref 2, .int x, .int y, .int v] I S J Q := by
  obtain ⟨hC_q, hW_q, hR_q, hP_q, hT_q⟩ := id hH_q
  obtain ⟨c1_q, c2_q, c3_q, c4_q, c5_q, c6_q, c7_q, c8_q, c9_q, c10_q, c11_q, c12_q, c13_q, c14_q⟩ := id hC_q
  have hn_q := hW_q.1
  unfold spBox at k
  have hA_q := has_eq (x := x) hW_q.2.1 hn_q hP_q.1
  refine m2_of [.ref 2, .int x, .int y, .int v, dum] moX10_box (Nat.le_of_ble_eq_true rfl) rfl ?_
  refine wp_aload_n dX10_box_0 rfl ?_
  refine wp_getA (by first | rfl | assumption) dX10_box_1 flRX10_26 (by first | rfl | assumption) ?_
  refine wp_iload_n dX10_box_4 rfl ?_
  refine g_callV1 (mj := mX6_has) dX10_box_5 lkRX10_92 mkX6_has (by first | rfl | assumption) (by decide) (by decide) (Nat.le_of_ble_eq_true rfl) (c_has plan15 ?_)
  refine wp_if_eq dX10_box_8 (fun h8 => ?_) (fun h8 => ?_)
  · skip
    refine wp_bipush (-101) dX10_box_34 (by decide) ?_
    refine g_iret dX10_box_36 rfl ?_
    first
    | (rw [if_neg (fun q => b01_e0 h8 (hA_q.mpr q.1))] at k; exact k)
    | (rw [if_neg (fun q => absurd h12 (Int32.not_lt.mpr q.2.1))] at k; exact k)
    | (rw [r8i_q, hb_q] at h31; rw [hb_q] at k; rw [if_neg (fun q => h31 ((has_eq (n := b) (G := fun _ _ => nI b) rfl (by omega) rfl).mpr q.2).2)] at k; exact k)
  · skip
    have hx_q := hA_q.mp (b01_ne h8)
    obtain ⟨i, hi_q, rfl⟩ := isA_of hW_q.2.1 hn_q hx_q
    have c5i_q := c5_q i (by omega)
    have cAi_q := c12_q i (by omega)
    obtain ⟨a1i_q, a2i_q, aBi_q, a6i_q⟩ := id cAi_q
    obtain ⟨b1i_q, b2i_q, b3i_q, b4i_q, b5i_q, b6i_q⟩ := id aBi_q
    obtain ⟨r1i_q, r2i_q, r3i_q, r4i_q, r5i_q, r6i_q, r7i_q, r8i_q, r9i_q⟩ := hR_q.2.2.1 i (by omega)
    obtain ⟨-, -, -, -, ⟨b, hb5_q, hb_q, -⟩, -⟩ := hW_q.2.2.2.2 i hi_q
    rw [tn_nI (by omega)] at k
    refine wp_iload_n dX10_box_11 rfl ?_
    refine wp_if_lt dX10_box_12 (fun h12 => ?_) (fun h12 => ?_)
    · skip
      refine wp_bipush (-101) dX10_box_34 (by decide) ?_
      refine g_iret dX10_box_36 rfl ?_
      first
      | (rw [if_neg (fun q => b01_e0 h8 (hA_q.mpr q.1))] at k; exact k)
      | (rw [if_neg (fun q => absurd h12 (Int32.not_lt.mpr q.2.1))] at k; exact k)
      | (rw [r8i_q, hb_q] at h31; rw [hb_q] at k; rw [if_neg (fun q => h31 ((has_eq (n := b) (G := fun _ _ => nI b) rfl (by omega) rfl).mpr q.2).2)] at k; exact k)
    · skip
      refine wp_iload_n dX10_box_15 rfl ?_
      refine wp_aload_n dX10_box_16 rfl ?_
      refine wp_getA (by first | rfl | assumption) dX10_box_17 flRX10_35 (by first | rfl | assumption) ?_
      refine wp_getA (by first | rfl | assumption) dX10_box_20 flRX10_100 (by first | rfl | assumption) ?_
      refine wp_iload_n dX10_box_23 rfl ?_
      refine wp_aald c5i_q dX10_box_24 c4_q rfl (by omega) (by decide) ?_
      refine wp_getA (by first | rfl | assumption) dX10_box_25 flRX10_103 (by first | rfl | assumption) ?_
      refine c_getI dX10_box_28 flRX10_109 (by first | rfl | assumption) (by omega) ?_
      refine wp_icmp_lt dX10_box_31 (fun h31 => ?_) (fun h31 => ?_)
      · skip
        have hyb_q : ∃ j, j < b ∧ y = nI j := by
          obtain ⟨j, hj_q, rfl⟩ := nI_of h12
          rw [r8i_q, hb_q, nI_ltI hj_q (by omega)] at h31
          exact ⟨j, h31, rfl⟩
        obtain ⟨j, hj_q, rfl⟩ := hyb_q
        have hJ_q : isA G (nI i) ∧ 0 ≤ nI j ∧ nI j ≤ G 133 i - 1 := ⟨hx_q, by rw [hb_q]; exact (has_eq (n := b) (G := fun _ _ => nI b) rfl (by omega) rfl).mp ⟨nI_pos' (by omega), (nI_ltg (by omega) (by omega)).mpr hj_q⟩⟩
        rw [if_pos hJ_q] at k
        have rj_q := r9i_q j (by rw [hb_q, tn_nI (by omega)]; exact hj_q)
        refine wp_iload_n dX10_box_37 rfl ?_
        refine wp_if_lt dX10_box_38 (fun h38 => ?_) (fun h38 => ?_)
        · skip
          refine wp_bipush (-102) dX10_box_46 (by decide) ?_
          refine g_iret dX10_box_48 rfl ?_
          rw [if_neg (by grind)] at k; exact k
        · skip
          refine wp_iload_n dX10_box_41 rfl ?_
          refine wp_iconst 1 dX10_box_42 (by decide) ?_
          refine wp_icmp_le dX10_box_43 (fun h43 => ?_) (fun h43 => ?_)
          · skip
            refine wp_aload_n dX10_box_49 rfl ?_
            refine wp_getA (by first | rfl | assumption) dX10_box_50 flRX10_35 (by first | rfl | assumption) ?_
            refine wp_getA (by first | rfl | assumption) dX10_box_53 flRX10_100 (by first | rfl | assumption) ?_
            refine wp_iload_n dX10_box_56 rfl ?_
            refine wp_aald c5i_q dX10_box_57 c4_q rfl (by omega) (by decide) ?_
            refine wp_getA (by first | rfl | assumption) dX10_box_58 flRX10_103 (by first | rfl | assumption) ?_
            refine st_a_5_4 dX10_box_61 (by decide) rfl ?_
            refine wp_iload_n dX10_box_63 rfl ?_
            refine wp_if_ne dX10_box_64 (fun h64 => ?_) (fun h64 => ?_)
            · skip
              refine wp_aload dX10_box_77 rfl ?_
              refine wp_getA (by first | rfl | assumption) dX10_box_79 flRX10_116 (by first | rfl | assumption) ?_
              refine wp_iload_n dX10_box_82 rfl ?_
              refine c_iald dX10_box_83 b5i_q rfl (by omega) (by omega) (by decide) ?_
              refine g_iret dX10_box_84 rfl ?_
              rw [if_pos (by grind), tn_nI (by omega)] at k
              first | (rw [if_pos h64] at k; rw [rj_q.1]; exact k) | (rw [if_neg h64] at k; rw [rj_q.2]; exact k)
            · skip
              refine wp_aload dX10_box_67 rfl ?_
              refine wp_getA (by first | rfl | assumption) dX10_box_69 flRX10_112 (by first | rfl | assumption) ?_
              refine wp_iload_n dX10_box_72 rfl ?_
              refine c_iald dX10_box_73 b4i_q rfl (by omega) (by omega) (by decide) ?_
              refine wp_goto dX10_box_74 ?_
              refine g_iret dX10_box_84 rfl ?_
              rw [if_pos (by grind), tn_nI (by omega)] at k
              first | (rw [if_pos h64] at k; rw [rj_q.1]; exact k) | (rw [if_neg h64] at k; rw [rj_q.2]; exact k)
          · skip
            refine wp_bipush (-102) dX10_box_46 (by decide) ?_
            refine g_iret dX10_box_48 rfl ?_
            rw [if_neg (by grind)] at k; exact k
      · skip
        refine wp_bipush (-101) dX10_box_34 (by decide) ?_
        refine g_iret dX10_box_36 rfl ?_
        first
        | (rw [if_neg (fun q => b01_e0 h8 (hA_q.mpr q.1))] at k; exact k)
        | (rw [if_neg (fun q => absurd h12 (Int32.not_lt.mpr q.2.1))] at k; exact k)
        | (rw [r8i_q, hb_q] at h31; rw [hb_q] at k; rw [if_neg (fun q => h31 ((has_eq (n := b) (G := fun _ _ => nI b) rfl (by omega) rfl).mpr q.2).2)] at k; exact k)
set_option maxHeartbeats 4000000 in
theorem l_ptick {I S : Mem} {J : Mel} {Q : Option Value → Mem → Mem → Mel → Prop} {n T : Nat} {G : Mem} (hH_q : Hc n T 0 I 24 G) (h0_q : G 126 35 = 0) {m : Nat} (hm_q : m ≤ 50) (hT9_q : T + m ≤ 9999) (kk_q : ∀ I', Hc n (T + m) 0 I' 24 (tks m G) → Fr 24 I I' → Q (some (.int ((tks m G) 126 35))) I' S J) : ∀ (z : Nat) (I1 : Mem), (z ≤ m) → (Hc n (T + z) 0 I1 24 (tks z G)) → (Fr 24 I I1) → W2 mX10_tick 8 Q I1 S J 49 [.ref 2, .int (nI m), .int ((tks z G) 126 35), .int (nI z)] [] := by
  intro z I1
  induction hm : m - z using Nat.strongRecOn generalizing z I1 with
  | _ c ih =>
    intro hz_q hz1_q hf_q
    refine wp_iload_n dX10_tick_49 rfl ?_
    refine wp_iload_n dX10_tick_50 rfl ?_
    refine wp_icmp_ge dX10_tick_51 (fun h51 => ?_) (fun h51 => ?_)
    · skip
      refine wp_iload_n dX10_tick_70 rfl ?_
      refine g_iret dX10_tick_71 rfl ?_
      have e_q : z = m := by rw [nI_leg (by omega) (by omega)] at h51; omega
      subst e_q; exact kk_q I1 hz1_q hf_q
    · skip
      have hzm_q : z < m := by rw [nI_leg (by omega) (by omega)] at h51; omega
      refine wp_iload_n dX10_tick_54 rfl ?_
      refine wp_aload_n dX10_tick_55 rfl ?_
      refine wp_getA (by first | rfl | assumption) dX10_tick_56 flRX10_35 (by first | rfl | assumption) ?_
      refine g_callV0 (mj := mX2_runTick) dX10_tick_59 lkRX10_142 mkX2_runTick (by first | rfl | assumption) (by decide) (by decide) (Nat.le_of_ble_eq_true rfl) (c_runTick hz1_q (by omega) (fun I2 r hR2_q hf2_q he2_q => ?_))
      refine wp_iadd dX10_tick_62 ?_
      rw [← he2_q]
      refine st_i_4_2 dX10_tick_63 (by decide) rfl ?_
      refine ic_4_3 (nI (z + 1)) dX10_tick_64 (nI_inc z) (by decide) rfl ?_
      refine wp_goto dX10_tick_67 ?_
      exact ih _ (by omega) (z + 1) I2 rfl (by omega) (hz1_q.go hz1_q.2.1.tick hR2_q hf2_q (kpD.tick _) (by omega)) (hf_q.tr hf2_q)
theorem Hc.gs {n T k b j : Nat} {dl x : Int32} {I G : Mem} (h : Hc n T dl I k G) (h1 : scrC b j) (h2 : (b = 126 ∧ j ≠ 13 ∧ j ≠ 16 ∧ j ≠ 17 ∧ j ≠ 19) ∨ 143 ≤ b) : Hc n T dl I k (uI G b j x) :=
  ⟨h.1, h.2.1.scr h1, h.2.2.1.gscr h.2.1.bx (by omega), ⟨h.2.2.2.1.1, fun i hi => by rw [uI_ne (by omega)]; exact h.2.2.2.1.2.1 i hi, fun i hi q h1 h2 => by rw [uI_ne (by omega)] at h2 ⊢; exact h.2.2.2.1.2.2 i hi q h1 h2⟩, h.2.2.2.2⟩
set_option maxHeartbeats 4000000 in
theorem c_ptick {I S : Mem} {J : Mel} {Q : Option Value → Mem → Mem → Mel → Prop} {n T : Nat} {G : Mem} (hH_q : Hc n T 0 I 24 G) {x : Int32} (hT9_q : T ≤ 9999) (k : ∀ I' T', T' ≤ 9999 → Hc n T' 0 I' 24 (spTick G x).2 → Fr 24 I I' → Q (some (.int (spTick G x).1)) I' S J) : M2 mX10_tick 8 [.ref 2, .int x] I S J Q := by
  obtain ⟨hC_q, hW_q, hR_q, hP_q, hT_q⟩ := id hH_q
  obtain ⟨c1_q, c2_q, c3_q, c4_q, c5_q, c6_q, c7_q, c8_q, c9_q, c10_q, c11_q, c12_q, c13_q, c14_q⟩ := id hC_q
  have hn_q := hW_q.1
  unfold spTick at k
  refine m2_of [.ref 2, .int x, dum, dum] moX10_tick (Nat.le_of_ble_eq_true rfl) rfl ?_
  refine wp_iload_n dX10_tick_0 rfl ?_
  refine wp_iconst 1 dX10_tick_1 (by decide) ?_
  refine wp_icmp_lt dX10_tick_2 (fun h2 => ?_) (fun h2 => ?_)
  · skip
    refine wp_bipush (-102) dX10_tick_11 (by decide) ?_
    refine g_iret dX10_tick_13 rfl ?_
    rw [if_neg (by grind)] at k; exact k _ _ hT9_q hH_q Fr.rf
  · skip
    refine wp_iload_n dX10_tick_5 rfl ?_
    refine wp_bipush 50 dX10_tick_6 (by decide) ?_
    refine wp_icmp_le dX10_tick_8 (fun h8 => ?_) (fun h8 => ?_)
    · skip
      have hx_q : 1 ≤ x ∧ x ≤ 50 := by grind
      rw [if_pos hx_q] at k
      refine wp_aload_n dX10_tick_14 rfl ?_
      refine wp_getA (by first | rfl | assumption) dX10_tick_15 flRX10_26 (by first | rfl | assumption) ?_
      refine g_callV0 (mj := mX6_isNone) dX10_tick_18 lkRX10_136 mkX6_isNone (by first | rfl | assumption) (by decide) (by decide) (Nat.le_of_ble_eq_true rfl) (c_isNone plan15 ?_)
      refine wp_if_eq dX10_tick_21 (fun h21 => ?_) (fun h21 => ?_)
      · skip
        have n0_q : ¬ G 126 1 = 0 := fun q => b01_e0 h21 (by rw [hP_q.1, ← hW_q.2.1]; exact q)
        rw [if_neg n0_q] at k
        obtain ⟨m, hm_q, rfl⟩ := in_of (m := 50) (by omega) (Int32.le_trans (by decide) hx_q.1) hx_q.2
        refine wp_aload_n dX10_tick_27 rfl ?_
        refine wp_getA (by first | rfl | assumption) dX10_tick_28 flRX10_35 (by first | rfl | assumption) ?_
        refine c_getI dX10_tick_31 flRX10_139 (by first | rfl | assumption) (by omega) ?_
        refine wp_iload_n dX10_tick_34 rfl ?_
        refine wp_iadd dX10_tick_35 ?_
        rw [hR_q.1]
        refine wp_sipush 9999 dX10_tick_36 (by decide) ?_
        refine wp_icmp_le dX10_tick_39 (fun h39 => ?_) (fun h39 => ?_)
        · skip
          refine wp_iconst 0 dX10_tick_45 (by decide) ?_
          refine st_i_4_2 dX10_tick_46 (by decide) rfl ?_
          refine wp_iconst 0 dX10_tick_47 (by decide) ?_
          refine st_i_4_3 dX10_tick_48 (by decide) rfl ?_
          rw [if_pos h39] at k
          rw [hW_q.2.2.1, nI_add, show (9999 : Int32) = nI 9999 from rfl, nI_leI (by omega) (by omega)] at h39
          have z_q := hH_q.gs (b := 126) (j := 35) (x := 0) (by unfold scrC; omega) (by omega)
          rw [tn_nI (by omega)] at k
          refine l_ptick z_q (uI_self _ _ _ _) hm_q h39 (fun I2 h2_q f2_q => k I2 _ h39 h2_q f2_q) 0 I (by omega) z_q Fr.rf
        · skip
          refine wp_bipush (-104) dX10_tick_42 (by decide) ?_
          refine g_iret dX10_tick_44 rfl ?_
          rw [if_neg h39] at k; exact k _ _ hT9_q hH_q Fr.rf
      · skip
        refine wp_bipush (-103) dX10_tick_24 (by decide) ?_
        refine g_iret dX10_tick_26 rfl ?_
        have n0_q : G 126 1 = 0 := by rw [hW_q.2.1, ← hP_q.1]; exact b01_ne h21
        rw [if_pos n0_q] at k; exact k _ _ hT9_q hH_q Fr.rf
    · skip
      refine wp_bipush (-102) dX10_tick_11 (by decide) ?_
      refine g_iret dX10_tick_13 rfl ?_
      rw [if_neg (by grind)] at k; exact k _ _ hT9_q hH_q Fr.rf
set_option maxHeartbeats 4000000 in
theorem c_psend {I S : Mem} {J : Mel} {Q : Option Value → Mem → Mem → Mel → Prop} {n T : Nat} {G : Mem} (hH_q : Hc n T 0 I 24 G) {x y : Int32} (hT9_q : T ≤ 9999) (k : ∀ I' T', T' ≤ 9999 → Hc n T' 0 I' 24 (spSend G x y).2 → Fr 24 I I' → Q (some (.int (spSend G x y).1)) I' S J) : M2 mX10_send 3 [.ref 2, .int x, .int y] I S J Q := by
  obtain ⟨hC_q, hW_q, hR_q, hP_q, hT_q⟩ := id hH_q
  obtain ⟨c1_q, c2_q, c3_q, c4_q, c5_q, c6_q, c7_q, c8_q, c9_q, c10_q, c11_q, c12_q, c13_q, c14_q⟩ := id hC_q
  have hn_q := hW_q.1
  unfold spSend at k
  have hA_q := has_eq (x := x) hW_q.2.1 hn_q hP_q.1
  refine m2_of [.ref 2, .int x, .int y] moX10_send (Nat.le_of_ble_eq_true rfl) rfl ?_
  refine wp_aload_n dX10_send_0 rfl ?_
  refine wp_getA (by first | rfl | assumption) dX10_send_1 flRX10_26 (by first | rfl | assumption) ?_
  refine wp_iload_n dX10_send_4 rfl ?_
  refine g_callV1 (mj := mX6_has) dX10_send_5 lkRX10_92 mkX6_has (by first | rfl | assumption) (by decide) (by decide) (Nat.le_of_ble_eq_true rfl) (c_has plan15 ?_)
  refine wp_if_ne dX10_send_8 (fun h8 => ?_) (fun h8 => ?_)
  · skip
    have hx_q := hA_q.mp (b01_ne h8)
    obtain ⟨i, hi_q, rfl⟩ := isA_of hW_q.2.1 hn_q hx_q
    have c5i_q := c5_q i (by omega)
    have cAi_q := c12_q i (by omega)
    obtain ⟨a1i_q, a2i_q, aBi_q, a6i_q⟩ := id cAi_q
    obtain ⟨b1i_q, b2i_q, b3i_q, b4i_q, b5i_q, b6i_q⟩ := id aBi_q
    obtain ⟨r1i_q, r2i_q, r3i_q, r4i_q, r5i_q, r6i_q, r7i_q, r8i_q, r9i_q⟩ := hR_q.2.2.1 i (by omega)
    obtain ⟨-, u_q, -, -, ⟨b, hb5_q, hb_q, -⟩, -⟩ := hW_q.2.2.2.2 i hi_q
    rw [if_pos hx_q, tn_nI (by omega)] at k
    refine wp_iload_n dX10_send_14 rfl ?_
    refine wp_if_lt dX10_send_15 (fun h15 => ?_) (fun h15 => ?_)
    · skip
      refine wp_bipush (-102) dX10_send_24 (by decide) ?_
      refine g_iret dX10_send_26 rfl ?_
      rw [if_neg (by grind)] at k; exact k _ _ hT9_q hH_q Fr.rf
    · skip
      refine wp_iload_n dX10_send_18 rfl ?_
      refine wp_bipush 8 dX10_send_19 (by decide) ?_
      refine wp_icmp_le dX10_send_21 (fun h21 => ?_) (fun h21 => ?_)
      · skip
        have hy_q : 0 ≤ y ∧ y ≤ 8 := by grind
        rw [if_pos hy_q] at k
        refine wp_aload_n dX10_send_27 rfl ?_
        refine wp_getA (by first | rfl | assumption) dX10_send_28 flRX10_35 (by first | rfl | assumption) ?_
        refine wp_getA (by first | rfl | assumption) dX10_send_31 flRX10_100 (by first | rfl | assumption) ?_
        refine wp_iload_n dX10_send_34 rfl ?_
        refine wp_aald c5i_q dX10_send_35 c4_q rfl (by omega) (by decide) ?_
        refine c_getZ dX10_send_36 flRX10_126 (by first | rfl | assumption) (by omega) ?_
        refine wp_if_ne dX10_send_39 (fun h39 => ?_) (fun h39 => ?_)
        · skip
          rw [r2i_q] at h39
          rw [if_neg h39] at k
          refine wp_aload_n dX10_send_45 rfl ?_
          refine wp_getA (by first | rfl | assumption) dX10_send_46 flRX10_35 (by first | rfl | assumption) ?_
          refine wp_getA (by first | rfl | assumption) dX10_send_49 flRX10_100 (by first | rfl | assumption) ?_
          refine wp_iload_n dX10_send_52 rfl ?_
          refine wp_aald c5i_q dX10_send_53 c4_q rfl (by omega) (by decide) ?_
          refine wp_getA (by first | rfl | assumption) dX10_send_54 flRX10_103 (by first | rfl | assumption) ?_
          refine g_callV0 (mj := mX1_isFull) dX10_send_57 lkRX10_129 mkX1_isFull (by first | rfl | assumption) (by decide) (by decide) (Nat.le_of_ble_eq_true rfl) (c_isFull aBi_q ?_)
          refine wp_if_eq dX10_send_60 (fun h60 => ?_) (fun h60 => ?_)
          · skip
            rw [if_neg (fun q => b01_e0 h60 (by rw [r8i_q, q]; decide))] at k
            refine wp_aload_n dX10_send_66 rfl ?_
            refine wp_getA (by first | rfl | assumption) dX10_send_67 flRX10_35 (by first | rfl | assumption) ?_
            refine wp_iload_n dX10_send_70 rfl ?_
            refine wp_iload_n dX10_send_71 rfl ?_
            refine wp_iconst (-1) dX10_send_72 (by decide) ?_
            refine g_callV3 (mj := mX2_post) dX10_send_73 lkRX10_132 mkX2_post (by first | rfl | assumption) (by decide) (by decide) (Nat.le_of_ble_eq_true rfl) (c_cpost hH_q hi_q (fun I2 hR2_q hf2_q => ?_))
            refine wp_aload_n dX10_send_76 rfl ?_
            refine wp_getA (by first | rfl | assumption) dX10_send_77 flRX10_35 (by first | rfl | assumption) ?_
            refine wp_getA (by first | rfl | assumption) dX10_send_80 flRX10_100 (by first | rfl | assumption) ?_
            refine wp_iload_n dX10_send_83 rfl ?_
            refine wp_aald c5i_q dX10_send_84 c4_q rfl (by omega) (by decide) ?_
            refine wp_getA (by first | rfl | assumption) dX10_send_85 flRX10_103 (by first | rfl | assumption) ?_
            refine c_getI dX10_send_88 flRX10_109 (by first | rfl | assumption) (by omega) ?_
            refine g_iret dX10_send_91 rfl ?_
            have t_q := (hR2_q.2.2.1 i hi_q).2.2.2.2.2.2.2.1
            rw [t_q]
            exact k I2 T hT9_q (hH_q.go (hW_q.post hi_q ⟨in_of (m := 8) (by omega) hy_q.1 hy_q.2, Or.inl rfl⟩) hR2_q hf2_q (kpD.post _ _ _ _) hT_q) hf2_q
          · skip
            refine wp_bipush (-104) dX10_send_63 (by decide) ?_
            refine g_iret dX10_send_65 rfl ?_
            have f_q := b01_ne h60
            rw [r8i_q, hb_q, show (5 : Int32) = nI 5 from rfl, nI_leg (by omega) (by omega)] at f_q
            rw [if_pos (by rw [hb_q, show b = 5 by omega]; rfl)] at k; exact k _ _ hT9_q hH_q Fr.rf
        · skip
          refine wp_bipush (-103) dX10_send_42 (by decide) ?_
          refine g_iret dX10_send_44 rfl ?_
          rw [r2i_q] at h39
          rw [if_pos (by first | exact h39 | exact Classical.not_not.mp h39)] at k; exact k _ _ hT9_q hH_q Fr.rf
      · skip
        refine wp_bipush (-102) dX10_send_24 (by decide) ?_
        refine g_iret dX10_send_26 rfl ?_
        rw [if_neg (by grind)] at k; exact k _ _ hT9_q hH_q Fr.rf
  · skip
    refine wp_bipush (-101) dX10_send_11 (by decide) ?_
    refine g_iret dX10_send_13 rfl ?_
    rw [if_neg (fun q => b01_e0 (by first | exact h8 | exact Classical.not_not.mp h8) (hA_q.mpr q))] at k; exact k _ _ hT9_q hH_q Fr.rf
theorem Hc.rise {n T k i : Nat} {dl : Int32} {I G : Mem} (h : Hc n T dl I k G) (hi : i < n) : Hc n T dl (uI (uI (uI (uI I (k + 9 + 4 * i) 2 1) (k + 9 + 4 * i) 3 0) (k + 9 + 4 * i) 4 0) (k + 9 + 4 * i + 1) 2 0) k (fBegin G i) ∧ Fr k I (uI (uI (uI (uI I (k + 9 + 4 * i) 2 1) (k + 9 + 4 * i) 3 0) (k + 9 + 4 * i) 4 0) (k + 9 + 4 * i + 1) 2 0) := by
  have hn := h.2.1.1
  have bx := h.2.1.bx
  have f : Fr k I (uI (uI (uI (uI I (k + 9 + 4 * i) 2 1) (k + 9 + 4 * i) 3 0) (k + 9 + 4 * i) 4 0) (k + 9 + 4 * i + 1) 2 0) := ((((Fr.rf.st (by omega)).st (by omega)).st (by omega)).st (by omega))
  refine ⟨h.go (h.2.1.begin hi) ?_ f (kpD.begin _ _) h.2.2.2.2, f⟩
  unfold fBegin
  exact (((h.2.2.1.up bx hi).step (bx.ne (by decide)) hi).waited ((bx.ne (by decide)).ne (by decide)) hi).size0 (((bx.ne (by decide)).ne (by decide)).ne (by decide)) hi
set_option maxHeartbeats 4000000 in
theorem c_praise {I S : Mem} {J : Mel} {Q : Option Value → Mem → Mem → Mel → Prop} {n T : Nat} {G : Mem} (hH_q : Hc n T 0 I 24 G) {x : Int32} (hT9_q : T ≤ 9999) (k : ∀ I' T', T' ≤ 9999 → Hc n T' 0 I' 24 (spRaise G x).2 → Fr 24 I I' → Q (some (.int (spRaise G x).1)) I' S J) : M2 mX10_raise 2 [.ref 2, .int x] I S J Q := by
  obtain ⟨hC_q, hW_q, hR_q, hP_q, hT_q⟩ := id hH_q
  obtain ⟨c1_q, c2_q, c3_q, c4_q, c5_q, c6_q, c7_q, c8_q, c9_q, c10_q, c11_q, c12_q, c13_q, c14_q⟩ := id hC_q
  have hn_q := hW_q.1
  unfold spRaise at k
  have hA_q := has_eq (x := x) hW_q.2.1 hn_q hP_q.1
  refine m2_of [.ref 2, .int x] moX10_raise (Nat.le_of_ble_eq_true rfl) rfl ?_
  refine wp_aload_n dX10_raise_0 rfl ?_
  refine wp_getA (by first | rfl | assumption) dX10_raise_1 flRX10_26 (by first | rfl | assumption) ?_
  refine wp_iload_n dX10_raise_4 rfl ?_
  refine g_callV1 (mj := mX6_has) dX10_raise_5 lkRX10_92 mkX6_has (by first | rfl | assumption) (by decide) (by decide) (Nat.le_of_ble_eq_true rfl) (c_has plan15 ?_)
  refine wp_if_ne dX10_raise_8 (fun h8 => ?_) (fun h8 => ?_)
  · skip
    have hx_q := hA_q.mp (b01_ne h8)
    obtain ⟨i, hi_q, rfl⟩ := isA_of hW_q.2.1 hn_q hx_q
    have c5i_q := c5_q i (by omega)
    have cAi_q := c12_q i (by omega)
    obtain ⟨a1i_q, a2i_q, aBi_q, a6i_q⟩ := id cAi_q
    obtain ⟨b1i_q, b2i_q, b3i_q, b4i_q, b5i_q, b6i_q⟩ := id aBi_q
    obtain ⟨r1i_q, r2i_q, r3i_q, r4i_q, r5i_q, r6i_q, r7i_q, r8i_q, r9i_q⟩ := hR_q.2.2.1 i (by omega)
    obtain ⟨-, u_q, -⟩ := hW_q.2.2.2.2 i hi_q
    rw [if_pos hx_q, tn_nI (by omega)] at k
    refine wp_aload_n dX10_raise_14 rfl ?_
    refine wp_getA (by first | rfl | assumption) dX10_raise_15 flRX10_35 (by first | rfl | assumption) ?_
    refine wp_getA (by first | rfl | assumption) dX10_raise_18 flRX10_100 (by first | rfl | assumption) ?_
    refine wp_iload_n dX10_raise_21 rfl ?_
    refine wp_aald c5i_q dX10_raise_22 c4_q rfl (by omega) (by decide) ?_
    refine c_getZ dX10_raise_23 flRX10_126 (by first | rfl | assumption) (by omega) ?_
    refine wp_if_eq dX10_raise_26 (fun h26 => ?_) (fun h26 => ?_)
    · skip
      rw [r2i_q] at h26
      rw [if_neg (by rw [h26]; decide), hW_q.2.1, tn_nI (by omega)] at k
      refine wp_aload_n dX10_raise_32 rfl ?_
      refine wp_getA (by first | rfl | assumption) dX10_raise_33 flRX10_35 (by first | rfl | assumption) ?_
      refine wp_getA (by first | rfl | assumption) dX10_raise_36 flRX10_100 (by first | rfl | assumption) ?_
      refine wp_iload_n dX10_raise_39 rfl ?_
      refine wp_aald c5i_q dX10_raise_40 c4_q rfl (by omega) (by decide) ?_
      refine g_callV0 (mj := mX0_rise) dX10_raise_41 lkRX10_152 mkX0_rise (by first | rfl | assumption) (by decide) (by decide) (Nat.le_of_ble_eq_true rfl) (c_rise cAi_q ?_)
      obtain ⟨hz_q, hf_q⟩ := hH_q.rise hi_q
      refine wp_aload_n dX10_raise_44 rfl ?_
      refine wp_getA (by first | rfl | assumption) dX10_raise_45 flRX10_35 (by first | rfl | assumption) ?_
      refine g_callV0 (mj := mX2_upInAll) dX10_raise_48 lkRX10_155 mkX2_upInAll (by first | rfl | assumption) (by decide) (by decide) (Nat.le_of_ble_eq_true rfl) (c_cups hz_q ?_)
      refine g_iret dX10_raise_51 rfl ?_
      exact k _ _ hT9_q hz_q hf_q
    · skip
      refine wp_bipush (-103) dX10_raise_29 (by decide) ?_
      refine g_iret dX10_raise_31 rfl ?_
      rw [r2i_q] at h26
      rw [if_pos (u_q.resolve_left h26)] at k; exact k _ _ hT9_q hH_q Fr.rf
  · skip
    refine wp_bipush (-101) dX10_raise_11 (by decide) ?_
    refine g_iret dX10_raise_13 rfl ?_
    rw [if_neg (fun q => b01_e0 (by first | exact h8 | exact Classical.not_not.mp h8) (hA_q.mpr q))] at k; exact k _ _ hT9_q hH_q Fr.rf
