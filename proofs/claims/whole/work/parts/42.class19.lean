theorem dg31 (h a b : Int64) : (h * 31 + a) * 31 + b = 31 * (31 * h + a) + b := by rw [Int64.mul_comm, Int64.mul_comm h]
set_option maxHeartbeats 4000000 in
theorem l_pd1 {I S : Mem} {J : Mel} {Q : Option Value → Mem → Mem → Mel → Prop} {n T : Nat} {G : Mem} (hH_q : Hc n T 0 I 24 G) (hE_q : WSe n G) {a : Nat} {h : Int64} {u : Value} (ha_q : a < n) (k : W2 mX10_digest 4 Q I S J 48 [.ref 2, .long (d10 G a h 10), dum, .int (nI a), .int (nI 10), u] []) : ∀ (v : Nat), (v ≤ 10) → W2 mX10_digest 4 Q I S J 20 [.ref 2, .long (d10 G a h v), dum, .int (nI a), .int (nI v), u] [] := by
  intro v
  induction hm : 10 - v using Nat.strongRecOn generalizing v with
  | _ c ih =>
    intro hv_q
    refine wp_iload dX10_digest_20 rfl ?_
    refine wp_bipush 10 dX10_digest_22 (by decide) ?_
    refine wp_icmp_ge dX10_digest_24 (fun h24 => ?_) (fun h24 => ?_)
    · skip
      have e_q : v = 10 := by rw [show (10 : Int32) = nI 10 from rfl, nI_leg (by omega) (by omega)] at h24; omega
      subst e_q; exact k
    · skip
      have hv10_q : v < 10 := by rw [show (10 : Int32) = nI 10 from rfl, nI_leg (by omega) (by omega)] at h24; omega
      refine wp_lload_n dX10_digest_27 rfl ?_
      refine wp_ldc2 dX10_digest_28 kcRX10_217 ?_
      refine wp_lmul dX10_digest_31 ?_
      refine wp_aload_n dX10_digest_32 rfl ?_
      refine wp_iload_n dX10_digest_33 rfl ?_
      refine wp_iload dX10_digest_34 rfl ?_
      refine g_callV2 (mj := mX10_actorFact) dX10_digest_36 lkRX10_96 mkX10_actorFact (by first | rfl | assumption) (by decide) (by decide) (Nat.le_of_ble_eq_true rfl) (c_actorFact hH_q hE_q ha_q hv10_q ?_)
      refine wp_i2l dX10_digest_39 ?_
      refine wp_ladd dX10_digest_40 ?_
      rw [Int64.mul_comm]
      refine st_l_6_1 dX10_digest_41 (by decide) rfl ?_
      refine ic_6_4 (nI (v + 1)) dX10_digest_42 (nI_inc v) (by decide) rfl ?_
      refine wp_goto dX10_digest_45 ?_
      exact ih _ (by omega) (v + 1) rfl (by omega)
set_option maxHeartbeats 4000000 in
theorem l_pd2 {I S : Mem} {J : Mel} {Q : Option Value → Mem → Mem → Mel → Prop} {n T : Nat} {G : Mem} (hH_q : Hc n T 0 I 24 G) {a b : Nat} {h : Int64} (ha_q : a < n) (hb_q : G 133 a = nI b) (hb5_q : b ≤ 5) (k : W2 mX10_digest 4 Q I S J 111 [.ref 2, .long (dbx G a h b), dum, .int (nI a), .ref (24 + 9 + 4 * a + 1), .int (nI b)] []) : ∀ (x : Nat), (x ≤ b) → W2 mX10_digest 4 Q I S J 65 [.ref 2, .long (dbx G a h x), dum, .int (nI a), .ref (24 + 9 + 4 * a + 1), .int (nI x)] [] := by
  intro x
  induction hm : b - x using Nat.strongRecOn generalizing x with
  | _ c ih =>
    intro hx_q
    obtain ⟨hC_q, hW_q, hR_q, hP_q, hT_q⟩ := id hH_q
    obtain ⟨c1_q, c2_q, c3_q, c4_q, c5_q, c6_q, c7_q, c8_q, c9_q, c10_q, c11_q, c12_q, c13_q, c14_q⟩ := id hC_q
    have hn_q := hW_q.1
    have c5a_q := c5_q a (by omega)
    have cAa_q := c12_q a (by omega)
    obtain ⟨a1a_q, a2a_q, aBa_q, a6a_q⟩ := id cAa_q
    obtain ⟨b1a_q, b2a_q, b3a_q, b4a_q, b5a_q, b6a_q⟩ := id aBa_q
    obtain ⟨r1a_q, r2a_q, r3a_q, r4a_q, r5a_q, r6a_q, r7a_q, r8a_q, r9a_q⟩ := hR_q.2.2.1 a (by omega)
    refine wp_iload dX10_digest_65 rfl ?_
    refine wp_aload dX10_digest_67 rfl ?_
    refine c_getI dX10_digest_69 flRX10_109 (by first | rfl | assumption) (by omega) ?_
    refine wp_icmp_ge dX10_digest_72 (fun h72 => ?_) (fun h72 => ?_)
    · skip
      have e_q : x = b := by rw [r8a_q, hb_q, nI_leg (by omega) (by omega)] at h72; omega
      subst e_q; exact k
    · skip
      have hx2_q : x < b := by rw [r8a_q, hb_q, nI_leg (by omega) (by omega)] at h72; omega
      have rj_q := r9a_q x (by rw [hb_q, tn_nI (by omega)]; exact hx2_q)
      refine wp_lload_n dX10_digest_75 rfl ?_
      refine wp_ldc2 dX10_digest_76 kcRX10_217 ?_
      refine wp_lmul dX10_digest_79 ?_
      refine wp_aload dX10_digest_80 rfl ?_
      refine wp_getA (by first | rfl | assumption) dX10_digest_82 flRX10_112 (by first | rfl | assumption) ?_
      refine wp_iload dX10_digest_85 rfl ?_
      refine c_iald dX10_digest_87 b4a_q rfl (by omega) (by omega) (by decide) ?_
      refine wp_i2l dX10_digest_88 ?_
      refine wp_ladd dX10_digest_89 ?_
      refine wp_ldc2 dX10_digest_90 kcRX10_217 ?_
      refine wp_lmul dX10_digest_93 ?_
      refine wp_aload dX10_digest_94 rfl ?_
      refine wp_getA (by first | rfl | assumption) dX10_digest_96 flRX10_116 (by first | rfl | assumption) ?_
      refine wp_iload dX10_digest_99 rfl ?_
      refine c_iald dX10_digest_101 b5a_q rfl (by omega) (by omega) (by decide) ?_
      refine wp_i2l dX10_digest_102 ?_
      refine wp_ladd dX10_digest_103 ?_
      rw [dg31, rj_q.1, rj_q.2]
      refine st_l_6_1 dX10_digest_104 (by decide) rfl ?_
      refine ic_6_5 (nI (x + 1)) dX10_digest_105 (nI_inc x) (by decide) rfl ?_
      refine wp_goto dX10_digest_108 ?_
      exact ih _ (by omega) (x + 1) rfl (by omega)
set_option maxHeartbeats 4000000 in
theorem l_pd {I S : Mem} {J : Mel} {Q : Option Value → Mem → Mem → Mel → Prop} {n T : Nat} {G : Mem} (hH_q : Hc n T 0 I 24 G) (hE_q : WSe n G) (k : ∀ (u v : Value), W2 mX10_digest 4 Q I S J 117 [.ref 2, .long (dac G n), dum, .int (nI n), u, v] []) : ∀ (x : Nat) (u v : Value), (x ≤ n) → W2 mX10_digest 4 Q I S J 6 [.ref 2, .long (dac G x), dum, .int (nI x), u, v] [] := by
  intro x u v
  induction hm : n - x using Nat.strongRecOn generalizing x u v with
  | _ c ih =>
    intro hx_q
    obtain ⟨hC_q, hW_q, hR_q, hP_q, hT_q⟩ := id hH_q
    obtain ⟨c1_q, c2_q, c3_q, c4_q, c5_q, c6_q, c7_q, c8_q, c9_q, c10_q, c11_q, c12_q, c13_q, c14_q⟩ := id hC_q
    have hn_q := hW_q.1
    obtain ⟨p1_q, p2_q, p3_q, p4_q, p5_q, p6_q, p7_q, p8_q, p9_q⟩ := id plan15
    refine wp_iload_n dX10_digest_6 rfl ?_
    refine wp_aload_n dX10_digest_7 rfl ?_
    refine wp_getA (by first | rfl | assumption) dX10_digest_8 flRX10_26 (by first | rfl | assumption) ?_
    refine c_getI dX10_digest_11 flRX10_89 (by first | rfl | assumption) (by omega) ?_
    refine wp_icmp_ge dX10_digest_14 (fun h14 => ?_) (fun h14 => ?_)
    · skip
      have e_q : x = n := by rw [hP_q.1, nI_leg (by omega) (by omega)] at h14; omega
      subst e_q; exact k u v
    · skip
      have hx2_q : x < n := by rw [hP_q.1, nI_leg (by omega) (by omega)] at h14; omega
      obtain ⟨b, hb5_q, hbb_q⟩ := hW_q.box hx2_q
      have c5x_q := c5_q x (by omega)
      have cAx_q := c12_q x (by omega)
      obtain ⟨a1x_q, a2x_q, aBx_q, a6x_q⟩ := id cAx_q
      obtain ⟨b1x_q, b2x_q, b3x_q, b4x_q, b5x_q, b6x_q⟩ := id aBx_q
      obtain ⟨r1x_q, r2x_q, r3x_q, r4x_q, r5x_q, r6x_q, r7x_q, r8x_q, r9x_q⟩ := hR_q.2.2.1 x (by omega)
      refine wp_iconst 0 dX10_digest_17 (by decide) ?_
      refine st_i_6_4 dX10_digest_18 (by decide) rfl ?_
      refine l_pd1 hH_q hE_q hx2_q ?_ 0 (by omega)
      refine wp_aload_n dX10_digest_48 rfl ?_
      refine wp_getA (by first | rfl | assumption) dX10_digest_49 flRX10_35 (by first | rfl | assumption) ?_
      refine wp_getA (by first | rfl | assumption) dX10_digest_52 flRX10_100 (by first | rfl | assumption) ?_
      refine wp_iload_n dX10_digest_55 rfl ?_
      refine wp_aald c5x_q dX10_digest_56 c4_q rfl (by omega) (by decide) ?_
      refine wp_getA (by first | rfl | assumption) dX10_digest_57 flRX10_103 (by first | rfl | assumption) ?_
      refine st_a_6_4 dX10_digest_60 (by decide) rfl ?_
      refine wp_iconst 0 dX10_digest_62 (by decide) ?_
      refine st_i_6_5 dX10_digest_63 (by decide) rfl ?_
      refine l_pd2 hH_q hx2_q hbb_q hb5_q ?_ 0 (by omega)
      refine ic_6_3 (nI (x + 1)) dX10_digest_111 (nI_inc x) (by decide) rfl ?_
      refine wp_goto dX10_digest_114 ?_
      have e_q : dbx G x (d10 G x (dac G x) 10) b = dac G (x + 1) := by simp only [dac]; rw [hbb_q, tn_nI (by omega)]
      rw [show dbx G x (31 * d10 G x (dac G x) 9 + (aN G x 9).toInt64) b = dac G (x + 1) from e_q]
      exact ih _ (by omega) (x + 1) _ _ rfl (by omega)
set_option maxHeartbeats 4000000 in
theorem l_pd3 {I S : Mem} {J : Mel} {Q : Option Value → Mem → Mem → Mel → Prop} {G : Mem} (q2_q : I 3 1 = G 126 23) {p : Nat} (hp_q : G 126 23 = nI p) (hp84_q : p ≤ 84) (hpg_q : ∀ j, j < p → I 4 j = G 143 j) {h : Int64} {u v : Value} (k : W2 mX10_digest 4 Q I S J 153 [.ref 2, .long (dpg G h p), dum, .int (nI p), u, v] []) : ∀ (x : Nat), (x ≤ p) → W2 mX10_digest 4 Q I S J 119 [.ref 2, .long (dpg G h x), dum, .int (nI x), u, v] [] := by
  intro x
  induction hm : p - x using Nat.strongRecOn generalizing x with
  | _ c ih =>
    intro hx_q
    refine wp_iload_n dX10_digest_119 rfl ?_
    refine wp_aload_n dX10_digest_120 rfl ?_
    refine wp_getA (by first | rfl | assumption) dX10_digest_121 flRX10_10 (by first | rfl | assumption) ?_
    refine c_getI dX10_digest_124 flRX10_59 (by first | rfl | assumption) (by omega) ?_
    refine wp_icmp_ge dX10_digest_127 (fun h127 => ?_) (fun h127 => ?_)
    · skip
      have e_q : x = p := by rw [q2_q, hp_q, nI_leg (by omega) (by omega)] at h127; omega
      subst e_q; exact k
    · skip
      have hx2_q : x < p := by rw [q2_q, hp_q, nI_leg (by omega) (by omega)] at h127; omega
      refine wp_lload_n dX10_digest_130 rfl ?_
      refine wp_ldc2 dX10_digest_131 kcRX10_217 ?_
      refine wp_lmul dX10_digest_134 ?_
      refine wp_aload_n dX10_digest_135 rfl ?_
      refine wp_getA (by first | rfl | assumption) dX10_digest_136 flRX10_10 (by first | rfl | assumption) ?_
      refine wp_getA (by first | rfl | assumption) dX10_digest_139 flRX10_219 (by first | rfl | assumption) ?_
      refine wp_iload_n dX10_digest_142 rfl ?_
      refine c_iald dX10_digest_143 rfl rfl (by omega) (by omega) (by decide) ?_
      refine wp_i2l dX10_digest_144 ?_
      refine wp_ladd dX10_digest_145 ?_
      rw [Int64.mul_comm, hpg_q x hx2_q]
      refine st_l_6_1 dX10_digest_146 (by decide) rfl ?_
      refine ic_6_3 (nI (x + 1)) dX10_digest_147 (nI_inc x) (by decide) rfl ?_
      refine wp_goto dX10_digest_150 ?_
      exact ih _ (by omega) (x + 1) rfl (by omega)
set_option maxHeartbeats 4000000 in
theorem l_pd4 {I S : Mem} {J : Mel} {Q : Option Value → Mem → Mem → Mel → Prop} {n T : Nat} {G : Mem} (hH_q : Hc n T 0 I 24 G) (q0_q : I 2 9 = G 126 0) (q1_q : I 2 10 = G 126 18) (q2_q : I 3 1 = G 126 23) {h : Int64} {u v : Value} (k : Q (some (.long (dct G h 11))) I S J) : ∀ (x : Nat), (x ≤ 11) → W2 mX10_digest 4 Q I S J 155 [.ref 2, .long (dct G h x), dum, .int (nI x), u, v] [] := by
  intro x
  induction hm : 11 - x using Nat.strongRecOn generalizing x with
  | _ c ih =>
    intro hx_q
    refine wp_iload_n dX10_digest_155 rfl ?_
    refine wp_bipush 11 dX10_digest_156 (by decide) ?_
    refine wp_icmp_ge dX10_digest_158 (fun h158 => ?_) (fun h158 => ?_)
    · skip
      refine wp_lload_n dX10_digest_180 rfl ?_
      refine g_lret dX10_digest_181 rfl ?_
      have e_q : x = 11 := by rw [show (11 : Int32) = nI 11 from rfl, nI_leg (by omega) (by omega)] at h158; omega
      subst e_q; exact k
    · skip
      have hx2_q : x < 11 := by rw [show (11 : Int32) = nI 11 from rfl, nI_leg (by omega) (by omega)] at h158; omega
      refine wp_lload_n dX10_digest_161 rfl ?_
      refine wp_ldc2 dX10_digest_162 kcRX10_217 ?_
      refine wp_lmul dX10_digest_165 ?_
      refine wp_aload_n dX10_digest_166 rfl ?_
      refine wp_iload_n dX10_digest_167 rfl ?_
      refine g_callV1 (mj := mX10_countFact) dX10_digest_168 lkRX10_212 mkX10_countFact (by first | rfl | assumption) (by decide) (by decide) (Nat.le_of_ble_eq_true rfl) (c_countFact hH_q q0_q q1_q q2_q hx2_q ?_)
      refine wp_i2l dX10_digest_171 ?_
      refine wp_ladd dX10_digest_172 ?_
      rw [Int64.mul_comm]
      refine st_l_6_1 dX10_digest_173 (by decide) rfl ?_
      refine ic_6_3 (nI (x + 1)) dX10_digest_174 (nI_inc x) (by decide) rfl ?_
      refine wp_goto dX10_digest_177 ?_
      exact ih _ (by omega) (x + 1) rfl (by omega)
set_option maxHeartbeats 4000000 in
theorem c_pdig {I S : Mem} {J : Mel} {Q : Option Value → Mem → Mem → Mel → Prop} {n T : Nat} {G : Mem} (hH_q : Hc n T 0 I 24 G) (hE_q : WSe n G) (q0_q : I 2 9 = G 126 0) (q1_q : I 2 10 = G 126 18) (q2_q : I 3 1 = G 126 23) {p : Nat} (hp_q : G 126 23 = nI p) (hp84_q : p ≤ 84) (hpg_q : ∀ j, j < p → I 4 j = G 143 j) (k : Q (some (.long (spDig G))) I S J) : M2 mX10_digest 4 [.ref 2] I S J Q := by
  refine m2_of [.ref 2, dum, dum, dum, dum, dum] moX10_digest (Nat.le_of_ble_eq_true rfl) rfl ?_
  refine wp_ldc2 dX10_digest_0 kcRX10_215 ?_
  refine st_l_6_1 dX10_digest_3 (by decide) rfl ?_
  refine wp_iconst 0 dX10_digest_4 (by decide) ?_
  refine st_i_6_3 dX10_digest_5 (by decide) rfl ?_
  have hn_q := hH_q.2.1.1
  unfold spDig at k
  rw [hH_q.2.1.2.1, hp_q, tn_nI (by omega), tn_nI (by omega)] at k
  refine l_pd hH_q hE_q (fun u v => ?_) 0 dum dum (by omega)
  refine wp_iconst 0 dX10_digest_117 (by decide) ?_
  refine st_i_6_3 dX10_digest_118 (by decide) rfl ?_
  refine l_pd3 q2_q hp_q hp84_q hpg_q ?_ 0 (by omega)
  refine wp_iconst 0 dX10_digest_153 (by decide) ?_
  refine st_i_6_3 dX10_digest_154 (by decide) rfl ?_
  exact l_pd4 hH_q q0_q q1_q q2_q k 0 (by omega)
set_option maxHeartbeats 4000000 in
theorem c_pimage {I S : Mem} {J : Mel} {Q : Option Value → Mem → Mem → Mel → Prop} {n T : Nat} {G : Mem} (hH_q : Hc n T 0 I 24 G) (hE_q : WSe n G) (k1_q : G 126 1 = 0 → Q (some (.int (-103))) I S J) (k : ¬ G 126 1 = 0 → ∀ I2, Rc n 0 I2 57 G → Fr 57 I I2 → Q (some (.int (G 126 16))) (uI I2 2 8 1) S J) : M2 mX10_image 4 [.ref 2] I S J Q := by
  obtain ⟨hC_q, hW_q, hR_q, hP_q, hT_q⟩ := id hH_q
  obtain ⟨c1_q, c2_q, c3_q, c4_q, c5_q, c6_q, c7_q, c8_q, c9_q, c10_q, c11_q, c12_q, c13_q, c14_q⟩ := id hC_q
  have hn_q := hW_q.1
  obtain ⟨s, hs6_q, hs_q, hsv_q⟩ := id hE_q
  obtain ⟨l, hl6_q, hl_q, hlv_q⟩ := id hW_q.2.2.2.1
  refine m2_of [.ref 2] moX10_image (Nat.le_of_ble_eq_true rfl) rfl ?_
  refine wp_aload_n dX10_image_0 rfl ?_
  refine wp_getA (by first | rfl | assumption) dX10_image_1 flRX10_26 (by first | rfl | assumption) ?_
  refine g_callV0 (mj := mX6_isNone) dX10_image_4 lkRX10_136 mkX6_isNone (by first | rfl | assumption) (by decide) (by decide) (Nat.le_of_ble_eq_true rfl) (c_isNone plan15 ?_)
  refine wp_if_eq dX10_image_7 (fun h7 => ?_) (fun h7 => ?_)
  · skip
    refine wp_aload_n dX10_image_13 rfl ?_
    refine wp_getA (by first | rfl | assumption) dX10_image_14 flRX10_39 (by first | rfl | assumption) ?_
    refine wp_aload_n dX10_image_17 rfl ?_
    refine wp_getA (by first | rfl | assumption) dX10_image_18 flRX10_35 (by first | rfl | assumption) ?_
    refine g_callV1 (mj := mX2_copyFrom) dX10_image_21 lkRX10_181 mkX2_copyFrom (by first | rfl | assumption) (by decide) (by decide) (Nat.le_of_ble_eq_true rfl) (c_ccopy crew57 hH_q (by omega) hl_q hl6_q hs_q hs6_q (fun I2 hR2_q hf2_q => ?_))
    refine wp_aload_n dX10_image_24 rfl ?_
    refine wp_iconst 1 dX10_image_25 (by decide) ?_
    refine c_putZ dX10_image_26 flRX10_82 (by first | rfl | assumption) (by first | decide | assumption) (by omega) ?_
    refine wp_aload_n dX10_image_29 rfl ?_
    refine wp_getA (by first | rfl | assumption) dX10_image_30 flRX10_35 (by first | rfl | assumption) ?_
    refine c_getI dX10_image_33 flRX10_139 (by first | rfl | assumption) (by omega) ?_
    refine g_iret dX10_image_36 rfl ?_
    rw [uI_ne (by decide), hf2_q 24 (by omega), hR_q.1]
    exact k (fun q => b01_e0 (by first | exact h7 | exact Classical.not_not.mp h7) (by rw [hP_q.1, ← hW_q.2.1]; exact q)) I2 hR2_q hf2_q
  · skip
    refine wp_bipush (-103) dX10_image_10 (by decide) ?_
    refine g_iret dX10_image_12 rfl ?_
    exact k1_q (by rw [hW_q.2.1, ← hP_q.1]; exact b01_ne h7)
set_option maxHeartbeats 4000000 in
theorem c_prestore {I S : Mem} {J : Mel} {Q : Option Value → Mem → Mem → Mel → Prop} {n T : Nat} {G : Mem} (hK_q : ¬ I 2 8 = 0 → Hc n T 0 I 57 G ∧ WSe n G) (k1_q : I 2 8 = 0 → Q (some (.int (-103))) I S J) (k : ¬ I 2 8 = 0 → ∀ I2, Rc n 0 I2 24 G → Fr 24 I I2 → Q (some (.int (G 126 16))) I2 S J) : M2 mX10_restore 4 [.ref 2] I S J Q := by
  refine m2_of [.ref 2] moX10_restore (Nat.le_of_ble_eq_true rfl) rfl ?_
  refine wp_aload_n dX10_restore_0 rfl ?_
  refine c_getZ dX10_restore_1 flRX10_82 (by first | rfl | assumption) (by omega) ?_
  refine wp_if_ne dX10_restore_4 (fun h4 => ?_) (fun h4 => ?_)
  · skip
    obtain ⟨hH_q, hE_q⟩ := hK_q h4
    obtain ⟨hC_q, hW_q, hR_q, hP_q, hT_q⟩ := id hH_q
    obtain ⟨c1_q, c2_q, c3_q, c4_q, c5_q, c6_q, c7_q, c8_q, c9_q, c10_q, c11_q, c12_q, c13_q, c14_q⟩ := id hC_q
    have hn_q := hW_q.1
    obtain ⟨s, hs6_q, hs_q, hsv_q⟩ := id hE_q
    obtain ⟨l, hl6_q, hl_q, hlv_q⟩ := id hW_q.2.2.2.1
    obtain ⟨d1_q, d2_q, d3_q, d4_q, d5_q, d6_q, d7_q, d8_q, d9_q, d10_q, d11_q, d12_q, d13_q, d14_q⟩ := id crew24
    refine wp_aload_n dX10_restore_10 rfl ?_
    refine wp_getA (by first | rfl | assumption) dX10_restore_11 flRX10_35 (by first | rfl | assumption) ?_
    refine wp_aload_n dX10_restore_14 rfl ?_
    refine wp_getA (by first | rfl | assumption) dX10_restore_15 flRX10_39 (by first | rfl | assumption) ?_
    refine g_callV1 (mj := mX2_copyFrom) dX10_restore_18 lkRX10_181 mkX2_copyFrom (by first | rfl | assumption) (by decide) (by decide) (Nat.le_of_ble_eq_true rfl) (c_ccopy crew24 hH_q (by omega) hl_q hl6_q hs_q hs6_q (fun I2 hR2_q hf2_q => ?_))
    refine wp_aload_n dX10_restore_21 rfl ?_
    refine wp_getA (by first | rfl | assumption) dX10_restore_22 flRX10_35 (by first | rfl | assumption) ?_
    refine c_getI dX10_restore_25 flRX10_139 (by first | rfl | assumption) (by omega) ?_
    refine g_iret dX10_restore_28 rfl ?_
    rw [hR2_q.1]
    exact k h4 I2 hR2_q hf2_q
  · skip
    refine wp_bipush (-103) dX10_restore_7 (by decide) ?_
    refine g_iret dX10_restore_9 rfl ?_
    exact k1_q (by first | exact h4 | exact Classical.not_not.mp h4)
