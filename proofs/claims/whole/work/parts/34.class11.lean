/-! an actor's state as one number -/
theorem tk_or {n a k : Nat} (hk : k < 64) (ha : a < 2 ^ k) (ha2 : a < 2 ^ 31) : lN n <<< ((nI k).toInt64 &&& 63) ||| (nI a).toInt64 = lN (n * 2 ^ k + a) := by
  rw [wb_shl n hk, nI_l ha2, Nat.mul_comm n (2 ^ k)]
  exact fb_or_sumL n ha
theorem lt_or : ∀ s : Nat, s < 9 → ∀ t : Nat, t < 8 → (nI s <<< ((3 : Int32) &&& 31) ||| nI t) = nI (8 * s + t) := by decide +kernel
def agN (T : Nat) (m : Int32) : Nat := if m = -268435456 then 5 else min (T - tn m) 5
def ltN (G : Mem) (i j : Nat) : Nat := if j < tn (G 133 i) then 8 * tn (G 134 (5 * i + j)) + tn (G 135 (5 * i + j) + 1) else 0
def t5N (T : Nat) (G : Mem) (i : Nat) : Nat := ((((tn (G 130 i) * 4 + tn (G 131 i)) * 4 + tn (G 132 i)) * 8 + agN T (G 137 (2 * i))) * 8 + agN T (G 137 (2 * i + 1))) * 8 + tn (G 133 i)
def trN (T : Nat) (G : Mem) (i : Nat) : Nat → Nat
  | 0 => t5N T G i
  | j + 1 => trN T G i j * 128 + ltN G i j
theorem tago {T : Nat} {m : Int32} (hT : T < 100000) (h : okR T m) : (if 5 < nI T - rr m then 5 else nI T - rr m) = nI (agN T m) := by
  rcases h with rfl | ⟨t, ht, rfl⟩
  · have e1 : nI T - rr (-268435456) = nI (T + 1000) := by
      have : rr (-268435456) = -1000 := by decide
      rw [this, ← nI_add, Int32.sub_eq_add_neg]
      exact congrArg (nI T + ·) (by decide)
    rw [e1, if_pos (by rw [show (5 : Int32) = nI 5 from rfl, nI_ltg (by omega) (by omega)]; omega)]
    rfl
  · have hne : ¬ nI t = -268435456 := by
      intro hc
      have h1 := nI_pos (n := t) (by omega)
      rw [hc] at h1
      exact h1 (by decide)
    have e2 : nI T - nI t = nI (T - t) := by
      have := nI_add (T - t) t
      rw [show T - t + t = T by omega] at this
      rw [← this, Int32.sub_eq_add_neg, Int32.add_assoc, ← Int32.sub_eq_add_neg, Int32.sub_self, Int32.add_zero]
    rw [rr_nI (by omega), e2]
    unfold agN
    rw [if_neg hne, tn_nI (by omega)]
    by_cases hc : 5 < T - t
    · rw [if_pos (by rw [show (5 : Int32) = nI 5 from rfl, nI_ltg (by omega) (by omega)]; exact hc), Nat.min_eq_right (by omega)]; rfl
    · rw [if_neg (by rw [show (5 : Int32) = nI 5 from rfl, nI_ltg (by omega) (by omega)]; exact hc), Nat.min_eq_left (by omega)]
theorem agN_lt (T : Nat) (m : Int32) : agN T m < 8 := by unfold agN; split <;> omega
theorem WA.nat {n T i : Nat} {G : Mem} (h : WA n T G i) : ∃ u st wt b, u < 2 ∧ st < 4 ∧ wt < 4 ∧ b ≤ 5 ∧ G 130 i = nI u ∧ G 131 i = nI st ∧ G 132 i = nI wt ∧ G 133 i = nI b ∧ ∀ j, j < b → ∃ s f, s ≤ 8 ∧ f ≤ 6 ∧ G 134 (5 * i + j) = nI s ∧ G 135 (5 * i + j) + 1 = nI f := by
  obtain ⟨-, h2, ⟨t, x, a1, a2, a3, a4, a5, -⟩, ⟨wt, c1, c2⟩, ⟨b, b1, b2, b3⟩, -⟩ := h
  obtain ⟨u, hu, eu⟩ : ∃ u, u < 2 ∧ G 130 i = nI u := by
    rcases h2 with h2 | h2
    · exact ⟨0, by omega, h2⟩
    · exact ⟨1, by omega, h2⟩
  refine ⟨u, x, wt, b, hu, by omega, by omega, b1, eu, a5, c2, b2, fun j hj => ?_⟩
  obtain ⟨⟨s, s1, s2⟩, hf⟩ := b3 j hj
  rcases hf with hf | ⟨f, f1, f2⟩
  · exact ⟨s, 0, s1, by omega, s2, by rw [hf]; rfl⟩
  · exact ⟨s, f + 1, s1, by omega, s2, by rw [f2, nI_1]⟩
set_option maxHeartbeats 4000000 in
theorem c_ticks {I S : Mem} {J : Mel} {Q : Option Value → Mem → Mem → Mel → Prop} {x y : Int32} (k : Q (some (.int (if 5 < x - y then 5 else x - y))) I S J) : M2 mX0_ticksAgo 1 [.int x, .int y] I S J Q := by
  refine m2_of [.int x, .int y] moX0_ticksAgo (Nat.le_of_ble_eq_true rfl) rfl ?_
  refine wp_iload_n dX0_ticksAgo_0 rfl ?_
  refine wp_iload_n dX0_ticksAgo_1 rfl ?_
  refine wp_isub dX0_ticksAgo_2 ?_
  refine wp_iconst 5 dX0_ticksAgo_3 (by decide) ?_
  refine wp_mmin dX0_ticksAgo_4 lkRX0_69 (by decide) (by decide) (Nat.le_of_ble_eq_true rfl) ?_
  refine g_iret dX0_ticksAgo_7 rfl ?_
  exact k
set_option maxHeartbeats 4000000 in
theorem l_track {I S : Mem} {J : Mel} {Q : Option Value → Mem → Mem → Mel → Prop} {n T k : Nat} {dl : Int32} {G : Mem} (hH_q : Hc n T dl I k G) {i : Nat} {v1 : Int32} {v5 : Value} (hi_q : i < n) (kk_q : Q (some (.long (lN (trN T G i 5)))) I S J) : ∀ (x : Nat) (v5 : Value), (x ≤ 5) → W2 mX0_track 2 Q I S J 77 [.ref (k + 9 + 4 * i), .int v1, .long (lN (trN T G i x)), dum, .int (nI x), v5] [] := by
  intro x v5
  induction hm : 5 - x using Nat.strongRecOn generalizing x v5 with
  | _ c ih =>
    intro hx_q
    obtain ⟨hC_q, hW_q, hR_q, hP_q, hT_q⟩ := id hH_q
    obtain ⟨c1_q, c2_q, c3_q, c4_q, c5_q, c6_q, c7_q, c8_q, c9_q, c10_q, c11_q, c12_q, c13_q, c14_q⟩ := id hC_q
    have hn_q := hW_q.1
    have c5i_q := c5_q i (by omega)
    have cAi_q := c12_q i (by omega)
    obtain ⟨a1i_q, a2i_q, aBi_q, a6i_q⟩ := id cAi_q
    obtain ⟨b1i_q, b2i_q, b3i_q, b4i_q, b5i_q, b6i_q⟩ := id aBi_q
    obtain ⟨r1i_q, r2i_q, r3i_q, r4i_q, r5i_q, r6i_q, r7i_q, r8i_q, r9i_q⟩ := hR_q.2.2.1 i (by omega)
    obtain ⟨u, st, wt, z, g1_q, g2_q, g3_q, g4_q, e1_q, e2_q, e3_q, e4_q, e5_q⟩ := (hW_q.2.2.2.2 i hi_q).nat
    obtain ⟨-, -, -, -, -, o1_q, o2_q⟩ := hW_q.2.2.2.2 i hi_q
    have hzI_q : I (k + 9 + 4 * i + 1) 2 = nI z := r8i_q.trans e4_q
    refine wp_iload dX0_track_77 rfl ?_
    refine wp_iconst 5 dX0_track_79 (by decide) ?_
    refine wp_icmp_ge dX0_track_80 (fun h80 => ?_) (fun h80 => ?_)
    · skip
      refine wp_lload_n dX0_track_141 rfl ?_
      refine g_lret dX0_track_142 rfl ?_
      have e_q : x = 5 := by rw [show (5 : Int32) = nI 5 from rfl, nI_leg (by omega) (by omega)] at h80; omega
      rw [e_q]; exact kk_q
    · skip
      have hx5_q : x < 5 := by rw [show (5 : Int32) = nI 5 from rfl, nI_leg (by omega) (by omega)] at h80; omega
      refine wp_iload dX0_track_83 rfl ?_
      refine wp_aload_n dX0_track_85 rfl ?_
      refine wp_getA (by first | rfl | assumption) dX0_track_86 flRX0_12 (by first | rfl | assumption) ?_
      refine c_getI dX0_track_89 flRX0_48 (by first | rfl | assumption) (by omega) ?_
      refine wp_icmp_ge dX0_track_92 (fun h92 => ?_) (fun h92 => ?_)
      · skip
        have eL_q : ltN G i x = 0 := by unfold ltN; rw [e4_q, tn_nI (by omega), if_neg (by rw [hzI_q, nI_leg (by omega) (by omega)] at h92; omega)]
        refine wp_iconst 0 dX0_track_123 (by decide) ?_
        refine st_i_6_5 dX0_track_124 (by decide) rfl ?_
        refine wp_lload_n dX0_track_126 rfl ?_
        refine wp_bipush 7 dX0_track_127 (by decide) ?_
        refine wp_lshl dX0_track_129 ?_
        refine wp_iload dX0_track_130 rfl ?_
        refine wp_i2l dX0_track_132 ?_
        refine wp_lor dX0_track_133 ?_
        have hL7_q : ltN G i x < 128 := by unfold ltN; split; (rename_i hc_q; rw [e4_q, tn_nI (by omega)] at hc_q; obtain ⟨sg2, fm2, q1_q, q2_q, q3_q, q4_q⟩ := e5_q x hc_q; rw [q3_q, q4_q, tn_nI (by omega), tn_nI (by omega)]; omega); omega
        first | skip
        have eo_q : (lN (trN T G i x) <<< ((7 : Int32).toInt64 &&& 63) ||| (nI (ltN G i x)).toInt64) = lN (trN T G i (x + 1)) := tk_or (k := 7) (by omega) hL7_q (by omega)
        first | rw [eo_q] | (rw [show (0 : Int32) = nI (ltN G i x) by rw [eL_q]; rfl, eo_q])
        refine st_l_6_2 dX0_track_134 (by decide) rfl ?_
        refine ic_6_4 (nI (x + 1)) dX0_track_135 (nI_inc x) (by decide) rfl ?_
        refine wp_goto dX0_track_138 ?_
        exact ih _ (by omega) (x + 1) _ rfl (by omega)
      · skip
        have hxz_q : x < z := by rw [hzI_q, nI_leg (by omega) (by omega)] at h92; omega
        obtain ⟨sg, fm, s1_q, s2_q, s3_q, s4_q⟩ := e5_q x hxz_q
        obtain ⟨y1_q, y2_q⟩ := r9i_q x (by rw [e4_q, tn_nI (by omega)]; exact hxz_q)
        have eL_q : ltN G i x = 8 * sg + fm := by unfold ltN; rw [e4_q, tn_nI (by omega), if_pos hxz_q, s3_q, s4_q, tn_nI (by omega), tn_nI (by omega)]
        refine wp_aload_n dX0_track_95 rfl ?_
        refine wp_getA (by first | rfl | assumption) dX0_track_96 flRX0_12 (by first | rfl | assumption) ?_
        refine wp_getA (by first | rfl | assumption) dX0_track_99 flRX0_62 (by first | rfl | assumption) ?_
        refine wp_iload dX0_track_102 rfl ?_
        refine c_iald dX0_track_104 (by assumption) rfl (by omega) (by omega) (by decide) ?_
        refine wp_iconst 3 dX0_track_105 (by decide) ?_
        refine wp_ishl dX0_track_106 ?_
        refine wp_aload_n dX0_track_107 rfl ?_
        refine wp_getA (by first | rfl | assumption) dX0_track_108 flRX0_12 (by first | rfl | assumption) ?_
        refine wp_getA (by first | rfl | assumption) dX0_track_111 flRX0_66 (by first | rfl | assumption) ?_
        refine wp_iload dX0_track_114 rfl ?_
        refine c_iald dX0_track_116 (by assumption) rfl (by omega) (by omega) (by decide) ?_
        refine wp_iconst 1 dX0_track_117 (by decide) ?_
        refine wp_iadd dX0_track_118 ?_
        refine wp_ior dX0_track_119 ?_
        have ey_q : (I (k + 9 + 4 * i + 1 + 1) x <<< ((3 : Int32) &&& 31) ||| I (k + 9 + 4 * i + 1 + 2) x + 1) = nI (8 * sg + fm) := by rw [show k + 9 + 4 * i + 1 + 1 = k + 9 + 4 * i + 2 from rfl, show k + 9 + 4 * i + 1 + 2 = k + 9 + 4 * i + 3 from rfl, y1_q, y2_q, s3_q, s4_q]; exact lt_or sg (by omega) fm (by omega)
        rw [ey_q, ← eL_q]
        refine wp_goto dX0_track_120 ?_
        refine st_i_6_5 dX0_track_124 (by decide) rfl ?_
        refine wp_lload_n dX0_track_126 rfl ?_
        refine wp_bipush 7 dX0_track_127 (by decide) ?_
        refine wp_lshl dX0_track_129 ?_
        refine wp_iload dX0_track_130 rfl ?_
        refine wp_i2l dX0_track_132 ?_
        refine wp_lor dX0_track_133 ?_
        have hL7_q : ltN G i x < 128 := by unfold ltN; split; (rename_i hc_q; rw [e4_q, tn_nI (by omega)] at hc_q; obtain ⟨sg2, fm2, q1_q, q2_q, q3_q, q4_q⟩ := e5_q x hc_q; rw [q3_q, q4_q, tn_nI (by omega), tn_nI (by omega)]; omega); omega
        first | skip
        have eo_q : (lN (trN T G i x) <<< ((7 : Int32).toInt64 &&& 63) ||| (nI (ltN G i x)).toInt64) = lN (trN T G i (x + 1)) := tk_or (k := 7) (by omega) hL7_q (by omega)
        first | rw [eo_q] | (rw [show (0 : Int32) = nI (ltN G i x) by rw [eL_q]; rfl, eo_q])
        refine st_l_6_2 dX0_track_134 (by decide) rfl ?_
        refine ic_6_4 (nI (x + 1)) dX0_track_135 (nI_inc x) (by decide) rfl ?_
        refine wp_goto dX0_track_138 ?_
        exact ih _ (by omega) (x + 1) _ rfl (by omega)
set_option maxHeartbeats 4000000 in
theorem c_track {I S : Mem} {J : Mel} {Q : Option Value → Mem → Mem → Mel → Prop} {n T k : Nat} {dl : Int32} {G : Mem} (hH_q : Hc n T dl I k G) {i : Nat} (hi_q : i < n) (kk_q : Q (some (.long (lN (trN T G i 5)))) I S J) : M2 mX0_track 2 [.ref (k + 9 + 4 * i), .int (nI T)] I S J Q := by
  obtain ⟨hC_q, hW_q, hR_q, hP_q, hT_q⟩ := id hH_q
  obtain ⟨c1_q, c2_q, c3_q, c4_q, c5_q, c6_q, c7_q, c8_q, c9_q, c10_q, c11_q, c12_q, c13_q, c14_q⟩ := id hC_q
  have hn_q := hW_q.1
  have c5i_q := c5_q i (by omega)
  have cAi_q := c12_q i (by omega)
  obtain ⟨a1i_q, a2i_q, aBi_q, a6i_q⟩ := id cAi_q
  obtain ⟨b1i_q, b2i_q, b3i_q, b4i_q, b5i_q, b6i_q⟩ := id aBi_q
  obtain ⟨r1i_q, r2i_q, r3i_q, r4i_q, r5i_q, r6i_q, r7i_q, r8i_q, r9i_q⟩ := hR_q.2.2.1 i (by omega)
  obtain ⟨u, st, wt, z, g1_q, g2_q, g3_q, g4_q, e1_q, e2_q, e3_q, e4_q, e5_q⟩ := (hW_q.2.2.2.2 i hi_q).nat
  obtain ⟨-, -, -, -, -, o1_q, o2_q⟩ := hW_q.2.2.2.2 i hi_q
  have hzI_q : I (k + 9 + 4 * i + 1) 2 = nI z := r8i_q.trans e4_q
  refine m2_of [.ref (k + 9 + 4 * i), .int (nI T), dum, dum, dum, dum] moX0_track (Nat.le_of_ble_eq_true rfl) rfl ?_
  refine wp_aload_n dX0_track_0 rfl ?_
  refine c_getZ dX0_track_1 flRX0_38 (by first | rfl | assumption) (by omega) ?_
  refine wp_if_eq dX0_track_4 (fun h4 => ?_) (fun h4 => ?_)
  · skip
    refine wp_lconst 0 dX0_track_11 (by decide) ?_
    have eu_q : (u = 0 ∨ u = 1) ∧ I (k + 9 + 4 * i) 2 = nI u := ⟨by omega, r2i_q.trans e1_q⟩
    first | (have hu0_q : u = 1 := (by rcases eu_q.1 with q_q | q_q; (rw [eu_q.2, q_q] at h4; exact absurd rfl h4); exact q_q); rw [show (1 : Int64) = lN u by rw [hu0_q]; rfl]) | (have hu0_q : u = 0 := (by rcases eu_q.1 with q_q | q_q; exact q_q; (rw [eu_q.2, q_q] at h4; exact absurd h4 (by decide))); rw [show (0 : Int64) = lN u by rw [hu0_q]; rfl])
    refine st_l_6_2 dX0_track_12 (by decide) rfl ?_
    refine wp_lload_n dX0_track_13 rfl ?_
    refine wp_iconst 2 dX0_track_14 (by decide) ?_
    refine wp_lshl dX0_track_15 ?_
    refine wp_aload_n dX0_track_16 rfl ?_
    refine c_getI dX0_track_17 flRX0_42 (by first | rfl | assumption) (by omega) ?_
    refine wp_i2l dX0_track_20 ?_
    refine wp_lor dX0_track_21 ?_
    rw [r3i_q, e2_q]
    have e22_q : (lN (u) <<< ((2 : Int32).toInt64 &&& 63) ||| (nI (st)).toInt64) = lN ((u) * 4 + st) := tk_or (k := 2) (by omega) (by have := agN_lt T (G 137 (2 * i)); have := agN_lt T (G 137 (2 * i + 1)); omega) (by have := agN_lt T (G 137 (2 * i)); have := agN_lt T (G 137 (2 * i + 1)); omega)
    rw [e22_q]
    refine st_l_6_2 dX0_track_22 (by decide) rfl ?_
    refine wp_lload_n dX0_track_23 rfl ?_
    refine wp_iconst 2 dX0_track_24 (by decide) ?_
    refine wp_lshl dX0_track_25 ?_
    refine wp_aload_n dX0_track_26 rfl ?_
    refine c_getI dX0_track_27 flRX0_45 (by first | rfl | assumption) (by omega) ?_
    refine wp_i2l dX0_track_30 ?_
    refine wp_lor dX0_track_31 ?_
    rw [r4i_q, e3_q]
    have e32_q : (lN (u * 4 + st) <<< ((2 : Int32).toInt64 &&& 63) ||| (nI (wt)).toInt64) = lN ((u * 4 + st) * 4 + wt) := tk_or (k := 2) (by omega) (by have := agN_lt T (G 137 (2 * i)); have := agN_lt T (G 137 (2 * i + 1)); omega) (by have := agN_lt T (G 137 (2 * i)); have := agN_lt T (G 137 (2 * i + 1)); omega)
    rw [e32_q]
    refine st_l_6_2 dX0_track_32 (by decide) rfl ?_
    refine wp_lload_n dX0_track_33 rfl ?_
    refine wp_iconst 3 dX0_track_34 (by decide) ?_
    refine wp_lshl dX0_track_35 ?_
    refine wp_iload_n dX0_track_36 rfl ?_
    refine wp_aload_n dX0_track_37 rfl ?_
    refine c_getI dX0_track_38 flRX0_32 (by first | rfl | assumption) (by omega) ?_
    refine g_callS2 (mj := mX0_ticksAgo) dX0_track_41 lkRX0_58 mkX0_ticksAgo (by decide) (by decide) (Nat.le_of_ble_eq_true rfl) (c_ticks ?_)
    refine wp_i2l dX0_track_44 ?_
    refine wp_lor dX0_track_45 ?_
    rw [r6i_q, tago hT_q o1_q]
    have e46_q : (lN ((u * 4 + st) * 4 + wt) <<< ((3 : Int32).toInt64 &&& 63) ||| (nI (agN T (G 137 (2 * i)))).toInt64) = lN (((u * 4 + st) * 4 + wt) * 8 + agN T (G 137 (2 * i))) := tk_or (k := 3) (by omega) (by have := agN_lt T (G 137 (2 * i)); have := agN_lt T (G 137 (2 * i + 1)); omega) (by have := agN_lt T (G 137 (2 * i)); have := agN_lt T (G 137 (2 * i + 1)); omega)
    rw [e46_q]
    refine st_l_6_2 dX0_track_46 (by decide) rfl ?_
    refine wp_lload_n dX0_track_47 rfl ?_
    refine wp_iconst 3 dX0_track_48 (by decide) ?_
    refine wp_lshl dX0_track_49 ?_
    refine wp_iload_n dX0_track_50 rfl ?_
    refine wp_aload_n dX0_track_51 rfl ?_
    refine c_getI dX0_track_52 flRX0_35 (by first | rfl | assumption) (by omega) ?_
    refine g_callS2 (mj := mX0_ticksAgo) dX0_track_55 lkRX0_58 mkX0_ticksAgo (by decide) (by decide) (Nat.le_of_ble_eq_true rfl) (c_ticks ?_)
    refine wp_i2l dX0_track_58 ?_
    refine wp_lor dX0_track_59 ?_
    rw [r7i_q, tago hT_q o2_q]
    have e60_q : (lN (((u * 4 + st) * 4 + wt) * 8 + agN T (G 137 (2 * i))) <<< ((3 : Int32).toInt64 &&& 63) ||| (nI (agN T (G 137 (2 * i + 1)))).toInt64) = lN ((((u * 4 + st) * 4 + wt) * 8 + agN T (G 137 (2 * i))) * 8 + agN T (G 137 (2 * i + 1))) := tk_or (k := 3) (by omega) (by have := agN_lt T (G 137 (2 * i)); have := agN_lt T (G 137 (2 * i + 1)); omega) (by have := agN_lt T (G 137 (2 * i)); have := agN_lt T (G 137 (2 * i + 1)); omega)
    rw [e60_q]
    refine st_l_6_2 dX0_track_60 (by decide) rfl ?_
    refine wp_lload_n dX0_track_61 rfl ?_
    refine wp_iconst 3 dX0_track_62 (by decide) ?_
    refine wp_lshl dX0_track_63 ?_
    refine wp_aload_n dX0_track_64 rfl ?_
    refine wp_getA (by first | rfl | assumption) dX0_track_65 flRX0_12 (by first | rfl | assumption) ?_
    refine c_getI dX0_track_68 flRX0_48 (by first | rfl | assumption) (by omega) ?_
    refine wp_i2l dX0_track_71 ?_
    refine wp_lor dX0_track_72 ?_
    rw [hzI_q]
    have e73_q : (lN ((((u * 4 + st) * 4 + wt) * 8 + agN T (G 137 (2 * i))) * 8 + agN T (G 137 (2 * i + 1))) <<< ((3 : Int32).toInt64 &&& 63) ||| (nI (z)).toInt64) = lN (((((u * 4 + st) * 4 + wt) * 8 + agN T (G 137 (2 * i))) * 8 + agN T (G 137 (2 * i + 1))) * 8 + z) := tk_or (k := 3) (by omega) (by have := agN_lt T (G 137 (2 * i)); have := agN_lt T (G 137 (2 * i + 1)); omega) (by have := agN_lt T (G 137 (2 * i)); have := agN_lt T (G 137 (2 * i + 1)); omega)
    rw [e73_q]
    refine st_l_6_2 dX0_track_73 (by decide) rfl ?_
    refine wp_iconst 0 dX0_track_74 (by decide) ?_
    refine st_i_6_4 dX0_track_75 (by decide) rfl ?_
    have e7_q : lN (((((u * 4 + st) * 4 + wt) * 8 + agN T (G 137 (2 * i))) * 8 + agN T (G 137 (2 * i + 1))) * 8 + z) = lN (trN T G i 0) := by show _ = lN (t5N T G i); unfold t5N; rw [e1_q, e2_q, e3_q, e4_q, tn_nI (by omega), tn_nI (by omega), tn_nI (by omega), tn_nI (by omega)]
    rw [e7_q]
    have t_q := l_track (v1 := nI T) (v5 := dum) hH_q hi_q kk_q 0 dum (by omega)
    exact t_q
  · skip
    refine wp_lconst 1 dX0_track_7 (by decide) ?_
    refine wp_goto dX0_track_8 ?_
    have eu_q : (u = 0 ∨ u = 1) ∧ I (k + 9 + 4 * i) 2 = nI u := ⟨by omega, r2i_q.trans e1_q⟩
    first | (have hu0_q : u = 1 := (by rcases eu_q.1 with q_q | q_q; (rw [eu_q.2, q_q] at h4; exact absurd rfl h4); exact q_q); rw [show (1 : Int64) = lN u by rw [hu0_q]; rfl]) | (have hu0_q : u = 0 := (by rcases eu_q.1 with q_q | q_q; exact q_q; (rw [eu_q.2, q_q] at h4; exact absurd h4 (by decide))); rw [show (0 : Int64) = lN u by rw [hu0_q]; rfl])
    refine st_l_6_2 dX0_track_12 (by decide) rfl ?_
    refine wp_lload_n dX0_track_13 rfl ?_
    refine wp_iconst 2 dX0_track_14 (by decide) ?_
    refine wp_lshl dX0_track_15 ?_
    refine wp_aload_n dX0_track_16 rfl ?_
    refine c_getI dX0_track_17 flRX0_42 (by first | rfl | assumption) (by omega) ?_
    refine wp_i2l dX0_track_20 ?_
    refine wp_lor dX0_track_21 ?_
    rw [r3i_q, e2_q]
    have e22_q : (lN (u) <<< ((2 : Int32).toInt64 &&& 63) ||| (nI (st)).toInt64) = lN ((u) * 4 + st) := tk_or (k := 2) (by omega) (by have := agN_lt T (G 137 (2 * i)); have := agN_lt T (G 137 (2 * i + 1)); omega) (by have := agN_lt T (G 137 (2 * i)); have := agN_lt T (G 137 (2 * i + 1)); omega)
    rw [e22_q]
    refine st_l_6_2 dX0_track_22 (by decide) rfl ?_
    refine wp_lload_n dX0_track_23 rfl ?_
    refine wp_iconst 2 dX0_track_24 (by decide) ?_
    refine wp_lshl dX0_track_25 ?_
    refine wp_aload_n dX0_track_26 rfl ?_
    refine c_getI dX0_track_27 flRX0_45 (by first | rfl | assumption) (by omega) ?_
    refine wp_i2l dX0_track_30 ?_
    refine wp_lor dX0_track_31 ?_
    rw [r4i_q, e3_q]
    have e32_q : (lN (u * 4 + st) <<< ((2 : Int32).toInt64 &&& 63) ||| (nI (wt)).toInt64) = lN ((u * 4 + st) * 4 + wt) := tk_or (k := 2) (by omega) (by have := agN_lt T (G 137 (2 * i)); have := agN_lt T (G 137 (2 * i + 1)); omega) (by have := agN_lt T (G 137 (2 * i)); have := agN_lt T (G 137 (2 * i + 1)); omega)
    rw [e32_q]
    refine st_l_6_2 dX0_track_32 (by decide) rfl ?_
    refine wp_lload_n dX0_track_33 rfl ?_
    refine wp_iconst 3 dX0_track_34 (by decide) ?_
    refine wp_lshl dX0_track_35 ?_
    refine wp_iload_n dX0_track_36 rfl ?_
    refine wp_aload_n dX0_track_37 rfl ?_
    refine c_getI dX0_track_38 flRX0_32 (by first | rfl | assumption) (by omega) ?_
    refine g_callS2 (mj := mX0_ticksAgo) dX0_track_41 lkRX0_58 mkX0_ticksAgo (by decide) (by decide) (Nat.le_of_ble_eq_true rfl) (c_ticks ?_)
    refine wp_i2l dX0_track_44 ?_
    refine wp_lor dX0_track_45 ?_
    rw [r6i_q, tago hT_q o1_q]
    have e46_q : (lN ((u * 4 + st) * 4 + wt) <<< ((3 : Int32).toInt64 &&& 63) ||| (nI (agN T (G 137 (2 * i)))).toInt64) = lN (((u * 4 + st) * 4 + wt) * 8 + agN T (G 137 (2 * i))) := tk_or (k := 3) (by omega) (by have := agN_lt T (G 137 (2 * i)); have := agN_lt T (G 137 (2 * i + 1)); omega) (by have := agN_lt T (G 137 (2 * i)); have := agN_lt T (G 137 (2 * i + 1)); omega)
    rw [e46_q]
    refine st_l_6_2 dX0_track_46 (by decide) rfl ?_
    refine wp_lload_n dX0_track_47 rfl ?_
    refine wp_iconst 3 dX0_track_48 (by decide) ?_
    refine wp_lshl dX0_track_49 ?_
    refine wp_iload_n dX0_track_50 rfl ?_
    refine wp_aload_n dX0_track_51 rfl ?_
    refine c_getI dX0_track_52 flRX0_35 (by first | rfl | assumption) (by omega) ?_
    refine g_callS2 (mj := mX0_ticksAgo) dX0_track_55 lkRX0_58 mkX0_ticksAgo (by decide) (by decide) (Nat.le_of_ble_eq_true rfl) (c_ticks ?_)
    refine wp_i2l dX0_track_58 ?_
    refine wp_lor dX0_track_59 ?_
    rw [r7i_q, tago hT_q o2_q]
    have e60_q : (lN (((u * 4 + st) * 4 + wt) * 8 + agN T (G 137 (2 * i))) <<< ((3 : Int32).toInt64 &&& 63) ||| (nI (agN T (G 137 (2 * i + 1)))).toInt64) = lN ((((u * 4 + st) * 4 + wt) * 8 + agN T (G 137 (2 * i))) * 8 + agN T (G 137 (2 * i + 1))) := tk_or (k := 3) (by omega) (by have := agN_lt T (G 137 (2 * i)); have := agN_lt T (G 137 (2 * i + 1)); omega) (by have := agN_lt T (G 137 (2 * i)); have := agN_lt T (G 137 (2 * i + 1)); omega)
    rw [e60_q]
    refine st_l_6_2 dX0_track_60 (by decide) rfl ?_
    refine wp_lload_n dX0_track_61 rfl ?_
    refine wp_iconst 3 dX0_track_62 (by decide) ?_
    refine wp_lshl dX0_track_63 ?_
    refine wp_aload_n dX0_track_64 rfl ?_
    refine wp_getA (by first | rfl | assumption) dX0_track_65 flRX0_12 (by first | rfl | assumption) ?_
    refine c_getI dX0_track_68 flRX0_48 (by first | rfl | assumption) (by omega) ?_
    refine wp_i2l dX0_track_71 ?_
    refine wp_lor dX0_track_72 ?_
    rw [hzI_q]
    have e73_q : (lN ((((u * 4 + st) * 4 + wt) * 8 + agN T (G 137 (2 * i))) * 8 + agN T (G 137 (2 * i + 1))) <<< ((3 : Int32).toInt64 &&& 63) ||| (nI (z)).toInt64) = lN (((((u * 4 + st) * 4 + wt) * 8 + agN T (G 137 (2 * i))) * 8 + agN T (G 137 (2 * i + 1))) * 8 + z) := tk_or (k := 3) (by omega) (by have := agN_lt T (G 137 (2 * i)); have := agN_lt T (G 137 (2 * i + 1)); omega) (by have := agN_lt T (G 137 (2 * i)); have := agN_lt T (G 137 (2 * i + 1)); omega)
    rw [e73_q]
    refine st_l_6_2 dX0_track_73 (by decide) rfl ?_
    refine wp_iconst 0 dX0_track_74 (by decide) ?_
    refine st_i_6_4 dX0_track_75 (by decide) rfl ?_
    have e7_q : lN (((((u * 4 + st) * 4 + wt) * 8 + agN T (G 137 (2 * i))) * 8 + agN T (G 137 (2 * i + 1))) * 8 + z) = lN (trN T G i 0) := by show _ = lN (t5N T G i); unfold t5N; rw [e1_q, e2_q, e3_q, e4_q, tn_nI (by omega), tn_nI (by omega), tn_nI (by omega), tn_nI (by omega)]
    rw [e7_q]
    have t_q := l_track (v1 := nI T) (v5 := dum) hH_q hi_q kk_q 0 dum (by omega)
    exact t_q
