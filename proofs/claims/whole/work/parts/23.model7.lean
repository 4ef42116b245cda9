set_option maxHeartbeats 4000000 in
theorem l_lay1 {I S : Mem} {J : Mel} {Q : Option Value → Mem → Mem → Mel → Prop} (k : ∀ S2 : Mem, ((∀ i, i < 6 → S2 150 i = S 130 i) ∧ (∀ i, i < 6 → S2 151 i = S 131 i) ∧ (∀ i, i < 6 → S2 152 i = S 132 i) ∧ (∀ i, i < 6 → S2 153 i = S 133 i) ∧ (∀ i, i < 6 → S2 156 i = S 136 i) ∧ (∀ i, i < 2 * 6 → S2 157 i = S 137 i) ∧ (∀ b, b ≠ 150 → b ≠ 151 → b ≠ 152 → b ≠ 153 → b ≠ 156 → b ≠ 157 → S2 b = S b)) → W2 mX11_lay 1 Q I S2 J 126 [.ref 126, .int (nI 6)] []) : ∀ (x : Nat) (S2 : Mem), (x ≤ 6) → ((∀ i, i < x → S2 150 i = S 130 i) ∧ (∀ i, i < x → S2 151 i = S 131 i) ∧ (∀ i, i < x → S2 152 i = S 132 i) ∧ (∀ i, i < x → S2 153 i = S 133 i) ∧ (∀ i, i < x → S2 156 i = S 136 i) ∧ (∀ i, i < 2 * x → S2 157 i = S 137 i) ∧ (∀ b, b ≠ 150 → b ≠ 151 → b ≠ 152 → b ≠ 153 → b ≠ 156 → b ≠ 157 → S2 b = S b)) → W2 mX11_lay 1 Q I S2 J 18 [.ref 126, .int (nI x)] [] := by
  intro x S2
  induction hm : 6 - x using Nat.strongRecOn generalizing x S2 with
  | _ c ih =>
    intro hx_q hI_q
    obtain ⟨p0_q, p1_q, p2_q, p3_q, p4_q, p5_q, fr_q⟩ := id hI_q
    refine wp_iload_n dX11_lay_18 rfl ?_
    refine wp_bipush 6 dX11_lay_19 (by decide) ?_
    refine wp_icmp_ge dX11_lay_21 (fun h21 => ?_) (fun h21 => ?_)
    · skip
      have e_q : x = 6 := by rw [show (6 : Int32) = nI 6 from rfl, nI_leg (by omega) (by omega)] at h21; omega
      subst e_q; exact k S2 hI_q
    · skip
      have hx2_q : x < 6 := by rw [show (6 : Int32) = nI 6 from rfl, nI_leg (by omega) (by omega)] at h21; omega
      refine wp_aload_n dX11_lay_24 rfl ?_
      refine wp_getA (by first | rfl | assumption) dX11_lay_25 flRX11_80 (by first | rfl | assumption) ?_
      refine wp_iload_n dX11_lay_28 rfl ?_
      refine wp_aload_n dX11_lay_29 rfl ?_
      refine wp_getA (by first | rfl | assumption) dX11_lay_30 flRX11_19 (by first | rfl | assumption) ?_
      refine wp_iload_n dX11_lay_33 rfl ?_
      refine m_iald dX11_lay_34 rfl (by first | exact nI_mul 2 x | exact nI_mad 2 x 1 | rfl) (by omega) (by decide) (by decide) ?_
      refine m_iast dX11_lay_35 rfl (by first | exact nI_mul 2 x | exact nI_mad 2 x 1 | rfl) (by omega) (by decide) (by decide) ?_
      refine wp_aload_n dX11_lay_36 rfl ?_
      refine wp_getA (by first | rfl | assumption) dX11_lay_37 flRX11_83 (by first | rfl | assumption) ?_
      refine wp_iload_n dX11_lay_40 rfl ?_
      refine wp_aload_n dX11_lay_41 rfl ?_
      refine wp_getA (by first | rfl | assumption) dX11_lay_42 flRX11_22 (by first | rfl | assumption) ?_
      refine wp_iload_n dX11_lay_45 rfl ?_
      refine m_iald dX11_lay_46 rfl (by first | exact nI_mul 2 x | exact nI_mad 2 x 1 | rfl) (by omega) (by decide) (by decide) ?_
      refine m_iast dX11_lay_47 rfl (by first | exact nI_mul 2 x | exact nI_mad 2 x 1 | rfl) (by omega) (by decide) (by decide) ?_
      refine wp_aload_n dX11_lay_48 rfl ?_
      refine wp_getA (by first | rfl | assumption) dX11_lay_49 flRX11_86 (by first | rfl | assumption) ?_
      refine wp_iload_n dX11_lay_52 rfl ?_
      refine wp_aload_n dX11_lay_53 rfl ?_
      refine wp_getA (by first | rfl | assumption) dX11_lay_54 flRX11_25 (by first | rfl | assumption) ?_
      refine wp_iload_n dX11_lay_57 rfl ?_
      refine m_iald dX11_lay_58 rfl (by first | exact nI_mul 2 x | exact nI_mad 2 x 1 | rfl) (by omega) (by decide) (by decide) ?_
      refine m_iast dX11_lay_59 rfl (by first | exact nI_mul 2 x | exact nI_mad 2 x 1 | rfl) (by omega) (by decide) (by decide) ?_
      refine wp_aload_n dX11_lay_60 rfl ?_
      refine wp_getA (by first | rfl | assumption) dX11_lay_61 flRX11_89 (by first | rfl | assumption) ?_
      refine wp_iload_n dX11_lay_64 rfl ?_
      refine wp_aload_n dX11_lay_65 rfl ?_
      refine wp_getA (by first | rfl | assumption) dX11_lay_66 flRX11_28 (by first | rfl | assumption) ?_
      refine wp_iload_n dX11_lay_69 rfl ?_
      refine m_iald dX11_lay_70 rfl (by first | exact nI_mul 2 x | exact nI_mad 2 x 1 | rfl) (by omega) (by decide) (by decide) ?_
      refine m_iast dX11_lay_71 rfl (by first | exact nI_mul 2 x | exact nI_mad 2 x 1 | rfl) (by omega) (by decide) (by decide) ?_
      refine wp_aload_n dX11_lay_72 rfl ?_
      refine wp_getA (by first | rfl | assumption) dX11_lay_73 flRX11_98 (by first | rfl | assumption) ?_
      refine wp_iload_n dX11_lay_76 rfl ?_
      refine wp_aload_n dX11_lay_77 rfl ?_
      refine wp_getA (by first | rfl | assumption) dX11_lay_78 flRX11_37 (by first | rfl | assumption) ?_
      refine wp_iload_n dX11_lay_81 rfl ?_
      refine m_iald dX11_lay_82 rfl (by first | exact nI_mul 2 x | exact nI_mad 2 x 1 | rfl) (by omega) (by decide) (by decide) ?_
      refine m_iast dX11_lay_83 rfl (by first | exact nI_mul 2 x | exact nI_mad 2 x 1 | rfl) (by omega) (by decide) (by decide) ?_
      refine wp_aload_n dX11_lay_84 rfl ?_
      refine wp_getA (by first | rfl | assumption) dX11_lay_85 flRX11_101 (by first | rfl | assumption) ?_
      refine wp_iconst 2 dX11_lay_88 (by decide) ?_
      refine wp_iload_n dX11_lay_89 rfl ?_
      refine wp_imul dX11_lay_90 ?_
      refine wp_aload_n dX11_lay_91 rfl ?_
      refine wp_getA (by first | rfl | assumption) dX11_lay_92 flRX11_40 (by first | rfl | assumption) ?_
      refine wp_iconst 2 dX11_lay_95 (by decide) ?_
      refine wp_iload_n dX11_lay_96 rfl ?_
      refine wp_imul dX11_lay_97 ?_
      refine m_iald dX11_lay_98 rfl (by first | exact nI_mul 2 x | exact nI_mad 2 x 1 | rfl) (by omega) (by decide) (by decide) ?_
      refine m_iast dX11_lay_99 rfl (by first | exact nI_mul 2 x | exact nI_mad 2 x 1 | rfl) (by omega) (by decide) (by decide) ?_
      refine wp_aload_n dX11_lay_100 rfl ?_
      refine wp_getA (by first | rfl | assumption) dX11_lay_101 flRX11_101 (by first | rfl | assumption) ?_
      refine wp_iconst 2 dX11_lay_104 (by decide) ?_
      refine wp_iload_n dX11_lay_105 rfl ?_
      refine wp_imul dX11_lay_106 ?_
      refine wp_iconst 1 dX11_lay_107 (by decide) ?_
      refine wp_iadd dX11_lay_108 ?_
      refine wp_aload_n dX11_lay_109 rfl ?_
      refine wp_getA (by first | rfl | assumption) dX11_lay_110 flRX11_40 (by first | rfl | assumption) ?_
      refine wp_iconst 2 dX11_lay_113 (by decide) ?_
      refine wp_iload_n dX11_lay_114 rfl ?_
      refine wp_imul dX11_lay_115 ?_
      refine wp_iconst 1 dX11_lay_116 (by decide) ?_
      refine wp_iadd dX11_lay_117 ?_
      refine m_iald dX11_lay_118 rfl (by first | exact nI_mul 2 x | exact nI_mad 2 x 1 | rfl) (by omega) (by decide) (by decide) ?_
      refine m_iast dX11_lay_119 rfl (by first | exact nI_mul 2 x | exact nI_mad 2 x 1 | rfl) (by omega) (by decide) (by decide) ?_
      refine ic_2_1 (nI (x + 1)) dX11_lay_120 (nI_inc x) (by decide) rfl ?_
      refine wp_goto dX11_lay_123 ?_
      refine ih _ (by omega) (x + 1) _ rfl (by omega) ⟨fun i hi_q => ?_, fun i hi_q => ?_, fun i hi_q => ?_, fun i hi_q => ?_, fun i hi_q => ?_, fun i hi_q => ?_, fun b n0_q n1_q n2_q n3_q n4_q n5_q => ?_⟩
      · by_cases hix_q : i = x
        · subst hix_q; simp [uI_ap]; rw [fr_q 130 (by decide) (by decide) (by decide) (by decide) (by decide) (by decide)]
        · simp [uI_ap, hix_q]; exact p0_q i (by omega)
      · by_cases hix_q : i = x
        · subst hix_q; simp [uI_ap]; rw [fr_q 131 (by decide) (by decide) (by decide) (by decide) (by decide) (by decide)]
        · simp [uI_ap, hix_q]; exact p1_q i (by omega)
      · by_cases hix_q : i = x
        · subst hix_q; simp [uI_ap]; rw [fr_q 132 (by decide) (by decide) (by decide) (by decide) (by decide) (by decide)]
        · simp [uI_ap, hix_q]; exact p2_q i (by omega)
      · by_cases hix_q : i = x
        · subst hix_q; simp [uI_ap]; rw [fr_q 133 (by decide) (by decide) (by decide) (by decide) (by decide) (by decide)]
        · simp [uI_ap, hix_q]; exact p3_q i (by omega)
      · by_cases hix_q : i = x
        · subst hix_q; simp [uI_ap]; rw [fr_q 136 (by decide) (by decide) (by decide) (by decide) (by decide) (by decide)]
        · simp [uI_ap, hix_q]; exact p4_q i (by omega)
      · by_cases hix_q : i = 2 * x + 1
        · subst hix_q; simp [uI_ap]; rw [fr_q 137 (by decide) (by decide) (by decide) (by decide) (by decide) (by decide)]
        · by_cases hiy_q : i = 2 * x
          · subst hiy_q; simp [uI_ap]; rw [fr_q 137 (by decide) (by decide) (by decide) (by decide) (by decide) (by decide)]
          · simp [uI_ap, hix_q, hiy_q]; exact p5_q i (by omega)
      · funext j; simp [uI_ap, n0_q, n1_q, n2_q, n3_q, n4_q, n5_q]; rw [fr_q b n0_q n1_q n2_q n3_q n4_q n5_q]
set_option maxHeartbeats 4000000 in
theorem l_lay2 {I S : Mem} {J : Mel} {Q : Option Value → Mem → Mem → Mel → Prop} (k : ∀ S2 : Mem, ((∀ i, i < 30 → S2 154 i = S 134 i) ∧ (∀ i, i < 30 → S2 155 i = S 135 i) ∧ (∀ b, b ≠ 154 → b ≠ 155 → S2 b = S b)) → W2 mX11_lay 1 Q I S2 J 164 [.ref 126, .int (nI 30)] []) : ∀ (x : Nat) (S2 : Mem), (x ≤ 30) → ((∀ i, i < x → S2 154 i = S 134 i) ∧ (∀ i, i < x → S2 155 i = S 135 i) ∧ (∀ b, b ≠ 154 → b ≠ 155 → S2 b = S b)) → W2 mX11_lay 1 Q I S2 J 128 [.ref 126, .int (nI x)] [] := by
  intro x S2
  induction hm : 30 - x using Nat.strongRecOn generalizing x S2 with
  | _ c ih =>
    intro hx_q hI_q
    obtain ⟨p0_q, p1_q, fr_q⟩ := id hI_q
    refine wp_iload_n dX11_lay_128 rfl ?_
    refine wp_bipush 30 dX11_lay_129 (by decide) ?_
    refine wp_icmp_ge dX11_lay_131 (fun h131 => ?_) (fun h131 => ?_)
    · skip
      have e_q : x = 30 := by rw [show (30 : Int32) = nI 30 from rfl, nI_leg (by omega) (by omega)] at h131; omega
      subst e_q; exact k S2 hI_q
    · skip
      have hx2_q : x < 30 := by rw [show (30 : Int32) = nI 30 from rfl, nI_leg (by omega) (by omega)] at h131; omega
      refine wp_aload_n dX11_lay_134 rfl ?_
      refine wp_getA (by first | rfl | assumption) dX11_lay_135 flRX11_92 (by first | rfl | assumption) ?_
      refine wp_iload_n dX11_lay_138 rfl ?_
      refine wp_aload_n dX11_lay_139 rfl ?_
      refine wp_getA (by first | rfl | assumption) dX11_lay_140 flRX11_31 (by first | rfl | assumption) ?_
      refine wp_iload_n dX11_lay_143 rfl ?_
      refine m_iald dX11_lay_144 rfl (by first | exact nI_mul 2 x | exact nI_mad 2 x 1 | rfl) (by omega) (by decide) (by decide) ?_
      refine m_iast dX11_lay_145 rfl (by first | exact nI_mul 2 x | exact nI_mad 2 x 1 | rfl) (by omega) (by decide) (by decide) ?_
      refine wp_aload_n dX11_lay_146 rfl ?_
      refine wp_getA (by first | rfl | assumption) dX11_lay_147 flRX11_95 (by first | rfl | assumption) ?_
      refine wp_iload_n dX11_lay_150 rfl ?_
      refine wp_aload_n dX11_lay_151 rfl ?_
      refine wp_getA (by first | rfl | assumption) dX11_lay_152 flRX11_34 (by first | rfl | assumption) ?_
      refine wp_iload_n dX11_lay_155 rfl ?_
      refine m_iald dX11_lay_156 rfl (by first | exact nI_mul 2 x | exact nI_mad 2 x 1 | rfl) (by omega) (by decide) (by decide) ?_
      refine m_iast dX11_lay_157 rfl (by first | exact nI_mul 2 x | exact nI_mad 2 x 1 | rfl) (by omega) (by decide) (by decide) ?_
      refine ic_2_1 (nI (x + 1)) dX11_lay_158 (nI_inc x) (by decide) rfl ?_
      refine wp_goto dX11_lay_161 ?_
      refine ih _ (by omega) (x + 1) _ rfl (by omega) ⟨fun i hi_q => ?_, fun i hi_q => ?_, fun b n0_q n1_q => ?_⟩
      · by_cases hix_q : i = x
        · subst hix_q; simp [uI_ap]; rw [fr_q 134 (by decide) (by decide)]
        · simp [uI_ap, hix_q]; exact p0_q i (by omega)
      · by_cases hix_q : i = x
        · subst hix_q; simp [uI_ap]; rw [fr_q 135 (by decide) (by decide)]
        · simp [uI_ap, hix_q]; exact p1_q i (by omega)
      · funext j; simp [uI_ap, n0_q, n1_q]; rw [fr_q b n0_q n1_q]
set_option maxHeartbeats 4000000 in
theorem l_layB1 {I S : Mem} {J : Mel} {Q : Option Value → Mem → Mem → Mel → Prop} (k : ∀ S2 : Mem, ((∀ i, i < 6 → S2 130 i = S 150 i) ∧ (∀ i, i < 6 → S2 131 i = S 151 i) ∧ (∀ i, i < 6 → S2 132 i = S 152 i) ∧ (∀ i, i < 6 → S2 133 i = S 153 i) ∧ (∀ i, i < 6 → S2 136 i = S 156 i) ∧ (∀ i, i < 2 * 6 → S2 137 i = S 157 i) ∧ (∀ b, b ≠ 130 → b ≠ 131 → b ≠ 132 → b ≠ 133 → b ≠ 136 → b ≠ 137 → S2 b = S b)) → W2 mX11_layBack 1 Q I S2 J 126 [.ref 126, .int (nI 6)] []) : ∀ (x : Nat) (S2 : Mem), (x ≤ 6) → ((∀ i, i < x → S2 130 i = S 150 i) ∧ (∀ i, i < x → S2 131 i = S 151 i) ∧ (∀ i, i < x → S2 132 i = S 152 i) ∧ (∀ i, i < x → S2 133 i = S 153 i) ∧ (∀ i, i < x → S2 136 i = S 156 i) ∧ (∀ i, i < 2 * x → S2 137 i = S 157 i) ∧ (∀ b, b ≠ 130 → b ≠ 131 → b ≠ 132 → b ≠ 133 → b ≠ 136 → b ≠ 137 → S2 b = S b)) → W2 mX11_layBack 1 Q I S2 J 18 [.ref 126, .int (nI x)] [] := by
  intro x S2
  induction hm : 6 - x using Nat.strongRecOn generalizing x S2 with
  | _ c ih =>
    intro hx_q hI_q
    obtain ⟨p0_q, p1_q, p2_q, p3_q, p4_q, p5_q, fr_q⟩ := id hI_q
    refine wp_iload_n dX11_layBack_18 rfl ?_
    refine wp_bipush 6 dX11_layBack_19 (by decide) ?_
    refine wp_icmp_ge dX11_layBack_21 (fun h21 => ?_) (fun h21 => ?_)
    · skip
      have e_q : x = 6 := by rw [show (6 : Int32) = nI 6 from rfl, nI_leg (by omega) (by omega)] at h21; omega
      subst e_q; exact k S2 hI_q
    · skip
      have hx2_q : x < 6 := by rw [show (6 : Int32) = nI 6 from rfl, nI_leg (by omega) (by omega)] at h21; omega
      refine wp_aload_n dX11_layBack_24 rfl ?_
      refine wp_getA (by first | rfl | assumption) dX11_layBack_25 flRX11_19 (by first | rfl | assumption) ?_
      refine wp_iload_n dX11_layBack_28 rfl ?_
      refine wp_aload_n dX11_layBack_29 rfl ?_
      refine wp_getA (by first | rfl | assumption) dX11_layBack_30 flRX11_80 (by first | rfl | assumption) ?_
      refine wp_iload_n dX11_layBack_33 rfl ?_
      refine m_iald dX11_layBack_34 rfl (by first | exact nI_mul 2 x | exact nI_mad 2 x 1 | rfl) (by omega) (by decide) (by decide) ?_
      refine m_iast dX11_layBack_35 rfl (by first | exact nI_mul 2 x | exact nI_mad 2 x 1 | rfl) (by omega) (by decide) (by decide) ?_
      refine wp_aload_n dX11_layBack_36 rfl ?_
      refine wp_getA (by first | rfl | assumption) dX11_layBack_37 flRX11_22 (by first | rfl | assumption) ?_
      refine wp_iload_n dX11_layBack_40 rfl ?_
      refine wp_aload_n dX11_layBack_41 rfl ?_
      refine wp_getA (by first | rfl | assumption) dX11_layBack_42 flRX11_83 (by first | rfl | assumption) ?_
      refine wp_iload_n dX11_layBack_45 rfl ?_
      refine m_iald dX11_layBack_46 rfl (by first | exact nI_mul 2 x | exact nI_mad 2 x 1 | rfl) (by omega) (by decide) (by decide) ?_
      refine m_iast dX11_layBack_47 rfl (by first | exact nI_mul 2 x | exact nI_mad 2 x 1 | rfl) (by omega) (by decide) (by decide) ?_
      refine wp_aload_n dX11_layBack_48 rfl ?_
      refine wp_getA (by first | rfl | assumption) dX11_layBack_49 flRX11_25 (by first | rfl | assumption) ?_
      refine wp_iload_n dX11_layBack_52 rfl ?_
      refine wp_aload_n dX11_layBack_53 rfl ?_
      refine wp_getA (by first | rfl | assumption) dX11_layBack_54 flRX11_86 (by first | rfl | assumption) ?_
      refine wp_iload_n dX11_layBack_57 rfl ?_
      refine m_iald dX11_layBack_58 rfl (by first | exact nI_mul 2 x | exact nI_mad 2 x 1 | rfl) (by omega) (by decide) (by decide) ?_
      refine m_iast dX11_layBack_59 rfl (by first | exact nI_mul 2 x | exact nI_mad 2 x 1 | rfl) (by omega) (by decide) (by decide) ?_
      refine wp_aload_n dX11_layBack_60 rfl ?_
      refine wp_getA (by first | rfl | assumption) dX11_layBack_61 flRX11_28 (by first | rfl | assumption) ?_
      refine wp_iload_n dX11_layBack_64 rfl ?_
      refine wp_aload_n dX11_layBack_65 rfl ?_
      refine wp_getA (by first | rfl | assumption) dX11_layBack_66 flRX11_89 (by first | rfl | assumption) ?_
      refine wp_iload_n dX11_layBack_69 rfl ?_
      refine m_iald dX11_layBack_70 rfl (by first | exact nI_mul 2 x | exact nI_mad 2 x 1 | rfl) (by omega) (by decide) (by decide) ?_
      refine m_iast dX11_layBack_71 rfl (by first | exact nI_mul 2 x | exact nI_mad 2 x 1 | rfl) (by omega) (by decide) (by decide) ?_
      refine wp_aload_n dX11_layBack_72 rfl ?_
      refine wp_getA (by first | rfl | assumption) dX11_layBack_73 flRX11_37 (by first | rfl | assumption) ?_
      refine wp_iload_n dX11_layBack_76 rfl ?_
      refine wp_aload_n dX11_layBack_77 rfl ?_
      refine wp_getA (by first | rfl | assumption) dX11_layBack_78 flRX11_98 (by first | rfl | assumption) ?_
      refine wp_iload_n dX11_layBack_81 rfl ?_
      refine m_iald dX11_layBack_82 rfl (by first | exact nI_mul 2 x | exact nI_mad 2 x 1 | rfl) (by omega) (by decide) (by decide) ?_
      refine m_iast dX11_layBack_83 rfl (by first | exact nI_mul 2 x | exact nI_mad 2 x 1 | rfl) (by omega) (by decide) (by decide) ?_
      refine wp_aload_n dX11_layBack_84 rfl ?_
      refine wp_getA (by first | rfl | assumption) dX11_layBack_85 flRX11_40 (by first | rfl | assumption) ?_
      refine wp_iconst 2 dX11_layBack_88 (by decide) ?_
      refine wp_iload_n dX11_layBack_89 rfl ?_
      refine wp_imul dX11_layBack_90 ?_
      refine wp_aload_n dX11_layBack_91 rfl ?_
      refine wp_getA (by first | rfl | assumption) dX11_layBack_92 flRX11_101 (by first | rfl | assumption) ?_
      refine wp_iconst 2 dX11_layBack_95 (by decide) ?_
      refine wp_iload_n dX11_layBack_96 rfl ?_
      refine wp_imul dX11_layBack_97 ?_
      refine m_iald dX11_layBack_98 rfl (by first | exact nI_mul 2 x | exact nI_mad 2 x 1 | rfl) (by omega) (by decide) (by decide) ?_
      refine m_iast dX11_layBack_99 rfl (by first | exact nI_mul 2 x | exact nI_mad 2 x 1 | rfl) (by omega) (by decide) (by decide) ?_
      refine wp_aload_n dX11_layBack_100 rfl ?_
      refine wp_getA (by first | rfl | assumption) dX11_layBack_101 flRX11_40 (by first | rfl | assumption) ?_
      refine wp_iconst 2 dX11_layBack_104 (by decide) ?_
      refine wp_iload_n dX11_layBack_105 rfl ?_
      refine wp_imul dX11_layBack_106 ?_
      refine wp_iconst 1 dX11_layBack_107 (by decide) ?_
      refine wp_iadd dX11_layBack_108 ?_
      refine wp_aload_n dX11_layBack_109 rfl ?_
      refine wp_getA (by first | rfl | assumption) dX11_layBack_110 flRX11_101 (by first | rfl | assumption) ?_
      refine wp_iconst 2 dX11_layBack_113 (by decide) ?_
      refine wp_iload_n dX11_layBack_114 rfl ?_
      refine wp_imul dX11_layBack_115 ?_
      refine wp_iconst 1 dX11_layBack_116 (by decide) ?_
      refine wp_iadd dX11_layBack_117 ?_
      refine m_iald dX11_layBack_118 rfl (by first | exact nI_mul 2 x | exact nI_mad 2 x 1 | rfl) (by omega) (by decide) (by decide) ?_
      refine m_iast dX11_layBack_119 rfl (by first | exact nI_mul 2 x | exact nI_mad 2 x 1 | rfl) (by omega) (by decide) (by decide) ?_
      refine ic_2_1 (nI (x + 1)) dX11_layBack_120 (nI_inc x) (by decide) rfl ?_
      refine wp_goto dX11_layBack_123 ?_
      refine ih _ (by omega) (x + 1) _ rfl (by omega) ⟨fun i hi_q => ?_, fun i hi_q => ?_, fun i hi_q => ?_, fun i hi_q => ?_, fun i hi_q => ?_, fun i hi_q => ?_, fun b n0_q n1_q n2_q n3_q n4_q n5_q => ?_⟩
      · by_cases hix_q : i = x
        · subst hix_q; simp [uI_ap]; rw [fr_q 150 (by decide) (by decide) (by decide) (by decide) (by decide) (by decide)]
        · simp [uI_ap, hix_q]; exact p0_q i (by omega)
      · by_cases hix_q : i = x
        · subst hix_q; simp [uI_ap]; rw [fr_q 151 (by decide) (by decide) (by decide) (by decide) (by decide) (by decide)]
        · simp [uI_ap, hix_q]; exact p1_q i (by omega)
      · by_cases hix_q : i = x
        · subst hix_q; simp [uI_ap]; rw [fr_q 152 (by decide) (by decide) (by decide) (by decide) (by decide) (by decide)]
        · simp [uI_ap, hix_q]; exact p2_q i (by omega)
      · by_cases hix_q : i = x
        · subst hix_q; simp [uI_ap]; rw [fr_q 153 (by decide) (by decide) (by decide) (by decide) (by decide) (by decide)]
        · simp [uI_ap, hix_q]; exact p3_q i (by omega)
      · by_cases hix_q : i = x
        · subst hix_q; simp [uI_ap]; rw [fr_q 156 (by decide) (by decide) (by decide) (by decide) (by decide) (by decide)]
        · simp [uI_ap, hix_q]; exact p4_q i (by omega)
      · by_cases hix_q : i = 2 * x + 1
        · subst hix_q; simp [uI_ap]; rw [fr_q 157 (by decide) (by decide) (by decide) (by decide) (by decide) (by decide)]
        · by_cases hiy_q : i = 2 * x
          · subst hiy_q; simp [uI_ap]; rw [fr_q 157 (by decide) (by decide) (by decide) (by decide) (by decide) (by decide)]
          · simp [uI_ap, hix_q, hiy_q]; exact p5_q i (by omega)
      · funext j; simp [uI_ap, n0_q, n1_q, n2_q, n3_q, n4_q, n5_q]; rw [fr_q b n0_q n1_q n2_q n3_q n4_q n5_q]
set_option maxHeartbeats 4000000 in
theorem l_layB2 {I S : Mem} {J : Mel} {Q : Option Value → Mem → Mem → Mel → Prop} (k : ∀ S2 : Mem, ((∀ i, i < 30 → S2 134 i = S 154 i) ∧ (∀ i, i < 30 → S2 135 i = S 155 i) ∧ (∀ b, b ≠ 134 → b ≠ 135 → S2 b = S b)) → W2 mX11_layBack 1 Q I S2 J 164 [.ref 126, .int (nI 30)] []) : ∀ (x : Nat) (S2 : Mem), (x ≤ 30) → ((∀ i, i < x → S2 134 i = S 154 i) ∧ (∀ i, i < x → S2 135 i = S 155 i) ∧ (∀ b, b ≠ 134 → b ≠ 135 → S2 b = S b)) → W2 mX11_layBack 1 Q I S2 J 128 [.ref 126, .int (nI x)] [] := by
  intro x S2
  induction hm : 30 - x using Nat.strongRecOn generalizing x S2 with
  | _ c ih =>
    intro hx_q hI_q
    obtain ⟨p0_q, p1_q, fr_q⟩ := id hI_q
    refine wp_iload_n dX11_layBack_128 rfl ?_
    refine wp_bipush 30 dX11_layBack_129 (by decide) ?_
    refine wp_icmp_ge dX11_layBack_131 (fun h131 => ?_) (fun h131 => ?_)
    · skip
      have e_q : x = 30 := by rw [show (30 : Int32) = nI 30 from rfl, nI_leg (by omega) (by omega)] at h131; omega
      subst e_q; exact k S2 hI_q
    · skip
      have hx2_q : x < 30 := by rw [show (30 : Int32) = nI 30 from rfl, nI_leg (by omega) (by omega)] at h131; omega
      refine wp_aload_n dX11_layBack_134 rfl ?_
      refine wp_getA (by first | rfl | assumption) dX11_layBack_135 flRX11_31 (by first | rfl | assumption) ?_
      refine wp_iload_n dX11_layBack_138 rfl ?_
      refine wp_aload_n dX11_layBack_139 rfl ?_
      refine wp_getA (by first | rfl | assumption) dX11_layBack_140 flRX11_92 (by first | rfl | assumption) ?_
      refine wp_iload_n dX11_layBack_143 rfl ?_
      refine m_iald dX11_layBack_144 rfl (by first | exact nI_mul 2 x | exact nI_mad 2 x 1 | rfl) (by omega) (by decide) (by decide) ?_
      refine m_iast dX11_layBack_145 rfl (by first | exact nI_mul 2 x | exact nI_mad 2 x 1 | rfl) (by omega) (by decide) (by decide) ?_
      refine wp_aload_n dX11_layBack_146 rfl ?_
      refine wp_getA (by first | rfl | assumption) dX11_layBack_147 flRX11_34 (by first | rfl | assumption) ?_
      refine wp_iload_n dX11_layBack_150 rfl ?_
      refine wp_aload_n dX11_layBack_151 rfl ?_
      refine wp_getA (by first | rfl | assumption) dX11_layBack_152 flRX11_95 (by first | rfl | assumption) ?_
      refine wp_iload_n dX11_layBack_155 rfl ?_
      refine m_iald dX11_layBack_156 rfl (by first | exact nI_mul 2 x | exact nI_mad 2 x 1 | rfl) (by omega) (by decide) (by decide) ?_
      refine m_iast dX11_layBack_157 rfl (by first | exact nI_mul 2 x | exact nI_mad 2 x 1 | rfl) (by omega) (by decide) (by decide) ?_
      refine ic_2_1 (nI (x + 1)) dX11_layBack_158 (nI_inc x) (by decide) rfl ?_
      refine wp_goto dX11_layBack_161 ?_
      refine ih _ (by omega) (x + 1) _ rfl (by omega) ⟨fun i hi_q => ?_, fun i hi_q => ?_, fun b n0_q n1_q => ?_⟩
      · by_cases hix_q : i = x
        · subst hix_q; simp [uI_ap]; rw [fr_q 154 (by decide) (by decide)]
        · simp [uI_ap, hix_q]; exact p0_q i (by omega)
      · by_cases hix_q : i = x
        · subst hix_q; simp [uI_ap]; rw [fr_q 155 (by decide) (by decide)]
        · simp [uI_ap, hix_q]; exact p1_q i (by omega)
      · funext j; simp [uI_ap, n0_q, n1_q]; rw [fr_q b n0_q n1_q]
set_option maxHeartbeats 4000000 in
theorem l_img1 {I S : Mem} {J : Mel} {Q : Option Value → Mem → Mem → Mel → Prop} (k : ∀ S2 : Mem, ((∀ i, i < 6 → S2 159 i = S 127 i) ∧ (∀ i, i < 6 → S2 160 i = S 130 i) ∧ (∀ i, i < 6 → S2 161 i = S 131 i) ∧ (∀ i, i < 6 → S2 162 i = S 132 i) ∧ (∀ i, i < 6 → S2 163 i = S 133 i) ∧ (∀ i, i < 6 → S2 166 i = S 136 i) ∧ (∀ i, i < 6 → S2 168 i = S 138 i) ∧ (∀ i, i < 6 → S2 169 i = S 139 i) ∧ (∀ i, i < 6 → S2 170 i = S 140 i) ∧ (∀ i, i < 6 → S2 171 i = S 141 i) ∧ (∀ i, i < 6 → S2 172 i = S 142 i) ∧ (∀ i, i < 2 * 6 → S2 167 i = S 137 i) ∧ (∀ b, b ≠ 159 → b ≠ 160 → b ≠ 161 → b ≠ 162 → b ≠ 163 → b ≠ 166 → b ≠ 168 → b ≠ 169 → b ≠ 170 → b ≠ 171 → b ≠ 172 → b ≠ 167 → S2 b = S b)) → W2 mX11_image 1 Q I S2 J 237 [.ref 126, .int (nI 6)] []) : ∀ (x : Nat) (S2 : Mem), (x ≤ 6) → ((∀ i, i < x → S2 159 i = S 127 i) ∧ (∀ i, i < x → S2 160 i = S 130 i) ∧ (∀ i, i < x → S2 161 i = S 131 i) ∧ (∀ i, i < x → S2 162 i = S 132 i) ∧ (∀ i, i < x → S2 163 i = S 133 i) ∧ (∀ i, i < x → S2 166 i = S 136 i) ∧ (∀ i, i < x → S2 168 i = S 138 i) ∧ (∀ i, i < x → S2 169 i = S 139 i) ∧ (∀ i, i < x → S2 170 i = S 140 i) ∧ (∀ i, i < x → S2 171 i = S 141 i) ∧ (∀ i, i < x → S2 172 i = S 142 i) ∧ (∀ i, i < 2 * x → S2 167 i = S 137 i) ∧ (∀ b, b ≠ 159 → b ≠ 160 → b ≠ 161 → b ≠ 162 → b ≠ 163 → b ≠ 166 → b ≠ 168 → b ≠ 169 → b ≠ 170 → b ≠ 171 → b ≠ 172 → b ≠ 167 → S2 b = S b)) → W2 mX11_image 1 Q I S2 J 57 [.ref 126, .int (nI x)] [] := by
  intro x S2
  induction hm : 6 - x using Nat.strongRecOn generalizing x S2 with
  | _ c ih =>
    intro hx_q hI_q
    obtain ⟨p0_q, p1_q, p2_q, p3_q, p4_q, p5_q, p6_q, p7_q, p8_q, p9_q, p10_q, p11_q, fr_q⟩ := id hI_q
    refine wp_iload_n dX11_image_57 rfl ?_
    refine wp_bipush 6 dX11_image_58 (by decide) ?_
    refine wp_icmp_ge dX11_image_60 (fun h60 => ?_) (fun h60 => ?_)
    · skip
      have e_q : x = 6 := by rw [show (6 : Int32) = nI 6 from rfl, nI_leg (by omega) (by omega)] at h60; omega
      subst e_q; exact k S2 hI_q
    · skip
      have hx2_q : x < 6 := by rw [show (6 : Int32) = nI 6 from rfl, nI_leg (by omega) (by omega)] at h60; omega
      refine wp_aload_n dX11_image_63 rfl ?_
      refine wp_getA (by first | rfl | assumption) dX11_image_64 flRX11_107 (by first | rfl | assumption) ?_
      refine wp_iload_n dX11_image_67 rfl ?_
      refine wp_aload_n dX11_image_68 rfl ?_
      refine wp_getA (by first | rfl | assumption) dX11_image_69 flRX11_7 (by first | rfl | assumption) ?_
      refine wp_iload_n dX11_image_72 rfl ?_
      refine m_iald dX11_image_73 rfl (by first | exact nI_mul 2 x | exact nI_mad 2 x 1 | rfl) (by omega) (by decide) (by decide) ?_
      refine m_iast dX11_image_74 rfl (by first | exact nI_mul 2 x | exact nI_mad 2 x 1 | rfl) (by omega) (by decide) (by decide) ?_
      refine wp_aload_n dX11_image_75 rfl ?_
      refine wp_getA (by first | rfl | assumption) dX11_image_76 flRX11_110 (by first | rfl | assumption) ?_
      refine wp_iload_n dX11_image_79 rfl ?_
      refine wp_aload_n dX11_image_80 rfl ?_
      refine wp_getA (by first | rfl | assumption) dX11_image_81 flRX11_19 (by first | rfl | assumption) ?_
      refine wp_iload_n dX11_image_84 rfl ?_
      refine m_iald dX11_image_85 rfl (by first | exact nI_mul 2 x | exact nI_mad 2 x 1 | rfl) (by omega) (by decide) (by decide) ?_
      refine m_iast dX11_image_86 rfl (by first | exact nI_mul 2 x | exact nI_mad 2 x 1 | rfl) (by omega) (by decide) (by decide) ?_
      refine wp_aload_n dX11_image_87 rfl ?_
      refine wp_getA (by first | rfl | assumption) dX11_image_88 flRX11_113 (by first | rfl | assumption) ?_
      refine wp_iload_n dX11_image_91 rfl ?_
      refine wp_aload_n dX11_image_92 rfl ?_
      refine wp_getA (by first | rfl | assumption) dX11_image_93 flRX11_22 (by first | rfl | assumption) ?_
      refine wp_iload_n dX11_image_96 rfl ?_
      refine m_iald dX11_image_97 rfl (by first | exact nI_mul 2 x | exact nI_mad 2 x 1 | rfl) (by omega) (by decide) (by decide) ?_
      refine m_iast dX11_image_98 rfl (by first | exact nI_mul 2 x | exact nI_mad 2 x 1 | rfl) (by omega) (by decide) (by decide) ?_
      refine wp_aload_n dX11_image_99 rfl ?_
      refine wp_getA (by first | rfl | assumption) dX11_image_100 flRX11_116 (by first | rfl | assumption) ?_
      refine wp_iload_n dX11_image_103 rfl ?_
      refine wp_aload_n dX11_image_104 rfl ?_
      refine wp_getA (by first | rfl | assumption) dX11_image_105 flRX11_25 (by first | rfl | assumption) ?_
      refine wp_iload_n dX11_image_108 rfl ?_
      refine m_iald dX11_image_109 rfl (by first | exact nI_mul 2 x | exact nI_mad 2 x 1 | rfl) (by omega) (by decide) (by decide) ?_
      refine m_iast dX11_image_110 rfl (by first | exact nI_mul 2 x | exact nI_mad 2 x 1 | rfl) (by omega) (by decide) (by decide) ?_
      refine wp_aload_n dX11_image_111 rfl ?_
      refine wp_getA (by first | rfl | assumption) dX11_image_112 flRX11_119 (by first | rfl | assumption) ?_
      refine wp_iload_n dX11_image_115 rfl ?_
      refine wp_aload_n dX11_image_116 rfl ?_
      refine wp_getA (by first | rfl | assumption) dX11_image_117 flRX11_28 (by first | rfl | assumption) ?_
      refine wp_iload_n dX11_image_120 rfl ?_
      refine m_iald dX11_image_121 rfl (by first | exact nI_mul 2 x | exact nI_mad 2 x 1 | rfl) (by omega) (by decide) (by decide) ?_
      refine m_iast dX11_image_122 rfl (by first | exact nI_mul 2 x | exact nI_mad 2 x 1 | rfl) (by omega) (by decide) (by decide) ?_
      refine wp_aload_n dX11_image_123 rfl ?_
      refine wp_getA (by first | rfl | assumption) dX11_image_124 flRX11_128 (by first | rfl | assumption) ?_
      refine wp_iload_n dX11_image_127 rfl ?_
      refine wp_aload_n dX11_image_128 rfl ?_
      refine wp_getA (by first | rfl | assumption) dX11_image_129 flRX11_37 (by first | rfl | assumption) ?_
      refine wp_iload_n dX11_image_132 rfl ?_
      refine m_iald dX11_image_133 rfl (by first | exact nI_mul 2 x | exact nI_mad 2 x 1 | rfl) (by omega) (by decide) (by decide) ?_
      refine m_iast dX11_image_134 rfl (by first | exact nI_mul 2 x | exact nI_mad 2 x 1 | rfl) (by omega) (by decide) (by decide) ?_
      refine wp_aload_n dX11_image_135 rfl ?_
      refine wp_getA (by first | rfl | assumption) dX11_image_136 flRX11_131 (by first | rfl | assumption) ?_
      refine wp_iconst 2 dX11_image_139 (by decide) ?_
      refine wp_iload_n dX11_image_140 rfl ?_
      refine wp_imul dX11_image_141 ?_
      refine wp_aload_n dX11_image_142 rfl ?_
      refine wp_getA (by first | rfl | assumption) dX11_image_143 flRX11_40 (by first | rfl | assumption) ?_
      refine wp_iconst 2 dX11_image_146 (by decide) ?_
      refine wp_iload_n dX11_image_147 rfl ?_
      refine wp_imul dX11_image_148 ?_
      refine m_iald dX11_image_149 rfl (by first | exact nI_mul 2 x | exact nI_mad 2 x 1 | rfl) (by omega) (by decide) (by decide) ?_
      refine m_iast dX11_image_150 rfl (by first | exact nI_mul 2 x | exact nI_mad 2 x 1 | rfl) (by omega) (by decide) (by decide) ?_
      refine wp_aload_n dX11_image_151 rfl ?_
      refine wp_getA (by first | rfl | assumption) dX11_image_152 flRX11_131 (by first | rfl | assumption) ?_
      refine wp_iconst 2 dX11_image_155 (by decide) ?_
      refine wp_iload_n dX11_image_156 rfl ?_
      refine wp_imul dX11_image_157 ?_
      refine wp_iconst 1 dX11_image_158 (by decide) ?_
      refine wp_iadd dX11_image_159 ?_
      refine wp_aload_n dX11_image_160 rfl ?_
      refine wp_getA (by first | rfl | assumption) dX11_image_161 flRX11_40 (by first | rfl | assumption) ?_
      refine wp_iconst 2 dX11_image_164 (by decide) ?_
      refine wp_iload_n dX11_image_165 rfl ?_
      refine wp_imul dX11_image_166 ?_
      refine wp_iconst 1 dX11_image_167 (by decide) ?_
      refine wp_iadd dX11_image_168 ?_
      refine m_iald dX11_image_169 rfl (by first | exact nI_mul 2 x | exact nI_mad 2 x 1 | rfl) (by omega) (by decide) (by decide) ?_
      refine m_iast dX11_image_170 rfl (by first | exact nI_mul 2 x | exact nI_mad 2 x 1 | rfl) (by omega) (by decide) (by decide) ?_
      refine wp_aload_n dX11_image_171 rfl ?_
      refine wp_getA (by first | rfl | assumption) dX11_image_172 flRX11_134 (by first | rfl | assumption) ?_
      refine wp_iload_n dX11_image_175 rfl ?_
      refine wp_aload_n dX11_image_176 rfl ?_
      refine wp_getA (by first | rfl | assumption) dX11_image_177 flRX11_43 (by first | rfl | assumption) ?_
      refine wp_iload_n dX11_image_180 rfl ?_
      refine m_iald dX11_image_181 rfl (by first | exact nI_mul 2 x | exact nI_mad 2 x 1 | rfl) (by omega) (by decide) (by decide) ?_
      refine m_iast dX11_image_182 rfl (by first | exact nI_mul 2 x | exact nI_mad 2 x 1 | rfl) (by omega) (by decide) (by decide) ?_
      refine wp_aload_n dX11_image_183 rfl ?_
      refine wp_getA (by first | rfl | assumption) dX11_image_184 flRX11_137 (by first | rfl | assumption) ?_
      refine wp_iload_n dX11_image_187 rfl ?_
      refine wp_aload_n dX11_image_188 rfl ?_
      refine wp_getA (by first | rfl | assumption) dX11_image_189 flRX11_46 (by first | rfl | assumption) ?_
      refine wp_iload_n dX11_image_192 rfl ?_
      refine m_iald dX11_image_193 rfl (by first | exact nI_mul 2 x | exact nI_mad 2 x 1 | rfl) (by omega) (by decide) (by decide) ?_
      refine m_iast dX11_image_194 rfl (by first | exact nI_mul 2 x | exact nI_mad 2 x 1 | rfl) (by omega) (by decide) (by decide) ?_
      refine wp_aload_n dX11_image_195 rfl ?_
      refine wp_getA (by first | rfl | assumption) dX11_image_196 flRX11_140 (by first | rfl | assumption) ?_
      refine wp_iload_n dX11_image_199 rfl ?_
      refine wp_aload_n dX11_image_200 rfl ?_
      refine wp_getA (by first | rfl | assumption) dX11_image_201 flRX11_49 (by first | rfl | assumption) ?_
      refine wp_iload_n dX11_image_204 rfl ?_
      refine m_iald dX11_image_205 rfl (by first | exact nI_mul 2 x | exact nI_mad 2 x 1 | rfl) (by omega) (by decide) (by decide) ?_
      refine m_iast dX11_image_206 rfl (by first | exact nI_mul 2 x | exact nI_mad 2 x 1 | rfl) (by omega) (by decide) (by decide) ?_
      refine wp_aload_n dX11_image_207 rfl ?_
      refine wp_getA (by first | rfl | assumption) dX11_image_208 flRX11_143 (by first | rfl | assumption) ?_
      refine wp_iload_n dX11_image_211 rfl ?_
      refine wp_aload_n dX11_image_212 rfl ?_
      refine wp_getA (by first | rfl | assumption) dX11_image_213 flRX11_52 (by first | rfl | assumption) ?_
      refine wp_iload_n dX11_image_216 rfl ?_
      refine m_iald dX11_image_217 rfl (by first | exact nI_mul 2 x | exact nI_mad 2 x 1 | rfl) (by omega) (by decide) (by decide) ?_
      refine m_iast dX11_image_218 rfl (by first | exact nI_mul 2 x | exact nI_mad 2 x 1 | rfl) (by omega) (by decide) (by decide) ?_
      refine wp_aload_n dX11_image_219 rfl ?_
      refine wp_getA (by first | rfl | assumption) dX11_image_220 flRX11_146 (by first | rfl | assumption) ?_
      refine wp_iload_n dX11_image_223 rfl ?_
      refine wp_aload_n dX11_image_224 rfl ?_
      refine wp_getA (by first | rfl | assumption) dX11_image_225 flRX11_55 (by first | rfl | assumption) ?_
      refine wp_iload_n dX11_image_228 rfl ?_
      refine m_iald dX11_image_229 rfl (by first | exact nI_mul 2 x | exact nI_mad 2 x 1 | rfl) (by omega) (by decide) (by decide) ?_
      refine m_iast dX11_image_230 rfl (by first | exact nI_mul 2 x | exact nI_mad 2 x 1 | rfl) (by omega) (by decide) (by decide) ?_
      refine ic_2_1 (nI (x + 1)) dX11_image_231 (nI_inc x) (by decide) rfl ?_
      refine wp_goto dX11_image_234 ?_
      refine ih _ (by omega) (x + 1) _ rfl (by omega) ⟨fun i hi_q => ?_, fun i hi_q => ?_, fun i hi_q => ?_, fun i hi_q => ?_, fun i hi_q => ?_, fun i hi_q => ?_, fun i hi_q => ?_, fun i hi_q => ?_, fun i hi_q => ?_, fun i hi_q => ?_, fun i hi_q => ?_, fun i hi_q => ?_, fun b n0_q n1_q n2_q n3_q n4_q n5_q n6_q n7_q n8_q n9_q n10_q n11_q => ?_⟩
      · by_cases hix_q : i = x
        · subst hix_q; simp [uI_ap]; rw [fr_q 127 (by decide) (by decide) (by decide) (by decide) (by decide) (by decide) (by decide) (by decide) (by decide) (by decide) (by decide) (by decide)]
        · simp [uI_ap, hix_q]; exact p0_q i (by omega)
      · by_cases hix_q : i = x
        · subst hix_q; simp [uI_ap]; rw [fr_q 130 (by decide) (by decide) (by decide) (by decide) (by decide) (by decide) (by decide) (by decide) (by decide) (by decide) (by decide) (by decide)]
        · simp [uI_ap, hix_q]; exact p1_q i (by omega)
      · by_cases hix_q : i = x
        · subst hix_q; simp [uI_ap]; rw [fr_q 131 (by decide) (by decide) (by decide) (by decide) (by decide) (by decide) (by decide) (by decide) (by decide) (by decide) (by decide) (by decide)]
        · simp [uI_ap, hix_q]; exact p2_q i (by omega)
      · by_cases hix_q : i = x
        · subst hix_q; simp [uI_ap]; rw [fr_q 132 (by decide) (by decide) (by decide) (by decide) (by decide) (by decide) (by decide) (by decide) (by decide) (by decide) (by decide) (by decide)]
        · simp [uI_ap, hix_q]; exact p3_q i (by omega)
      · by_cases hix_q : i = x
        · subst hix_q; simp [uI_ap]; rw [fr_q 133 (by decide) (by decide) (by decide) (by decide) (by decide) (by decide) (by decide) (by decide) (by decide) (by decide) (by decide) (by decide)]
        · simp [uI_ap, hix_q]; exact p4_q i (by omega)
      · by_cases hix_q : i = x
        · subst hix_q; simp [uI_ap]; rw [fr_q 136 (by decide) (by decide) (by decide) (by decide) (by decide) (by decide) (by decide) (by decide) (by decide) (by decide) (by decide) (by decide)]
        · simp [uI_ap, hix_q]; exact p5_q i (by omega)
      · by_cases hix_q : i = x
        · subst hix_q; simp [uI_ap]; rw [fr_q 138 (by decide) (by decide) (by decide) (by decide) (by decide) (by decide) (by decide) (by decide) (by decide) (by decide) (by decide) (by decide)]
        · simp [uI_ap, hix_q]; exact p6_q i (by omega)
      · by_cases hix_q : i = x
        · subst hix_q; simp [uI_ap]; rw [fr_q 139 (by decide) (by decide) (by decide) (by decide) (by decide) (by decide) (by decide) (by decide) (by decide) (by decide) (by decide) (by decide)]
        · simp [uI_ap, hix_q]; exact p7_q i (by omega)
      · by_cases hix_q : i = x
        · subst hix_q; simp [uI_ap]; rw [fr_q 140 (by decide) (by decide) (by decide) (by decide) (by decide) (by decide) (by decide) (by decide) (by decide) (by decide) (by decide) (by decide)]
        · simp [uI_ap, hix_q]; exact p8_q i (by omega)
      · by_cases hix_q : i = x
        · subst hix_q; simp [uI_ap]; rw [fr_q 141 (by decide) (by decide) (by decide) (by decide) (by decide) (by decide) (by decide) (by decide) (by decide) (by decide) (by decide) (by decide)]
        · simp [uI_ap, hix_q]; exact p9_q i (by omega)
      · by_cases hix_q : i = x
        · subst hix_q; simp [uI_ap]; rw [fr_q 142 (by decide) (by decide) (by decide) (by decide) (by decide) (by decide) (by decide) (by decide) (by decide) (by decide) (by decide) (by decide)]
        · simp [uI_ap, hix_q]; exact p10_q i (by omega)
      · by_cases hix_q : i = 2 * x + 1
        · subst hix_q; simp [uI_ap]; rw [fr_q 137 (by decide) (by decide) (by decide) (by decide) (by decide) (by decide) (by decide) (by decide) (by decide) (by decide) (by decide) (by decide)]
        · by_cases hiy_q : i = 2 * x
          · subst hiy_q; simp [uI_ap]; rw [fr_q 137 (by decide) (by decide) (by decide) (by decide) (by decide) (by decide) (by decide) (by decide) (by decide) (by decide) (by decide) (by decide)]
          · simp [uI_ap, hix_q, hiy_q]; exact p11_q i (by omega)
      · funext j; simp [uI_ap, n0_q, n1_q, n2_q, n3_q, n4_q, n5_q, n6_q, n7_q, n8_q, n9_q, n10_q, n11_q]; rw [fr_q b n0_q n1_q n2_q n3_q n4_q n5_q n6_q n7_q n8_q n9_q n10_q n11_q]
set_option maxHeartbeats 4000000 in
theorem l_img2 {I S : Mem} {J : Mel} {Q : Option Value → Mem → Mem → Mel → Prop} (k : ∀ S2 : Mem, ((∀ i, i < 30 → S2 164 i = S 134 i) ∧ (∀ i, i < 30 → S2 165 i = S 135 i) ∧ (∀ b, b ≠ 164 → b ≠ 165 → S2 b = S b)) → W2 mX11_image 1 Q I S2 J 275 [.ref 126, .int (nI 30)] []) : ∀ (x : Nat) (S2 : Mem), (x ≤ 30) → ((∀ i, i < x → S2 164 i = S 134 i) ∧ (∀ i, i < x → S2 165 i = S 135 i) ∧ (∀ b, b ≠ 164 → b ≠ 165 → S2 b = S b)) → W2 mX11_image 1 Q I S2 J 239 [.ref 126, .int (nI x)] [] := by
  intro x S2
  induction hm : 30 - x using Nat.strongRecOn generalizing x S2 with
  | _ c ih =>
    intro hx_q hI_q
    obtain ⟨p0_q, p1_q, fr_q⟩ := id hI_q
    refine wp_iload_n dX11_image_239 rfl ?_
    refine wp_bipush 30 dX11_image_240 (by decide) ?_
    refine wp_icmp_ge dX11_image_242 (fun h242 => ?_) (fun h242 => ?_)
    · skip
      have e_q : x = 30 := by rw [show (30 : Int32) = nI 30 from rfl, nI_leg (by omega) (by omega)] at h242; omega
      subst e_q; exact k S2 hI_q
    · skip
      have hx2_q : x < 30 := by rw [show (30 : Int32) = nI 30 from rfl, nI_leg (by omega) (by omega)] at h242; omega
      refine wp_aload_n dX11_image_245 rfl ?_
      refine wp_getA (by first | rfl | assumption) dX11_image_246 flRX11_122 (by first | rfl | assumption) ?_
      refine wp_iload_n dX11_image_249 rfl ?_
      refine wp_aload_n dX11_image_250 rfl ?_
      refine wp_getA (by first | rfl | assumption) dX11_image_251 flRX11_31 (by first | rfl | assumption) ?_
      refine wp_iload_n dX11_image_254 rfl ?_
      refine m_iald dX11_image_255 rfl (by first | exact nI_mul 2 x | exact nI_mad 2 x 1 | rfl) (by omega) (by decide) (by decide) ?_
      refine m_iast dX11_image_256 rfl (by first | exact nI_mul 2 x | exact nI_mad 2 x 1 | rfl) (by omega) (by decide) (by decide) ?_
      refine wp_aload_n dX11_image_257 rfl ?_
      refine wp_getA (by first | rfl | assumption) dX11_image_258 flRX11_125 (by first | rfl | assumption) ?_
      refine wp_iload_n dX11_image_261 rfl ?_
      refine wp_aload_n dX11_image_262 rfl ?_
      refine wp_getA (by first | rfl | assumption) dX11_image_263 flRX11_34 (by first | rfl | assumption) ?_
      refine wp_iload_n dX11_image_266 rfl ?_
      refine m_iald dX11_image_267 rfl (by first | exact nI_mul 2 x | exact nI_mad 2 x 1 | rfl) (by omega) (by decide) (by decide) ?_
      refine m_iast dX11_image_268 rfl (by first | exact nI_mul 2 x | exact nI_mad 2 x 1 | rfl) (by omega) (by decide) (by decide) ?_
      refine ic_2_1 (nI (x + 1)) dX11_image_269 (nI_inc x) (by decide) rfl ?_
      refine wp_goto dX11_image_272 ?_
      refine ih _ (by omega) (x + 1) _ rfl (by omega) ⟨fun i hi_q => ?_, fun i hi_q => ?_, fun b n0_q n1_q => ?_⟩
      · by_cases hix_q : i = x
        · subst hix_q; simp [uI_ap]; rw [fr_q 134 (by decide) (by decide)]
        · simp [uI_ap, hix_q]; exact p0_q i (by omega)
      · by_cases hix_q : i = x
        · subst hix_q; simp [uI_ap]; rw [fr_q 135 (by decide) (by decide)]
        · simp [uI_ap, hix_q]; exact p1_q i (by omega)
      · funext j; simp [uI_ap, n0_q, n1_q]; rw [fr_q b n0_q n1_q]
set_option maxHeartbeats 4000000 in
theorem l_rst1 {I S : Mem} {J : Mel} {Q : Option Value → Mem → Mem → Mel → Prop} (k : ∀ S2 : Mem, ((∀ i, i < 6 → S2 127 i = S 159 i) ∧ (∀ i, i < 6 → S2 130 i = S 160 i) ∧ (∀ i, i < 6 → S2 131 i = S 161 i) ∧ (∀ i, i < 6 → S2 132 i = S 162 i) ∧ (∀ i, i < 6 → S2 133 i = S 163 i) ∧ (∀ i, i < 6 → S2 136 i = S 166 i) ∧ (∀ i, i < 6 → S2 138 i = S 168 i) ∧ (∀ i, i < 6 → S2 139 i = S 169 i) ∧ (∀ i, i < 6 → S2 140 i = S 170 i) ∧ (∀ i, i < 6 → S2 141 i = S 171 i) ∧ (∀ i, i < 6 → S2 142 i = S 172 i) ∧ (∀ i, i < 2 * 6 → S2 137 i = S 167 i) ∧ (∀ b, b ≠ 127 → b ≠ 130 → b ≠ 131 → b ≠ 132 → b ≠ 133 → b ≠ 136 → b ≠ 138 → b ≠ 139 → b ≠ 140 → b ≠ 141 → b ≠ 142 → b ≠ 137 → S2 b = S b)) → W2 mX11_restore 1 Q I S2 J 235 [.ref 126, .int (nI 6)] []) : ∀ (x : Nat) (S2 : Mem), (x ≤ 6) → ((∀ i, i < x → S2 127 i = S 159 i) ∧ (∀ i, i < x → S2 130 i = S 160 i) ∧ (∀ i, i < x → S2 131 i = S 161 i) ∧ (∀ i, i < x → S2 132 i = S 162 i) ∧ (∀ i, i < x → S2 133 i = S 163 i) ∧ (∀ i, i < x → S2 136 i = S 166 i) ∧ (∀ i, i < x → S2 138 i = S 168 i) ∧ (∀ i, i < x → S2 139 i = S 169 i) ∧ (∀ i, i < x → S2 140 i = S 170 i) ∧ (∀ i, i < x → S2 141 i = S 171 i) ∧ (∀ i, i < x → S2 142 i = S 172 i) ∧ (∀ i, i < 2 * x → S2 137 i = S 167 i) ∧ (∀ b, b ≠ 127 → b ≠ 130 → b ≠ 131 → b ≠ 132 → b ≠ 133 → b ≠ 136 → b ≠ 138 → b ≠ 139 → b ≠ 140 → b ≠ 141 → b ≠ 142 → b ≠ 137 → S2 b = S b)) → W2 mX11_restore 1 Q I S2 J 55 [.ref 126, .int (nI x)] [] := by
  intro x S2
  induction hm : 6 - x using Nat.strongRecOn generalizing x S2 with
  | _ c ih =>
    intro hx_q hI_q
    obtain ⟨p0_q, p1_q, p2_q, p3_q, p4_q, p5_q, p6_q, p7_q, p8_q, p9_q, p10_q, p11_q, fr_q⟩ := id hI_q
    refine wp_iload_n dX11_restore_55 rfl ?_
    refine wp_bipush 6 dX11_restore_56 (by decide) ?_
    refine wp_icmp_ge dX11_restore_58 (fun h58 => ?_) (fun h58 => ?_)
    · skip
      have e_q : x = 6 := by rw [show (6 : Int32) = nI 6 from rfl, nI_leg (by omega) (by omega)] at h58; omega
      subst e_q; exact k S2 hI_q
    · skip
      have hx2_q : x < 6 := by rw [show (6 : Int32) = nI 6 from rfl, nI_leg (by omega) (by omega)] at h58; omega
      refine wp_aload_n dX11_restore_61 rfl ?_
      refine wp_getA (by first | rfl | assumption) dX11_restore_62 flRX11_7 (by first | rfl | assumption) ?_
      refine wp_iload_n dX11_restore_65 rfl ?_
      refine wp_aload_n dX11_restore_66 rfl ?_
      refine wp_getA (by first | rfl | assumption) dX11_restore_67 flRX11_107 (by first | rfl | assumption) ?_
      refine wp_iload_n dX11_restore_70 rfl ?_
      refine m_iald dX11_restore_71 rfl (by first | exact nI_mul 2 x | exact nI_mad 2 x 1 | rfl) (by omega) (by decide) (by decide) ?_
      refine m_iast dX11_restore_72 rfl (by first | exact nI_mul 2 x | exact nI_mad 2 x 1 | rfl) (by omega) (by decide) (by decide) ?_
      refine wp_aload_n dX11_restore_73 rfl ?_
      refine wp_getA (by first | rfl | assumption) dX11_restore_74 flRX11_19 (by first | rfl | assumption) ?_
      refine wp_iload_n dX11_restore_77 rfl ?_
      refine wp_aload_n dX11_restore_78 rfl ?_
      refine wp_getA (by first | rfl | assumption) dX11_restore_79 flRX11_110 (by first | rfl | assumption) ?_
      refine wp_iload_n dX11_restore_82 rfl ?_
      refine m_iald dX11_restore_83 rfl (by first | exact nI_mul 2 x | exact nI_mad 2 x 1 | rfl) (by omega) (by decide) (by decide) ?_
      refine m_iast dX11_restore_84 rfl (by first | exact nI_mul 2 x | exact nI_mad 2 x 1 | rfl) (by omega) (by decide) (by decide) ?_
      refine wp_aload_n dX11_restore_85 rfl ?_
      refine wp_getA (by first | rfl | assumption) dX11_restore_86 flRX11_22 (by first | rfl | assumption) ?_
      refine wp_iload_n dX11_restore_89 rfl ?_
      refine wp_aload_n dX11_restore_90 rfl ?_
      refine wp_getA (by first | rfl | assumption) dX11_restore_91 flRX11_113 (by first | rfl | assumption) ?_
      refine wp_iload_n dX11_restore_94 rfl ?_
      refine m_iald dX11_restore_95 rfl (by first | exact nI_mul 2 x | exact nI_mad 2 x 1 | rfl) (by omega) (by decide) (by decide) ?_
      refine m_iast dX11_restore_96 rfl (by first | exact nI_mul 2 x | exact nI_mad 2 x 1 | rfl) (by omega) (by decide) (by decide) ?_
      refine wp_aload_n dX11_restore_97 rfl ?_
      refine wp_getA (by first | rfl | assumption) dX11_restore_98 flRX11_25 (by first | rfl | assumption) ?_
      refine wp_iload_n dX11_restore_101 rfl ?_
      refine wp_aload_n dX11_restore_102 rfl ?_
      refine wp_getA (by first | rfl | assumption) dX11_restore_103 flRX11_116 (by first | rfl | assumption) ?_
      refine wp_iload_n dX11_restore_106 rfl ?_
      refine m_iald dX11_restore_107 rfl (by first | exact nI_mul 2 x | exact nI_mad 2 x 1 | rfl) (by omega) (by decide) (by decide) ?_
      refine m_iast dX11_restore_108 rfl (by first | exact nI_mul 2 x | exact nI_mad 2 x 1 | rfl) (by omega) (by decide) (by decide) ?_
      refine wp_aload_n dX11_restore_109 rfl ?_
      refine wp_getA (by first | rfl | assumption) dX11_restore_110 flRX11_28 (by first | rfl | assumption) ?_
      refine wp_iload_n dX11_restore_113 rfl ?_
      refine wp_aload_n dX11_restore_114 rfl ?_
      refine wp_getA (by first | rfl | assumption) dX11_restore_115 flRX11_119 (by first | rfl | assumption) ?_
      refine wp_iload_n dX11_restore_118 rfl ?_
      refine m_iald dX11_restore_119 rfl (by first | exact nI_mul 2 x | exact nI_mad 2 x 1 | rfl) (by omega) (by decide) (by decide) ?_
      refine m_iast dX11_restore_120 rfl (by first | exact nI_mul 2 x | exact nI_mad 2 x 1 | rfl) (by omega) (by decide) (by decide) ?_
      refine wp_aload_n dX11_restore_121 rfl ?_
      refine wp_getA (by first | rfl | assumption) dX11_restore_122 flRX11_37 (by first | rfl | assumption) ?_
      refine wp_iload_n dX11_restore_125 rfl ?_
      refine wp_aload_n dX11_restore_126 rfl ?_
      refine wp_getA (by first | rfl | assumption) dX11_restore_127 flRX11_128 (by first | rfl | assumption) ?_
      refine wp_iload_n dX11_restore_130 rfl ?_
      refine m_iald dX11_restore_131 rfl (by first | exact nI_mul 2 x | exact nI_mad 2 x 1 | rfl) (by omega) (by decide) (by decide) ?_
      refine m_iast dX11_restore_132 rfl (by first | exact nI_mul 2 x | exact nI_mad 2 x 1 | rfl) (by omega) (by decide) (by decide) ?_
      refine wp_aload_n dX11_restore_133 rfl ?_
      refine wp_getA (by first | rfl | assumption) dX11_restore_134 flRX11_40 (by first | rfl | assumption) ?_
      refine wp_iconst 2 dX11_restore_137 (by decide) ?_
      refine wp_iload_n dX11_restore_138 rfl ?_
      refine wp_imul dX11_restore_139 ?_
      refine wp_aload_n dX11_restore_140 rfl ?_
      refine wp_getA (by first | rfl | assumption) dX11_restore_141 flRX11_131 (by first | rfl | assumption) ?_
      refine wp_iconst 2 dX11_restore_144 (by decide) ?_
      refine wp_iload_n dX11_restore_145 rfl ?_
      refine wp_imul dX11_restore_146 ?_
      refine m_iald dX11_restore_147 rfl (by first | exact nI_mul 2 x | exact nI_mad 2 x 1 | rfl) (by omega) (by decide) (by decide) ?_
      refine m_iast dX11_restore_148 rfl (by first | exact nI_mul 2 x | exact nI_mad 2 x 1 | rfl) (by omega) (by decide) (by decide) ?_
      refine wp_aload_n dX11_restore_149 rfl ?_
      refine wp_getA (by first | rfl | assumption) dX11_restore_150 flRX11_40 (by first | rfl | assumption) ?_
      refine wp_iconst 2 dX11_restore_153 (by decide) ?_
      refine wp_iload_n dX11_restore_154 rfl ?_
      refine wp_imul dX11_restore_155 ?_
      refine wp_iconst 1 dX11_restore_156 (by decide) ?_
      refine wp_iadd dX11_restore_157 ?_
      refine wp_aload_n dX11_restore_158 rfl ?_
      refine wp_getA (by first | rfl | assumption) dX11_restore_159 flRX11_131 (by first | rfl | assumption) ?_
      refine wp_iconst 2 dX11_restore_162 (by decide) ?_
      refine wp_iload_n dX11_restore_163 rfl ?_
      refine wp_imul dX11_restore_164 ?_
      refine wp_iconst 1 dX11_restore_165 (by decide) ?_
      refine wp_iadd dX11_restore_166 ?_
      refine m_iald dX11_restore_167 rfl (by first | exact nI_mul 2 x | exact nI_mad 2 x 1 | rfl) (by omega) (by decide) (by decide) ?_
      refine m_iast dX11_restore_168 rfl (by first | exact nI_mul 2 x | exact nI_mad 2 x 1 | rfl) (by omega) (by decide) (by decide) ?_
      refine wp_aload_n dX11_restore_169 rfl ?_
      refine wp_getA (by first | rfl | assumption) dX11_restore_170 flRX11_43 (by first | rfl | assumption) ?_
      refine wp_iload_n dX11_restore_173 rfl ?_
      refine wp_aload_n dX11_restore_174 rfl ?_
      refine wp_getA (by first | rfl | assumption) dX11_restore_175 flRX11_134 (by first | rfl | assumption) ?_
      refine wp_iload_n dX11_restore_178 rfl ?_
      refine m_iald dX11_restore_179 rfl (by first | exact nI_mul 2 x | exact nI_mad 2 x 1 | rfl) (by omega) (by decide) (by decide) ?_
      refine m_iast dX11_restore_180 rfl (by first | exact nI_mul 2 x | exact nI_mad 2 x 1 | rfl) (by omega) (by decide) (by decide) ?_
      refine wp_aload_n dX11_restore_181 rfl ?_
      refine wp_getA (by first | rfl | assumption) dX11_restore_182 flRX11_46 (by first | rfl | assumption) ?_
      refine wp_iload_n dX11_restore_185 rfl ?_
      refine wp_aload_n dX11_restore_186 rfl ?_
      refine wp_getA (by first | rfl | assumption) dX11_restore_187 flRX11_137 (by first | rfl | assumption) ?_
      refine wp_iload_n dX11_restore_190 rfl ?_
      refine m_iald dX11_restore_191 rfl (by first | exact nI_mul 2 x | exact nI_mad 2 x 1 | rfl) (by omega) (by decide) (by decide) ?_
      refine m_iast dX11_restore_192 rfl (by first | exact nI_mul 2 x | exact nI_mad 2 x 1 | rfl) (by omega) (by decide) (by decide) ?_
      refine wp_aload_n dX11_restore_193 rfl ?_
      refine wp_getA (by first | rfl | assumption) dX11_restore_194 flRX11_49 (by first | rfl | assumption) ?_
      refine wp_iload_n dX11_restore_197 rfl ?_
      refine wp_aload_n dX11_restore_198 rfl ?_
      refine wp_getA (by first | rfl | assumption) dX11_restore_199 flRX11_140 (by first | rfl | assumption) ?_
      refine wp_iload_n dX11_restore_202 rfl ?_
      refine m_iald dX11_restore_203 rfl (by first | exact nI_mul 2 x | exact nI_mad 2 x 1 | rfl) (by omega) (by decide) (by decide) ?_
      refine m_iast dX11_restore_204 rfl (by first | exact nI_mul 2 x | exact nI_mad 2 x 1 | rfl) (by omega) (by decide) (by decide) ?_
      refine wp_aload_n dX11_restore_205 rfl ?_
      refine wp_getA (by first | rfl | assumption) dX11_restore_206 flRX11_52 (by first | rfl | assumption) ?_
      refine wp_iload_n dX11_restore_209 rfl ?_
      refine wp_aload_n dX11_restore_210 rfl ?_
      refine wp_getA (by first | rfl | assumption) dX11_restore_211 flRX11_143 (by first | rfl | assumption) ?_
      refine wp_iload_n dX11_restore_214 rfl ?_
      refine m_iald dX11_restore_215 rfl (by first | exact nI_mul 2 x | exact nI_mad 2 x 1 | rfl) (by omega) (by decide) (by decide) ?_
      refine m_iast dX11_restore_216 rfl (by first | exact nI_mul 2 x | exact nI_mad 2 x 1 | rfl) (by omega) (by decide) (by decide) ?_
      refine wp_aload_n dX11_restore_217 rfl ?_
      refine wp_getA (by first | rfl | assumption) dX11_restore_218 flRX11_55 (by first | rfl | assumption) ?_
      refine wp_iload_n dX11_restore_221 rfl ?_
      refine wp_aload_n dX11_restore_222 rfl ?_
      refine wp_getA (by first | rfl | assumption) dX11_restore_223 flRX11_146 (by first | rfl | assumption) ?_
      refine wp_iload_n dX11_restore_226 rfl ?_
      refine m_iald dX11_restore_227 rfl (by first | exact nI_mul 2 x | exact nI_mad 2 x 1 | rfl) (by omega) (by decide) (by decide) ?_
      refine m_iast dX11_restore_228 rfl (by first | exact nI_mul 2 x | exact nI_mad 2 x 1 | rfl) (by omega) (by decide) (by decide) ?_
      refine ic_2_1 (nI (x + 1)) dX11_restore_229 (nI_inc x) (by decide) rfl ?_
      refine wp_goto dX11_restore_232 ?_
      refine ih _ (by omega) (x + 1) _ rfl (by omega) ⟨fun i hi_q => ?_, fun i hi_q => ?_, fun i hi_q => ?_, fun i hi_q => ?_, fun i hi_q => ?_, fun i hi_q => ?_, fun i hi_q => ?_, fun i hi_q => ?_, fun i hi_q => ?_, fun i hi_q => ?_, fun i hi_q => ?_, fun i hi_q => ?_, fun b n0_q n1_q n2_q n3_q n4_q n5_q n6_q n7_q n8_q n9_q n10_q n11_q => ?_⟩
      · by_cases hix_q : i = x
        · subst hix_q; simp [uI_ap]; rw [fr_q 159 (by decide) (by decide) (by decide) (by decide) (by decide) (by decide) (by decide) (by decide) (by decide) (by decide) (by decide) (by decide)]
        · simp [uI_ap, hix_q]; exact p0_q i (by omega)
      · by_cases hix_q : i = x
        · subst hix_q; simp [uI_ap]; rw [fr_q 160 (by decide) (by decide) (by decide) (by decide) (by decide) (by decide) (by decide) (by decide) (by decide) (by decide) (by decide) (by decide)]
        · simp [uI_ap, hix_q]; exact p1_q i (by omega)
      · by_cases hix_q : i = x
        · subst hix_q; simp [uI_ap]; rw [fr_q 161 (by decide) (by decide) (by decide) (by decide) (by decide) (by decide) (by decide) (by decide) (by decide) (by decide) (by decide) (by decide)]
        · simp [uI_ap, hix_q]; exact p2_q i (by omega)
      · by_cases hix_q : i = x
        · subst hix_q; simp [uI_ap]; rw [fr_q 162 (by decide) (by decide) (by decide) (by decide) (by decide) (by decide) (by decide) (by decide) (by decide) (by decide) (by decide) (by decide)]
        · simp [uI_ap, hix_q]; exact p3_q i (by omega)
      · by_cases hix_q : i = x
        · subst hix_q; simp [uI_ap]; rw [fr_q 163 (by decide) (by decide) (by decide) (by decide) (by decide) (by decide) (by decide) (by decide) (by decide) (by decide) (by decide) (by decide)]
        · simp [uI_ap, hix_q]; exact p4_q i (by omega)
      · by_cases hix_q : i = x
        · subst hix_q; simp [uI_ap]; rw [fr_q 166 (by decide) (by decide) (by decide) (by decide) (by decide) (by decide) (by decide) (by decide) (by decide) (by decide) (by decide) (by decide)]
        · simp [uI_ap, hix_q]; exact p5_q i (by omega)
      · by_cases hix_q : i = x
        · subst hix_q; simp [uI_ap]; rw [fr_q 168 (by decide) (by decide) (by decide) (by decide) (by decide) (by decide) (by decide) (by decide) (by decide) (by decide) (by decide) (by decide)]
        · simp [uI_ap, hix_q]; exact p6_q i (by omega)
      · by_cases hix_q : i = x
        · subst hix_q; simp [uI_ap]; rw [fr_q 169 (by decide) (by decide) (by decide) (by decide) (by decide) (by decide) (by decide) (by decide) (by decide) (by decide) (by decide) (by decide)]
        · simp [uI_ap, hix_q]; exact p7_q i (by omega)
      · by_cases hix_q : i = x
        · subst hix_q; simp [uI_ap]; rw [fr_q 170 (by decide) (by decide) (by decide) (by decide) (by decide) (by decide) (by decide) (by decide) (by decide) (by decide) (by decide) (by decide)]
        · simp [uI_ap, hix_q]; exact p8_q i (by omega)
      · by_cases hix_q : i = x
        · subst hix_q; simp [uI_ap]; rw [fr_q 171 (by decide) (by decide) (by decide) (by decide) (by decide) (by decide) (by decide) (by decide) (by decide) (by decide) (by decide) (by decide)]
        · simp [uI_ap, hix_q]; exact p9_q i (by omega)
      · by_cases hix_q : i = x
        · subst hix_q; simp [uI_ap]; rw [fr_q 172 (by decide) (by decide) (by decide) (by decide) (by decide) (by decide) (by decide) (by decide) (by decide) (by decide) (by decide) (by decide)]
        · simp [uI_ap, hix_q]; exact p10_q i (by omega)
      · by_cases hix_q : i = 2 * x + 1
        · subst hix_q; simp [uI_ap]; rw [fr_q 167 (by decide) (by decide) (by decide) (by decide) (by decide) (by decide) (by decide) (by decide) (by decide) (by decide) (by decide) (by decide)]
        · by_cases hiy_q : i = 2 * x
          · subst hiy_q; simp [uI_ap]; rw [fr_q 167 (by decide) (by decide) (by decide) (by decide) (by decide) (by decide) (by decide) (by decide) (by decide) (by decide) (by decide) (by decide)]
          · simp [uI_ap, hix_q, hiy_q]; exact p11_q i (by omega)
      · funext j; simp [uI_ap, n0_q, n1_q, n2_q, n3_q, n4_q, n5_q, n6_q, n7_q, n8_q, n9_q, n10_q, n11_q]; rw [fr_q b n0_q n1_q n2_q n3_q n4_q n5_q n6_q n7_q n8_q n9_q n10_q n11_q]
set_option maxHeartbeats 4000000 in
theorem l_rst2 {I S : Mem} {J : Mel} {Q : Option Value → Mem → Mem → Mel → Prop} (k : ∀ S2 : Mem, ((∀ i, i < 30 → S2 134 i = S 164 i) ∧ (∀ i, i < 30 → S2 135 i = S 165 i) ∧ (∀ b, b ≠ 134 → b ≠ 135 → S2 b = S b)) → W2 mX11_restore 1 Q I S2 J 273 [.ref 126, .int (nI 30)] []) : ∀ (x : Nat) (S2 : Mem), (x ≤ 30) → ((∀ i, i < x → S2 134 i = S 164 i) ∧ (∀ i, i < x → S2 135 i = S 165 i) ∧ (∀ b, b ≠ 134 → b ≠ 135 → S2 b = S b)) → W2 mX11_restore 1 Q I S2 J 237 [.ref 126, .int (nI x)] [] := by
  intro x S2
  induction hm : 30 - x using Nat.strongRecOn generalizing x S2 with
  | _ c ih =>
    intro hx_q hI_q
    obtain ⟨p0_q, p1_q, fr_q⟩ := id hI_q
    refine wp_iload_n dX11_restore_237 rfl ?_
    refine wp_bipush 30 dX11_restore_238 (by decide) ?_
    refine wp_icmp_ge dX11_restore_240 (fun h240 => ?_) (fun h240 => ?_)
    · skip
      have e_q : x = 30 := by rw [show (30 : Int32) = nI 30 from rfl, nI_leg (by omega) (by omega)] at h240; omega
      subst e_q; exact k S2 hI_q
    · skip
      have hx2_q : x < 30 := by rw [show (30 : Int32) = nI 30 from rfl, nI_leg (by omega) (by omega)] at h240; omega
      refine wp_aload_n dX11_restore_243 rfl ?_
      refine wp_getA (by first | rfl | assumption) dX11_restore_244 flRX11_31 (by first | rfl | assumption) ?_
      refine wp_iload_n dX11_restore_247 rfl ?_
      refine wp_aload_n dX11_restore_248 rfl ?_
      refine wp_getA (by first | rfl | assumption) dX11_restore_249 flRX11_122 (by first | rfl | assumption) ?_
      refine wp_iload_n dX11_restore_252 rfl ?_
      refine m_iald dX11_restore_253 rfl (by first | exact nI_mul 2 x | exact nI_mad 2 x 1 | rfl) (by omega) (by decide) (by decide) ?_
      refine m_iast dX11_restore_254 rfl (by first | exact nI_mul 2 x | exact nI_mad 2 x 1 | rfl) (by omega) (by decide) (by decide) ?_
      refine wp_aload_n dX11_restore_255 rfl ?_
      refine wp_getA (by first | rfl | assumption) dX11_restore_256 flRX11_34 (by first | rfl | assumption) ?_
      refine wp_iload_n dX11_restore_259 rfl ?_
      refine wp_aload_n dX11_restore_260 rfl ?_
      refine wp_getA (by first | rfl | assumption) dX11_restore_261 flRX11_125 (by first | rfl | assumption) ?_
      refine wp_iload_n dX11_restore_264 rfl ?_
      refine m_iald dX11_restore_265 rfl (by first | exact nI_mul 2 x | exact nI_mad 2 x 1 | rfl) (by omega) (by decide) (by decide) ?_
      refine m_iast dX11_restore_266 rfl (by first | exact nI_mul 2 x | exact nI_mad 2 x 1 | rfl) (by omega) (by decide) (by decide) ?_
      refine ic_2_1 (nI (x + 1)) dX11_restore_267 (nI_inc x) (by decide) rfl ?_
      refine wp_goto dX11_restore_270 ?_
      refine ih _ (by omega) (x + 1) _ rfl (by omega) ⟨fun i hi_q => ?_, fun i hi_q => ?_, fun b n0_q n1_q => ?_⟩
      · by_cases hix_q : i = x
        · subst hix_q; simp [uI_ap]; rw [fr_q 164 (by decide) (by decide)]
        · simp [uI_ap, hix_q]; exact p0_q i (by omega)
      · by_cases hix_q : i = x
        · subst hix_q; simp [uI_ap]; rw [fr_q 165 (by decide) (by decide)]
        · simp [uI_ap, hix_q]; exact p1_q i (by omega)
      · funext j; simp [uI_ap, n0_q, n1_q]; rw [fr_q b n0_q n1_q]
