def layR (S S' : Mem) : Prop := (∀ i, i < 6 → S' 150 i = S 130 i ∧ S' 151 i = S 131 i ∧ S' 152 i = S 132 i ∧ S' 153 i = S 133 i ∧ S' 156 i = S 136 i) ∧ (∀ i, i < 12 → S' 157 i = S 137 i) ∧ (∀ i, i < 30 → S' 154 i = S 134 i ∧ S' 155 i = S 135 i) ∧ S' 126 40 = S 126 16 ∧ S' 126 41 = S 126 17 ∧ (∀ b, b ≠ 126 → (b < 150 ∨ 157 < b) → S' b = S b) ∧ (∀ j, j ≠ 40 → j ≠ 41 → S' 126 j = S 126 j)
def lbkR (S S' : Mem) : Prop := (∀ i, i < 6 → S' 130 i = S 150 i ∧ S' 131 i = S 151 i ∧ S' 132 i = S 152 i ∧ S' 133 i = S 153 i ∧ S' 136 i = S 156 i) ∧ (∀ i, i < 12 → S' 137 i = S 157 i) ∧ (∀ i, i < 30 → S' 134 i = S 154 i ∧ S' 135 i = S 155 i) ∧ S' 126 16 = S 126 40 ∧ S' 126 17 = S 126 41 ∧ (∀ b, b ≠ 126 → (b < 130 ∨ 137 < b) → S' b = S b) ∧ (∀ j, j ≠ 16 → j ≠ 17 → S' 126 j = S 126 j)
def imgR (S S' : Mem) : Prop := (∀ i, i < 6 → S' 159 i = S 127 i ∧ S' 160 i = S 130 i ∧ S' 161 i = S 131 i ∧ S' 162 i = S 132 i ∧ S' 163 i = S 133 i ∧ S' 166 i = S 136 i ∧ S' 168 i = S 138 i ∧ S' 169 i = S 139 i ∧ S' 170 i = S 140 i ∧ S' 171 i = S 141 i ∧ S' 172 i = S 142 i) ∧ (∀ i, i < 12 → S' 167 i = S 137 i) ∧ (∀ i, i < 30 → S' 164 i = S 134 i ∧ S' 165 i = S 135 i) ∧ S' 126 52 = 1 ∧ S' 126 53 = S 126 0 ∧ S' 126 54 = S 126 16 ∧ S' 126 55 = S 126 17 ∧ S' 126 56 = S 126 13 ∧ S' 126 57 = S 126 19 ∧ (∀ b, b ≠ 126 → (b < 159) → S' b = S b) ∧ (∀ j, j ≠ 52 → j ≠ 53 → j ≠ 54 → j ≠ 55 → j ≠ 56 → j ≠ 57 → S' 126 j = S 126 j)
def rstR (S S' : Mem) : Prop := (∀ i, i < 6 → S' 127 i = S 159 i ∧ S' 130 i = S 160 i ∧ S' 131 i = S 161 i ∧ S' 132 i = S 162 i ∧ S' 133 i = S 163 i ∧ S' 136 i = S 166 i ∧ S' 138 i = S 168 i ∧ S' 139 i = S 169 i ∧ S' 140 i = S 170 i ∧ S' 141 i = S 171 i ∧ S' 142 i = S 172 i) ∧ (∀ i, i < 12 → S' 137 i = S 167 i) ∧ (∀ i, i < 30 → S' 134 i = S 164 i ∧ S' 135 i = S 165 i) ∧ S' 126 16 = S 126 54 ∧ S' 126 17 = S 126 55 ∧ S' 126 13 = S 126 56 ∧ S' 126 19 = S 126 57 ∧ (∀ b, b ≠ 126 → (b = 128 ∨ b = 129 ∨ 143 ≤ b) → S' b = S b) ∧ (∀ j, j ≠ 16 → j ≠ 17 → j ≠ 13 → j ≠ 19 → S' 126 j = S 126 j)
set_option maxHeartbeats 4000000 in
theorem c_lay {I S : Mem} {J : Mel} {Q : Option Value → Mem → Mem → Mel → Prop} (k : ∀ S', layR S S' → Q none I S' J) : M2 mX11_lay 1 [.ref 126] I S J Q := by
  refine m2_of [.ref 126, dum] moX11_lay (Nat.le_of_ble_eq_true rfl) rfl ?_
  refine wp_aload_n dX11_lay_0 rfl ?_
  refine wp_aload_n dX11_lay_1 rfl ?_
  refine m_getI dX11_lay_2 flRX11_224 (by first | rfl | assumption) (by decide) ?_
  refine m_putI dX11_lay_5 flRX11_308 (by first | rfl | assumption) (by decide) ?_
  refine wp_aload_n dX11_lay_8 rfl ?_
  refine wp_aload_n dX11_lay_9 rfl ?_
  refine m_getI dX11_lay_10 flRX11_227 (by first | rfl | assumption) (by decide) ?_
  refine m_putI dX11_lay_13 flRX11_311 (by first | rfl | assumption) (by decide) ?_
  refine wp_iconst 0 dX11_lay_16 (by decide) ?_
  refine st_i_2_1 dX11_lay_17 (by decide) rfl ?_
  refine l_lay1 (fun S2 h2_q => ?_) 0 _ (by omega) ⟨fun i hi_q => by omega, fun i hi_q => by omega, fun i hi_q => by omega, fun i hi_q => by omega, fun i hi_q => by omega, fun i hi_q => by omega, fun b _ _ _ _ _ _ => rfl⟩
  refine wp_iconst 0 dX11_lay_126 (by decide) ?_
  refine st_i_2_1 dX11_lay_127 (by decide) rfl ?_
  refine l_lay2 (S := S2) (fun S3 h3_q => ?_) 0 S2 (by omega) ⟨fun i hi_q => by omega, fun i hi_q => by omega, fun b _ _ => rfl⟩
  refine g_vret dX11_lay_164 rfl ?_
  obtain ⟨a0_q, a1_q, a2_q, a3_q, a4_q, a5_q, af_q⟩ := h2_q
  obtain ⟨b0_q, b1_q, bf_q⟩ := h3_q
  have hrel_q : layR S S3 := by
    refine ⟨fun i hi_q => ⟨?_, ?_, ?_, ?_, ?_⟩, fun i hi_q => ?_, fun i hi_q => ⟨?_, ?_⟩, ?_, ?_, fun b hb_q hc_q => ?_, fun j j0_q j1_q => ?_⟩
    · rw [bf_q 150 (by decide) (by decide), a0_q i (by omega)]; simp [uI_ap]
    · rw [bf_q 151 (by decide) (by decide), a1_q i (by omega)]; simp [uI_ap]
    · rw [bf_q 152 (by decide) (by decide), a2_q i (by omega)]; simp [uI_ap]
    · rw [bf_q 153 (by decide) (by decide), a3_q i (by omega)]; simp [uI_ap]
    · rw [bf_q 156 (by decide) (by decide), a4_q i (by omega)]; simp [uI_ap]
    · rw [bf_q 157 (by decide) (by decide), a5_q i (by omega)]; simp [uI_ap]
    · rw [b0_q i (by omega), af_q 134 (by decide) (by decide) (by decide) (by decide) (by decide) (by decide)]; simp [uI_ap]
    · rw [b1_q i (by omega), af_q 135 (by decide) (by decide) (by decide) (by decide) (by decide) (by decide)]; simp [uI_ap]
    · rw [bf_q 126 (by decide) (by decide), af_q 126 (by decide) (by decide) (by decide) (by decide) (by decide) (by decide)]; simp [uI_ap]
    · rw [bf_q 126 (by decide) (by decide), af_q 126 (by decide) (by decide) (by decide) (by decide) (by decide) (by decide)]; simp [uI_ap]
    · rw [bf_q b (by omega) (by omega), af_q b (by omega) (by omega) (by omega) (by omega) (by omega) (by omega)]; funext j; simp [uI_ap, hb_q]
    · rw [bf_q 126 (by decide) (by decide), af_q 126 (by decide) (by decide) (by decide) (by decide) (by decide) (by decide)]; simp [uI_ap, j0_q, j1_q]
  exact k S3 hrel_q
set_option maxHeartbeats 4000000 in
theorem c_layBack {I S : Mem} {J : Mel} {Q : Option Value → Mem → Mem → Mel → Prop} (k : ∀ S', lbkR S S' → Q none I S' J) : M2 mX11_layBack 1 [.ref 126] I S J Q := by
  refine m2_of [.ref 126, dum] moX11_layBack (Nat.le_of_ble_eq_true rfl) rfl ?_
  refine wp_aload_n dX11_layBack_0 rfl ?_
  refine wp_aload_n dX11_layBack_1 rfl ?_
  refine m_getI dX11_layBack_2 flRX11_308 (by first | rfl | assumption) (by decide) ?_
  refine m_putI dX11_layBack_5 flRX11_224 (by first | rfl | assumption) (by decide) ?_
  refine wp_aload_n dX11_layBack_8 rfl ?_
  refine wp_aload_n dX11_layBack_9 rfl ?_
  refine m_getI dX11_layBack_10 flRX11_311 (by first | rfl | assumption) (by decide) ?_
  refine m_putI dX11_layBack_13 flRX11_227 (by first | rfl | assumption) (by decide) ?_
  refine wp_iconst 0 dX11_layBack_16 (by decide) ?_
  refine st_i_2_1 dX11_layBack_17 (by decide) rfl ?_
  refine l_layB1 (fun S2 h2_q => ?_) 0 _ (by omega) ⟨fun i hi_q => by omega, fun i hi_q => by omega, fun i hi_q => by omega, fun i hi_q => by omega, fun i hi_q => by omega, fun i hi_q => by omega, fun b _ _ _ _ _ _ => rfl⟩
  refine wp_iconst 0 dX11_layBack_126 (by decide) ?_
  refine st_i_2_1 dX11_layBack_127 (by decide) rfl ?_
  refine l_layB2 (S := S2) (fun S3 h3_q => ?_) 0 S2 (by omega) ⟨fun i hi_q => by omega, fun i hi_q => by omega, fun b _ _ => rfl⟩
  refine g_vret dX11_layBack_164 rfl ?_
  obtain ⟨a0_q, a1_q, a2_q, a3_q, a4_q, a5_q, af_q⟩ := h2_q
  obtain ⟨b0_q, b1_q, bf_q⟩ := h3_q
  have hrel_q : lbkR S S3 := by
    refine ⟨fun i hi_q => ⟨?_, ?_, ?_, ?_, ?_⟩, fun i hi_q => ?_, fun i hi_q => ⟨?_, ?_⟩, ?_, ?_, fun b hb_q hc_q => ?_, fun j j0_q j1_q => ?_⟩
    · rw [bf_q 130 (by decide) (by decide), a0_q i (by omega)]; simp [uI_ap]
    · rw [bf_q 131 (by decide) (by decide), a1_q i (by omega)]; simp [uI_ap]
    · rw [bf_q 132 (by decide) (by decide), a2_q i (by omega)]; simp [uI_ap]
    · rw [bf_q 133 (by decide) (by decide), a3_q i (by omega)]; simp [uI_ap]
    · rw [bf_q 136 (by decide) (by decide), a4_q i (by omega)]; simp [uI_ap]
    · rw [bf_q 137 (by decide) (by decide), a5_q i (by omega)]; simp [uI_ap]
    · rw [b0_q i (by omega), af_q 154 (by decide) (by decide) (by decide) (by decide) (by decide) (by decide)]; simp [uI_ap]
    · rw [b1_q i (by omega), af_q 155 (by decide) (by decide) (by decide) (by decide) (by decide) (by decide)]; simp [uI_ap]
    · rw [bf_q 126 (by decide) (by decide), af_q 126 (by decide) (by decide) (by decide) (by decide) (by decide) (by decide)]; simp [uI_ap]
    · rw [bf_q 126 (by decide) (by decide), af_q 126 (by decide) (by decide) (by decide) (by decide) (by decide) (by decide)]; simp [uI_ap]
    · rw [bf_q b (by omega) (by omega), af_q b (by omega) (by omega) (by omega) (by omega) (by omega) (by omega)]; funext j; simp [uI_ap, hb_q]
    · rw [bf_q 126 (by decide) (by decide), af_q 126 (by decide) (by decide) (by decide) (by decide) (by decide) (by decide)]; simp [uI_ap, j0_q, j1_q]
  exact k S3 hrel_q
set_option maxHeartbeats 4000000 in
theorem c_image {I S : Mem} {J : Mel} {Q : Option Value → Mem → Mem → Mel → Prop} (k1_q : S 126 1 = 0 → Q (some (.int (-103))) I S J) (k : ¬ S 126 1 = 0 → ∀ S', imgR S S' → Q (some (.int (S 126 16))) I S' J) : M2 mX11_image 1 [.ref 126] I S J Q := by
  refine m2_of [.ref 126, dum] moX11_image (Nat.le_of_ble_eq_true rfl) rfl ?_
  refine wp_aload_n dX11_image_0 rfl ?_
  refine m_getI dX11_image_1 flRX11_212 (by first | rfl | assumption) (by decide) ?_
  refine wp_if_ne dX11_image_4 (fun h4 => ?_) (fun h4 => ?_)
  · skip
    refine wp_aload_n dX11_image_10 rfl ?_
    refine wp_iconst 1 dX11_image_11 (by decide) ?_
    refine m_putZ dX11_image_12 flRX11_364 (by first | rfl | assumption) (by first | decide | assumption) (by decide) ?_
    refine wp_aload_n dX11_image_15 rfl ?_
    refine wp_aload_n dX11_image_16 rfl ?_
    refine m_getI dX11_image_17 flRX11_230 (by first | rfl | assumption) (by decide) ?_
    refine m_putI dX11_image_20 flRX11_367 (by first | rfl | assumption) (by decide) ?_
    refine wp_aload_n dX11_image_23 rfl ?_
    refine wp_aload_n dX11_image_24 rfl ?_
    refine m_getI dX11_image_25 flRX11_224 (by first | rfl | assumption) (by decide) ?_
    refine m_putI dX11_image_28 flRX11_370 (by first | rfl | assumption) (by decide) ?_
    refine wp_aload_n dX11_image_31 rfl ?_
    refine wp_aload_n dX11_image_32 rfl ?_
    refine m_getI dX11_image_33 flRX11_227 (by first | rfl | assumption) (by decide) ?_
    refine m_putI dX11_image_36 flRX11_373 (by first | rfl | assumption) (by decide) ?_
    refine wp_aload_n dX11_image_39 rfl ?_
    refine wp_aload_n dX11_image_40 rfl ?_
    refine m_getI dX11_image_41 flRX11_221 (by first | rfl | assumption) (by decide) ?_
    refine m_putI dX11_image_44 flRX11_376 (by first | rfl | assumption) (by decide) ?_
    refine wp_aload_n dX11_image_47 rfl ?_
    refine wp_aload_n dX11_image_48 rfl ?_
    refine m_getI dX11_image_49 flRX11_233 (by first | rfl | assumption) (by decide) ?_
    refine m_putI dX11_image_52 flRX11_379 (by first | rfl | assumption) (by decide) ?_
    refine wp_iconst 0 dX11_image_55 (by decide) ?_
    refine st_i_2_1 dX11_image_56 (by decide) rfl ?_
    refine l_img1 (fun S2 h2_q => ?_) 0 _ (by omega) ⟨fun i hi_q => by omega, fun i hi_q => by omega, fun i hi_q => by omega, fun i hi_q => by omega, fun i hi_q => by omega, fun i hi_q => by omega, fun i hi_q => by omega, fun i hi_q => by omega, fun i hi_q => by omega, fun i hi_q => by omega, fun i hi_q => by omega, fun i hi_q => by omega, fun b _ _ _ _ _ _ _ _ _ _ _ _ => rfl⟩
    refine wp_iconst 0 dX11_image_237 (by decide) ?_
    refine st_i_2_1 dX11_image_238 (by decide) rfl ?_
    refine l_img2 (S := S2) (fun S3 h3_q => ?_) 0 S2 (by omega) ⟨fun i hi_q => by omega, fun i hi_q => by omega, fun b _ _ => rfl⟩
    refine wp_aload_n dX11_image_275 rfl ?_
    refine m_getI dX11_image_276 flRX11_224 (by first | rfl | assumption) (by decide) ?_
    refine g_iret dX11_image_279 rfl ?_
    obtain ⟨a0_q, a1_q, a2_q, a3_q, a4_q, a5_q, a6_q, a7_q, a8_q, a9_q, a10_q, a11_q, af_q⟩ := h2_q
    obtain ⟨b0_q, b1_q, bf_q⟩ := h3_q
    have hrel_q : imgR S S3 := by
      refine ⟨fun i hi_q => ⟨?_, ?_, ?_, ?_, ?_, ?_, ?_, ?_, ?_, ?_, ?_⟩, fun i hi_q => ?_, fun i hi_q => ⟨?_, ?_⟩, ?_, ?_, ?_, ?_, ?_, ?_, fun b hb_q hc_q => ?_, fun j j0_q j1_q j2_q j3_q j4_q j5_q => ?_⟩
      · rw [bf_q 159 (by decide) (by decide), a0_q i (by omega)]; simp [uI_ap]
      · rw [bf_q 160 (by decide) (by decide), a1_q i (by omega)]; simp [uI_ap]
      · rw [bf_q 161 (by decide) (by decide), a2_q i (by omega)]; simp [uI_ap]
      · rw [bf_q 162 (by decide) (by decide), a3_q i (by omega)]; simp [uI_ap]
      · rw [bf_q 163 (by decide) (by decide), a4_q i (by omega)]; simp [uI_ap]
      · rw [bf_q 166 (by decide) (by decide), a5_q i (by omega)]; simp [uI_ap]
      · rw [bf_q 168 (by decide) (by decide), a6_q i (by omega)]; simp [uI_ap]
      · rw [bf_q 169 (by decide) (by decide), a7_q i (by omega)]; simp [uI_ap]
      · rw [bf_q 170 (by decide) (by decide), a8_q i (by omega)]; simp [uI_ap]
      · rw [bf_q 171 (by decide) (by decide), a9_q i (by omega)]; simp [uI_ap]
      · rw [bf_q 172 (by decide) (by decide), a10_q i (by omega)]; simp [uI_ap]
      · rw [bf_q 167 (by decide) (by decide), a11_q i (by omega)]; simp [uI_ap]
      · rw [b0_q i (by omega), af_q 134 (by decide) (by decide) (by decide) (by decide) (by decide) (by decide) (by decide) (by decide) (by decide) (by decide) (by decide) (by decide)]; simp [uI_ap]
      · rw [b1_q i (by omega), af_q 135 (by decide) (by decide) (by decide) (by decide) (by decide) (by decide) (by decide) (by decide) (by decide) (by decide) (by decide) (by decide)]; simp [uI_ap]
      · rw [bf_q 126 (by decide) (by decide), af_q 126 (by decide) (by decide) (by decide) (by decide) (by decide) (by decide) (by decide) (by decide) (by decide) (by decide) (by decide) (by decide)]; simp [uI_ap]
      · rw [bf_q 126 (by decide) (by decide), af_q 126 (by decide) (by decide) (by decide) (by decide) (by decide) (by decide) (by decide) (by decide) (by decide) (by decide) (by decide) (by decide)]; simp [uI_ap]
      · rw [bf_q 126 (by decide) (by decide), af_q 126 (by decide) (by decide) (by decide) (by decide) (by decide) (by decide) (by decide) (by decide) (by decide) (by decide) (by decide) (by decide)]; simp [uI_ap]
      · rw [bf_q 126 (by decide) (by decide), af_q 126 (by decide) (by decide) (by decide) (by decide) (by decide) (by decide) (by decide) (by decide) (by decide) (by decide) (by decide) (by decide)]; simp [uI_ap]
      · rw [bf_q 126 (by decide) (by decide), af_q 126 (by decide) (by decide) (by decide) (by decide) (by decide) (by decide) (by decide) (by decide) (by decide) (by decide) (by decide) (by decide)]; simp [uI_ap]
      · rw [bf_q 126 (by decide) (by decide), af_q 126 (by decide) (by decide) (by decide) (by decide) (by decide) (by decide) (by decide) (by decide) (by decide) (by decide) (by decide) (by decide)]; simp [uI_ap]
      · rw [bf_q b (by omega) (by omega), af_q b (by omega) (by omega) (by omega) (by omega) (by omega) (by omega) (by omega) (by omega) (by omega) (by omega) (by omega) (by omega)]; funext j; simp [uI_ap, hb_q]
      · rw [bf_q 126 (by decide) (by decide), af_q 126 (by decide) (by decide) (by decide) (by decide) (by decide) (by decide) (by decide) (by decide) (by decide) (by decide) (by decide) (by decide)]; simp [uI_ap, j0_q, j1_q, j2_q, j3_q, j4_q, j5_q]
    have et_q : S3 126 16 = S 126 16 := hrel_q.2.2.2.2.2.2.2.2.2.2 16 (by decide) (by decide) (by decide) (by decide) (by decide) (by decide)
    rw [et_q]; exact k h4 S3 hrel_q
  · skip
    refine wp_bipush (-103) dX11_image_7 (by decide) ?_
    refine g_iret dX11_image_9 rfl ?_
    exact k1_q h4
set_option maxHeartbeats 4000000 in
theorem c_restore {I S : Mem} {J : Mel} {Q : Option Value → Mem → Mem → Mel → Prop} (k1_q : ¬ (¬ S 126 52 = 0 ∧ S 126 53 = S 126 0) → Q (some (.int (-103))) I S J) (k : ¬ S 126 52 = 0 ∧ S 126 53 = S 126 0 → ∀ S', rstR S S' → Q (some (.int (S 126 54))) I S' J) : M2 mX11_restore 1 [.ref 126] I S J Q := by
  refine m2_of [.ref 126, dum] moX11_restore (Nat.le_of_ble_eq_true rfl) rfl ?_
  refine wp_aload_n dX11_restore_0 rfl ?_
  refine m_getZ dX11_restore_1 flRX11_364 (by first | rfl | assumption) (by decide) ?_
  refine wp_if_eq dX11_restore_4 (fun h4 => ?_) (fun h4 => ?_)
  · skip
    refine wp_bipush (-103) dX11_restore_18 (by decide) ?_
    refine g_iret dX11_restore_20 rfl ?_
    exact k1_q (fun q => by first | exact q.1 h4 | exact h15 q.2)
  · skip
    refine wp_aload_n dX11_restore_7 rfl ?_
    refine m_getI dX11_restore_8 flRX11_367 (by first | rfl | assumption) (by decide) ?_
    refine wp_aload_n dX11_restore_11 rfl ?_
    refine m_getI dX11_restore_12 flRX11_230 (by first | rfl | assumption) (by decide) ?_
    refine wp_icmp_eq dX11_restore_15 (fun h15 => ?_) (fun h15 => ?_)
    · skip
      refine wp_aload_n dX11_restore_21 rfl ?_
      refine wp_aload_n dX11_restore_22 rfl ?_
      refine m_getI dX11_restore_23 flRX11_370 (by first | rfl | assumption) (by decide) ?_
      refine m_putI dX11_restore_26 flRX11_224 (by first | rfl | assumption) (by decide) ?_
      refine wp_aload_n dX11_restore_29 rfl ?_
      refine wp_aload_n dX11_restore_30 rfl ?_
      refine m_getI dX11_restore_31 flRX11_373 (by first | rfl | assumption) (by decide) ?_
      refine m_putI dX11_restore_34 flRX11_227 (by first | rfl | assumption) (by decide) ?_
      refine wp_aload_n dX11_restore_37 rfl ?_
      refine wp_aload_n dX11_restore_38 rfl ?_
      refine m_getI dX11_restore_39 flRX11_376 (by first | rfl | assumption) (by decide) ?_
      refine m_putI dX11_restore_42 flRX11_221 (by first | rfl | assumption) (by decide) ?_
      refine wp_aload_n dX11_restore_45 rfl ?_
      refine wp_aload_n dX11_restore_46 rfl ?_
      refine m_getI dX11_restore_47 flRX11_379 (by first | rfl | assumption) (by decide) ?_
      refine m_putI dX11_restore_50 flRX11_233 (by first | rfl | assumption) (by decide) ?_
      refine wp_iconst 0 dX11_restore_53 (by decide) ?_
      refine st_i_2_1 dX11_restore_54 (by decide) rfl ?_
      refine l_rst1 (fun S2 h2_q => ?_) 0 _ (by omega) ⟨fun i hi_q => by omega, fun i hi_q => by omega, fun i hi_q => by omega, fun i hi_q => by omega, fun i hi_q => by omega, fun i hi_q => by omega, fun i hi_q => by omega, fun i hi_q => by omega, fun i hi_q => by omega, fun i hi_q => by omega, fun i hi_q => by omega, fun i hi_q => by omega, fun b _ _ _ _ _ _ _ _ _ _ _ _ => rfl⟩
      refine wp_iconst 0 dX11_restore_235 (by decide) ?_
      refine st_i_2_1 dX11_restore_236 (by decide) rfl ?_
      refine l_rst2 (S := S2) (fun S3 h3_q => ?_) 0 S2 (by omega) ⟨fun i hi_q => by omega, fun i hi_q => by omega, fun b _ _ => rfl⟩
      refine wp_aload_n dX11_restore_273 rfl ?_
      refine m_getI dX11_restore_274 flRX11_224 (by first | rfl | assumption) (by decide) ?_
      refine g_iret dX11_restore_277 rfl ?_
      obtain ⟨a0_q, a1_q, a2_q, a3_q, a4_q, a5_q, a6_q, a7_q, a8_q, a9_q, a10_q, a11_q, af_q⟩ := h2_q
      obtain ⟨b0_q, b1_q, bf_q⟩ := h3_q
      have hrel_q : rstR S S3 := by
        refine ⟨fun i hi_q => ⟨?_, ?_, ?_, ?_, ?_, ?_, ?_, ?_, ?_, ?_, ?_⟩, fun i hi_q => ?_, fun i hi_q => ⟨?_, ?_⟩, ?_, ?_, ?_, ?_, fun b hb_q hc_q => ?_, fun j j0_q j1_q j2_q j3_q => ?_⟩
        · rw [bf_q 127 (by decide) (by decide), a0_q i (by omega)]; simp [uI_ap]
        · rw [bf_q 130 (by decide) (by decide), a1_q i (by omega)]; simp [uI_ap]
        · rw [bf_q 131 (by decide) (by decide), a2_q i (by omega)]; simp [uI_ap]
        · rw [bf_q 132 (by decide) (by decide), a3_q i (by omega)]; simp [uI_ap]
        · rw [bf_q 133 (by decide) (by decide), a4_q i (by omega)]; simp [uI_ap]
        · rw [bf_q 136 (by decide) (by decide), a5_q i (by omega)]; simp [uI_ap]
        · rw [bf_q 138 (by decide) (by decide), a6_q i (by omega)]; simp [uI_ap]
        · rw [bf_q 139 (by decide) (by decide), a7_q i (by omega)]; simp [uI_ap]
        · rw [bf_q 140 (by decide) (by decide), a8_q i (by omega)]; simp [uI_ap]
        · rw [bf_q 141 (by decide) (by decide), a9_q i (by omega)]; simp [uI_ap]
        · rw [bf_q 142 (by decide) (by decide), a10_q i (by omega)]; simp [uI_ap]
        · rw [bf_q 137 (by decide) (by decide), a11_q i (by omega)]; simp [uI_ap]
        · rw [b0_q i (by omega), af_q 164 (by decide) (by decide) (by decide) (by decide) (by decide) (by decide) (by decide) (by decide) (by decide) (by decide) (by decide) (by decide)]; simp [uI_ap]
        · rw [b1_q i (by omega), af_q 165 (by decide) (by decide) (by decide) (by decide) (by decide) (by decide) (by decide) (by decide) (by decide) (by decide) (by decide) (by decide)]; simp [uI_ap]
        · rw [bf_q 126 (by decide) (by decide), af_q 126 (by decide) (by decide) (by decide) (by decide) (by decide) (by decide) (by decide) (by decide) (by decide) (by decide) (by decide) (by decide)]; simp [uI_ap]
        · rw [bf_q 126 (by decide) (by decide), af_q 126 (by decide) (by decide) (by decide) (by decide) (by decide) (by decide) (by decide) (by decide) (by decide) (by decide) (by decide) (by decide)]; simp [uI_ap]
        · rw [bf_q 126 (by decide) (by decide), af_q 126 (by decide) (by decide) (by decide) (by decide) (by decide) (by decide) (by decide) (by decide) (by decide) (by decide) (by decide) (by decide)]; simp [uI_ap]
        · rw [bf_q 126 (by decide) (by decide), af_q 126 (by decide) (by decide) (by decide) (by decide) (by decide) (by decide) (by decide) (by decide) (by decide) (by decide) (by decide) (by decide)]; simp [uI_ap]
        · rw [bf_q b (by omega) (by omega), af_q b (by omega) (by omega) (by omega) (by omega) (by omega) (by omega) (by omega) (by omega) (by omega) (by omega) (by omega) (by omega)]; funext j; simp [uI_ap, hb_q]
        · rw [bf_q 126 (by decide) (by decide), af_q 126 (by decide) (by decide) (by decide) (by decide) (by decide) (by decide) (by decide) (by decide) (by decide) (by decide) (by decide) (by decide)]; simp [uI_ap, j0_q, j1_q, j2_q, j3_q]
      have et_q : S3 126 16 = S 126 54 := hrel_q.2.2.2.1
      rw [et_q]; exact k ⟨h4, h15⟩ S3 hrel_q
    · skip
      refine wp_bipush (-103) dX11_restore_18 (by decide) ?_
      refine g_iret dX11_restore_20 rfl ?_
      exact k1_q (fun q => by first | exact q.1 h4 | exact h15 q.2)
