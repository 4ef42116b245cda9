def WLw (Fn : FinT) (L : Nat) (xs : Nat → Int32) (i : Nat) (I S : Mem) (J : Mel) (pc : Nat) (st : List Value) : Prop := Wp mL_law room_1 (some (L, xs)) Fn 171 8253 gA (mg I S) J pc [.ref 0, .ref 2, .ref 126, .int (nI i)] st
/-- behind a call of the law: what holds holds again -/
def KKw (Fn : FinT) (L : Nat) (xs : Nat → Int32) (i : Nat) : Prop := ∀ (I' S' : Mem) (J' : Mel) (n T p cr r : Nat), LI n T p cr r I' S' → cr ≤ i + 1 → WLw Fn L xs i I' S' J' 709 []
theorem run_eq {p : Nat} {I S I3 : Mem} (b8 : ∀ j, j < p → I 4 j = S 143 j) (g : Sgo (S 143) p 0 (aIni I) p I3) : aRun (I 4) p 0 (aIni I) = (p, I3) := by
  rw [aRun_cg p 0 (aIni I) (fun j _ hj => b8 j (by omega))]
  have := g.2
  rw [Nat.sub_self] at this
  exact this
theorem rnd6 {r : Nat} {x y : Int32} (h1 : x = y) (h2 : y = nI r) (hr : r ≤ 6) : ¬ x < 6 ↔ y = 6 := by
  rw [h1, h2, show (6 : Int32) = nI 6 from rfl, nI_ltg (by omega) (by omega), nI_eqg (by omega) (by omega)]
  omega
set_option maxHeartbeats 4000000 in
theorem op_0 {Fn : FinT} {L : Nat} {xs : Nat → Int32} {i : Nat} {I S : Mem} {J : Mel} {n T p cr r : Nat} (hi_q : i + 4 ≤ L) (hL_q : L ≤ 2048) (h_q : LI n T p cr r I S) (hcr_q : cr ≤ i) (kk_q : KKw Fn L xs i) : WLw Fn L xs i I S J 136 [] := by
  unfold WLw
  obtain ⟨hH_q, hT9_q, hE_q, ⟨b1_q, b2_q, b3_q, b4_q, b5_q, b6_q, b7_q, b8_q, b9_q⟩, hK_q⟩ := id h_q
  have hW_q := hH_q.2.1
  have hn_q := hW_q.1
  have ha_q := hW_q.2.1
  obtain ⟨s, hs6_q, hs_q, hsv_q⟩ := id hE_q
  obtain ⟨l, hl6_q, hl_q, hlv_q⟩ := id hW_q.2.2.2.1
  have hv_q : ∀ j, j < s → ∃ v, v < 4 ∧ S 141 j = nI v := fun j hj => (hsv_q j hj).2.1
  have hb_q : ∀ i, i < n → ∃ b, b ≤ 5 ∧ S 133 i = nI b := fun i hi => hW_q.box hi
  have hp_q : I 3 1 = nI p := b6_q.trans b7_q.1
  refine wp_aload_n dL_law_136 rfl ?_
  refine wp_aload_n dL_law_137 rfl ?_
  refine wp_iload_n dL_law_138 rfl ?_
  refine wp_iconst 1 dL_law_139 (by decide) ?_
  refine wp_iadd dL_law_140 ?_
  refine wp_sld dL_law_141 rfl (nI_1 i) (by omega) (by omega) ?_
  refine g_callV1 (mj := mX10_letter) dL_law_142 lkRL_13 mkX10_letter (by first | rfl | assumption) (by decide) (by decide) (Nat.le_of_ble_eq_true rfl) (c_pletter hp_q b7_q.2.1 (fun g1_q => ?_) (fun g1_q g2_q => ?_) (fun g1_q g2_q => ?_))
  · skip
    have e_q : spLetter S (xs (i + 1)) = (-102, S) := if_neg g1_q
    refine wp_aload_n dL_law_145 rfl ?_
    refine wp_aload_n dL_law_146 rfl ?_
    refine wp_iload_n dL_law_147 rfl ?_
    refine wp_iconst 1 dL_law_148 (by decide) ?_
    refine wp_iadd dL_law_149 ?_
    refine wp_sld dL_law_150 rfl (nI_1 i) (by omega) (by omega) ?_
    refine g_callV1 (mj := mX11_letter) dL_law_151 lkRL_17 mkX11_letter (by first | rfl | assumption) (by decide) (by decide) (Nat.le_of_ble_eq_true rfl) (c_letter b7_q.1 b7_q.2.1 ?_)
    rw [e_q]
    refine wp_icmp_eq dL_law_154 (fun hc_q => ?_) (fun hc_q => absurd (rfl) hc_q)
    exact kk_q _ _ _ _ _ _ _ _ (h_q) (by omega)
  · skip
    have e_q : spLetter S (xs (i + 1)) = (-104, S) := by unfold spLetter; rw [if_pos g1_q, if_pos (by rw [b7_q.1, g2_q]; rfl)]
    refine wp_aload_n dL_law_145 rfl ?_
    refine wp_aload_n dL_law_146 rfl ?_
    refine wp_iload_n dL_law_147 rfl ?_
    refine wp_iconst 1 dL_law_148 (by decide) ?_
    refine wp_iadd dL_law_149 ?_
    refine wp_sld dL_law_150 rfl (nI_1 i) (by omega) (by omega) ?_
    refine g_callV1 (mj := mX11_letter) dL_law_151 lkRL_17 mkX11_letter (by first | rfl | assumption) (by decide) (by decide) (Nat.le_of_ble_eq_true rfl) (c_letter b7_q.1 b7_q.2.1 ?_)
    rw [e_q]
    refine wp_icmp_eq dL_law_154 (fun hc_q => ?_) (fun hc_q => absurd (rfl) hc_q)
    exact kk_q _ _ _ _ _ _ _ _ (h_q) (by omega)
  · skip
    have e_q : spLetter S (xs (i + 1)) = (nI p + 1, uI (uI S 143 p (vp_nar .byte (xs (i + 1)).toInt8.toInt32)) 126 23 (nI p + 1)) := by unfold spLetter; rw [if_pos g1_q, b7_q.1, if_neg (by rw [show (84 : Int32) = nI 84 from rfl, nI_eqg (by omega) (by omega)]; omega), tn_nI (by omega)]
    refine wp_aload_n dL_law_145 rfl ?_
    refine wp_aload_n dL_law_146 rfl ?_
    refine wp_iload_n dL_law_147 rfl ?_
    refine wp_iconst 1 dL_law_148 (by decide) ?_
    refine wp_iadd dL_law_149 ?_
    refine wp_sld dL_law_150 rfl (nI_1 i) (by omega) (by omega) ?_
    refine g_callV1 (mj := mX11_letter) dL_law_151 lkRL_17 mkX11_letter (by first | rfl | assumption) (by decide) (by decide) (Nat.le_of_ble_eq_true rfl) (c_letter b7_q.1 b7_q.2.1 ?_)
    rw [e_q]
    refine wp_icmp_eq dL_law_154 (fun hc_q => ?_) (fun hc_q => absurd (rfl) hc_q)
    exact kk_q _ _ _ _ _ _ _ _ (h_q.let g1_q.1 g1_q.2 g2_q) (by omega)
set_option maxHeartbeats 4000000 in
theorem op_1 {Fn : FinT} {L : Nat} {xs : Nat → Int32} {i : Nat} {I S : Mem} {J : Mel} {n T p cr r : Nat} (hi_q : i + 4 ≤ L) (hL_q : L ≤ 2048) (h_q : LI n T p cr r I S) (hcr_q : cr ≤ i) (kk_q : KKw Fn L xs i) : WLw Fn L xs i I S J 159 [] := by
  unfold WLw
  obtain ⟨hH_q, hT9_q, hE_q, ⟨b1_q, b2_q, b3_q, b4_q, b5_q, b6_q, b7_q, b8_q, b9_q⟩, hK_q⟩ := id h_q
  have hW_q := hH_q.2.1
  have hn_q := hW_q.1
  have ha_q := hW_q.2.1
  obtain ⟨s, hs6_q, hs_q, hsv_q⟩ := id hE_q
  obtain ⟨l, hl6_q, hl_q, hlv_q⟩ := id hW_q.2.2.2.1
  have hv_q : ∀ j, j < s → ∃ v, v < 4 ∧ S 141 j = nI v := fun j hj => (hsv_q j hj).2.1
  have hb_q : ∀ i, i < n → ∃ b, b ≤ 5 ∧ S 133 i = nI b := fun i hi => hW_q.box hi
  have hp_q : I 3 1 = nI p := b6_q.trans b7_q.1
  refine wp_aload_n dL_law_159 rfl ?_
  refine g_callV0 (mj := mX10_blank) dL_law_160 lkRL_18 mkX10_blank (by first | rfl | assumption) (by decide) (by decide) (Nat.le_of_ble_eq_true rfl) (c_pblank ?_)
  refine wp_aload_n dL_law_163 rfl ?_
  refine g_callV0 (mj := mX11_blank) dL_law_164 lkRL_22 mkX11_blank (by first | rfl | assumption) (by decide) (by decide) (Nat.le_of_ble_eq_true rfl) (c_blank ?_)
  refine wp_icmp_eq dL_law_167 (fun hc_q => ?_) (fun hc_q => absurd (b6_q) hc_q)
  exact kk_q _ _ _ _ _ _ _ _ (h_q.blk) (by omega)
set_option maxHeartbeats 4000000 in
theorem op_2 {Fn : FinT} {L : Nat} {xs : Nat → Int32} {i : Nat} {I S : Mem} {J : Mel} {n T p cr r : Nat} (hi_q : i + 4 ≤ L) (hL_q : L ≤ 2048) (h_q : LI n T p cr r I S) (hcr_q : cr ≤ i) (kk_q : KKw Fn L xs i) : WLw Fn L xs i I S J 172 [] := by
  unfold WLw
  obtain ⟨hH_q, hT9_q, hE_q, ⟨b1_q, b2_q, b3_q, b4_q, b5_q, b6_q, b7_q, b8_q, b9_q⟩, hK_q⟩ := id h_q
  have hW_q := hH_q.2.1
  have hn_q := hW_q.1
  have ha_q := hW_q.2.1
  obtain ⟨s, hs6_q, hs_q, hsv_q⟩ := id hE_q
  obtain ⟨l, hl6_q, hl_q, hlv_q⟩ := id hW_q.2.2.2.1
  have hv_q : ∀ j, j < s → ∃ v, v < 4 ∧ S 141 j = nI v := fun j hj => (hsv_q j hj).2.1
  have hb_q : ∀ i, i < n → ∃ b, b ≤ 5 ∧ S 133 i = nI b := fun i hi => hW_q.box hi
  have hp_q : I 3 1 = nI p := b6_q.trans b7_q.1
  refine wp_aload_n dL_law_172 rfl ?_
  refine g_callV0 (mj := mX10_fault) dL_law_173 lkRL_23 mkX10_fault (by first | rfl | assumption) (by decide) (by decide) (Nat.le_of_ble_eq_true rfl) (c_pfault hp_q b7_q.2.1 (fun I2 hf_q => ?_))
  refine wp_aload_n dL_law_176 rfl ?_
  refine g_callV0 (mj := mX11_fault) dL_law_177 lkRL_26 mkX11_fault (by first | rfl | assumption) (by decide) (by decide) (Nat.le_of_ble_eq_true rfl) (c_mfault I b7_q (fun r2 S2 hk_q ho_q => ?_))
  refine wp_icmp_eq dL_law_180 (fun hc_q => ?_) (fun hc_q => absurd (by rw [aRun_cg p 0 (aIni I) (fun j _ hj => b8_q j (by omega)), ho_q.run]) hc_q)
  exact kk_q _ _ _ _ _ _ _ _ (h_q.flt hf_q hk_q) (by omega)
set_option maxHeartbeats 4000000 in
theorem op_3 {Fn : FinT} {L : Nat} {xs : Nat → Int32} {i : Nat} {I S : Mem} {J : Mel} {n T p cr r : Nat} (hi_q : i + 4 ≤ L) (hL_q : L ≤ 2048) (h_q : LI n T p cr r I S) (hcr_q : cr ≤ i) (kk_q : KKw Fn L xs i) : WLw Fn L xs i I S J 185 [] := by
  unfold WLw
  obtain ⟨hH_q, hT9_q, hE_q, ⟨b1_q, b2_q, b3_q, b4_q, b5_q, b6_q, b7_q, b8_q, b9_q⟩, hK_q⟩ := id h_q
  have hW_q := hH_q.2.1
  have hn_q := hW_q.1
  have ha_q := hW_q.2.1
  obtain ⟨s, hs6_q, hs_q, hsv_q⟩ := id hE_q
  obtain ⟨l, hl6_q, hl_q, hlv_q⟩ := id hW_q.2.2.2.1
  have hv_q : ∀ j, j < s → ∃ v, v < 4 ∧ S 141 j = nI v := fun j hj => (hsv_q j hj).2.1
  have hb_q : ∀ i, i < n → ∃ b, b ≤ 5 ∧ S 133 i = nI b := fun i hi => hW_q.box hi
  have hp_q : I 3 1 = nI p := b6_q.trans b7_q.1
  refine wp_aload_n dL_law_185 rfl ?_
  refine g_callV0 (mj := mX10_crew) dL_law_186 lkRL_27 mkX10_crew (by first | rfl | assumption) (by decide) (by decide) (Nat.le_of_ble_eq_true rfl) (c_pcrew hp_q b7_q.2.1 (fun hno_q I2 hf_q => ?_) (fun a l2 hru_q hdu_q hst_q I2 hd_q => ?_))
  · skip
    refine wp_aload_n dL_law_189 rfl ?_
    refine g_callV0 (mj := mX11_crew) dL_law_190 lkRL_30 mkX11_crew (by first | rfl | assumption) (by decide) (by decide) (Nat.le_of_ble_eq_true rfl) (c_mcrew I b7_q (fun r2 S1 hk_q ho_q hnm_q => ?_) (fun r2 S1 S2 n2 l3 I3 hk_q g1_q g2_q g0_q g3_q g4_q g5_q g6_q => ?_))
    · skip
      refine wp_icmp_eq dL_law_193 (fun hc_q => ?_) (fun hc_q => absurd (rfl) hc_q)
      exact kk_q _ _ _ _ _ _ _ _ (h_q.flt hf_q hk_q) (by omega)
    · skip
      have ru_q := run_eq b8_q g1_q
      rw [ru_q] at hno_q
      exact absurd ⟨n2, g3_q.2.1, g3_q.1, (sto_ms g3_q.1 g4_q).mpr g5_q⟩ (hno_q rfl g2_q)
  · skip
    refine wp_aload_n dL_law_189 rfl ?_
    refine g_callV0 (mj := mX11_crew) dL_law_190 lkRL_30 mkX11_crew (by first | rfl | assumption) (by decide) (by decide) (Nat.le_of_ble_eq_true rfl) (c_mcrew I b7_q (fun r2 S1 hk_q ho_q hnm_q => ?_) (fun r2 S1 S2 n2 l3 I3 hk_q g1_q g2_q g0_q g3_q g4_q g5_q g6_q => ?_))
    · skip
      exfalso
      rcases ho_q with ⟨-, q1, q2, q3⟩ | ⟨q1, q2, a2, l4, I3, g0_q, g1_q, g2_q, g3_q, g4_q⟩
      · have e_q : aRun (S 143) (p - 0) 0 (aIni I) = aRun (I 4) p 0 (aIni I) := (aRun_cg p 0 (aIni I) (fun j _ hj => b8_q j (by omega))).symm
        rw [e_q] at q2 q3
        exact q3 (q2.symm.trans hru_q) hdu_q
      · have ru_q := run_eq b8_q g1_q
        rw [ru_q] at hst_q hd_q
        dsimp only at hst_q hd_q
        have ea_q := hd_q.1
        rw [g3_q.2.1, nI_eqg (by have := g3_q.1; omega) (by have := hd_q.2.1; omega)] at ea_q
        subst ea_q
        exact hnm_q ⟨q1, by rw [g3_q.2.2.1]; exact (sto_ms g3_q.1 g4_q).mp hst_q⟩
    · skip
      have ru_q := run_eq b8_q g1_q
      rw [ru_q] at hst_q hd_q
      dsimp only at hst_q hd_q
      have ea_q := hd_q.1
      rw [g3_q.2.1, nI_eqg (by have := g3_q.1; omega) (by have := hd_q.2.1; omega)] at ea_q
      subst ea_q
      refine wp_icmp_eq dL_law_193 (fun hc_q => ?_) (fun hc_q => absurd (rfl) hc_q)
      exact kk_q _ _ _ _ _ _ _ _ (h_q.crw (by omega) hd_q g0_q g3_q g4_q g5_q hk_q g6_q) (by omega)
set_option maxHeartbeats 4000000 in
theorem op_4 {Fn : FinT} {L : Nat} {xs : Nat → Int32} {i : Nat} {I S : Mem} {J : Mel} {n T p cr r : Nat} (hi_q : i + 4 ≤ L) (hL_q : L ≤ 2048) (h_q : LI n T p cr r I S) (hcr_q : cr ≤ i) (kk_q : KKw Fn L xs i) : WLw Fn L xs i I S J 198 [] := by
  unfold WLw
  obtain ⟨hH_q, hT9_q, hE_q, ⟨b1_q, b2_q, b3_q, b4_q, b5_q, b6_q, b7_q, b8_q, b9_q⟩, hK_q⟩ := id h_q
  have hW_q := hH_q.2.1
  have hn_q := hW_q.1
  have ha_q := hW_q.2.1
  obtain ⟨s, hs6_q, hs_q, hsv_q⟩ := id hE_q
  obtain ⟨l, hl6_q, hl_q, hlv_q⟩ := id hW_q.2.2.2.1
  have hv_q : ∀ j, j < s → ∃ v, v < 4 ∧ S 141 j = nI v := fun j hj => (hsv_q j hj).2.1
  have hb_q : ∀ i, i < n → ∃ b, b ≤ 5 ∧ S 133 i = nI b := fun i hi => hW_q.box hi
  have hp_q : I 3 1 = nI p := b6_q.trans b7_q.1
  refine wp_aload_n dL_law_198 rfl ?_
  refine wp_aload_n dL_law_199 rfl ?_
  refine wp_iload_n dL_law_200 rfl ?_
  refine wp_iconst 1 dL_law_201 (by decide) ?_
  refine wp_iadd dL_law_202 ?_
  refine wp_sld dL_law_203 rfl (nI_1 i) (by omega) (by omega) ?_
  refine wp_aload_n dL_law_204 rfl ?_
  refine wp_iload_n dL_law_205 rfl ?_
  refine wp_iconst 2 dL_law_206 (by decide) ?_
  refine wp_iadd dL_law_207 ?_
  refine wp_sld dL_law_208 rfl (nI_2 i) (by omega) (by omega) ?_
  refine g_callV2 (mj := mX10_actor) dL_law_209 lkRL_31 mkX10_actor (by first | rfl | assumption) (by decide) (by decide) (Nat.le_of_ble_eq_true rfl) (c_pactor hH_q hE_q ?_)
  refine wp_aload_n dL_law_212 rfl ?_
  refine wp_aload_n dL_law_213 rfl ?_
  refine wp_iload_n dL_law_214 rfl ?_
  refine wp_iconst 1 dL_law_215 (by decide) ?_
  refine wp_iadd dL_law_216 ?_
  refine wp_sld dL_law_217 rfl (nI_1 i) (by omega) (by omega) ?_
  refine wp_aload_n dL_law_218 rfl ?_
  refine wp_iload_n dL_law_219 rfl ?_
  refine wp_iconst 2 dL_law_220 (by decide) ?_
  refine wp_iadd dL_law_221 ?_
  refine wp_sld dL_law_222 rfl (nI_2 i) (by omega) (by omega) ?_
  refine g_callV2 (mj := mX11_actor) dL_law_223 lkRL_35 mkX11_actor (by first | rfl | assumption) (by decide) (by decide) (Nat.le_of_ble_eq_true rfl) (c_actor hn_q ha_q hs_q hs6_q hv_q hl_q hl6_q ?_)
  refine wp_icmp_eq dL_law_226 (fun hc_q => ?_) (fun hc_q => absurd (rfl) hc_q)
  exact kk_q _ _ _ _ _ _ _ _ (h_q) (by omega)
set_option maxHeartbeats 4000000 in
theorem op_5 {Fn : FinT} {L : Nat} {xs : Nat → Int32} {i : Nat} {I S : Mem} {J : Mel} {n T p cr r : Nat} (hi_q : i + 4 ≤ L) (hL_q : L ≤ 2048) (h_q : LI n T p cr r I S) (hcr_q : cr ≤ i) (kk_q : KKw Fn L xs i) : WLw Fn L xs i I S J 231 [] := by
  unfold WLw
  obtain ⟨hH_q, hT9_q, hE_q, ⟨b1_q, b2_q, b3_q, b4_q, b5_q, b6_q, b7_q, b8_q, b9_q⟩, hK_q⟩ := id h_q
  have hW_q := hH_q.2.1
  have hn_q := hW_q.1
  have ha_q := hW_q.2.1
  obtain ⟨s, hs6_q, hs_q, hsv_q⟩ := id hE_q
  obtain ⟨l, hl6_q, hl_q, hlv_q⟩ := id hW_q.2.2.2.1
  have hv_q : ∀ j, j < s → ∃ v, v < 4 ∧ S 141 j = nI v := fun j hj => (hsv_q j hj).2.1
  have hb_q : ∀ i, i < n → ∃ b, b ≤ 5 ∧ S 133 i = nI b := fun i hi => hW_q.box hi
  have hp_q : I 3 1 = nI p := b6_q.trans b7_q.1
  refine wp_aload_n dL_law_231 rfl ?_
  refine wp_aload_n dL_law_232 rfl ?_
  refine wp_iload_n dL_law_233 rfl ?_
  refine wp_iconst 1 dL_law_234 (by decide) ?_
  refine wp_iadd dL_law_235 ?_
  refine wp_sld dL_law_236 rfl (nI_1 i) (by omega) (by omega) ?_
  refine wp_aload_n dL_law_237 rfl ?_
  refine wp_iload_n dL_law_238 rfl ?_
  refine wp_iconst 2 dL_law_239 (by decide) ?_
  refine wp_iadd dL_law_240 ?_
  refine wp_sld dL_law_241 rfl (nI_2 i) (by omega) (by omega) ?_
  refine wp_aload_n dL_law_242 rfl ?_
  refine wp_iload_n dL_law_243 rfl ?_
  refine wp_iconst 3 dL_law_244 (by decide) ?_
  refine wp_iadd dL_law_245 ?_
  refine wp_sld dL_law_246 rfl (nI_3 i) (by omega) (by omega) ?_
  refine g_callV3 (mj := mX10_box) dL_law_247 lkRL_36 mkX10_box (by first | rfl | assumption) (by decide) (by decide) (Nat.le_of_ble_eq_true rfl) (c_pbox hH_q ?_)
  refine wp_aload_n dL_law_250 rfl ?_
  refine wp_aload_n dL_law_251 rfl ?_
  refine wp_iload_n dL_law_252 rfl ?_
  refine wp_iconst 1 dL_law_253 (by decide) ?_
  refine wp_iadd dL_law_254 ?_
  refine wp_sld dL_law_255 rfl (nI_1 i) (by omega) (by omega) ?_
  refine wp_aload_n dL_law_256 rfl ?_
  refine wp_iload_n dL_law_257 rfl ?_
  refine wp_iconst 2 dL_law_258 (by decide) ?_
  refine wp_iadd dL_law_259 ?_
  refine wp_sld dL_law_260 rfl (nI_2 i) (by omega) (by omega) ?_
  refine wp_aload_n dL_law_261 rfl ?_
  refine wp_iload_n dL_law_262 rfl ?_
  refine wp_iconst 3 dL_law_263 (by decide) ?_
  refine wp_iadd dL_law_264 ?_
  refine wp_sld dL_law_265 rfl (nI_3 i) (by omega) (by omega) ?_
  refine g_callV3 (mj := mX11_box) dL_law_266 lkRL_40 mkX11_box (by first | rfl | assumption) (by decide) (by decide) (Nat.le_of_ble_eq_true rfl) (c_box hn_q ha_q hb_q ?_)
  refine wp_icmp_eq dL_law_269 (fun hc_q => ?_) (fun hc_q => absurd (rfl) hc_q)
  exact kk_q _ _ _ _ _ _ _ _ (h_q) (by omega)
set_option maxHeartbeats 4000000 in
theorem op_6 {Fn : FinT} {L : Nat} {xs : Nat → Int32} {i : Nat} {I S : Mem} {J : Mel} {n T p cr r : Nat} (hi_q : i + 4 ≤ L) (hL_q : L ≤ 2048) (h_q : LI n T p cr r I S) (hcr_q : cr ≤ i) (kk_q : KKw Fn L xs i) : WLw Fn L xs i I S J 274 [] := by
  unfold WLw
  obtain ⟨hH_q, hT9_q, hE_q, ⟨b1_q, b2_q, b3_q, b4_q, b5_q, b6_q, b7_q, b8_q, b9_q⟩, hK_q⟩ := id h_q
  have hW_q := hH_q.2.1
  have hn_q := hW_q.1
  have ha_q := hW_q.2.1
  obtain ⟨s, hs6_q, hs_q, hsv_q⟩ := id hE_q
  obtain ⟨l, hl6_q, hl_q, hlv_q⟩ := id hW_q.2.2.2.1
  have hv_q : ∀ j, j < s → ∃ v, v < 4 ∧ S 141 j = nI v := fun j hj => (hsv_q j hj).2.1
  have hb_q : ∀ i, i < n → ∃ b, b ≤ 5 ∧ S 133 i = nI b := fun i hi => hW_q.box hi
  have hp_q : I 3 1 = nI p := b6_q.trans b7_q.1
  refine wp_aload_n dL_law_274 rfl ?_
  refine wp_aload_n dL_law_275 rfl ?_
  refine wp_iload_n dL_law_276 rfl ?_
  refine wp_iconst 1 dL_law_277 (by decide) ?_
  refine wp_iadd dL_law_278 ?_
  refine wp_sld dL_law_279 rfl (nI_1 i) (by omega) (by omega) ?_
  refine wp_aload_n dL_law_280 rfl ?_
  refine wp_iload_n dL_law_281 rfl ?_
  refine wp_iconst 2 dL_law_282 (by decide) ?_
  refine wp_iadd dL_law_283 ?_
  refine wp_sld dL_law_284 rfl (nI_2 i) (by omega) (by omega) ?_
  refine g_callV2 (mj := mX10_as) dL_law_285 lkRL_41 mkX10_as (by first | rfl | assumption) (by decide) (by decide) (Nat.le_of_ble_eq_true rfl) (c_pas hH_q ?_)
  refine wp_aload_n dL_law_288 rfl ?_
  refine wp_aload_n dL_law_289 rfl ?_
  refine wp_iload_n dL_law_290 rfl ?_
  refine wp_iconst 1 dL_law_291 (by decide) ?_
  refine wp_iadd dL_law_292 ?_
  refine wp_sld dL_law_293 rfl (nI_1 i) (by omega) (by omega) ?_
  refine wp_aload_n dL_law_294 rfl ?_
  refine wp_iload_n dL_law_295 rfl ?_
  refine wp_iconst 2 dL_law_296 (by decide) ?_
  refine wp_iadd dL_law_297 ?_
  refine wp_sld dL_law_298 rfl (nI_2 i) (by omega) (by omega) ?_
  refine g_callV2 (mj := mX11_as) dL_law_299 lkRL_44 mkX11_as (by first | rfl | assumption) (by decide) (by decide) (Nat.le_of_ble_eq_true rfl) (c_as hn_q ha_q ?_)
  refine wp_icmp_eq dL_law_302 (fun hc_q => ?_) (fun hc_q => absurd (rfl) hc_q)
  exact kk_q _ _ _ _ _ _ _ _ (h_q) (by omega)
set_option maxHeartbeats 4000000 in
theorem op_7 {Fn : FinT} {L : Nat} {xs : Nat → Int32} {i : Nat} {I S : Mem} {J : Mel} {n T p cr r : Nat} (hi_q : i + 4 ≤ L) (hL_q : L ≤ 2048) (h_q : LI n T p cr r I S) (hcr_q : cr ≤ i) (kk_q : KKw Fn L xs i) : WLw Fn L xs i I S J 307 [] := by
  unfold WLw
  obtain ⟨hH_q, hT9_q, hE_q, ⟨b1_q, b2_q, b3_q, b4_q, b5_q, b6_q, b7_q, b8_q, b9_q⟩, hK_q⟩ := id h_q
  have hW_q := hH_q.2.1
  have hn_q := hW_q.1
  have ha_q := hW_q.2.1
  obtain ⟨s, hs6_q, hs_q, hsv_q⟩ := id hE_q
  obtain ⟨l, hl6_q, hl_q, hlv_q⟩ := id hW_q.2.2.2.1
  have hv_q : ∀ j, j < s → ∃ v, v < 4 ∧ S 141 j = nI v := fun j hj => (hsv_q j hj).2.1
  have hb_q : ∀ i, i < n → ∃ b, b ≤ 5 ∧ S 133 i = nI b := fun i hi => hW_q.box hi
  have hp_q : I 3 1 = nI p := b6_q.trans b7_q.1
  refine wp_aload_n dL_law_307 rfl ?_
  refine wp_aload_n dL_law_308 rfl ?_
  refine wp_iload_n dL_law_309 rfl ?_
  refine wp_iconst 1 dL_law_310 (by decide) ?_
  refine wp_iadd dL_law_311 ?_
  refine wp_sld dL_law_312 rfl (nI_1 i) (by omega) (by omega) ?_
  refine wp_aload_n dL_law_313 rfl ?_
  refine wp_iload_n dL_law_314 rfl ?_
  refine wp_iconst 2 dL_law_315 (by decide) ?_
  refine wp_iadd dL_law_316 ?_
  refine wp_sld dL_law_317 rfl (nI_2 i) (by omega) (by omega) ?_
  refine g_callV2 (mj := mX10_send) dL_law_318 lkRL_45 mkX10_send (by first | rfl | assumption) (by decide) (by decide) (Nat.le_of_ble_eq_true rfl) (c_psend hH_q hT9_q (fun I2 T2 hT2_q hH2_q hf2_q => ?_))
  refine wp_aload_n dL_law_321 rfl ?_
  refine wp_aload_n dL_law_322 rfl ?_
  refine wp_iload_n dL_law_323 rfl ?_
  refine wp_iconst 1 dL_law_324 (by decide) ?_
  refine wp_iadd dL_law_325 ?_
  refine wp_sld dL_law_326 rfl (nI_1 i) (by omega) (by omega) ?_
  refine wp_aload_n dL_law_327 rfl ?_
  refine wp_iload_n dL_law_328 rfl ?_
  refine wp_iconst 2 dL_law_329 (by decide) ?_
  refine wp_iadd dL_law_330 ?_
  refine wp_sld dL_law_331 rfl (nI_2 i) (by omega) (by omega) ?_
  refine g_callV2 (mj := mX11_send) dL_law_332 lkRL_48 mkX11_send (by first | rfl | assumption) (by decide) (by decide) (Nat.le_of_ble_eq_true rfl) (c_send hn_q ha_q hb_q ?_)
  refine wp_icmp_eq dL_law_335 (fun hc_q => ?_) (fun hc_q => absurd (rfl) hc_q)
  exact kk_q _ _ _ _ _ _ _ _ (h_q.send hT2_q hH2_q hf2_q) (by omega)
set_option maxHeartbeats 4000000 in
theorem op_8 {Fn : FinT} {L : Nat} {xs : Nat → Int32} {i : Nat} {I S : Mem} {J : Mel} {n T p cr r : Nat} (hi_q : i + 4 ≤ L) (hL_q : L ≤ 2048) (h_q : LI n T p cr r I S) (hcr_q : cr ≤ i) (kk_q : KKw Fn L xs i) : WLw Fn L xs i I S J 340 [] := by
  unfold WLw
  obtain ⟨hH_q, hT9_q, hE_q, ⟨b1_q, b2_q, b3_q, b4_q, b5_q, b6_q, b7_q, b8_q, b9_q⟩, hK_q⟩ := id h_q
  have hW_q := hH_q.2.1
  have hn_q := hW_q.1
  have ha_q := hW_q.2.1
  obtain ⟨s, hs6_q, hs_q, hsv_q⟩ := id hE_q
  obtain ⟨l, hl6_q, hl_q, hlv_q⟩ := id hW_q.2.2.2.1
  have hv_q : ∀ j, j < s → ∃ v, v < 4 ∧ S 141 j = nI v := fun j hj => (hsv_q j hj).2.1
  have hb_q : ∀ i, i < n → ∃ b, b ≤ 5 ∧ S 133 i = nI b := fun i hi => hW_q.box hi
  have hp_q : I 3 1 = nI p := b6_q.trans b7_q.1
  refine wp_aload_n dL_law_340 rfl ?_
  refine wp_aload_n dL_law_341 rfl ?_
  refine wp_iload_n dL_law_342 rfl ?_
  refine wp_iconst 1 dL_law_343 (by decide) ?_
  refine wp_iadd dL_law_344 ?_
  refine wp_sld dL_law_345 rfl (nI_1 i) (by omega) (by omega) ?_
  refine g_callV1 (mj := mX10_tick) dL_law_346 lkRL_49 mkX10_tick (by first | rfl | assumption) (by decide) (by decide) (Nat.le_of_ble_eq_true rfl) (c_ptick hH_q hT9_q (fun I2 T2 hT2_q hH2_q hf2_q => ?_))
  refine wp_aload_n dL_law_349 rfl ?_
  refine wp_aload_n dL_law_350 rfl ?_
  refine wp_iload_n dL_law_351 rfl ?_
  refine wp_iconst 1 dL_law_352 (by decide) ?_
  refine wp_iadd dL_law_353 ?_
  refine wp_sld dL_law_354 rfl (nI_1 i) (by omega) (by omega) ?_
  refine g_callV1 (mj := mX11_tick) dL_law_355 lkRL_52 mkX11_tick (by first | rfl | assumption) (by decide) (by decide) (Nat.le_of_ble_eq_true rfl) (c_tick hW_q ?_)
  refine wp_icmp_eq dL_law_358 (fun hc_q => ?_) (fun hc_q => absurd (rfl) hc_q)
  exact kk_q _ _ _ _ _ _ _ _ (h_q.tick hT2_q hH2_q hf2_q) (by omega)
set_option maxHeartbeats 4000000 in
theorem op_9 {Fn : FinT} {L : Nat} {xs : Nat → Int32} {i : Nat} {I S : Mem} {J : Mel} {n T p cr r : Nat} (hi_q : i + 4 ≤ L) (hL_q : L ≤ 2048) (h_q : LI n T p cr r I S) (hcr_q : cr ≤ i) (kk_q : KKw Fn L xs i) : WLw Fn L xs i I S J 363 [] := by
  unfold WLw
  obtain ⟨hH_q, hT9_q, hE_q, ⟨b1_q, b2_q, b3_q, b4_q, b5_q, b6_q, b7_q, b8_q, b9_q⟩, hK_q⟩ := id h_q
  have hW_q := hH_q.2.1
  have hn_q := hW_q.1
  have ha_q := hW_q.2.1
  obtain ⟨s, hs6_q, hs_q, hsv_q⟩ := id hE_q
  obtain ⟨l, hl6_q, hl_q, hlv_q⟩ := id hW_q.2.2.2.1
  have hv_q : ∀ j, j < s → ∃ v, v < 4 ∧ S 141 j = nI v := fun j hj => (hsv_q j hj).2.1
  have hb_q : ∀ i, i < n → ∃ b, b ≤ 5 ∧ S 133 i = nI b := fun i hi => hW_q.box hi
  have hp_q : I 3 1 = nI p := b6_q.trans b7_q.1
  refine wp_aload_n dL_law_363 rfl ?_
  refine wp_aload_n dL_law_364 rfl ?_
  refine wp_iload_n dL_law_365 rfl ?_
  refine wp_iconst 1 dL_law_366 (by decide) ?_
  refine wp_iadd dL_law_367 ?_
  refine wp_sld dL_law_368 rfl (nI_1 i) (by omega) (by omega) ?_
  refine g_callV1 (mj := mX10_fell) dL_law_369 lkRL_53 mkX10_fell (by first | rfl | assumption) (by decide) (by decide) (Nat.le_of_ble_eq_true rfl) (c_pfell hH_q hT9_q (fun I2 T2 hT2_q hH2_q hf2_q => ?_))
  refine wp_aload_n dL_law_372 rfl ?_
  refine wp_aload_n dL_law_373 rfl ?_
  refine wp_iload_n dL_law_374 rfl ?_
  refine wp_iconst 1 dL_law_375 (by decide) ?_
  refine wp_iadd dL_law_376 ?_
  refine wp_sld dL_law_377 rfl (nI_1 i) (by omega) (by omega) ?_
  refine g_callV1 (mj := mX11_fell) dL_law_378 lkRL_56 mkX11_fell (by first | rfl | assumption) (by decide) (by decide) (Nat.le_of_ble_eq_true rfl) (c_fell hW_q ?_)
  refine wp_icmp_eq dL_law_381 (fun hc_q => ?_) (fun hc_q => absurd (rfl) hc_q)
  exact kk_q _ _ _ _ _ _ _ _ (h_q.fell hT2_q hH2_q hf2_q) (by omega)
set_option maxHeartbeats 4000000 in
theorem op_10 {Fn : FinT} {L : Nat} {xs : Nat → Int32} {i : Nat} {I S : Mem} {J : Mel} {n T p cr r : Nat} (hi_q : i + 4 ≤ L) (hL_q : L ≤ 2048) (h_q : LI n T p cr r I S) (hcr_q : cr ≤ i) (kk_q : KKw Fn L xs i) : WLw Fn L xs i I S J 386 [] := by
  unfold WLw
  obtain ⟨hH_q, hT9_q, hE_q, ⟨b1_q, b2_q, b3_q, b4_q, b5_q, b6_q, b7_q, b8_q, b9_q⟩, hK_q⟩ := id h_q
  have hW_q := hH_q.2.1
  have hn_q := hW_q.1
  have ha_q := hW_q.2.1
  obtain ⟨s, hs6_q, hs_q, hsv_q⟩ := id hE_q
  obtain ⟨l, hl6_q, hl_q, hlv_q⟩ := id hW_q.2.2.2.1
  have hv_q : ∀ j, j < s → ∃ v, v < 4 ∧ S 141 j = nI v := fun j hj => (hsv_q j hj).2.1
  have hb_q : ∀ i, i < n → ∃ b, b ≤ 5 ∧ S 133 i = nI b := fun i hi => hW_q.box hi
  have hp_q : I 3 1 = nI p := b6_q.trans b7_q.1
  refine wp_aload_n dL_law_386 rfl ?_
  refine wp_aload_n dL_law_387 rfl ?_
  refine wp_iload_n dL_law_388 rfl ?_
  refine wp_iconst 1 dL_law_389 (by decide) ?_
  refine wp_iadd dL_law_390 ?_
  refine wp_sld dL_law_391 rfl (nI_1 i) (by omega) (by omega) ?_
  refine g_callV1 (mj := mX10_raise) dL_law_392 lkRL_57 mkX10_raise (by first | rfl | assumption) (by decide) (by decide) (Nat.le_of_ble_eq_true rfl) (c_praise hH_q hT9_q (fun I2 T2 hT2_q hH2_q hf2_q => ?_))
  refine wp_aload_n dL_law_395 rfl ?_
  refine wp_aload_n dL_law_396 rfl ?_
  refine wp_iload_n dL_law_397 rfl ?_
  refine wp_iconst 1 dL_law_398 (by decide) ?_
  refine wp_iadd dL_law_399 ?_
  refine wp_sld dL_law_400 rfl (nI_1 i) (by omega) (by omega) ?_
  refine g_callV1 (mj := mX11_raise) dL_law_401 lkRL_60 mkX11_raise (by first | rfl | assumption) (by decide) (by decide) (Nat.le_of_ble_eq_true rfl) (c_raise hn_q ha_q ?_)
  refine wp_icmp_eq dL_law_404 (fun hc_q => ?_) (fun hc_q => absurd (rfl) hc_q)
  exact kk_q _ _ _ _ _ _ _ _ (h_q.raise hT2_q hH2_q hf2_q) (by omega)
set_option maxHeartbeats 4000000 in
theorem op_11 {Fn : FinT} {L : Nat} {xs : Nat → Int32} {i : Nat} {I S : Mem} {J : Mel} {n T p cr r : Nat} (hi_q : i + 4 ≤ L) (hL_q : L ≤ 2048) (h_q : LI n T p cr r I S) (hcr_q : cr ≤ i) (kk_q : KKw Fn L xs i) : WLw Fn L xs i I S J 409 [] := by
  unfold WLw
  obtain ⟨hH_q, hT9_q, hE_q, ⟨b1_q, b2_q, b3_q, b4_q, b5_q, b6_q, b7_q, b8_q, b9_q⟩, hK_q⟩ := id h_q
  have hW_q := hH_q.2.1
  have hn_q := hW_q.1
  have ha_q := hW_q.2.1
  obtain ⟨s, hs6_q, hs_q, hsv_q⟩ := id hE_q
  obtain ⟨l, hl6_q, hl_q, hlv_q⟩ := id hW_q.2.2.2.1
  have hv_q : ∀ j, j < s → ∃ v, v < 4 ∧ S 141 j = nI v := fun j hj => (hsv_q j hj).2.1
  have hb_q : ∀ i, i < n → ∃ b, b ≤ 5 ∧ S 133 i = nI b := fun i hi => hW_q.box hi
  have hp_q : I 3 1 = nI p := b6_q.trans b7_q.1
  refine wp_aload_n dL_law_409 rfl ?_
  refine wp_aload_n dL_law_410 rfl ?_
  refine wp_iload_n dL_law_411 rfl ?_
  refine wp_iconst 1 dL_law_412 (by decide) ?_
  refine wp_iadd dL_law_413 ?_
  refine wp_sld dL_law_414 rfl (nI_1 i) (by omega) (by omega) ?_
  refine wp_aload_n dL_law_415 rfl ?_
  refine wp_iload_n dL_law_416 rfl ?_
  refine wp_iconst 2 dL_law_417 (by decide) ?_
  refine wp_iadd dL_law_418 ?_
  refine wp_sld dL_law_419 rfl (nI_2 i) (by omega) (by omega) ?_
  refine g_callV2 (mj := mX10_tie) dL_law_420 lkRL_61 mkX10_tie (by first | rfl | assumption) (by decide) (by decide) (Nat.le_of_ble_eq_true rfl) (c_ptie hH_q hT9_q (fun I2 T2 hT2_q hH2_q hf2_q => ?_))
  refine wp_aload_n dL_law_423 rfl ?_
  refine wp_aload_n dL_law_424 rfl ?_
  refine wp_iload_n dL_law_425 rfl ?_
  refine wp_iconst 1 dL_law_426 (by decide) ?_
  refine wp_iadd dL_law_427 ?_
  refine wp_sld dL_law_428 rfl (nI_1 i) (by omega) (by omega) ?_
  refine wp_aload_n dL_law_429 rfl ?_
  refine wp_iload_n dL_law_430 rfl ?_
  refine wp_iconst 2 dL_law_431 (by decide) ?_
  refine wp_iadd dL_law_432 ?_
  refine wp_sld dL_law_433 rfl (nI_2 i) (by omega) (by omega) ?_
  refine g_callV2 (mj := mX11_tie) dL_law_434 lkRL_64 mkX11_tie (by first | rfl | assumption) (by decide) (by decide) (Nat.le_of_ble_eq_true rfl) (c_tie hl_q hl6_q ?_)
  refine wp_icmp_eq dL_law_437 (fun hc_q => ?_) (fun hc_q => absurd (rfl) hc_q)
  exact kk_q _ _ _ _ _ _ _ _ (h_q.tie hT2_q hH2_q hf2_q) (by omega)
set_option maxHeartbeats 4000000 in
theorem op_12 {Fn : FinT} {L : Nat} {xs : Nat → Int32} {i : Nat} {I S : Mem} {J : Mel} {n T p cr r : Nat} (hi_q : i + 4 ≤ L) (hL_q : L ≤ 2048) (h_q : LI n T p cr r I S) (hcr_q : cr ≤ i) (kk_q : KKw Fn L xs i) : WLw Fn L xs i I S J 442 [] := by
  unfold WLw
  obtain ⟨hH_q, hT9_q, hE_q, ⟨b1_q, b2_q, b3_q, b4_q, b5_q, b6_q, b7_q, b8_q, b9_q⟩, hK_q⟩ := id h_q
  have hW_q := hH_q.2.1
  have hn_q := hW_q.1
  have ha_q := hW_q.2.1
  obtain ⟨s, hs6_q, hs_q, hsv_q⟩ := id hE_q
  obtain ⟨l, hl6_q, hl_q, hlv_q⟩ := id hW_q.2.2.2.1
  have hv_q : ∀ j, j < s → ∃ v, v < 4 ∧ S 141 j = nI v := fun j hj => (hsv_q j hj).2.1
  have hb_q : ∀ i, i < n → ∃ b, b ≤ 5 ∧ S 133 i = nI b := fun i hi => hW_q.box hi
  have hp_q : I 3 1 = nI p := b6_q.trans b7_q.1
  refine wp_aload_n dL_law_442 rfl ?_
  refine wp_aload_n dL_law_443 rfl ?_
  refine wp_iload_n dL_law_444 rfl ?_
  refine wp_iconst 1 dL_law_445 (by decide) ?_
  refine wp_iadd dL_law_446 ?_
  refine wp_sld dL_law_447 rfl (nI_1 i) (by omega) (by omega) ?_
  refine wp_aload_n dL_law_448 rfl ?_
  refine wp_iload_n dL_law_449 rfl ?_
  refine wp_iconst 2 dL_law_450 (by decide) ?_
  refine wp_iadd dL_law_451 ?_
  refine wp_sld dL_law_452 rfl (nI_2 i) (by omega) (by omega) ?_
  refine g_callV2 (mj := mX10_cut) dL_law_453 lkRL_65 mkX10_cut (by first | rfl | assumption) (by decide) (by decide) (Nat.le_of_ble_eq_true rfl) (c_pcut hH_q hT9_q (fun I2 T2 hT2_q hH2_q hf2_q => ?_))
  refine wp_aload_n dL_law_456 rfl ?_
  refine wp_aload_n dL_law_457 rfl ?_
  refine wp_iload_n dL_law_458 rfl ?_
  refine wp_iconst 1 dL_law_459 (by decide) ?_
  refine wp_iadd dL_law_460 ?_
  refine wp_sld dL_law_461 rfl (nI_1 i) (by omega) (by omega) ?_
  refine wp_aload_n dL_law_462 rfl ?_
  refine wp_iload_n dL_law_463 rfl ?_
  refine wp_iconst 2 dL_law_464 (by decide) ?_
  refine wp_iadd dL_law_465 ?_
  refine wp_sld dL_law_466 rfl (nI_2 i) (by omega) (by omega) ?_
  refine g_callV2 (mj := mX11_cut) dL_law_467 lkRL_68 mkX11_cut (by first | rfl | assumption) (by decide) (by decide) (Nat.le_of_ble_eq_true rfl) (c_cut hl_q hl6_q ?_)
  refine wp_icmp_eq dL_law_470 (fun hc_q => ?_) (fun hc_q => absurd (rfl) hc_q)
  exact kk_q _ _ _ _ _ _ _ _ (h_q.cut hT2_q hH2_q hf2_q) (by omega)
set_option maxHeartbeats 4000000 in
theorem op_13 {Fn : FinT} {L : Nat} {xs : Nat → Int32} {i : Nat} {I S : Mem} {J : Mel} {n T p cr r : Nat} (hi_q : i + 4 ≤ L) (hL_q : L ≤ 2048) (h_q : LI n T p cr r I S) (hcr_q : cr ≤ i) (kk_q : KKw Fn L xs i) : WLw Fn L xs i I S J 475 [] := by
  unfold WLw
  obtain ⟨hH_q, hT9_q, hE_q, ⟨b1_q, b2_q, b3_q, b4_q, b5_q, b6_q, b7_q, b8_q, b9_q⟩, hK_q⟩ := id h_q
  have hW_q := hH_q.2.1
  have hn_q := hW_q.1
  have ha_q := hW_q.2.1
  obtain ⟨s, hs6_q, hs_q, hsv_q⟩ := id hE_q
  obtain ⟨l, hl6_q, hl_q, hlv_q⟩ := id hW_q.2.2.2.1
  have hv_q : ∀ j, j < s → ∃ v, v < 4 ∧ S 141 j = nI v := fun j hj => (hsv_q j hj).2.1
  have hb_q : ∀ i, i < n → ∃ b, b ≤ 5 ∧ S 133 i = nI b := fun i hi => hW_q.box hi
  have hp_q : I 3 1 = nI p := b6_q.trans b7_q.1
  refine wp_aload_n dL_law_475 rfl ?_
  refine wp_aload_n dL_law_476 rfl ?_
  refine wp_iload_n dL_law_477 rfl ?_
  refine wp_iconst 1 dL_law_478 (by decide) ?_
  refine wp_iadd dL_law_479 ?_
  refine wp_sld dL_law_480 rfl (nI_1 i) (by omega) (by omega) ?_
  refine wp_aload_n dL_law_481 rfl ?_
  refine wp_iload_n dL_law_482 rfl ?_
  refine wp_iconst 2 dL_law_483 (by decide) ?_
  refine wp_iadd dL_law_484 ?_
  refine wp_sld dL_law_485 rfl (nI_2 i) (by omega) (by omega) ?_
  refine g_callV2 (mj := mX10_be) dL_law_486 lkRL_69 mkX10_be (by first | rfl | assumption) (by decide) (by decide) (Nat.le_of_ble_eq_true rfl) (c_pbe hH_q hT9_q (fun I2 T2 hT2_q hH2_q hf2_q => ?_))
  refine wp_aload_n dL_law_489 rfl ?_
  refine wp_aload_n dL_law_490 rfl ?_
  refine wp_iload_n dL_law_491 rfl ?_
  refine wp_iconst 1 dL_law_492 (by decide) ?_
  refine wp_iadd dL_law_493 ?_
  refine wp_sld dL_law_494 rfl (nI_1 i) (by omega) (by omega) ?_
  refine wp_aload_n dL_law_495 rfl ?_
  refine wp_iload_n dL_law_496 rfl ?_
  refine wp_iconst 2 dL_law_497 (by decide) ?_
  refine wp_iadd dL_law_498 ?_
  refine wp_sld dL_law_499 rfl (nI_2 i) (by omega) (by omega) ?_
  refine g_callV2 (mj := mX11_be) dL_law_500 lkRL_72 mkX11_be (by first | rfl | assumption) (by decide) (by decide) (Nat.le_of_ble_eq_true rfl) (c_be hn_q ha_q ?_)
  refine wp_icmp_eq dL_law_503 (fun hc_q => ?_) (fun hc_q => absurd (rfl) hc_q)
  exact kk_q _ _ _ _ _ _ _ _ (h_q.be hT2_q hH2_q hf2_q) (by omega)
set_option maxHeartbeats 4000000 in
theorem op_14 {Fn : FinT} {L : Nat} {xs : Nat → Int32} {i : Nat} {I S : Mem} {J : Mel} {n T p cr r : Nat} (hi_q : i + 4 ≤ L) (hL_q : L ≤ 2048) (h_q : LI n T p cr r I S) (hcr_q : cr ≤ i) (kk_q : KKw Fn L xs i) : WLw Fn L xs i I S J 508 [] := by
  unfold WLw
  obtain ⟨hH_q, hT9_q, hE_q, ⟨b1_q, b2_q, b3_q, b4_q, b5_q, b6_q, b7_q, b8_q, b9_q⟩, hK_q⟩ := id h_q
  have hW_q := hH_q.2.1
  have hn_q := hW_q.1
  have ha_q := hW_q.2.1
  obtain ⟨s, hs6_q, hs_q, hsv_q⟩ := id hE_q
  obtain ⟨l, hl6_q, hl_q, hlv_q⟩ := id hW_q.2.2.2.1
  have hv_q : ∀ j, j < s → ∃ v, v < 4 ∧ S 141 j = nI v := fun j hj => (hsv_q j hj).2.1
  have hb_q : ∀ i, i < n → ∃ b, b ≤ 5 ∧ S 133 i = nI b := fun i hi => hW_q.box hi
  have hp_q : I 3 1 = nI p := b6_q.trans b7_q.1
  have e6_q := rnd6 b3_q b4_q b5_q
  refine wp_aload_n dL_law_508 rfl ?_
  refine wp_aload_n dL_law_509 rfl ?_
  refine wp_iload_n dL_law_510 rfl ?_
  refine wp_iconst 1 dL_law_511 (by decide) ?_
  refine wp_iadd dL_law_512 ?_
  refine wp_sld dL_law_513 rfl (nI_1 i) (by omega) (by omega) ?_
  refine g_callV1 (mj := mX10_round) dL_law_514 lkRL_73 mkX10_round (by first | rfl | assumption) (by decide) (by decide) (Nat.le_of_ble_eq_true rfl) (c_pround hH_q hE_q hT9_q (fun x1_q => ?_) (fun x1_q x2_q => ?_) (fun x1_q x2_q r2 I2 J2 hr_q hI_q => ?_))
  · skip
    refine wp_aload_n dL_law_517 rfl ?_
    refine wp_aload_n dL_law_518 rfl ?_
    refine wp_iload_n dL_law_519 rfl ?_
    refine wp_iconst 1 dL_law_520 (by decide) ?_
    refine wp_iadd dL_law_521 ?_
    refine wp_sld dL_law_522 rfl (nI_1 i) (by omega) (by omega) ?_
    refine g_callV1 (mj := mX11_round) dL_law_523 lkRL_76 mkX11_round (by first | rfl | assumption) (by decide) (by decide) (Nat.le_of_ble_eq_true rfl) (c_round hW_q (fun y1_q => ?_) (fun y1_q y2_q => ?_) (fun y1_q y2_q r3 S2 hr3_q he_q h18_q => ?_))
    · skip
      refine wp_icmp_eq dL_law_526 (fun hc_q => ?_) (fun hc_q => absurd (rfl) hc_q)
      exact kk_q _ _ _ _ _ _ _ _ (h_q) (by omega)
    · skip
      exact absurd y1_q x1_q
    · skip
      exact absurd y1_q x1_q
  · skip
    rw [e6_q] at x2_q
    refine wp_aload_n dL_law_517 rfl ?_
    refine wp_aload_n dL_law_518 rfl ?_
    refine wp_iload_n dL_law_519 rfl ?_
    refine wp_iconst 1 dL_law_520 (by decide) ?_
    refine wp_iadd dL_law_521 ?_
    refine wp_sld dL_law_522 rfl (nI_1 i) (by omega) (by omega) ?_
    refine g_callV1 (mj := mX11_round) dL_law_523 lkRL_76 mkX11_round (by first | rfl | assumption) (by decide) (by decide) (Nat.le_of_ble_eq_true rfl) (c_round hW_q (fun y1_q => ?_) (fun y1_q y2_q => ?_) (fun y1_q y2_q r3 S2 hr3_q he_q h18_q => ?_))
    · skip
      exact absurd x1_q y1_q
    · skip
      refine wp_icmp_eq dL_law_526 (fun hc_q => ?_) (fun hc_q => absurd (rfl) hc_q)
      exact kk_q _ _ _ _ _ _ _ _ (h_q) (by omega)
    · skip
      exact absurd x2_q y2_q
  · skip
    rw [e6_q] at x2_q
    have r6_q : r < 6 := by rcases Nat.lt_or_ge r 6 with q | q; exact q; exact absurd (Or.inr (by rw [b4_q, show r = 6 by omega]; rfl)) x2_q
    refine wp_aload_n dL_law_517 rfl ?_
    refine wp_aload_n dL_law_518 rfl ?_
    refine wp_iload_n dL_law_519 rfl ?_
    refine wp_iconst 1 dL_law_520 (by decide) ?_
    refine wp_iadd dL_law_521 ?_
    refine wp_sld dL_law_522 rfl (nI_1 i) (by omega) (by omega) ?_
    refine g_callV1 (mj := mX11_round) dL_law_523 lkRL_76 mkX11_round (by first | rfl | assumption) (by decide) (by decide) (Nat.le_of_ble_eq_true rfl) (c_round hW_q (fun y1_q => ?_) (fun y1_q y2_q => ?_) (fun y1_q y2_q r3 S2 hr3_q he_q h18_q => ?_))
    · skip
      exact absurd x1_q y1_q
    · skip
      exact absurd y2_q x2_q
    · skip
      refine wp_icmp_eq dL_law_526 (fun hc_q => ?_) (fun hc_q => absurd (RoundP_u hr_q hr3_q) hc_q)
      exact kk_q _ _ _ _ _ _ _ _ (h_q.rnd r6_q hI_q he_q h18_q) (by omega)
set_option maxHeartbeats 4000000 in
theorem op_15 {Fn : FinT} {L : Nat} {xs : Nat → Int32} {i : Nat} {I S : Mem} {J : Mel} {n T p cr r : Nat} (hi_q : i + 4 ≤ L) (hL_q : L ≤ 2048) (h_q : LI n T p cr r I S) (hcr_q : cr ≤ i) (kk_q : KKw Fn L xs i) : WLw Fn L xs i I S J 531 [] := by
  unfold WLw
  obtain ⟨hH_q, hT9_q, hE_q, ⟨b1_q, b2_q, b3_q, b4_q, b5_q, b6_q, b7_q, b8_q, b9_q⟩, hK_q⟩ := id h_q
  have hW_q := hH_q.2.1
  have hn_q := hW_q.1
  have ha_q := hW_q.2.1
  obtain ⟨s, hs6_q, hs_q, hsv_q⟩ := id hE_q
  obtain ⟨l, hl6_q, hl_q, hlv_q⟩ := id hW_q.2.2.2.1
  have hv_q : ∀ j, j < s → ∃ v, v < 4 ∧ S 141 j = nI v := fun j hj => (hsv_q j hj).2.1
  have hb_q : ∀ i, i < n → ∃ b, b ≤ 5 ∧ S 133 i = nI b := fun i hi => hW_q.box hi
  have hp_q : I 3 1 = nI p := b6_q.trans b7_q.1
  refine wp_aload_n dL_law_531 rfl ?_
  refine wp_aload_n dL_law_532 rfl ?_
  refine wp_iload_n dL_law_533 rfl ?_
  refine wp_iconst 1 dL_law_534 (by decide) ?_
  refine wp_iadd dL_law_535 ?_
  refine wp_sld dL_law_536 rfl (nI_1 i) (by omega) (by omega) ?_
  refine wp_aload_n dL_law_537 rfl ?_
  refine wp_iload_n dL_law_538 rfl ?_
  refine wp_iconst 2 dL_law_539 (by decide) ?_
  refine wp_iadd dL_law_540 ?_
  refine wp_sld dL_law_541 rfl (nI_2 i) (by omega) (by omega) ?_
  refine wp_aload_n dL_law_542 rfl ?_
  refine wp_iload_n dL_law_543 rfl ?_
  refine wp_iconst 3 dL_law_544 (by decide) ?_
  refine wp_iadd dL_law_545 ?_
  refine wp_sld dL_law_546 rfl (nI_3 i) (by omega) (by omega) ?_
  refine wp_if_eq dL_law_547 (fun h547 => ?_) (fun h547 => ?_)
  · skip
    refine wp_iconst 0 dL_law_554 (by decide) ?_
    refine g_callV3 (mj := mX10_see) dL_law_555 lkRL_77 mkX10_see (by first | rfl | assumption) (by decide) (by decide) (Nat.le_of_ble_eq_true rfl) (c_psee hH_q hs_q hs6_q hT9_q (fun I2 T2 hT2_q hH2_q hf2_q => ?_))
    refine wp_aload_n dL_law_558 rfl ?_
    refine wp_aload_n dL_law_559 rfl ?_
    refine wp_iload_n dL_law_560 rfl ?_
    refine wp_iconst 1 dL_law_561 (by decide) ?_
    refine wp_iadd dL_law_562 ?_
    refine wp_sld dL_law_563 rfl (nI_1 i) (by omega) (by omega) ?_
    refine wp_aload_n dL_law_564 rfl ?_
    refine wp_iload_n dL_law_565 rfl ?_
    refine wp_iconst 2 dL_law_566 (by decide) ?_
    refine wp_iadd dL_law_567 ?_
    refine wp_sld dL_law_568 rfl (nI_2 i) (by omega) (by omega) ?_
    refine wp_aload_n dL_law_569 rfl ?_
    refine wp_iload_n dL_law_570 rfl ?_
    refine wp_iconst 3 dL_law_571 (by decide) ?_
    refine wp_iadd dL_law_572 ?_
    refine wp_sld dL_law_573 rfl (nI_3 i) (by omega) (by omega) ?_
    refine wp_if_eq dL_law_574 (fun h574 => ?_) (fun h574 => absurd h547 h574)
    refine wp_iconst 0 dL_law_581 (by decide) ?_
    refine g_callV3 (mj := mX11_see) dL_law_582 lkRL_81 mkX11_see (by first | rfl | assumption) (by decide) (by decide) (Nat.le_of_ble_eq_true rfl) (c_see hs_q hs6_q ?_)
    refine wp_icmp_eq dL_law_585 (fun hc_q => ?_) (fun hc_q => absurd (rfl) hc_q)
    exact kk_q _ _ _ _ _ _ _ _ (h_q.see hT2_q hH2_q hf2_q) (by omega)
  · skip
    refine wp_iconst 1 dL_law_550 (by decide) ?_
    refine wp_goto dL_law_551 ?_
    refine g_callV3 (mj := mX10_see) dL_law_555 lkRL_77 mkX10_see (by first | rfl | assumption) (by decide) (by decide) (Nat.le_of_ble_eq_true rfl) (c_psee hH_q hs_q hs6_q hT9_q (fun I2 T2 hT2_q hH2_q hf2_q => ?_))
    refine wp_aload_n dL_law_558 rfl ?_
    refine wp_aload_n dL_law_559 rfl ?_
    refine wp_iload_n dL_law_560 rfl ?_
    refine wp_iconst 1 dL_law_561 (by decide) ?_
    refine wp_iadd dL_law_562 ?_
    refine wp_sld dL_law_563 rfl (nI_1 i) (by omega) (by omega) ?_
    refine wp_aload_n dL_law_564 rfl ?_
    refine wp_iload_n dL_law_565 rfl ?_
    refine wp_iconst 2 dL_law_566 (by decide) ?_
    refine wp_iadd dL_law_567 ?_
    refine wp_sld dL_law_568 rfl (nI_2 i) (by omega) (by omega) ?_
    refine wp_aload_n dL_law_569 rfl ?_
    refine wp_iload_n dL_law_570 rfl ?_
    refine wp_iconst 3 dL_law_571 (by decide) ?_
    refine wp_iadd dL_law_572 ?_
    refine wp_sld dL_law_573 rfl (nI_3 i) (by omega) (by omega) ?_
    refine wp_if_eq dL_law_574 (fun h574 => absurd h574 h547) (fun h574 => ?_)
    refine wp_iconst 1 dL_law_577 (by decide) ?_
    refine wp_goto dL_law_578 ?_
    refine g_callV3 (mj := mX11_see) dL_law_582 lkRL_81 mkX11_see (by first | rfl | assumption) (by decide) (by decide) (Nat.le_of_ble_eq_true rfl) (c_see hs_q hs6_q ?_)
    refine wp_icmp_eq dL_law_585 (fun hc_q => ?_) (fun hc_q => absurd (rfl) hc_q)
    exact kk_q _ _ _ _ _ _ _ _ (h_q.see hT2_q hH2_q hf2_q) (by omega)
set_option maxHeartbeats 4000000 in
theorem op_16 {Fn : FinT} {L : Nat} {xs : Nat → Int32} {i : Nat} {I S : Mem} {J : Mel} {n T p cr r : Nat} (hi_q : i + 4 ≤ L) (hL_q : L ≤ 2048) (h_q : LI n T p cr r I S) (hcr_q : cr ≤ i) (kk_q : KKw Fn L xs i) : WLw Fn L xs i I S J 590 [] := by
  unfold WLw
  obtain ⟨hH_q, hT9_q, hE_q, ⟨b1_q, b2_q, b3_q, b4_q, b5_q, b6_q, b7_q, b8_q, b9_q⟩, hK_q⟩ := id h_q
  have hW_q := hH_q.2.1
  have hn_q := hW_q.1
  have ha_q := hW_q.2.1
  obtain ⟨s, hs6_q, hs_q, hsv_q⟩ := id hE_q
  obtain ⟨l, hl6_q, hl_q, hlv_q⟩ := id hW_q.2.2.2.1
  have hv_q : ∀ j, j < s → ∃ v, v < 4 ∧ S 141 j = nI v := fun j hj => (hsv_q j hj).2.1
  have hb_q : ∀ i, i < n → ∃ b, b ≤ 5 ∧ S 133 i = nI b := fun i hi => hW_q.box hi
  have hp_q : I 3 1 = nI p := b6_q.trans b7_q.1
  refine wp_aload_n dL_law_590 rfl ?_
  refine g_callV0 (mj := mX10_forget) dL_law_591 lkRL_82 mkX10_forget (by first | rfl | assumption) (by decide) (by decide) (Nat.le_of_ble_eq_true rfl) (c_pforget hH_q (fun I2 hH2_q hf2_q => ?_))
  refine wp_aload_n dL_law_594 rfl ?_
  refine g_callV0 (mj := mX11_forget) dL_law_595 lkRL_85 mkX11_forget (by first | rfl | assumption) (by decide) (by decide) (Nat.le_of_ble_eq_true rfl) (c_forget ?_)
  refine wp_icmp_eq dL_law_598 (fun hc_q => ?_) (fun hc_q => absurd (rfl) hc_q)
  exact kk_q _ _ _ _ _ _ _ _ (h_q.forget hH2_q hf2_q) (by omega)
set_option maxHeartbeats 4000000 in
theorem op_17 {Fn : FinT} {L : Nat} {xs : Nat → Int32} {i : Nat} {I S : Mem} {J : Mel} {n T p cr r : Nat} (hi_q : i + 4 ≤ L) (hL_q : L ≤ 2048) (h_q : LI n T p cr r I S) (hcr_q : cr ≤ i) (kk_q : KKw Fn L xs i) : WLw Fn L xs i I S J 603 [] := by
  unfold WLw
  obtain ⟨hH_q, hT9_q, hE_q, ⟨b1_q, b2_q, b3_q, b4_q, b5_q, b6_q, b7_q, b8_q, b9_q⟩, hK_q⟩ := id h_q
  have hW_q := hH_q.2.1
  have hn_q := hW_q.1
  have ha_q := hW_q.2.1
  obtain ⟨s, hs6_q, hs_q, hsv_q⟩ := id hE_q
  obtain ⟨l, hl6_q, hl_q, hlv_q⟩ := id hW_q.2.2.2.1
  have hv_q : ∀ j, j < s → ∃ v, v < 4 ∧ S 141 j = nI v := fun j hj => (hsv_q j hj).2.1
  have hb_q : ∀ i, i < n → ∃ b, b ≤ 5 ∧ S 133 i = nI b := fun i hi => hW_q.box hi
  have hp_q : I 3 1 = nI p := b6_q.trans b7_q.1
  refine wp_aload_n dL_law_603 rfl ?_
  refine wp_aload_n dL_law_604 rfl ?_
  refine wp_iload_n dL_law_605 rfl ?_
  refine wp_iconst 1 dL_law_606 (by decide) ?_
  refine wp_iadd dL_law_607 ?_
  refine wp_sld dL_law_608 rfl (nI_1 i) (by omega) (by omega) ?_
  refine wp_aload_n dL_law_609 rfl ?_
  refine wp_iload_n dL_law_610 rfl ?_
  refine wp_iconst 2 dL_law_611 (by decide) ?_
  refine wp_iadd dL_law_612 ?_
  refine wp_sld dL_law_613 rfl (nI_2 i) (by omega) (by omega) ?_
  refine wp_aload_n dL_law_614 rfl ?_
  refine wp_iload_n dL_law_615 rfl ?_
  refine wp_iconst 3 dL_law_616 (by decide) ?_
  refine wp_iadd dL_law_617 ?_
  refine wp_sld dL_law_618 rfl (nI_3 i) (by omega) (by omega) ?_
  refine g_callV3 (mj := mX10_drawn) dL_law_619 lkRL_86 mkX10_drawn (by first | rfl | assumption) (by decide) (by decide) (Nat.le_of_ble_eq_true rfl) (c_pdrawn hH_q hE_q hT9_q (fun x1_q => ?_) (fun x1_q x2_q => ?_) (fun m1 s1 m1_q s1_q em1_q es1_q x1_q x2_q I2 hI_q => ?_))
  · skip
    refine wp_aload_n dL_law_622 rfl ?_
    refine wp_aload_n dL_law_623 rfl ?_
    refine wp_iload_n dL_law_624 rfl ?_
    refine wp_iconst 1 dL_law_625 (by decide) ?_
    refine wp_iadd dL_law_626 ?_
    refine wp_sld dL_law_627 rfl (nI_1 i) (by omega) (by omega) ?_
    refine wp_aload_n dL_law_628 rfl ?_
    refine wp_iload_n dL_law_629 rfl ?_
    refine wp_iconst 2 dL_law_630 (by decide) ?_
    refine wp_iadd dL_law_631 ?_
    refine wp_sld dL_law_632 rfl (nI_2 i) (by omega) (by omega) ?_
    refine wp_aload_n dL_law_633 rfl ?_
    refine wp_iload_n dL_law_634 rfl ?_
    refine wp_iconst 3 dL_law_635 (by decide) ?_
    refine wp_iadd dL_law_636 ?_
    refine wp_sld dL_law_637 rfl (nI_3 i) (by omega) (by omega) ?_
    refine g_callV3 (mj := mX11_drawn) dL_law_638 lkRL_89 mkX11_drawn (by first | rfl | assumption) (by decide) (by decide) (Nat.le_of_ble_eq_true rfl) (c_drawn hW_q (fun y1_q => ?_) (fun y1_q y2_q => ?_) (fun m2 s2 m2_q s2_q em2_q es2_q y1_q y2_q S2 J2 he_q h18_q => ?_))
    · skip
      refine wp_icmp_eq dL_law_641 (fun hc_q => ?_) (fun hc_q => absurd (rfl) hc_q)
      exact kk_q _ _ _ _ _ _ _ _ (h_q) (by omega)
    · skip
      exact absurd y1_q x1_q
    · skip
      exact absurd y1_q x1_q
  · skip
    refine wp_aload_n dL_law_622 rfl ?_
    refine wp_aload_n dL_law_623 rfl ?_
    refine wp_iload_n dL_law_624 rfl ?_
    refine wp_iconst 1 dL_law_625 (by decide) ?_
    refine wp_iadd dL_law_626 ?_
    refine wp_sld dL_law_627 rfl (nI_1 i) (by omega) (by omega) ?_
    refine wp_aload_n dL_law_628 rfl ?_
    refine wp_iload_n dL_law_629 rfl ?_
    refine wp_iconst 2 dL_law_630 (by decide) ?_
    refine wp_iadd dL_law_631 ?_
    refine wp_sld dL_law_632 rfl (nI_2 i) (by omega) (by omega) ?_
    refine wp_aload_n dL_law_633 rfl ?_
    refine wp_iload_n dL_law_634 rfl ?_
    refine wp_iconst 3 dL_law_635 (by decide) ?_
    refine wp_iadd dL_law_636 ?_
    refine wp_sld dL_law_637 rfl (nI_3 i) (by omega) (by omega) ?_
    refine g_callV3 (mj := mX11_drawn) dL_law_638 lkRL_89 mkX11_drawn (by first | rfl | assumption) (by decide) (by decide) (Nat.le_of_ble_eq_true rfl) (c_drawn hW_q (fun y1_q => ?_) (fun y1_q y2_q => ?_) (fun m2 s2 m2_q s2_q em2_q es2_q y1_q y2_q S2 J2 he_q h18_q => ?_))
    · skip
      exact absurd x1_q y1_q
    · skip
      refine wp_icmp_eq dL_law_641 (fun hc_q => ?_) (fun hc_q => absurd (rfl) hc_q)
      exact kk_q _ _ _ _ _ _ _ _ (h_q) (by omega)
    · skip
      exact absurd x2_q y2_q
  · skip
    refine wp_aload_n dL_law_622 rfl ?_
    refine wp_aload_n dL_law_623 rfl ?_
    refine wp_iload_n dL_law_624 rfl ?_
    refine wp_iconst 1 dL_law_625 (by decide) ?_
    refine wp_iadd dL_law_626 ?_
    refine wp_sld dL_law_627 rfl (nI_1 i) (by omega) (by omega) ?_
    refine wp_aload_n dL_law_628 rfl ?_
    refine wp_iload_n dL_law_629 rfl ?_
    refine wp_iconst 2 dL_law_630 (by decide) ?_
    refine wp_iadd dL_law_631 ?_
    refine wp_sld dL_law_632 rfl (nI_2 i) (by omega) (by omega) ?_
    refine wp_aload_n dL_law_633 rfl ?_
    refine wp_iload_n dL_law_634 rfl ?_
    refine wp_iconst 3 dL_law_635 (by decide) ?_
    refine wp_iadd dL_law_636 ?_
    refine wp_sld dL_law_637 rfl (nI_3 i) (by omega) (by omega) ?_
    refine g_callV3 (mj := mX11_drawn) dL_law_638 lkRL_89 mkX11_drawn (by first | rfl | assumption) (by decide) (by decide) (Nat.le_of_ble_eq_true rfl) (c_drawn hW_q (fun y1_q => ?_) (fun y1_q y2_q => ?_) (fun m2 s2 m2_q s2_q em2_q es2_q y1_q y2_q S2 J2 he_q h18_q => ?_))
    · skip
      exact absurd x1_q y1_q
    · skip
      exact absurd y2_q x2_q
    · skip
      have e1_q : m1 = m2 := by rw [em1_q, nI_eqg (by omega) (by omega)] at em2_q; exact em2_q
      have e2_q : s1 = s2 := by rw [es1_q, nI_eq (by omega) (by omega)] at es2_q; exact es2_q
      subst e1_q
      subst e2_q
      refine wp_icmp_eq dL_law_641 (fun hc_q => ?_) (fun hc_q => absurd (rfl) hc_q)
      exact kk_q _ _ _ _ _ _ _ _ (h_q.drw hI_q he_q h18_q) (by omega)
set_option maxHeartbeats 4000000 in
theorem op_18 {Fn : FinT} {L : Nat} {xs : Nat → Int32} {i : Nat} {I S : Mem} {J : Mel} {n T p cr r : Nat} (hi_q : i + 4 ≤ L) (hL_q : L ≤ 2048) (h_q : LI n T p cr r I S) (hcr_q : cr ≤ i) (kk_q : KKw Fn L xs i) : WLw Fn L xs i I S J 646 [] := by
  unfold WLw
  obtain ⟨hH_q, hT9_q, hE_q, ⟨b1_q, b2_q, b3_q, b4_q, b5_q, b6_q, b7_q, b8_q, b9_q⟩, hK_q⟩ := id h_q
  have hW_q := hH_q.2.1
  have hn_q := hW_q.1
  have ha_q := hW_q.2.1
  obtain ⟨s, hs6_q, hs_q, hsv_q⟩ := id hE_q
  obtain ⟨l, hl6_q, hl_q, hlv_q⟩ := id hW_q.2.2.2.1
  have hv_q : ∀ j, j < s → ∃ v, v < 4 ∧ S 141 j = nI v := fun j hj => (hsv_q j hj).2.1
  have hb_q : ∀ i, i < n → ∃ b, b ≤ 5 ∧ S 133 i = nI b := fun i hi => hW_q.box hi
  have hp_q : I 3 1 = nI p := b6_q.trans b7_q.1
  refine wp_aload_n dL_law_646 rfl ?_
  refine g_callV0 (mj := mX10_image) dL_law_647 lkRL_90 mkX10_image (by first | rfl | assumption) (by decide) (by decide) (Nat.le_of_ble_eq_true rfl) (c_pimage hH_q hE_q (fun x1_q => ?_) (fun x1_q I2 hR2_q hf2_q => ?_))
  · skip
    refine wp_aload_n dL_law_650 rfl ?_
    refine g_callV0 (mj := mX11_image) dL_law_651 lkRL_93 mkX11_image (by first | rfl | assumption) (by decide) (by decide) (Nat.le_of_ble_eq_true rfl) (c_image (fun y1_q => ?_) (fun y1_q S2 hi2_q => ?_))
    · skip
      refine wp_icmp_eq dL_law_654 (fun hc_q => ?_) (fun hc_q => absurd (rfl) hc_q)
      exact kk_q _ _ _ _ _ _ _ _ (h_q) (by omega)
    · skip
      exact absurd x1_q y1_q
  · skip
    refine wp_aload_n dL_law_650 rfl ?_
    refine g_callV0 (mj := mX11_image) dL_law_651 lkRL_93 mkX11_image (by first | rfl | assumption) (by decide) (by decide) (Nat.le_of_ble_eq_true rfl) (c_image (fun y1_q => ?_) (fun y1_q S2 hi2_q => ?_))
    · skip
      exact absurd y1_q x1_q
    · skip
      refine wp_icmp_eq dL_law_654 (fun hc_q => ?_) (fun hc_q => absurd (rfl) hc_q)
      exact kk_q _ _ _ _ _ _ _ _ (h_q.pic hR2_q hf2_q hi2_q) (by omega)
set_option maxHeartbeats 4000000 in
theorem op_19 {Fn : FinT} {L : Nat} {xs : Nat → Int32} {i : Nat} {I S : Mem} {J : Mel} {n T p cr r : Nat} (hi_q : i + 4 ≤ L) (hL_q : L ≤ 2048) (h_q : LI n T p cr r I S) (hcr_q : cr ≤ i) (kk_q : KKw Fn L xs i) : WLw Fn L xs i I S J 659 [] := by
  unfold WLw
  obtain ⟨hH_q, hT9_q, hE_q, ⟨b1_q, b2_q, b3_q, b4_q, b5_q, b6_q, b7_q, b8_q, b9_q⟩, hK_q⟩ := id h_q
  have hW_q := hH_q.2.1
  have hn_q := hW_q.1
  have ha_q := hW_q.2.1
  obtain ⟨s, hs6_q, hs_q, hsv_q⟩ := id hE_q
  obtain ⟨l, hl6_q, hl_q, hlv_q⟩ := id hW_q.2.2.2.1
  have hv_q : ∀ j, j < s → ∃ v, v < 4 ∧ S 141 j = nI v := fun j hj => (hsv_q j hj).2.1
  have hb_q : ∀ i, i < n → ∃ b, b ≤ 5 ∧ S 133 i = nI b := fun i hi => hW_q.box hi
  have hp_q : I 3 1 = nI p := b6_q.trans b7_q.1
  rcases hK_q with ⟨i0_q, s0_q⟩ | ⟨i1_q, s1_q, T2, K, g1_q, g2_q, g3_q, g4_q⟩
  · skip
    refine wp_aload_n dL_law_659 rfl ?_
    refine g_callV0 (mj := mX10_restore) dL_law_660 lkRL_94 mkX10_restore (by first | rfl | assumption) (by decide) (by decide) (Nat.le_of_ble_eq_true rfl) (c_prestore (n := n) (T := T) (G := S) (fun q => absurd i0_q q) (fun _ => ?_) (fun q => absurd i0_q q))
    refine wp_aload_n dL_law_663 rfl ?_
    refine g_callV0 (mj := mX11_restore) dL_law_664 lkRL_97 mkX11_restore (by first | rfl | assumption) (by decide) (by decide) (Nat.le_of_ble_eq_true rfl) (c_restore (fun _ => ?_) (fun q => absurd q s0_q))
    refine wp_icmp_eq dL_law_667 (fun hc_q => ?_) (fun hc_q => absurd (rfl) hc_q)
    exact kk_q _ _ _ _ _ _ _ _ (h_q) (by omega)
  · skip
    refine wp_aload_n dL_law_659 rfl ?_
    refine g_callV0 (mj := mX10_restore) dL_law_660 lkRL_94 mkX10_restore (by first | rfl | assumption) (by decide) (by decide) (Nat.le_of_ble_eq_true rfl) (c_prestore (n := n) (T := T2) (G := K) (fun _ => ⟨g1_q, g3_q⟩) (fun q => absurd q (by rw [i1_q]; decide)) (fun _ I2 hR2_q hf2_q => ?_))
    refine wp_aload_n dL_law_663 rfl ?_
    refine g_callV0 (mj := mX11_restore) dL_law_664 lkRL_97 mkX11_restore (by first | rfl | assumption) (by decide) (by decide) (Nat.le_of_ble_eq_true rfl) (c_restore (fun q => absurd s1_q q) (fun _ S2 hr2_q => ?_))
    refine wp_icmp_eq dL_law_667 (fun hc_q => ?_) (fun hc_q => absurd (g4_q.2.2.2.1.symm) hc_q)
    exact kk_q _ _ _ _ _ _ _ _ (h_q.rst g1_q g2_q g3_q g4_q hR2_q hf2_q hr2_q) (by omega)
set_option maxHeartbeats 4000000 in
theorem op_20 {Fn : FinT} {L : Nat} {xs : Nat → Int32} {i : Nat} {I S : Mem} {J : Mel} {n T p cr r : Nat} (hi_q : i + 4 ≤ L) (hL_q : L ≤ 2048) (h_q : LI n T p cr r I S) (hcr_q : cr ≤ i) (kk_q : KKw Fn L xs i) : WLw Fn L xs i I S J 672 [] := by
  unfold WLw
  obtain ⟨hH_q, hT9_q, hE_q, ⟨b1_q, b2_q, b3_q, b4_q, b5_q, b6_q, b7_q, b8_q, b9_q⟩, hK_q⟩ := id h_q
  have hW_q := hH_q.2.1
  have hn_q := hW_q.1
  have ha_q := hW_q.2.1
  obtain ⟨s, hs6_q, hs_q, hsv_q⟩ := id hE_q
  obtain ⟨l, hl6_q, hl_q, hlv_q⟩ := id hW_q.2.2.2.1
  have hv_q : ∀ j, j < s → ∃ v, v < 4 ∧ S 141 j = nI v := fun j hj => (hsv_q j hj).2.1
  have hb_q : ∀ i, i < n → ∃ b, b ≤ 5 ∧ S 133 i = nI b := fun i hi => hW_q.box hi
  have hp_q : I 3 1 = nI p := b6_q.trans b7_q.1
  refine wp_aload_n dL_law_672 rfl ?_
  refine wp_aload_n dL_law_673 rfl ?_
  refine wp_iload_n dL_law_674 rfl ?_
  refine wp_iconst 1 dL_law_675 (by decide) ?_
  refine wp_iadd dL_law_676 ?_
  refine wp_sld dL_law_677 rfl (nI_1 i) (by omega) (by omega) ?_
  refine g_callV1 (mj := mX10_count) dL_law_678 lkRL_98 mkX10_count (by first | rfl | assumption) (by decide) (by decide) (Nat.le_of_ble_eq_true rfl) (c_pcount hH_q b1_q b3_q b6_q ?_)
  refine wp_aload_n dL_law_681 rfl ?_
  refine wp_aload_n dL_law_682 rfl ?_
  refine wp_iload_n dL_law_683 rfl ?_
  refine wp_iconst 1 dL_law_684 (by decide) ?_
  refine wp_iadd dL_law_685 ?_
  refine wp_sld dL_law_686 rfl (nI_1 i) (by omega) (by omega) ?_
  refine g_callV1 (mj := mX11_count) dL_law_687 lkRL_101 mkX11_count (by first | rfl | assumption) (by decide) (by decide) (Nat.le_of_ble_eq_true rfl) (c_count hn_q ha_q ?_)
  refine wp_icmp_eq dL_law_690 (fun hc_q => ?_) (fun hc_q => absurd (rfl) hc_q)
  exact kk_q _ _ _ _ _ _ _ _ (h_q) (by omega)
set_option maxHeartbeats 4000000 in
theorem op_21 {Fn : FinT} {L : Nat} {xs : Nat → Int32} {i : Nat} {I S : Mem} {J : Mel} {n T p cr r : Nat} (hi_q : i + 4 ≤ L) (hL_q : L ≤ 2048) (h_q : LI n T p cr r I S) (hcr_q : cr ≤ i) (kk_q : KKw Fn L xs i) : WLw Fn L xs i I S J 695 [] := by
  unfold WLw
  obtain ⟨hH_q, hT9_q, hE_q, ⟨b1_q, b2_q, b3_q, b4_q, b5_q, b6_q, b7_q, b8_q, b9_q⟩, hK_q⟩ := id h_q
  have hW_q := hH_q.2.1
  have hn_q := hW_q.1
  have ha_q := hW_q.2.1
  obtain ⟨s, hs6_q, hs_q, hsv_q⟩ := id hE_q
  obtain ⟨l, hl6_q, hl_q, hlv_q⟩ := id hW_q.2.2.2.1
  have hv_q : ∀ j, j < s → ∃ v, v < 4 ∧ S 141 j = nI v := fun j hj => (hsv_q j hj).2.1
  have hb_q : ∀ i, i < n → ∃ b, b ≤ 5 ∧ S 133 i = nI b := fun i hi => hW_q.box hi
  have hp_q : I 3 1 = nI p := b6_q.trans b7_q.1
  refine wp_aload_n dL_law_695 rfl ?_
  refine g_callV0 (mj := mX10_digest) dL_law_696 lkRL_102 mkX10_digest (by first | rfl | assumption) (by decide) (by decide) (Nat.le_of_ble_eq_true rfl) (c_pdig hH_q hE_q b1_q b3_q b6_q b7_q.1 b7_q.2.1 b8_q ?_)
  refine wp_aload_n dL_law_699 rfl ?_
  refine g_callV0 (mj := mX11_digest) dL_law_700 lkRL_106 mkX11_digest (by first | rfl | assumption) (by decide) (by decide) (Nat.le_of_ble_eq_true rfl) (c_digest hn_q ha_q hs_q hs6_q hv_q hl_q hl6_q b7_q.1 b7_q.2.1 hb_q (fun J2 => ?_))
  refine wp_lcmp dL_law_703 ?_
  refine wp_if_eq dL_law_704 (fun hc_q => ?_) (fun hc_q => absurd ((lg_cmp_eq _ _).mpr rfl) hc_q)
  exact kk_q _ _ _ _ _ _ _ _ (h_q) (by omega)
