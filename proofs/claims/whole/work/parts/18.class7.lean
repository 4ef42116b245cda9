/-! how often one went on: only a step does it -/
theorem g35_post (G : Mem) (t : Nat) (x y : Int32) : (fPost G t x y) 126 35 = G 126 35 := by unfold fPost; split <;> simp [uI_ap]
theorem g35_hear (G : Mem) (a f : Nat) : (fHear G a f) 126 35 = G 126 35 := by
  unfold fHear
  split
  · exact g35_post _ _ _ _
  · split
    · simp [fBegin, uI_ap]
    · simp [fStand, uI_ap]
theorem g35_lk (G : Mem) (a k : Nat) : (fLk G a k) 126 35 = G 126 35 := by
  induction k with
  | zero => rfl
  | succ k ih =>
    simp only [fLk]
    split
    · rw [g35_hear]; exact ih
    · exact ih
theorem g35_one (G : Mem) (a : Nat) : (fFallOne G a) 126 35 = G 126 35 := by
  unfold fFallOne
  rw [g35_lk]
  simp [fDown, uI_ap]
theorem g35_next (G : Mem) : (fNext G) 126 35 = G 126 35 := by
  unfold fNext
  split
  · rw [g35_one]; simp [uI_ap]
  · simp [uI_ap]
theorem g35_row (m : Nat) : ∀ G : Mem, (fRow m G) 126 35 = G 126 35 := by
  induction m with
  | zero => exact fun G => rfl
  | succ m ih =>
    intro G
    simp only [fRow]
    split
    · rw [ih, g35_next]
    · rfl
theorem g35_fall (G : Mem) (a : Nat) : (fFall G a) 126 35 = G 126 35 := by
  unfold fFall
  rw [g35_row]
  simp [fStand, uI_ap]
theorem snd_inj {y x t s : Nat} (hy : y < 6) (hx : x ≤ 7) (ht : t < 6) (hs : s ≤ 7) (h : nI (300 + 10 * y + x) = nI (300 + 10 * t + s)) : y = t ∧ x = s := by
  have := (nI_eqg (by omega) (by omega)).mp h
  omega
theorem fDoStep_w {G : Mem} {i x : Nat} (hx : G 131 i = nI x) (hx3 : x < 3) {v : Int32} (hv : G 129 (3 * i + x) = v) (h1 : ¬ (v < 400 ∧ 300 ≤ v)) (h2 : ¬ v = 400) (h3 : ¬ v = 500) : fDoStep G i = fWaits G i v := by
  unfold fDoStep
  rw [hx, tn_nI (by omega), hv, if_neg h1, if_neg h2, if_neg h3]
theorem v_wait {x : Nat} (hx : x ≤ 8) : ¬ (nI (100 + x) < 400 ∧ 300 ≤ nI (100 + x)) ∧ ¬ nI (100 + x) = 400 ∧ ¬ nI (100 + x) = 500 := by
  rw [show (300 : Int32) = nI 300 from rfl, show (400 : Int32) = nI 400 from rfl, show (500 : Int32) = nI 500 from rfl, nI_leg (by omega) (by omega), nI_eqg (by omega) (by omega), nI_eqg (by omega) (by omega)]
  omega
set_option maxHeartbeats 4000000 in
theorem c_cdoStep {I S : Mem} {J : Mel} {Q : Option Value → Mem → Mem → Mel → Prop} {n T k : Nat} {dl : Int32} {G : Mem} (hH_q : Hc n T dl I k G) {i : Nat} (hi_q : i < n) (kk_q : ∀ I' r, Rc n dl I' k (fDoStep G i) → Fr k I I' → (r = 0 ∨ r = 1) → (fDoStep G i) 126 35 = G 126 35 + r → Q (some (.int r)) I' S J) : M2 mX2_doStep 6 [.ref k, .int (nI i)] I S J Q := by
  obtain ⟨hC_q, hW_q, hR_q, hP_q, hT_q⟩ := id hH_q
  obtain ⟨c1_q, c2_q, c3_q, c4_q, c5_q, c6_q, c7_q, c8_q, c9_q, c10_q, c11_q, c12_q, c13_q, c14_q⟩ := id hC_q
  have hn_q := hW_q.1
  have c5i_q := c5_q i (by omega)
  have cAi_q := c12_q i (by omega)
  obtain ⟨a1i_q, a2i_q, aBi_q, a6i_q⟩ := id cAi_q
  obtain ⟨b1i_q, b2i_q, b3i_q, b4i_q, b5i_q, b6i_q⟩ := id aBi_q
  obtain ⟨r1i_q, r2i_q, r3i_q, r4i_q, r5i_q, r6i_q, r7i_q, r8i_q, r9i_q⟩ := hR_q.2.2.1 i (by omega)
  obtain ⟨-, -, ⟨t, x, w1_q, w2_q, w3_q, w4_q, w5_q, w6_q⟩, -⟩ := hW_q.2.2.2.2 i hi_q
  have hok_q := w6_q x w3_q
  have sR_q := hP_q.2.2 i hi_q x (by omega) (by rw [w4_q, tn_nI (by omega)]; exact w3_q)
  have p5_q : RA 15 2 = some 18 := rfl
  have e3x_q : I (k + 9 + 4 * i) 3 = nI x := r3i_q.trans w5_q
  refine m2_of [.ref k, .int (nI i), dum] moX2_doStep (Nat.le_of_ble_eq_true rfl) rfl ?_
  refine wp_aload_n dX2_doStep_0 rfl ?_
  refine wp_getA (by first | rfl | assumption) dX2_doStep_1 flRX2_35 (by first | rfl | assumption) ?_
  refine wp_iload_n dX2_doStep_4 rfl ?_
  refine wp_aload_n dX2_doStep_5 rfl ?_
  refine wp_getA (by first | rfl | assumption) dX2_doStep_6 flRX2_11 (by first | rfl | assumption) ?_
  refine wp_iload_n dX2_doStep_9 rfl ?_
  refine wp_aald c5i_q dX2_doStep_10 c4_q rfl (by omega) (by decide) ?_
  refine c_getI dX2_doStep_11 flRX2_80 (by first | rfl | assumption) (by omega) ?_
  rw [e3x_q]
  refine g_callV2 (mj := mX6_placeOf) dX2_doStep_14 lkRX2_83 mkX6_placeOf (by first | rfl | assumption) (by decide) (by decide) (Nat.le_of_ble_eq_true rfl) (c_placeOf ?_)
  refine st_i_3_2 dX2_doStep_17 (by decide) rfl ?_
  refine wp_aload_n dX2_doStep_18 rfl ?_
  refine wp_getA (by first | rfl | assumption) dX2_doStep_19 flRX2_35 (by first | rfl | assumption) ?_
  refine wp_getA (by first | rfl | assumption) dX2_doStep_22 flRX2_87 (by first | rfl | assumption) ?_
  refine wp_iload_n dX2_doStep_25 rfl ?_
  refine c_iald dX2_doStep_26 rfl rfl (by omega) (by omega) (by decide) ?_
  rcases sR_q with ⟨d_q, s_q, v_q⟩ | ⟨s, hs_q, d_q, s_q, v_q⟩ | ⟨y, s, hy_q, hs_q, d_q, t_q, s_q, v_q⟩ | ⟨d_q, v_q⟩ | ⟨d_q, v_q⟩
  · skip
    have sg_q : sgR (I 20 (3 * i + x)) 200 := Or.inl ⟨s_q, rfl⟩
    have ed_q := fDoStep_w w5_q (by omega) v_q (by decide) (by decide) (by decide)
    refine wp_tswIn (off := 25) (tgt := 52) dX2_doStep_27 1 d_q (by decide) (by decide) (by decide) (by decide) ?_
    refine wp_aload_n dX2_doStep_52 rfl ?_
    refine wp_iload_n dX2_doStep_53 rfl ?_
    refine wp_aload_n dX2_doStep_54 rfl ?_
    refine wp_getA (by first | rfl | assumption) dX2_doStep_55 flRX2_35 (by first | rfl | assumption) ?_
    refine wp_getA (by first | rfl | assumption) dX2_doStep_58 flRX2_90 (by first | rfl | assumption) ?_
    refine wp_iload_n dX2_doStep_61 rfl ?_
    refine c_iald dX2_doStep_62 rfl rfl (by omega) (by omega) (by decide) ?_
    refine g_callV2 (mj := mX2_waitFor) dX2_doStep_63 lkRX2_93 mkX2_waitFor (by first | rfl | assumption) (by decide) (by decide) (Nat.le_of_ble_eq_true rfl) (c_waitFor hH_q hi_q sg_q (fun I2 r m1_q m2_q m3_q m4_q => ?_))
    refine g_zret dX2_doStep_66 rfl m3_q ?_
    exact kk_q _ _ (by rw [ed_q]; exact m1_q) m2_q m3_q (by rw [ed_q]; exact m4_q)
  · skip
    have sg_q : sgR (I 20 (3 * i + x)) (nI (100 + s)) := Or.inr ⟨s, hs_q, s_q, rfl⟩
    have ed_q := fDoStep_w w5_q (by omega) v_q (v_wait hs_q).1 (v_wait hs_q).2.1 (v_wait hs_q).2.2
    refine wp_tswIn (off := 25) (tgt := 52) dX2_doStep_27 1 d_q (by decide) (by decide) (by decide) (by decide) ?_
    refine wp_aload_n dX2_doStep_52 rfl ?_
    refine wp_iload_n dX2_doStep_53 rfl ?_
    refine wp_aload_n dX2_doStep_54 rfl ?_
    refine wp_getA (by first | rfl | assumption) dX2_doStep_55 flRX2_35 (by first | rfl | assumption) ?_
    refine wp_getA (by first | rfl | assumption) dX2_doStep_58 flRX2_90 (by first | rfl | assumption) ?_
    refine wp_iload_n dX2_doStep_61 rfl ?_
    refine c_iald dX2_doStep_62 rfl rfl (by omega) (by omega) (by decide) ?_
    refine g_callV2 (mj := mX2_waitFor) dX2_doStep_63 lkRX2_93 mkX2_waitFor (by first | rfl | assumption) (by decide) (by decide) (Nat.le_of_ble_eq_true rfl) (c_waitFor hH_q hi_q sg_q (fun I2 r m1_q m2_q m3_q m4_q => ?_))
    refine g_zret dX2_doStep_66 rfl m3_q ?_
    exact kk_q _ _ (by rw [ed_q]; exact m1_q) m2_q m3_q (by rw [ed_q]; exact m4_q)
  · skip
    obtain ⟨f4_q, f3_q⟩ : G 129 (3 * i + x) < 400 ∧ 300 ≤ G 129 (3 * i + x) := by rw [v_q, show (300 : Int32) = nI 300 from rfl, show (400 : Int32) = nI 400 from rfl, nI_leg (by omega) (by omega), nI_ltg (by omega) (by omega)]; omega
    obtain ⟨t2, s2, ht2_q, hs2_q, ev_q, z1_q, z2_q⟩ := okS_snd hn_q hok_q f4_q f3_q
    obtain ⟨ey_q, es_q⟩ := snd_inj hy_q hs_q (by omega) hs2_q (v_q.symm.trans ev_q)
    subst ey_q
    subst es_q
    have hyn_q := ht2_q
    have ed_q : fDoStep G i = fGoOn (fPost G y (nI s) (nI i)) i := by unfold fDoStep; rw [w5_q, tn_nI (by omega), if_pos ⟨f4_q, f3_q⟩, z1_q, z2_q, tn_nI (by omega)]
    refine wp_tswIn (off := 40) (tgt := 67) dX2_doStep_27 2 d_q (by decide) (by decide) (by decide) (by decide) ?_
    refine wp_aload_n dX2_doStep_67 rfl ?_
    refine wp_aload_n dX2_doStep_68 rfl ?_
    refine wp_getA (by first | rfl | assumption) dX2_doStep_69 flRX2_35 (by first | rfl | assumption) ?_
    refine wp_getA (by first | rfl | assumption) dX2_doStep_72 flRX2_97 (by first | rfl | assumption) ?_
    refine wp_iload_n dX2_doStep_75 rfl ?_
    refine c_iald dX2_doStep_76 rfl rfl (by omega) (by omega) (by decide) ?_
    refine wp_aload_n dX2_doStep_77 rfl ?_
    refine wp_getA (by first | rfl | assumption) dX2_doStep_78 flRX2_35 (by first | rfl | assumption) ?_
    refine wp_getA (by first | rfl | assumption) dX2_doStep_81 flRX2_90 (by first | rfl | assumption) ?_
    refine wp_iload_n dX2_doStep_84 rfl ?_
    refine c_iald dX2_doStep_85 rfl rfl (by omega) (by omega) (by decide) ?_
    rw [t_q, s_q]
    refine wp_iload_n dX2_doStep_86 rfl ?_
    refine g_callV3 (mj := mX2_post) dX2_doStep_87 lkRX2_100 mkX2_post (by first | rfl | assumption) (by decide) (by decide) (Nat.le_of_ble_eq_true rfl) (c_cpost hH_q hyn_q (fun I2 m1_q m2_q => ?_))
    have hh_q := hH_q.go (hW_q.post hyn_q ⟨⟨s, by omega, rfl⟩, Or.inr ⟨i, by omega, rfl⟩⟩) m1_q m2_q (kpD.post _ _ _ _) hT_q
    refine wp_aload_n dX2_doStep_90 rfl ?_
    refine wp_iload_n dX2_doStep_91 rfl ?_
    refine g_callV1 (mj := mX2_goOn) dX2_doStep_92 lkRX2_104 mkX2_goOn (by first | rfl | assumption) (by decide) (by decide) (Nat.le_of_ble_eq_true rfl) (c_cgoOn hh_q hi_q (fun I3 m3_q m4_q => ?_))
    refine wp_iconst 1 dX2_doStep_95 (by decide) ?_
    refine g_zret dX2_doStep_96 rfl (by decide) ?_
    refine kk_q _ _ (by rw [ed_q]; exact m3_q) (m2_q.tr m4_q) (Or.inr rfl) ?_
    rw [ed_q, fGoOn_g, g35_post]
  · skip
    have ed_q : fDoStep G i = fGoOn G i := by unfold fDoStep; rw [w5_q, tn_nI (by omega), v_q, if_neg (by decide), if_pos rfl]
    refine wp_tswOut (tgt := 109) dX2_doStep_27 (by rw [d_q]; decide) (by decide) ?_
    refine wp_aload_n dX2_doStep_109 rfl ?_
    refine wp_iload_n dX2_doStep_110 rfl ?_
    refine g_callV1 (mj := mX2_goOn) dX2_doStep_111 lkRX2_104 mkX2_goOn (by first | rfl | assumption) (by decide) (by decide) (Nat.le_of_ble_eq_true rfl) (c_cgoOn hH_q hi_q (fun I2 m1_q m2_q => ?_))
    refine wp_iconst 1 dX2_doStep_114 (by decide) ?_
    refine g_zret dX2_doStep_115 rfl (by first | decide | assumption) ?_
    refine kk_q _ _ (by rw [ed_q]; exact m1_q) m2_q (Or.inr rfl) ?_
    rw [ed_q, fGoOn_g]
  · skip
    have ed_q : fDoStep G i = fFall (fGoOn G i) i := by unfold fDoStep; rw [w5_q, tn_nI (by omega), v_q, if_neg (by decide), if_neg (by decide), if_pos rfl]
    refine wp_tswIn (off := 70) (tgt := 97) dX2_doStep_27 3 d_q (by decide) (by decide) (by decide) (by decide) ?_
    refine wp_aload_n dX2_doStep_97 rfl ?_
    refine wp_iload_n dX2_doStep_98 rfl ?_
    refine g_callV1 (mj := mX2_goOn) dX2_doStep_99 lkRX2_104 mkX2_goOn (by first | rfl | assumption) (by decide) (by decide) (Nat.le_of_ble_eq_true rfl) (c_cgoOn hH_q hi_q (fun I2 m1_q m2_q => ?_))
    have hh_q := hH_q.go (hW_q.goOn hi_q) m1_q m2_q (kpD.goOn _ _) hT_q
    refine wp_aload_n dX2_doStep_102 rfl ?_
    refine wp_iload_n dX2_doStep_103 rfl ?_
    refine g_callV1 (mj := mX2_fall) dX2_doStep_104 lkRX2_107 mkX2_fall (by first | rfl | assumption) (by decide) (by decide) (Nat.le_of_ble_eq_true rfl) (c_cfall hh_q hi_q (fun I3 m3_q m4_q => ?_))
    refine wp_iconst 1 dX2_doStep_107 (by decide) ?_
    refine g_zret dX2_doStep_108 rfl (by first | decide | assumption) ?_
    refine kk_q _ _ (by rw [ed_q]; exact m3_q) (m2_q.tr m4_q) (Or.inr rfl) ?_
    rw [ed_q, g35_fall, fGoOn_g]
set_option maxHeartbeats 4000000 in
theorem l_run {I0 S : Mem} {J : Mel} {Q : Option Value → Mem → Mem → Mel → Prop} {n T k : Nat} {dl : Int32} {G : Mem} {g0 : Int32} (hW_q : WS n T G) (hg_q : G 126 35 = g0) (kk_q : ∀ I' r, Rc n dl I' k (fTk G n) → Fr k I0 I' → (fTk G n) 126 35 = g0 + r → Q (some (.int r)) I' S J) : ∀ (x : Nat) (I : Mem) (r : Int32), (x ≤ n) → (Hc n T dl I k (fTk G x)) → (Fr k I0 I) → ((fTk G x) 126 35 = g0 + r) → W2 mX2_runTick 7 Q I S J 14 [.ref k, .int r, .int (nI x)] [] := by
  intro x I r
  induction hm : n - x using Nat.strongRecOn generalizing x I r with
  | _ c ih =>
    intro hx_q hH_q hF_q hr_q
    obtain ⟨hC_q, hWx_q, hR_q, hP_q, hT_q⟩ := id hH_q
    obtain ⟨c1_q, c2_q, c3_q, c4_q, c5_q, c6_q, c7_q, c8_q, c9_q, c10_q, c11_q, c12_q, c13_q, c14_q⟩ := id hC_q
    have hn_q := hW_q.1
    have hpn_q := hP_q.1
    refine wp_iload_n dX2_runTick_14 rfl ?_
    refine wp_aload_n dX2_runTick_15 rfl ?_
    refine wp_getA (by first | rfl | assumption) dX2_runTick_16 flRX2_35 (by first | rfl | assumption) ?_
    refine c_getI dX2_runTick_19 flRX2_40 (by first | rfl | assumption) (by omega) ?_
    refine wp_icmp_ge dX2_runTick_22 (fun h22 => ?_) (fun h22 => ?_)
    · skip
      refine wp_iload_n dX2_runTick_54 rfl ?_
      refine g_iret dX2_runTick_55 rfl ?_
      have e_q : x = n := by rw [hpn_q, nI_leg (by omega) (by omega)] at h22; omega
      rw [e_q] at hR_q hr_q
      exact kk_q _ _ hR_q hF_q hr_q
    · skip
      have hxn_q : x < n := by rw [hpn_q, nI_leg (by omega) (by omega)] at h22; omega
      have c5x_q := c5_q x (by omega)
      have a1x_q := (c12_q x (by omega)).1
      obtain ⟨u1_q, u2_q⟩ := hH_q.u01 hxn_q
      refine wp_aload_n dX2_runTick_25 rfl ?_
      refine wp_getA (by first | rfl | assumption) dX2_runTick_26 flRX2_11 (by first | rfl | assumption) ?_
      refine wp_iload_n dX2_runTick_29 rfl ?_
      refine wp_aald c5x_q dX2_runTick_30 c4_q rfl (by omega) (by decide) ?_
      refine c_getZ dX2_runTick_31 flRX2_72 (by first | rfl | assumption) (by omega) ?_
      refine wp_if_eq dX2_runTick_34 (fun h34 => ?_) (fun h34 => ?_)
      · skip
        refine ic_3_2 (nI (x + 1)) dX2_runTick_48 (nI_inc x) (by decide) rfl ?_
        refine wp_goto dX2_runTick_51 ?_
        first | (have ee_q : fTk G (x + 1) = fTk G x := (by simp only [fTk]; exact if_neg (by rw [← u1_q, h34]; decide)); exact ih _ (by omega) (x + 1) I r rfl (by omega) (by rw [ee_q]; exact hH_q) hF_q (by rw [ee_q]; exact hr_q)) | (have ee_q : fTk G (x + 1) = fDoStep (fTk G x) x := (by simp only [fTk]; exact if_pos (u2_q.resolve_left (by rw [← u1_q]; exact h34))); first | exact ih _ (by omega) (x + 1) I2 r rfl (by omega) (by rw [ee_q]; exact hH_q.go (hWx_q.doStep hxn_q) m1_q m2_q (kpD.doStep _ _) hT_q) (hF_q.tr m2_q) (by rw [ee_q, m4_q, hr_q, h42, Int32.add_zero]) | exact ih _ (by omega) (x + 1) I2 (r + Int32.ofInt 1) rfl (by omega) (by rw [ee_q]; exact hH_q.go (hWx_q.doStep hxn_q) m1_q m2_q (kpD.doStep _ _) hT_q) (hF_q.tr m2_q) (by rw [ee_q, m4_q, hr_q, m3_q.resolve_left h42, Int32.add_assoc]; rfl))
      · skip
        refine wp_aload_n dX2_runTick_37 rfl ?_
        refine wp_iload_n dX2_runTick_38 rfl ?_
        refine g_callV1 (mj := mX2_doStep) dX2_runTick_39 lkRX2_76 mkX2_doStep (by first | rfl | assumption) (by decide) (by decide) (Nat.le_of_ble_eq_true rfl) (c_cdoStep hH_q hxn_q (fun I2 r2 m1_q m2_q m3_q m4_q => ?_))
        refine wp_if_eq dX2_runTick_42 (fun h42 => ?_) (fun h42 => ?_)
        · skip
          refine ic_3_2 (nI (x + 1)) dX2_runTick_48 (nI_inc x) (by decide) rfl ?_
          refine wp_goto dX2_runTick_51 ?_
          first | (have ee_q : fTk G (x + 1) = fTk G x := (by simp only [fTk]; exact if_neg (by rw [← u1_q, h34]; decide)); exact ih _ (by omega) (x + 1) I r rfl (by omega) (by rw [ee_q]; exact hH_q) hF_q (by rw [ee_q]; exact hr_q)) | (have ee_q : fTk G (x + 1) = fDoStep (fTk G x) x := (by simp only [fTk]; exact if_pos (u2_q.resolve_left (by rw [← u1_q]; exact h34))); first | exact ih _ (by omega) (x + 1) I2 r rfl (by omega) (by rw [ee_q]; exact hH_q.go (hWx_q.doStep hxn_q) m1_q m2_q (kpD.doStep _ _) hT_q) (hF_q.tr m2_q) (by rw [ee_q, m4_q, hr_q, h42, Int32.add_zero]) | exact ih _ (by omega) (x + 1) I2 (r + Int32.ofInt 1) rfl (by omega) (by rw [ee_q]; exact hH_q.go (hWx_q.doStep hxn_q) m1_q m2_q (kpD.doStep _ _) hT_q) (hF_q.tr m2_q) (by rw [ee_q, m4_q, hr_q, m3_q.resolve_left h42, Int32.add_assoc]; rfl))
        · skip
          refine ic_3_1 _ dX2_runTick_45 rfl (by decide) rfl ?_
          refine ic_3_2 (nI (x + 1)) dX2_runTick_48 (nI_inc x) (by decide) rfl ?_
          refine wp_goto dX2_runTick_51 ?_
          first | (have ee_q : fTk G (x + 1) = fTk G x := (by simp only [fTk]; exact if_neg (by rw [← u1_q, h34]; decide)); exact ih _ (by omega) (x + 1) I r rfl (by omega) (by rw [ee_q]; exact hH_q) hF_q (by rw [ee_q]; exact hr_q)) | (have ee_q : fTk G (x + 1) = fDoStep (fTk G x) x := (by simp only [fTk]; exact if_pos (u2_q.resolve_left (by rw [← u1_q]; exact h34))); first | exact ih _ (by omega) (x + 1) I2 r rfl (by omega) (by rw [ee_q]; exact hH_q.go (hWx_q.doStep hxn_q) m1_q m2_q (kpD.doStep _ _) hT_q) (hF_q.tr m2_q) (by rw [ee_q, m4_q, hr_q, h42, Int32.add_zero]) | exact ih _ (by omega) (x + 1) I2 (r + Int32.ofInt 1) rfl (by omega) (by rw [ee_q]; exact hH_q.go (hWx_q.doStep hxn_q) m1_q m2_q (kpD.doStep _ _) hT_q) (hF_q.tr m2_q) (by rw [ee_q, m4_q, hr_q, m3_q.resolve_left h42, Int32.add_assoc]; rfl))
set_option maxHeartbeats 4000000 in
theorem c_runTick {I S : Mem} {J : Mel} {Q : Option Value → Mem → Mem → Mel → Prop} {n T k : Nat} {dl : Int32} {G : Mem} (hH_q : Hc n T dl I k G) (hT1_q : T + 1 < 100000) (kk_q : ∀ I' r, Rc n dl I' k (fTick G) → Fr k I I' → (fTick G) 126 35 = G 126 35 + r → Q (some (.int r)) I' S J) : M2 mX2_runTick 7 [.ref k] I S J Q := by
  obtain ⟨hC_q, hW_q, hR_q, hP_q, hT_q⟩ := id hH_q
  obtain ⟨c1_q, c2_q, c3_q, c4_q, c5_q, c6_q, c7_q, c8_q, c9_q, c10_q, c11_q, c12_q, c13_q, c14_q⟩ := id hC_q
  have hn_q := hW_q.1
  refine m2_of [.ref k, dum, dum] moX2_runTick (Nat.le_of_ble_eq_true rfl) rfl ?_
  refine wp_aload_n dX2_runTick_0 rfl ?_
  refine wp_dup dX2_runTick_1 rfl ?_
  refine c_getI dX2_runTick_2 flRX2_60 (by first | rfl | assumption) (by omega) ?_
  refine wp_iconst 1 dX2_runTick_5 (by decide) ?_
  refine wp_iadd dX2_runTick_6 ?_
  refine c_putI dX2_runTick_7 flRX2_60 (by first | rfl | assumption) (by omega) ?_
  refine wp_iconst 0 dX2_runTick_10 (by decide) ?_
  refine st_i_3_1 dX2_runTick_11 (by decide) rfl ?_
  refine wp_iconst 0 dX2_runTick_12 (by decide) ?_
  refine st_i_3_2 dX2_runTick_13 (by decide) rfl ?_
  have hH1_q : Hc n (T + 1) dl (uI I k 6 (I k 6 + 1)) k (uI G 126 16 (G 126 16 + 1)) := hH_q.go hW_q.time (by rw [hR_q.1]; exact hR_q.time hW_q.bx) (Fr.rf.st (by omega)) (kpD.rf.st (by omega)) hT1_q
  unfold fTick at kk_q
  rw [hW_q.2.1, tn_nI (by omega)] at kk_q
  exact l_run (g0 := G 126 35) hW_q.time (by rw [uI_ap, if_neg (by omega)]) kk_q 0 _ 0 (by omega) hH1_q (Fr.rf.st (by omega)) (by show (uI G 126 16 (G 126 16 + 1)) 126 35 = _; rw [uI_ap, if_neg (by omega), Int32.add_zero])
