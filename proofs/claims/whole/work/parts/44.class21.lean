theorem dwD.post {n : Nat} (S : Mem) (t : Nat) (x y : Int32) : dwD n S (fPost S t x y) := by
  unfold fPost
  split <;> exact dwD.same (by simp [uI_ne]) (by simp [uI_ap])
theorem dwD.goOn {n : Nat} (S : Mem) (a : Nat) : dwD n S (fGoOn S a) := by
  unfold fGoOn
  exact dwD.same (by simp [uI_ne]) (by simp [uI_ap])
theorem dwD.take {n : Nat} (S : Mem) (a p : Nat) : dwD n S (fTake S a p) := by
  unfold fTake
  exact dwD.same (by rw [uI_ne (by decide), tkS_n _ _ _ _ (by decide) (by decide)]) (by rw [uI_ne (by decide), tkS_n _ _ _ _ (by decide) (by decide)])
theorem dwD.u132 {n : Nat} (S : Mem) (a : Nat) (x : Int32) : dwD n S (uI S 132 a x) := dwD.same (uI_ne (by decide)) (by rw [uI_ne (by decide)])
theorem dwD.waits {n : Nat} (S : Mem) (a : Nat) (u : Int32) : dwD n S (fWaits S a u) := by
  unfold fWaits
  split
  · split
    · exact ((dwD.u132 _ _ _).tr (dwD.u132 _ _ _)).tr (dwD.goOn _ _)
    · exact dwD.u132 _ _ _
  · exact ((dwD.take _ _ _).tr (dwD.u132 _ _ _)).tr (dwD.goOn _ _)
theorem dwD.doStep {n T a : Nat} {S : Mem} (h : WS n T S) (ha : a < n) : dwD n S (fDoStep S a) := by
  unfold fDoStep
  split
  · exact (dwD.post _ _ _ _).tr (dwD.goOn _ _)
  · split
    · exact dwD.goOn _ _
    · split
      · exact (dwD.goOn _ _).tr (dwD.fall (h.goOn ha) ha)
      · exact dwD.waits _ _ _
theorem dwD.tk {n T : Nat} {S : Mem} (h : WS n T S) : ∀ i, i ≤ n → dwD n S (fTk S i) := by
  intro i
  induction i with
  | zero => exact fun _ => dwD.same rfl rfl
  | succ i ih =>
    intro hi
    simp only [fTk]
    split
    · exact (ih (by omega)).tr (dwD.doStep (h.tk i (by omega)) (by omega))
    · exact ih (by omega)
theorem dwD.tick {n T : Nat} {S : Mem} (h : WS n T S) : dwD n S (fTick S) := by
  unfold fTick
  have hn := h.1
  rw [h.2.1, tn_nI (by omega)]
  exact dwD.tr (dwD.same (uI_ne (by decide)) (by rw [uI_ap, if_neg (by decide)])) (dwD.tk h.time n (by omega))
theorem dwD.dwn {n T s : Nat} {S : Mem} (h : WS n T S) (hn : 1 ≤ n) (m : Nat) : dwD n S (dwn n m (S, s)).1 := by
  induction m with
  | zero => exact dwD.same rfl rfl
  | succ m ih => exact (ih.tr (dwD.post _ _ _ _)).tr (dwD.tick ((h.dwn hn m).post (Nat.mod_lt _ (by omega)) (okLm (Nat.mod_lt _ (by decide)))))
set_option maxHeartbeats 4000000 in
theorem l_pdr {I0 G S : Mem} {J : Mel} {Q : Option Value → Mem → Mem → Mel → Prop} {n T m s : Nat} {dl x2 v : Int32} (hW_q : WS n T G) (hT9_q : T ≤ 9999) (hn1_q : 1 ≤ n) (hs_q : s < 2147483648) (hm_q : m ≤ 30) (k : ∀ (I2 : Mem) (a b : Value), Hc n (T + m) dl I2 90 (dwn n m (G, s)).1 → I2 125 0 = nI (dwn n m (G, s)).2 → (∀ b, b < 90 → I2 b = I0 b) → W2 mX10_drawn 8 Q I2 S J 121 [.ref 2, .int (nI m), .int x2, .int v, .int (nI m), a, b] []) : ∀ (x : Nat) (I : Mem) (a b : Value), (x ≤ m) → (Hc n (T + x) dl I 90 (dwn n x (G, s)).1) → (I 125 0 = nI (dwn n x (G, s)).2) → (∀ b, b < 90 → I b = I0 b) → W2 mX10_drawn 8 Q I S J 62 [.ref 2, .int (nI m), .int x2, .int v, .int (nI x), a, b] [] := by
  intro x I a b
  induction hm : m - x using Nat.strongRecOn generalizing x I a b with
  | _ c ih =>
    intro hx_q hH_q hd_q hf_q
    have hn_q := hW_q.1
    obtain ⟨p1_q, p2_q, p3_q, p4_q, p5_q, p6_q, p7_q, p8_q, p9_q⟩ := id plan15
    refine wp_iload dX10_drawn_62 rfl ?_
    refine wp_iload_n dX10_drawn_64 rfl ?_
    refine wp_icmp_ge dX10_drawn_65 (fun h65 => ?_) (fun h65 => ?_)
    · skip
      have e_q : x = m := by rw [nI_leg (by omega) (by omega)] at h65; omega
      subst e_q; exact k I a b hH_q hd_q hf_q
    · skip
      have hxm_q : x < m := by rw [nI_leg (by omega) (by omega)] at h65; omega
      have hsx_q : (dwn n x (G, s)).2 < 2147483648 := dwn_lt hs_q
      refine wp_aload_n dX10_drawn_68 rfl ?_
      refine wp_getA (by first | rfl | assumption) dX10_drawn_69 flRX10_55 (by first | rfl | assumption) ?_
      refine wp_aload_n dX10_drawn_72 rfl ?_
      refine wp_getA (by first | rfl | assumption) dX10_drawn_73 flRX10_26 (by first | rfl | assumption) ?_
      refine c_getI dX10_drawn_76 flRX10_89 (by first | rfl | assumption) (by omega) ?_
      rw [hH_q.2.2.2.1.1]
      refine g_callV1 (mj := mX3_draw) dX10_drawn_79 lkRX10_206 mkX3_draw (by first | rfl | assumption) (by decide) (by decide) (Nat.le_of_ble_eq_true rfl) (c_cdraw hsx_q hn1_q (by omega) hd_q ?_)
      refine st_i_7_5 dX10_drawn_82 (by decide) rfl ?_
      refine wp_aload_n dX10_drawn_84 rfl ?_
      refine wp_getA (by first | rfl | assumption) dX10_drawn_85 flRX10_55 (by first | rfl | assumption) ?_
      refine wp_bipush 8 dX10_drawn_88 (by decide) ?_
      refine g_callV1 (mj := mX3_draw) dX10_drawn_90 lkRX10_206 mkX3_draw (by first | rfl | assumption) (by decide) (by decide) (Nat.le_of_ble_eq_true rfl) (c_cdraw (m := 8) (sN_lt _) (by omega) (by omega) (uI_self _ _ _ _) ?_)
      refine st_i_7_6 dX10_drawn_93 (by decide) rfl ?_
      have hHa_q := (hH_q.out (b := 125) (j := 0) (x := nI (sN (dwn n x (G, s)).2)) (by omega)).out (b := 125) (j := 0) (x := nI (sN (sN (dwn n x (G, s)).2))) (by omega)
      refine wp_aload_n dX10_drawn_95 rfl ?_
      refine wp_getA (by first | rfl | assumption) dX10_drawn_96 flRX10_42 (by first | rfl | assumption) ?_
      refine wp_iload dX10_drawn_99 rfl ?_
      refine wp_iload dX10_drawn_101 rfl ?_
      refine wp_iconst (-1) dX10_drawn_103 (by decide) ?_
      refine g_callV3 (mj := mX2_post) dX10_drawn_104 lkRX10_132 mkX2_post (by first | rfl | assumption) (by decide) (by decide) (Nat.le_of_ble_eq_true rfl) (c_cpost hHa_q (Nat.mod_lt _ (by omega)) (fun I3 hR3_q hf3_q => ?_))
      have hH3_q := hHa_q.go (hHa_q.2.1.post (Nat.mod_lt _ (by omega)) (okLm (Nat.mod_lt _ (by decide)))) hR3_q hf3_q (kpD.post _ _ _ _) (by omega)
      refine wp_aload_n dX10_drawn_107 rfl ?_
      refine wp_getA (by first | rfl | assumption) dX10_drawn_108 flRX10_42 (by first | rfl | assumption) ?_
      refine g_callV0 (mj := mX2_runTick) dX10_drawn_111 lkRX10_142 mkX2_runTick (by first | rfl | assumption) (by decide) (by decide) (Nat.le_of_ble_eq_true rfl) (c_runTick hH3_q (by omega) (fun I4 r hR4_q hf4_q he4_q => ?_))
      have hH4_q := hH3_q.go hH3_q.2.1.tick hR4_q hf4_q (kpD.tick _) (by omega)
      refine wp_pop dX10_drawn_114 rfl ?_
      refine ic_7_4 (nI (x + 1)) dX10_drawn_115 (nI_inc x) (by decide) rfl ?_
      refine wp_goto dX10_drawn_118 ?_
      refine ih _ (by omega) (x + 1) I4 _ _ rfl (by omega) hH4_q ?_ (fun b hb_q => ?_)
      · rw [hf4_q 125 (by omega), hf3_q 125 (by omega), uI_self]; rfl
      · rw [hf4_q b (by omega), hf3_q b (by omega), uI_ne (by omega), uI_ne (by omega)]; exact hf_q b hb_q
set_option maxHeartbeats 4000000 in
theorem c_pdrawn {I S : Mem} {J : Mel} {Q : Option Value → Mem → Mem → Mel → Prop} {n T : Nat} {G : Mem} (hH_q : Hc n T 0 I 24 G) (hE_q : WSe n G) (hT9_q : T ≤ 9999) {x y v : Int32} (k1_q : ¬ ((1 ≤ x ∧ x ≤ 30) ∧ ¬ y < 0 ∧ (0 ≤ v ∧ v ≤ 2)) → Q (some (.int (-102))) I S J) (k2_q : ((1 ≤ x ∧ x ≤ 30) ∧ ¬ y < 0 ∧ (0 ≤ v ∧ v ≤ 2)) → G 126 1 = 0 → Q (some (.int (-103))) I S J) (k : ∀ m s, m ≤ 30 → s < 2147483648 → x = nI m → y = nI s → ((1 ≤ x ∧ x ≤ 30) ∧ ¬ y < 0 ∧ (0 ≤ v ∧ v ≤ 2)) → ¬ G 126 1 = 0 → ∀ (I2 : Mem), (∀ b, b < 90 → I2 b = I b) → Q (some (.int (spDr n G m s v))) I2 S J) : M2 mX10_drawn 8 [.ref 2, .int x, .int y, .int v] I S J Q := by
  obtain ⟨hC_q, hW_q, hR_q, hP_q, hT_q⟩ := id hH_q
  obtain ⟨c1_q, c2_q, c3_q, c4_q, c5_q, c6_q, c7_q, c8_q, c9_q, c10_q, c11_q, c12_q, c13_q, c14_q⟩ := id hC_q
  have hn_q := hW_q.1
  obtain ⟨s, hs6_q, hs_q, hsv_q⟩ := id hE_q
  obtain ⟨l, hl6_q, hl_q, hlv_q⟩ := id hW_q.2.2.2.1
  refine m2_of [.ref 2, .int x, .int y, .int v, dum, dum, dum] moX10_drawn (Nat.le_of_ble_eq_true rfl) rfl ?_
  refine wp_iload_n dX10_drawn_0 rfl ?_
  refine wp_iconst 1 dX10_drawn_1 (by decide) ?_
  refine wp_icmp_lt dX10_drawn_2 (fun h2 => ?_) (fun h2 => ?_)
  · skip
    refine wp_bipush (-102) dX10_drawn_24 (by decide) ?_
    refine g_iret dX10_drawn_26 rfl ?_
    exact k1_q (by grind)
  · skip
    refine wp_iload_n dX10_drawn_5 rfl ?_
    refine wp_bipush 30 dX10_drawn_6 (by decide) ?_
    refine wp_icmp_gt dX10_drawn_8 (fun h8 => ?_) (fun h8 => ?_)
    · skip
      refine wp_bipush (-102) dX10_drawn_24 (by decide) ?_
      refine g_iret dX10_drawn_26 rfl ?_
      exact k1_q (by grind)
    · skip
      refine wp_iload_n dX10_drawn_11 rfl ?_
      refine wp_if_lt dX10_drawn_12 (fun h12 => ?_) (fun h12 => ?_)
      · skip
        refine wp_bipush (-102) dX10_drawn_24 (by decide) ?_
        refine g_iret dX10_drawn_26 rfl ?_
        exact k1_q (by grind)
      · skip
        refine wp_iload_n dX10_drawn_15 rfl ?_
        refine wp_if_lt dX10_drawn_16 (fun h16 => ?_) (fun h16 => ?_)
        · skip
          refine wp_bipush (-102) dX10_drawn_24 (by decide) ?_
          refine g_iret dX10_drawn_26 rfl ?_
          exact k1_q (by grind)
        · skip
          refine wp_iload_n dX10_drawn_19 rfl ?_
          refine wp_iconst 2 dX10_drawn_20 (by decide) ?_
          refine wp_icmp_le dX10_drawn_21 (fun h21 => ?_) (fun h21 => ?_)
          · skip
            have hc_q : ((1 ≤ x ∧ x ≤ 30) ∧ ¬ y < 0 ∧ (0 ≤ v ∧ v ≤ 2)) := by grind
            refine wp_aload_n dX10_drawn_27 rfl ?_
            refine wp_getA (by first | rfl | assumption) dX10_drawn_28 flRX10_26 (by first | rfl | assumption) ?_
            refine g_callV0 (mj := mX6_isNone) dX10_drawn_31 lkRX10_136 mkX6_isNone (by first | rfl | assumption) (by decide) (by decide) (Nat.le_of_ble_eq_true rfl) (c_isNone plan15 ?_)
            refine wp_if_eq dX10_drawn_34 (fun h34 => ?_) (fun h34 => ?_)
            · skip
              have n0_q : ¬ G 126 1 = 0 := fun q => b01_e0 (by first | exact h34 | exact Classical.not_not.mp h34) (by rw [hP_q.1, ← hW_q.2.1]; exact q)
              have hn1_q : 1 ≤ n := by rcases (show n = 0 ∨ 1 ≤ n by omega) with e_q | e_q; (rw [hW_q.2.1, e_q] at n0_q; exact absurd rfl n0_q); exact e_q
              refine wp_aload_n dX10_drawn_40 rfl ?_
              refine wp_getA (by first | rfl | assumption) dX10_drawn_41 flRX10_42 (by first | rfl | assumption) ?_
              refine wp_aload_n dX10_drawn_44 rfl ?_
              refine wp_getA (by first | rfl | assumption) dX10_drawn_45 flRX10_35 (by first | rfl | assumption) ?_
              refine g_callV1 (mj := mX2_copyFrom) dX10_drawn_48 lkRX10_181 mkX2_copyFrom (by first | rfl | assumption) (by decide) (by decide) (Nat.le_of_ble_eq_true rfl) (c_ccopy crew90 hH_q (by omega) hl_q hl6_q hs_q hs6_q (fun I2 hR2_q hf2_q => ?_))
              refine wp_aload_n dX10_drawn_51 rfl ?_
              refine wp_getA (by first | rfl | assumption) dX10_drawn_52 flRX10_55 (by first | rfl | assumption) ?_
              refine wp_iload_n dX10_drawn_55 rfl ?_
              refine c_putI dX10_drawn_56 flRX10_203 (by first | rfl | assumption) (by omega) ?_
              refine wp_iconst 0 dX10_drawn_59 (by decide) ?_
              refine st_i_7_4 dX10_drawn_60 (by decide) rfl ?_
              clear hs_q hs6_q hsv_q
              obtain ⟨m, hm_q, rfl⟩ := in_of (m := 30) (by omega) (Int32.le_trans (by decide) hc_q.1.1) hc_q.1.2
              obtain ⟨s2, hs0_q, rfl⟩ := nI_of hc_q.2.1
              have hs_q : s2 < 2147483648 := by omega
              have hW0_q : WS n T (uI (uI G 126 17 0) 126 36 0) := (hW_q.lost (by decide)).lost (by decide)
              have h2_q : Hc n T (G 126 17) (uI I2 125 0 (nI s2)) 90 (uI (uI G 126 17 0) 126 36 0) := by
                refine Hc.out ⟨crew90, hW0_q, ?_, ?_, hT_q⟩ (by omega)
                · obtain ⟨g1_q, g2_q, g3_q, g4_q, g5_q⟩ := hR2_q
                  refine ⟨g1_q, by rw [g2_q]; simp [uI_ap], fun i hi_q => g3_q i hi_q, g4_q, g5_q⟩
                · exact (hP_q.go hf2_q (by omega) rfl rfl)
              refine l_pdr (I0 := I) (s := s2) hW0_q hT9_q hn1_q hs_q hm_q (fun I3 a b h3_q hd3_q hf3_q => ?_) 0 _ dum dum (by omega) h2_q (uI_self _ _ _ _) (fun b hb_q => by rw [uI_ne (by omega)]; exact hf2_q b (by omega))
              refine wp_iload_n dX10_drawn_121 rfl ?_
              refine wp_if_ne dX10_drawn_122 (fun h122 => ?_) (fun h122 => ?_)
              · skip
                refine wp_iload_n dX10_drawn_141 rfl ?_
                refine wp_iconst 1 dX10_drawn_142 (by decide) ?_
                refine wp_icmp_ne dX10_drawn_143 (fun h143 => ?_) (fun h143 => ?_)
                · skip
                  refine wp_aload_n dX10_drawn_164 rfl ?_
                  refine wp_getA (by first | rfl | assumption) dX10_drawn_165 flRX10_55 (by first | rfl | assumption) ?_
                  refine c_getI dX10_drawn_168 flRX10_203 (by first | rfl | assumption) (by omega) ?_
                  refine g_iret dX10_drawn_171 rfl ?_
                  have hq_q := k m s2 hm_q hs_q rfl rfl hc_q n0_q I3 hf3_q
                  unfold spDr at hq_q
                  first
                  | (rw [if_neg h122, if_pos (by first | exact h143 | exact Classical.not_not.mp h143)] at hq_q; have d_q := dwD.dwn (s := s2) hW0_q hn1_q m; unfold dwD at d_q; rw [uI_self, uI_ne (by decide), uI_ne (by decide)] at d_q; rw [show smI ((dwn n m (uI (uI G 126 17 0) 126 36 0, s2)).1 136) n - smI (G 136) n = (dwn n m (uI (uI G 126 17 0) 126 36 0, s2)).1 126 36 by grind]; exact hq_q)
                  | (rw [if_neg h122, if_neg h143] at hq_q; rw [hd3_q]; exact hq_q)
                · skip
                  refine wp_aload_n dX10_drawn_146 rfl ?_
                  refine wp_getA (by first | rfl | assumption) dX10_drawn_147 flRX10_42 (by first | rfl | assumption) ?_
                  have h24_q : Hc n T 0 I3 24 G := hH_q.cg (fun b hb_q => hf3_q b (by omega))
                  refine g_callV0 (mj := mX2_downsInAll) dX10_drawn_150 lkRX10_146 mkX2_downsInAll (by first | rfl | assumption) (by decide) (by decide) (Nat.le_of_ble_eq_true rfl) (c_cdowns h3_q ?_)
                  refine wp_aload_n dX10_drawn_153 rfl ?_
                  refine wp_getA (by first | rfl | assumption) dX10_drawn_154 flRX10_35 (by first | rfl | assumption) ?_
                  refine g_callV0 (mj := mX2_downsInAll) dX10_drawn_157 lkRX10_146 mkX2_downsInAll (by first | rfl | assumption) (by decide) (by decide) (Nat.le_of_ble_eq_true rfl) (c_cdowns h24_q ?_)
                  refine wp_isub dX10_drawn_160 ?_
                  refine wp_goto dX10_drawn_161 ?_
                  refine g_iret dX10_drawn_171 rfl ?_
                  have hq_q := k m s2 hm_q hs_q rfl rfl hc_q n0_q I3 hf3_q
                  unfold spDr at hq_q
                  first
                  | (rw [if_neg h122, if_pos (by first | exact h143 | exact Classical.not_not.mp h143)] at hq_q; have d_q := dwD.dwn (s := s2) hW0_q hn1_q m; unfold dwD at d_q; rw [uI_self, uI_ne (by decide), uI_ne (by decide)] at d_q; rw [show smI ((dwn n m (uI (uI G 126 17 0) 126 36 0, s2)).1 136) n - smI (G 136) n = (dwn n m (uI (uI G 126 17 0) 126 36 0, s2)).1 126 36 by grind]; exact hq_q)
                  | (rw [if_neg h122, if_neg h143] at hq_q; rw [hd3_q]; exact hq_q)
              · skip
                refine wp_aload_n dX10_drawn_125 rfl ?_
                refine wp_getA (by first | rfl | assumption) dX10_drawn_126 flRX10_42 (by first | rfl | assumption) ?_
                refine c_getI dX10_drawn_129 flRX10_209 (by first | rfl | assumption) (by omega) ?_
                refine wp_aload_n dX10_drawn_132 rfl ?_
                refine wp_getA (by first | rfl | assumption) dX10_drawn_133 flRX10_35 (by first | rfl | assumption) ?_
                refine c_getI dX10_drawn_136 flRX10_209 (by first | rfl | assumption) (by omega) ?_
                refine wp_isub dX10_drawn_139 ?_
                refine g_iret dX10_drawn_140 rfl ?_
                have hq_q := k m s2 hm_q hs_q rfl rfl hc_q n0_q I3 hf3_q
                unfold spDr at hq_q
                rw [if_pos (by first | exact h122 | exact Classical.not_not.mp h122)] at hq_q
                rw [h3_q.2.2.1.2.1, hf3_q 24 (by omega), hR_q.2.1, Int32.add_zero, Int32.add_sub_cancel]; exact hq_q
            · skip
              refine wp_bipush (-103) dX10_drawn_37 (by decide) ?_
              refine g_iret dX10_drawn_39 rfl ?_
              exact k2_q hc_q (by rw [hW_q.2.1, ← hP_q.1]; exact b01_ne h34)
          · skip
            refine wp_bipush (-102) dX10_drawn_24 (by decide) ?_
            refine g_iret dX10_drawn_26 rfl ?_
            exact k1_q (by grind)
