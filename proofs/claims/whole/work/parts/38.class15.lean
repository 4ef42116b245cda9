/-- a change of what is seen alone -/
theorem Hc.seen {n T k : Nat} {dl : Int32} {I I' G G' : Mem} (h : Hc n T dl I k G) (hI : ∀ b, b ≠ k + 5 → b ≠ k + 6 → b ≠ k + 7 → I' b = I b) (hW : WS n T G') (hG : ∀ b, 127 ≤ b → b ≤ 139 → G' b = G b) (hg : G' 126 17 = G 126 17) (hl : G' 126 13 = G 126 13) (hS : RcS I' k G') : Hc n T dl I' k G' := by
  obtain ⟨hC, hW0, hR, hP, hT⟩ := h
  have hk := hC.2.2.2.2.2.2.2.2.2.2.2.2
  obtain ⟨q1, q2, q3, q4, q5⟩ := hR
  refine ⟨hC, hW, ⟨?_, ?_, fun i hi => ?_, ?_, hS⟩, ?_, hT⟩
  · rw [hI k (by omega) (by omega) (by omega), q1, hW0.2.2.1, hW.2.2.1]
  · rw [hI k (by omega) (by omega) (by omega), q2, hg]
  · have := q3 i hi
    unfold RcA at this ⊢
    rw [hI (k + 9 + 4 * i) (by omega) (by omega) (by omega), hI (k + 9 + 4 * i + 1) (by omega) (by omega) (by omega), hI (k + 9 + 4 * i + 2) (by omega) (by omega) (by omega), hI (k + 9 + 4 * i + 3) (by omega) (by omega) (by omega), hG 127 (by omega) (by omega), hG 130 (by omega) (by omega), hG 131 (by omega) (by omega), hG 132 (by omega) (by omega), hG 133 (by omega) (by omega), hG 134 (by omega) (by omega), hG 135 (by omega) (by omega), hG 136 (by omega) (by omega), hG 137 (by omega) (by omega)]
    exact this
  · unfold RcL at q4 ⊢
    rw [hI (k + 2) (by omega) (by omega) (by omega), hI (k + 3) (by omega) (by omega) (by omega), hI (k + 4) (by omega) (by omega) (by omega), hl, hG 138 (by omega) (by omega), hG 139 (by omega) (by omega)]
    exact q4
  · unfold Rp at hP ⊢
    rw [hI 15 (by omega) (by omega) (by omega), hI 17 (by omega) (by omega) (by omega), hI 18 (by omega) (by omega) (by omega), hI 19 (by omega) (by omega) (by omega), hI 20 (by omega) (by omega) (by omega), hG 128 (by omega) (by omega), hG 129 (by omega) (by omega)]
    exact hP
set_option maxHeartbeats 4000000 in
theorem c_pforget {I S : Mem} {J : Mel} {Q : Option Value → Mem → Mem → Mel → Prop} {n T : Nat} {G : Mem} (hH_q : Hc n T 0 I 24 G) (k : ∀ I', Hc n T 0 I' 24 (uI G 126 19 0) → Fr 24 I I' → Q (some (.int (G 126 19))) I' S J) : M2 mX10_forget 1 [.ref 2] I S J Q := by
  obtain ⟨hC_q, hW_q, hR_q, hP_q, hT_q⟩ := id hH_q
  obtain ⟨c1_q, c2_q, c3_q, c4_q, c5_q, c6_q, c7_q, c8_q, c9_q, c10_q, c11_q, c12_q, c13_q, c14_q⟩ := id hC_q
  have hn_q := hW_q.1
  have hs_q := c9_q.1
  refine m2_of [.ref 2, dum] moX10_forget (Nat.le_of_ble_eq_true rfl) rfl ?_
  refine wp_aload_n dX10_forget_0 rfl ?_
  refine wp_getA (by first | rfl | assumption) dX10_forget_1 flRX10_35 (by first | rfl | assumption) ?_
  refine wp_getA (by first | rfl | assumption) dX10_forget_4 flRX10_194 (by first | rfl | assumption) ?_
  refine c_getI dX10_forget_7 flRX10_202 (by first | rfl | assumption) (by omega) ?_
  refine st_i_2_1 dX10_forget_10 (by decide) rfl ?_
  refine wp_aload_n dX10_forget_11 rfl ?_
  refine wp_getA (by first | rfl | assumption) dX10_forget_12 flRX10_35 (by first | rfl | assumption) ?_
  refine wp_getA (by first | rfl | assumption) dX10_forget_15 flRX10_194 (by first | rfl | assumption) ?_
  refine wp_iconst 0 dX10_forget_18 (by decide) ?_
  refine c_putI dX10_forget_19 flRX10_202 (by first | rfl | assumption) (by omega) ?_
  refine wp_iload_n dX10_forget_22 rfl ?_
  refine g_iret dX10_forget_23 rfl ?_
  rw [hR_q.2.2.2.2.1]
  refine k _ (hH_q.seen (fun b h1 _ _ => uI_ne h1) (hW_q.scr (by unfold scrC; omega)) (fun b h1 _ => uI_ne (by omega)) (by simp [uI_ap]) (by simp [uI_ap]) ⟨by simp [uI_ap], fun j hj_q => ?_⟩) (Fr.rf.st (by omega))
  rw [uI_self] at hj_q
  exact absurd hj_q (by rw [show tn 0 = 0 from rfl]; omega)
theorem RcS.add {I G : Mem} {k z v : Nat} {x y : Int32} (h : RcS I k G) (hz : G 126 19 = nI z) (hz6 : z < 6) (hv : v < 4) : RcS (uI (uI (uI I (k + 5 + 1) z x) (k + 5 + 2) z (if y = 0 then 31 ^^^ kin v else kin v)) (k + 5) 2 (nI z + 1)) k (uI (uI (uI (uI G 140 z x) 141 z (nI v)) 142 z (if y = 0 then 0 else 1)) 126 19 (nI z + 1)) := by
  refine ⟨by simp [uI_ap], fun j hj => ?_⟩
  rw [uI_self, nI_1, tn_nI (by omega)] at hj
  rw [show k + 5 + 1 = k + 6 from rfl, show k + 5 + 2 = k + 7 from rfl]
  by_cases e : j = z
  · subst e
    refine ⟨by simp [uI_ap], ?_⟩
    simp only [uI_ap]
    simp only [msk]
    by_cases hy : y = 0 <;> simp [hy, tn_nI (show v < 2 ^ 31 by omega)]
  · have t := h.2 j (by rw [hz, tn_nI (by omega)]; omega)
    simp only [uI_ap]
    simp [e]
    exact t
set_option maxHeartbeats 4000000 in
theorem c_psee {I S : Mem} {J : Mel} {Q : Option Value → Mem → Mem → Mel → Prop} {n T : Nat} {G : Mem} (hH_q : Hc n T 0 I 24 G) {x y v : Int32} {s : Nat} (hs_q : G 126 19 = nI s) (hs6_q : s ≤ 6) (hT9_q : T ≤ 9999) (k : ∀ I' T', T' ≤ 9999 → Hc n T' 0 I' 24 (spSee G x y v).2 → Fr 24 I I' → Q (some (.int (spSee G x y v).1)) I' S J) : M2 mX10_see 2 [.ref 2, .int x, .int y, .int v] I S J Q := by
  obtain ⟨hC_q, hW_q, hR_q, hP_q, hT_q⟩ := id hH_q
  obtain ⟨c1_q, c2_q, c3_q, c4_q, c5_q, c6_q, c7_q, c8_q, c9_q, c10_q, c11_q, c12_q, c13_q, c14_q⟩ := id hC_q
  have hn_q := hW_q.1
  unfold spSee at k
  have hA_q := has_eq (x := x) hW_q.2.1 hn_q hP_q.1
  have hS1_q := c9_q.1
  have e5_q : I 29 2 = nI s := hR_q.2.2.2.2.1.trans hs_q
  refine m2_of [.ref 2, .int x, .int y, .int v] moX10_see (Nat.le_of_ble_eq_true rfl) rfl ?_
  refine wp_aload_n dX10_see_0 rfl ?_
  refine wp_getA (by first | rfl | assumption) dX10_see_1 flRX10_26 (by first | rfl | assumption) ?_
  refine wp_iload_n dX10_see_4 rfl ?_
  refine g_callV1 (mj := mX6_has) dX10_see_5 lkRX10_92 mkX6_has (by first | rfl | assumption) (by decide) (by decide) (Nat.le_of_ble_eq_true rfl) (c_has plan15 ?_)
  refine wp_if_ne dX10_see_8 (fun h8 => ?_) (fun h8 => ?_)
  · skip
    have hx_q := hA_q.mp (b01_ne h8)
    rw [if_pos hx_q] at k
    refine wp_iload_n dX10_see_14 rfl ?_
    refine wp_if_lt dX10_see_15 (fun h15 => ?_) (fun h15 => ?_)
    · skip
      refine wp_bipush (-102) dX10_see_23 (by decide) ?_
      refine g_iret dX10_see_25 rfl ?_
      rw [if_neg (by grind)] at k; exact k _ _ hT9_q hH_q Fr.rf
    · skip
      refine wp_iload_n dX10_see_18 rfl ?_
      refine wp_iconst 4 dX10_see_19 (by decide) ?_
      refine wp_icmp_lt dX10_see_20 (fun h20 => ?_) (fun h20 => ?_)
      · skip
        have hy_q : 0 ≤ y ∧ y ≤ 3 := by grind
        rw [if_pos hy_q] at k
        refine wp_aload_n dX10_see_26 rfl ?_
        refine wp_getA (by first | rfl | assumption) dX10_see_27 flRX10_35 (by first | rfl | assumption) ?_
        refine wp_getA (by first | rfl | assumption) dX10_see_30 flRX10_194 (by first | rfl | assumption) ?_
        refine g_callV0 (mj := mX8_isFull) dX10_see_33 lkRX10_198 mkX8_isFull (by first | rfl | assumption) (by decide) (by decide) (Nat.le_of_ble_eq_true rfl) (c_sFull c9_q ?_)
        refine wp_if_eq dX10_see_36 (fun h36 => ?_) (fun h36 => ?_)
        · skip
          have s6_q : s < 6 := by
            have f_q := b01_e0 h36
            rw [e5_q, show (6 : Int32) = nI 6 from rfl, nI_leg (by omega) (by omega)] at f_q
            omega
          rw [hs_q, if_neg (by rw [show (6 : Int32) = nI 6 from rfl]; intro q; have := congrArg tn q; rw [tn_nI (by omega), tn_nI (by omega)] at this; omega), tn_nI (by omega)] at k
          obtain ⟨w, hw_q, rfl⟩ := in_of (m := 3) (by omega) hy_q.1 hy_q.2
          replace hw_q : w < 4 := by omega
          refine wp_aload_n dX10_see_42 rfl ?_
          refine wp_getA (by first | rfl | assumption) dX10_see_43 flRX10_35 (by first | rfl | assumption) ?_
          refine wp_getA (by first | rfl | assumption) dX10_see_46 flRX10_194 (by first | rfl | assumption) ?_
          refine wp_iload_n dX10_see_49 rfl ?_
          refine wp_iload_n dX10_see_50 rfl ?_
          refine wp_iload_n dX10_see_51 rfl ?_
          refine g_callV3 (mj := mX8_add) dX10_see_52 lkRX10_199 mkX8_add (by first | rfl | assumption) (by decide) (by decide) (Nat.le_of_ble_eq_true rfl) (c_sadd c9_q e5_q (by omega) hw_q ?_)
          refine wp_aload_n dX10_see_55 rfl ?_
          refine wp_getA (by first | rfl | assumption) dX10_see_56 flRX10_35 (by first | rfl | assumption) ?_
          refine wp_getA (by first | rfl | assumption) dX10_see_59 flRX10_194 (by first | rfl | assumption) ?_
          refine c_getI dX10_see_62 flRX10_202 (by first | rfl | assumption) (by omega) ?_
          refine g_iret dX10_see_65 rfl ?_
          rw [uI_self]
          dsimp only at k
          refine k _ T hT9_q (hH_q.seen (fun b h1 h2 h3 => by rw [uI_ne h1, uI_ne h3, uI_ne h2]) ((((hW_q.scr (by unfold scrC; omega)).scr (by unfold scrC; omega)).scr (by unfold scrC; omega)).scr (by unfold scrC; omega)) (fun b h1 h2 => by rw [uI_ne (by omega), uI_ne (by omega), uI_ne (by omega), uI_ne (by omega)]) (by simp [uI_ap]) (by simp [uI_ap]) (RcS.add hR_q.2.2.2.2 hs_q s6_q hw_q)) (((Fr.rf.st (by omega)).st (by omega)).st (by omega))
        · skip
          refine wp_bipush (-104) dX10_see_39 (by decide) ?_
          refine g_iret dX10_see_41 rfl ?_
          have f_q := b01_ne h36
          rw [e5_q, show (6 : Int32) = nI 6 from rfl, nI_leg (by omega) (by omega)] at f_q
          rw [if_pos (by rw [hs_q, show s = 6 by omega]; rfl)] at k; exact k _ _ hT9_q hH_q Fr.rf
      · skip
        refine wp_bipush (-102) dX10_see_23 (by decide) ?_
        refine g_iret dX10_see_25 rfl ?_
        rw [if_neg (by grind)] at k; exact k _ _ hT9_q hH_q Fr.rf
  · skip
    refine wp_bipush (-101) dX10_see_11 (by decide) ?_
    refine g_iret dX10_see_13 rfl ?_
    rw [if_neg (fun q => b01_e0 (by first | exact h8 | exact Classical.not_not.mp h8) (hA_q.mpr q))] at k; exact k _ _ hT9_q hH_q Fr.rf
