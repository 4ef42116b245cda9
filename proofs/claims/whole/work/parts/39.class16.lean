theorem fd_eq {I S : Mem} {k a b l n : Nat} (ha : a < 6) (hb : b < 6) (hR : RcL I k S) (hl : S 126 13 = nI l) (hl6 : l ≤ 6) (hn : n ≤ 6) (h : ∀ j, j < l → ∃ x y, x < n ∧ y < n ∧ x ≠ y ∧ S 138 j = nI x ∧ S 139 j = nI y) : ∀ c, c ≤ l → fdC I (k + 2) (nI a) (nI b) l c = lkB S (nI a) (nI b) l c := by
  intro c
  induction c with
  | zero => intro _; rfl
  | succ c ih =>
    intro hc
    have t := hR.2 (l - (c + 1)) (by rw [hl, tn_nI (by omega)]; omega)
    obtain ⟨x, y, hx, hy, hxy, ex, ey⟩ := h (l - (c + 1)) (by omega)
    simp only [fdC, lkB]
    rw [ih (by omega), show k + 2 + 1 = k + 3 from rfl, show k + 2 + 2 = k + 4 from rfl, t.1, t.2, ex, ey]
    have hne : ¬ nI x = nI y := fun e => hxy (by have := congrArg tn e; rwa [tn_nI (by omega), tn_nI (by omega)] at this)
    have nb : ¬ (-1 : Int32) = nI b := fun e => nI_small (by omega) e.symm
    clear ih t ex ey
    generalize lkB S (nI a) (nI b) l c = W
    generalize nI (l - (c + 1)) = V
    generalize nI x = X at *
    generalize nI y = Y at *
    generalize nI a = A at *
    generalize nI b = B at *
    by_cases q1 : X = A
    · subst q1; by_cases q2 : Y = B
      · subst q2; simp [hne]
      · rw [if_pos rfl, if_neg (fun q => q2 q.2), if_neg (by grind)]
    · rw [if_neg q1]
      by_cases q2 : Y = A
      · subst q2; rw [if_pos rfl]; by_cases q3 : X = B
        · subst q3; rw [if_pos ⟨fun e => hne e.symm, rfl⟩, if_pos (Or.inr ⟨rfl, rfl⟩)]
        · rw [if_neg (fun q => q3 q.2), if_neg (by grind)]
      · rw [if_neg q2, if_neg (fun q => nb q.2), if_neg (by grind)]
/-- a change of the links alone -/
theorem Hc.lks {n T k : Nat} {dl : Int32} {I I' G G' : Mem} (h : Hc n T dl I k G) (hI : ∀ b, b ≠ k + 2 → b ≠ k + 3 → b ≠ k + 4 → I' b = I b) (hG : ∀ b, (127 ≤ b ∧ b ≤ 137) ∨ (140 ≤ b ∧ b ≤ 142) → G' b = G b) (h1 : G' 126 1 = G 126 1) (h2 : G' 126 16 = G 126 16) (hg : G' 126 17 = G 126 17) (hs : G' 126 19 = G 126 19) (hL : RcL I' k G') (hW : WLk n G') : Hc n T dl I' k G' := by
  obtain ⟨hC, hW0, hR, hP, hT⟩ := h
  have hk := hC.2.2.2.2.2.2.2.2.2.2.2.2
  obtain ⟨q1, q2, q3, q4, q5⟩ := hR
  refine ⟨hC, ⟨hW0.1, h1.trans hW0.2.1, h2.trans hW0.2.2.1, hW, fun i hi => ?_⟩, ⟨?_, ?_, fun i hi => ?_, hL, ?_⟩, ?_, hT⟩
  · have := hW0.2.2.2.2 i hi
    unfold WA at this ⊢
    rw [hG 127 (by omega), hG 128 (by omega), hG 129 (by omega), hG 130 (by omega), hG 131 (by omega), hG 132 (by omega), hG 133 (by omega), hG 134 (by omega), hG 135 (by omega), hG 137 (by omega)]
    exact this
  · rw [hI k (by omega) (by omega) (by omega), q1, h2]
  · rw [hI k (by omega) (by omega) (by omega), q2, hg]
  · have := q3 i hi
    unfold RcA at this ⊢
    rw [hI (k + 9 + 4 * i) (by omega) (by omega) (by omega), hI (k + 9 + 4 * i + 1) (by omega) (by omega) (by omega), hI (k + 9 + 4 * i + 2) (by omega) (by omega) (by omega), hI (k + 9 + 4 * i + 3) (by omega) (by omega) (by omega), hG 127 (by omega), hG 130 (by omega), hG 131 (by omega), hG 132 (by omega), hG 133 (by omega), hG 134 (by omega), hG 135 (by omega), hG 136 (by omega), hG 137 (by omega)]
    exact this
  · unfold RcS at q5 ⊢
    rw [hI (k + 5) (by omega) (by omega) (by omega), hI (k + 6) (by omega) (by omega) (by omega), hI (k + 7) (by omega) (by omega) (by omega), hs, hG 140 (by omega), hG 141 (by omega), hG 142 (by omega)]
    exact q5
  · unfold Rp at hP ⊢
    rw [hI 15 (by omega) (by omega) (by omega), hI 17 (by omega) (by omega) (by omega), hI 18 (by omega) (by omega) (by omega), hI 19 (by omega) (by omega) (by omega), hI 20 (by omega) (by omega) (by omega), hG 128 (by omega), hG 129 (by omega)]
    exact hP
theorem RcL.add {I G : Mem} {k z : Nat} {x y : Int32} (h : RcL I k G) (hz : G 126 13 = nI z) (hz6 : z < 6) : RcL (uI (uI (uI I (k + 2 + 1) z x) (k + 2 + 2) z y) (k + 2) 2 (nI z + 1)) k (uI (uI (uI G 138 z x) 139 z y) 126 13 (nI z + 1)) := by
  refine ⟨by simp [uI_ap], fun j hj => ?_⟩
  rw [uI_self, nI_1, tn_nI (by omega)] at hj
  rw [show k + 2 + 1 = k + 3 from rfl, show k + 2 + 2 = k + 4 from rfl]
  by_cases e : j = z
  · subst e
    exact ⟨by simp [uI_ap], by simp [uI_ap]⟩
  · have t := h.2 j (by rw [hz, tn_nI (by omega)]; omega)
    simp only [uI_ap]
    simp [e]
    exact t
theorem WLk.add {n z a b : Nat} {G : Mem} (hz6 : z < 6) (ha : a < n) (hb : b < n) (hab : a ≠ b) (h : ∀ j, j < z → ∃ x y, x < n ∧ y < n ∧ x ≠ y ∧ G 138 j = nI x ∧ G 139 j = nI y) : WLk n (uI (uI (uI G 138 z (nI a)) 139 z (nI b)) 126 13 (nI z + 1)) := by
  refine ⟨z + 1, by omega, by rw [uI_self, nI_1], fun j hj => ?_⟩
  by_cases e : j = z
  · subst e
    exact ⟨a, b, ha, hb, hab, by simp [uI_ap], by simp [uI_ap]⟩
  · obtain ⟨x, y, hx, hy, hxy, ex, ey⟩ := h j (by omega)
    exact ⟨x, y, hx, hy, hxy, by simp [uI_ap, e, ex], by simp [uI_ap, e, ey]⟩
set_option maxHeartbeats 4000000 in
theorem c_ptie {I S : Mem} {J : Mel} {Q : Option Value → Mem → Mem → Mel → Prop} {n T : Nat} {G : Mem} (hH_q : Hc n T 0 I 24 G) {x y : Int32} (hT9_q : T ≤ 9999) (k : ∀ I' T', T' ≤ 9999 → Hc n T' 0 I' 24 (spTie G x y).2 → Fr 24 I I' → Q (some (.int (spTie G x y).1)) I' S J) : M2 mX10_tie 3 [.ref 2, .int x, .int y] I S J Q := by
  obtain ⟨hC_q, hW_q, hR_q, hP_q, hT_q⟩ := id hH_q
  obtain ⟨c1_q, c2_q, c3_q, c4_q, c5_q, c6_q, c7_q, c8_q, c9_q, c10_q, c11_q, c12_q, c13_q, c14_q⟩ := id hC_q
  have hn_q := hW_q.1
  unfold spTie at k
  have hA_q := has_eq (x := x) hW_q.2.1 hn_q hP_q.1
  have hB_q := has_eq (x := y) hW_q.2.1 hn_q hP_q.1
  have hL1_q := c7_q.1
  obtain ⟨l, hl6_q, hl_q, hlv_q⟩ := id hW_q.2.2.2.1
  have e2_q : I 26 2 = nI l := hR_q.2.2.2.1.1.trans hl_q
  refine m2_of [.ref 2, .int x, .int y] moX10_tie (Nat.le_of_ble_eq_true rfl) rfl ?_
  refine wp_aload_n dX10_tie_0 rfl ?_
  refine wp_getA (by first | rfl | assumption) dX10_tie_1 flRX10_26 (by first | rfl | assumption) ?_
  refine wp_iload_n dX10_tie_4 rfl ?_
  refine g_callV1 (mj := mX6_has) dX10_tie_5 lkRX10_92 mkX6_has (by first | rfl | assumption) (by decide) (by decide) (Nat.le_of_ble_eq_true rfl) (c_has plan15 ?_)
  refine wp_if_eq dX10_tie_8 (fun h8 => ?_) (fun h8 => ?_)
  · skip
    refine wp_bipush (-101) dX10_tie_27 (by decide) ?_
    refine g_iret dX10_tie_29 rfl ?_
    first
    | (rw [if_neg (fun q => b01_e0 h8 (hA_q.mpr q.1))] at k; exact k _ _ hT9_q hH_q Fr.rf)
    | (rw [if_neg (fun q => b01_e0 h19 (hB_q.mpr q.2.1))] at k; exact k _ _ hT9_q hH_q Fr.rf)
    | (rw [if_neg (fun q => q.2.2 (by first | exact h24 | exact Classical.not_not.mp h24))] at k; exact k _ _ hT9_q hH_q Fr.rf)
  · skip
    refine wp_aload_n dX10_tie_11 rfl ?_
    refine wp_getA (by first | rfl | assumption) dX10_tie_12 flRX10_26 (by first | rfl | assumption) ?_
    refine wp_iload_n dX10_tie_15 rfl ?_
    refine g_callV1 (mj := mX6_has) dX10_tie_16 lkRX10_92 mkX6_has (by first | rfl | assumption) (by decide) (by decide) (Nat.le_of_ble_eq_true rfl) (c_has plan15 ?_)
    refine wp_if_eq dX10_tie_19 (fun h19 => ?_) (fun h19 => ?_)
    · skip
      refine wp_bipush (-101) dX10_tie_27 (by decide) ?_
      refine g_iret dX10_tie_29 rfl ?_
      first
      | (rw [if_neg (fun q => b01_e0 h8 (hA_q.mpr q.1))] at k; exact k _ _ hT9_q hH_q Fr.rf)
      | (rw [if_neg (fun q => b01_e0 h19 (hB_q.mpr q.2.1))] at k; exact k _ _ hT9_q hH_q Fr.rf)
      | (rw [if_neg (fun q => q.2.2 (by first | exact h24 | exact Classical.not_not.mp h24))] at k; exact k _ _ hT9_q hH_q Fr.rf)
    · skip
      refine wp_iload_n dX10_tie_22 rfl ?_
      refine wp_iload_n dX10_tie_23 rfl ?_
      refine wp_icmp_ne dX10_tie_24 (fun h24 => ?_) (fun h24 => ?_)
      · skip
        have hx_q := hA_q.mp (b01_ne h8)
        have hy_q := hB_q.mp (b01_ne h19)
        rw [if_pos ⟨hx_q, hy_q, h24⟩] at k
        obtain ⟨a, ha_q, rfl⟩ := isA_of hW_q.2.1 hn_q hx_q
        obtain ⟨b, hb_q, rfl⟩ := isA_of hW_q.2.1 hn_q hy_q
        unfold spLk at k
        rw [hl_q, tn_nI (by omega), ← fd_eq (by omega) (by omega) hR_q.2.2.2.1 hl_q hl6_q hn_q hlv_q l (by omega)] at k
        refine wp_aload_n dX10_tie_30 rfl ?_
        refine wp_getA (by first | rfl | assumption) dX10_tie_31 flRX10_35 (by first | rfl | assumption) ?_
        refine wp_getA (by first | rfl | assumption) dX10_tie_34 flRX10_158 (by first | rfl | assumption) ?_
        refine wp_iload_n dX10_tie_37 rfl ?_
        refine wp_iload_n dX10_tie_38 rfl ?_
        refine g_callV2 (mj := mX4_find) dX10_tie_39 lkRX10_162 mkX4_find (by first | rfl | assumption) (by decide) (by decide) (Nat.le_of_ble_eq_true rfl) (c_find c7_q e2_q hl6_q ?_)
        refine wp_iconst (-1) dX10_tie_42 (by decide) ?_
        refine wp_icmp_eq dX10_tie_43 (fun h43 => ?_) (fun h43 => ?_)
        · skip
          rw [if_pos h43] at k
          refine wp_aload_n dX10_tie_49 rfl ?_
          refine wp_getA (by first | rfl | assumption) dX10_tie_50 flRX10_35 (by first | rfl | assumption) ?_
          refine wp_getA (by first | rfl | assumption) dX10_tie_53 flRX10_158 (by first | rfl | assumption) ?_
          refine g_callV0 (mj := mX4_isFull) dX10_tie_56 lkRX10_167 mkX4_isFull (by first | rfl | assumption) (by decide) (by decide) (Nat.le_of_ble_eq_true rfl) (c_lFull c7_q ?_)
          refine wp_if_eq dX10_tie_59 (fun h59 => ?_) (fun h59 => ?_)
          · skip
            have l6_q : l < 6 := by
              have f_q := b01_e0 h59
              rw [e2_q, show (6 : Int32) = nI 6 from rfl, nI_leg (by omega) (by omega)] at f_q
              omega
            rw [if_neg (by rw [show (6 : Int32) = nI 6 from rfl]; intro q; have := congrArg tn q; rw [tn_nI (by omega), tn_nI (by omega)] at this; omega)] at k
            refine wp_aload_n dX10_tie_65 rfl ?_
            refine wp_getA (by first | rfl | assumption) dX10_tie_66 flRX10_35 (by first | rfl | assumption) ?_
            refine wp_getA (by first | rfl | assumption) dX10_tie_69 flRX10_158 (by first | rfl | assumption) ?_
            refine wp_iload_n dX10_tie_72 rfl ?_
            refine wp_iload_n dX10_tie_73 rfl ?_
            refine g_callV2 (mj := mX4_add) dX10_tie_74 lkRX10_168 mkX4_add (by first | rfl | assumption) (by decide) (by decide) (Nat.le_of_ble_eq_true rfl) (c_ladd c7_q e2_q l6_q ?_)
            refine wp_aload_n dX10_tie_77 rfl ?_
            refine wp_getA (by first | rfl | assumption) dX10_tie_78 flRX10_35 (by first | rfl | assumption) ?_
            refine wp_getA (by first | rfl | assumption) dX10_tie_81 flRX10_158 (by first | rfl | assumption) ?_
            refine c_getI dX10_tie_84 flRX10_171 (by first | rfl | assumption) (by omega) ?_
            refine g_iret dX10_tie_87 rfl ?_
            rw [uI_self]
            dsimp only at k
            refine k _ T hT9_q (hH_q.lks (fun b h1 h2 h3 => by rw [uI_ne h1, uI_ne h3, uI_ne h2]) (fun b h1 => by rw [uI_ne (by omega), uI_ne (by omega), uI_ne (by omega)]) (by simp [uI_ap]) (by simp [uI_ap]) (by simp [uI_ap]) (by simp [uI_ap]) (RcL.add hR_q.2.2.2.1 hl_q l6_q) (WLk.add l6_q ha_q hb_q (fun e => h24 (by rw [e])) hlv_q)) (((Fr.rf.st (by omega)).st (by omega)).st (by omega))
          · skip
            refine wp_bipush (-104) dX10_tie_62 (by decide) ?_
            refine g_iret dX10_tie_64 rfl ?_
            have f_q := b01_ne h59
            rw [e2_q, show (6 : Int32) = nI 6 from rfl, nI_leg (by omega) (by omega)] at f_q
            rw [if_pos (by rw [show l = 6 by omega]; rfl)] at k; exact k _ _ hT9_q hH_q Fr.rf
        · skip
          refine wp_bipush (-103) dX10_tie_46 (by decide) ?_
          refine g_iret dX10_tie_48 rfl ?_
          rw [if_neg h43] at k; exact k _ _ hT9_q hH_q Fr.rf
      · skip
        refine wp_bipush (-101) dX10_tie_27 (by decide) ?_
        refine g_iret dX10_tie_29 rfl ?_
        first
        | (rw [if_neg (fun q => b01_e0 h8 (hA_q.mpr q.1))] at k; exact k _ _ hT9_q hH_q Fr.rf)
        | (rw [if_neg (fun q => b01_e0 h19 (hB_q.mpr q.2.1))] at k; exact k _ _ hT9_q hH_q Fr.rf)
        | (rw [if_neg (fun q => q.2.2 (by first | exact h24 | exact Classical.not_not.mp h24))] at k; exact k _ _ hT9_q hH_q Fr.rf)
theorem RcL.cut {I G : Mem} {k z p : Nat} (h : RcL I k G) (hz : G 126 13 = nI z) (hz6 : z ≤ 6) (hp : p < z) : RcL (uI (tkC I (k + 2) p z) (k + 2) 2 (nI z - 1)) k (fCut G p) := by
  unfold fCut
  rw [hz, tn_nI (by omega), nI_s1 (by omega)]
  refine ⟨by simp [uI_ap], fun j hj => ?_⟩
  rw [uI_self, tn_nI (by omega)] at hj
  rw [uI_ne (by omega), uI_ne (by omega), uI_ne (by omega), uI_ne (by omega)]
  have t := h.2 j (by rw [hz, tn_nI (by omega)]; omega)
  have t2 := h.2 (j + 1) (by rw [hz, tn_nI (by omega)]; omega)
  unfold tkC ctS
  grind
theorem WLk.cut {n z p : Nat} {G : Mem} (hz : G 126 13 = nI z) (hz6 : z ≤ 6) (hp : p < z) (h : ∀ j, j < z → ∃ x y, x < n ∧ y < n ∧ x ≠ y ∧ G 138 j = nI x ∧ G 139 j = nI y) : WLk n (fCut G p) := by
  unfold fCut
  rw [hz, tn_nI (by omega), nI_s1 (by omega)]
  refine ⟨z - 1, by omega, uI_self _ _ _ _, fun j hj => ?_⟩
  rw [uI_ne (by omega), uI_ne (by omega)]
  by_cases e : p ≤ j
  · obtain ⟨x, y, hx, hy, hxy, ex, ey⟩ := h (j + 1) (by omega)
    exact ⟨x, y, hx, hy, hxy, by unfold ctS; rw [if_pos (by omega)]; exact ex, by unfold ctS; rw [if_pos (by omega)]; exact ey⟩
  · obtain ⟨x, y, hx, hy, hxy, ex, ey⟩ := h j (by omega)
    exact ⟨x, y, hx, hy, hxy, by unfold ctS; rw [if_neg (by omega)]; exact ex, by unfold ctS; rw [if_neg (by omega)]; exact ey⟩
set_option maxHeartbeats 4000000 in
theorem c_pcut {I S : Mem} {J : Mel} {Q : Option Value → Mem → Mem → Mel → Prop} {n T : Nat} {G : Mem} (hH_q : Hc n T 0 I 24 G) {x y : Int32} (hT9_q : T ≤ 9999) (k : ∀ I' T', T' ≤ 9999 → Hc n T' 0 I' 24 (spCut G x y).2 → Fr 24 I I' → Q (some (.int (spCut G x y).1)) I' S J) : M2 mX10_cut 3 [.ref 2, .int x, .int y] I S J Q := by
  obtain ⟨hC_q, hW_q, hR_q, hP_q, hT_q⟩ := id hH_q
  obtain ⟨c1_q, c2_q, c3_q, c4_q, c5_q, c6_q, c7_q, c8_q, c9_q, c10_q, c11_q, c12_q, c13_q, c14_q⟩ := id hC_q
  have hn_q := hW_q.1
  unfold spCut at k
  have hA_q := has_eq (x := x) hW_q.2.1 hn_q hP_q.1
  have hB_q := has_eq (x := y) hW_q.2.1 hn_q hP_q.1
  have hL1_q := c7_q.1
  obtain ⟨l, hl6_q, hl_q, hlv_q⟩ := id hW_q.2.2.2.1
  have e2_q : I 26 2 = nI l := hR_q.2.2.2.1.1.trans hl_q
  refine m2_of [.ref 2, .int x, .int y, dum] moX10_cut (Nat.le_of_ble_eq_true rfl) rfl ?_
  refine wp_aload_n dX10_cut_0 rfl ?_
  refine wp_getA (by first | rfl | assumption) dX10_cut_1 flRX10_26 (by first | rfl | assumption) ?_
  refine wp_iload_n dX10_cut_4 rfl ?_
  refine g_callV1 (mj := mX6_has) dX10_cut_5 lkRX10_92 mkX6_has (by first | rfl | assumption) (by decide) (by decide) (Nat.le_of_ble_eq_true rfl) (c_has plan15 ?_)
  refine wp_if_eq dX10_cut_8 (fun h8 => ?_) (fun h8 => ?_)
  · skip
    refine wp_bipush (-101) dX10_cut_22 (by decide) ?_
    refine g_iret dX10_cut_24 rfl ?_
    first
    | (rw [if_neg (fun q => b01_e0 h8 (hA_q.mpr q.1))] at k; exact k _ _ hT9_q hH_q Fr.rf)
    | (rw [if_neg (fun q => b01_e0 (by first | exact h19 | exact Classical.not_not.mp h19) (hB_q.mpr q.2))] at k; exact k _ _ hT9_q hH_q Fr.rf)
  · skip
    refine wp_aload_n dX10_cut_11 rfl ?_
    refine wp_getA (by first | rfl | assumption) dX10_cut_12 flRX10_26 (by first | rfl | assumption) ?_
    refine wp_iload_n dX10_cut_15 rfl ?_
    refine g_callV1 (mj := mX6_has) dX10_cut_16 lkRX10_92 mkX6_has (by first | rfl | assumption) (by decide) (by decide) (Nat.le_of_ble_eq_true rfl) (c_has plan15 ?_)
    refine wp_if_ne dX10_cut_19 (fun h19 => ?_) (fun h19 => ?_)
    · skip
      have hx_q := hA_q.mp (b01_ne h8)
      have hy_q := hB_q.mp (b01_ne h19)
      rw [if_pos ⟨hx_q, hy_q⟩] at k
      obtain ⟨a, ha_q, rfl⟩ := isA_of hW_q.2.1 hn_q hx_q
      obtain ⟨b, hb_q, rfl⟩ := isA_of hW_q.2.1 hn_q hy_q
      have r_q := lkB_r G (nI a) (nI b) l l (by omega)
      unfold spLk at k
      have fe_q := fd_eq (a := a) (b := b) (by omega) (by omega) hR_q.2.2.2.1 hl_q hl6_q hn_q hlv_q l (by omega)
      rw [hl_q, tn_nI (by omega)] at k
      refine wp_aload_n dX10_cut_25 rfl ?_
      refine wp_getA (by first | rfl | assumption) dX10_cut_26 flRX10_35 (by first | rfl | assumption) ?_
      refine wp_getA (by first | rfl | assumption) dX10_cut_29 flRX10_158 (by first | rfl | assumption) ?_
      refine wp_iload_n dX10_cut_32 rfl ?_
      refine wp_iload_n dX10_cut_33 rfl ?_
      refine g_callV2 (mj := mX4_find) dX10_cut_34 lkRX10_162 mkX4_find (by first | rfl | assumption) (by decide) (by decide) (Nat.le_of_ble_eq_true rfl) (c_find c7_q e2_q hl6_q ?_)
      rw [fe_q]
      refine st_i_4_3 dX10_cut_37 (by decide) rfl ?_
      refine wp_iload_n dX10_cut_38 rfl ?_
      refine wp_iconst (-1) dX10_cut_39 (by decide) ?_
      refine wp_icmp_ne dX10_cut_40 (fun h40 => ?_) (fun h40 => ?_)
      · skip
        rw [if_neg h40] at k
        obtain ⟨p, hp_q, ep_q⟩ := r_q.resolve_left h40
        rw [ep_q, tn_nI (by omega)] at k
        rw [ep_q]
        refine wp_aload_n dX10_cut_46 rfl ?_
        refine wp_getA (by first | rfl | assumption) dX10_cut_47 flRX10_35 (by first | rfl | assumption) ?_
        refine wp_getA (by first | rfl | assumption) dX10_cut_50 flRX10_158 (by first | rfl | assumption) ?_
        refine wp_iload_n dX10_cut_53 rfl ?_
        refine g_callV1 (mj := mX4_takeOut) dX10_cut_54 lkRX10_172 mkX4_takeOut (by first | rfl | assumption) (by decide) (by decide) (Nat.le_of_ble_eq_true rfl) (c_ltake c7_q e2_q hl6_q hp_q ?_)
        refine wp_aload_n dX10_cut_57 rfl ?_
        refine wp_getA (by first | rfl | assumption) dX10_cut_58 flRX10_35 (by first | rfl | assumption) ?_
        refine wp_getA (by first | rfl | assumption) dX10_cut_61 flRX10_158 (by first | rfl | assumption) ?_
        refine c_getI dX10_cut_64 flRX10_171 (by first | rfl | assumption) (by omega) ?_
        refine g_iret dX10_cut_67 rfl ?_
        rw [uI_self]
        dsimp only at k
        refine k _ T hT9_q (hH_q.lks (fun b h1 h2 h3 => by rw [uI_ne h1]; funext j; unfold tkC; rw [if_neg (by omega)]) (fun b h1 => by unfold fCut; rw [uI_ne (by omega), ctS_n _ _ _ (by omega) (by omega)]) ?_ ?_ ?_ ?_ (RcL.cut hR_q.2.2.2.1 hl_q hl6_q hp_q) (WLk.cut hl_q hl6_q hp_q hlv_q)) (fun b h1 => by rw [uI_ne (by omega)]; funext j; unfold tkC; rw [if_neg (by omega)])
        all_goals (unfold fCut; rw [uI_ap, if_neg (by omega), ctS_n _ _ _ (by decide) (by decide)])
      · skip
        refine wp_bipush (-103) dX10_cut_43 (by decide) ?_
        refine g_iret dX10_cut_45 rfl ?_
        rw [if_pos (by first | exact h40 | exact Classical.not_not.mp h40)] at k; exact k _ _ hT9_q hH_q Fr.rf
    · skip
      refine wp_bipush (-101) dX10_cut_22 (by decide) ?_
      refine g_iret dX10_cut_24 rfl ?_
      first
      | (rw [if_neg (fun q => b01_e0 h8 (hA_q.mpr q.1))] at k; exact k _ _ hT9_q hH_q Fr.rf)
      | (rw [if_neg (fun q => b01_e0 (by first | exact h19 | exact Classical.not_not.mp h19) (hB_q.mpr q.2))] at k; exact k _ _ hT9_q hH_q Fr.rf)
set_option maxHeartbeats 4000000 in
theorem c_pblank {I S : Mem} {J : Mel} {Q : Option Value → Mem → Mem → Mel → Prop} (k : Q (some (.int (I 3 1))) (uI I 3 1 0) S J) : M2 mX10_blank 1 [.ref 2] I S J Q := by
  refine m2_of [.ref 2, dum] moX10_blank (Nat.le_of_ble_eq_true rfl) rfl ?_
  refine wp_aload_n dX10_blank_0 rfl ?_
  refine wp_getA (by first | rfl | assumption) dX10_blank_1 flRX10_10 (by first | rfl | assumption) ?_
  refine c_getI dX10_blank_4 flRX10_59 (by first | rfl | assumption) (by omega) ?_
  refine st_i_2_1 dX10_blank_7 (by decide) rfl ?_
  refine wp_aload_n dX10_blank_8 rfl ?_
  refine wp_getA (by first | rfl | assumption) dX10_blank_9 flRX10_10 (by first | rfl | assumption) ?_
  refine wp_iconst 0 dX10_blank_12 (by decide) ?_
  refine c_putI dX10_blank_13 flRX10_59 (by first | rfl | assumption) (by omega) ?_
  refine wp_iload_n dX10_blank_16 rfl ?_
  refine g_iret dX10_blank_17 rfl ?_
  exact k
set_option maxHeartbeats 4000000 in
theorem c_pletter {I S : Mem} {J : Mel} {Q : Option Value → Mem → Mem → Mel → Prop} {x : Int32} {p : Nat} (hp_q : I 3 1 = nI p) (hp84_q : p ≤ 84) (k1_q : ¬ (32 ≤ x ∧ x ≤ 126) → Q (some (.int (-102))) I S J) (k2_q : (32 ≤ x ∧ x ≤ 126) → p = 84 → Q (some (.int (-104))) I S J) (k3_q : (32 ≤ x ∧ x ≤ 126) → p < 84 → Q (some (.int (nI p + 1))) (uI (uI I 4 p x) 3 1 (nI p + 1)) S J) : M2 mX10_letter 2 [.ref 2, .int x] I S J Q := by
  refine m2_of [.ref 2, .int x] moX10_letter (Nat.le_of_ble_eq_true rfl) rfl ?_
  refine wp_iload_n dX10_letter_0 rfl ?_
  refine wp_bipush 32 dX10_letter_1 (by decide) ?_
  refine wp_icmp_lt dX10_letter_3 (fun h3 => ?_) (fun h3 => ?_)
  · skip
    refine wp_bipush (-102) dX10_letter_12 (by decide) ?_
    refine g_iret dX10_letter_14 rfl ?_
    exact k1_q (by grind)
  · skip
    refine wp_iload_n dX10_letter_6 rfl ?_
    refine wp_bipush 126 dX10_letter_7 (by decide) ?_
    refine wp_icmp_le dX10_letter_9 (fun h9 => ?_) (fun h9 => ?_)
    · skip
      have hx_q : 32 ≤ x ∧ x ≤ 126 := by grind
      refine wp_aload_n dX10_letter_15 rfl ?_
      refine wp_getA (by first | rfl | assumption) dX10_letter_16 flRX10_10 (by first | rfl | assumption) ?_
      refine c_getI dX10_letter_19 flRX10_59 (by first | rfl | assumption) (by omega) ?_
      refine wp_bipush 84 dX10_letter_22 (by decide) ?_
      refine wp_icmp_lt dX10_letter_24 (fun h24 => ?_) (fun h24 => ?_)
      · skip
        have p8_q : p < 84 := by rw [hp_q, show (84 : Int32) = nI 84 from rfl, nI_ltg (by omega) (by omega)] at h24; exact h24
        refine wp_aload_n dX10_letter_30 rfl ?_
        refine wp_getA (by first | rfl | assumption) dX10_letter_31 flRX10_10 (by first | rfl | assumption) ?_
        refine wp_iload_n dX10_letter_34 rfl ?_
        refine g_callV1 (mj := mX5_add) dX10_letter_35 lkRX10_63 mkX5_add (by first | rfl | assumption) (by decide) (by decide) (Nat.le_of_ble_eq_true rfl) (c_padd hp_q p8_q ?_)
        refine wp_aload_n dX10_letter_38 rfl ?_
        refine wp_getA (by first | rfl | assumption) dX10_letter_39 flRX10_10 (by first | rfl | assumption) ?_
        refine c_getI dX10_letter_42 flRX10_59 (by first | rfl | assumption) (by omega) ?_
        refine g_iret dX10_letter_45 rfl ?_
        rw [uI_self]; exact k3_q hx_q p8_q
      · skip
        refine wp_bipush (-104) dX10_letter_27 (by decide) ?_
        refine g_iret dX10_letter_29 rfl ?_
        exact k2_q hx_q (by rw [hp_q, show (84 : Int32) = nI 84 from rfl, nI_ltg (by omega) (by omega)] at h24; omega)
    · skip
      refine wp_bipush (-102) dX10_letter_12 (by decide) ?_
      refine g_iret dX10_letter_14 rfl ?_
      exact k1_q (by grind)
