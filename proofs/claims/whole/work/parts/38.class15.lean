/-- a change of what is seen alone -/
theorem Hc.seen {n T k : Nat} {dl : Int32} {I I' G G' : Mem} (h : Hc n T dl I k G) (hI : ∀ b, b ≠ k + 5 → b ≠ k + 6 → b ≠ k + 7 → I' b = I b) (hW : WS n T G') (hG : ∀ b, 127 ≤ b → b ≤ 139 → G' b = G b) (hg : G' 126 17 = G 126 17) (hl : G' 126 13 = G 126 13) (hS : RcS I' k G') : Hc n T dl I' k G' := by
  obtain ⟨hC, hW0, hR, hP, hT⟩ := h
  have hk := hC.2.2.2.2.2.2.2.2.2.2.2.2
  obtain ⟨q1, q2, q3, q4, q5⟩ := hR
  refine ⟨hC, hW, ⟨?_, ?_, fun i hi => ?_, ?_, hS⟩, ?_, hT⟩
  · rw [hI k (by omega) (by omega) (by omega), q1, hW0.2.2.1, hW.2.2.1]
  · rw [hI k (by omega) (by omega) (by omega), q2, hg]
  · have := q3 i hi
    unfold RcA at this ⊢
    rw [hI (k + 9 + 4 * i) (by omega) (by omega) (by omega), hI (k + 9 + 4 * i + 1) (by omega) (by omega) (by omega), hI (k + 9 + 4 * i + 2) (by omega) (by omega) (by omega), hI (k + 9 + 4 * i + 3) (by omega) (by omega) (by omega), hG 127 (by omega) (by omega), hG 130 (by omega) (by omega), hG 131 (by omega) (by omega), hG 132 (by omega) (by omega), hG 133 (by omega) (by omega), hG 134 (by omega) (by omega), hG 135 (by omega) (by omega), hG 136 (by omega) (by omega), hG 137 (by omega) (by omega)]
    exact this
  · unfold RcL at q4 ⊢
    rw [hI (k + 2) (by omega) (by omega) (by omega), hI (k + 3) (by omega) (by omega) (by omega), hI (k + 4) (by omega) (by omega) (by omega), hl, hG 138 (by omega) (by omega), hG 139 (by omega) (by omega)]
    exact q4
  · unfold Rp at hP ⊢
    rw [hI 15 (by omega) (by omega) (by omega), hI 17 (by omega) (by omega) (by omega), hI 18 (by omega) (by omega) (by omega), hI 19 (by omega) (by omega) (by omega), hI 20 (by omega) (by omega) (by omega), hG 128 (by omega) (by omega), hG 129 (by omega) (by omega)]
    exact hP
set_option maxHeartbeats 4000000 in
theorem c_pforget {I S : Mem} {J : Mel} {Q : Option Value → Mem → Mem → Mel → Prop} {n T : Nat} {G : Mem} (hH_q : Hc n T 0 I 24 G) (k : ∀ I', Hc n T 0 I' 24 (uI G 126 19 0) → Fr 24 I I' → Q (some (.int (G 126 19))) I' S J) : M2 mX10_forget 1 [.ref 2] I S J Q := by
  obtain ⟨hC_q, hW_q, hR_q, hP_q, hT_q⟩ := id hH_q
  obtain ⟨c1_q, c2_q, c3_q, c4_q, c5_q, c6_q, c7_q, c8_q, c9_q, c10_q, c11_q, c12_q, c13_q, c14_q⟩ := id hC_q
  have hn_q := hW_q.1
  have hs_q := c9_q.1
  refine m2_of [.ref 2, dum] moX10_forget (Nat.le_of_ble_eq_true rfl) rfl ?_
  refine wp_aload_n dX10_forget_0 rfl ?_
  refine wp_getA (by first | rfl | assumption) dX10_forget_1 flRX10_35 (by first | rfl | assumption) ?_
  refine wp_getA (by first | rfl | assumption) dX10_forget_4 flRX10_194 (by first | rfl | assumption) ?_
  refine c_getI dX10_forget_7 flRX10_202 (by first | rfl | assumption) (by omega) ?_
  refine st_i_2_1 dX10_forget_10 (by decide) rfl ?_
  refine wp_aload_n dX10_forget_11 rfl ?_
  refine wp_getA (by first | rfl | assumption) dX10_forget_12 flRX10_35 (by first | rfl | assumption) ?_
  refine wp_getA (by first | rfl | assumption) dX10_forget_15 flRX10_194 (by first | rfl | assumption) ?_
  refine wp_iconst 0 dX10_forget_18 (by decide) ?_
  refine c_putI dX10_forget_19 flRX10_202 (by first | rfl | assumption) (by omega) ?_
  refine wp_iload_n dX10_forget_22 rfl ?_
  refine g_iret dX10_forget_23 rfl ?_
  rw [hR_q.2.2.2.2.1]
  refine k _ (hH_q.seen (fun b h1 _ _ => uI_ne h1) (hW_q.scr (by unfold scrC; omega)) (fun b h1 _ => uI_ne (by omega)) (by simp [uI_ap]) (by simp [uI_ap]) ⟨by simp [uI_ap], fun j hj_q => ?_⟩) (Fr.rf.st (by omega))
  rw [uI_self] at hj_q
  exact absurd hj_q (by rw [show tn 0 = 0 from rfl]; omega)
