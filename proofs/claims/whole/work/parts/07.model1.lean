def b01 (p : Prop) [Decidable p] : Int32 := if p then 1 else 0
theorem b01_t {p : Prop} [Decidable p] (h : p) : b01 p = 1 := if_pos h
theorem b01_f {p : Prop} [Decidable p] (h : ¬ p) : b01 p = 0 := if_neg h
theorem b01_b (p : Prop) [Decidable p] : b01 p = 0 ∨ b01 p = 1 := by unfold b01; split <;> simp
set_option maxHeartbeats 4000000 in
theorem c_within {I S : Mem} {J : Mel} {Q : Option Value → Mem → Mem → Mel → Prop} {v a b : Int32} (k : Q (some (.int (b01 (a ≤ v ∧ v ≤ b)))) I S J) : M2 mX11_within 1 [.int v, .int a, .int b] I S J Q := by
  refine m2_of _ moX11_within (Nat.le_of_ble_eq_true rfl) rfl ?_
  refine wp_iload_n dX11_within_0 rfl ?_
  refine wp_iload_n dX11_within_1 rfl ?_
  refine wp_icmp_lt dX11_within_2 (fun h2 => ?_) (fun h2 => ?_)
  · skip
    refine wp_iconst 0 dX11_within_14 (by decide) ?_
    refine g_zret dX11_within_15 rfl (by first | decide | assumption) ?_
    first | (rw [b01_t (by grind)] at k; exact k) | (rw [b01_f (by grind)] at k; exact k)
  · skip
    refine wp_iload_n dX11_within_5 rfl ?_
    refine wp_iload_n dX11_within_6 rfl ?_
    refine wp_icmp_gt dX11_within_7 (fun h7 => ?_) (fun h7 => ?_)
    · skip
      refine wp_iconst 0 dX11_within_14 (by decide) ?_
      refine g_zret dX11_within_15 rfl (by first | decide | assumption) ?_
      first | (rw [b01_t (by grind)] at k; exact k) | (rw [b01_f (by grind)] at k; exact k)
    · skip
      refine wp_iconst 1 dX11_within_10 (by decide) ?_
      refine wp_goto dX11_within_11 ?_
      refine g_zret dX11_within_15 rfl (by first | decide | assumption) ?_
      first | (rw [b01_t (by grind)] at k; exact k) | (rw [b01_f (by grind)] at k; exact k)
set_option maxHeartbeats 4000000 in
theorem c_here {I S : Mem} {J : Mel} {Q : Option Value → Mem → Mem → Mel → Prop} {n i : Nat} (hn : S 126 23 = nI n) (hn2 : n ≤ 84) (hi : i < 200) (k : Q (some (.int (if i < n then S 143 i else 0))) I S J) : M2 mX11_here 1 [.ref 126, .int (nI i)] I S J Q := by
  have hin : nI n ≤ nI i ↔ n ≤ i := nI_leI (by omega) (by omega)
  refine m2_of _ moX11_here (Nat.le_of_ble_eq_true rfl) rfl ?_
  refine wp_iload_n dX11_here_0 rfl ?_
  refine wp_aload_n dX11_here_1 rfl ?_
  refine m_getI dX11_here_2 flRX11_153 (by first | rfl | assumption) (by decide) ?_
  refine wp_icmp_ge dX11_here_5 (fun h5 => ?_) (fun h5 => ?_)
  · skip
    refine wp_iconst 0 dX11_here_17 (by decide) ?_
    refine g_iret dX11_here_18 rfl ?_
    first | (rw [if_pos (by rw [hn, hin] at h5; omega)] at k; exact k) | (rw [if_neg (by rw [hn, hin] at h5; omega)] at k; exact k)
  · skip
    refine wp_aload_n dX11_here_8 rfl ?_
    refine wp_getA (by first | rfl | assumption) dX11_here_9 flRX11_58 (by first | rfl | assumption) ?_
    refine wp_iload_n dX11_here_12 rfl ?_
    refine m_bald dX11_here_13 (by first | rfl | assumption) (by first | rfl | assumption) (by first | decide | omega | assumption) (by decide) (by decide) ?_
    refine wp_goto dX11_here_14 ?_
    refine g_iret dX11_here_18 rfl ?_
    first | (rw [if_pos (by rw [hn, hin] at h5; omega)] at k; exact k) | (rw [if_neg (by rw [hn, hin] at h5; omega)] at k; exact k)
set_option maxHeartbeats 4000000 in
theorem c_begin {I S : Mem} {J : Mel} {Q : Option Value → Mem → Mem → Mel → Prop} {a : Nat} (ha : a < 6) (k : Q none I (uI (uI (uI (uI S 130 a 1) 131 a 0) 132 a 0) 133 a 0) J) : M2 mX11_begin 1 [.ref 126, .int (nI a)] I S J Q := by
  refine m2_of _ moX11_begin (Nat.le_of_ble_eq_true rfl) rfl ?_
  refine wp_aload_n dX11_begin_0 rfl ?_
  refine wp_getA (by first | rfl | assumption) dX11_begin_1 flRX11_19 (by first | rfl | assumption) ?_
  refine wp_iload_n dX11_begin_4 rfl ?_
  refine wp_iconst 1 dX11_begin_5 (by decide) ?_
  refine m_iast dX11_begin_6 (by first | rfl | assumption) (by first | rfl | assumption) (by first | decide | omega | assumption) (by decide) (by decide) ?_
  refine wp_aload_n dX11_begin_7 rfl ?_
  refine wp_getA (by first | rfl | assumption) dX11_begin_8 flRX11_22 (by first | rfl | assumption) ?_
  refine wp_iload_n dX11_begin_11 rfl ?_
  refine wp_iconst 0 dX11_begin_12 (by decide) ?_
  refine m_iast dX11_begin_13 (by first | rfl | assumption) (by first | rfl | assumption) (by first | decide | omega | assumption) (by decide) (by decide) ?_
  refine wp_aload_n dX11_begin_14 rfl ?_
  refine wp_getA (by first | rfl | assumption) dX11_begin_15 flRX11_25 (by first | rfl | assumption) ?_
  refine wp_iload_n dX11_begin_18 rfl ?_
  refine wp_iconst 0 dX11_begin_19 (by decide) ?_
  refine m_iast dX11_begin_20 (by first | rfl | assumption) (by first | rfl | assumption) (by first | decide | omega | assumption) (by decide) (by decide) ?_
  refine wp_aload_n dX11_begin_21 rfl ?_
  refine wp_getA (by first | rfl | assumption) dX11_begin_22 flRX11_28 (by first | rfl | assumption) ?_
  refine wp_iload_n dX11_begin_25 rfl ?_
  refine wp_iconst 0 dX11_begin_26 (by decide) ?_
  refine m_iast dX11_begin_27 (by first | rfl | assumption) (by first | rfl | assumption) (by first | decide | omega | assumption) (by decide) (by decide) ?_
  refine g_vret dX11_begin_28 rfl ?_
  exact k
