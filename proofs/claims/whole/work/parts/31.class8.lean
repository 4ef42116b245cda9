set_option maxHeartbeats 4000000 in
theorem c_lFull {I S : Mem} {J : Mel} {Q : Option Value → Mem → Mem → Mel → Prop} {a : Nat} (hL_q : IsLinks a) (k : Q (some (.int (b01 (6 ≤ I a 2)))) I S J) : M2 mX4_isFull 1 [.ref a] I S J Q := by
  obtain ⟨s1_q, s2_q, s3_q, s4_q, s5_q, s6_q⟩ := id hL_q
  refine m2_of [.ref a] moX4_isFull (Nat.le_of_ble_eq_true rfl) rfl ?_
  refine wp_aload_n dX4_isFull_0 rfl ?_
  refine c_getI dX4_isFull_1 flRX4_18 (by first | rfl | assumption) (by omega) ?_
  refine wp_bipush 6 dX4_isFull_4 (by decide) ?_
  refine wp_icmp_lt dX4_isFull_6 (fun h6 => ?_) (fun h6 => ?_)
  · skip
    refine wp_iconst 0 dX4_isFull_13 (by decide) ?_
    refine g_zret dX4_isFull_14 rfl (by first | decide | assumption) ?_
    first | (rw [b01_t (by grind)] at k; exact k) | (rw [b01_f (by grind)] at k; exact k)
  · skip
    refine wp_iconst 1 dX4_isFull_9 (by decide) ?_
    refine wp_goto dX4_isFull_10 ?_
    refine g_zret dX4_isFull_14 rfl (by first | decide | assumption) ?_
    first | (rw [b01_t (by grind)] at k; exact k) | (rw [b01_f (by grind)] at k; exact k)
set_option maxHeartbeats 4000000 in
theorem c_sFull {I S : Mem} {J : Mel} {Q : Option Value → Mem → Mem → Mel → Prop} {a : Nat} (hL_q : IsSeen a) (k : Q (some (.int (b01 (6 ≤ I a 2)))) I S J) : M2 mX8_isFull 1 [.ref a] I S J Q := by
  obtain ⟨s1_q, s2_q, s3_q, s4_q, s5_q, s6_q⟩ := id hL_q
  refine m2_of [.ref a] moX8_isFull (Nat.le_of_ble_eq_true rfl) rfl ?_
  refine wp_aload_n dX8_isFull_0 rfl ?_
  refine c_getI dX8_isFull_1 flRX8_18 (by first | rfl | assumption) (by omega) ?_
  refine wp_bipush 6 dX8_isFull_4 (by decide) ?_
  refine wp_icmp_lt dX8_isFull_6 (fun h6 => ?_) (fun h6 => ?_)
  · skip
    refine wp_iconst 0 dX8_isFull_13 (by decide) ?_
    refine g_zret dX8_isFull_14 rfl (by first | decide | assumption) ?_
    first | (rw [b01_t (by grind)] at k; exact k) | (rw [b01_f (by grind)] at k; exact k)
  · skip
    refine wp_iconst 1 dX8_isFull_9 (by decide) ?_
    refine wp_goto dX8_isFull_10 ?_
    refine g_zret dX8_isFull_14 rfl (by first | decide | assumption) ?_
    first | (rw [b01_t (by grind)] at k; exact k) | (rw [b01_f (by grind)] at k; exact k)
set_option maxHeartbeats 4000000 in
theorem c_ladd {I S : Mem} {J : Mel} {Q : Option Value → Mem → Mem → Mel → Prop} {a z : Nat} {x y : Int32} (hL_q : IsLinks a) (hz_q : I a 2 = nI z) (hz6_q : z < 6) (k : Q none (uI (uI (uI I (a + 1) z x) (a + 2) z y) a 2 (nI z + 1)) S J) : M2 mX4_add 1 [.ref a, .int x, .int y] I S J Q := by
  obtain ⟨s1_q, s2_q, s3_q, s4_q, s5_q, s6_q⟩ := id hL_q
  refine m2_of [.ref a, .int x, .int y] moX4_add (Nat.le_of_ble_eq_true rfl) rfl ?_
  refine wp_aload_n dX4_add_0 rfl ?_
  refine c_getI dX4_add_1 flRX4_18 (by first | rfl | assumption) (by omega) ?_
  refine wp_bipush 6 dX4_add_4 (by decide) ?_
  refine wp_icmp_ge dX4_add_6 (fun h6 => absurd h6 (by rw [hz_q, show (6 : Int32) = nI 6 from rfl, nI_leg (by omega) (by omega)]; omega)) (fun h6 => ?_)
  refine wp_aload_n dX4_add_9 rfl ?_
  refine wp_getA (by first | rfl | assumption) dX4_add_10 flRX4_9 (by first | rfl | assumption) ?_
  refine wp_aload_n dX4_add_13 rfl ?_
  refine c_getI dX4_add_14 flRX4_18 (by first | rfl | assumption) (by omega) ?_
  refine wp_iload_n dX4_add_17 rfl ?_
  refine c_iast dX4_add_18 s4_q hz_q (by omega) (by omega) (by decide) ?_
  refine wp_aload_n dX4_add_19 rfl ?_
  refine wp_getA (by first | rfl | assumption) dX4_add_20 flRX4_15 (by first | rfl | assumption) ?_
  refine wp_aload_n dX4_add_23 rfl ?_
  refine c_getI dX4_add_24 flRX4_18 (by first | rfl | assumption) (by omega) ?_
  refine wp_iload_n dX4_add_27 rfl ?_
  refine c_iast dX4_add_28 s5_q (by rw [uI_ne (by omega)]; exact hz_q) (by omega) (by omega) (by decide) ?_
  refine wp_aload_n dX4_add_29 rfl ?_
  refine wp_dup dX4_add_30 rfl ?_
  refine c_getI dX4_add_31 flRX4_18 (by first | rfl | assumption) (by omega) ?_
  refine wp_iconst 1 dX4_add_34 (by decide) ?_
  refine wp_iadd dX4_add_35 ?_
  refine c_putI dX4_add_36 flRX4_18 (by first | rfl | assumption) (by omega) ?_
  refine g_vret dX4_add_39 rfl ?_
  rw [uI_ne (show a ≠ a + 2 by omega), uI_ne (show a ≠ a + 1 by omega), hz_q]; exact k
/-- which link it is: the first of the two -/
def fdC (I : Mem) (a : Nat) (x y : Int32) (l : Nat) : Nat → Int32
  | 0 => -1
  | c + 1 => if ¬ x = y ∧ (if I (a + 1) (l - (c + 1)) = x then I (a + 2) (l - (c + 1)) else if I (a + 2) (l - (c + 1)) = x then I (a + 1) (l - (c + 1)) else -1) = y then nI (l - (c + 1)) else fdC I a x y l c
set_option maxHeartbeats 4000000 in
theorem l_find {I S : Mem} {J : Mel} {Q : Option Value → Mem → Mem → Mel → Prop} {a l : Nat} {x y : Int32} (hL_q : IsLinks a) (hl_q : I a 2 = nI l) (hl6_q : l ≤ 6) : ∀ (z : Nat), (z ≤ l) → (Q (some (.int (fdC I a x y l (l - z)))) I S J) → W2 mX4_find 2 Q I S J 2 [.ref a, .int x, .int y, .int (nI z)] [] := by
  intro z
  induction hm : l - z using Nat.strongRecOn generalizing z with
  | _ c ih =>
    intro hz_q k
    obtain ⟨s1_q, s2_q, s3_q, s4_q, s5_q, s6_q⟩ := id hL_q
    rw [← hm] at k
    refine wp_iload_n dX4_find_2 rfl ?_
    refine wp_aload_n dX4_find_3 rfl ?_
    refine c_getI dX4_find_4 flRX4_18 (by first | rfl | assumption) (by omega) ?_
    refine wp_icmp_ge dX4_find_7 (fun h7 => ?_) (fun h7 => ?_)
    · skip
      refine wp_iconst (-1) dX4_find_33 (by decide) ?_
      refine g_iret dX4_find_34 rfl ?_
      have e_q : l - z = 0 := by rw [hl_q, nI_leg (by omega) (by omega)] at h7; omega
      rw [e_q] at k; exact k
    · skip
      have hzl_q : z < l := by rw [hl_q, nI_leg (by omega) (by omega)] at h7; omega
      obtain ⟨c2, hc2_q⟩ : ∃ c2, l - z = c2 + 1 := ⟨l - z - 1, by omega⟩
      have ez_q : l - (c2 + 1) = z := by omega
      rw [hc2_q] at k
      simp only [fdC] at k
      rw [ez_q] at k
      refine wp_iload_n dX4_find_10 rfl ?_
      refine wp_iload_n dX4_find_11 rfl ?_
      refine wp_icmp_eq dX4_find_12 (fun h12 => ?_) (fun h12 => ?_)
      · skip
        refine ic_4_3 (nI (z + 1)) dX4_find_27 (nI_inc z) (by decide) rfl ?_
        refine wp_goto dX4_find_30 ?_
        rw [if_neg (by first | exact fun q => absurd h12 q.1 | exact fun q => absurd q.2 h22)] at k
        exact ih _ (by omega) (z + 1) rfl (by omega) (by have e_q : l - (z + 1) = c2 := (by omega); simpa only [e_q] using k)
      · skip
        refine wp_aload_n dX4_find_15 rfl ?_
        refine wp_iload_n dX4_find_16 rfl ?_
        refine wp_iload_n dX4_find_17 rfl ?_
        refine g_callV2 (mj := mX4_partnerOf) dX4_find_18 lkRX4_22 mkX4_partnerOf (by first | rfl | assumption) (by decide) (by decide) (Nat.le_of_ble_eq_true rfl) (c_partner hL_q (by omega) ?_)
        refine wp_iload_n dX4_find_21 rfl ?_
        refine wp_icmp_ne dX4_find_22 (fun h22 => ?_) (fun h22 => ?_)
        · skip
          refine ic_4_3 (nI (z + 1)) dX4_find_27 (nI_inc z) (by decide) rfl ?_
          refine wp_goto dX4_find_30 ?_
          rw [if_neg (by first | exact fun q => absurd h12 q.1 | exact fun q => absurd q.2 h22)] at k
          exact ih _ (by omega) (z + 1) rfl (by omega) (by have e_q : l - (z + 1) = c2 := (by omega); simpa only [e_q] using k)
        · skip
          refine wp_iload_n dX4_find_25 rfl ?_
          refine g_iret dX4_find_26 rfl ?_
          rw [if_pos ⟨h12, h22⟩] at k; exact k
set_option maxHeartbeats 4000000 in
theorem c_find {I S : Mem} {J : Mel} {Q : Option Value → Mem → Mem → Mel → Prop} {a l : Nat} {x y : Int32} (hL_q : IsLinks a) (hl_q : I a 2 = nI l) (hl6_q : l ≤ 6) (k : Q (some (.int (fdC I a x y l l))) I S J) : M2 mX4_find 2 [.ref a, .int x, .int y] I S J Q := by
  refine m2_of [.ref a, .int x, .int y, dum] moX4_find (Nat.le_of_ble_eq_true rfl) rfl ?_
  refine wp_iconst 0 dX4_find_0 (by decide) ?_
  refine st_i_4_3 dX4_find_1 (by decide) rfl ?_
  exact l_find hL_q hl_q hl6_q 0 (by omega) k
set_option maxHeartbeats 4000000 in
theorem l_ltake {I S : Mem} {J : Mel} {Q : Option Value → Mem → Mem → Mel → Prop} {b z p : Nat} (hL_q : IsLinks b) (hz_q : I b 2 = nI z) (hz6_q : z ≤ 6) (k : Q none (uI (tkC I b p z) b 2 (nI z - 1)) S J) : ∀ (x : Nat), (x ≤ z) → (p < x) → W2 mX4_takeOut 1 Q (tkC I b p x) S J 4 [.ref b, .int (nI p), .int (nI x)] [] := by
  intro x
  induction hm : z - x using Nat.strongRecOn generalizing x with
  | _ c ih =>
    intro hx_q hpx_q
    obtain ⟨s1_q, s2_q, s3_q, s4_q, s5_q, s6_q⟩ := id hL_q
    have e0_q : tkC I b p x b = I b := tkC_n _ _ _ _ (by omega) (by omega)
    refine wp_iload_n dX4_takeOut_4 rfl ?_
    refine wp_aload_n dX4_takeOut_5 rfl ?_
    refine c_getI dX4_takeOut_6 flRX4_18 (by first | rfl | assumption) (by omega) ?_
    refine wp_icmp_ge dX4_takeOut_9 (fun h9 => ?_) (fun h9 => ?_)
    · skip
      refine wp_aload_n dX4_takeOut_46 rfl ?_
      refine wp_dup dX4_takeOut_47 rfl ?_
      refine c_getI dX4_takeOut_48 flRX4_18 (by first | rfl | assumption) (by omega) ?_
      refine wp_iconst 1 dX4_takeOut_51 (by decide) ?_
      refine wp_isub dX4_takeOut_52 ?_
      refine c_putI dX4_takeOut_53 flRX4_18 (by first | rfl | assumption) (by omega) ?_
      refine g_vret dX4_takeOut_56 rfl ?_
      have e_q : x = z := by rw [e0_q, hz_q, nI_leg (by omega) (by omega)] at h9; omega
      subst e_q
      rw [e0_q, hz_q]; exact k
    · skip
      have hxz_q : x < z := by rw [e0_q, hz_q, nI_leg (by omega) (by omega)] at h9; omega
      refine wp_aload_n dX4_takeOut_12 rfl ?_
      refine wp_getA (by first | rfl | assumption) dX4_takeOut_13 flRX4_9 (by first | rfl | assumption) ?_
      refine wp_iload_n dX4_takeOut_16 rfl ?_
      refine wp_iconst 1 dX4_takeOut_17 (by decide) ?_
      refine wp_isub dX4_takeOut_18 ?_
      refine wp_aload_n dX4_takeOut_19 rfl ?_
      refine wp_getA (by first | rfl | assumption) dX4_takeOut_20 flRX4_9 (by first | rfl | assumption) ?_
      refine wp_iload_n dX4_takeOut_23 rfl ?_
      refine c_iald dX4_takeOut_24 s4_q rfl (by omega) (by omega) (by decide) ?_
      refine c_iast dX4_takeOut_25 s4_q (nI_s1 (by omega)) (by omega) (by omega) (by decide) ?_
      refine wp_aload_n dX4_takeOut_26 rfl ?_
      refine wp_getA (by first | rfl | assumption) dX4_takeOut_27 flRX4_15 (by first | rfl | assumption) ?_
      refine wp_iload_n dX4_takeOut_30 rfl ?_
      refine wp_iconst 1 dX4_takeOut_31 (by decide) ?_
      refine wp_isub dX4_takeOut_32 ?_
      refine wp_aload_n dX4_takeOut_33 rfl ?_
      refine wp_getA (by first | rfl | assumption) dX4_takeOut_34 flRX4_15 (by first | rfl | assumption) ?_
      refine wp_iload_n dX4_takeOut_37 rfl ?_
      refine c_iald dX4_takeOut_38 s5_q rfl (by omega) (by omega) (by decide) ?_
      refine c_iast dX4_takeOut_39 s5_q (nI_s1 (by omega)) (by omega) (by omega) (by decide) ?_
      rw [tkC_1 I hpx_q]
      refine ic_3_2 (nI (x + 1)) dX4_takeOut_40 (nI_inc x) (by decide) rfl ?_
      refine wp_goto dX4_takeOut_43 ?_
      exact ih _ (by omega) (x + 1) rfl (by omega) (by omega)
set_option maxHeartbeats 4000000 in
theorem c_ltake {I S : Mem} {J : Mel} {Q : Option Value → Mem → Mem → Mel → Prop} {b z p : Nat} (hL_q : IsLinks b) (hz_q : I b 2 = nI z) (hz6_q : z ≤ 6) (hp_q : p < z) (k : Q none (uI (tkC I b p z) b 2 (nI z - 1)) S J) : M2 mX4_takeOut 1 [.ref b, .int (nI p)] I S J Q := by
  refine m2_of [.ref b, .int (nI p), dum] moX4_takeOut (Nat.le_of_ble_eq_true rfl) rfl ?_
  refine wp_iload_n dX4_takeOut_0 rfl ?_
  refine wp_iconst 1 dX4_takeOut_1 (by decide) ?_
  refine wp_iadd dX4_takeOut_2 ?_
  refine st_i_3_2 dX4_takeOut_3 (by decide) rfl ?_
  have t_q := l_ltake hL_q hz_q hz6_q k (p + 1) (by omega) (by omega)
  rw [tkC_0, ← nI_1] at t_q
  exact t_q
def ctC (I : Mem) (a : Nat) (x : Int32) : Nat → Int32
  | 0 => 0
  | c + 1 => ctC I a x c + (if (if I (a + 1) c = x then I (a + 2) c else if I (a + 2) c = x then I (a + 1) c else -1) = -1 then 0 else 1)
set_option maxHeartbeats 4000000 in
theorem l_countOf {I S : Mem} {J : Mel} {Q : Option Value → Mem → Mem → Mel → Prop} {a l : Nat} {x : Int32} (hL_q : IsLinks a) (hl_q : I a 2 = nI l) (hl6_q : l ≤ 6) (k : Q (some (.int (ctC I a x l))) I S J) : ∀ (z : Nat), (z ≤ l) → W2 mX4_countOf 2 Q I S J 4 [.ref a, .int x, .int (ctC I a x z), .int (nI z)] [] := by
  intro z
  induction hm : l - z using Nat.strongRecOn generalizing z with
  | _ c ih =>
    intro hz_q
    obtain ⟨s1_q, s2_q, s3_q, s4_q, s5_q, s6_q⟩ := id hL_q
    refine wp_iload_n dX4_countOf_4 rfl ?_
    refine wp_aload_n dX4_countOf_5 rfl ?_
    refine c_getI dX4_countOf_6 flRX4_18 (by first | rfl | assumption) (by omega) ?_
    refine wp_icmp_ge dX4_countOf_9 (fun h9 => ?_) (fun h9 => ?_)
    · skip
      refine wp_iload_n dX4_countOf_31 rfl ?_
      refine g_iret dX4_countOf_32 rfl ?_
      have e_q : z = l := by rw [hl_q, nI_leg (by omega) (by omega)] at h9; omega
      rw [e_q]; exact k
    · skip
      have hzl_q : z < l := by rw [hl_q, nI_leg (by omega) (by omega)] at h9; omega
      refine wp_aload_n dX4_countOf_12 rfl ?_
      refine wp_iload_n dX4_countOf_13 rfl ?_
      refine wp_iload_n dX4_countOf_14 rfl ?_
      refine g_callV2 (mj := mX4_partnerOf) dX4_countOf_15 lkRX4_22 mkX4_partnerOf (by first | rfl | assumption) (by decide) (by decide) (Nat.le_of_ble_eq_true rfl) (c_partner hL_q (by omega) ?_)
      refine wp_iconst (-1) dX4_countOf_18 (by decide) ?_
      refine wp_icmp_eq dX4_countOf_19 (fun h19 => ?_) (fun h19 => ?_)
      · skip
        refine ic_4_3 (nI (z + 1)) dX4_countOf_25 (nI_inc z) (by decide) rfl ?_
        refine wp_goto dX4_countOf_28 ?_
        have t_q := ih _ (by omega) (z + 1) rfl (by omega)
        simp only [ctC] at t_q
        first | (rw [if_pos h19, Int32.add_zero] at t_q; exact t_q) | (rw [if_neg h19] at t_q; exact t_q)
      · skip
        refine ic_4_2 _ dX4_countOf_22 rfl (by decide) rfl ?_
        refine ic_4_3 (nI (z + 1)) dX4_countOf_25 (nI_inc z) (by decide) rfl ?_
        refine wp_goto dX4_countOf_28 ?_
        have t_q := ih _ (by omega) (z + 1) rfl (by omega)
        simp only [ctC] at t_q
        first | (rw [if_pos h19, Int32.add_zero] at t_q; exact t_q) | (rw [if_neg h19] at t_q; exact t_q)
set_option maxHeartbeats 4000000 in
theorem c_countOf {I S : Mem} {J : Mel} {Q : Option Value → Mem → Mem → Mel → Prop} {a l : Nat} {x : Int32} (hL_q : IsLinks a) (hl_q : I a 2 = nI l) (hl6_q : l ≤ 6) (k : Q (some (.int (ctC I a x l))) I S J) : M2 mX4_countOf 2 [.ref a, .int x] I S J Q := by
  refine m2_of [.ref a, .int x, dum, dum] moX4_countOf (Nat.le_of_ble_eq_true rfl) rfl ?_
  refine wp_iconst 0 dX4_countOf_0 (by decide) ?_
  refine st_i_4_2 dX4_countOf_1 (by decide) rfl ?_
  refine wp_iconst 0 dX4_countOf_2 (by decide) ?_
  refine st_i_4_3 dX4_countOf_3 (by decide) rfl ?_
  exact l_countOf hL_q hl_q hl6_q k 0 (by omega)
/-- a copy of two rows -/
def cp3 (I I' : Mem) (d s z : Nat) : Prop := (∀ b, b ≠ d → b ≠ d + 1 → b ≠ d + 2 → I' b = I b) ∧ I' d = uI I d 2 (nI z) d ∧ ∀ j, j < z → I' (d + 1) j = I (s + 1) j ∧ I' (d + 2) j = I (s + 2) j
set_option maxHeartbeats 4000000 in
theorem l_bcopy {I S : Mem} {J : Mel} {Q : Option Value → Mem → Mem → Mel → Prop} {d s z : Nat} (hL_q : IsBox d) (hM_q : IsBox s) (hds_q : s + 3 ≤ d ∨ d + 3 ≤ s) (hz6_q : z ≤ 5) (k : ∀ I2, cp3 I I2 d s z → Q none I2 S J) : ∀ (x : Nat) (I2 : Mem), (x ≤ z) → (∀ b, b ≠ d → b ≠ d + 1 → b ≠ d + 2 → I2 b = I b) → (I2 d = uI I d 2 (nI z) d) → (∀ j, j < x → I2 (d + 1) j = I (s + 1) j ∧ I2 (d + 2) j = I (s + 2) j) → W2 mX1_copyFrom 1 Q I2 S J 10 [.ref d, .ref s, .int (nI x)] [] := by
  intro x I2
  induction hm : z - x using Nat.strongRecOn generalizing x I2 with
  | _ c ih =>
    intro hx_q h1_q h2_q h3_q
    obtain ⟨s1_q, s2_q, s3_q, s4_q, s5_q, s6_q⟩ := id hL_q
    obtain ⟨t1_q, t2_q, t3_q, t4_q, t5_q, t6_q⟩ := id hM_q
    have ez_q : I2 d 2 = nI z := by rw [h2_q, uI_self]
    refine wp_iload_n dX1_copyFrom_10 rfl ?_
    refine wp_aload_n dX1_copyFrom_11 rfl ?_
    refine c_getI dX1_copyFrom_12 flRX1_18 (by first | rfl | assumption) (by omega) ?_
    refine wp_icmp_ge dX1_copyFrom_15 (fun h15 => ?_) (fun h15 => ?_)
    · skip
      refine g_vret dX1_copyFrom_48 rfl ?_
      have e_q : x = z := by rw [ez_q, nI_leg (by omega) (by omega)] at h15; omega
      subst e_q; exact k _ ⟨h1_q, h2_q, h3_q⟩
    · skip
      have hxz_q : x < z := by rw [ez_q, nI_leg (by omega) (by omega)] at h15; omega
      refine wp_aload_n dX1_copyFrom_18 rfl ?_
      refine wp_getA (by first | rfl | assumption) dX1_copyFrom_19 flRX1_9 (by first | rfl | assumption) ?_
      refine wp_iload_n dX1_copyFrom_22 rfl ?_
      refine wp_aload_n dX1_copyFrom_23 rfl ?_
      refine wp_getA (by first | rfl | assumption) dX1_copyFrom_24 flRX1_9 (by first | rfl | assumption) ?_
      refine wp_iload_n dX1_copyFrom_27 rfl ?_
      refine c_iald dX1_copyFrom_28 t4_q rfl (by omega) (by omega) (by decide) ?_
      refine c_iast dX1_copyFrom_29 s4_q rfl (by omega) (by omega) (by decide) ?_
      refine wp_aload_n dX1_copyFrom_30 rfl ?_
      refine wp_getA (by first | rfl | assumption) dX1_copyFrom_31 flRX1_15 (by first | rfl | assumption) ?_
      refine wp_iload_n dX1_copyFrom_34 rfl ?_
      refine wp_aload_n dX1_copyFrom_35 rfl ?_
      refine wp_getA (by first | rfl | assumption) dX1_copyFrom_36 flRX1_15 (by first | rfl | assumption) ?_
      refine wp_iload_n dX1_copyFrom_39 rfl ?_
      refine c_iald dX1_copyFrom_40 t5_q rfl (by omega) (by omega) (by decide) ?_
      refine c_iast dX1_copyFrom_41 s5_q rfl (by omega) (by omega) (by decide) ?_
      refine ic_3_2 (nI (x + 1)) dX1_copyFrom_42 (nI_inc x) (by decide) rfl ?_
      refine wp_goto dX1_copyFrom_45 ?_
      refine ih _ (by omega) (x + 1) _ rfl (by omega) (fun b n1_q n2_q n3_q => ?_) ?_ (fun j hj_q => ?_)
      · rw [uI_ne n3_q, uI_ne n2_q]; exact h1_q b n1_q n2_q n3_q
      · rw [uI_ne (by omega), uI_ne (by omega)]; exact h2_q
      · rw [uI_ne (show d + 1 ≠ d + 2 by omega), uI_ap, uI_ap, uI_ne (show d + 2 ≠ d + 1 by omega), uI_ne (show s + 2 ≠ d + 1 by omega), h1_q (s + 1) (by omega) (by omega) (by omega), h1_q (s + 2) (by omega) (by omega) (by omega)]
        by_cases hjx_q : j = x
        · rw [if_pos ⟨rfl, hjx_q⟩, if_pos ⟨rfl, hjx_q⟩, hjx_q]; exact ⟨rfl, rfl⟩
        · rw [if_neg (by omega), if_neg (by omega)]; exact h3_q j (by omega)
set_option maxHeartbeats 4000000 in
theorem c_bcopy {I S : Mem} {J : Mel} {Q : Option Value → Mem → Mem → Mel → Prop} {d s z : Nat} (hL_q : IsBox d) (hM_q : IsBox s) (hds_q : s + 3 ≤ d ∨ d + 3 ≤ s) (hz_q : I s 2 = nI z) (hz6_q : z ≤ 5) (k : ∀ I2, cp3 I I2 d s z → Q none I2 S J) : M2 mX1_copyFrom 1 [.ref d, .ref s] I S J Q := by
  obtain ⟨s1_q, s2_q, s3_q, s4_q, s5_q, s6_q⟩ := id hL_q
  obtain ⟨t1_q, t2_q, t3_q, t4_q, t5_q, t6_q⟩ := id hM_q
  refine m2_of [.ref d, .ref s, dum] moX1_copyFrom (Nat.le_of_ble_eq_true rfl) rfl ?_
  refine wp_aload_n dX1_copyFrom_0 rfl ?_
  refine wp_aload_n dX1_copyFrom_1 rfl ?_
  refine c_getI dX1_copyFrom_2 flRX1_18 (by first | rfl | assumption) (by omega) ?_
  refine c_putI dX1_copyFrom_5 flRX1_18 (by first | rfl | assumption) (by omega) ?_
  refine wp_iconst 0 dX1_copyFrom_8 (by decide) ?_
  refine st_i_3_2 dX1_copyFrom_9 (by decide) rfl ?_
  rw [hz_q]
  exact l_bcopy hL_q hM_q hds_q hz6_q k 0 _ (by omega) (fun b n1_q n2_q n3_q => uI_ne n1_q) rfl (fun j hj_q => by omega)
set_option maxHeartbeats 4000000 in
theorem l_lcopy {I S : Mem} {J : Mel} {Q : Option Value → Mem → Mem → Mel → Prop} {d s z : Nat} (hL_q : IsLinks d) (hM_q : IsLinks s) (hds_q : s + 3 ≤ d ∨ d + 3 ≤ s) (hz6_q : z ≤ 6) (k : ∀ I2, cp3 I I2 d s z → Q none I2 S J) : ∀ (x : Nat) (I2 : Mem), (x ≤ z) → (∀ b, b ≠ d → b ≠ d + 1 → b ≠ d + 2 → I2 b = I b) → (I2 d = uI I d 2 (nI z) d) → (∀ j, j < x → I2 (d + 1) j = I (s + 1) j ∧ I2 (d + 2) j = I (s + 2) j) → W2 mX4_copyFrom 1 Q I2 S J 10 [.ref d, .ref s, .int (nI x)] [] := by
  intro x I2
  induction hm : z - x using Nat.strongRecOn generalizing x I2 with
  | _ c ih =>
    intro hx_q h1_q h2_q h3_q
    obtain ⟨s1_q, s2_q, s3_q, s4_q, s5_q, s6_q⟩ := id hL_q
    obtain ⟨t1_q, t2_q, t3_q, t4_q, t5_q, t6_q⟩ := id hM_q
    have ez_q : I2 d 2 = nI z := by rw [h2_q, uI_self]
    refine wp_iload_n dX4_copyFrom_10 rfl ?_
    refine wp_aload_n dX4_copyFrom_11 rfl ?_
    refine c_getI dX4_copyFrom_12 flRX4_18 (by first | rfl | assumption) (by omega) ?_
    refine wp_icmp_ge dX4_copyFrom_15 (fun h15 => ?_) (fun h15 => ?_)
    · skip
      refine g_vret dX4_copyFrom_48 rfl ?_
      have e_q : x = z := by rw [ez_q, nI_leg (by omega) (by omega)] at h15; omega
      subst e_q; exact k _ ⟨h1_q, h2_q, h3_q⟩
    · skip
      have hxz_q : x < z := by rw [ez_q, nI_leg (by omega) (by omega)] at h15; omega
      refine wp_aload_n dX4_copyFrom_18 rfl ?_
      refine wp_getA (by first | rfl | assumption) dX4_copyFrom_19 flRX4_9 (by first | rfl | assumption) ?_
      refine wp_iload_n dX4_copyFrom_22 rfl ?_
      refine wp_aload_n dX4_copyFrom_23 rfl ?_
      refine wp_getA (by first | rfl | assumption) dX4_copyFrom_24 flRX4_9 (by first | rfl | assumption) ?_
      refine wp_iload_n dX4_copyFrom_27 rfl ?_
      refine c_iald dX4_copyFrom_28 t4_q rfl (by omega) (by omega) (by decide) ?_
      refine c_iast dX4_copyFrom_29 s4_q rfl (by omega) (by omega) (by decide) ?_
      refine wp_aload_n dX4_copyFrom_30 rfl ?_
      refine wp_getA (by first | rfl | assumption) dX4_copyFrom_31 flRX4_15 (by first | rfl | assumption) ?_
      refine wp_iload_n dX4_copyFrom_34 rfl ?_
      refine wp_aload_n dX4_copyFrom_35 rfl ?_
      refine wp_getA (by first | rfl | assumption) dX4_copyFrom_36 flRX4_15 (by first | rfl | assumption) ?_
      refine wp_iload_n dX4_copyFrom_39 rfl ?_
      refine c_iald dX4_copyFrom_40 t5_q rfl (by omega) (by omega) (by decide) ?_
      refine c_iast dX4_copyFrom_41 s5_q rfl (by omega) (by omega) (by decide) ?_
      refine ic_3_2 (nI (x + 1)) dX4_copyFrom_42 (nI_inc x) (by decide) rfl ?_
      refine wp_goto dX4_copyFrom_45 ?_
      refine ih _ (by omega) (x + 1) _ rfl (by omega) (fun b n1_q n2_q n3_q => ?_) ?_ (fun j hj_q => ?_)
      · rw [uI_ne n3_q, uI_ne n2_q]; exact h1_q b n1_q n2_q n3_q
      · rw [uI_ne (by omega), uI_ne (by omega)]; exact h2_q
      · rw [uI_ne (show d + 1 ≠ d + 2 by omega), uI_ap, uI_ap, uI_ne (show d + 2 ≠ d + 1 by omega), uI_ne (show s + 2 ≠ d + 1 by omega), h1_q (s + 1) (by omega) (by omega) (by omega), h1_q (s + 2) (by omega) (by omega) (by omega)]
        by_cases hjx_q : j = x
        · rw [if_pos ⟨rfl, hjx_q⟩, if_pos ⟨rfl, hjx_q⟩, hjx_q]; exact ⟨rfl, rfl⟩
        · rw [if_neg (by omega), if_neg (by omega)]; exact h3_q j (by omega)
set_option maxHeartbeats 4000000 in
theorem c_lcopy {I S : Mem} {J : Mel} {Q : Option Value → Mem → Mem → Mel → Prop} {d s z : Nat} (hL_q : IsLinks d) (hM_q : IsLinks s) (hds_q : s + 3 ≤ d ∨ d + 3 ≤ s) (hz_q : I s 2 = nI z) (hz6_q : z ≤ 6) (k : ∀ I2, cp3 I I2 d s z → Q none I2 S J) : M2 mX4_copyFrom 1 [.ref d, .ref s] I S J Q := by
  obtain ⟨s1_q, s2_q, s3_q, s4_q, s5_q, s6_q⟩ := id hL_q
  obtain ⟨t1_q, t2_q, t3_q, t4_q, t5_q, t6_q⟩ := id hM_q
  refine m2_of [.ref d, .ref s, dum] moX4_copyFrom (Nat.le_of_ble_eq_true rfl) rfl ?_
  refine wp_aload_n dX4_copyFrom_0 rfl ?_
  refine wp_aload_n dX4_copyFrom_1 rfl ?_
  refine c_getI dX4_copyFrom_2 flRX4_18 (by first | rfl | assumption) (by omega) ?_
  refine c_putI dX4_copyFrom_5 flRX4_18 (by first | rfl | assumption) (by omega) ?_
  refine wp_iconst 0 dX4_copyFrom_8 (by decide) ?_
  refine st_i_3_2 dX4_copyFrom_9 (by decide) rfl ?_
  rw [hz_q]
  exact l_lcopy hL_q hM_q hds_q hz6_q k 0 _ (by omega) (fun b n1_q n2_q n3_q => uI_ne n1_q) rfl (fun j hj_q => by omega)
set_option maxHeartbeats 4000000 in
theorem l_scopy {I S : Mem} {J : Mel} {Q : Option Value → Mem → Mem → Mel → Prop} {d s z : Nat} (hL_q : IsSeen d) (hM_q : IsSeen s) (hds_q : s + 3 ≤ d ∨ d + 3 ≤ s) (hz6_q : z ≤ 6) (k : ∀ I2, cp3 I I2 d s z → Q none I2 S J) : ∀ (x : Nat) (I2 : Mem), (x ≤ z) → (∀ b, b ≠ d → b ≠ d + 1 → b ≠ d + 2 → I2 b = I b) → (I2 d = uI I d 2 (nI z) d) → (∀ j, j < x → I2 (d + 1) j = I (s + 1) j ∧ I2 (d + 2) j = I (s + 2) j) → W2 mX8_copyFrom 1 Q I2 S J 10 [.ref d, .ref s, .int (nI x)] [] := by
  intro x I2
  induction hm : z - x using Nat.strongRecOn generalizing x I2 with
  | _ c ih =>
    intro hx_q h1_q h2_q h3_q
    obtain ⟨s1_q, s2_q, s3_q, s4_q, s5_q, s6_q⟩ := id hL_q
    obtain ⟨t1_q, t2_q, t3_q, t4_q, t5_q, t6_q⟩ := id hM_q
    have ez_q : I2 d 2 = nI z := by rw [h2_q, uI_self]
    refine wp_iload_n dX8_copyFrom_10 rfl ?_
    refine wp_aload_n dX8_copyFrom_11 rfl ?_
    refine c_getI dX8_copyFrom_12 flRX8_18 (by first | rfl | assumption) (by omega) ?_
    refine wp_icmp_ge dX8_copyFrom_15 (fun h15 => ?_) (fun h15 => ?_)
    · skip
      refine g_vret dX8_copyFrom_48 rfl ?_
      have e_q : x = z := by rw [ez_q, nI_leg (by omega) (by omega)] at h15; omega
      subst e_q; exact k _ ⟨h1_q, h2_q, h3_q⟩
    · skip
      have hxz_q : x < z := by rw [ez_q, nI_leg (by omega) (by omega)] at h15; omega
      refine wp_aload_n dX8_copyFrom_18 rfl ?_
      refine wp_getA (by first | rfl | assumption) dX8_copyFrom_19 flRX8_9 (by first | rfl | assumption) ?_
      refine wp_iload_n dX8_copyFrom_22 rfl ?_
      refine wp_aload_n dX8_copyFrom_23 rfl ?_
      refine wp_getA (by first | rfl | assumption) dX8_copyFrom_24 flRX8_9 (by first | rfl | assumption) ?_
      refine wp_iload_n dX8_copyFrom_27 rfl ?_
      refine c_iald dX8_copyFrom_28 t4_q rfl (by omega) (by omega) (by decide) ?_
      refine c_iast dX8_copyFrom_29 s4_q rfl (by omega) (by omega) (by decide) ?_
      refine wp_aload_n dX8_copyFrom_30 rfl ?_
      refine wp_getA (by first | rfl | assumption) dX8_copyFrom_31 flRX8_15 (by first | rfl | assumption) ?_
      refine wp_iload_n dX8_copyFrom_34 rfl ?_
      refine wp_aload_n dX8_copyFrom_35 rfl ?_
      refine wp_getA (by first | rfl | assumption) dX8_copyFrom_36 flRX8_15 (by first | rfl | assumption) ?_
      refine wp_iload_n dX8_copyFrom_39 rfl ?_
      refine c_iald dX8_copyFrom_40 t5_q rfl (by omega) (by omega) (by decide) ?_
      refine c_iast dX8_copyFrom_41 s5_q rfl (by omega) (by omega) (by decide) ?_
      refine ic_3_2 (nI (x + 1)) dX8_copyFrom_42 (nI_inc x) (by decide) rfl ?_
      refine wp_goto dX8_copyFrom_45 ?_
      refine ih _ (by omega) (x + 1) _ rfl (by omega) (fun b n1_q n2_q n3_q => ?_) ?_ (fun j hj_q => ?_)
      · rw [uI_ne n3_q, uI_ne n2_q]; exact h1_q b n1_q n2_q n3_q
      · rw [uI_ne (by omega), uI_ne (by omega)]; exact h2_q
      · rw [uI_ne (show d + 1 ≠ d + 2 by omega), uI_ap, uI_ap, uI_ne (show d + 2 ≠ d + 1 by omega), uI_ne (show s + 2 ≠ d + 1 by omega), h1_q (s + 1) (by omega) (by omega) (by omega), h1_q (s + 2) (by omega) (by omega) (by omega)]
        by_cases hjx_q : j = x
        · rw [if_pos ⟨rfl, hjx_q⟩, if_pos ⟨rfl, hjx_q⟩, hjx_q]; exact ⟨rfl, rfl⟩
        · rw [if_neg (by omega), if_neg (by omega)]; exact h3_q j (by omega)
set_option maxHeartbeats 4000000 in
theorem c_scopy {I S : Mem} {J : Mel} {Q : Option Value → Mem → Mem → Mel → Prop} {d s z : Nat} (hL_q : IsSeen d) (hM_q : IsSeen s) (hds_q : s + 3 ≤ d ∨ d + 3 ≤ s) (hz_q : I s 2 = nI z) (hz6_q : z ≤ 6) (k : ∀ I2, cp3 I I2 d s z → Q none I2 S J) : M2 mX8_copyFrom 1 [.ref d, .ref s] I S J Q := by
  obtain ⟨s1_q, s2_q, s3_q, s4_q, s5_q, s6_q⟩ := id hL_q
  obtain ⟨t1_q, t2_q, t3_q, t4_q, t5_q, t6_q⟩ := id hM_q
  refine m2_of [.ref d, .ref s, dum] moX8_copyFrom (Nat.le_of_ble_eq_true rfl) rfl ?_
  refine wp_aload_n dX8_copyFrom_0 rfl ?_
  refine wp_aload_n dX8_copyFrom_1 rfl ?_
  refine c_getI dX8_copyFrom_2 flRX8_18 (by first | rfl | assumption) (by omega) ?_
  refine c_putI dX8_copyFrom_5 flRX8_18 (by first | rfl | assumption) (by omega) ?_
  refine wp_iconst 0 dX8_copyFrom_8 (by decide) ?_
  refine st_i_3_2 dX8_copyFrom_9 (by decide) rfl ?_
  rw [hz_q]
  exact l_scopy hL_q hM_q hds_q hz6_q k 0 _ (by omega) (fun b n1_q n2_q n3_q => uI_ne n1_q) rfl (fun j hj_q => by omega)
set_option maxHeartbeats 4000000 in
theorem c_padd {I S : Mem} {J : Mel} {Q : Option Value → Mem → Mem → Mel → Prop} {z : Nat} {x : Int32} (hz_q : I 3 1 = nI z) (hz84_q : z < 84) (k : Q none (uI (uI I 4 z x) 3 1 (nI z + 1)) S J) : M2 mX5_add 1 [.ref 3, .int x] I S J Q := by
  refine m2_of [.ref 3, .int x] moX5_add (Nat.le_of_ble_eq_true rfl) rfl ?_
  refine wp_aload_n dX5_add_0 rfl ?_
  refine c_getI dX5_add_1 flRX5_15 (by first | rfl | assumption) (by omega) ?_
  refine wp_bipush 84 dX5_add_4 (by decide) ?_
  refine wp_icmp_ge dX5_add_6 (fun h6 => absurd h6 (by rw [hz_q, show (84 : Int32) = nI 84 from rfl, nI_leg (by omega) (by omega)]; omega)) (fun h6 => ?_)
  refine wp_aload_n dX5_add_9 rfl ?_
  refine wp_getA (by first | rfl | assumption) dX5_add_10 flRX5_9 (by first | rfl | assumption) ?_
  refine wp_aload_n dX5_add_13 rfl ?_
  refine c_getI dX5_add_14 flRX5_15 (by first | rfl | assumption) (by omega) ?_
  refine wp_iload_n dX5_add_17 rfl ?_
  refine c_iast dX5_add_18 rfl hz_q (by omega) (by omega) (by decide) ?_
  refine wp_aload_n dX5_add_19 rfl ?_
  refine wp_dup dX5_add_20 rfl ?_
  refine c_getI dX5_add_21 flRX5_15 (by first | rfl | assumption) (by omega) ?_
  refine wp_iconst 1 dX5_add_24 (by decide) ?_
  refine wp_iadd dX5_add_25 ?_
  refine c_putI dX5_add_26 flRX5_15 (by first | rfl | assumption) (by omega) ?_
  refine g_vret dX5_add_29 rfl ?_
  rw [uI_ne (show (3 : Nat) ≠ 4 by decide), hz_q]; exact k
set_option maxHeartbeats 4000000 in
theorem c_isNone {I S : Mem} {J : Mel} {Q : Option Value → Mem → Mem → Mel → Prop} {a : Nat} (hP_q : IsPlan a) (k : Q (some (.int (b01 (I a 6 = 0)))) I S J) : M2 mX6_isNone 1 [.ref a] I S J Q := by
  obtain ⟨s1_q, s2_q, s3_q, s4_q, s5_q, s6_q, s7_q, s8_q, s9_q⟩ := id hP_q
  refine m2_of [.ref a] moX6_isNone (Nat.le_of_ble_eq_true rfl) rfl ?_
  refine wp_aload_n dX6_isNone_0 rfl ?_
  refine c_getI dX6_isNone_1 flRX6_34 (by first | rfl | assumption) (by omega) ?_
  refine wp_if_ne dX6_isNone_4 (fun h4 => ?_) (fun h4 => ?_)
  · skip
    refine wp_iconst 0 dX6_isNone_11 (by decide) ?_
    refine g_zret dX6_isNone_12 rfl (by first | decide | assumption) ?_
    first | (rw [b01_t (by grind)] at k; exact k) | (rw [b01_f (by grind)] at k; exact k)
  · skip
    refine wp_iconst 1 dX6_isNone_7 (by decide) ?_
    refine wp_goto dX6_isNone_8 ?_
    refine g_zret dX6_isNone_12 rfl (by first | decide | assumption) ?_
    first | (rw [b01_t (by grind)] at k; exact k) | (rw [b01_f (by grind)] at k; exact k)
set_option maxHeartbeats 4000000 in
theorem c_has {I S : Mem} {J : Mel} {Q : Option Value → Mem → Mem → Mel → Prop} {a : Nat} {x : Int32} (hP_q : IsPlan a) (k : Q (some (.int (b01 (0 ≤ x ∧ x < I a 6)))) I S J) : M2 mX6_has 1 [.ref a, .int x] I S J Q := by
  obtain ⟨s1_q, s2_q, s3_q, s4_q, s5_q, s6_q, s7_q, s8_q, s9_q⟩ := id hP_q
  refine m2_of [.ref a, .int x] moX6_has (Nat.le_of_ble_eq_true rfl) rfl ?_
  refine wp_iload_n dX6_has_0 rfl ?_
  refine wp_if_lt dX6_has_1 (fun h1 => ?_) (fun h1 => ?_)
  · skip
    refine wp_iconst 0 dX6_has_16 (by decide) ?_
    refine g_zret dX6_has_17 rfl (by first | decide | assumption) ?_
    first | (rw [b01_t (by grind)] at k; exact k) | (rw [b01_f (by grind)] at k; exact k)
  · skip
    refine wp_iload_n dX6_has_4 rfl ?_
    refine wp_aload_n dX6_has_5 rfl ?_
    refine c_getI dX6_has_6 flRX6_34 (by first | rfl | assumption) (by omega) ?_
    refine wp_icmp_ge dX6_has_9 (fun h9 => ?_) (fun h9 => ?_)
    · skip
      refine wp_iconst 0 dX6_has_16 (by decide) ?_
      refine g_zret dX6_has_17 rfl (by first | decide | assumption) ?_
      first | (rw [b01_t (by grind)] at k; exact k) | (rw [b01_f (by grind)] at k; exact k)
    · skip
      refine wp_iconst 1 dX6_has_12 (by decide) ?_
      refine wp_goto dX6_has_13 ?_
      refine g_zret dX6_has_17 rfl (by first | decide | assumption) ?_
      first | (rw [b01_t (by grind)] at k; exact k) | (rw [b01_f (by grind)] at k; exact k)
