set_option maxHeartbeats 4000000 in
theorem c_mix {I S : Mem} {J : Mel} {Q : Option Value → Mem → Mem → Mel → Prop} {h v : Int64} (hJ_q : J 126 72 = h) (k : ∀ J', J' 126 72 = 31 * h + v → Q none I S J') : M2 mX11_mix 1 [.ref 126, .long v] I S J Q := by
  refine m2_of [.ref 126, .long v, dum] moX11_mix (Nat.le_of_ble_eq_true rfl) rfl ?_
  refine wp_aload_n dX11_mix_0 rfl ?_
  refine wp_ldc2 dX11_mix_1 kcRX11_388 ?_
  refine wp_aload_n dX11_mix_4 rfl ?_
  refine wp_getL dX11_mix_5 flRX11_390 (by first | rfl | assumption) ?_
  refine wp_lmul dX11_mix_8 ?_
  refine wp_lload_n dX11_mix_9 rfl ?_
  refine wp_ladd dX11_mix_10 ?_
  refine g_putL dX11_mix_11 flRX11_390 (by first | rfl | assumption) ?_
  refine g_vret dX11_mix_14 rfl ?_
  refine k _ ?_
  simp only [uJ]
  rw [hJ_q]; simp
def d10 (S : Mem) (a : Nat) (h : Int64) : Nat → Int64
  | 0 => h
  | v + 1 => 31 * d10 S a h v + (aN S a v).toInt64
def dbx (S : Mem) (a : Nat) (h : Int64) : Nat → Int64
  | 0 => h
  | j + 1 => 31 * (31 * dbx S a h j + (S 134 (5 * a + j)).toInt64) + (S 135 (5 * a + j)).toInt64
def dac (S : Mem) : Nat → Int64
  | 0 => 1399
  | a + 1 => dbx S a (d10 S a (dac S a) 10) (tn (S 133 a))
def dpg (S : Mem) (h : Int64) : Nat → Int64
  | 0 => h
  | j + 1 => 31 * dpg S h j + (S 143 j).toInt64
def dct (S : Mem) (h : Int64) : Nat → Int64
  | 0 => h
  | v + 1 => 31 * dct S h v + (spCount S (nI v)).toInt64
def spDig (S : Mem) : Int64 := dct S (dpg S (dac S (tn (S 126 1))) (tn (S 126 23))) 11
set_option maxHeartbeats 4000000 in
theorem l_dg1 {I S : Mem} {Q : Option Value → Mem → Mem → Mel → Prop} {n : Nat} (hn_q : n ≤ 6) (ha_q : S 126 1 = nI n) {s l : Nat} (hs_q : S 126 19 = nI s) (hs6_q : s ≤ 6) (hv_q : ∀ j, j < s → ∃ v, v < 4 ∧ S 141 j = nI v) (hl_q : S 126 13 = nI l) (hl6_q : l ≤ 6) {a : Nat} {h : Int64} (ha6_q : a < 6) (k : ∀ (J : Mel), J 126 72 = d10 S a h 10 → W2 mX11_digest 5 Q I S J 42 [.ref 126, .int (nI a), .int (nI 10)] []) : ∀ (x : Nat) (J : Mel), (x ≤ 10) → (J 126 72 = d10 S a h x) → W2 mX11_digest 5 Q I S J 19 [.ref 126, .int (nI a), .int (nI x)] [] := by
  intro x J
  induction hm : 10 - x using Nat.strongRecOn generalizing x J with
  | _ c ih =>
    intro hx_q hJ_q
    refine wp_iload_n dX11_digest_19 rfl ?_
    refine wp_bipush 10 dX11_digest_20 (by decide) ?_
    refine wp_icmp_ge dX11_digest_22 (fun h22 => ?_) (fun h22 => ?_)
    · skip
      have e_q : x = 10 := by rw [show (10 : Int32) = nI 10 from rfl, nI_leg (by omega) (by omega)] at h22; omega
      subst e_q; exact k J hJ_q
    · skip
      have hx2_q : x < 10 := by rw [show (10 : Int32) = nI 10 from rfl, nI_leg (by omega) (by omega)] at h22; omega
      refine wp_aload_n dX11_digest_25 rfl ?_
      refine wp_aload_n dX11_digest_26 rfl ?_
      refine wp_iload_n dX11_digest_27 rfl ?_
      refine wp_iload_n dX11_digest_28 rfl ?_
      refine g_callV2 (mj := mX11_actorNow) dX11_digest_29 lkRX11_248 mkX11_actorNow (by first | rfl | assumption) (by decide) (by decide) (Nat.le_of_ble_eq_true rfl) (c_actorNow ha6_q (by omega) hs_q hs6_q hv_q hl_q hl6_q ?_)
      refine wp_i2l dX11_digest_32 ?_
      refine g_callV1 (mj := mX11_mix) dX11_digest_33 lkRX11_395 mkX11_mix (by first | rfl | assumption) (by decide) (by decide) (Nat.le_of_ble_eq_true rfl) (c_mix hJ_q (fun J2 hJ2_q => ?_))
      refine ic_3_2 (nI (x + 1)) dX11_digest_36 (nI_inc x) (by decide) rfl ?_
      refine wp_goto dX11_digest_39 ?_
      exact ih _ (by omega) (x + 1) J2 rfl (by omega) hJ2_q
set_option maxHeartbeats 4000000 in
theorem l_dg2 {I S : Mem} {Q : Option Value → Mem → Mem → Mel → Prop} {a b : Nat} {h : Int64} (ha6_q : a < 6) (hb_q : S 133 a = nI b) (hb5_q : b ≤ 5) (k : ∀ (J : Mel), J 126 72 = dbx S a h b → W2 mX11_digest 5 Q I S J 90 [.ref 126, .int (nI a), .int (nI b)] []) : ∀ (x : Nat) (J : Mel), (x ≤ b) → (J 126 72 = dbx S a h x) → W2 mX11_digest 5 Q I S J 44 [.ref 126, .int (nI a), .int (nI x)] [] := by
  intro x J
  induction hm : b - x using Nat.strongRecOn generalizing x J with
  | _ c ih =>
    intro hx_q hJ_q
    refine wp_iload_n dX11_digest_44 rfl ?_
    refine wp_aload_n dX11_digest_45 rfl ?_
    refine wp_getA (by first | rfl | assumption) dX11_digest_46 flRX11_28 (by first | rfl | assumption) ?_
    refine wp_iload_n dX11_digest_49 rfl ?_
    refine m_iald dX11_digest_50 (by first | rfl | assumption) (by first | rfl | assumption) (by first | decide | omega | assumption) (by decide) (by decide) ?_
    refine wp_icmp_ge dX11_digest_51 (fun h51 => ?_) (fun h51 => ?_)
    · skip
      have e_q : x = b := by rw [hb_q, nI_leg (by omega) (by omega)] at h51; omega
      subst e_q; exact k J hJ_q
    · skip
      have hx2_q : x < b := by rw [hb_q, nI_leg (by omega) (by omega)] at h51; omega
      refine wp_aload_n dX11_digest_54 rfl ?_
      refine wp_aload_n dX11_digest_55 rfl ?_
      refine wp_getA (by first | rfl | assumption) dX11_digest_56 flRX11_31 (by first | rfl | assumption) ?_
      refine wp_iconst 5 dX11_digest_59 (by decide) ?_
      refine wp_iload_n dX11_digest_60 rfl ?_
      refine wp_imul dX11_digest_61 ?_
      refine wp_iload_n dX11_digest_62 rfl ?_
      refine wp_iadd dX11_digest_63 ?_
      refine m_iald dX11_digest_64 rfl (nI_mad 5 a x) (by omega) (by decide) (by decide) ?_
      refine wp_i2l dX11_digest_65 ?_
      refine g_callV1 (mj := mX11_mix) dX11_digest_66 lkRX11_395 mkX11_mix (by first | rfl | assumption) (by decide) (by decide) (Nat.le_of_ble_eq_true rfl) (c_mix hJ_q (fun J2 hJ2_q => ?_))
      refine wp_aload_n dX11_digest_69 rfl ?_
      refine wp_aload_n dX11_digest_70 rfl ?_
      refine wp_getA (by first | rfl | assumption) dX11_digest_71 flRX11_34 (by first | rfl | assumption) ?_
      refine wp_iconst 5 dX11_digest_74 (by decide) ?_
      refine wp_iload_n dX11_digest_75 rfl ?_
      refine wp_imul dX11_digest_76 ?_
      refine wp_iload_n dX11_digest_77 rfl ?_
      refine wp_iadd dX11_digest_78 ?_
      refine m_iald dX11_digest_79 rfl (nI_mad 5 a x) (by omega) (by decide) (by decide) ?_
      refine wp_i2l dX11_digest_80 ?_
      refine g_callV1 (mj := mX11_mix) dX11_digest_81 lkRX11_395 mkX11_mix (by first | rfl | assumption) (by decide) (by decide) (Nat.le_of_ble_eq_true rfl) (c_mix hJ2_q (fun J3 hJ3_q => ?_))
      refine ic_3_2 (nI (x + 1)) dX11_digest_84 (nI_inc x) (by decide) rfl ?_
      refine wp_goto dX11_digest_87 ?_
      exact ih _ (by omega) (x + 1) J3 rfl (by omega) hJ3_q
set_option maxHeartbeats 4000000 in
theorem l_dg {I S : Mem} {Q : Option Value → Mem → Mem → Mel → Prop} {n : Nat} (hn_q : n ≤ 6) (ha_q : S 126 1 = nI n) {s l : Nat} (hs_q : S 126 19 = nI s) (hs6_q : s ≤ 6) (hv_q : ∀ j, j < s → ∃ v, v < 4 ∧ S 141 j = nI v) (hl_q : S 126 13 = nI l) (hl6_q : l ≤ 6) {p : Nat} (hp_q : S 126 23 = nI p) (hp84_q : p ≤ 84) (hb_q : ∀ i, i < n → ∃ b, b ≤ 5 ∧ S 133 i = nI b) (k : ∀ (J : Mel) (u : Value), J 126 72 = dac S n → W2 mX11_digest 5 Q I S J 96 [.ref 126, .int (nI n), u] []) : ∀ (x : Nat) (J : Mel) (u : Value), (x ≤ n) → (J 126 72 = dac S x) → W2 mX11_digest 5 Q I S J 9 [.ref 126, .int (nI x), u] [] := by
  intro x J u
  induction hm : n - x using Nat.strongRecOn generalizing x J u with
  | _ c ih =>
    intro hx_q hJ_q
    refine wp_iload_n dX11_digest_9 rfl ?_
    refine wp_aload_n dX11_digest_10 rfl ?_
    refine m_getI dX11_digest_11 flRX11_212 (by first | rfl | assumption) (by decide) ?_
    refine wp_icmp_ge dX11_digest_14 (fun h14 => ?_) (fun h14 => ?_)
    · skip
      have e_q : x = n := by rw [ha_q, nI_leg (by omega) (by omega)] at h14; omega
      subst e_q; exact k J u hJ_q
    · skip
      have hx2_q : x < n := by rw [ha_q, nI_leg (by omega) (by omega)] at h14; omega
      have ha6_q : x < 6 := by omega
      obtain ⟨b, hb5_q, hbb_q⟩ := hb_q x hx2_q
      refine wp_iconst 0 dX11_digest_17 (by decide) ?_
      refine st_i_3_2 dX11_digest_18 (by decide) rfl ?_
      refine l_dg1 hn_q ha_q hs_q hs6_q hv_q hl_q hl6_q ha6_q (fun J2 hJ2_q => ?_) 0 J (by omega) hJ_q
      refine wp_iconst 0 dX11_digest_42 (by decide) ?_
      refine st_i_3_2 dX11_digest_43 (by decide) rfl ?_
      refine l_dg2 ha6_q hbb_q hb5_q (fun J3 hJ3_q => ?_) 0 J2 (by omega) hJ2_q
      refine ic_3_1 (nI (x + 1)) dX11_digest_90 (nI_inc x) (by decide) rfl ?_
      refine wp_goto dX11_digest_93 ?_
      refine ih _ (by omega) (x + 1) J3 _ rfl (by omega) ?_
      simp only [dac]
      rw [hbb_q, tn_nI (by omega)]; exact hJ3_q
set_option maxHeartbeats 4000000 in
theorem l_dg3 {I S : Mem} {Q : Option Value → Mem → Mem → Mel → Prop} {p : Nat} {h : Int64} {u : Value} (hp_q : S 126 23 = nI p) (hp84_q : p ≤ 84) (k : ∀ (J : Mel), J 126 72 = dpg S h p → W2 mX11_digest 5 Q I S J 123 [.ref 126, .int (nI p), u] []) : ∀ (x : Nat) (J : Mel), (x ≤ p) → (J 126 72 = dpg S h x) → W2 mX11_digest 5 Q I S J 98 [.ref 126, .int (nI x), u] [] := by
  intro x J
  induction hm : p - x using Nat.strongRecOn generalizing x J with
  | _ c ih =>
    intro hx_q hJ_q
    refine wp_iload_n dX11_digest_98 rfl ?_
    refine wp_aload_n dX11_digest_99 rfl ?_
    refine m_getI dX11_digest_100 flRX11_153 (by first | rfl | assumption) (by decide) ?_
    refine wp_icmp_ge dX11_digest_103 (fun h103 => ?_) (fun h103 => ?_)
    · skip
      have e_q : x = p := by rw [hp_q, nI_leg (by omega) (by omega)] at h103; omega
      subst e_q; exact k J hJ_q
    · skip
      have hx2_q : x < p := by rw [hp_q, nI_leg (by omega) (by omega)] at h103; omega
      refine wp_aload_n dX11_digest_106 rfl ?_
      refine wp_aload_n dX11_digest_107 rfl ?_
      refine wp_getA (by first | rfl | assumption) dX11_digest_108 flRX11_58 (by first | rfl | assumption) ?_
      refine wp_iload_n dX11_digest_111 rfl ?_
      refine m_bald dX11_digest_112 rfl rfl (by omega) (by decide) (by decide) ?_
      refine wp_i2l dX11_digest_113 ?_
      refine g_callV1 (mj := mX11_mix) dX11_digest_114 lkRX11_395 mkX11_mix (by first | rfl | assumption) (by decide) (by decide) (Nat.le_of_ble_eq_true rfl) (c_mix hJ_q (fun J2 hJ2_q => ?_))
      refine ic_3_1 (nI (x + 1)) dX11_digest_117 (nI_inc x) (by decide) rfl ?_
      refine wp_goto dX11_digest_120 ?_
      exact ih _ (by omega) (x + 1) J2 rfl (by omega) hJ2_q
set_option maxHeartbeats 4000000 in
theorem l_dg4 {I S : Mem} {Q : Option Value → Mem → Mem → Mel → Prop} {n : Nat} (hn_q : n ≤ 6) (ha_q : S 126 1 = nI n) {h : Int64} {u : Value} (k : ∀ (J : Mel), Q (some (.long (dct S h 11))) I S J) : ∀ (x : Nat) (J : Mel), (x ≤ 11) → (J 126 72 = dct S h x) → W2 mX11_digest 5 Q I S J 125 [.ref 126, .int (nI x), u] [] := by
  intro x J
  induction hm : 11 - x using Nat.strongRecOn generalizing x J with
  | _ c ih =>
    intro hx_q hJ_q
    refine wp_iload_n dX11_digest_125 rfl ?_
    refine wp_bipush 11 dX11_digest_126 (by decide) ?_
    refine wp_icmp_ge dX11_digest_128 (fun h128 => ?_) (fun h128 => ?_)
    · skip
      refine wp_aload_n dX11_digest_147 rfl ?_
      refine wp_getL dX11_digest_148 flRX11_390 (by first | rfl | assumption) ?_
      refine g_lret dX11_digest_151 rfl ?_
      have e_q : x = 11 := by rw [show (11 : Int32) = nI 11 from rfl, nI_leg (by omega) (by omega)] at h128; omega
      subst e_q; rw [hJ_q]; exact k J
    · skip
      have hx2_q : x < 11 := by rw [show (11 : Int32) = nI 11 from rfl, nI_leg (by omega) (by omega)] at h128; omega
      refine wp_aload_n dX11_digest_131 rfl ?_
      refine wp_aload_n dX11_digest_132 rfl ?_
      refine wp_iload_n dX11_digest_133 rfl ?_
      refine g_callV1 (mj := mX11_howMany) dX11_digest_134 lkRX11_385 mkX11_howMany (by first | rfl | assumption) (by decide) (by decide) (Nat.le_of_ble_eq_true rfl) (c_howMany hn_q ha_q ?_)
      refine wp_i2l dX11_digest_137 ?_
      refine g_callV1 (mj := mX11_mix) dX11_digest_138 lkRX11_395 mkX11_mix (by first | rfl | assumption) (by decide) (by decide) (Nat.le_of_ble_eq_true rfl) (c_mix hJ_q (fun J2 hJ2_q => ?_))
      refine ic_3_1 (nI (x + 1)) dX11_digest_141 (nI_inc x) (by decide) rfl ?_
      refine wp_goto dX11_digest_144 ?_
      exact ih _ (by omega) (x + 1) J2 rfl (by omega) hJ2_q
set_option maxHeartbeats 4000000 in
theorem c_digest {I S : Mem} {J : Mel} {Q : Option Value → Mem → Mem → Mel → Prop} {n : Nat} (hn_q : n ≤ 6) (ha_q : S 126 1 = nI n) {s l : Nat} (hs_q : S 126 19 = nI s) (hs6_q : s ≤ 6) (hv_q : ∀ j, j < s → ∃ v, v < 4 ∧ S 141 j = nI v) (hl_q : S 126 13 = nI l) (hl6_q : l ≤ 6) {p : Nat} (hp_q : S 126 23 = nI p) (hp84_q : p ≤ 84) (hb_q : ∀ i, i < n → ∃ b, b ≤ 5 ∧ S 133 i = nI b) (k : ∀ (J : Mel), Q (some (.long (spDig S))) I S J) : M2 mX11_digest 5 [.ref 126] I S J Q := by
  refine m2_of [.ref 126, dum, dum] moX11_digest (Nat.le_of_ble_eq_true rfl) rfl ?_
  refine wp_aload_n dX11_digest_0 rfl ?_
  refine wp_ldc2 dX11_digest_1 kcRX11_393 ?_
  refine g_putL dX11_digest_4 flRX11_390 (by first | rfl | assumption) ?_
  refine wp_iconst 0 dX11_digest_7 (by decide) ?_
  refine st_i_3_1 dX11_digest_8 (by decide) rfl ?_
  unfold spDig at k
  rw [ha_q, hp_q, tn_nI (by omega), tn_nI (by omega)] at k
  refine l_dg hn_q ha_q hs_q hs6_q hv_q hl_q hl6_q hp_q hp84_q hb_q (fun J2 u hJ2_q => ?_) 0 _ dum (by omega) (by simp [uJ, dac])
  refine wp_iconst 0 dX11_digest_96 (by decide) ?_
  refine st_i_3_1 dX11_digest_97 (by decide) rfl ?_
  refine l_dg3 hp_q hp84_q (fun J3 hJ3_q => ?_) 0 J2 (by omega) hJ2_q
  refine wp_iconst 0 dX11_digest_123 (by decide) ?_
  refine st_i_3_1 dX11_digest_124 (by decide) rfl ?_
  exact l_dg4 hn_q ha_q k 0 J3 (by omega) hJ3_q
