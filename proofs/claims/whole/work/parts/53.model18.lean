def cp3S (S : Mem) (x y : Nat) : Mem := fun b j => if b = 129 ∧ 3 * x ≤ j ∧ j < 3 * x + y then S 146 j else S b j
theorem cp3S_0 (S : Mem) (x : Nat) : cp3S S x 0 = S := by
  funext b j
  unfold cp3S
  rw [if_neg (by omega)]
theorem cp3S_n (S : Mem) (x y : Nat) {b : Nat} (h : b ≠ 129) : cp3S S x y b = S b := by
  funext j
  unfold cp3S
  rw [if_neg (by omega)]
theorem cp3S_1 (S : Mem) (x y : Nat) : uI (cp3S S x y) 129 (3 * x + y) (cp3S S x y 146 (3 * x + y)) = cp3S S x (y + 1) := by
  rw [cp3S_n S x y (by decide)]
  funext b j
  rw [uI_ap]
  unfold cp3S
  by_cases h : b = 129 ∧ j = 3 * x + y
  · rw [if_pos h, if_pos (by omega), h.2]
  · rw [if_neg h]
    by_cases h2 : b = 129 ∧ 3 * x ≤ j ∧ j < 3 * x + y
    · rw [if_pos h2, if_pos (by omega)]
    · rw [if_neg h2, if_neg (by omega)]
def caA (S S2 : Mem) (i : Nat) : Prop := S2 127 i = S 144 i ∧ S2 128 i = S 145 i ∧ (∀ j, j < 3 → S2 129 (3 * i + j) = S 146 (3 * i + j)) ∧ S2 130 i = 1 ∧ S2 131 i = 0 ∧ S2 132 i = 0 ∧ S2 133 i = 0 ∧ S2 136 i = 0 ∧ S2 137 (2 * i) = -268435456 ∧ S2 137 (2 * i + 1) = -268435456
def caI (S S2 : Mem) (x : Nat) : Prop := (∀ i, i < x → caA S S2 i) ∧ ∀ b, (b ≤ 126 ∨ 138 ≤ b) → S2 b = S b
def caB (S2 : Mem) (x : Nat) : Mem := uI (uI (uI (uI (uI (uI (uI (cp3S (uI (uI S2 127 x (S2 144 x)) 128 x (S2 145 x)) x 3) 130 x 1) 131 x 0) 132 x 0) 133 x 0) 136 x 0) 137 (2 * x) (-268435456)) 137 (2 * x + 1) (-268435456)
theorem caB_o (S2 : Mem) (x : Nat) {b : Nat} (h : b ≤ 126 ∨ 138 ≤ b) : caB S2 x b = S2 b := by
  unfold caB
  rw [uI_ne (by omega), uI_ne (by omega), uI_ne (by omega), uI_ne (by omega), uI_ne (by omega), uI_ne (by omega), uI_ne (by omega), cp3S_n _ _ _ (by omega), uI_ne (by omega), uI_ne (by omega)]
theorem caI.s {S S2 : Mem} {x : Nat} (h : caI S S2 x) : caI S (caB S2 x) (x + 1) := by
  obtain ⟨h1, h2⟩ := h
  refine ⟨fun i hi => ?_, fun b hb => (caB_o S2 x hb).trans (h2 b hb)⟩
  have e127 : caB S2 x 127 i = if i = x then S2 144 x else S2 127 i := by
    unfold caB; rw [uI_ne (by decide), uI_ne (by decide), uI_ne (by decide), uI_ne (by decide), uI_ne (by decide), uI_ne (by decide), uI_ne (by decide), cp3S_n _ _ _ (by decide), uI_ne (by decide), uI_ap]; simp
  have e128 : caB S2 x 128 i = if i = x then S2 145 x else S2 128 i := by
    unfold caB; rw [uI_ne (by decide), uI_ne (by decide), uI_ne (by decide), uI_ne (by decide), uI_ne (by decide), uI_ne (by decide), uI_ne (by decide), cp3S_n _ _ _ (by decide), uI_ap, uI_ne (by decide)]; simp
  have e129 : ∀ j, j < 3 → caB S2 x 129 (3 * i + j) = if i = x then S2 146 (3 * i + j) else S2 129 (3 * i + j) := by
    intro j hj
    unfold caB; rw [uI_ne (by decide), uI_ne (by decide), uI_ne (by decide), uI_ne (by decide), uI_ne (by decide), uI_ne (by decide), uI_ne (by decide)]
    unfold cp3S
    by_cases e : i = x
    · rw [if_pos (by omega), if_pos e, uI_ne (by decide), uI_ne (by decide)]
    · rw [if_neg (by omega), if_neg e, uI_ne (by decide), uI_ne (by decide)]
  have e130 : caB S2 x 130 i = if i = x then 1 else S2 130 i := by
    unfold caB; rw [uI_ne (by decide), uI_ne (by decide), uI_ne (by decide), uI_ne (by decide), uI_ne (by decide), uI_ne (by decide), uI_ap, cp3S_n _ _ _ (by decide), uI_ne (by decide), uI_ne (by decide)]; simp
  have e131 : caB S2 x 131 i = if i = x then 0 else S2 131 i := by
    unfold caB; rw [uI_ne (by decide), uI_ne (by decide), uI_ne (by decide), uI_ne (by decide), uI_ne (by decide), uI_ap, uI_ne (by decide), cp3S_n _ _ _ (by decide), uI_ne (by decide), uI_ne (by decide)]; simp
  have e132 : caB S2 x 132 i = if i = x then 0 else S2 132 i := by
    unfold caB; rw [uI_ne (by decide), uI_ne (by decide), uI_ne (by decide), uI_ne (by decide), uI_ap, uI_ne (by decide), uI_ne (by decide), cp3S_n _ _ _ (by decide), uI_ne (by decide), uI_ne (by decide)]; simp
  have e133 : caB S2 x 133 i = if i = x then 0 else S2 133 i := by
    unfold caB; rw [uI_ne (by decide), uI_ne (by decide), uI_ne (by decide), uI_ap, uI_ne (by decide), uI_ne (by decide), uI_ne (by decide), cp3S_n _ _ _ (by decide), uI_ne (by decide), uI_ne (by decide)]; simp
  have e136 : caB S2 x 136 i = if i = x then 0 else S2 136 i := by
    unfold caB; rw [uI_ne (by decide), uI_ne (by decide), uI_ap, uI_ne (by decide), uI_ne (by decide), uI_ne (by decide), uI_ne (by decide), cp3S_n _ _ _ (by decide), uI_ne (by decide), uI_ne (by decide)]; simp
  have e137 : ∀ j, caB S2 x 137 j = if j = 2 * x ∨ j = 2 * x + 1 then -268435456 else S2 137 j := by
    intro j
    unfold caB; rw [uI_ap, uI_ap, uI_ne (by decide), uI_ne (by decide), uI_ne (by decide), uI_ne (by decide), uI_ne (by decide), cp3S_n _ _ _ (by decide), uI_ne (by decide), uI_ne (by decide)]
    by_cases q1 : j = 2 * x + 1
    · rw [if_pos ⟨rfl, q1⟩, if_pos (Or.inr q1)]
    · by_cases q2 : j = 2 * x
      · rw [if_neg (by omega), if_pos ⟨rfl, q2⟩, if_pos (Or.inl q2)]
      · rw [if_neg (by omega), if_neg (by omega), if_neg (by omega)]
  unfold caA
  rw [e127, e128, e130, e131, e132, e133, e136, e137, e137]
  by_cases e : i = x
  · subst e
    rw [if_pos rfl, if_pos rfl, if_pos rfl, if_pos rfl, if_pos rfl, if_pos rfl, if_pos rfl, if_pos (by omega), if_pos (by omega), h2 144 (by omega), h2 145 (by omega)]
    exact ⟨rfl, rfl, fun j hj => by rw [e129 j hj, if_pos rfl, h2 146 (by omega)], rfl, rfl, rfl, rfl, rfl, rfl, rfl⟩
  · obtain ⟨q1, q2, q3, q4, q5, q6, q7, q8, q9, q10⟩ := h1 i (by omega)
    rw [if_neg e, if_neg e, if_neg e, if_neg e, if_neg e, if_neg e, if_neg e, if_neg (by omega), if_neg (by omega)]
    exact ⟨q1, q2, fun j hj => by rw [e129 j hj, if_neg e]; exact q3 j hj, q4, q5, q6, q7, q8, q9, q10⟩
def crS (n l : Nat) (S' S2 : Mem) : Prop := S2 126 1 = nI n ∧ (∀ i, i < n → caA S' S2 i) ∧ S2 126 13 = nI l ∧ (∀ j, j < l → S2 138 j = S' 147 j ∧ S2 139 j = S' 148 j) ∧ S2 126 16 = 0 ∧ S2 126 17 = 0 ∧ S2 126 0 = S' 126 0 + 1 ∧ S2 126 19 = 0 ∧ S2 126 23 = 0 ∧ (∀ b, 140 ≤ b → S2 b = S' b) ∧ ∀ j, (j ≠ 0 ∧ j ≠ 1 ∧ j ≠ 13 ∧ j ≠ 16 ∧ j ≠ 17 ∧ j ≠ 19 ∧ j ≠ 23) → S2 126 j = S' 126 j
set_option maxHeartbeats 4000000 in
theorem l_cr3 {I S : Mem} {J : Mel} {Q : Option Value → Mem → Mem → Mel → Prop} {x : Nat} (hx_q : x < 6) (k : W2 mX11_crew 6 Q I (cp3S S x 3) J 101 [.ref 126, .int (nI x), .int (nI 3)] []) : ∀ (y : Nat), (y ≤ 3) → W2 mX11_crew 6 Q I (cp3S S x y) J 70 [.ref 126, .int (nI x), .int (nI y)] [] := by
  intro y
  induction hm : 3 - y using Nat.strongRecOn generalizing y with
  | _ c ih =>
    intro hy_q
    refine wp_iload_n dX11_crew_70 rfl ?_
    refine wp_iconst 3 dX11_crew_71 (by decide) ?_
    refine wp_icmp_ge dX11_crew_72 (fun h72 => ?_) (fun h72 => ?_)
    · skip
      have e_q : y = 3 := by rw [show (3 : Int32) = nI 3 from rfl, nI_leg (by omega) (by omega)] at h72; omega
      subst e_q; exact k
    · skip
      have hy3_q : y < 3 := by rw [show (3 : Int32) = nI 3 from rfl, nI_leg (by omega) (by omega)] at h72; omega
      refine wp_aload_n dX11_crew_75 rfl ?_
      refine wp_getA (by first | rfl | assumption) dX11_crew_76 flRX11_16 (by first | rfl | assumption) ?_
      refine wp_iconst 3 dX11_crew_79 (by decide) ?_
      refine wp_iload_n dX11_crew_80 rfl ?_
      refine wp_imul dX11_crew_81 ?_
      refine wp_iload_n dX11_crew_82 rfl ?_
      refine wp_iadd dX11_crew_83 ?_
      refine wp_aload_n dX11_crew_84 rfl ?_
      refine wp_getA (by first | rfl | assumption) dX11_crew_85 flRX11_68 (by first | rfl | assumption) ?_
      refine wp_iconst 3 dX11_crew_88 (by decide) ?_
      refine wp_iload_n dX11_crew_89 rfl ?_
      refine wp_imul dX11_crew_90 ?_
      refine wp_iload_n dX11_crew_91 rfl ?_
      refine wp_iadd dX11_crew_92 ?_
      refine m_iald dX11_crew_93 rfl (nI_mad 3 x y) (by omega) (by decide) (by decide) ?_
      refine m_iast dX11_crew_94 rfl (nI_mad 3 x y) (by omega) (by decide) (by decide) ?_
      refine ic_3_2 (nI (y + 1)) dX11_crew_95 (nI_inc y) (by decide) rfl ?_
      refine wp_goto dX11_crew_98 ?_
      rw [cp3S_1]
      exact ih _ (by omega) (y + 1) rfl (by omega)
set_option maxHeartbeats 4000000 in
theorem l_crA {I S1 : Mem} {J : Mel} {Q : Option Value → Mem → Mem → Mel → Prop} {n : Nat} (hn_q : n ≤ 6) (hn2_q : S1 126 1 = nI n) (k : ∀ (S2 : Mem) (u : Value), caI S1 S2 n → W2 mX11_crew 6 Q I S2 J 124 [.ref 126, .int (nI n), u] []) : ∀ (x : Nat) (S2 : Mem) (u : Value), (x ≤ n) → (caI S1 S2 x) → W2 mX11_crew 6 Q I S2 J 36 [.ref 126, .int (nI x), u] [] := by
  intro x S2 u
  induction hm : n - x using Nat.strongRecOn generalizing x S2 u with
  | _ c ih =>
    intro hx_q hc_q
    have hq_q : S2 126 1 = nI n := by rw [hc_q.2 126 (by omega)]; exact hn2_q
    refine wp_iload_n dX11_crew_36 rfl ?_
    refine wp_aload_n dX11_crew_37 rfl ?_
    refine m_getI dX11_crew_38 flRX11_212 (by first | rfl | assumption) (by decide) ?_
    refine wp_icmp_ge dX11_crew_41 (fun h41 => ?_) (fun h41 => ?_)
    · skip
      have e_q : x = n := by rw [hq_q, nI_leg (by omega) (by omega)] at h41; omega
      subst e_q; exact k S2 u hc_q
    · skip
      have hx2_q : x < n := by rw [hq_q, nI_leg (by omega) (by omega)] at h41; omega
      refine wp_aload_n dX11_crew_44 rfl ?_
      refine wp_getA (by first | rfl | assumption) dX11_crew_45 flRX11_7 (by first | rfl | assumption) ?_
      refine wp_iload_n dX11_crew_48 rfl ?_
      refine wp_aload_n dX11_crew_49 rfl ?_
      refine wp_getA (by first | rfl | assumption) dX11_crew_50 flRX11_62 (by first | rfl | assumption) ?_
      refine wp_iload_n dX11_crew_53 rfl ?_
      refine m_iald dX11_crew_54 rfl rfl (by omega) (by decide) (by decide) ?_
      refine m_iast dX11_crew_55 rfl rfl (by omega) (by decide) (by decide) ?_
      refine wp_aload_n dX11_crew_56 rfl ?_
      refine wp_getA (by first | rfl | assumption) dX11_crew_57 flRX11_13 (by first | rfl | assumption) ?_
      refine wp_iload_n dX11_crew_60 rfl ?_
      refine wp_aload_n dX11_crew_61 rfl ?_
      refine wp_getA (by first | rfl | assumption) dX11_crew_62 flRX11_65 (by first | rfl | assumption) ?_
      refine wp_iload_n dX11_crew_65 rfl ?_
      refine m_iald dX11_crew_66 rfl rfl (by omega) (by decide) (by decide) ?_
      rw [uI_ne (show (145 : Nat) ≠ 127 by decide)]
      refine m_iast dX11_crew_67 rfl rfl (by omega) (by decide) (by decide) ?_
      refine wp_iconst 0 dX11_crew_68 (by decide) ?_
      refine st_i_3_2 dX11_crew_69 (by decide) rfl ?_
      have z_q := cp3S_0 (uI (uI S2 127 x (S2 144 x)) 128 x (S2 145 x)) x
      rw [← z_q]
      refine l_cr3 (by omega) ?_ 0 (by omega)
      refine wp_aload_n dX11_crew_101 rfl ?_
      refine wp_iload_n dX11_crew_102 rfl ?_
      refine g_callV1 (mj := mX11_begin) dX11_crew_103 lkRX11_215 mkX11_begin (by first | rfl | assumption) (by decide) (by decide) (Nat.le_of_ble_eq_true rfl) (c_begin (a := x) (by omega) ?_)
      refine wp_aload_n dX11_crew_106 rfl ?_
      refine wp_getA (by first | rfl | assumption) dX11_crew_107 flRX11_37 (by first | rfl | assumption) ?_
      refine wp_iload_n dX11_crew_110 rfl ?_
      refine wp_iconst 0 dX11_crew_111 (by decide) ?_
      refine m_iast dX11_crew_112 rfl rfl (by omega) (by decide) (by decide) ?_
      refine wp_aload_n dX11_crew_113 rfl ?_
      refine wp_iload_n dX11_crew_114 rfl ?_
      refine g_callV1 (mj := mX11_forgetRaises) dX11_crew_115 lkRX11_218 mkX11_forgetRaises (by first | rfl | assumption) (by decide) (by decide) (Nat.le_of_ble_eq_true rfl) (c_fgR (a := x) (by omega) ?_)
      refine ic_3_1 (nI (x + 1)) dX11_crew_118 (nI_inc x) (by decide) rfl ?_
      refine wp_goto dX11_crew_121 ?_
      exact ih _ (by omega) (x + 1) _ _ rfl (by omega) hc_q.s
set_option maxHeartbeats 4000000 in
theorem l_crL {I S2 : Mem} {J : Mel} {Q : Option Value → Mem → Mem → Mel → Prop} {l : Nat} {u : Value} (hl_q : S2 126 13 = nI l) (hl6_q : l ≤ 6) (k : ∀ (S3 : Mem), (∀ b, b ≠ 138 → b ≠ 139 → S3 b = S2 b) → (∀ j, j < l → S3 138 j = S2 147 j ∧ S3 139 j = S2 148 j) → W2 mX11_crew 6 Q I S3 J 172 [.ref 126, .int (nI l), u] []) : ∀ (x : Nat) (S3 : Mem), (x ≤ l) → (∀ b, b ≠ 138 → b ≠ 139 → S3 b = S2 b) → (∀ j, j < x → S3 138 j = S2 147 j ∧ S3 139 j = S2 148 j) → W2 mX11_crew 6 Q I S3 J 134 [.ref 126, .int (nI x), u] [] := by
  intro x S3
  induction hm : l - x using Nat.strongRecOn generalizing x S3 with
  | _ c ih =>
    intro hx_q hf_q hj_q
    have hq_q : S3 126 13 = nI l := by rw [hf_q 126 (by decide) (by decide)]; exact hl_q
    refine wp_iload_n dX11_crew_134 rfl ?_
    refine wp_aload_n dX11_crew_135 rfl ?_
    refine m_getI dX11_crew_136 flRX11_221 (by first | rfl | assumption) (by decide) ?_
    refine wp_icmp_ge dX11_crew_139 (fun h139 => ?_) (fun h139 => ?_)
    · skip
      have e_q : x = l := by rw [hq_q, nI_leg (by omega) (by omega)] at h139; omega
      subst e_q; exact k S3 hf_q hj_q
    · skip
      have hx2_q : x < l := by rw [hq_q, nI_leg (by omega) (by omega)] at h139; omega
      refine wp_aload_n dX11_crew_142 rfl ?_
      refine wp_getA (by first | rfl | assumption) dX11_crew_143 flRX11_43 (by first | rfl | assumption) ?_
      refine wp_iload_n dX11_crew_146 rfl ?_
      refine wp_aload_n dX11_crew_147 rfl ?_
      refine wp_getA (by first | rfl | assumption) dX11_crew_148 flRX11_71 (by first | rfl | assumption) ?_
      refine wp_iload_n dX11_crew_151 rfl ?_
      refine m_iald dX11_crew_152 rfl rfl (by omega) (by decide) (by decide) ?_
      refine m_iast dX11_crew_153 rfl rfl (by omega) (by decide) (by decide) ?_
      refine wp_aload_n dX11_crew_154 rfl ?_
      refine wp_getA (by first | rfl | assumption) dX11_crew_155 flRX11_46 (by first | rfl | assumption) ?_
      refine wp_iload_n dX11_crew_158 rfl ?_
      refine wp_aload_n dX11_crew_159 rfl ?_
      refine wp_getA (by first | rfl | assumption) dX11_crew_160 flRX11_74 (by first | rfl | assumption) ?_
      refine wp_iload_n dX11_crew_163 rfl ?_
      refine m_iald dX11_crew_164 rfl rfl (by omega) (by decide) (by decide) ?_
      rw [uI_ne (show (148 : Nat) ≠ 138 by decide)]
      refine m_iast dX11_crew_165 rfl rfl (by omega) (by decide) (by decide) ?_
      refine ic_3_1 (nI (x + 1)) dX11_crew_166 (nI_inc x) (by decide) rfl ?_
      refine wp_goto dX11_crew_169 ?_
      refine ih _ (by omega) (x + 1) _ rfl (by omega) (fun b h1 h2 => by rw [uI_ne h2, uI_ne h1]; exact hf_q b h1 h2) (fun j hj2_q => ?_)
      rw [uI_ne (show (138 : Nat) ≠ 139 by decide)]
      by_cases e_q : j = x
      · subst e_q; rw [uI_self, uI_self, hf_q 147 (by decide) (by decide), hf_q 148 (by decide) (by decide)]; exact ⟨rfl, rfl⟩
      · rw [uI_ap, if_neg (by omega), uI_ap, if_neg (by omega), uI_ne (show (139 : Nat) ≠ 138 by decide)]; exact hj_q j (by omega)
set_option maxHeartbeats 4000000 in
theorem c_mcrew {I S : Mem} {J : Mel} {Q : Option Value → Mem → Mem → Mel → Prop} {p : Nat} (I0 : Mem) (hP_q : PG S p) (k1_q : ∀ (r : Nat) (S' : Mem), kpQ S S' → RDO (S 143) S' p (aIni I0) r → ¬ (S' 126 25 = 1 ∧ S' 126 29 < S' 126 27) → Q (some (.int (-103))) I S' J) (k : ∀ (r : Nat) (S' S2 : Mem) n l I2, kpQ S S' → Sgo (S 143) p 0 (aIni I0) p I2 → (I2 5 1 = 6 ∨ I2 5 1 = 9) → 1 ≤ n → RM n n l I2 S' → MS n I2 (S' 126 29) → S' 126 29 < nI n → crS n l S' S2 → Q (some (.int (nI n))) I S2 J) : M2 mX11_crew 6 [.ref 126] I S J Q := by
  refine m2_of [.ref 126, dum, dum] moX11_crew (Nat.le_of_ble_eq_true rfl) rfl ?_
  refine wp_aload_n dX11_crew_0 rfl ?_
  refine g_callV0 (mj := mX11_read) dX11_crew_1 lkRX11_207 mkX11_read (by first | rfl | assumption) (by decide) (by decide) (Nat.le_of_ble_eq_true rfl) (c_read I0 hP_q (fun r S1 hk_q ho_q => ?_))
  refine wp_pop dX11_crew_4 rfl ?_
  refine wp_aload_n dX11_crew_5 rfl ?_
  refine m_getZ dX11_crew_6 flRX11_198 (by first | rfl | assumption) (by decide) ?_
  refine wp_if_eq dX11_crew_9 (fun h9 => ?_) (fun h9 => ?_)
  · skip
    refine wp_bipush (-103) dX11_crew_23 (by decide) ?_
    refine g_iret dX11_crew_25 rfl ?_
    refine k1_q r S1 hk_q ho_q (fun q => ?_)
    first | exact absurd q.2 h20 | (rw [q.1] at h9; first | exact absurd rfl h9 | exact absurd h9 (by decide))
  · skip
    refine wp_aload_n dX11_crew_12 rfl ?_
    refine m_getI dX11_crew_13 flRX11_178 (by first | rfl | assumption) (by decide) ?_
    refine wp_aload_n dX11_crew_16 rfl ?_
    refine m_getI dX11_crew_17 flRX11_165 (by first | rfl | assumption) (by decide) ?_
    refine wp_icmp_lt dX11_crew_20 (fun h20 => ?_) (fun h20 => ?_)
    · skip
      have h9b_q : S1 126 25 = 1 := by rcases ho_q with q | q; (rw [q.1] at h9; first | exact absurd rfl h9 | exact absurd h9 (by decide)); exact q.1
      obtain ⟨-, hr_q, a, l, I2, g0_q, g1_q, g2_q, g3_q, g4_q⟩ := ho_q.resolve_left (fun q => by rw [q.1] at h9b_q; exact absurd h9b_q (by decide))
      have hms_q : S1 126 29 < nI a := by rw [← g3_q.2.2.1]; exact h20
      have a6_q := g3_q.1
      refine wp_aload_n dX11_crew_26 rfl ?_
      refine wp_aload_n dX11_crew_27 rfl ?_
      refine m_getI dX11_crew_28 flRX11_165 (by first | rfl | assumption) (by decide) ?_
      rw [g3_q.2.2.1]
      refine m_putI dX11_crew_31 flRX11_212 (by first | rfl | assumption) (by decide) ?_
      refine wp_iconst 0 dX11_crew_34 (by decide) ?_
      refine st_i_3_1 dX11_crew_35 (by decide) rfl ?_
      refine l_crA a6_q (uI_self _ _ _ _) (fun S2 u hc_q => ?_) 0 _ _ (by omega) ⟨fun i h => by omega, fun _ _ => rfl⟩
      refine wp_aload_n dX11_crew_124 rfl ?_
      refine wp_aload_n dX11_crew_125 rfl ?_
      refine m_getI dX11_crew_126 flRX11_191 (by first | rfl | assumption) (by decide) ?_
      rw [show S2 126 28 = nI l by rw [hc_q.2 126 (by omega), uI_ap, if_neg (by decide)]; exact g3_q.2.2.2.2.1.2.2.1]
      refine m_putI dX11_crew_129 flRX11_221 (by first | rfl | assumption) (by decide) ?_
      refine wp_iconst 0 dX11_crew_132 (by decide) ?_
      refine st_i_3_1 dX11_crew_133 (by decide) rfl ?_
      refine l_crL (uI_self _ _ _ _) g3_q.2.2.2.2.1.1 (fun S3 hf_q hj_q => ?_) 0 _ (by omega) (fun _ _ _ => rfl) (fun j h => by omega)
      refine wp_aload_n dX11_crew_172 rfl ?_
      refine wp_iconst 0 dX11_crew_173 (by decide) ?_
      refine m_putI dX11_crew_174 flRX11_224 (by first | rfl | assumption) (by decide) ?_
      refine wp_aload_n dX11_crew_177 rfl ?_
      refine wp_iconst 0 dX11_crew_178 (by decide) ?_
      refine m_putI dX11_crew_179 flRX11_227 (by first | rfl | assumption) (by decide) ?_
      refine wp_aload_n dX11_crew_182 rfl ?_
      refine wp_dup dX11_crew_183 rfl ?_
      refine m_getI dX11_crew_184 flRX11_230 (by first | rfl | assumption) (by decide) ?_
      refine wp_iconst 1 dX11_crew_187 (by decide) ?_
      refine wp_iadd dX11_crew_188 ?_
      refine m_putI dX11_crew_189 flRX11_230 (by first | rfl | assumption) (by decide) ?_
      refine wp_aload_n dX11_crew_192 rfl ?_
      refine wp_iconst 0 dX11_crew_193 (by decide) ?_
      refine m_putI dX11_crew_194 flRX11_233 (by first | rfl | assumption) (by decide) ?_
      refine wp_aload_n dX11_crew_197 rfl ?_
      refine wp_iconst 0 dX11_crew_198 (by decide) ?_
      refine m_putI dX11_crew_199 flRX11_153 (by first | rfl | assumption) (by decide) ?_
      refine wp_aload_n dX11_crew_202 rfl ?_
      refine m_getI dX11_crew_203 flRX11_212 (by first | rfl | assumption) (by decide) ?_
      refine g_iret dX11_crew_206 rfl ?_
      have v_q : ∀ j, (uI (uI (uI (uI (uI S3 126 16 0) 126 17 0) 126 0 ((uI (uI S3 126 16 0) 126 17 0) 126 0 + 1)) 126 19 0) 126 23 0) 126 j = if j = 23 ∨ j = 19 ∨ j = 17 ∨ j = 16 then 0 else if j = 0 then S3 126 0 + 1 else S3 126 j := fun j => by
        simp only [uI_ap]
        by_cases q1 : j = 23 <;> by_cases q2 : j = 19 <;> by_cases q3 : j = 17 <;> by_cases q4 : j = 16 <;> by_cases q5 : j = 0 <;> simp [q1, q2, q3, q4, q5] <;> first | omega | skip
      have o_q : ∀ b, b ≠ 126 → (uI (uI (uI (uI (uI S3 126 16 0) 126 17 0) 126 0 ((uI (uI S3 126 16 0) 126 17 0) 126 0 + 1)) 126 19 0) 126 23 0) b = S3 b := fun b hb => by rw [uI_ne hb, uI_ne hb, uI_ne hb, uI_ne hb, uI_ne hb]
      have s126_q : ∀ j, S3 126 j = if j = 13 then nI l else if j = 1 then nI a else S1 126 j := fun j => by
        rw [hf_q 126 (by decide) (by decide), uI_ap, hc_q.2 126 (by omega), uI_ap]
        by_cases q1 : j = 13
        · rw [if_pos ⟨rfl, q1⟩, if_pos q1]
        · rw [if_neg (fun q => q1 q.2), if_neg q1]
          by_cases q2 : j = 1
          · rw [if_pos ⟨rfl, q2⟩, if_pos q2]
          · rw [if_neg (fun q => q2 q.2), if_neg q2]
      have w_q : ∀ j, (uI (uI (uI (uI (uI S3 126 16 0) 126 17 0) 126 0 ((uI (uI S3 126 16 0) 126 17 0) 126 0 + 1)) 126 19 0) 126 23 0) 126 j = if j = 23 ∨ j = 19 ∨ j = 17 ∨ j = 16 then 0 else if j = 0 then S1 126 0 + 1 else if j = 13 then nI l else if j = 1 then nI a else S1 126 j := fun j => by rw [v_q, s126_q, s126_q]; rfl
      rw [show (uI (uI (uI (uI (uI S3 126 16 0) 126 17 0) 126 0 ((uI (uI S3 126 16 0) 126 17 0) 126 0 + 1)) 126 19 0) 126 23 0) 126 1 = nI a by rw [w_q]; rfl]
      refine k r S1 _ a l I2 hk_q g1_q g2_q g0_q g3_q g4_q hms_q ⟨by rw [w_q]; rfl, fun i hi_q => ?_, by rw [w_q]; rfl, fun j hj2_q => ?_, by rw [w_q]; rfl, by rw [w_q]; rfl, by rw [w_q]; rfl, by rw [w_q]; rfl, by rw [w_q]; rfl, fun b hb_q => ?_, fun j hj2_q => by rw [w_q, if_neg (by omega), if_neg (by omega), if_neg (by omega), if_neg (by omega)]⟩
      · have t_q := hc_q.1 i hi_q
        unfold caA at t_q ⊢
        have p_q : ∀ b, 127 ≤ b → b ≤ 137 → (uI (uI (uI (uI (uI S3 126 16 0) 126 17 0) 126 0 ((uI (uI S3 126 16 0) 126 17 0) 126 0 + 1)) 126 19 0) 126 23 0) b = S2 b := fun b h1 h2 => by rw [o_q b (by omega), hf_q b (by omega) (by omega), uI_ne (by omega)]
        rw [p_q 127 (by omega) (by omega), p_q 128 (by omega) (by omega), p_q 129 (by omega) (by omega), p_q 130 (by omega) (by omega), p_q 131 (by omega) (by omega), p_q 132 (by omega) (by omega), p_q 133 (by omega) (by omega), p_q 136 (by omega) (by omega), p_q 137 (by omega) (by omega)]
        rw [uI_ne (by decide), uI_ne (by decide), uI_ne (by decide)] at t_q; exact t_q
      · rw [o_q 138 (by decide), o_q 139 (by decide), (hj_q j hj2_q).1, (hj_q j hj2_q).2, uI_ne (by decide), uI_ne (by decide), hc_q.2 147 (by omega), hc_q.2 148 (by omega), uI_ne (by decide), uI_ne (by decide)]; exact ⟨rfl, rfl⟩
      · rw [o_q b (by omega), hf_q b (by omega) (by omega), uI_ne (by omega), hc_q.2 b (by omega), uI_ne (by omega)]
    · skip
      refine wp_bipush (-103) dX11_crew_23 (by decide) ?_
      refine g_iret dX11_crew_25 rfl ?_
      refine k1_q r S1 hk_q ho_q (fun q => ?_)
      first | exact absurd q.2 h20 | (rw [q.1] at h9; first | exact absurd rfl h9 | exact absurd h9 (by decide))
