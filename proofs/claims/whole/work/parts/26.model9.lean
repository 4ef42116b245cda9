set_option maxHeartbeats 4000000 in
theorem c_ageOf {I S : Mem} {J : Mel} {Q : Option Value → Mem → Mem → Mel → Prop} {q : Nat} (hq_q : q < 12) (k : Q (some (.int (agW S q))) I S J) : M2 mX11_ageOf 1 [.ref 126, .int (nI q)] I S J Q := by
  refine m2_of [.ref 126, .int (nI q), dum] moX11_ageOf (Nat.le_of_ble_eq_true rfl) rfl ?_
  refine wp_aload_n dX11_ageOf_0 rfl ?_
  refine m_getI dX11_ageOf_1 flRX11_224 (by first | rfl | assumption) (by decide) ?_
  refine wp_aload_n dX11_ageOf_4 rfl ?_
  refine wp_getA (by first | rfl | assumption) dX11_ageOf_5 flRX11_40 (by first | rfl | assumption) ?_
  refine wp_iload_n dX11_ageOf_8 rfl ?_
  refine m_iald dX11_ageOf_9 (by first | rfl | assumption) (by first | rfl | assumption) (by first | decide | omega | assumption) (by decide) (by decide) ?_
  refine wp_isub dX11_ageOf_10 ?_
  refine st_i_3_2 dX11_ageOf_11 (by decide) rfl ?_
  refine wp_iload_n dX11_ageOf_12 rfl ?_
  refine wp_iconst 4 dX11_ageOf_13 (by decide) ?_
  refine wp_icmp_gt dX11_ageOf_14 (fun h14 => ?_) (fun h14 => ?_)
  · skip
    refine wp_iconst (-1) dX11_ageOf_21 (by decide) ?_
    refine g_iret dX11_ageOf_22 rfl ?_
    unfold agW at k
    first | (rw [if_neg (by grind)] at k; exact k) | (rw [if_pos (by grind)] at k; exact k)
  · skip
    refine wp_iload_n dX11_ageOf_17 rfl ?_
    refine wp_goto dX11_ageOf_18 ?_
    refine g_iret dX11_ageOf_22 rfl ?_
    unfold agW at k
    first | (rw [if_neg (by grind)] at k; exact k) | (rw [if_pos (by grind)] at k; exact k)
theorem wr_i2 (b e c : Nat) : nI b + nI c + nI 2 * nI e = nI (b + (c + 2 * e)) := by rw [nI_add, nI_mul, nI_add, Nat.add_assoc]
theorem wr_i0 (t x : Nat) : (16 : Int32) * (6 * nI t + nI x) = nI (16 * (6 * t + x)) := by
  rw [show (16 : Int32) = nI 16 from rfl, show (6 : Int32) = nI 6 from rfl, nI_mul, nI_add, nI_mul]
set_option maxHeartbeats 4000000 in
theorem l_wr2 {I S : Mem} {J : Mel} {Q : Option Value → Mem → Mem → Mel → Prop} {n : Nat} (hn_q : n ≤ 6) (ha_q : S 126 1 = nI n) {t x b : Nat} (ht_q : t ≤ 60) (hxn_q : x < n) (hb_q : S 133 x = nI b) (hb5_q : b ≤ 5) (k : ∀ S2 : Mem, wrI S S2 t x 14 → W2 mX11_write 2 Q I S2 J 167 [.ref 126, .int (nI t), .int (nI x), .int (nI (16 * (6 * t + x))), .int (nI 5)] []) : ∀ (y : Nat) (S2 : Mem), (y ≤ 5) → (wrI S S2 t x (4 + 2 * y)) → W2 mX11_write 2 Q I S2 J 77 [.ref 126, .int (nI t), .int (nI x), .int (nI (16 * (6 * t + x))), .int (nI y)] [] := by
  intro y S2
  induction hm : 5 - y using Nat.strongRecOn generalizing y S2 with
  | _ c ih =>
    intro hy_q hw_q
    refine wp_iload dX11_write_77 rfl ?_
    refine wp_iconst 5 dX11_write_79 (by decide) ?_
    refine wp_icmp_ge dX11_write_80 (fun h80 => ?_) (fun h80 => ?_)
    · skip
      have e_q : y = 5 := by rw [show (5 : Int32) = nI 5 from rfl, nI_leg (by omega) (by omega)] at h80; omega
      subst e_q; exact k S2 hw_q
    · skip
      have hy5_q : y < 5 := by rw [show (5 : Int32) = nI 5 from rfl, nI_leg (by omega) (by omega)] at h80; omega
      refine wp_aload_n dX11_write_83 rfl ?_
      refine wp_getA (by first | rfl | assumption) dX11_write_84 flRX11_104 (by first | rfl | assumption) ?_
      refine wp_iload_n dX11_write_87 rfl ?_
      refine wp_iconst 4 dX11_write_88 (by decide) ?_
      refine wp_iadd dX11_write_89 ?_
      refine wp_iconst 2 dX11_write_90 (by decide) ?_
      refine wp_iload dX11_write_91 rfl ?_
      refine wp_imul dX11_write_93 ?_
      refine wp_iadd dX11_write_94 ?_
      refine wp_iload dX11_write_95 rfl ?_
      refine wp_aload_n dX11_write_97 rfl ?_
      refine wp_getA (by first | rfl | assumption) dX11_write_98 flRX11_28 (by first | rfl | assumption) ?_
      refine wp_iload_n dX11_write_101 rfl ?_
      refine m_iald dX11_write_102 rfl rfl (by omega) (by decide) (by decide) ?_
      rw [hw_q.1 133 (by decide), hb_q]
      refine wp_icmp_ge dX11_write_103 (fun h103 => ?_) (fun h103 => ?_)
      · skip
        refine wp_iconst (-1) dX11_write_120 (by decide) ?_
        refine wr_iast (e := 4 + 2 * y) dX11_write_121 (wr_i2 _ y 4) ⟨by omega, by omega, by omega⟩ hw_q (by rw [stv_s S x (by omega), hb_q, tn_nI (by omega)]; first | (rw [if_pos (by omega), hw_q.1 134 (by decide)]; done) | (rw [if_neg (by rw [nI_leg (by omega) (by omega)] at h103; omega)]; done)) (fun S2 hw_q => ?_)
        refine wp_aload_n dX11_write_122 rfl ?_
        refine wp_getA (by first | rfl | assumption) dX11_write_123 flRX11_104 (by first | rfl | assumption) ?_
        refine wp_iload_n dX11_write_126 rfl ?_
        refine wp_iconst 5 dX11_write_127 (by decide) ?_
        refine wp_iadd dX11_write_128 ?_
        refine wp_iconst 2 dX11_write_129 (by decide) ?_
        refine wp_iload dX11_write_130 rfl ?_
        refine wp_imul dX11_write_132 ?_
        refine wp_iadd dX11_write_133 ?_
        refine wp_iload dX11_write_134 rfl ?_
        refine wp_aload_n dX11_write_136 rfl ?_
        refine wp_getA (by first | rfl | assumption) dX11_write_137 flRX11_28 (by first | rfl | assumption) ?_
        refine wp_iload_n dX11_write_140 rfl ?_
        refine m_iald dX11_write_141 rfl rfl (by omega) (by decide) (by decide) ?_
        rw [hw_q.1 133 (by decide), hb_q]
        refine wp_icmp_ge dX11_write_142 (fun h142 => ?_) (fun h142 => ?_)
        · skip
          refine wp_iconst (-1) dX11_write_159 (by decide) ?_
          refine wr_iast (e := 5 + 2 * y) dX11_write_160 (wr_i2 _ y 5) ⟨by omega, by omega, by omega⟩ (show wrI S S2 t x (5 + 2 * y) by rw [show 5 + 2 * y = 4 + 2 * y + 1 by omega]; exact hw_q) (by rw [stv_f S x (by omega), hb_q, tn_nI (by omega)]; first | (rw [if_pos (by omega), hw_q.1 135 (by decide)]; done) | (rw [if_neg (by rw [nI_leg (by omega) (by omega)] at h142; omega)]; done)) (fun S2 hw_q => ?_)
          refine ic_5_4 (nI (y + 1)) dX11_write_161 (nI_inc y) (by decide) rfl ?_
          refine wp_goto dX11_write_164 ?_
          exact ih _ (by omega) (y + 1) S2 rfl (by omega) (by rw [show 4 + 2 * (y + 1) = 5 + 2 * y + 1 by omega]; exact hw_q)
        · skip
          have hyb_q : y < b := by rw [nI_leg (by omega) (by omega)] at h142; omega
          refine wp_aload_n dX11_write_145 rfl ?_
          refine wp_getA (by first | rfl | assumption) dX11_write_146 flRX11_34 (by first | rfl | assumption) ?_
          refine wp_iconst 5 dX11_write_149 (by decide) ?_
          refine wp_iload_n dX11_write_150 rfl ?_
          refine wp_imul dX11_write_151 ?_
          refine wp_iload dX11_write_152 rfl ?_
          refine wp_iadd dX11_write_154 ?_
          refine m_iald dX11_write_155 rfl (nI_mad 5 x y) (by omega) (by decide) (by decide) ?_
          refine wp_goto dX11_write_156 ?_
          refine wr_iast (e := 5 + 2 * y) dX11_write_160 (wr_i2 _ y 5) ⟨by omega, by omega, by omega⟩ (show wrI S S2 t x (5 + 2 * y) by rw [show 5 + 2 * y = 4 + 2 * y + 1 by omega]; exact hw_q) (by rw [stv_f S x (by omega), hb_q, tn_nI (by omega)]; first | (rw [if_pos (by omega), hw_q.1 135 (by decide)]; done) | (rw [if_neg (by rw [nI_leg (by omega) (by omega)] at h142; omega)]; done)) (fun S2 hw_q => ?_)
          refine ic_5_4 (nI (y + 1)) dX11_write_161 (nI_inc y) (by decide) rfl ?_
          refine wp_goto dX11_write_164 ?_
          exact ih _ (by omega) (y + 1) S2 rfl (by omega) (by rw [show 4 + 2 * (y + 1) = 5 + 2 * y + 1 by omega]; exact hw_q)
      · skip
        have hyb_q : y < b := by rw [nI_leg (by omega) (by omega)] at h103; omega
        refine wp_aload_n dX11_write_106 rfl ?_
        refine wp_getA (by first | rfl | assumption) dX11_write_107 flRX11_31 (by first | rfl | assumption) ?_
        refine wp_iconst 5 dX11_write_110 (by decide) ?_
        refine wp_iload_n dX11_write_111 rfl ?_
        refine wp_imul dX11_write_112 ?_
        refine wp_iload dX11_write_113 rfl ?_
        refine wp_iadd dX11_write_115 ?_
        refine m_iald dX11_write_116 rfl (nI_mad 5 x y) (by omega) (by decide) (by decide) ?_
        refine wp_goto dX11_write_117 ?_
        refine wr_iast (e := 4 + 2 * y) dX11_write_121 (wr_i2 _ y 4) ⟨by omega, by omega, by omega⟩ hw_q (by rw [stv_s S x (by omega), hb_q, tn_nI (by omega)]; first | (rw [if_pos (by omega), hw_q.1 134 (by decide)]; done) | (rw [if_neg (by rw [nI_leg (by omega) (by omega)] at h103; omega)]; done)) (fun S2 hw_q => ?_)
        refine wp_aload_n dX11_write_122 rfl ?_
        refine wp_getA (by first | rfl | assumption) dX11_write_123 flRX11_104 (by first | rfl | assumption) ?_
        refine wp_iload_n dX11_write_126 rfl ?_
        refine wp_iconst 5 dX11_write_127 (by decide) ?_
        refine wp_iadd dX11_write_128 ?_
        refine wp_iconst 2 dX11_write_129 (by decide) ?_
        refine wp_iload dX11_write_130 rfl ?_
        refine wp_imul dX11_write_132 ?_
        refine wp_iadd dX11_write_133 ?_
        refine wp_iload dX11_write_134 rfl ?_
        refine wp_aload_n dX11_write_136 rfl ?_
        refine wp_getA (by first | rfl | assumption) dX11_write_137 flRX11_28 (by first | rfl | assumption) ?_
        refine wp_iload_n dX11_write_140 rfl ?_
        refine m_iald dX11_write_141 rfl rfl (by omega) (by decide) (by decide) ?_
        rw [hw_q.1 133 (by decide), hb_q]
        refine wp_icmp_ge dX11_write_142 (fun h142 => ?_) (fun h142 => ?_)
        · skip
          refine wp_iconst (-1) dX11_write_159 (by decide) ?_
          refine wr_iast (e := 5 + 2 * y) dX11_write_160 (wr_i2 _ y 5) ⟨by omega, by omega, by omega⟩ (show wrI S S2 t x (5 + 2 * y) by rw [show 5 + 2 * y = 4 + 2 * y + 1 by omega]; exact hw_q) (by rw [stv_f S x (by omega), hb_q, tn_nI (by omega)]; first | (rw [if_pos (by omega), hw_q.1 135 (by decide)]; done) | (rw [if_neg (by rw [nI_leg (by omega) (by omega)] at h142; omega)]; done)) (fun S2 hw_q => ?_)
          refine ic_5_4 (nI (y + 1)) dX11_write_161 (nI_inc y) (by decide) rfl ?_
          refine wp_goto dX11_write_164 ?_
          exact ih _ (by omega) (y + 1) S2 rfl (by omega) (by rw [show 4 + 2 * (y + 1) = 5 + 2 * y + 1 by omega]; exact hw_q)
        · skip
          have hyb_q : y < b := by rw [nI_leg (by omega) (by omega)] at h142; omega
          refine wp_aload_n dX11_write_145 rfl ?_
          refine wp_getA (by first | rfl | assumption) dX11_write_146 flRX11_34 (by first | rfl | assumption) ?_
          refine wp_iconst 5 dX11_write_149 (by decide) ?_
          refine wp_iload_n dX11_write_150 rfl ?_
          refine wp_imul dX11_write_151 ?_
          refine wp_iload dX11_write_152 rfl ?_
          refine wp_iadd dX11_write_154 ?_
          refine m_iald dX11_write_155 rfl (nI_mad 5 x y) (by omega) (by decide) (by decide) ?_
          refine wp_goto dX11_write_156 ?_
          refine wr_iast (e := 5 + 2 * y) dX11_write_160 (wr_i2 _ y 5) ⟨by omega, by omega, by omega⟩ (show wrI S S2 t x (5 + 2 * y) by rw [show 5 + 2 * y = 4 + 2 * y + 1 by omega]; exact hw_q) (by rw [stv_f S x (by omega), hb_q, tn_nI (by omega)]; first | (rw [if_pos (by omega), hw_q.1 135 (by decide)]; done) | (rw [if_neg (by rw [nI_leg (by omega) (by omega)] at h142; omega)]; done)) (fun S2 hw_q => ?_)
          refine ic_5_4 (nI (y + 1)) dX11_write_161 (nI_inc y) (by decide) rfl ?_
          refine wp_goto dX11_write_164 ?_
          exact ih _ (by omega) (y + 1) S2 rfl (by omega) (by rw [show 4 + 2 * (y + 1) = 5 + 2 * y + 1 by omega]; exact hw_q)
set_option maxHeartbeats 4000000 in
theorem l_wr {I S : Mem} {J : Mel} {Q : Option Value → Mem → Mem → Mel → Prop} {n : Nat} (hn_q : n ≤ 6) (ha_q : S 126 1 = nI n) {t : Nat} (ht_q : t ≤ 60) (hb_q : ∀ i, i < n → ∃ b, b ≤ 5 ∧ S 133 i = nI b) (k : ∀ S2 : Mem, wrI S S2 t n 0 → Q none I S2 J) : ∀ (x : Nat) (S2 : Mem) (u v : Value), (x ≤ n) → (wrI S S2 t x 0) → W2 mX11_write 2 Q I S2 J 2 [.ref 126, .int (nI t), .int (nI x), u, v] [] := by
  intro x S2 u v
  induction hm : n - x using Nat.strongRecOn generalizing x S2 u v with
  | _ c ih =>
    intro hx_q hw_q
    refine wp_iload_n dX11_write_2 rfl ?_
    refine wp_aload_n dX11_write_3 rfl ?_
    refine m_getI dX11_write_4 flRX11_212 (by first | rfl | assumption) (by decide) ?_
    refine wp_icmp_ge dX11_write_7 (fun h7 => ?_) (fun h7 => ?_)
    · skip
      refine g_vret dX11_write_207 rfl ?_
      have e_q : x = n := by rw [hw_q.1 126 (by decide), ha_q, nI_leg (by omega) (by omega)] at h7; omega
      subst e_q; exact k S2 hw_q
    · skip
      have hxn_q : x < n := by rw [hw_q.1 126 (by decide), ha_q, nI_leg (by omega) (by omega)] at h7; omega
      obtain ⟨b, hb5_q, hbb_q⟩ := hb_q x hxn_q
      refine wp_bipush 16 dX11_write_10 (by decide) ?_
      refine wp_bipush 6 dX11_write_12 (by decide) ?_
      refine wp_iload_n dX11_write_14 rfl ?_
      refine wp_imul dX11_write_15 ?_
      refine wp_iload_n dX11_write_16 rfl ?_
      refine wp_iadd dX11_write_17 ?_
      refine wp_imul dX11_write_18 ?_
      rw [wr_i0]
      refine st_i_5_3 dX11_write_19 (by decide) rfl ?_
      refine wp_aload_n dX11_write_20 rfl ?_
      refine wp_getA (by first | rfl | assumption) dX11_write_21 flRX11_104 (by first | rfl | assumption) ?_
      refine wp_iload_n dX11_write_24 rfl ?_
      refine wp_aload_n dX11_write_25 rfl ?_
      refine wp_getA (by first | rfl | assumption) dX11_write_26 flRX11_19 (by first | rfl | assumption) ?_
      refine wp_iload_n dX11_write_29 rfl ?_
      refine m_iald dX11_write_30 rfl rfl (by omega) (by decide) (by decide) ?_
      refine wr_iast (e := 0) dX11_write_31 rfl ⟨by omega, by omega, by omega⟩ hw_q (by rw [hw_q.1 130 (by decide)]; rfl) (fun S2 hw_q => ?_)
      refine wp_aload_n dX11_write_32 rfl ?_
      refine wp_getA (by first | rfl | assumption) dX11_write_33 flRX11_104 (by first | rfl | assumption) ?_
      refine wp_iload_n dX11_write_36 rfl ?_
      refine wp_iconst 1 dX11_write_37 (by decide) ?_
      refine wp_iadd dX11_write_38 ?_
      refine wp_aload_n dX11_write_39 rfl ?_
      refine wp_getA (by first | rfl | assumption) dX11_write_40 flRX11_22 (by first | rfl | assumption) ?_
      refine wp_iload_n dX11_write_43 rfl ?_
      refine m_iald dX11_write_44 rfl rfl (by omega) (by decide) (by decide) ?_
      refine wr_iast (e := 1) dX11_write_45 (nI_add _ 1) ⟨by omega, by omega, by omega⟩ hw_q (by rw [hw_q.1 131 (by decide)]; rfl) (fun S2 hw_q => ?_)
      refine wp_aload_n dX11_write_46 rfl ?_
      refine wp_getA (by first | rfl | assumption) dX11_write_47 flRX11_104 (by first | rfl | assumption) ?_
      refine wp_iload_n dX11_write_50 rfl ?_
      refine wp_iconst 2 dX11_write_51 (by decide) ?_
      refine wp_iadd dX11_write_52 ?_
      refine wp_aload_n dX11_write_53 rfl ?_
      refine wp_getA (by first | rfl | assumption) dX11_write_54 flRX11_25 (by first | rfl | assumption) ?_
      refine wp_iload_n dX11_write_57 rfl ?_
      refine m_iald dX11_write_58 rfl rfl (by omega) (by decide) (by decide) ?_
      refine wr_iast (e := 2) dX11_write_59 (nI_add _ 2) ⟨by omega, by omega, by omega⟩ hw_q (by rw [hw_q.1 132 (by decide)]; rfl) (fun S2 hw_q => ?_)
      refine wp_aload_n dX11_write_60 rfl ?_
      refine wp_getA (by first | rfl | assumption) dX11_write_61 flRX11_104 (by first | rfl | assumption) ?_
      refine wp_iload_n dX11_write_64 rfl ?_
      refine wp_iconst 3 dX11_write_65 (by decide) ?_
      refine wp_iadd dX11_write_66 ?_
      refine wp_aload_n dX11_write_67 rfl ?_
      refine wp_getA (by first | rfl | assumption) dX11_write_68 flRX11_28 (by first | rfl | assumption) ?_
      refine wp_iload_n dX11_write_71 rfl ?_
      refine m_iald dX11_write_72 rfl rfl (by omega) (by decide) (by decide) ?_
      refine wr_iast (e := 3) dX11_write_73 (nI_add _ 3) ⟨by omega, by omega, by omega⟩ hw_q (by rw [hw_q.1 133 (by decide)]; rfl) (fun S2 hw_q => ?_)
      refine wp_iconst 0 dX11_write_74 (by decide) ?_
      refine st_i_5_4 dX11_write_75 (by decide) rfl ?_
      refine l_wr2 hn_q ha_q ht_q hxn_q hbb_q hb5_q (fun S2 hw_q => ?_) 0 S2 (by omega) hw_q
      refine wp_aload_n dX11_write_167 rfl ?_
      refine wp_getA (by first | rfl | assumption) dX11_write_168 flRX11_104 (by first | rfl | assumption) ?_
      refine wp_iload_n dX11_write_171 rfl ?_
      refine wp_bipush 14 dX11_write_172 (by decide) ?_
      refine wp_iadd dX11_write_174 ?_
      refine wp_aload_n dX11_write_175 rfl ?_
      refine wp_iconst 2 dX11_write_176 (by decide) ?_
      refine wp_iload_n dX11_write_177 rfl ?_
      refine wp_imul dX11_write_178 ?_
      rw [show (2 : Int32) = nI 2 from rfl, nI_mul]
      refine g_callV1 (mj := mX11_ageOf) dX11_write_179 lkRX11_314 mkX11_ageOf (by first | rfl | assumption) (by decide) (by decide) (Nat.le_of_ble_eq_true rfl) (c_ageOf (by omega) ?_)
      refine wr_iast (e := 14) dX11_write_182 (nI_add _ 14) ⟨by omega, by omega, by omega⟩ hw_q (by show agW S2 (2 * x) = agW S (2 * x); unfold agW; rw [hw_q.1 126 (by decide), hw_q.1 137 (by decide)]) (fun S2 hw_q => ?_)
      refine wp_aload_n dX11_write_183 rfl ?_
      refine wp_getA (by first | rfl | assumption) dX11_write_184 flRX11_104 (by first | rfl | assumption) ?_
      refine wp_iload_n dX11_write_187 rfl ?_
      refine wp_bipush 15 dX11_write_188 (by decide) ?_
      refine wp_iadd dX11_write_190 ?_
      refine wp_aload_n dX11_write_191 rfl ?_
      refine wp_iconst 2 dX11_write_192 (by decide) ?_
      refine wp_iload_n dX11_write_193 rfl ?_
      refine wp_imul dX11_write_194 ?_
      refine wp_iconst 1 dX11_write_195 (by decide) ?_
      refine wp_iadd dX11_write_196 ?_
      rw [show (2 : Int32) = nI 2 from rfl, nI_mul, nI_1]
      refine g_callV1 (mj := mX11_ageOf) dX11_write_197 lkRX11_314 mkX11_ageOf (by first | rfl | assumption) (by decide) (by decide) (Nat.le_of_ble_eq_true rfl) (c_ageOf (by omega) ?_)
      refine wr_iast (e := 15) dX11_write_200 (nI_add _ 15) ⟨by omega, by omega, by omega⟩ hw_q (by show agW S2 (2 * x + 1) = agW S (2 * x + 1); unfold agW; rw [hw_q.1 126 (by decide), hw_q.1 137 (by decide)]) (fun S2 hw_q => ?_)
      refine ic_5_2 (nI (x + 1)) dX11_write_201 (nI_inc x) (by decide) rfl ?_
      refine wp_goto dX11_write_204 ?_
      exact ih _ (by omega) (x + 1) S2 _ _ rfl (by omega) (wr_row hw_q)
set_option maxHeartbeats 4000000 in
theorem c_write {I S : Mem} {J : Mel} {Q : Option Value → Mem → Mem → Mel → Prop} {n : Nat} (hn_q : n ≤ 6) (ha_q : S 126 1 = nI n) {t : Nat} (ht_q : t ≤ 60) (hb_q : ∀ i, i < n → ∃ b, b ≤ 5 ∧ S 133 i = nI b) (k : ∀ S2 : Mem, wrI S S2 t n 0 → Q none I S2 J) : M2 mX11_write 2 [.ref 126, .int (nI t)] I S J Q := by
  refine m2_of [.ref 126, .int (nI t), dum, dum, dum] moX11_write (Nat.le_of_ble_eq_true rfl) rfl ?_
  refine wp_iconst 0 dX11_write_0 (by decide) ?_
  refine st_i_5_2 dX11_write_1 (by decide) rfl ?_
  exact l_wr hn_q ha_q ht_q hb_q k 0 S dum dum (by omega) ⟨fun _ _ => rfl, fun a ha_q => by omega, fun i hi_q => by omega, fun _ _ => rfl⟩
theorem sm_ix (t j : Nat) : (96 : Int32) * nI t + nI j = nI (96 * t + j) := by rw [show (96 : Int32) = nI 96 from rfl]; exact nI_mad 96 t j
def smP (S : Mem) (n t u : Nat) : Prop := ∀ j, j < 16 * n → S 158 (96 * t + j) = S 158 (96 * u + j)
set_option maxHeartbeats 4000000 in
theorem l_same {I S : Mem} {J : Mel} {Q : Option Value → Mem → Mem → Mel → Prop} {n : Nat} (hn_q : n ≤ 6) (ha_q : S 126 1 = nI n) {t u : Nat} (ht_q : t ≤ 60) (hu_q : u ≤ 60) (k : ∀ r, (r = 1 ∧ smP S n t u) ∨ (r = 0 ∧ ¬ smP S n t u) → Q (some (.int r)) I S J) : ∀ (x : Nat) (r : Int32), (x ≤ 16 * n) → ((r = 1 ∧ ∀ j, j < x → S 158 (96 * t + j) = S 158 (96 * u + j)) ∨ (r = 0 ∧ ¬ smP S n t u)) → W2 mX11_isSame 1 Q I S J 5 [.ref 126, .int (nI t), .int (nI u), .int r, .int (nI x)] [] := by
  intro x r
  induction hm : 16 * n - x using Nat.strongRecOn generalizing x r with
  | _ c ih =>
    intro hx_q hr_q
    have hm_q : (16 : Int32) * S 126 1 = nI (16 * n) := by rw [ha_q, show (16 : Int32) = nI 16 from rfl, nI_mul]
    refine wp_iload dX11_isSame_5 rfl ?_
    refine wp_bipush 16 dX11_isSame_7 (by decide) ?_
    refine wp_aload_n dX11_isSame_9 rfl ?_
    refine m_getI dX11_isSame_10 flRX11_212 (by first | rfl | assumption) (by decide) ?_
    refine wp_imul dX11_isSame_13 ?_
    refine wp_icmp_ge dX11_isSame_14 (fun h14 => ?_) (fun h14 => ?_)
    · skip
      refine wp_iload_n dX11_isSame_60 rfl ?_
      refine g_zret dX11_isSame_61 rfl (by rcases hr_q with q_q | q_q; exact Or.inr q_q.1; exact Or.inl q_q.1) ?_
      refine k _ ?_
      rcases hr_q with ⟨r1_q, r2_q⟩ | hr2_q
      · first | exact absurd h18 (by rw [r1_q]; decide) | exact Or.inl ⟨r1_q, fun j hj_q => r2_q j (by rw [hm_q, nI_leg (by omega) (by omega)] at h14; omega)⟩
      · exact Or.inr hr2_q
    · skip
      have hxn_q : x < 16 * n := by rw [hm_q, nI_leg (by omega) (by omega)] at h14; omega
      refine wp_iload_n dX11_isSame_17 rfl ?_
      refine wp_if_eq dX11_isSame_18 (fun h18 => ?_) (fun h18 => ?_)
      · skip
        refine wp_iload_n dX11_isSame_60 rfl ?_
        refine g_zret dX11_isSame_61 rfl (by rcases hr_q with q_q | q_q; exact Or.inr q_q.1; exact Or.inl q_q.1) ?_
        refine k _ ?_
        rcases hr_q with ⟨r1_q, r2_q⟩ | hr2_q
        · first | exact absurd h18 (by rw [r1_q]; decide) | exact Or.inl ⟨r1_q, fun j hj_q => r2_q j (by rw [hm_q, nI_leg (by omega) (by omega)] at h14; omega)⟩
        · exact Or.inr hr2_q
      · skip
        obtain ⟨r1_q, r2_q⟩ := hr_q.resolve_right (fun q => h18 q.1)
        refine wp_aload_n dX11_isSame_21 rfl ?_
        refine wp_getA (by first | rfl | assumption) dX11_isSame_22 flRX11_104 (by first | rfl | assumption) ?_
        refine wp_bipush 96 dX11_isSame_25 (by decide) ?_
        refine wp_iload_n dX11_isSame_27 rfl ?_
        refine wp_imul dX11_isSame_28 ?_
        refine wp_iload dX11_isSame_29 rfl ?_
        refine wp_iadd dX11_isSame_31 ?_
        refine m_iald dX11_isSame_32 rfl (sm_ix t x) (by omega) (by decide) (by decide) ?_
        refine wp_aload_n dX11_isSame_33 rfl ?_
        refine wp_getA (by first | rfl | assumption) dX11_isSame_34 flRX11_104 (by first | rfl | assumption) ?_
        refine wp_bipush 96 dX11_isSame_37 (by decide) ?_
        refine wp_iload_n dX11_isSame_39 rfl ?_
        refine wp_imul dX11_isSame_40 ?_
        refine wp_iload dX11_isSame_41 rfl ?_
        refine wp_iadd dX11_isSame_43 ?_
        refine m_iald dX11_isSame_44 rfl (sm_ix u x) (by omega) (by decide) (by decide) ?_
        refine wp_icmp_ne dX11_isSame_45 (fun h45 => ?_) (fun h45 => ?_)
        · skip
          refine wp_iconst 0 dX11_isSame_52 (by decide) ?_
          refine st_i_5_3 dX11_isSame_53 (by decide) rfl ?_
          refine ic_5_4 (nI (x + 1)) dX11_isSame_54 (nI_inc x) (by decide) rfl ?_
          refine wp_goto dX11_isSame_57 ?_
          first | exact ih _ (by omega) (x + 1) _ rfl (by omega) (Or.inl ⟨rfl, fun j hj_q => by by_cases hjx_q : j = x; (subst hjx_q; exact h45); exact r2_q j (by omega)⟩) | exact ih _ (by omega) (x + 1) _ rfl (by omega) (Or.inr ⟨rfl, fun q => h45 (q x hxn_q)⟩)
        · skip
          refine wp_iconst 1 dX11_isSame_48 (by decide) ?_
          refine wp_goto dX11_isSame_49 ?_
          refine st_i_5_3 dX11_isSame_53 (by decide) rfl ?_
          refine ic_5_4 (nI (x + 1)) dX11_isSame_54 (nI_inc x) (by decide) rfl ?_
          refine wp_goto dX11_isSame_57 ?_
          first | exact ih _ (by omega) (x + 1) _ rfl (by omega) (Or.inl ⟨rfl, fun j hj_q => by by_cases hjx_q : j = x; (subst hjx_q; exact h45); exact r2_q j (by omega)⟩) | exact ih _ (by omega) (x + 1) _ rfl (by omega) (Or.inr ⟨rfl, fun q => h45 (q x hxn_q)⟩)
set_option maxHeartbeats 4000000 in
theorem c_same {I S : Mem} {J : Mel} {Q : Option Value → Mem → Mem → Mel → Prop} {n : Nat} (hn_q : n ≤ 6) (ha_q : S 126 1 = nI n) {t u : Nat} (ht_q : t ≤ 60) (hu_q : u ≤ 60) (k : ∀ r, (r = 1 ∧ smP S n t u) ∨ (r = 0 ∧ ¬ smP S n t u) → Q (some (.int r)) I S J) : M2 mX11_isSame 1 [.ref 126, .int (nI t), .int (nI u)] I S J Q := by
  refine m2_of [.ref 126, .int (nI t), .int (nI u), dum, dum] moX11_isSame (Nat.le_of_ble_eq_true rfl) rfl ?_
  refine wp_iconst 1 dX11_isSame_0 (by decide) ?_
  refine st_i_5_3 dX11_isSame_1 (by decide) rfl ?_
  refine wp_iconst 0 dX11_isSame_2 (by decide) ?_
  refine st_i_5_4 dX11_isSame_3 (by decide) rfl ?_
  exact l_same hn_q ha_q ht_q hu_q k 0 1 (by omega) (Or.inl ⟨rfl, fun j hj_q => by omega⟩)
