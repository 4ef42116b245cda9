theorem Rc.cg {n k : Nat} {dl : Int32} {I I' G : Mem} (h : Rc n dl I k G) (hn : n ≤ 6) (hI : ∀ b, k ≤ b → b < k + 33 → I' b = I b) : Rc n dl I' k G := by
  obtain ⟨r1, r2, r3, r4, r5⟩ := h
  refine ⟨by rw [hI k (by omega) (by omega)]; exact r1, by rw [hI k (by omega) (by omega)]; exact r2, fun i hi => ?_, ?_, ?_⟩
  · have t := r3 i hi
    unfold RcA at t ⊢
    rw [hI (k + 9 + 4 * i) (by omega) (by omega), hI (k + 9 + 4 * i + 1) (by omega) (by omega), hI (k + 9 + 4 * i + 2) (by omega) (by omega), hI (k + 9 + 4 * i + 3) (by omega) (by omega)]
    exact t
  · unfold RcL at r4 ⊢
    rw [hI (k + 2) (by omega) (by omega), hI (k + 3) (by omega) (by omega), hI (k + 4) (by omega) (by omega)]; exact r4
  · unfold RcS at r5 ⊢
    rw [hI (k + 5) (by omega) (by omega), hI (k + 6) (by omega) (by omega), hI (k + 7) (by omega) (by omega)]; exact r5
theorem Rp.cg {n : Nat} {I I' G : Mem} (h : Rp n I G) (hI : ∀ b, 15 ≤ b → b < 24 → I' b = I b) : Rp n I' G := by
  obtain ⟨p1, p2, p3⟩ := h
  refine ⟨by rw [hI 15 (by omega) (by omega)]; exact p1, fun i hi => by rw [hI 17 (by omega) (by omega)]; exact p2 i hi, fun i hi j hj hj2 => ?_⟩
  rw [hI 18 (by omega) (by omega), hI 19 (by omega) (by omega), hI 20 (by omega) (by omega)]
  exact p3 i hi j hj hj2
theorem Hc.cg {n T k : Nat} {dl : Int32} {I I' G : Mem} (h : Hc n T dl I k G) (hI : ∀ b, (15 ≤ b ∧ b < 24) ∨ (k ≤ b ∧ b < k + 33) → I' b = I b) : Hc n T dl I' k G :=
  ⟨h.1, h.2.1, h.2.2.1.cg h.2.1.1 (fun b h1 h2 => hI b (Or.inr ⟨h1, h2⟩)), h.2.2.2.1.cg (fun b h1 h2 => hI b (Or.inl ⟨h1, h2⟩)), h.2.2.2.2⟩
theorem trN_lt {n T i : Nat} {G : Mem} (h : WA n T G i) : trN T G i 5 < 2 ^ 63 := by
  have hL : ∀ j, ltN G i j < 128 := fun j => ltN_lt h
  have a1 := agN_lt T (G 137 (2 * i))
  have a2 := agN_lt T (G 137 (2 * i + 1))
  obtain ⟨u, st, wt, b, g1, g2, g3, g4, e1, e2, e3, e4, e5⟩ := h.nat
  have l0 := hL 0; have l1 := hL 1; have l2 := hL 2; have l3 := hL 3; have l4 := hL 4
  have t5 : t5N T G i < 16384 := by
    unfold t5N
    rw [e1, e2, e3, e4, tn_nI (by omega), tn_nI (by omega), tn_nI (by omega), tn_nI (by omega)]
    omega
  simp only [trN]
  omega
def trR (n T y : Nat) (G : Mem) (J : Mel) : Prop := ∀ t, t < y → ∀ i, i < n → J 124 (6 * t + i) = lN (trN (T + t) (tks t G) i 5)
theorem trR.tw {n T y : Nat} {G : Mem} {J J' : Mel} (h : trR n T y G J) (hn : n ≤ 6) (hw : twR n (T + y) y (tks y G) J J') : trR n T (y + 1) G J' := fun t ht i hi => by
  by_cases e : t = y
  · subst e; exact hw.1 i hi
  · rw [hw.2 _ (by omega)]; exact h t (by omega) i hi
theorem trR.alk {n T y t u : Nat} {G : Mem} {J : Mel} (h : trR n T y G J) (hW : WS n T G) (hT : T + y < 100000) (ht : t < y) (hu : u < y) : alk n J u t ↔ smG n (tks u G) (tks t G) := by
  have hU := hW.tks u
  have hV := hW.tks t
  have key : ∀ i, i < n → (J 124 (6 * u + i) = J 124 (6 * t + i) ↔ ∀ q, q < 16 → stv (tks u G) i q = stv (tks t G) i q) := fun i hi => by
    rw [h u hu i hi, h t ht i hi, fb_lN_inj (trN_lt (hU.2.2.2.2 i hi)) (trN_lt (hV.2.2.2.2 i hi)), tr_eq hU hV (by omega) (by omega) hi]
  exact ⟨fun ha i hi => (key i hi).mp (ha i hi), fun hs i hi => (key i hi).mpr (hs i hi)⟩
set_option maxHeartbeats 4000000 in
theorem l_pround {I0 G S : Mem} {Q : Option Value → Mem → Mem → Mel → Prop} {n T : Nat} {x : Int32} (hW_q : WS n T G) (hT9_q : T ≤ 9999) (k : ∀ (r : Int32) (I2 : Mem) (J' : Mel), RoundP n G x r → (∀ b, b < 90 → I2 b = I0 b) → Q (some (.int r)) I2 S J') : ∀ (m : Nat) (I : Mem) (J : Mel) (uv : Value), (m ≤ 60) → (Hc n (T + m) 0 I 90 (tks m G)) → (∀ b, b < 90 → I b = I0 b) → (trR n T (m + 1) G J) → (∀ t u, t < m + 1 → u < t → ¬ smG n (tks u G) (tks t G)) → W2 mX10_round 8 Q I S J 69 [.ref 2, .int x, .int (nI (m + 1)), uv] [] := by
  intro m I J uv
  induction hm : 60 - m using Nat.strongRecOn generalizing m I J uv with
  | _ c ih =>
    intro hm6_q hH_q hf_q hR_q hN_q
    refine wp_iload_n dX10_round_69 rfl ?_
    refine wp_bipush 60 dX10_round_70 (by decide) ?_
    refine wp_icmp_gt dX10_round_72 (fun h72 => ?_) (fun h72 => ?_)
    · skip
      refine wp_iconst (-1) dX10_round_127 (by decide) ?_
      refine g_iret dX10_round_128 rfl ?_
      have e_q : m = 60 := by rw [show (60 : Int32) = nI 60 from rfl, nI_ltg (by omega) (by omega)] at h72; omega
      subst e_q
      exact k _ I J (Or.inr ⟨fun t u ht_q hu_q => hN_q t u (by omega) hu_q, rfl⟩) hf_q
    · skip
      have hm5_q : m + 1 ≤ 60 := by rw [show (60 : Int32) = nI 60 from rfl, nI_ltg (by omega) (by omega)] at h72; omega
      refine wp_aload_n dX10_round_75 rfl ?_
      refine wp_getA (by first | rfl | assumption) dX10_round_76 flRX10_42 (by first | rfl | assumption) ?_
      refine g_callV0 (mj := mX2_runTick) dX10_round_79 lkRX10_142 mkX2_runTick (by first | rfl | assumption) (by decide) (by decide) (Nat.le_of_ble_eq_true rfl) (c_runTick hH_q (by omega) (fun I2 r hR2_q hf2_q he2_q => ?_))
      have hH2_q : Hc n (T + (m + 1)) 0 I2 90 (tks (m + 1) G) := hH_q.go hH_q.2.1.tick hR2_q hf2_q (kpD.tick _) (by omega)
      refine wp_pop dX10_round_82 rfl ?_
      refine wp_aload_n dX10_round_83 rfl ?_
      refine wp_getA (by first | rfl | assumption) dX10_round_84 flRX10_48 (by first | rfl | assumption) ?_
      refine wp_iload_n dX10_round_87 rfl ?_
      refine wp_aload_n dX10_round_88 rfl ?_
      refine wp_getA (by first | rfl | assumption) dX10_round_89 flRX10_42 (by first | rfl | assumption) ?_
      refine g_callV2 (mj := mX9_write) dX10_round_92 lkRX10_184 mkX9_write (by first | rfl | assumption) (by decide) (by decide) (Nat.le_of_ble_eq_true rfl) (c_tw hH2_q (by omega) (fun J2 hw_q => ?_))
      refine wp_aload_n dX10_round_95 rfl ?_
      refine wp_getA (by first | rfl | assumption) dX10_round_96 flRX10_48 (by first | rfl | assumption) ?_
      refine wp_iload_n dX10_round_99 rfl ?_
      refine g_callV1 (mj := mX9_firstLike) dX10_round_100 lkRX10_188 mkX9_firstLike (by first | rfl | assumption) (by decide) (by decide) (Nat.le_of_ble_eq_true rfl) (c_first hW_q.1 (uI_self _ _ _ _) (by omega) (fun r2 hr_q => ?_))
      have hR3_q := hR_q.tw hW_q.1 hw_q
      have hg_q : ∀ b, b < 90 → uI I2 123 1 (nI n) b = I0 b := fun b hb_q => by rw [uI_ne (by omega), hf2_q b (by omega)]; exact hf_q b hb_q
      refine st_i_4_3 dX10_round_103 (by decide) rfl ?_
      refine wp_iload_n dX10_round_104 rfl ?_
      refine wp_iconst (-1) dX10_round_105 (by decide) ?_
      refine wp_icmp_eq dX10_round_106 (fun h106 => ?_) (fun h106 => ?_)
      · skip
        refine ic_4_2 (nI (m + 1 + 1)) dX10_round_121 (nI_inc (m + 1)) (by decide) rfl ?_
        refine wp_goto dX10_round_124 ?_
        have hr2_q := hr_q.resolve_left (fun q => by obtain ⟨u, hu_q, e_q, -⟩ := q; rw [h106] at e_q; exact nI_small (by omega) e_q.symm)
        exact ih _ (by omega) (m + 1) _ J2 _ rfl hm5_q (hH2_q.out (by omega)) hg_q hR3_q (fun t u ht_q hu_q => by by_cases e_q : t = m + 1; (subst e_q; exact fun q => hr2_q.2 u hu_q ((hR3_q.alk hW_q (by omega) (by omega) (by omega)).mpr q)); exact hN_q t u (by omega) hu_q)
      · skip
        refine wp_iload_n dX10_round_109 rfl ?_
        refine wp_if_ne dX10_round_110 (fun h110 => ?_) (fun h110 => ?_)
        · skip
          refine wp_iload_n dX10_round_117 rfl ?_
          refine wp_iload_n dX10_round_118 rfl ?_
          refine wp_isub dX10_round_119 ?_
          refine g_iret dX10_round_120 rfl ?_
          obtain ⟨u, hu_q, e_q, ha_q, hb_q⟩ := hr_q.resolve_right (fun q => h106 q.1)
          refine k _ _ J2 (Or.inl ⟨m + 1, u, by omega, hm5_q, hu_q, (hR3_q.alk hW_q (by omega) (by omega) (by omega)).mp ha_q, fun t2 u2 h1_q h2_q => hN_q t2 u2 h1_q h2_q, fun u2 h1_q q => hb_q u2 h1_q ((hR3_q.alk hW_q (by omega) (by omega) (by omega)).mpr q), ?_⟩) hg_q
          rw [e_q]
          first | (rw [if_pos h110]; done) | (rw [if_neg h110]; done) | (rw [if_pos (Classical.not_not.mp h110)]; done)
        · skip
          refine wp_iload_n dX10_round_113 rfl ?_
          refine wp_goto dX10_round_114 ?_
          refine g_iret dX10_round_120 rfl ?_
          obtain ⟨u, hu_q, e_q, ha_q, hb_q⟩ := hr_q.resolve_right (fun q => h106 q.1)
          refine k _ _ J2 (Or.inl ⟨m + 1, u, by omega, hm5_q, hu_q, (hR3_q.alk hW_q (by omega) (by omega) (by omega)).mp ha_q, fun t2 u2 h1_q h2_q => hN_q t2 u2 h1_q h2_q, fun u2 h1_q q => hb_q u2 h1_q ((hR3_q.alk hW_q (by omega) (by omega) (by omega)).mpr q), ?_⟩) hg_q
          rw [e_q]
          first | (rw [if_pos h110]; done) | (rw [if_neg h110]; done) | (rw [if_pos (Classical.not_not.mp h110)]; done)
set_option maxHeartbeats 4000000 in
theorem c_pround {I S : Mem} {J : Mel} {Q : Option Value → Mem → Mem → Mel → Prop} {n T : Nat} {G : Mem} (hH_q : Hc n T 0 I 24 G) (hE_q : WSe n G) (hT9_q : T ≤ 9999) {x : Int32} (k1_q : ¬ (0 ≤ x ∧ x ≤ 1) → Q (some (.int (-102))) I S J) (k2_q : 0 ≤ x ∧ x ≤ 1 → (G 126 1 = 0 ∨ ¬ I 2 10 < 6) → Q (some (.int (-103))) I S J) (k : 0 ≤ x ∧ x ≤ 1 → ¬ (G 126 1 = 0 ∨ ¬ I 2 10 < 6) → ∀ (r : Int32) (I2 : Mem) (J' : Mel), RoundP n G x r → (∀ b, b < 90 → I2 b = uI I 2 10 (I 2 10 + 1) b) → Q (some (.int r)) I2 S J') : M2 mX10_round 8 [.ref 2, .int x] I S J Q := by
  obtain ⟨hC_q, hW_q, hR_q, hP_q, hT_q⟩ := id hH_q
  obtain ⟨c1_q, c2_q, c3_q, c4_q, c5_q, c6_q, c7_q, c8_q, c9_q, c10_q, c11_q, c12_q, c13_q, c14_q⟩ := id hC_q
  have hn_q := hW_q.1
  obtain ⟨s, hs6_q, hs_q, hsv_q⟩ := id hE_q
  obtain ⟨l, hl6_q, hl_q, hlv_q⟩ := id hW_q.2.2.2.1
  refine m2_of [.ref 2, .int x, dum, dum] moX10_round (Nat.le_of_ble_eq_true rfl) rfl ?_
  refine wp_iload_n dX10_round_0 rfl ?_
  refine wp_if_lt dX10_round_1 (fun h1 => ?_) (fun h1 => ?_)
  · skip
    refine wp_bipush (-102) dX10_round_9 (by decide) ?_
    refine g_iret dX10_round_11 rfl ?_
    exact k1_q (by grind)
  · skip
    refine wp_iload_n dX10_round_4 rfl ?_
    refine wp_iconst 1 dX10_round_5 (by decide) ?_
    refine wp_icmp_le dX10_round_6 (fun h6 => ?_) (fun h6 => ?_)
    · skip
      have hx_q : 0 ≤ x ∧ x ≤ 1 := by grind
      refine wp_aload_n dX10_round_12 rfl ?_
      refine wp_getA (by first | rfl | assumption) dX10_round_13 flRX10_26 (by first | rfl | assumption) ?_
      refine g_callV0 (mj := mX6_isNone) dX10_round_16 lkRX10_136 mkX6_isNone (by first | rfl | assumption) (by decide) (by decide) (Nat.le_of_ble_eq_true rfl) (c_isNone plan15 ?_)
      refine wp_if_ne dX10_round_19 (fun h19 => ?_) (fun h19 => ?_)
      · skip
        refine wp_bipush (-103) dX10_round_31 (by decide) ?_
        refine g_iret dX10_round_33 rfl ?_
        refine k2_q hx_q ?_
        first | exact Or.inl (by rw [hW_q.2.1, ← hP_q.1]; exact b01_ne h19) | exact Or.inr h28
      · skip
        refine wp_aload_n dX10_round_22 rfl ?_
        refine c_getI dX10_round_23 flRX10_178 (by first | rfl | assumption) (by omega) ?_
        refine wp_bipush 6 dX10_round_26 (by decide) ?_
        refine wp_icmp_lt dX10_round_28 (fun h28 => ?_) (fun h28 => ?_)
        · skip
          refine wp_aload_n dX10_round_34 rfl ?_
          refine wp_dup dX10_round_35 rfl ?_
          refine c_getI dX10_round_36 flRX10_178 (by first | rfl | assumption) (by omega) ?_
          refine wp_iconst 1 dX10_round_39 (by decide) ?_
          refine wp_iadd dX10_round_40 ?_
          refine c_putI dX10_round_41 flRX10_178 (by first | rfl | assumption) (by omega) ?_
          have n0_q : ¬ (G 126 1 = 0 ∨ ¬ I 2 10 < 6) := fun q => q.elim (fun q => b01_e0 (by first | exact h19 | exact Classical.not_not.mp h19) (by rw [hP_q.1, ← hW_q.2.1]; exact q)) (fun q => q h28)
          have h1_q : Hc n T 0 (uI I 2 10 (I 2 10 + 1)) 24 G := hH_q.cg (fun b hb_q => uI_ne (by omega))
          refine wp_aload_n dX10_round_44 rfl ?_
          refine wp_getA (by first | rfl | assumption) dX10_round_45 flRX10_42 (by first | rfl | assumption) ?_
          refine wp_aload_n dX10_round_48 rfl ?_
          refine wp_getA (by first | rfl | assumption) dX10_round_49 flRX10_35 (by first | rfl | assumption) ?_
          refine g_callV1 (mj := mX2_copyFrom) dX10_round_52 lkRX10_181 mkX2_copyFrom (by first | rfl | assumption) (by decide) (by decide) (Nat.le_of_ble_eq_true rfl) (c_ccopy crew90 h1_q (by omega) hl_q hl6_q hs_q hs6_q (fun I2 hR2_q hf2_q => ?_))
          have h2_q : Hc n T 0 I2 90 G := ⟨crew90, hW_q, hR2_q, h1_q.2.2.2.1.go hf2_q (by omega) rfl rfl, hT_q⟩
          refine wp_aload_n dX10_round_55 rfl ?_
          refine wp_getA (by first | rfl | assumption) dX10_round_56 flRX10_48 (by first | rfl | assumption) ?_
          refine wp_iconst 0 dX10_round_59 (by decide) ?_
          refine wp_aload_n dX10_round_60 rfl ?_
          refine wp_getA (by first | rfl | assumption) dX10_round_61 flRX10_42 (by first | rfl | assumption) ?_
          refine g_callV2 (mj := mX9_write) dX10_round_64 lkRX10_184 mkX9_write (by first | rfl | assumption) (by decide) (by decide) (Nat.le_of_ble_eq_true rfl) (c_tw (t := 0) h2_q (by omega) (fun J2 hw_q => ?_))
          refine wp_iconst 1 dX10_round_67 (by decide) ?_
          refine st_i_4_2 dX10_round_68 (by decide) rfl ?_
          refine l_pround (I0 := uI I 2 10 (I 2 10 + 1)) hW_q hT9_q (k hx_q n0_q) 0 _ J2 dum (by omega) (h2_q.out (by omega)) (fun b hb_q => by rw [uI_ne (by omega)]; exact hf2_q b (by omega)) (fun t ht_q i hi_q => ?_) (fun t u ht_q hu_q => by omega)
          obtain rfl : t = 0 := by omega
          exact hw_q.1 i hi_q
        · skip
          refine wp_bipush (-103) dX10_round_31 (by decide) ?_
          refine g_iret dX10_round_33 rfl ?_
          refine k2_q hx_q ?_
          first | exact Or.inl (by rw [hW_q.2.1, ← hP_q.1]; exact b01_ne h19) | exact Or.inr h28
    · skip
      refine wp_bipush (-102) dX10_round_9 (by decide) ?_
      refine g_iret dX10_round_11 rfl ?_
      exact k1_q (by grind)
