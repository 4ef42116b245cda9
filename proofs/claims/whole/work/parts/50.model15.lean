def RAO (S S' : Mem) (p x a l : Nat) (I0 : Mem) (r : Nat) : Prop := x ≤ r ∧ ((S' 126 26 = 1 ∧ Bad (S 143) p x I0 r) ∨ ∃ I1 z, x < r ∧ Sgo (S 143) p x I0 r I1 ∧ RM (a + 1) (a + 1) l I1 S' ∧ MS (a + 1) I1 (S' 126 29) ∧ I1 5 1 = 5 ∧ I1 8 a = nI z ∧ z ≤ 3 ∧ (z = 3 ∨ ¬ isSS (hr S p r)))
theorem isSS0 : ¬ isSS 0 := by unfold isSS; decide
theorem isSS_lt {S : Mem} {p y : Nat} (h : isSS (hr S p y)) : y < p ∧ isSS (S 143 y) := by
  rcases Nat.lt_or_ge y p with q | q
  · rw [hr_lt q] at h; exact ⟨q, h⟩
  · rw [hr_ge (by omega)] at h; exact absurd h isSS0
theorem aSt_ss {I : Mem} {x : Int32} (h : ¬ isSS x) : aSt I x = none := by
  unfold isSS at h
  exact aSt_no (fun q => h (by simp [q])) (fun q => h (by simp [q])) (fun q => h (by simp [q])) (fun q => h (by simp [q])) (fun q => h (by simp [q]))
set_option maxHeartbeats 4000000 in
theorem l_rdA {I S : Mem} {J : Mel} {Q : Option Value → Mem → Mem → Mel → Prop} {p x a l : Nat} {I0 : Mem} {u : Int32} (hP_q : PG S p) (ha6_q : a < 6) (k : ∀ (r : Nat) (S' : Mem), kpR S S' → RAO S S' p x a l I0 r → Q (some (.int (nI r))) I S' J) : ∀ (y : Nat) (S2 : Mem), (x < y ∧ y ≤ p) → (kpR S S2) → ((S2 126 26 = 1 ∧ Bad (S 143) p x I0 y) ∨ (∃ I2 z, Sgo (S 143) p x I0 y I2 ∧ RM (a + 1) a l I2 S2 ∧ MS (a + 1) I2 (S2 126 29) ∧ I2 8 a = nI z ∧ z ≤ 3 ∧ ((I2 5 1 = 1 ∧ z = 0 ∧ isSS (hr S p y)) ∨ (I2 5 1 = 5 ∧ 1 ≤ z)))) → W2 mX11_readActor 4 Q I S2 J 67 [.ref 126, .int u, .int (nI y)] [] := by
  intro y S2
  induction hm : p - y using Nat.strongRecOn generalizing y S2 with
  | _ c ih =>
    intro hy_q hk_q hI_q
    have p84_q := hP_q.2.1
    refine wp_aload_n dX11_readActor_67 rfl ?_
    refine m_getZ dX11_readActor_68 flRX11_161 (by first | rfl | assumption) (by decide) ?_
    refine wp_if_ne dX11_readActor_71 (fun h71 => ?_) (fun h71 => ?_)
    · skip
      refine wp_aload_n dX11_readActor_107 rfl ?_
      refine wp_dup dX11_readActor_108 rfl ?_
      refine m_getI dX11_readActor_109 flRX11_165 (by first | rfl | assumption) (by decide) ?_
      refine wp_iconst 1 dX11_readActor_112 (by decide) ?_
      refine wp_iadd dX11_readActor_113 ?_
      refine m_putI dX11_readActor_114 flRX11_165 (by first | rfl | assumption) (by decide) ?_
      refine wp_iload_n dX11_readActor_117 rfl ?_
      refine g_iret dX11_readActor_118 rfl ?_
      refine k y _ (hk_q.st (by omega)) ⟨by omega, ?_⟩
      first
      | (refine Or.inr ⟨I2, z, hy_q.1, g1_q, g2_q.fin g4_q ?_ g5_q, by rw [uI_ap, if_neg (by decide)]; exact g3_q, ?_, g4_q, g5_q, Or.inl ?_⟩ <;> (rw [show (3 : Int32) = nI 3 from rfl, nI_leg (by omega) (by omega)] at h84; rcases g6_q with q | q; omega; first | omega | exact q.1))
      | (have hns_q := (hss0_q.resolve_left (fun q => by rw [q.1] at h95; first | exact h95 (by decide) | exact absurd h95 (by decide))).2; have hq_q := g6_q.resolve_left (fun q => hns_q q.2.2); exact Or.inr ⟨I2, z, hy_q.1, g1_q, g2_q.fin g4_q hq_q.2 g5_q, by rw [uI_ap, if_neg (by decide)]; exact g3_q, hq_q.1, g4_q, g5_q, Or.inr hns_q⟩)
      | (rcases hI_q with ⟨q1, q2⟩ | ⟨I2, z, g1_q, g2_q, -⟩; exact Or.inl ⟨by rw [uI_ap, if_neg (by decide)]; exact q1, q2⟩; (exfalso; rw [g2_q.2.2.2.2.2] at h71; first | exact h71 rfl | exact absurd h71 (by decide)))
    · skip
      obtain ⟨I2, z, g1_q, g2_q, g3_q, g4_q, g5_q, g6_q⟩ := hI_q.resolve_left (fun q => by rw [q.1] at h71; first | exact h71 (by decide) | exact absurd h71 (by decide))
      refine wp_aload_n dX11_readActor_74 rfl ?_
      refine wp_getA (by first | rfl | assumption) dX11_readActor_75 flRX11_65 (by first | rfl | assumption) ?_
      refine wp_aload_n dX11_readActor_78 rfl ?_
      refine m_getI dX11_readActor_79 flRX11_165 (by first | rfl | assumption) (by decide) ?_
      rw [g2_q.2.2.1]
      refine m_iald dX11_readActor_82 rfl rfl (by omega) (by decide) (by decide) ?_
      rw [g2_q.sz g4_q g5_q]
      refine wp_iconst 3 dX11_readActor_83 (by decide) ?_
      refine wp_icmp_ge dX11_readActor_84 (fun h84 => ?_) (fun h84 => ?_)
      · skip
        refine wp_aload_n dX11_readActor_107 rfl ?_
        refine wp_dup dX11_readActor_108 rfl ?_
        refine m_getI dX11_readActor_109 flRX11_165 (by first | rfl | assumption) (by decide) ?_
        refine wp_iconst 1 dX11_readActor_112 (by decide) ?_
        refine wp_iadd dX11_readActor_113 ?_
        refine m_putI dX11_readActor_114 flRX11_165 (by first | rfl | assumption) (by decide) ?_
        refine wp_iload_n dX11_readActor_117 rfl ?_
        refine g_iret dX11_readActor_118 rfl ?_
        refine k y _ (hk_q.st (by omega)) ⟨by omega, ?_⟩
        first
        | (refine Or.inr ⟨I2, z, hy_q.1, g1_q, g2_q.fin g4_q ?_ g5_q, by rw [uI_ap, if_neg (by decide)]; exact g3_q, ?_, g4_q, g5_q, Or.inl ?_⟩ <;> (rw [show (3 : Int32) = nI 3 from rfl, nI_leg (by omega) (by omega)] at h84; rcases g6_q with q | q; omega; first | omega | exact q.1))
        | (have hns_q := (hss0_q.resolve_left (fun q => by rw [q.1] at h95; first | exact h95 (by decide) | exact absurd h95 (by decide))).2; have hq_q := g6_q.resolve_left (fun q => hns_q q.2.2); exact Or.inr ⟨I2, z, hy_q.1, g1_q, g2_q.fin g4_q hq_q.2 g5_q, by rw [uI_ap, if_neg (by decide)]; exact g3_q, hq_q.1, g4_q, g5_q, Or.inr hns_q⟩)
        | (rcases hI_q with ⟨q1, q2⟩ | ⟨I2, z, g1_q, g2_q, -⟩; exact Or.inl ⟨by rw [uI_ap, if_neg (by decide)]; exact q1, q2⟩; (exfalso; rw [g2_q.2.2.2.2.2] at h71; first | exact h71 rfl | exact absurd h71 (by decide)))
      · skip
        refine wp_aload_n dX11_readActor_87 rfl ?_
        refine wp_iload_n dX11_readActor_88 rfl ?_
        refine g_callV1 (mj := mX11_here) dX11_readActor_89 lkRX11_157 mkX11_here (by first | rfl | assumption) (by decide) (by decide) (Nat.le_of_ble_eq_true rfl) (c_here (hk_q.pg hP_q) (by omega) ?_)
        rw [hr_k hk_q]
        refine g_callS1 (mj := mX11_isStepSign) dX11_readActor_92 lkRX11_184 mkX11_isStepSign (by decide) (by decide) (Nat.le_of_ble_eq_true rfl) (c_isSS (fun ss hss0_q => ?_))
        refine wp_if_eq dX11_readActor_95 (fun h95 => ?_) (fun h95 => ?_)
        · skip
          refine wp_aload_n dX11_readActor_107 rfl ?_
          refine wp_dup dX11_readActor_108 rfl ?_
          refine m_getI dX11_readActor_109 flRX11_165 (by first | rfl | assumption) (by decide) ?_
          refine wp_iconst 1 dX11_readActor_112 (by decide) ?_
          refine wp_iadd dX11_readActor_113 ?_
          refine m_putI dX11_readActor_114 flRX11_165 (by first | rfl | assumption) (by decide) ?_
          refine wp_iload_n dX11_readActor_117 rfl ?_
          refine g_iret dX11_readActor_118 rfl ?_
          refine k y _ (hk_q.st (by omega)) ⟨by omega, ?_⟩
          first
          | (refine Or.inr ⟨I2, z, hy_q.1, g1_q, g2_q.fin g4_q ?_ g5_q, by rw [uI_ap, if_neg (by decide)]; exact g3_q, ?_, g4_q, g5_q, Or.inl ?_⟩ <;> (rw [show (3 : Int32) = nI 3 from rfl, nI_leg (by omega) (by omega)] at h84; rcases g6_q with q | q; omega; first | omega | exact q.1))
          | (have hns_q := (hss0_q.resolve_left (fun q => by rw [q.1] at h95; first | exact h95 (by decide) | exact absurd h95 (by decide))).2; have hq_q := g6_q.resolve_left (fun q => hns_q q.2.2); exact Or.inr ⟨I2, z, hy_q.1, g1_q, g2_q.fin g4_q hq_q.2 g5_q, by rw [uI_ap, if_neg (by decide)]; exact g3_q, hq_q.1, g4_q, g5_q, Or.inr hns_q⟩)
          | (rcases hI_q with ⟨q1, q2⟩ | ⟨I2, z, g1_q, g2_q, -⟩; exact Or.inl ⟨by rw [uI_ap, if_neg (by decide)]; exact q1, q2⟩; (exfalso; rw [g2_q.2.2.2.2.2] at h71; first | exact h71 rfl | exact absurd h71 (by decide)))
        · skip
          have hss_q := (hss0_q.resolve_right (fun q => h95 q.1)).2
          obtain ⟨hyp_q, hsy_q⟩ := isSS_lt hss_q
          have hz3_q : z < 3 := by rw [show (3 : Int32) = nI 3 from rfl, nI_leg (by omega) (by omega)] at h84; omega
          refine wp_aload_n dX11_readActor_98 rfl ?_
          refine wp_iload_n dX11_readActor_99 rfl ?_
          refine g_callV1 (mj := mX11_readStep) dX11_readActor_100 lkRX11_188 mkX11_readStep (by first | rfl | assumption) (by decide) (by decide) (Nat.le_of_ble_eq_true rfl) (c_readStep (hk_q.pg hP_q) g2_q g3_q g4_q hz3_q (g6_q.elim (fun q => Or.inl q.1) (fun q => Or.inr q.1)) hyp_q (by rw [hk_q.pp]; exact hsy_q) (fun r S3 hk3_q ho_q => ?_))
          refine st_i_3_2 dX11_readActor_103 (by decide) rfl ?_
          refine wp_goto dX11_readActor_104 ?_
          unfold RSO at ho_q
          rw [hk_q.pp] at ho_q
          obtain ⟨ho1_q, ho2_q⟩ := ho_q
          have hrp_q : r ≤ p := ho2_q.elim (fun q => q.2.1) (fun q => by obtain ⟨I3, q1, -⟩ := q; exact q1.1)
          refine ih _ (by omega) r S3 rfl ⟨by omega, hrp_q⟩ (hk_q.tr hk3_q) ?_
          rcases ho2_q with ⟨q1, q2⟩ | ⟨I3, q1, q2, q3, q4, q5⟩
          · exact Or.inl ⟨q1, g1_q.bad q2⟩
          · exact Or.inr ⟨I3, z + 1, g1_q.tr q1, q2, q3, q5, by omega, Or.inr ⟨q4, by omega⟩⟩
set_option maxHeartbeats 4000000 in
theorem c_readActor {I S : Mem} {J : Mel} {Q : Option Value → Mem → Mem → Mel → Prop} {p x a l : Nat} {I0 : Mem} (hP_q : PG S p) (hR_q : RM a a l I0 S) (hM_q : MS a I0 (S 126 29)) (ha6_q : a < 6) (hd_q : I0 5 1 = 0) (hx_q : x ≤ p) (k : ∀ (r : Nat) (S' : Mem), kpR S S' → RAO S S' p x a l I0 r → Q (some (.int (nI r))) I S' J) : M2 mX11_readActor 4 [.ref 126, .int (nI x)] I S J Q := by
  have p84_q := hP_q.2.1
  have h6_q := hR_q.2.1
  have m_q := hR_q.2.2.1
  refine m2_of [.ref 126, .int (nI x), dum] moX11_readActor (Nat.le_of_ble_eq_true rfl) rfl ?_
  refine wp_aload_n dX11_readActor_0 rfl ?_
  refine wp_getA (by first | rfl | assumption) dX11_readActor_1 flRX11_62 (by first | rfl | assumption) ?_
  refine wp_aload_n dX11_readActor_4 rfl ?_
  refine m_getI dX11_readActor_5 flRX11_165 (by first | rfl | assumption) (by decide) ?_
  rw [m_q]
  refine wp_aload_n dX11_readActor_8 rfl ?_
  refine wp_iload_n dX11_readActor_9 rfl ?_
  refine g_callV1 (mj := mX11_here) dX11_readActor_10 lkRX11_157 mkX11_here (by first | rfl | assumption) (by decide) (by decide) (Nat.le_of_ble_eq_true rfl) (c_here hP_q (by omega) ?_)
  refine g_callS1 (mj := mX11_kindBy) dX11_readActor_13 lkRX11_181 mkX11_kindBy (by decide) (by decide) (Nat.le_of_ble_eq_true rfl) (c_kindBy ?_)
  refine m_iast dX11_readActor_16 rfl rfl (by omega) (by decide) (by decide) ?_
  refine wp_aload_n dX11_readActor_17 rfl ?_
  refine wp_getA (by first | rfl | assumption) dX11_readActor_18 flRX11_62 (by first | rfl | assumption) ?_
  refine wp_aload_n dX11_readActor_21 rfl ?_
  refine m_getI dX11_readActor_22 flRX11_165 (by first | rfl | assumption) (by decide) ?_
  rw [uI_ne (by decide), m_q]
  refine m_iald dX11_readActor_25 rfl rfl (by omega) (by decide) (by decide) ?_
  rw [uI_self]
  refine wp_iconst (-1) dX11_readActor_26 (by decide) ?_
  refine wp_icmp_ne dX11_readActor_27 (fun h27 => ?_) (fun h27 => ?_)
  · skip
    obtain ⟨kc, hkc_q, ekc_q⟩ := (kdO_r (hr S p x)).resolve_left (by first | exact h27 | exact fun q => h27 q)
    have hxp_q : x < p := by rcases Nat.lt_or_ge x p with q | q; exact q; (rw [hr_ge (by omega)] at h27; exact absurd rfl h27)
    have ea_q : aTk I0 (S 143 x) = some (uI (uI (uI (uI I0 7 a (nI kc)) 8 a 0) 6 6 (nI a + 1)) 5 1 1) := by rw [aTk_0 hd_q, ← hr_lt (S := S) hxp_q, if_neg (by first | exact h27 | exact fun q => h27 q), h6_q, tn_nI (by omega), ekc_q]
    rw [ekc_q]
    refine wp_aload_n dX11_readActor_36 rfl ?_
    refine wp_getA (by first | rfl | assumption) dX11_readActor_37 flRX11_65 (by first | rfl | assumption) ?_
    refine wp_aload_n dX11_readActor_40 rfl ?_
    refine m_getI dX11_readActor_41 flRX11_165 (by first | rfl | assumption) (by decide) ?_
    rw [uI_ne (by decide), m_q]
    refine wp_iconst 0 dX11_readActor_44 (by decide) ?_
    refine m_iast dX11_readActor_45 rfl rfl (by omega) (by decide) (by decide) ?_
    refine wp_iload_n dX11_readActor_46 rfl ?_
    refine wp_iconst 1 dX11_readActor_47 (by decide) ?_
    refine wp_iadd dX11_readActor_48 ?_
    rw [nI_1]
    refine st_i_3_2 dX11_readActor_49 (by decide) rfl ?_
    have hk2_q : kpR S (uI (uI S 144 a (nI kc)) 145 a 0) := (kpR.rf.st (by omega)).st (by omega)
    refine wp_aload_n dX11_readActor_50 rfl ?_
    refine wp_iload_n dX11_readActor_51 rfl ?_
    refine g_callV1 (mj := mX11_here) dX11_readActor_52 lkRX11_157 mkX11_here (by first | rfl | assumption) (by decide) (by decide) (Nat.le_of_ble_eq_true rfl) (c_here (hk2_q.pg hP_q) (by omega) ?_)
    rw [hr_k hk2_q]
    refine g_callS1 (mj := mX11_isStepSign) dX11_readActor_55 lkRX11_184 mkX11_isStepSign (by decide) (by decide) (Nat.le_of_ble_eq_true rfl) (c_isSS (fun ss hss0_q => ?_))
    refine wp_if_ne dX11_readActor_58 (fun h58 => ?_) (fun h58 => ?_)
    · skip
      have hss_q := (hss0_q.resolve_right (fun q => h58 q.1)).2
      refine l_rdA hP_q ha6_q k (x + 1) _ ⟨by omega, (isSS_lt hss_q).1 |> Nat.le_of_lt⟩ hk2_q (Or.inr ⟨_, 0, Sgo.step hxp_q ea_q, hR_q.new ha6_q hkc_q, ?_, ?_, by omega, Or.inl ⟨uI_self _ _ _ _, rfl, hss_q⟩⟩)
      · rw [uI_ne (by decide), uI_ne (by decide)]; exact hM_q.new
      · rw [uI_ne (by decide), uI_ne (by decide), uI_self]; rfl
    · skip
      refine wp_aload_n dX11_readActor_61 rfl ?_
      refine wp_iload_n dX11_readActor_62 rfl ?_
      refine g_callV1 (mj := mX11_broken) dX11_readActor_63 lkRX11_171 mkX11_broken (by first | rfl | assumption) (by decide) (by decide) (Nat.le_of_ble_eq_true rfl) (c_broken ?_)
      refine g_iret dX11_readActor_66 rfl ?_
      have hns_q := (hss0_q.resolve_left (fun q => by rw [q.1] at h58; first | exact h58 (by decide) | exact absurd h58 (by decide))).2
      refine k (x + 1) _ (hk2_q.st (by omega)) ⟨by omega, Or.inl ⟨uI_self _ _ _ _, (Sgo.step hxp_q ea_q).bad (Bad.stop (by omega) (fun hk_q => ?_) (fun _ => by rw [uI_self]; decide))⟩⟩
      rw [hr_lt hk_q] at hns_q
      rw [aTk_1 (uI_self _ _ _ _), aSt_ss hns_q]
  · skip
    refine wp_aload_n dX11_readActor_30 rfl ?_
    refine wp_iload_n dX11_readActor_31 rfl ?_
    refine g_callV1 (mj := mX11_broken) dX11_readActor_32 lkRX11_171 mkX11_broken (by first | rfl | assumption) (by decide) (by decide) (Nat.le_of_ble_eq_true rfl) (c_broken ?_)
    refine g_iret dX11_readActor_35 rfl ?_
    refine k x _ ((kpR.rf.st (by omega)).st (by omega)) ⟨Nat.le_refl _, Or.inl ⟨uI_self _ _ _ _, Bad.stop hx_q (fun hk_q => ?_) (fun _ => by rw [hd_q]; decide)⟩⟩
    rw [aTk_0 hd_q, ← hr_lt (S := S) hk_q, if_pos (by first | exact h27 | exact Classical.not_not.mp h27)]
def tld (S : Mem) (x y : Int32) (j : Nat) : Prop := x = y ∨ ∃ i, i < j ∧ ((S 147 i = x ∧ S 148 i = y) ∨ (S 147 i = y ∧ S 148 i = x))
theorem tld_s {S : Mem} {x y : Int32} {j : Nat} : tld S x y (j + 1) ↔ tld S x y j ∨ ((S 147 j = x ∧ S 148 j = y) ∨ (S 147 j = y ∧ S 148 j = x)) := by
  unfold tld
  constructor
  · rintro (h | ⟨i, h1, h2⟩)
    · exact Or.inl (Or.inl h)
    · by_cases e : i = j
      · subst e; exact Or.inr h2
      · exact Or.inl (Or.inr ⟨i, by omega, h2⟩)
  · rintro ((h | ⟨i, h1, h2⟩) | h)
    · exact Or.inl h
    · exact Or.inr ⟨i, by omega, h2⟩
    · exact Or.inr ⟨j, by omega, h⟩
set_option maxHeartbeats 4000000 in
theorem l_told {I S : Mem} {J : Mel} {Q : Option Value → Mem → Mem → Mel → Prop} {x y : Int32} {l : Nat} (hl_q : S 126 28 = nI l) (hl6_q : l ≤ 6) (k : ∀ r, (r = 1 ∧ tld S x y l) ∨ (r = 0 ∧ ¬ tld S x y l) → Q (some (.int r)) I S J) : ∀ (j : Nat) (r : Int32), (j ≤ l) → ((r = 1 ∧ tld S x y j) ∨ (r = 0 ∧ ¬ tld S x y j)) → W2 mX11_isTold 1 Q I S J 14 [.ref 126, .int x, .int y, .int r, .int (nI j)] [] := by
  intro j r
  induction hm : l - j using Nat.strongRecOn generalizing j r with
  | _ c ih =>
    intro hj_q hr_q
    have rb_q : r = 0 ∨ r = 1 := hr_q.elim (fun q => Or.inr q.1) (fun q => Or.inl q.1)
    refine wp_iload dX11_isTold_14 rfl ?_
    refine wp_aload_n dX11_isTold_16 rfl ?_
    refine m_getI dX11_isTold_17 flRX11_191 (by first | rfl | assumption) (by decide) ?_
    refine wp_icmp_ge dX11_isTold_20 (fun h20 => ?_) (fun h20 => ?_)
    · skip
      refine wp_iload_n dX11_isTold_83 rfl ?_
      refine g_zret dX11_isTold_84 rfl (by first | decide | assumption) ?_
      have e_q : j = l := by rw [hl_q, nI_leg (by omega) (by omega)] at h20; omega
      subst e_q; exact k r hr_q
    · skip
      have hj2_q : j < l := by rw [hl_q, nI_leg (by omega) (by omega)] at h20; omega
      refine wp_iload_n dX11_isTold_23 rfl ?_
      refine wp_if_ne dX11_isTold_24 (fun h24 => ?_) (fun h24 => ?_)
      · skip
        refine wp_iconst 1 dX11_isTold_71 (by decide) ?_
        refine wp_goto dX11_isTold_72 ?_
        refine st_i_5_3 dX11_isTold_76 (by decide) rfl ?_
        refine ic_5_4 (nI (j + 1)) dX11_isTold_77 (nI_inc j) (by decide) rfl ?_
        refine wp_goto dX11_isTold_80 ?_
        refine ih _ (by omega) (j + 1) _ rfl (by omega) ?_
        rw [tld_s]
        first
        | (refine Or.inl ⟨rfl, Or.inl (hr_q.resolve_right (fun q => h24 q.1)).2⟩; done)
        | (refine Or.inl ⟨rfl, Or.inr ?_⟩; grind)
        | (have hn_q := (hr_q.resolve_left (fun q => by rw [q.1] at h24; first | exact h24 (by decide) | exact absurd h24 (by decide))).2; refine Or.inr ⟨rfl, fun q => q.elim hn_q (fun q => ?_)⟩; grind)
      · skip
        refine wp_aload_n dX11_isTold_27 rfl ?_
        refine wp_getA (by first | rfl | assumption) dX11_isTold_28 flRX11_71 (by first | rfl | assumption) ?_
        refine wp_iload dX11_isTold_31 rfl ?_
        refine m_iald dX11_isTold_33 rfl rfl (by omega) (by decide) (by decide) ?_
        refine wp_iload_n dX11_isTold_34 rfl ?_
        refine wp_icmp_ne dX11_isTold_35 (fun h35 => ?_) (fun h35 => ?_)
        · skip
          refine wp_aload_n dX11_isTold_49 rfl ?_
          refine wp_getA (by first | rfl | assumption) dX11_isTold_50 flRX11_71 (by first | rfl | assumption) ?_
          refine wp_iload dX11_isTold_53 rfl ?_
          refine m_iald dX11_isTold_55 rfl rfl (by omega) (by decide) (by decide) ?_
          refine wp_iload_n dX11_isTold_56 rfl ?_
          refine wp_icmp_ne dX11_isTold_57 (fun h57 => ?_) (fun h57 => ?_)
          · skip
            refine wp_iconst 0 dX11_isTold_75 (by decide) ?_
            refine st_i_5_3 dX11_isTold_76 (by decide) rfl ?_
            refine ic_5_4 (nI (j + 1)) dX11_isTold_77 (nI_inc j) (by decide) rfl ?_
            refine wp_goto dX11_isTold_80 ?_
            refine ih _ (by omega) (j + 1) _ rfl (by omega) ?_
            rw [tld_s]
            first
            | (refine Or.inl ⟨rfl, Or.inl (hr_q.resolve_right (fun q => h24 q.1)).2⟩; done)
            | (refine Or.inl ⟨rfl, Or.inr ?_⟩; grind)
            | (have hn_q := (hr_q.resolve_left (fun q => by rw [q.1] at h24; first | exact h24 (by decide) | exact absurd h24 (by decide))).2; refine Or.inr ⟨rfl, fun q => q.elim hn_q (fun q => ?_)⟩; grind)
          · skip
            refine wp_aload_n dX11_isTold_60 rfl ?_
            refine wp_getA (by first | rfl | assumption) dX11_isTold_61 flRX11_74 (by first | rfl | assumption) ?_
            refine wp_iload dX11_isTold_64 rfl ?_
            refine m_iald dX11_isTold_66 rfl rfl (by omega) (by decide) (by decide) ?_
            refine wp_iload_n dX11_isTold_67 rfl ?_
            refine wp_icmp_ne dX11_isTold_68 (fun h68 => ?_) (fun h68 => ?_)
            · skip
              refine wp_iconst 0 dX11_isTold_75 (by decide) ?_
              refine st_i_5_3 dX11_isTold_76 (by decide) rfl ?_
              refine ic_5_4 (nI (j + 1)) dX11_isTold_77 (nI_inc j) (by decide) rfl ?_
              refine wp_goto dX11_isTold_80 ?_
              refine ih _ (by omega) (j + 1) _ rfl (by omega) ?_
              rw [tld_s]
              first
              | (refine Or.inl ⟨rfl, Or.inl (hr_q.resolve_right (fun q => h24 q.1)).2⟩; done)
              | (refine Or.inl ⟨rfl, Or.inr ?_⟩; grind)
              | (have hn_q := (hr_q.resolve_left (fun q => by rw [q.1] at h24; first | exact h24 (by decide) | exact absurd h24 (by decide))).2; refine Or.inr ⟨rfl, fun q => q.elim hn_q (fun q => ?_)⟩; grind)
            · skip
              refine wp_iconst 1 dX11_isTold_71 (by decide) ?_
              refine wp_goto dX11_isTold_72 ?_
              refine st_i_5_3 dX11_isTold_76 (by decide) rfl ?_
              refine ic_5_4 (nI (j + 1)) dX11_isTold_77 (nI_inc j) (by decide) rfl ?_
              refine wp_goto dX11_isTold_80 ?_
              refine ih _ (by omega) (j + 1) _ rfl (by omega) ?_
              rw [tld_s]
              first
              | (refine Or.inl ⟨rfl, Or.inl (hr_q.resolve_right (fun q => h24 q.1)).2⟩; done)
              | (refine Or.inl ⟨rfl, Or.inr ?_⟩; grind)
              | (have hn_q := (hr_q.resolve_left (fun q => by rw [q.1] at h24; first | exact h24 (by decide) | exact absurd h24 (by decide))).2; refine Or.inr ⟨rfl, fun q => q.elim hn_q (fun q => ?_)⟩; grind)
        · skip
          refine wp_aload_n dX11_isTold_38 rfl ?_
          refine wp_getA (by first | rfl | assumption) dX11_isTold_39 flRX11_74 (by first | rfl | assumption) ?_
          refine wp_iload dX11_isTold_42 rfl ?_
          refine m_iald dX11_isTold_44 rfl rfl (by omega) (by decide) (by decide) ?_
          refine wp_iload_n dX11_isTold_45 rfl ?_
          refine wp_icmp_eq dX11_isTold_46 (fun h46 => ?_) (fun h46 => ?_)
          · skip
            refine wp_iconst 1 dX11_isTold_71 (by decide) ?_
            refine wp_goto dX11_isTold_72 ?_
            refine st_i_5_3 dX11_isTold_76 (by decide) rfl ?_
            refine ic_5_4 (nI (j + 1)) dX11_isTold_77 (nI_inc j) (by decide) rfl ?_
            refine wp_goto dX11_isTold_80 ?_
            refine ih _ (by omega) (j + 1) _ rfl (by omega) ?_
            rw [tld_s]
            first
            | (refine Or.inl ⟨rfl, Or.inl (hr_q.resolve_right (fun q => h24 q.1)).2⟩; done)
            | (refine Or.inl ⟨rfl, Or.inr ?_⟩; grind)
            | (have hn_q := (hr_q.resolve_left (fun q => by rw [q.1] at h24; first | exact h24 (by decide) | exact absurd h24 (by decide))).2; refine Or.inr ⟨rfl, fun q => q.elim hn_q (fun q => ?_)⟩; grind)
          · skip
            refine wp_aload_n dX11_isTold_49 rfl ?_
            refine wp_getA (by first | rfl | assumption) dX11_isTold_50 flRX11_71 (by first | rfl | assumption) ?_
            refine wp_iload dX11_isTold_53 rfl ?_
            refine m_iald dX11_isTold_55 rfl rfl (by omega) (by decide) (by decide) ?_
            refine wp_iload_n dX11_isTold_56 rfl ?_
            refine wp_icmp_ne dX11_isTold_57 (fun h57 => ?_) (fun h57 => ?_)
            · skip
              refine wp_iconst 0 dX11_isTold_75 (by decide) ?_
              refine st_i_5_3 dX11_isTold_76 (by decide) rfl ?_
              refine ic_5_4 (nI (j + 1)) dX11_isTold_77 (nI_inc j) (by decide) rfl ?_
              refine wp_goto dX11_isTold_80 ?_
              refine ih _ (by omega) (j + 1) _ rfl (by omega) ?_
              rw [tld_s]
              first
              | (refine Or.inl ⟨rfl, Or.inl (hr_q.resolve_right (fun q => h24 q.1)).2⟩; done)
              | (refine Or.inl ⟨rfl, Or.inr ?_⟩; grind)
              | (have hn_q := (hr_q.resolve_left (fun q => by rw [q.1] at h24; first | exact h24 (by decide) | exact absurd h24 (by decide))).2; refine Or.inr ⟨rfl, fun q => q.elim hn_q (fun q => ?_)⟩; grind)
            · skip
              refine wp_aload_n dX11_isTold_60 rfl ?_
              refine wp_getA (by first | rfl | assumption) dX11_isTold_61 flRX11_74 (by first | rfl | assumption) ?_
              refine wp_iload dX11_isTold_64 rfl ?_
              refine m_iald dX11_isTold_66 rfl rfl (by omega) (by decide) (by decide) ?_
              refine wp_iload_n dX11_isTold_67 rfl ?_
              refine wp_icmp_ne dX11_isTold_68 (fun h68 => ?_) (fun h68 => ?_)
              · skip
                refine wp_iconst 0 dX11_isTold_75 (by decide) ?_
                refine st_i_5_3 dX11_isTold_76 (by decide) rfl ?_
                refine ic_5_4 (nI (j + 1)) dX11_isTold_77 (nI_inc j) (by decide) rfl ?_
                refine wp_goto dX11_isTold_80 ?_
                refine ih _ (by omega) (j + 1) _ rfl (by omega) ?_
                rw [tld_s]
                first
                | (refine Or.inl ⟨rfl, Or.inl (hr_q.resolve_right (fun q => h24 q.1)).2⟩; done)
                | (refine Or.inl ⟨rfl, Or.inr ?_⟩; grind)
                | (have hn_q := (hr_q.resolve_left (fun q => by rw [q.1] at h24; first | exact h24 (by decide) | exact absurd h24 (by decide))).2; refine Or.inr ⟨rfl, fun q => q.elim hn_q (fun q => ?_)⟩; grind)
              · skip
                refine wp_iconst 1 dX11_isTold_71 (by decide) ?_
                refine wp_goto dX11_isTold_72 ?_
                refine st_i_5_3 dX11_isTold_76 (by decide) rfl ?_
                refine ic_5_4 (nI (j + 1)) dX11_isTold_77 (nI_inc j) (by decide) rfl ?_
                refine wp_goto dX11_isTold_80 ?_
                refine ih _ (by omega) (j + 1) _ rfl (by omega) ?_
                rw [tld_s]
                first
                | (refine Or.inl ⟨rfl, Or.inl (hr_q.resolve_right (fun q => h24 q.1)).2⟩; done)
                | (refine Or.inl ⟨rfl, Or.inr ?_⟩; grind)
                | (have hn_q := (hr_q.resolve_left (fun q => by rw [q.1] at h24; first | exact h24 (by decide) | exact absurd h24 (by decide))).2; refine Or.inr ⟨rfl, fun q => q.elim hn_q (fun q => ?_)⟩; grind)
set_option maxHeartbeats 4000000 in
theorem c_told {I S : Mem} {J : Mel} {Q : Option Value → Mem → Mem → Mel → Prop} {x y : Int32} {l : Nat} (hl_q : S 126 28 = nI l) (hl6_q : l ≤ 6) (k : ∀ r, (r = 1 ∧ tld S x y l) ∨ (r = 0 ∧ ¬ tld S x y l) → Q (some (.int r)) I S J) : M2 mX11_isTold 1 [.ref 126, .int x, .int y] I S J Q := by
  refine m2_of [.ref 126, .int x, .int y, dum, dum] moX11_isTold (Nat.le_of_ble_eq_true rfl) rfl ?_
  refine wp_iload_n dX11_isTold_0 rfl ?_
  refine wp_iload_n dX11_isTold_1 rfl ?_
  refine wp_icmp_ne dX11_isTold_2 (fun h2 => ?_) (fun h2 => ?_)
  · skip
    refine wp_iconst 0 dX11_isTold_9 (by decide) ?_
    refine st_i_5_3 dX11_isTold_10 (by decide) rfl ?_
    refine wp_iconst 0 dX11_isTold_11 (by decide) ?_
    refine st_i_5_4 dX11_isTold_12 (by decide) rfl ?_
    refine l_told hl_q hl6_q k 0 _ (by omega) ?_
    first
    | exact Or.inl ⟨rfl, Or.inl (by first | exact h2 | exact Classical.not_not.mp h2)⟩
    | exact Or.inr ⟨rfl, fun q => q.elim h2 (fun q => by obtain ⟨i, q1, -⟩ := q; omega)⟩
  · skip
    refine wp_iconst 1 dX11_isTold_5 (by decide) ?_
    refine wp_goto dX11_isTold_6 ?_
    refine st_i_5_3 dX11_isTold_10 (by decide) rfl ?_
    refine wp_iconst 0 dX11_isTold_11 (by decide) ?_
    refine st_i_5_4 dX11_isTold_12 (by decide) rfl ?_
    refine l_told hl_q hl6_q k 0 _ (by omega) ?_
    first
    | exact Or.inl ⟨rfl, Or.inl (by first | exact h2 | exact Classical.not_not.mp h2)⟩
    | exact Or.inr ⟨rfl, fun q => q.elim h2 (fun q => by obtain ⟨i, q1, -⟩ := q; omega)⟩
