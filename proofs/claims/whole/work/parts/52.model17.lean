def kpQ (S S' : Mem) : Prop := (∀ b, b ≠ 126 → (b < 144 ∨ 148 < b) → S' b = S b) ∧ ∀ j, (j < 25 ∨ 29 < j) → S' 126 j = S 126 j
theorem kpR.q {S S' : Mem} (h : kpR S S') : kpQ S S' := ⟨h.1, fun j hj => h.2 j (by omega)⟩
theorem kpQ.rf {S : Mem} : kpQ S S := ⟨fun _ _ _ => rfl, fun _ _ => rfl⟩
theorem kpQ.tr {S S' S2 : Mem} (h : kpQ S S') (h2 : kpQ S' S2) : kpQ S S2 := ⟨fun b h3 h4 => (h2.1 b h3 h4).trans (h.1 b h3 h4), fun j h3 => (h2.2 j h3).trans (h.2 j h3)⟩
theorem kpQ.st {S S' : Mem} {j : Nat} {x : Int32} (h : kpQ S S') (ha : 25 ≤ j ∧ j ≤ 29) : kpQ S (uI S' 126 j x) :=
  ⟨fun b h3 h4 => by rw [uI_ne h3]; exact h.1 b h3 h4, fun q h3 => by rw [uI_ap, if_neg (by omega)]; exact h.2 q h3⟩
def RDO (P : Nat → Int32) (S' : Mem) (p : Nat) (I0 : Mem) (r : Nat) : Prop := (S' 126 25 = 0 ∧ Bad P p 0 I0 r) ∨ (S' 126 25 = 1 ∧ r = p ∧ ∃ a l I2, 1 ≤ a ∧ Sgo P p 0 I0 p I2 ∧ (I2 5 1 = 6 ∨ I2 5 1 = 9) ∧ RM a a l I2 S' ∧ MS a I2 (S' 126 29))
theorem RDO.run {P : Nat → Int32} {S' I0 : Mem} {p r : Nat} (h : RDO P S' p I0 r) : (aRun P p 0 I0).1 = r := by
  rcases h with ⟨-, h⟩ | ⟨-, rfl, a, l, I2, -, h, -⟩
  · exact h.2.1
  · have := h.2; rw [Nat.sub_self] at this; rw [show r = r - 0 from rfl, this]; rfl
set_option maxHeartbeats 4000000 in
theorem r_141 {I S S3 : Mem} {J : Mel} {Q : Option Value → Mem → Mem → Mel → Prop} {p : Nat} {I0 : Mem} (hP_q : PG S p) (hw_q : S 126 25 = 0) {y : Nat} (hk_q : kpR S S3) (hy_q : y ≤ p) (hI_q : (S3 126 26 = 1 ∧ Bad (S 143) p 0 I0 y) ∨ (∃ I2 a l, 1 ≤ a ∧ Sgo (S 143) p 0 I0 y I2 ∧ RM a a l I2 S3 ∧ MS a I2 (S3 126 29) ∧ (I2 5 1 = 6 ∨ I2 5 1 = 9) ∧ (y < p → aTk I2 (S 143 y) = none))) (k : ∀ (r : Nat) (S' : Mem), kpQ S S' → RDO (S 143) S' p I0 r → Q (some (.int (nI r))) I S' J) : W2 mX11_read 5 Q I S3 J 141 [.ref 126, .int (nI y)] [] := by
  have p84_q := hP_q.2.1
  have hp3_q : S3 126 23 = nI p := (hk_q.pg hP_q).1
  refine wp_aload_n dX11_read_141 rfl ?_
  refine wp_aload_n dX11_read_142 rfl ?_
  refine m_getZ dX11_read_143 flRX11_161 (by first | rfl | assumption) (by decide) ?_
  refine wp_if_ne dX11_read_146 (fun h146 => ?_) (fun h146 => ?_)
  · skip
    refine wp_iconst 0 dX11_read_161 (by decide) ?_
    refine m_putZ dX11_read_162 flRX11_198 (by first | rfl | assumption) (by first | decide | assumption) (by decide) ?_
    refine wp_iload_n dX11_read_165 rfl ?_
    refine g_iret dX11_read_166 rfl ?_
    first
    | (obtain ⟨I2, a, l, g0_q, g1_q, g2_q, g3_q, g4_q, g5_q⟩ := hI_q.resolve_left (fun q => by rw [q.1] at h146; first | exact h146 (by decide) | exact absurd h146 (by decide)); have hyp_q : ¬ y = p := fun e => h154 (by rw [e, hp3_q]); exact k y _ (hk_q.q.st (by omega)) (Or.inl ⟨uI_self _ _ _ _, g1_q.bad (Bad.stop hy_q g5_q (fun e => absurd e hyp_q))⟩))
    | (obtain ⟨I2, a, l, g0_q, g1_q, g2_q, g3_q, g4_q, g5_q⟩ := hI_q.resolve_left (fun q => by rw [q.1] at h146; first | exact h146 (by decide) | exact absurd h146 (by decide)); have hyp_q : y = p := (by have e_q : nI y = S3 126 23 := (by first | exact h154 | exact Classical.not_not.mp h154); rw [hp3_q, nI_eqg (by omega) (by omega)] at e_q; exact e_q); subst hyp_q; refine k y _ (hk_q.q.st (by omega)) (Or.inr ⟨uI_self _ _ _ _, rfl, a, l, I2, g0_q, g1_q, g4_q, g2_q.cg (fun _ _ _ => rfl) (fun b _ _ => uI_ne (by omega)) ?_ ?_ ?_, ?_⟩) <;> first | (rw [uI_ap, if_neg (by decide)]; done) | (rw [uI_ap, if_neg (by decide)]; exact g3_q))
    | (rcases hI_q with q | ⟨I2, a, l, g0_q, g1_q, g2_q, -⟩; exact k y _ (hk_q.q.st (by omega)) (Or.inl ⟨uI_self _ _ _ _, q.2⟩); (rw [g2_q.2.2.2.2.2] at h146; exact absurd rfl h146))
  · skip
    refine wp_iload_n dX11_read_149 rfl ?_
    refine wp_aload_n dX11_read_150 rfl ?_
    refine m_getI dX11_read_151 flRX11_153 (by first | rfl | assumption) (by decide) ?_
    refine wp_icmp_ne dX11_read_154 (fun h154 => ?_) (fun h154 => ?_)
    · skip
      refine wp_iconst 0 dX11_read_161 (by decide) ?_
      refine m_putZ dX11_read_162 flRX11_198 (by first | rfl | assumption) (by first | decide | assumption) (by decide) ?_
      refine wp_iload_n dX11_read_165 rfl ?_
      refine g_iret dX11_read_166 rfl ?_
      first
      | (obtain ⟨I2, a, l, g0_q, g1_q, g2_q, g3_q, g4_q, g5_q⟩ := hI_q.resolve_left (fun q => by rw [q.1] at h146; first | exact h146 (by decide) | exact absurd h146 (by decide)); have hyp_q : ¬ y = p := fun e => h154 (by rw [e, hp3_q]); exact k y _ (hk_q.q.st (by omega)) (Or.inl ⟨uI_self _ _ _ _, g1_q.bad (Bad.stop hy_q g5_q (fun e => absurd e hyp_q))⟩))
      | (obtain ⟨I2, a, l, g0_q, g1_q, g2_q, g3_q, g4_q, g5_q⟩ := hI_q.resolve_left (fun q => by rw [q.1] at h146; first | exact h146 (by decide) | exact absurd h146 (by decide)); have hyp_q : y = p := (by have e_q : nI y = S3 126 23 := (by first | exact h154 | exact Classical.not_not.mp h154); rw [hp3_q, nI_eqg (by omega) (by omega)] at e_q; exact e_q); subst hyp_q; refine k y _ (hk_q.q.st (by omega)) (Or.inr ⟨uI_self _ _ _ _, rfl, a, l, I2, g0_q, g1_q, g4_q, g2_q.cg (fun _ _ _ => rfl) (fun b _ _ => uI_ne (by omega)) ?_ ?_ ?_, ?_⟩) <;> first | (rw [uI_ap, if_neg (by decide)]; done) | (rw [uI_ap, if_neg (by decide)]; exact g3_q))
      | (rcases hI_q with q | ⟨I2, a, l, g0_q, g1_q, g2_q, -⟩; exact k y _ (hk_q.q.st (by omega)) (Or.inl ⟨uI_self _ _ _ _, q.2⟩); (rw [g2_q.2.2.2.2.2] at h146; exact absurd rfl h146))
    · skip
      refine wp_iconst 1 dX11_read_157 (by decide) ?_
      refine wp_goto dX11_read_158 ?_
      refine m_putZ dX11_read_162 flRX11_198 (by first | rfl | assumption) (by first | decide | assumption) (by decide) ?_
      refine wp_iload_n dX11_read_165 rfl ?_
      refine g_iret dX11_read_166 rfl ?_
      first
      | (obtain ⟨I2, a, l, g0_q, g1_q, g2_q, g3_q, g4_q, g5_q⟩ := hI_q.resolve_left (fun q => by rw [q.1] at h146; first | exact h146 (by decide) | exact absurd h146 (by decide)); have hyp_q : ¬ y = p := fun e => h154 (by rw [e, hp3_q]); exact k y _ (hk_q.q.st (by omega)) (Or.inl ⟨uI_self _ _ _ _, g1_q.bad (Bad.stop hy_q g5_q (fun e => absurd e hyp_q))⟩))
      | (obtain ⟨I2, a, l, g0_q, g1_q, g2_q, g3_q, g4_q, g5_q⟩ := hI_q.resolve_left (fun q => by rw [q.1] at h146; first | exact h146 (by decide) | exact absurd h146 (by decide)); have hyp_q : y = p := (by have e_q : nI y = S3 126 23 := (by first | exact h154 | exact Classical.not_not.mp h154); rw [hp3_q, nI_eqg (by omega) (by omega)] at e_q; exact e_q); subst hyp_q; refine k y _ (hk_q.q.st (by omega)) (Or.inr ⟨uI_self _ _ _ _, rfl, a, l, I2, g0_q, g1_q, g4_q, g2_q.cg (fun _ _ _ => rfl) (fun b _ _ => uI_ne (by omega)) ?_ ?_ ?_, ?_⟩) <;> first | (rw [uI_ap, if_neg (by decide)]; done) | (rw [uI_ap, if_neg (by decide)]; exact g3_q))
      | (rcases hI_q with q | ⟨I2, a, l, g0_q, g1_q, g2_q, -⟩; exact k y _ (hk_q.q.st (by omega)) (Or.inl ⟨uI_self _ _ _ _, q.2⟩); (rw [g2_q.2.2.2.2.2] at h146; exact absurd rfl h146))
set_option maxHeartbeats 4000000 in
theorem l_rdL {I S : Mem} {J : Mel} {Q : Option Value → Mem → Mem → Mel → Prop} {p : Nat} {I0 : Mem} (hP_q : PG S p) (hw_q : S 126 25 = 0) (k : ∀ (r : Nat) (S' : Mem), kpQ S S' → RDO (S 143) S' p I0 r → Q (some (.int (nI r))) I S' J) : ∀ (y : Nat) (S2 : Mem), (y ≤ p) → (kpR S S2) → ((S2 126 26 = 1 ∧ Bad (S 143) p 0 I0 y) ∨ (∃ I2 a l, 1 ≤ a ∧ Sgo (S 143) p 0 I0 y I2 ∧ RM a a l I2 S2 ∧ MS a I2 (S2 126 29) ∧ I2 5 1 = 9)) → W2 mX11_read 5 Q I S2 J 104 [.ref 126, .int (nI y)] [] := by
  intro y S2
  induction hm : p - y using Nat.strongRecOn generalizing y S2 with
  | _ c ih =>
    intro hy_q hk_q hI_q
    have p84_q := hP_q.2.1
    refine wp_aload_n dX11_read_104 rfl ?_
    refine m_getZ dX11_read_105 flRX11_161 (by first | rfl | assumption) (by decide) ?_
    refine wp_if_ne dX11_read_108 (fun h108 => ?_) (fun h108 => ?_)
    · skip
      refine r_141 hP_q hw_q hk_q hy_q ?_ k
      first
      | (refine Or.inr ⟨I2, a, l, g0_q, g1_q, g2_q, g3_q, Or.inr g4_q, fun hk2_q => ?_⟩; rw [aTk_9 g4_q, if_neg (fun q => q.2 (by rw [g2_q.2.2.2.2.1.2.1]; exact h117))])
      | (refine Or.inr ⟨I2, a, l, g0_q, g1_q, g2_q, g3_q, Or.inr g4_q, fun hk2_q => ?_⟩; rw [hr_lt hk2_q] at h127; rw [aTk_9 g4_q, if_neg (fun q => h127 q.1)])
      | (rcases hI_q with q | ⟨I2, a, l, g0_q, g1_q, g2_q, -⟩; exact Or.inl q; (rw [g2_q.2.2.2.2.2] at h108; exact absurd rfl h108))
    · skip
      obtain ⟨I2, a, l, g0_q, g1_q, g2_q, g3_q, g4_q⟩ := hI_q.resolve_left (fun q => by rw [q.1] at h108; first | exact h108 (by decide) | exact absurd h108 (by decide))
      have a6_q := g2_q.1
      have l6_q := g2_q.2.2.2.2.1.1
      refine wp_aload_n dX11_read_111 rfl ?_
      refine m_getI dX11_read_112 flRX11_191 (by first | rfl | assumption) (by decide) ?_
      rw [g2_q.2.2.2.2.1.2.2.1]
      refine wp_bipush 6 dX11_read_115 (by decide) ?_
      refine wp_icmp_ge dX11_read_117 (fun h117 => ?_) (fun h117 => ?_)
      · skip
        refine r_141 hP_q hw_q hk_q hy_q ?_ k
        first
        | (refine Or.inr ⟨I2, a, l, g0_q, g1_q, g2_q, g3_q, Or.inr g4_q, fun hk2_q => ?_⟩; rw [aTk_9 g4_q, if_neg (fun q => q.2 (by rw [g2_q.2.2.2.2.1.2.1]; exact h117))])
        | (refine Or.inr ⟨I2, a, l, g0_q, g1_q, g2_q, g3_q, Or.inr g4_q, fun hk2_q => ?_⟩; rw [hr_lt hk2_q] at h127; rw [aTk_9 g4_q, if_neg (fun q => h127 q.1)])
        | (rcases hI_q with q | ⟨I2, a, l, g0_q, g1_q, g2_q, -⟩; exact Or.inl q; (rw [g2_q.2.2.2.2.2] at h108; exact absurd rfl h108))
      · skip
        refine wp_aload_n dX11_read_120 rfl ?_
        refine wp_iload_n dX11_read_121 rfl ?_
        refine g_callV1 (mj := mX11_here) dX11_read_122 lkRX11_157 mkX11_here (by first | rfl | assumption) (by decide) (by decide) (Nat.le_of_ble_eq_true rfl) (c_here (hk_q.pg hP_q) (by omega) ?_)
        rw [hr_k hk_q]
        refine wp_bipush 44 dX11_read_125 (by decide) ?_
        refine wp_icmp_ne dX11_read_127 (fun h127 => ?_) (fun h127 => ?_)
        · skip
          refine r_141 hP_q hw_q hk_q hy_q ?_ k
          first
          | (refine Or.inr ⟨I2, a, l, g0_q, g1_q, g2_q, g3_q, Or.inr g4_q, fun hk2_q => ?_⟩; rw [aTk_9 g4_q, if_neg (fun q => q.2 (by rw [g2_q.2.2.2.2.1.2.1]; exact h117))])
          | (refine Or.inr ⟨I2, a, l, g0_q, g1_q, g2_q, g3_q, Or.inr g4_q, fun hk2_q => ?_⟩; rw [hr_lt hk2_q] at h127; rw [aTk_9 g4_q, if_neg (fun q => h127 q.1)])
          | (rcases hI_q with q | ⟨I2, a, l, g0_q, g1_q, g2_q, -⟩; exact Or.inl q; (rw [g2_q.2.2.2.2.2] at h108; exact absurd rfl h108))
        · skip
          have hl6_q : l < 6 := by rw [show (6 : Int32) = nI 6 from rfl, nI_leg (by omega) (by omega)] at h117; omega
          obtain ⟨hyp_q, ey_q⟩ := hr_in (S := S) (by first | exact h127 | exact Classical.not_not.mp h127) (by decide)
          have ea_q : aTk I2 (S 143 y) = some (uI I2 5 1 7) := by rw [aTk_9 g4_q, ey_q, if_pos ⟨rfl, by rw [g2_q.2.2.2.2.1.2.1, show (6 : Int32) = nI 6 from rfl, nI_leg (by omega) (by omega)]; omega⟩]
          refine wp_aload_n dX11_read_130 rfl ?_
          refine wp_iload_n dX11_read_131 rfl ?_
          refine wp_iconst 1 dX11_read_132 (by decide) ?_
          refine wp_iadd dX11_read_133 ?_
          rw [nI_1]
          refine g_callV1 (mj := mX11_readLink) dX11_read_134 lkRX11_204 mkX11_readLink (by first | rfl | assumption) (by decide) (by decide) (Nat.le_of_ble_eq_true rfl) (c_readLink (hk_q.pg hP_q) (g2_q.i5 (j := 1) (x := 7)) g3_q.i5 g0_q hl6_q (Or.inr ⟨uI_self _ _ _ _, by omega⟩) (fun r S3 hk3_q ho_q => ?_))
          refine st_i_2_1 dX11_read_137 (by decide) rfl ?_
          refine wp_goto dX11_read_138 ?_
          unfold RLO at ho_q
          rw [hk_q.pp] at ho_q
          obtain ⟨ho1_q, ho2_q⟩ := ho_q
          have hrp_q : r ≤ p := ho2_q.elim (fun q => q.2.1) (fun q => by obtain ⟨I3, q1, q2, -⟩ := q; exact q2.1)
          refine ih _ (by omega) r S3 rfl hrp_q (hk_q.tr hk3_q) ?_
          rcases ho2_q with ⟨q1, q2⟩ | ⟨I3, q1, q2, q3, q4, q5⟩
          · exact Or.inl ⟨q1, (g1_q.tr (Sgo.step hyp_q ea_q)).bad q2⟩
          · exact Or.inr ⟨I3, a, l + 1, g0_q, (g1_q.tr (Sgo.step hyp_q ea_q)).tr q2, q3, q4, q5⟩
set_option maxHeartbeats 4000000 in
theorem r_68 {I S S2 : Mem} {J : Mel} {Q : Option Value → Mem → Mem → Mel → Prop} {p : Nat} {I0 : Mem} (hP_q : PG S p) (hw_q : S 126 25 = 0) {y : Nat} (hk_q : kpR S S2) (hy_q : y ≤ p) (hI_q : (S2 126 26 = 1 ∧ Bad (S 143) p 0 I0 y) ∨ (∃ I2 c z, Sgo (S 143) p 0 I0 y I2 ∧ RM (c + 1) (c + 1) 0 I2 S2 ∧ MS (c + 1) I2 (S2 126 29) ∧ I2 5 1 = 5 ∧ I2 8 c = nI z ∧ z ≤ 3 ∧ (z = 3 ∨ ¬ isSS (hr S p y)) ∧ (c + 1 = 6 ∨ ¬ hr S p y = 44))) (k : ∀ (r : Nat) (S' : Mem), kpQ S S' → RDO (S 143) S' p I0 r → Q (some (.int (nI r))) I S' J) : W2 mX11_read 5 Q I S2 J 68 [.ref 126, .int (nI y)] [] := by
  have p84_q := hP_q.2.1
  refine wp_aload_n dX11_read_68 rfl ?_
  refine m_getZ dX11_read_69 flRX11_161 (by first | rfl | assumption) (by decide) ?_
  refine wp_if_ne dX11_read_72 (fun h72 => ?_) (fun h72 => ?_)
  · skip
    refine wp_iload_n dX11_read_85 rfl ?_
    refine g_iret dX11_read_86 rfl ?_
    refine k y S2 hk_q.q (Or.inl ⟨(hk_q.2 25 (by omega)).trans hw_q, ?_⟩)
    first
    | (refine g1_q.bad (Bad.stop hy_q (fun hk2_q => ?_) (fun _ => by rw [g4_q]; decide)); rw [hr_lt hk2_q] at h82 g7_q g8_q; rw [aTk_5 g4_q, if_neg h82]; by_cases e44_q : S 143 y = 44; (rw [if_pos e44_q, if_neg]; rw [g2_q.2.1, g8_q.resolve_right (fun q => q e44_q)]; decide); (rw [if_neg e44_q]; rcases g7_q with q | q; (rw [if_neg]; rw [g2_q.2.1, tn_nI (by omega), Nat.add_sub_cancel, g5_q, q]; decide); (rw [aSt_ss q]; split <;> rfl)))
    | (rcases hI_q with q | ⟨I2, c, z, g1_q, g2_q, -⟩; exact q.2; (rw [g2_q.2.2.2.2.2] at h72; exact absurd rfl h72))
  · skip
    obtain ⟨I2, c, z, g1_q, g2_q, g3_q, g4_q, g5_q, g6_q, g7_q, g8_q⟩ := hI_q.resolve_left (fun q => by rw [q.1] at h72; first | exact h72 (by decide) | exact absurd h72 (by decide))
    have a6_q := g2_q.1
    refine wp_aload_n dX11_read_75 rfl ?_
    refine wp_iload_n dX11_read_76 rfl ?_
    refine g_callV1 (mj := mX11_here) dX11_read_77 lkRX11_157 mkX11_here (by first | rfl | assumption) (by decide) (by decide) (Nat.le_of_ble_eq_true rfl) (c_here (hk_q.pg hP_q) (by omega) ?_)
    rw [hr_k hk_q]
    refine wp_bipush 59 dX11_read_80 (by decide) ?_
    refine wp_icmp_eq dX11_read_82 (fun h82 => ?_) (fun h82 => ?_)
    · skip
      obtain ⟨hyp_q, ey_q⟩ := hr_in (S := S) (by first | exact h82 | exact Classical.not_not.mp h82) (by decide)
      have ea_q : aTk I2 (S 143 y) = some (uI I2 5 1 6) := by rw [aTk_5 g4_q, ey_q, if_pos rfl]
      refine ic_2_1 (nI (y + 1)) dX11_read_87 (nI_inc y) (by decide) rfl ?_
      refine wp_iload_n dX11_read_90 rfl ?_
      refine wp_aload_n dX11_read_91 rfl ?_
      refine m_getI dX11_read_92 flRX11_153 (by first | rfl | assumption) (by decide) ?_
      rw [(hk_q.pg hP_q).1]
      refine wp_icmp_ge dX11_read_95 (fun h95 => ?_) (fun h95 => ?_)
      · skip
        rw [nI_leg (by omega) (by omega)] at h95
        exact r_141 hP_q hw_q hk_q (by omega) (Or.inr ⟨uI I2 5 1 6, c + 1, 0, by omega, g1_q.tr (Sgo.step hyp_q ea_q), g2_q.i5, g3_q.i5, Or.inl (uI_self _ _ _ _), fun q => by omega⟩) k
      · skip
        refine wp_aload_n dX11_read_98 rfl ?_
        refine wp_iload_n dX11_read_99 rfl ?_
        refine g_callV1 (mj := mX11_readLink) dX11_read_100 lkRX11_204 mkX11_readLink (by first | rfl | assumption) (by decide) (by decide) (Nat.le_of_ble_eq_true rfl) (c_readLink (hk_q.pg hP_q) (g2_q.i5 (j := 1) (x := 6)) g3_q.i5 (by omega) (by omega) (Or.inl ⟨uI_self _ _ _ _, by rw [nI_leg (by omega) (by omega)] at h95; omega⟩) (fun r S3 hk3_q ho_q => ?_))
        refine st_i_2_1 dX11_read_103 (by decide) rfl ?_
        unfold RLO at ho_q
        rw [hk_q.pp] at ho_q
        obtain ⟨ho1_q, ho2_q⟩ := ho_q
        have hrp_q : r ≤ p := ho2_q.elim (fun q => q.2.1) (fun q => by obtain ⟨I3, q1, q2, -⟩ := q; exact q2.1)
        refine l_rdL hP_q hw_q k r S3 hrp_q (hk_q.tr hk3_q) ?_
        rcases ho2_q with ⟨q1, q2⟩ | ⟨I3, q1, q2, q3, q4, q5⟩
        · exact Or.inl ⟨q1, (g1_q.tr (Sgo.step hyp_q ea_q)).bad q2⟩
        · exact Or.inr ⟨I3, c + 1, 0 + 1, by omega, (g1_q.tr (Sgo.step hyp_q ea_q)).tr q2, q3, q4, q5⟩
    · skip
      refine wp_iload_n dX11_read_85 rfl ?_
      refine g_iret dX11_read_86 rfl ?_
      refine k y S2 hk_q.q (Or.inl ⟨(hk_q.2 25 (by omega)).trans hw_q, ?_⟩)
      first
      | (refine g1_q.bad (Bad.stop hy_q (fun hk2_q => ?_) (fun _ => by rw [g4_q]; decide)); rw [hr_lt hk2_q] at h82 g7_q g8_q; rw [aTk_5 g4_q, if_neg h82]; by_cases e44_q : S 143 y = 44; (rw [if_pos e44_q, if_neg]; rw [g2_q.2.1, g8_q.resolve_right (fun q => q e44_q)]; decide); (rw [if_neg e44_q]; rcases g7_q with q | q; (rw [if_neg]; rw [g2_q.2.1, tn_nI (by omega), Nat.add_sub_cancel, g5_q, q]; decide); (rw [aSt_ss q]; split <;> rfl)))
      | (rcases hI_q with q | ⟨I2, c, z, g1_q, g2_q, -⟩; exact q.2; (rw [g2_q.2.2.2.2.2] at h72; exact absurd rfl h72))
set_option maxHeartbeats 4000000 in
theorem l_rdR {I S : Mem} {J : Mel} {Q : Option Value → Mem → Mem → Mel → Prop} {p : Nat} {I0 : Mem} (hP_q : PG S p) (hw_q : S 126 25 = 0) (k : ∀ (r : Nat) (S' : Mem), kpQ S S' → RDO (S 143) S' p I0 r → Q (some (.int (nI r))) I S' J) : ∀ (y : Nat) (S2 : Mem), (y ≤ p) → (kpR S S2) → ((S2 126 26 = 1 ∧ Bad (S 143) p 0 I0 y) ∨ (∃ I2 c z, Sgo (S 143) p 0 I0 y I2 ∧ RM (c + 1) (c + 1) 0 I2 S2 ∧ MS (c + 1) I2 (S2 126 29) ∧ I2 5 1 = 5 ∧ I2 8 c = nI z ∧ z ≤ 3 ∧ (z = 3 ∨ ¬ isSS (hr S p y)))) → W2 mX11_read 5 Q I S2 J 31 [.ref 126, .int (nI y)] [] := by
  intro y S2
  induction hm : p - y using Nat.strongRecOn generalizing y S2 with
  | _ c ih =>
    intro hy_q hk_q hI_q
    have p84_q := hP_q.2.1
    refine wp_aload_n dX11_read_31 rfl ?_
    refine m_getZ dX11_read_32 flRX11_161 (by first | rfl | assumption) (by decide) ?_
    refine wp_if_ne dX11_read_35 (fun h35 => ?_) (fun h35 => ?_)
    · skip
      refine r_68 hP_q hw_q hk_q hy_q ?_ k
      first
      | (refine Or.inr ⟨I2, c, z, g1_q, g2_q, g3_q, g4_q, g5_q, g6_q, g7_q, Or.inl ?_⟩; rw [show (6 : Int32) = nI 6 from rfl, nI_leg (by omega) (by omega)] at h44; omega)
      | (exact Or.inr ⟨I2, c, z, g1_q, g2_q, g3_q, g4_q, g5_q, g6_q, g7_q, Or.inr h54⟩)
      | (rcases hI_q with q | ⟨I2, c, z, g1_q, g2_q, -⟩; exact Or.inl q; (rw [g2_q.2.2.2.2.2] at h35; exact absurd rfl h35))
    · skip
      obtain ⟨I2, c, z, g1_q, g2_q, g3_q, g4_q, g5_q, g6_q, g7_q⟩ := hI_q.resolve_left (fun q => by rw [q.1] at h35; first | exact h35 (by decide) | exact absurd h35 (by decide))
      have a6_q := g2_q.1
      refine wp_aload_n dX11_read_38 rfl ?_
      refine m_getI dX11_read_39 flRX11_165 (by first | rfl | assumption) (by decide) ?_
      rw [g2_q.2.2.1]
      refine wp_bipush 6 dX11_read_42 (by decide) ?_
      refine wp_icmp_ge dX11_read_44 (fun h44 => ?_) (fun h44 => ?_)
      · skip
        refine r_68 hP_q hw_q hk_q hy_q ?_ k
        first
        | (refine Or.inr ⟨I2, c, z, g1_q, g2_q, g3_q, g4_q, g5_q, g6_q, g7_q, Or.inl ?_⟩; rw [show (6 : Int32) = nI 6 from rfl, nI_leg (by omega) (by omega)] at h44; omega)
        | (exact Or.inr ⟨I2, c, z, g1_q, g2_q, g3_q, g4_q, g5_q, g6_q, g7_q, Or.inr h54⟩)
        | (rcases hI_q with q | ⟨I2, c, z, g1_q, g2_q, -⟩; exact Or.inl q; (rw [g2_q.2.2.2.2.2] at h35; exact absurd rfl h35))
      · skip
        refine wp_aload_n dX11_read_47 rfl ?_
        refine wp_iload_n dX11_read_48 rfl ?_
        refine g_callV1 (mj := mX11_here) dX11_read_49 lkRX11_157 mkX11_here (by first | rfl | assumption) (by decide) (by decide) (Nat.le_of_ble_eq_true rfl) (c_here (hk_q.pg hP_q) (by omega) ?_)
        rw [hr_k hk_q]
        refine wp_bipush 44 dX11_read_52 (by decide) ?_
        refine wp_icmp_ne dX11_read_54 (fun h54 => ?_) (fun h54 => ?_)
        · skip
          refine r_68 hP_q hw_q hk_q hy_q ?_ k
          first
          | (refine Or.inr ⟨I2, c, z, g1_q, g2_q, g3_q, g4_q, g5_q, g6_q, g7_q, Or.inl ?_⟩; rw [show (6 : Int32) = nI 6 from rfl, nI_leg (by omega) (by omega)] at h44; omega)
          | (exact Or.inr ⟨I2, c, z, g1_q, g2_q, g3_q, g4_q, g5_q, g6_q, g7_q, Or.inr h54⟩)
          | (rcases hI_q with q | ⟨I2, c, z, g1_q, g2_q, -⟩; exact Or.inl q; (rw [g2_q.2.2.2.2.2] at h35; exact absurd rfl h35))
        · skip
          have hc6_q : c + 1 < 6 := by rw [show (6 : Int32) = nI 6 from rfl, nI_leg (by omega) (by omega)] at h44; omega
          obtain ⟨hyp_q, ey_q⟩ := hr_in (S := S) (by first | exact h54 | exact Classical.not_not.mp h54) (by decide)
          have ea_q : aTk I2 (S 143 y) = some (uI I2 5 1 0) := by rw [aTk_5 g4_q, ey_q, if_neg (by decide), if_pos rfl, if_pos (by rw [g2_q.2.1, show (6 : Int32) = nI 6 from rfl, nI_ltg (by omega) (by omega)]; exact hc6_q)]
          refine wp_aload_n dX11_read_57 rfl ?_
          refine wp_iload_n dX11_read_58 rfl ?_
          refine wp_iconst 1 dX11_read_59 (by decide) ?_
          refine wp_iadd dX11_read_60 ?_
          rw [nI_1]
          refine g_callV1 (mj := mX11_readActor) dX11_read_61 lkRX11_201 mkX11_readActor (by first | rfl | assumption) (by decide) (by decide) (Nat.le_of_ble_eq_true rfl) (c_readActor (hk_q.pg hP_q) (g2_q.i5 (j := 1) (x := 0)) g3_q.i5 hc6_q (uI_self _ _ _ _) (by omega) (fun r S3 hk3_q ho_q => ?_))
          refine st_i_2_1 dX11_read_64 (by decide) rfl ?_
          refine wp_goto dX11_read_65 ?_
          unfold RAO at ho_q
          rw [hk_q.pp] at ho_q
          obtain ⟨ho1_q, ho2_q⟩ := ho_q
          have hrp_q : r ≤ p := ho2_q.elim (fun q => q.2.1) (fun q => by obtain ⟨I3, z3, q1, q2, -⟩ := q; exact q2.1)
          refine ih _ (by omega) r S3 rfl hrp_q (hk_q.tr hk3_q) ?_
          rcases ho2_q with ⟨q1, q2⟩ | ⟨I3, z3, q1, q2, q3, q4, q5, q6, q7, q8⟩
          · exact Or.inl ⟨q1, (g1_q.tr (Sgo.step hyp_q ea_q)).bad q2⟩
          · exact Or.inr ⟨I3, c + 1, z3, (g1_q.tr (Sgo.step hyp_q ea_q)).tr q2, q3, q4, q5, q6, q7, by rw [hr_k hk_q] at q8; exact q8⟩
set_option maxHeartbeats 4000000 in
theorem c_read {I S : Mem} {J : Mel} {Q : Option Value → Mem → Mem → Mel → Prop} {p : Nat} (I0 : Mem) (hP_q : PG S p) (k : ∀ (r : Nat) (S' : Mem), kpQ S S' → RDO (S 143) S' p (aIni I0) r → Q (some (.int (nI r))) I S' J) : M2 mX11_read 5 [.ref 126] I S J Q := by
  refine m2_of [.ref 126, dum] moX11_read (Nat.le_of_ble_eq_true rfl) rfl ?_
  refine wp_aload_n dX11_read_0 rfl ?_
  refine wp_iconst 0 dX11_read_1 (by decide) ?_
  refine m_putZ dX11_read_2 flRX11_198 (by first | rfl | assumption) (by first | decide | assumption) (by decide) ?_
  refine wp_aload_n dX11_read_5 rfl ?_
  refine wp_iconst 0 dX11_read_6 (by decide) ?_
  refine m_putZ dX11_read_7 flRX11_161 (by first | rfl | assumption) (by first | decide | assumption) (by decide) ?_
  refine wp_aload_n dX11_read_10 rfl ?_
  refine wp_iconst 0 dX11_read_11 (by decide) ?_
  refine m_putI dX11_read_12 flRX11_165 (by first | rfl | assumption) (by decide) ?_
  refine wp_aload_n dX11_read_15 rfl ?_
  refine wp_iconst 0 dX11_read_16 (by decide) ?_
  refine m_putI dX11_read_17 flRX11_191 (by first | rfl | assumption) (by decide) ?_
  refine wp_aload_n dX11_read_20 rfl ?_
  refine wp_iconst (-1) dX11_read_21 (by decide) ?_
  refine m_putI dX11_read_22 flRX11_178 (by first | rfl | assumption) (by decide) ?_
  have kq_q : kpQ S (uI (uI (uI (uI (uI S 126 25 0) 126 26 0) 126 27 0) 126 28 0) 126 29 (-1)) := ((((kpQ.rf.st (by omega)).st (by omega)).st (by omega)).st (by omega)).st (by omega)
  have p1_q : (uI (uI (uI (uI (uI S 126 25 0) 126 26 0) 126 27 0) 126 28 0) 126 29 (-1)) 143 = S 143 := kq_q.1 143 (by decide) (by omega)
  have hP0_q : PG (uI (uI (uI (uI (uI S 126 25 0) 126 26 0) 126 27 0) 126 28 0) 126 29 (-1)) p := ⟨by rw [kq_q.2 23 (by omega)]; exact hP_q.1, hP_q.2.1, by rw [p1_q]; exact hP_q.2.2⟩
  have hR0_q : RM 0 0 0 (aIni I0) (uI (uI (uI (uI (uI S 126 25 0) 126 26 0) 126 27 0) 126 28 0) 126 29 (-1)) := by
    unfold aIni
    refine RM.i5 ⟨by omega, by rw [uI_ne (by decide), uI_self]; rfl, by simp [uI_ap]; rfl, fun i hi => by omega, ⟨by omega, by rw [uI_self]; rfl, by simp [uI_ap]; rfl, fun j hj => by omega⟩, by simp [uI_ap]⟩
  have hM0_q : MS 0 (aIni I0) ((uI (uI (uI (uI (uI S 126 25 0) 126 26 0) 126 27 0) 126 28 0) 126 29 (-1)) 126 29) := ⟨fun i hi => by omega, Or.inl (uI_self _ _ _ _)⟩
  refine wp_aload_n dX11_read_25 rfl ?_
  refine wp_iconst 0 dX11_read_26 (by decide) ?_
  refine g_callV1 (mj := mX11_readActor) dX11_read_27 lkRX11_201 mkX11_readActor (by first | rfl | assumption) (by decide) (by decide) (Nat.le_of_ble_eq_true rfl) (c_readActor (x := 0) (a := 0) (l := 0) (I0 := aIni I0) hP0_q hR0_q hM0_q (by omega) (by unfold aIni; exact uI_self _ _ _ _) (by omega) (fun r S3 hk3_q ho_q => ?_))
  refine st_i_2_1 dX11_read_30 (by decide) rfl ?_
  unfold RAO at ho_q
  obtain ⟨ho1_q, ho2_q⟩ := ho_q
  have hrp_q : r ≤ p := ho2_q.elim (fun q => q.2.1) (fun q => by obtain ⟨I3, z3, q1, q2, -⟩ := q; exact q2.1)
  refine l_rdR (I0 := aIni I0) hP0_q (by simp [uI_ap]) (fun r2 S4 hk4_q ho4_q => k r2 S4 (kq_q.tr hk4_q) (by rw [← p1_q]; exact ho4_q)) r S3 hrp_q hk3_q ?_
  rcases ho2_q with ⟨q1, q2⟩ | ⟨I3, z3, q1, q2, q3, q4, q5, q6, q7, q8⟩
  · exact Or.inl ⟨q1, q2⟩
  · exact Or.inr ⟨I3, 0, z3, q2, q3, q4, q5, q6, q7, q8⟩
set_option maxHeartbeats 4000000 in
theorem c_mfault {I S : Mem} {J : Mel} {Q : Option Value → Mem → Mem → Mel → Prop} {p : Nat} (I0 : Mem) (hP_q : PG S p) (k : ∀ (r : Nat) (S' : Mem), kpQ S S' → RDO (S 143) S' p (aIni I0) r → Q (some (.int (nI r))) I S' J) : M2 mX11_fault 6 [.ref 126] I S J Q := by
  refine m2_of [.ref 126] moX11_fault (Nat.le_of_ble_eq_true rfl) rfl ?_
  refine wp_aload_n dX11_fault_0 rfl ?_
  refine g_callV0 (mj := mX11_read) dX11_fault_1 lkRX11_207 mkX11_read (by first | rfl | assumption) (by decide) (by decide) (Nat.le_of_ble_eq_true rfl) (c_read I0 hP_q (fun r S3 hk3_q ho_q => ?_))
  refine g_iret dX11_fault_4 rfl ?_
  exact k r S3 hk3_q ho_q
