theorem wait_no {S I : Mem} {p y : Nat} (hP : PG S p) (hd : I 5 1 = 2) (hy : y ≤ p) (h : ¬ (0 ≤ fg S p y ∧ fg S p y ≤ 8)) : Bad (S 143) p y I y :=
  Bad.stop hy (fun hk => by rw [aTk_2 hd, if_neg (show ¬ (48 ≤ S 143 y ∧ S 143 y ≤ 56) from (fg_out hP (b := 8) (by omega) h hk).2)]) (fun _ => by rw [hd]; decide)
theorem snd_no {S I : Mem} {p y : Nat} (hP : PG S p) (hd : I 5 1 = 4) (hy : y ≤ p) (h : ¬ (0 ≤ fg S p y ∧ fg S p y ≤ 7)) : Bad (S 143) p y I y :=
  Bad.stop hy (fun hk => by rw [aTk_4 hd, if_neg (show ¬ (48 ≤ S 143 y ∧ S 143 y ≤ 55) from (fg_out hP (b := 7) (by omega) h hk).2)]) (fun _ => by rw [hd]; decide)
theorem tgt_no {S I : Mem} {p y : Nat} (hP : PG S p) (hd : I 5 1 = 3) (hy : y ≤ p) (h : ¬ (0 ≤ fg S p y ∧ fg S p y ≤ 5)) : Bad (S 143) p y I y :=
  Bad.stop hy (fun hk => by
    rw [aTk_3 hd, if_neg]
    have t := (fg_out hP (b := 5) (by omega) h hk).2
    obtain ⟨q, q1, q2, q3⟩ := hP.2.2 y hk
    rw [q3] at t ⊢
    rw [show (48 : Int32) = nI 48 from rfl, nI_leg (by omega) (by omega), nI_leg (by omega) (by omega)] at t
    rw [show (48 : Int32) = nI 48 from rfl, show (54 : Int32) = nI 54 from rfl, nI_leg (by omega) (by omega), nI_ltg (by omega) (by omega)]
    omega) (fun _ => by rw [hd]; decide)
theorem wait_ok {S I : Mem} {p y : Nat} (hP : PG S p) (hd : I 5 1 = 2) (h : 0 ≤ fg S p y ∧ fg S p y ≤ 8) : y < p ∧ ∃ f, f ≤ 8 ∧ fg S p y = nI f ∧ aTk I (S 143 y) = some (aEnd I 1 (-1) (nI f)) := by
  obtain ⟨h1, f, h2, h3, h4⟩ := fg_in hP (b := 8) (by omega) h
  have t := fg_ok h2 (by omega)
  exact ⟨h1, f, h2, h3, by rw [aTk_2 hd, h4, if_pos ⟨t.1, t.2.1⟩, t.2.2]⟩
theorem snd_ok {S I : Mem} {p y : Nat} (hP : PG S p) (hd : I 5 1 = 4) (h : 0 ≤ fg S p y ∧ fg S p y ≤ 7) : y < p ∧ ∃ f, f ≤ 7 ∧ fg S p y = nI f ∧ aTk I (S 143 y) = some (aEnd I 2 (I 5 2) (nI f)) := by
  obtain ⟨h1, f, h2, h3, h4⟩ := fg_in hP (b := 7) (by omega) h
  have t := fg_ok h2 (by omega)
  exact ⟨h1, f, h2, h3, by rw [aTk_4 hd, h4, if_pos ⟨t.1, t.2.1⟩, t.2.2]⟩
theorem tgt_ok {S I : Mem} {p y : Nat} (hP : PG S p) (hd : I 5 1 = 3) (h : 0 ≤ fg S p y ∧ fg S p y ≤ 5) : y < p ∧ ∃ f, f ≤ 5 ∧ fg S p y = nI f ∧ aTk I (S 143 y) = some (uI (uI I 5 2 (nI f)) 5 1 4) := by
  obtain ⟨h1, f, h2, h3, h4⟩ := fg_in hP (b := 5) (by omega) h
  have t := fg_ok h2 (by omega)
  have t2 : nI (48 + f) < 54 := by
    rw [show (54 : Int32) = nI 54 from rfl, nI_ltg (by omega) (by omega)]; omega
  exact ⟨h1, f, h2, h3, by rw [aTk_3 hd, h4, if_pos ⟨t.1, t2⟩, t.2.2]⟩
theorem rs_end {c z l : Nat} {I S : Mem} {d t s v : Int32} (h : RM (c + 1) c l I S) (hM : MS (c + 1) I (S 126 29)) (hz : I 8 c = nI z) (hz3 : z < 3) (hv : stR d t s v) (hd : ¬ d = 2) : RM (c + 1) c l (aEd I c z d t s) (uI (uI S 146 (3 * c + z) v) 145 c (nI (z + 1))) ∧ MS (c + 1) (aEd I c z d t s) ((uI (uI S 146 (3 * c + z) v) 145 c (nI (z + 1))) 126 29) ∧ aEd I c z d t s 5 1 = 5 ∧ aEd I c z d t s 8 c = nI (z + 1) := by
  obtain ⟨e8, -, -, -, e5, -⟩ := aEd_r I c z d t s
  refine ⟨h.ed hz hz3 hv, ?_, e5, by rw [e8, if_pos rfl]⟩
  rw [uI_ne (by decide), uI_ne (by decide)]
  exact hM.ed h hz hz3 (Int32.le_refl _) (fun q => absurd q hd) (Or.inl rfl)
theorem rs_snd {c z l : Nat} {I S : Mem} {t s v M : Int32} (h : RM (c + 1) c l I S) (hM : MS (c + 1) I (S 126 29)) (hz : I 8 c = nI z) (hz3 : z < 3) (hv : stR 2 t s v) (h1 : S 126 29 ≤ M) (h2 : t ≤ M) (h3 : M = S 126 29 ∨ t = M) : RM (c + 1) c l (aEd I c z 2 t s) (uI (uI (uI S 126 29 M) 146 (3 * c + z) v) 145 c (nI (z + 1))) ∧ MS (c + 1) (aEd I c z 2 t s) ((uI (uI (uI S 126 29 M) 146 (3 * c + z) v) 145 c (nI (z + 1))) 126 29) ∧ aEd I c z 2 t s 5 1 = 5 ∧ aEd I c z 2 t s 8 c = nI (z + 1) := by
  obtain ⟨e8, -, -, -, e5, -⟩ := aEd_r I c z 2 t s
  have h' : RM (c + 1) c l I (uI S 126 29 M) := h.cg (fun _ _ _ => rfl) (fun b _ _ => uI_ne (by omega)) (by rw [uI_ap, if_neg (by decide)]) (by rw [uI_ap, if_neg (by decide)]) (by rw [uI_ap, if_neg (by decide)])
  refine ⟨h'.ed hz hz3 hv, ?_, e5, by rw [e8, if_pos rfl]⟩
  rw [uI_ne (by decide), uI_ne (by decide), uI_self]
  exact hM.ed h hz hz3 h1 (fun _ => h2) (h3.elim Or.inl (fun q => Or.inr ⟨rfl, q⟩))
def RSO (S S' : Mem) (p x c z l : Nat) (I0 : Mem) (r : Nat) : Prop := x < r ∧ ((S' 126 26 = 1 ∧ Bad (S 143) p x I0 r) ∨ ∃ I1, Sgo (S 143) p x I0 r I1 ∧ RM (c + 1) c l I1 S' ∧ MS (c + 1) I1 (S' 126 29) ∧ I1 5 1 = 5 ∧ I1 8 c = nI (z + 1))
theorem hr_k {S S' : Mem} {p y : Nat} (h : kpR S S') : hr S' p y = hr S p y := by unfold hr; rw [h.pp]
theorem RM.sz {c z l : Nat} {I S : Mem} (h : RM (c + 1) c l I S) (hz : I 8 c = nI z) (hz3 : z ≤ 3) : S 145 c = nI z := by
  obtain ⟨k, u, k1, k2, k3, k4, k5, k6, k7, k8⟩ := h.2.2.2.1 c (by omega)
  rw [hz, nI_eqg (by omega) (by omega)] at k6
  rw [k7, k6]
theorem RM.fin {a z l : Nat} {I S : Mem} (h : RM (a + 1) a l I S) (hz : I 8 a = nI z) (hz1 : 1 ≤ z) (hz3 : z ≤ 3) : RM (a + 1) (a + 1) l I (uI S 126 27 (S 126 27 + 1)) := by
  obtain ⟨r1, r2, r3, r4, r5, r6⟩ := h
  refine ⟨r1, r2, by rw [uI_self, r3, nI_1], fun i hi => ?_, ?_, by rw [uI_ap, if_neg (by decide)]; exact r6⟩
  · obtain ⟨k, u, k1, k2, k3, k4, k5, k6, k7, k8⟩ := r4 i hi
    refine ⟨k, u, k1, k2, ?_, k4, by rw [uI_ne (by decide)]; exact k5, k6, by rw [uI_ne (by decide)]; exact k7, fun j hj => by rw [uI_ne (by decide)]; exact k8 j hj⟩
    rw [if_pos hi]
    by_cases e : i = a
    · subst e; rw [hz, nI_eqg (by omega) (by omega)] at k6; omega
    · rw [if_pos (by omega)] at k3; exact k3
  · unfold RMl at r5 ⊢
    rw [uI_ap, if_neg (by decide), uI_ne (by decide), uI_ne (by decide)]; exact r5
theorem RM.new {a l c : Nat} {I S : Mem} (h : RM a a l I S) (ha : a < 6) (hc : c ≤ 4) : RM (a + 1) a l (uI (uI (uI (uI I 7 a (nI c)) 8 a 0) 6 6 (nI a + 1)) 5 1 1) (uI (uI S 144 a (nI c)) 145 a 0) := by
  obtain ⟨r1, r2, r3, r4, ⟨l1, l2, l3, l4⟩, r6⟩ := h
  refine RM.i5 ⟨by omega, by rw [uI_self, nI_1], by rw [uI_ne (by decide), uI_ne (by decide)]; exact r3, fun i hi => ?_, ⟨l1, by rw [uI_ne (by decide), uI_ne (by decide), uI_ne (by decide)]; exact l2, by rw [uI_ne (by decide), uI_ne (by decide)]; exact l3, fun j hj => ?_⟩, by rw [uI_ne (by decide), uI_ne (by decide)]; exact r6⟩
  · by_cases e : i = a
    · subst e
      exact ⟨c, 0, hc, by omega, by rw [if_neg (by omega)]; omega, by rw [uI_ne (by decide), uI_ne (by decide), uI_self], by rw [uI_ne (by decide), uI_self], by rw [uI_ne (by decide), uI_self]; rfl, uI_self _ _ _ _, fun j hj => by omega⟩
    · obtain ⟨k, u, k1, k2, k3, k4, k5, k6, k7, k8⟩ := r4 i (by omega)
      refine ⟨k, u, k1, k2, k3, by rw [uI_ne (by decide), uI_ne (by decide), uI_ap, if_neg (by omega)]; exact k4, by rw [uI_ne (by decide), uI_ap, if_neg (by omega)]; exact k5, by rw [uI_ne (by decide), uI_ap, if_neg (by omega), uI_ne (by decide)]; exact k6, by rw [uI_ap, if_neg (by omega), uI_ne (by decide)]; exact k7, fun j hj => ?_⟩
      simp only [uI_ap]
      simpa using k8 j hj
  · obtain ⟨x, y, q1, q2, q3, q4, q5, q6, q7⟩ := l4 j hj
    refine ⟨x, y, by omega, by omega, q3, ?_, ?_, ?_, ?_⟩ <;> simp only [uI_ap] <;> simpa using (by assumption)
theorem MS.new {a c : Nat} {I : Mem} {M : Int32} (h : MS a I M) : MS (a + 1) (uI (uI (uI (uI I 7 a (nI c)) 8 a 0) 6 6 (nI a + 1)) 5 1 1) M := by
  refine MS.i5 ?_
  have e8 : ∀ i, (uI (uI (uI I 7 a (nI c)) 8 a 0) 6 6 (nI a + 1)) 8 i = if i = a then 0 else I 8 i := fun i => by simp [uI_ap]
  have e9 : (uI (uI (uI I 7 a (nI c)) 8 a 0) 6 6 (nI a + 1)) 9 = I 9 := by rw [uI_ne (by decide), uI_ne (by decide), uI_ne (by decide)]
  have e10 : (uI (uI (uI I 7 a (nI c)) 8 a 0) 6 6 (nI a + 1)) 10 = I 10 := by rw [uI_ne (by decide), uI_ne (by decide), uI_ne (by decide)]
  obtain ⟨m1, m2⟩ := h
  refine ⟨fun i hi j hj q => ?_, ?_⟩
  · rw [e8] at hj
    rw [e9] at q
    rw [e10]
    by_cases e : i = a
    · rw [if_pos e] at hj; exact absurd hj (by show ¬ j < tn (nI 0); rw [tn_nI (by omega)]; omega)
    · rw [if_neg e] at hj; exact m1 i (by omega) j hj q
  · rcases m2 with m2 | ⟨i, j, q1, q2, q3, q4⟩
    · exact Or.inl m2
    · exact Or.inr ⟨i, j, by omega, by rw [e8, if_neg (by omega)]; exact q2, by rw [e9]; exact q3, by rw [e10]; exact q4⟩
set_option maxHeartbeats 4000000 in
theorem c_readStep {I S : Mem} {J : Mel} {Q : Option Value → Mem → Mem → Mel → Prop} {p x c z l : Nat} {I0 : Mem} (hP_q : PG S p) (hR_q : RM (c + 1) c l I0 S) (hM_q : MS (c + 1) I0 (S 126 29)) (hz_q : I0 8 c = nI z) (hz3_q : z < 3) (hd_q : I0 5 1 = 1 ∨ I0 5 1 = 5) (hx_q : x < p) (hs_q : isSS (S 143 x)) (k : ∀ (r : Nat) (S' : Mem), kpR S S' → RSO S S' p x c z l I0 r → Q (some (.int (nI r))) I S' J) : M2 mX11_readStep 3 [.ref 126, .int (nI x)] I S J Q := by
  have p84_q := hP_q.2.1
  have h6_q := hR_q.2.1
  have hc6_q : c < 6 := by have := hR_q.1; omega
  refine m2_of [.ref 126, .int (nI x), dum] moX11_readStep (Nat.le_of_ble_eq_true rfl) rfl ?_
  refine wp_aload_n dX11_readStep_0 rfl ?_
  refine wp_iload_n dX11_readStep_1 rfl ?_
  refine g_callV1 (mj := mX11_here) dX11_readStep_2 lkRX11_157 mkX11_here (by first | rfl | assumption) (by decide) (by decide) (Nat.le_of_ble_eq_true rfl) (c_here hP_q (by omega) ?_)
  rw [hr_lt hx_q]
  refine st_i_3_2 dX11_readStep_5 (by decide) rfl ?_
  refine wp_iload_n dX11_readStep_6 rfl ?_
  refine wp_bipush 63 dX11_readStep_7 (by decide) ?_
  refine wp_icmp_ne dX11_readStep_9 (fun h9 => ?_) (fun h9 => ?_)
  · skip
    refine wp_iload_n dX11_readStep_54 rfl ?_
    refine wp_bipush 33 dX11_readStep_55 (by decide) ?_
    refine wp_icmp_ne dX11_readStep_57 (fun h57 => ?_) (fun h57 => ?_)
    · skip
      refine wp_aload_n dX11_readStep_169 rfl ?_
      refine wp_iload_n dX11_readStep_170 rfl ?_
      refine wp_bipush 42 dX11_readStep_171 (by decide) ?_
      refine wp_icmp_ne dX11_readStep_173 (fun h173 => ?_) (fun h173 => ?_)
      · skip
        refine wp_iload_n dX11_readStep_182 rfl ?_
        refine wp_bipush 45 dX11_readStep_183 (by decide) ?_
        refine wp_icmp_ne dX11_readStep_185 (fun h185 => ?_) (fun h185 => ?_)
        · skip
          have c120_q : S 143 x = 120 := by unfold isSS at hs_q; grind
          refine wp_sipush 500 dX11_readStep_194 (by decide) ?_
          refine g_callV1 (mj := mX11_addStep) dX11_readStep_197 lkRX11_174 mkX11_addStep (by first | rfl | assumption) (by decide) (by decide) (Nat.le_of_ble_eq_true rfl) (c_mAdd hR_q.2.2.1 hc6_q (hR_q.sz hz_q (by omega)) hz3_q ?_)
          refine wp_iload_n dX11_readStep_200 rfl ?_
          refine wp_iconst 1 dX11_readStep_201 (by decide) ?_
          refine wp_iadd dX11_readStep_202 ?_
          refine g_iret dX11_readStep_203 rfl ?_
          have e_q : aTk I0 (S 143 x) = some (aEd I0 c z 3 (-1) (-1)) := by rw [aTk_s h6_q hc6_q hz_q hz3_q hd_q hs_q, c120_q, ← aEnd_eq h6_q hc6_q hz_q hz3_q]; rfl
          rw [nI_1]
          exact k (x + 1) _ ((kpR.rf.st (by omega)).st (by omega)) ⟨by omega, Or.inr ⟨_, Sgo.step hx_q e_q, rs_end hR_q hM_q hz_q hz3_q (Or.inr (Or.inr (Or.inr (Or.inr ⟨rfl, rfl⟩)))) (by decide)⟩⟩
        · skip
          have c45_q : S 143 x = 45 := by first | exact h185 | exact Classical.not_not.mp h185
          refine wp_sipush 400 dX11_readStep_188 (by decide) ?_
          refine wp_goto dX11_readStep_191 ?_
          refine g_callV1 (mj := mX11_addStep) dX11_readStep_197 lkRX11_174 mkX11_addStep (by first | rfl | assumption) (by decide) (by decide) (Nat.le_of_ble_eq_true rfl) (c_mAdd hR_q.2.2.1 hc6_q (hR_q.sz hz_q (by omega)) hz3_q ?_)
          refine wp_iload_n dX11_readStep_200 rfl ?_
          refine wp_iconst 1 dX11_readStep_201 (by decide) ?_
          refine wp_iadd dX11_readStep_202 ?_
          refine g_iret dX11_readStep_203 rfl ?_
          have e_q : aTk I0 (S 143 x) = some (aEd I0 c z 0 (-1) (-1)) := by rw [aTk_s h6_q hc6_q hz_q hz3_q hd_q hs_q, c45_q, ← aEnd_eq h6_q hc6_q hz_q hz3_q]; rfl
          rw [nI_1]
          exact k (x + 1) _ ((kpR.rf.st (by omega)).st (by omega)) ⟨by omega, Or.inr ⟨_, Sgo.step hx_q e_q, rs_end hR_q hM_q hz_q hz3_q (Or.inr (Or.inr (Or.inr (Or.inl ⟨rfl, rfl⟩)))) (by decide)⟩⟩
      · skip
        have c42_q : S 143 x = 42 := by first | exact h173 | exact Classical.not_not.mp h173
        refine wp_sipush 200 dX11_readStep_176 (by decide) ?_
        refine wp_goto dX11_readStep_179 ?_
        refine g_callV1 (mj := mX11_addStep) dX11_readStep_197 lkRX11_174 mkX11_addStep (by first | rfl | assumption) (by decide) (by decide) (Nat.le_of_ble_eq_true rfl) (c_mAdd hR_q.2.2.1 hc6_q (hR_q.sz hz_q (by omega)) hz3_q ?_)
        refine wp_iload_n dX11_readStep_200 rfl ?_
        refine wp_iconst 1 dX11_readStep_201 (by decide) ?_
        refine wp_iadd dX11_readStep_202 ?_
        refine g_iret dX11_readStep_203 rfl ?_
        have e_q : aTk I0 (S 143 x) = some (aEd I0 c z 1 (-1) 9) := by rw [aTk_s h6_q hc6_q hz_q hz3_q hd_q hs_q, c42_q, ← aEnd_eq h6_q hc6_q hz_q hz3_q]; rfl
        rw [nI_1]
        exact k (x + 1) _ ((kpR.rf.st (by omega)).st (by omega)) ⟨by omega, Or.inr ⟨_, Sgo.step hx_q e_q, rs_end hR_q hM_q hz_q hz3_q (Or.inl ⟨rfl, rfl, rfl⟩) (by decide)⟩⟩
    · skip
      have c33_q : S 143 x = 33 := by first | exact h57 | exact Classical.not_not.mp h57
      have e33_q : aTk I0 (S 143 x) = some (uI I0 5 1 3) := by rw [aTk_s h6_q hc6_q hz_q hz3_q hd_q hs_q, c33_q]; rfl
      refine wp_aload_n dX11_readStep_60 rfl ?_
      refine wp_iload_n dX11_readStep_61 rfl ?_
      refine wp_iconst 1 dX11_readStep_62 (by decide) ?_
      refine wp_iadd dX11_readStep_63 ?_
      rw [nI_1]
      refine g_callV1 (mj := mX11_figure) dX11_readStep_64 lkRX11_168 mkX11_figure (by first | rfl | assumption) (by decide) (by decide) (Nat.le_of_ble_eq_true rfl) (c_figure hP_q (by omega) ?_)
      refine wp_iconst 0 dX11_readStep_67 (by decide) ?_
      refine wp_iconst 5 dX11_readStep_68 (by decide) ?_
      refine g_callS3 (mj := mX11_within) dX11_readStep_69 lkRX11_149 mkX11_within (by decide) (by decide) (Nat.le_of_ble_eq_true rfl) (c_within ?_)
      refine wp_if_ne dX11_readStep_72 (fun h72 => ?_) (fun h72 => ?_)
      · skip
        refine wp_aload_n dX11_readStep_83 rfl ?_
        refine wp_iload_n dX11_readStep_84 rfl ?_
        refine wp_iconst 2 dX11_readStep_85 (by decide) ?_
        refine wp_iadd dX11_readStep_86 ?_
        rw [nI_2]
        refine g_callV1 (mj := mX11_figure) dX11_readStep_87 lkRX11_168 mkX11_figure (by first | rfl | assumption) (by decide) (by decide) (Nat.le_of_ble_eq_true rfl) (c_figure hP_q (by omega) ?_)
        refine wp_iconst 0 dX11_readStep_90 (by decide) ?_
        refine wp_bipush 7 dX11_readStep_91 (by decide) ?_
        refine g_callS3 (mj := mX11_within) dX11_readStep_93 lkRX11_149 mkX11_within (by decide) (by decide) (Nat.le_of_ble_eq_true rfl) (c_within ?_)
        refine wp_if_ne dX11_readStep_96 (fun h96 => ?_) (fun h96 => ?_)
        · skip
          refine wp_aload_n dX11_readStep_107 rfl ?_
          refine wp_aload_n dX11_readStep_108 rfl ?_
          refine wp_iload_n dX11_readStep_109 rfl ?_
          refine wp_iconst 1 dX11_readStep_110 (by decide) ?_
          refine wp_iadd dX11_readStep_111 ?_
          rw [nI_1]
          refine g_callV1 (mj := mX11_figure) dX11_readStep_112 lkRX11_168 mkX11_figure (by first | rfl | assumption) (by decide) (by decide) (Nat.le_of_ble_eq_true rfl) (c_figure hP_q (by omega) ?_)
          refine wp_aload_n dX11_readStep_115 rfl ?_
          refine m_getI dX11_readStep_116 flRX11_178 (by first | rfl | assumption) (by decide) ?_
          refine wp_icmp_le dX11_readStep_119 (fun h119 => ?_) (fun h119 => ?_)
          · skip
            refine wp_aload_n dX11_readStep_132 rfl ?_
            refine m_getI dX11_readStep_133 flRX11_178 (by first | rfl | assumption) (by decide) ?_
            refine m_putI dX11_readStep_136 flRX11_178 (by first | rfl | assumption) (by decide) ?_
            have hP1_q : PG (uI S 126 29 (S 126 29)) p := (kpR.rf.st (by omega)).pg hP_q
            refine wp_aload_n dX11_readStep_139 rfl ?_
            refine wp_sipush 300 dX11_readStep_140 (by decide) ?_
            refine wp_bipush 10 dX11_readStep_143 (by decide) ?_
            refine wp_aload_n dX11_readStep_145 rfl ?_
            refine wp_iload_n dX11_readStep_146 rfl ?_
            refine wp_iconst 1 dX11_readStep_147 (by decide) ?_
            refine wp_iadd dX11_readStep_148 ?_
            rw [nI_1]
            refine g_callV1 (mj := mX11_figure) dX11_readStep_149 lkRX11_168 mkX11_figure (by first | rfl | assumption) (by decide) (by decide) (Nat.le_of_ble_eq_true rfl) (c_figure hP1_q (by omega) ?_)
            rw [(fg_u (by decide)).1]
            refine wp_imul dX11_readStep_152 ?_
            refine wp_iadd dX11_readStep_153 ?_
            refine wp_aload_n dX11_readStep_154 rfl ?_
            refine wp_iload_n dX11_readStep_155 rfl ?_
            refine wp_iconst 2 dX11_readStep_156 (by decide) ?_
            refine wp_iadd dX11_readStep_157 ?_
            rw [nI_2]
            refine g_callV1 (mj := mX11_figure) dX11_readStep_158 lkRX11_168 mkX11_figure (by first | rfl | assumption) (by decide) (by decide) (Nat.le_of_ble_eq_true rfl) (c_figure hP1_q (by omega) ?_)
            rw [(fg_u (by decide)).1]
            refine wp_iadd dX11_readStep_161 ?_
            refine g_callV1 (mj := mX11_addStep) dX11_readStep_162 lkRX11_174 mkX11_addStep (by first | rfl | assumption) (by decide) (by decide) (Nat.le_of_ble_eq_true rfl) (c_mAdd (m := c) (z := z) (by rw [uI_ap, if_neg (by decide)]; exact hR_q.2.2.1) hc6_q (by rw [uI_ne (by decide)]; exact hR_q.sz hz_q (by omega)) hz3_q ?_)
            refine wp_iload_n dX11_readStep_165 rfl ?_
            refine wp_iconst 3 dX11_readStep_166 (by decide) ?_
            refine wp_iadd dX11_readStep_167 ?_
            refine g_iret dX11_readStep_168 rfl ?_
            obtain ⟨hy_q, f, hf_q, ef_q, ea_q⟩ := tgt_ok (I := uI I0 5 1 3) hP_q (uI_self _ _ _ _) (b01_ne h72)
            obtain ⟨hy2_q, g, hg_q, eg_q, eb_q⟩ := snd_ok (I := (uI (uI (uI I0 5 1 3) 5 2 (nI f)) 5 1 4)) hP_q (uI_self _ _ _ _) (b01_ne h96)
            have e52_q : (uI (uI (uI I0 5 1 3) 5 2 (nI f)) 5 1 4) 5 2 = nI f := by rw [uI_ap, if_neg (by decide), uI_self]
            rw [e52_q, aEnd_eq (by rw [uI_ne (by decide), uI_ne (by decide), uI_ne (by decide)]; exact h6_q) hc6_q (by rw [uI_ne (by decide), uI_ne (by decide), uI_ne (by decide)]; exact hz_q) hz3_q] at eb_q
            rw [nI_3]
            have v_q : (300 : Int32) + 10 * nI f + nI g = nI (300 + 10 * f + g) := by rw [show (300 : Int32) = nI 300 from rfl, show (10 : Int32) = nI 10 from rfl, nI_mul, nI_add, nI_add]
            have rr_q := rs_snd (M := S 126 29) (v := 300 + 10 * nI f + nI g) (((hR_q.i5 (j := 1) (x := 3)).i5 (j := 2) (x := nI f)).i5 (j := 1) (x := 4)) (((hM_q.i5 (j := 1) (x := 3)).i5 (j := 2) (x := nI f)).i5 (j := 1) (x := 4)) (by rw [uI_ne (by decide), uI_ne (by decide), uI_ne (by decide)]; exact hz_q) hz3_q (t := nI f) (s := nI g) (Or.inr (Or.inr (Or.inl ⟨f, g, by omega, hg_q, rfl, rfl, rfl, v_q⟩))) (Int32.le_refl _) (by rw [← ef_q]; exact h119) (Or.inl rfl)
            rw [ef_q, eg_q]
            exact k (x + 3) _ (((kpR.rf.st (by omega)).st (by omega)).st (by omega)) ⟨by omega, Or.inr ⟨_, ((Sgo.step hx_q e33_q).tr (Sgo.step hy_q ea_q)).tr (Sgo.step hy2_q eb_q), rr_q⟩⟩
          · skip
            refine wp_aload_n dX11_readStep_122 rfl ?_
            refine wp_iload_n dX11_readStep_123 rfl ?_
            refine wp_iconst 1 dX11_readStep_124 (by decide) ?_
            refine wp_iadd dX11_readStep_125 ?_
            rw [nI_1]
            refine g_callV1 (mj := mX11_figure) dX11_readStep_126 lkRX11_168 mkX11_figure (by first | rfl | assumption) (by decide) (by decide) (Nat.le_of_ble_eq_true rfl) (c_figure hP_q (by omega) ?_)
            refine wp_goto dX11_readStep_129 ?_
            refine m_putI dX11_readStep_136 flRX11_178 (by first | rfl | assumption) (by decide) ?_
            have hP1_q : PG (uI S 126 29 (fg S p (x + 1))) p := (kpR.rf.st (by omega)).pg hP_q
            refine wp_aload_n dX11_readStep_139 rfl ?_
            refine wp_sipush 300 dX11_readStep_140 (by decide) ?_
            refine wp_bipush 10 dX11_readStep_143 (by decide) ?_
            refine wp_aload_n dX11_readStep_145 rfl ?_
            refine wp_iload_n dX11_readStep_146 rfl ?_
            refine wp_iconst 1 dX11_readStep_147 (by decide) ?_
            refine wp_iadd dX11_readStep_148 ?_
            rw [nI_1]
            refine g_callV1 (mj := mX11_figure) dX11_readStep_149 lkRX11_168 mkX11_figure (by first | rfl | assumption) (by decide) (by decide) (Nat.le_of_ble_eq_true rfl) (c_figure hP1_q (by omega) ?_)
            rw [(fg_u (by decide)).1]
            refine wp_imul dX11_readStep_152 ?_
            refine wp_iadd dX11_readStep_153 ?_
            refine wp_aload_n dX11_readStep_154 rfl ?_
            refine wp_iload_n dX11_readStep_155 rfl ?_
            refine wp_iconst 2 dX11_readStep_156 (by decide) ?_
            refine wp_iadd dX11_readStep_157 ?_
            rw [nI_2]
            refine g_callV1 (mj := mX11_figure) dX11_readStep_158 lkRX11_168 mkX11_figure (by first | rfl | assumption) (by decide) (by decide) (Nat.le_of_ble_eq_true rfl) (c_figure hP1_q (by omega) ?_)
            rw [(fg_u (by decide)).1]
            refine wp_iadd dX11_readStep_161 ?_
            refine g_callV1 (mj := mX11_addStep) dX11_readStep_162 lkRX11_174 mkX11_addStep (by first | rfl | assumption) (by decide) (by decide) (Nat.le_of_ble_eq_true rfl) (c_mAdd (m := c) (z := z) (by rw [uI_ap, if_neg (by decide)]; exact hR_q.2.2.1) hc6_q (by rw [uI_ne (by decide)]; exact hR_q.sz hz_q (by omega)) hz3_q ?_)
            refine wp_iload_n dX11_readStep_165 rfl ?_
            refine wp_iconst 3 dX11_readStep_166 (by decide) ?_
            refine wp_iadd dX11_readStep_167 ?_
            refine g_iret dX11_readStep_168 rfl ?_
            obtain ⟨hy_q, f, hf_q, ef_q, ea_q⟩ := tgt_ok (I := uI I0 5 1 3) hP_q (uI_self _ _ _ _) (b01_ne h72)
            obtain ⟨hy2_q, g, hg_q, eg_q, eb_q⟩ := snd_ok (I := (uI (uI (uI I0 5 1 3) 5 2 (nI f)) 5 1 4)) hP_q (uI_self _ _ _ _) (b01_ne h96)
            have e52_q : (uI (uI (uI I0 5 1 3) 5 2 (nI f)) 5 1 4) 5 2 = nI f := by rw [uI_ap, if_neg (by decide), uI_self]
            rw [e52_q, aEnd_eq (by rw [uI_ne (by decide), uI_ne (by decide), uI_ne (by decide)]; exact h6_q) hc6_q (by rw [uI_ne (by decide), uI_ne (by decide), uI_ne (by decide)]; exact hz_q) hz3_q] at eb_q
            rw [nI_3]
            have v_q : (300 : Int32) + 10 * nI f + nI g = nI (300 + 10 * f + g) := by rw [show (300 : Int32) = nI 300 from rfl, show (10 : Int32) = nI 10 from rfl, nI_mul, nI_add, nI_add]
            have rr_q := rs_snd (M := nI f) (v := 300 + 10 * nI f + nI g) (((hR_q.i5 (j := 1) (x := 3)).i5 (j := 2) (x := nI f)).i5 (j := 1) (x := 4)) (((hM_q.i5 (j := 1) (x := 3)).i5 (j := 2) (x := nI f)).i5 (j := 1) (x := 4)) (by rw [uI_ne (by decide), uI_ne (by decide), uI_ne (by decide)]; exact hz_q) hz3_q (t := nI f) (s := nI g) (Or.inr (Or.inr (Or.inl ⟨f, g, by omega, hg_q, rfl, rfl, rfl, v_q⟩))) (by rw [← ef_q]; exact Int32.le_of_lt (by first | exact h119 | exact Int32.not_le.mp h119)) (Int32.le_refl _) (Or.inr rfl)
            rw [ef_q, eg_q]
            exact k (x + 3) _ (((kpR.rf.st (by omega)).st (by omega)).st (by omega)) ⟨by omega, Or.inr ⟨_, ((Sgo.step hx_q e33_q).tr (Sgo.step hy_q ea_q)).tr (Sgo.step hy2_q eb_q), rr_q⟩⟩
        · skip
          refine wp_aload_n dX11_readStep_99 rfl ?_
          refine wp_iload_n dX11_readStep_100 rfl ?_
          refine wp_iconst 2 dX11_readStep_101 (by decide) ?_
          refine wp_iadd dX11_readStep_102 ?_
          rw [nI_2]
          refine g_callV1 (mj := mX11_broken) dX11_readStep_103 lkRX11_171 mkX11_broken (by first | rfl | assumption) (by decide) (by decide) (Nat.le_of_ble_eq_true rfl) (c_broken ?_)
          refine g_iret dX11_readStep_106 rfl ?_
          obtain ⟨hy_q, f, hf_q, ef_q, ea_q⟩ := tgt_ok (I := uI I0 5 1 3) hP_q (uI_self _ _ _ _) (b01_ne h72)
          exact k (x + 2) _ (kpR.rf.st (by omega)) ⟨by omega, Or.inl ⟨uI_self _ _ _ _, ((Sgo.step hx_q e33_q).tr (Sgo.step hy_q ea_q)).bad (snd_no hP_q (uI_self _ _ _ _) (by omega) (b01_e0 (by first | exact h96 | exact Classical.not_not.mp h96)))⟩⟩
      · skip
        refine wp_aload_n dX11_readStep_75 rfl ?_
        refine wp_iload_n dX11_readStep_76 rfl ?_
        refine wp_iconst 1 dX11_readStep_77 (by decide) ?_
        refine wp_iadd dX11_readStep_78 ?_
        rw [nI_1]
        refine g_callV1 (mj := mX11_broken) dX11_readStep_79 lkRX11_171 mkX11_broken (by first | rfl | assumption) (by decide) (by decide) (Nat.le_of_ble_eq_true rfl) (c_broken ?_)
        refine g_iret dX11_readStep_82 rfl ?_
        exact k (x + 1) _ (kpR.rf.st (by omega)) ⟨by omega, Or.inl ⟨uI_self _ _ _ _, (Sgo.step hx_q e33_q).bad (tgt_no hP_q (uI_self _ _ _ _) (by omega) (b01_e0 (by first | exact h72 | exact Classical.not_not.mp h72)))⟩⟩
  · skip
    have c63_q : S 143 x = 63 := by first | exact h9 | exact Classical.not_not.mp h9
    have e63_q : aTk I0 (S 143 x) = some (uI I0 5 1 2) := by rw [aTk_s h6_q hc6_q hz_q hz3_q hd_q hs_q, c63_q]; rfl
    refine wp_aload_n dX11_readStep_12 rfl ?_
    refine wp_iload_n dX11_readStep_13 rfl ?_
    refine wp_iconst 1 dX11_readStep_14 (by decide) ?_
    refine wp_iadd dX11_readStep_15 ?_
    rw [nI_1]
    refine g_callV1 (mj := mX11_figure) dX11_readStep_16 lkRX11_168 mkX11_figure (by first | rfl | assumption) (by decide) (by decide) (Nat.le_of_ble_eq_true rfl) (c_figure hP_q (by omega) ?_)
    refine wp_iconst 0 dX11_readStep_19 (by decide) ?_
    refine wp_bipush 8 dX11_readStep_20 (by decide) ?_
    refine g_callS3 (mj := mX11_within) dX11_readStep_22 lkRX11_149 mkX11_within (by decide) (by decide) (Nat.le_of_ble_eq_true rfl) (c_within ?_)
    refine wp_if_ne dX11_readStep_25 (fun h25 => ?_) (fun h25 => ?_)
    · skip
      refine wp_aload_n dX11_readStep_36 rfl ?_
      refine wp_bipush 100 dX11_readStep_37 (by decide) ?_
      refine wp_aload_n dX11_readStep_39 rfl ?_
      refine wp_iload_n dX11_readStep_40 rfl ?_
      refine wp_iconst 1 dX11_readStep_41 (by decide) ?_
      refine wp_iadd dX11_readStep_42 ?_
      rw [nI_1]
      refine g_callV1 (mj := mX11_figure) dX11_readStep_43 lkRX11_168 mkX11_figure (by first | rfl | assumption) (by decide) (by decide) (Nat.le_of_ble_eq_true rfl) (c_figure hP_q (by omega) ?_)
      refine wp_iadd dX11_readStep_46 ?_
      refine g_callV1 (mj := mX11_addStep) dX11_readStep_47 lkRX11_174 mkX11_addStep (by first | rfl | assumption) (by decide) (by decide) (Nat.le_of_ble_eq_true rfl) (c_mAdd hR_q.2.2.1 hc6_q (hR_q.sz hz_q (by omega)) hz3_q ?_)
      refine wp_iload_n dX11_readStep_50 rfl ?_
      refine wp_iconst 2 dX11_readStep_51 (by decide) ?_
      refine wp_iadd dX11_readStep_52 ?_
      refine g_iret dX11_readStep_53 rfl ?_
      obtain ⟨hy_q, f, hf_q, ef_q, ea_q⟩ := wait_ok (I := uI I0 5 1 2) hP_q (uI_self _ _ _ _) (b01_ne h25)
      rw [aEnd_eq (by rw [uI_ne (by decide)]; exact h6_q) hc6_q (by rw [uI_ne (by decide)]; exact hz_q) hz3_q] at ea_q
      rw [ef_q, show (100 : Int32) = nI 100 from rfl, nI_add, nI_2]
      exact k (x + 2) _ ((kpR.rf.st (by omega)).st (by omega)) ⟨by omega, Or.inr ⟨_, (Sgo.step hx_q e63_q).tr (Sgo.step hy_q ea_q), rs_end (hR_q.i5 (j := 1) (x := 2)) (hM_q.i5 (j := 1) (x := 2)) (by rw [uI_ne (by decide)]; exact hz_q) hz3_q (Or.inr (Or.inl ⟨f, hf_q, rfl, rfl, rfl⟩)) (by decide)⟩⟩
    · skip
      refine wp_aload_n dX11_readStep_28 rfl ?_
      refine wp_iload_n dX11_readStep_29 rfl ?_
      refine wp_iconst 1 dX11_readStep_30 (by decide) ?_
      refine wp_iadd dX11_readStep_31 ?_
      rw [nI_1]
      refine g_callV1 (mj := mX11_broken) dX11_readStep_32 lkRX11_171 mkX11_broken (by first | rfl | assumption) (by decide) (by decide) (Nat.le_of_ble_eq_true rfl) (c_broken ?_)
      refine g_iret dX11_readStep_35 rfl ?_
      exact k (x + 1) _ (kpR.rf.st (by omega)) ⟨by omega, Or.inl ⟨uI_self _ _ _ _, (Sgo.step hx_q e63_q).bad (wait_no hP_q (uI_self _ _ _ _) (by omega) (b01_e0 (by first | exact h25 | exact Classical.not_not.mp h25)))⟩⟩
