theorem fdC_none {I : Mem} {a l : Nat} {x y : Int32} (hl : l ≤ 6) : ∀ c, c ≤ l → (fdC I a x y l c = -1 ↔ ∀ j, l - c ≤ j → j < l → ¬ (¬ x = y ∧ (if I (a + 1) j = x then I (a + 2) j else if I (a + 2) j = x then I (a + 1) j else -1) = y)) := by
  intro c
  induction c with
  | zero => intro _; exact ⟨fun _ j h1 h2 => by omega, fun _ => rfl⟩
  | succ c ih =>
    intro hc
    simp only [fdC]
    by_cases h : ¬ x = y ∧ (if I (a + 1) (l - (c + 1)) = x then I (a + 2) (l - (c + 1)) else if I (a + 2) (l - (c + 1)) = x then I (a + 1) (l - (c + 1)) else -1) = y
    · rw [if_pos h]
      exact ⟨fun q => absurd q (nI_small (by omega)), fun q => absurd h (q (l - (c + 1)) (by omega) (by omega))⟩
    · rw [if_neg h, ih (by omega)]
      refine ⟨fun q j h1 h2 => ?_, fun q j h1 h2 => q j (by omega) h2⟩
      by_cases e : j = l - (c + 1)
      · rw [e]; exact h
      · exact q j (by omega) h2
theorem fd_told {a l x y : Nat} {I S : Mem} (hL : RMl a l I S) (ha : a ≤ 6) (hx : x < 6) (hy : y < 6) (hxy : x ≠ y) : fdC I 12 (nI x) (nI y) l l = -1 ↔ ¬ tld S (nI x) (nI y) l := by
  obtain ⟨l1, l2, l3, l4⟩ := hL
  have ne : ¬ nI x = nI y := by rw [nI_eqg (by omega) (by omega)]; exact hxy
  have key : ∀ j, j < l → ((¬ nI x = nI y ∧ (if I (12 + 1) j = nI x then I (12 + 2) j else if I (12 + 2) j = nI x then I (12 + 1) j else -1) = nI y) ↔ ((S 147 j = nI x ∧ S 148 j = nI y) ∨ (S 147 j = nI y ∧ S 148 j = nI x))) := by
    intro j hj
    obtain ⟨X, Y, q1, q2, q3, q4, q5, q6, q7⟩ := l4 j hj
    rw [show I (12 + 1) j = nI X from q4, show I (12 + 2) j = nI Y from q6, q5, q7]
    simp only [nI_eqg (show X < 1000000 by omega) (show x < 1000000 by omega), nI_eqg (show Y < 1000000 by omega) (show y < 1000000 by omega), nI_eqg (show Y < 1000000 by omega) (show x < 1000000 by omega), nI_eqg (show X < 1000000 by omega) (show y < 1000000 by omega), ne, not_false_eq_true, true_and]
    by_cases e1 : X = x
    · rw [if_pos e1, nI_eqg (by omega) (by omega)]; omega
    · rw [if_neg e1]
      by_cases e2 : Y = x
      · rw [if_pos e2, nI_eqg (by omega) (by omega)]; omega
      · rw [if_neg e2]
        constructor
        · intro h; exact absurd h.symm (nI_small (by omega))
        · omega
  rw [fdC_none l1 l (by omega)]
  unfold tld
  constructor
  · rintro h (q | ⟨i, q1, q2⟩)
    · exact ne q
    · exact h i (by omega) q1 ((key i q1).mpr q2)
  · intro h j h1 h2 q
    exact h (Or.inr ⟨j, h2, (key j h2).mp q⟩)
theorem MS.cg {a : Nat} {I I' : Mem} {M : Int32} (h : MS a I M) (h8 : I' 8 = I 8) (h9 : I' 9 = I 9) (h10 : I' 10 = I 10) : MS a I' M := by
  unfold MS at h ⊢
  rw [h8, h9, h10]; exact h
theorem RM.lnk {a l f g : Nat} {I S : Mem} (h : RM a a l I S) (hl : l < 6) (hf : f < a) (hg : g < a) (hfg : f ≠ g) : RM a a (l + 1) (uI (uI (uI (uI I 13 l (nI f)) 14 l (nI g)) 12 2 (nI l + 1)) 5 1 9) (uI (uI (uI S 147 l (nI f)) 148 l (nI g)) 126 28 (nI l + 1)) := by
  obtain ⟨r1, r2, r3, r4, ⟨l1, l2, l3, l4⟩, r6⟩ := h
  refine RM.i5 ⟨r1, by rw [uI_ne (by decide), uI_ne (by decide), uI_ne (by decide)]; exact r2, by rw [uI_ap, if_neg (by decide), uI_ne (by decide), uI_ne (by decide)]; exact r3, fun i hi => ?_, ⟨by omega, by rw [uI_self, nI_1], by rw [uI_self, nI_1], fun j hj => ?_⟩, by rw [uI_ap, if_neg (by decide), uI_ne (by decide), uI_ne (by decide)]; exact r6⟩
  · have t := r4 i hi
    unfold RMa at t ⊢
    simp only [uI_ne (show (7 : Nat) ≠ 12 by decide), uI_ne (show (7 : Nat) ≠ 14 by decide), uI_ne (show (7 : Nat) ≠ 13 by decide), uI_ne (show (8 : Nat) ≠ 12 by decide), uI_ne (show (8 : Nat) ≠ 14 by decide), uI_ne (show (8 : Nat) ≠ 13 by decide), uI_ne (show (9 : Nat) ≠ 12 by decide), uI_ne (show (9 : Nat) ≠ 14 by decide), uI_ne (show (9 : Nat) ≠ 13 by decide), uI_ne (show (10 : Nat) ≠ 12 by decide), uI_ne (show (10 : Nat) ≠ 14 by decide), uI_ne (show (10 : Nat) ≠ 13 by decide), uI_ne (show (11 : Nat) ≠ 12 by decide), uI_ne (show (11 : Nat) ≠ 14 by decide), uI_ne (show (11 : Nat) ≠ 13 by decide), uI_ne (show (144 : Nat) ≠ 126 by decide), uI_ne (show (144 : Nat) ≠ 147 by decide), uI_ne (show (144 : Nat) ≠ 148 by decide), uI_ne (show (145 : Nat) ≠ 126 by decide), uI_ne (show (145 : Nat) ≠ 147 by decide), uI_ne (show (145 : Nat) ≠ 148 by decide), uI_ne (show (146 : Nat) ≠ 126 by decide), uI_ne (show (146 : Nat) ≠ 147 by decide), uI_ne (show (146 : Nat) ≠ 148 by decide)]
    exact t
  · rw [uI_ne (show (13 : Nat) ≠ 12 by decide), uI_ne (show (13 : Nat) ≠ 14 by decide), uI_ne (show (14 : Nat) ≠ 12 by decide), uI_ne (show (147 : Nat) ≠ 126 by decide), uI_ne (show (147 : Nat) ≠ 148 by decide), uI_ne (show (148 : Nat) ≠ 126 by decide)]
    by_cases e : j = l
    · subst e
      exact ⟨f, g, hf, hg, hfg, uI_self _ _ _ _, uI_self _ _ _ _, uI_self _ _ _ _, uI_self _ _ _ _⟩
    · obtain ⟨x, y, q1, q2, q3, q4, q5, q6, q7⟩ := l4 j (by omega)
      exact ⟨x, y, q1, q2, q3, by rw [uI_ap, if_neg (by omega)]; exact q4, by rw [uI_ap, if_neg (by omega)]; exact q5, by rw [uI_ap, if_neg (by omega), uI_ne (by decide)]; exact q6, by rw [uI_ap, if_neg (by omega), uI_ne (by decide)]; exact q7⟩
theorem lt_le {v : Int32} {a : Nat} (h1 : 1 ≤ a) (h : a ≤ 6) : (0 ≤ v ∧ v < nI a) ↔ (0 ≤ v ∧ v ≤ nI (a - 1)) := by
  rw [has_eq (G := fun _ _ => nI a) (n := a) rfl h rfl]
  unfold isA
  rw [nI_s1 h1]
def RLO (S S' : Mem) (p x a l : Nat) (I0 : Mem) (r : Nat) : Prop := x ≤ r ∧ ((S' 126 26 = 1 ∧ Bad (S 143) p x I0 r) ∨ ∃ I1, x < r ∧ Sgo (S 143) p x I0 r I1 ∧ RM a a (l + 1) I1 S' ∧ MS a I1 (S' 126 29) ∧ I1 5 1 = 9)
set_option maxHeartbeats 4000000 in
theorem c_readLink {I S : Mem} {J : Mel} {Q : Option Value → Mem → Mem → Mel → Prop} {p x a l : Nat} {I0 : Mem} (hP_q : PG S p) (hR_q : RM a a l I0 S) (hM_q : MS a I0 (S 126 29)) (ha1_q : 1 ≤ a) (hl_q : l < 6) (hd_q : (I0 5 1 = 6 ∧ x < p) ∨ (I0 5 1 = 7 ∧ x ≤ p)) (k : ∀ (r : Nat) (S' : Mem), kpR S S' → RLO S S' p x a l I0 r → Q (some (.int (nI r))) I S' J) : M2 mX11_readLink 3 [.ref 126, .int (nI x)] I S J Q := by
  have p84_q := hP_q.2.1
  have h6_q := hR_q.2.1
  have m_q := hR_q.2.2.1
  have a6_q := hR_q.1
  have lk_q := hR_q.2.2.2.2.1.2.2.1
  have hxp0_q : x ≤ p := hd_q.elim (fun q => by omega) (fun q => q.2)
  have hdd_q : I0 5 1 = 6 ∨ I0 5 1 = 7 := hd_q.elim (fun q => Or.inl q.1) (fun q => Or.inr q.1)
  refine m2_of [.ref 126, .int (nI x)] moX11_readLink (Nat.le_of_ble_eq_true rfl) rfl ?_
  refine wp_aload_n dX11_readLink_0 rfl ?_
  refine wp_iload_n dX11_readLink_1 rfl ?_
  refine g_callV1 (mj := mX11_figure) dX11_readLink_2 lkRX11_168 mkX11_figure (by first | rfl | assumption) (by decide) (by decide) (Nat.le_of_ble_eq_true rfl) (c_figure hP_q (by omega) ?_)
  refine wp_iconst 0 dX11_readLink_5 (by decide) ?_
  refine wp_aload_n dX11_readLink_6 rfl ?_
  refine m_getI dX11_readLink_7 flRX11_165 (by first | rfl | assumption) (by decide) ?_
  rw [m_q]
  refine wp_iconst 1 dX11_readLink_10 (by decide) ?_
  refine wp_isub dX11_readLink_11 ?_
  rw [nI_s1 ha1_q]
  refine g_callS3 (mj := mX11_within) dX11_readLink_12 lkRX11_149 mkX11_within (by decide) (by decide) (Nat.le_of_ble_eq_true rfl) (c_within ?_)
  refine wp_if_ne dX11_readLink_15 (fun h15 => ?_) (fun h15 => ?_)
  · skip
    obtain ⟨hxp_q, f, hf_q, ef_q, eP_q⟩ := fg_in hP_q (b := a - 1) (by omega) (b01_ne h15)
    have tf_q := fg_ok hf_q (by omega)
    have f5_q : f < a := by omega
    have ea_q : aTk I0 (S 143 x) = some (uI (uI I0 5 3 (nI f)) 5 1 8) := by rw [aTk_67 hdd_q, eP_q, tf_q.2.2, h6_q, if_pos ((lt_le ha1_q hR_q.1).mpr ⟨nI_pos' (by omega), (nI_leg (by omega) (by omega)).mpr (by omega)⟩)]
    refine wp_aload_n dX11_readLink_24 rfl ?_
    refine wp_iload_n dX11_readLink_25 rfl ?_
    refine wp_iconst 1 dX11_readLink_26 (by decide) ?_
    refine wp_iadd dX11_readLink_27 ?_
    rw [nI_1]
    refine g_callV1 (mj := mX11_figure) dX11_readLink_28 lkRX11_168 mkX11_figure (by first | rfl | assumption) (by decide) (by decide) (Nat.le_of_ble_eq_true rfl) (c_figure hP_q (by omega) ?_)
    refine wp_iconst 0 dX11_readLink_31 (by decide) ?_
    refine wp_aload_n dX11_readLink_32 rfl ?_
    refine m_getI dX11_readLink_33 flRX11_165 (by first | rfl | assumption) (by decide) ?_
    rw [m_q]
    refine wp_iconst 1 dX11_readLink_36 (by decide) ?_
    refine wp_isub dX11_readLink_37 ?_
    rw [nI_s1 ha1_q]
    refine g_callS3 (mj := mX11_within) dX11_readLink_38 lkRX11_149 mkX11_within (by decide) (by decide) (Nat.le_of_ble_eq_true rfl) (c_within ?_)
    refine wp_if_eq dX11_readLink_41 (fun h41 => ?_) (fun h41 => ?_)
    · skip
      refine wp_aload_n dX11_readLink_63 rfl ?_
      refine wp_iload_n dX11_readLink_64 rfl ?_
      refine wp_iconst 1 dX11_readLink_65 (by decide) ?_
      refine wp_iadd dX11_readLink_66 ?_
      rw [nI_1]
      refine g_callV1 (mj := mX11_broken) dX11_readLink_67 lkRX11_171 mkX11_broken (by first | rfl | assumption) (by decide) (by decide) (Nat.le_of_ble_eq_true rfl) (c_broken ?_)
      refine g_iret dX11_readLink_70 rfl ?_
      refine k (x + 1) _ (kpR.rf.st (by omega)) ⟨by omega, Or.inl ⟨uI_self _ _ _ _, (Sgo.step hxp_q ea_q).bad (Bad.stop (by omega) (fun hk_q => ?_) (fun _ => by rw [uI_self]; decide))⟩⟩
      rw [aTk_8 (uI_self _ _ _ _), if_neg]
      intro q
      first
      | (obtain ⟨ht1_q, ht2_q⟩ := hto_q.resolve_right (fun q => h60 q.1); rw [eP2_q, tg_q.2.2, e53_q, e122_q, tn_nI (by omega)] at q; rw [nI_eqg (by omega) (by omega)] at q; exact (fd_told (S := S) ((hR_q.i5 (j := 3) (x := nI f)).i5 (j := 1) (x := 8)).2.2.2.2.1 a6_q (by omega) (by omega) (fun e => q.2.1 e.symm)).mp q.2.2 ht2_q)
      | (have q1 := q.1; rw [uI_ne (by decide), uI_ne (by decide), h6_q, lt_le ha1_q a6_q] at q1; exact (fg_out hP_q (b := a - 1) (by omega) (b01_e0 h41) hk_q).1 q1)
    · skip
      obtain ⟨hyp_q, g, hg_q, eg_q, eP2_q⟩ := fg_in hP_q (b := a - 1) (by omega) (b01_ne h41)
      have tg_q := fg_ok hg_q (by omega)
      have e53_q : (uI (uI I0 5 3 (nI f)) 5 1 8) 5 3 = nI f := by rw [uI_ap, if_neg (by decide), uI_self]
      have e66_q : (uI (uI I0 5 3 (nI f)) 5 1 8) 6 6 = nI a := by rw [uI_ne (by decide), uI_ne (by decide)]; exact h6_q
      have e122_q : (uI (uI I0 5 3 (nI f)) 5 1 8) 12 2 = nI l := by rw [uI_ne (by decide), uI_ne (by decide)]; exact hR_q.2.2.2.2.1.2.1
      refine wp_aload_n dX11_readLink_44 rfl ?_
      refine wp_aload_n dX11_readLink_45 rfl ?_
      refine wp_iload_n dX11_readLink_46 rfl ?_
      refine g_callV1 (mj := mX11_figure) dX11_readLink_47 lkRX11_168 mkX11_figure (by first | rfl | assumption) (by decide) (by decide) (Nat.le_of_ble_eq_true rfl) (c_figure hP_q (by omega) ?_)
      refine wp_aload_n dX11_readLink_50 rfl ?_
      refine wp_iload_n dX11_readLink_51 rfl ?_
      refine wp_iconst 1 dX11_readLink_52 (by decide) ?_
      refine wp_iadd dX11_readLink_53 ?_
      rw [nI_1]
      refine g_callV1 (mj := mX11_figure) dX11_readLink_54 lkRX11_168 mkX11_figure (by first | rfl | assumption) (by decide) (by decide) (Nat.le_of_ble_eq_true rfl) (c_figure hP_q (by omega) ?_)
      rw [ef_q, eg_q]
      refine g_callV2 (mj := mX11_isTold) dX11_readLink_57 lkRX11_194 mkX11_isTold (by first | rfl | assumption) (by decide) (by decide) (Nat.le_of_ble_eq_true rfl) (c_told lk_q (by omega) (fun tr hto_q => ?_))
      refine wp_if_eq dX11_readLink_60 (fun h60 => ?_) (fun h60 => ?_)
      · skip
        have hnt_q := (hto_q.resolve_left (fun q => by rw [q.1] at h60; first | exact h60 (by decide) | exact absurd h60 (by decide))).2
        have hfg_q : f ≠ g := fun q => hnt_q (Or.inl (by rw [q]))
        have hP1_q : PG (uI S 147 l (nI f)) p := (kpR.rf.st (by omega)).pg hP_q
        refine wp_aload_n dX11_readLink_71 rfl ?_
        refine wp_getA (by first | rfl | assumption) dX11_readLink_72 flRX11_71 (by first | rfl | assumption) ?_
        refine wp_aload_n dX11_readLink_75 rfl ?_
        refine m_getI dX11_readLink_76 flRX11_191 (by first | rfl | assumption) (by decide) ?_
        rw [lk_q]
        refine wp_aload_n dX11_readLink_79 rfl ?_
        refine wp_iload_n dX11_readLink_80 rfl ?_
        refine g_callV1 (mj := mX11_figure) dX11_readLink_81 lkRX11_168 mkX11_figure (by first | rfl | assumption) (by decide) (by decide) (Nat.le_of_ble_eq_true rfl) (c_figure hP_q (by omega) ?_)
        rw [ef_q]
        refine m_iast dX11_readLink_84 rfl rfl (by omega) (by decide) (by decide) ?_
        refine wp_aload_n dX11_readLink_85 rfl ?_
        refine wp_getA (by first | rfl | assumption) dX11_readLink_86 flRX11_74 (by first | rfl | assumption) ?_
        refine wp_aload_n dX11_readLink_89 rfl ?_
        refine m_getI dX11_readLink_90 flRX11_191 (by first | rfl | assumption) (by decide) ?_
        rw [uI_ne (by decide), lk_q]
        refine wp_aload_n dX11_readLink_93 rfl ?_
        refine wp_iload_n dX11_readLink_94 rfl ?_
        refine wp_iconst 1 dX11_readLink_95 (by decide) ?_
        refine wp_iadd dX11_readLink_96 ?_
        rw [nI_1]
        refine g_callV1 (mj := mX11_figure) dX11_readLink_97 lkRX11_168 mkX11_figure (by first | rfl | assumption) (by decide) (by decide) (Nat.le_of_ble_eq_true rfl) (c_figure hP1_q (by omega) ?_)
        rw [(fg_u (by decide)).1, eg_q]
        refine m_iast dX11_readLink_100 rfl rfl (by omega) (by decide) (by decide) ?_
        refine wp_aload_n dX11_readLink_101 rfl ?_
        refine wp_dup dX11_readLink_102 rfl ?_
        refine m_getI dX11_readLink_103 flRX11_191 (by first | rfl | assumption) (by decide) ?_
        rw [uI_ne (by decide), uI_ne (by decide), lk_q]
        refine wp_iconst 1 dX11_readLink_106 (by decide) ?_
        refine wp_iadd dX11_readLink_107 ?_
        refine m_putI dX11_readLink_108 flRX11_191 (by first | rfl | assumption) (by decide) ?_
        refine wp_iload_n dX11_readLink_111 rfl ?_
        refine wp_iconst 2 dX11_readLink_112 (by decide) ?_
        refine wp_iadd dX11_readLink_113 ?_
        refine g_iret dX11_readLink_114 rfl ?_
        have eb_q : aTk (uI (uI I0 5 3 (nI f)) 5 1 8) (S 143 (x + 1)) = some (uI (uI (uI (uI (uI (uI I0 5 3 (nI f)) 5 1 8) 13 l (nI f)) 14 l (nI g)) 12 2 (nI l + 1)) 5 1 9) := by
          rw [aTk_8 (uI_self _ _ _ _), eP2_q, tg_q.2.2, e53_q, e122_q, e66_q, tn_nI (by omega), if_pos]
          exact ⟨(lt_le ha1_q a6_q).mpr ⟨nI_pos' (by omega), (nI_leg (by omega) (by omega)).mpr (by omega)⟩, by rw [nI_eqg (by omega) (by omega)]; exact fun e => hfg_q e.symm, (fd_told (S := S) ((hR_q.i5 (j := 3) (x := nI f)).i5 (j := 1) (x := 8)).2.2.2.2.1 a6_q (by omega) (by omega) hfg_q).mpr hnt_q⟩
        rw [nI_2]
        refine k (x + 2) _ (((kpR.rf.st (by omega)).st (by omega)).st (by omega)) ⟨by omega, Or.inr ⟨_, by omega, (Sgo.step hxp_q ea_q).tr (Sgo.step hyp_q eb_q), ((hR_q.i5 (j := 3) (x := nI f)).i5 (j := 1) (x := 8)).lnk hl_q f5_q (by omega) hfg_q, ?_, uI_self _ _ _ _⟩⟩
        rw [uI_ap, if_neg (by decide), uI_ne (by decide), uI_ne (by decide)]
        exact MS.i5 (((hM_q.i5 (j := 3) (x := nI f)).i5 (j := 1) (x := 8)).cg (by rw [uI_ne (by decide), uI_ne (by decide), uI_ne (by decide)]) (by rw [uI_ne (by decide), uI_ne (by decide), uI_ne (by decide)]) (by rw [uI_ne (by decide), uI_ne (by decide), uI_ne (by decide)]))
      · skip
        refine wp_aload_n dX11_readLink_63 rfl ?_
        refine wp_iload_n dX11_readLink_64 rfl ?_
        refine wp_iconst 1 dX11_readLink_65 (by decide) ?_
        refine wp_iadd dX11_readLink_66 ?_
        rw [nI_1]
        refine g_callV1 (mj := mX11_broken) dX11_readLink_67 lkRX11_171 mkX11_broken (by first | rfl | assumption) (by decide) (by decide) (Nat.le_of_ble_eq_true rfl) (c_broken ?_)
        refine g_iret dX11_readLink_70 rfl ?_
        refine k (x + 1) _ (kpR.rf.st (by omega)) ⟨by omega, Or.inl ⟨uI_self _ _ _ _, (Sgo.step hxp_q ea_q).bad (Bad.stop (by omega) (fun hk_q => ?_) (fun _ => by rw [uI_self]; decide))⟩⟩
        rw [aTk_8 (uI_self _ _ _ _), if_neg]
        intro q
        first
        | (obtain ⟨ht1_q, ht2_q⟩ := hto_q.resolve_right (fun q => h60 q.1); rw [eP2_q, tg_q.2.2, e53_q, e122_q, tn_nI (by omega)] at q; rw [nI_eqg (by omega) (by omega)] at q; exact (fd_told (S := S) ((hR_q.i5 (j := 3) (x := nI f)).i5 (j := 1) (x := 8)).2.2.2.2.1 a6_q (by omega) (by omega) (fun e => q.2.1 e.symm)).mp q.2.2 ht2_q)
        | (have q1 := q.1; rw [uI_ne (by decide), uI_ne (by decide), h6_q, lt_le ha1_q a6_q] at q1; exact (fg_out hP_q (b := a - 1) (by omega) (b01_e0 h41) hk_q).1 q1)
  · skip
    refine wp_aload_n dX11_readLink_18 rfl ?_
    refine wp_iload_n dX11_readLink_19 rfl ?_
    refine g_callV1 (mj := mX11_broken) dX11_readLink_20 lkRX11_171 mkX11_broken (by first | rfl | assumption) (by decide) (by decide) (Nat.le_of_ble_eq_true rfl) (c_broken ?_)
    refine g_iret dX11_readLink_23 rfl ?_
    refine k x _ (kpR.rf.st (by omega)) ⟨Nat.le_refl _, Or.inl ⟨uI_self _ _ _ _, Bad.stop hxp0_q (fun hk_q => ?_) (fun e_q => ?_)⟩⟩
    · rw [aTk_67 hdd_q, h6_q, if_neg (fun q => (fg_out hP_q (b := a - 1) (by omega) (b01_e0 (by first | exact h15 | exact Classical.not_not.mp h15)) hk_q).1 ((lt_le ha1_q a6_q).mp q))]
    · rcases hd_q with q | q
      · omega
      · rw [q.1]; decide
