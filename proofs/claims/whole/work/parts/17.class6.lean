/-! which letter is taken: the same by both -/
theorem wl_new {G : Mem} {i : Nat} {v : Int32} (h4 : G 127 i = 4) (z : Nat) : (wl G i v z = -1 ∧ ∀ j, j < z → ¬ (v = 200 ∨ G 134 (5 * i + j) = v - 100)) ∨ ∃ p, p < z ∧ wl G i v z = nI p ∧ (v = 200 ∨ G 134 (5 * i + p) = v - 100) ∧ ∀ j, p < j → j < z → ¬ (v = 200 ∨ G 134 (5 * i + j) = v - 100) := by
  induction z with
  | zero => exact Or.inl ⟨rfl, fun j hj => by omega⟩
  | succ z ih =>
    simp only [wl]
    by_cases hm : v = 200 ∨ G 134 (5 * i + z) = v - 100
    · rw [if_pos ⟨hm, Or.inr h4⟩]
      exact Or.inr ⟨z, by omega, rfl, hm, fun j h1 h2 => by omega⟩
    · rw [if_neg (fun q => hm q.1)]
      rcases ih with ⟨h1, h2⟩ | ⟨p, h1, h2, h3, h5⟩
      · refine Or.inl ⟨h1, fun j hj => ?_⟩
        by_cases hjz : j = z
        · rw [hjz]; exact hm
        · exact h2 j (by omega)
      · refine Or.inr ⟨p, by omega, h2, h3, fun j h6 h7 => ?_⟩
        by_cases hjz : j = z
        · rw [hjz]; exact hm
        · exact h5 j h6 (by omega)
theorem wl_old {G : Mem} {i : Nat} {v : Int32} (h4 : ¬ G 127 i = 4) (z : Nat) (hz : z < 1000) : (wl G i v z = -1 ∧ ∀ j, j < z → ¬ (v = 200 ∨ G 134 (5 * i + j) = v - 100)) ∨ ∃ p, p < z ∧ wl G i v z = nI p ∧ (v = 200 ∨ G 134 (5 * i + p) = v - 100) ∧ ∀ j, j < p → ¬ (v = 200 ∨ G 134 (5 * i + j) = v - 100) := by
  induction z with
  | zero => exact Or.inl ⟨rfl, fun j hj => by omega⟩
  | succ z ih =>
    simp only [wl]
    rcases ih (by omega) with ⟨h1, h2⟩ | ⟨p, h1, h2, h3, h5⟩
    · by_cases hm : v = 200 ∨ G 134 (5 * i + z) = v - 100
      · rw [if_pos ⟨hm, Or.inl h1⟩]
        exact Or.inr ⟨z, by omega, rfl, hm, fun j h1 => h2 j h1⟩
      · rw [if_neg (fun q => hm q.1)]
        refine Or.inl ⟨h1, fun j hj => ?_⟩
        by_cases hjz : j = z
        · rw [hjz]; exact hm
        · exact h2 j (by omega)
    · rw [if_neg (fun q => q.2.elim (fun e => nI_small (n := p) (by omega) (h2.symm.trans e)) h4)]
      exact Or.inr ⟨p, by omega, h2, h3, h5⟩
/-- the class's sign u, the model's v, for the same letters -/
def sgR (u v : Int32) : Prop := (u = 9 ∧ v = 200) ∨ ∃ x, x ≤ 8 ∧ u = nI x ∧ v = nI (100 + x)
theorem sgR_m {u v : Int32} (h : sgR u v) {f : Nat → Int32} {g : Int32} {j : Nat} (e : f j = g) : mtc f u j ↔ (v = 200 ∨ g = v - 100) := by
  unfold mtc
  rcases h with ⟨h1, h2⟩ | ⟨x, hx, h1, h2⟩
  · simp [h1, h2]
  · have e1 : nI (100 + x) - 100 = nI x := by
      rw [← nI_add, Int32.sub_eq_add_neg, Int32.add_assoc, Int32.add_comm (nI x), ← Int32.add_assoc]
      have : nI 100 + -100 = 0 := by decide
      rw [this, Int32.zero_add]
    have e2 : ¬ nI x = 9 := by
      rw [show (9 : Int32) = nI 9 from rfl, nI_eqg (by omega) (by omega)]; omega
    have e3 : ¬ nI (100 + x) = 200 := by
      rw [show (200 : Int32) = nI 200 from rfl, nI_eqg (by omega) (by omega)]; omega
    rw [h1, h2, e1, e]
    simp [e2, e3]
theorem want_eq {G I : Mem} {i a z : Nat} {u v r : Int32} (hs : sgR u v) (hz : G 133 i = nI z) (hz5 : z ≤ 5) (hf : ∀ j, j < z → I (a + 2) j = G 134 (5 * i + j)) (hk : I a 1 = G 127 i) (h : (I a 1 = 3 ∧ r = -1) ∨ (¬ I a 1 = 3 ∧ I a 1 = 4 ∧ NewP (I (a + 2)) u z r) ∨ (¬ I a 1 = 3 ∧ ¬ I a 1 = 4 ∧ OldP (I (a + 2)) u z r)) : r = fWant G i v := by
  unfold fWant
  rw [hz, tn_nI (by omega), ← hk]
  have hm : ∀ j, j < z → (mtc (I (a + 2)) u j ↔ (v = 200 ∨ G 134 (5 * i + j) = v - 100)) := fun j hj => sgR_m hs (hf j hj)
  rcases h with ⟨h1, h2⟩ | ⟨h1, h2, h3⟩ | ⟨h1, h2, h3⟩
  · rw [if_pos h1]; exact h2
  · rw [if_neg h1]
    have hw := wl_new (v := v) (hk.symm.trans h2) z
    rcases h3 with ⟨a1, a2⟩ | ⟨p, a1, a2, a3, a4⟩ <;> rcases hw with ⟨b1, b2⟩ | ⟨q, b1, b2, b3, b4⟩
    · rw [a1, b1]
    · exact absurd ((hm q b1).mpr b3) (a2 q b1)
    · exact absurd ((hm p a1).mp a3) (b2 p a1)
    · rw [a2, b2]
      have : p = q := by
        rcases Nat.lt_trichotomy p q with c | c | c
        · exact absurd ((hm q b1).mpr b3) (a4 q c b1)
        · exact c
        · exact absurd ((hm p a1).mp a3) (b4 p c a1)
      rw [this]
  · rw [if_neg h1]
    have hw := wl_old (v := v) (fun e => h2 (hk.trans e)) z (by omega)
    rcases h3 with ⟨a1, a2⟩ | ⟨p, a1, a2, a3, a4⟩ <;> rcases hw with ⟨b1, b2⟩ | ⟨q, b1, b2, b3, b4⟩
    · rw [a1, b1]
    · exact absurd ((hm q b1).mpr b3) (a2 q b1)
    · exact absurd ((hm p a1).mp a3) (b2 p a1)
    · rw [a2, b2]
      have : p = q := by
        rcases Nat.lt_trichotomy p q with c | c | c
        · exact absurd ((hm p a1).mp a3) (b4 p c)
        · exact c
        · exact absurd ((hm q b1).mpr b3) (a4 q c)
      rw [this]
theorem fGoOn_g (G : Mem) (i : Nat) : (fGoOn G i) 126 35 = G 126 35 + 1 := by unfold fGoOn; exact uI_self _ _ _ _
set_option maxHeartbeats 4000000 in
theorem c_waitFor {I S : Mem} {J : Mel} {Q : Option Value → Mem → Mem → Mel → Prop} {n T k : Nat} {dl : Int32} {G : Mem} (hH_q : Hc n T dl I k G) {i : Nat} {u v : Int32} (hi_q : i < n) (hs_q : sgR u v) (kk_q : ∀ I' r, Rc n dl I' k (fWaits G i v) → Fr k I I' → (r = 0 ∨ r = 1) → (fWaits G i v) 126 35 = G 126 35 + r → Q (some (.int r)) I' S J) : M2 mX2_waitFor 3 [.ref k, .int (nI i), .int u] I S J Q := by
  obtain ⟨hC_q, hW_q, hR_q, hP_q, hT_q⟩ := id hH_q
  obtain ⟨c1_q, c2_q, c3_q, c4_q, c5_q, c6_q, c7_q, c8_q, c9_q, c10_q, c11_q, c12_q, c13_q, c14_q⟩ := id hC_q
  have hn_q := hW_q.1
  have c5i_q := c5_q i (by omega)
  have cAi_q := c12_q i (by omega)
  obtain ⟨a1i_q, a2i_q, aBi_q, a6i_q⟩ := id cAi_q
  obtain ⟨b1i_q, b2i_q, b3i_q, b4i_q, b5i_q, b6i_q⟩ := id aBi_q
  obtain ⟨r1i_q, r2i_q, r3i_q, r4i_q, r5i_q, r6i_q, r7i_q, r8i_q, r9i_q⟩ := hR_q.2.2.1 i (by omega)
  obtain ⟨z, hz5_q, hz_q⟩ := hW_q.box hi_q
  have hzI_q : I (k + 9 + 4 * i + 1) 2 = nI z := r8i_q.trans hz_q
  obtain ⟨-, -, -, ⟨wt, wt1_q, wt2_q⟩, -⟩ := hW_q.2.2.2.2 i hi_q
  have e3_q : (3 : Int32) = nI 3 := rfl
  have hkp_q : ∀ {x : Int32}, kpD G (uI G 132 i x) := fun {x} => kpD.rf.st (by omega)
  have b0_q := hW_q.bx
  refine m2_of [.ref k, .int (nI i), .int u, dum, dum] moX2_waitFor (Nat.le_of_ble_eq_true rfl) rfl ?_
  refine wp_aload_n dX2_waitFor_0 rfl ?_
  refine wp_getA (by first | rfl | assumption) dX2_waitFor_1 flRX2_11 (by first | rfl | assumption) ?_
  refine wp_iload_n dX2_waitFor_4 rfl ?_
  refine wp_aald c5i_q dX2_waitFor_5 c4_q rfl (by omega) (by decide) ?_
  refine st_a_5_3 dX2_waitFor_6 (by decide) rfl ?_
  refine wp_aload_n dX2_waitFor_7 rfl ?_
  refine wp_iload_n dX2_waitFor_8 rfl ?_
  refine g_callV1 (mj := mX0_placeToTake) dX2_waitFor_9 lkRX2_110 mkX0_placeToTake (by first | rfl | assumption) (by decide) (by decide) (Nat.le_of_ble_eq_true rfl) (c_place cAi_q hzI_q hz5_q (fun r hr_q => ?_))
  have er_q : r = fWant G i v := want_eq hs_q hz_q hz5_q (fun j hj => (r9i_q j (by rw [hz_q, tn_nI (by omega)]; exact hj)).1) r1i_q hr_q
  rw [er_q]
  refine st_i_5_4 dX2_waitFor_12 (by decide) rfl ?_
  refine wp_iload dX2_waitFor_14 rfl ?_
  refine wp_iconst (-1) dX2_waitFor_16 (by decide) ?_
  refine wp_icmp_eq dX2_waitFor_17 (fun h17 => ?_) (fun h17 => ?_)
  · skip
    refine wp_aload_n dX2_waitFor_32 rfl ?_
    refine c_getI dX2_waitFor_33 flRX2_123 (by first | rfl | assumption) (by omega) ?_
    refine wp_iconst 1 dX2_waitFor_36 (by decide) ?_
    refine wp_iadd dX2_waitFor_37 ?_
    refine wp_iconst 3 dX2_waitFor_38 (by decide) ?_
    refine wp_icmp_ge dX2_waitFor_39 (fun h39 => ?_) (fun h39 => ?_)
    · skip
      have hw2_q : wt = 2 := by rw [r4i_q, wt2_q, nI_1, e3_q, nI_leg (by omega) (by omega)] at h39; omega
      have rw_q := hR_q.waited b0_q hi_q (x := 0)
      have ww_q : WS n T (uI G 132 i 0) := hW_q.waited hi_q (u := 0) (by omega)
      have fr_q : Fr k I (uI I (k + 9 + 4 * i) 4 0) := Fr.rf.st (by omega)
      have hh_q := hH_q.go ww_q rw_q fr_q hkp_q hT_q
      refine wp_aload_n dX2_waitFor_54 rfl ?_
      refine wp_iconst 0 dX2_waitFor_55 (by decide) ?_
      refine c_putI dX2_waitFor_56 flRX2_123 (by first | rfl | assumption) (by omega) ?_
      refine wp_aload_n dX2_waitFor_59 rfl ?_
      refine wp_iload_n dX2_waitFor_60 rfl ?_
      refine g_callV1 (mj := mX2_goOn) dX2_waitFor_61 lkRX2_104 mkX2_goOn (by first | rfl | assumption) (by decide) (by decide) (Nat.le_of_ble_eq_true rfl) (c_cgoOn hh_q hi_q (fun I2 m1_q m2_q => ?_))
      refine wp_iconst 1 dX2_waitFor_64 (by decide) ?_
      refine g_zret dX2_waitFor_65 rfl (by decide) ?_
      have ef_q : fWaits G i v = fGoOn (uI G 132 i 0) i := by unfold fWaits; rw [if_pos h17, if_pos (by rw [wt2_q, hw2_q]; rfl), uI_uI]
      refine kk_q _ _ (by rw [ef_q]; exact m1_q) (fr_q.tr m2_q) (Or.inr rfl) ?_
      rw [ef_q, fGoOn_g, uI_ap, if_neg (by omega)]
    · skip
      refine wp_aload_n dX2_waitFor_42 rfl ?_
      refine wp_dup dX2_waitFor_43 rfl ?_
      refine c_getI dX2_waitFor_44 flRX2_123 (by first | rfl | assumption) (by omega) ?_
      refine wp_iconst 1 dX2_waitFor_47 (by decide) ?_
      refine wp_iadd dX2_waitFor_48 ?_
      refine c_putI dX2_waitFor_49 flRX2_123 (by first | rfl | assumption) (by omega) ?_
      refine wp_iconst 0 dX2_waitFor_52 (by decide) ?_
      refine g_zret dX2_waitFor_53 rfl (by decide) ?_
      have hw2_q : wt + 1 < 3 := by rw [r4i_q, wt2_q, nI_1, e3_q, nI_leg (by omega) (by omega)] at h39; omega
      have ef_q : fWaits G i v = uI G 132 i (G 132 i + 1) := by unfold fWaits; rw [if_pos h17, if_neg (by rw [wt2_q, nI_1, e3_q, nI_eqg (by omega) (by omega)]; omega)]
      rw [r4i_q]
      refine kk_q _ _ (by rw [ef_q]; exact hR_q.waited b0_q hi_q) (Fr.rf.st (by omega)) (Or.inl rfl) ?_
      rw [ef_q, uI_ap, if_neg (by omega), Int32.add_zero]
  · skip
    obtain ⟨p, hp_q, ep_q⟩ := (fWant_r G (u := v) hz_q hz5_q).resolve_left h17
    rw [ep_q]
    refine wp_aload_n dX2_waitFor_20 rfl ?_
    refine wp_getA (by first | rfl | assumption) dX2_waitFor_21 flRX2_114 (by first | rfl | assumption) ?_
    refine wp_iload dX2_waitFor_24 rfl ?_
    refine g_callV1 (mj := mX1_takeOut) dX2_waitFor_26 lkRX2_118 mkX1_takeOut (by first | rfl | assumption) (by decide) (by decide) (Nat.le_of_ble_eq_true rfl) (c_btake aBi_q hzI_q hz5_q hp_q ?_)
    have rt_q := hR_q.take b0_q hi_q hz_q hz5_q hp_q
    have wt_q := hW_q.take hi_q hz_q hz5_q hp_q
    have rw_q := rt_q.waited wt_q.bx hi_q (x := 0)
    have ww_q : WS n T (uI (fTake G i p) 132 i 0) := wt_q.waited hi_q (u := 0) (by omega)
    have fr_q : Fr k I (uI (uI (tkC I (k + 9 + 4 * i + 1) p z) (k + 9 + 4 * i + 1) 2 (nI z - 1)) (k + 9 + 4 * i) 4 0) := Fr.st (Fr.st (fun b hb_q => tkC_n _ _ _ _ (by omega) (by omega)) (by omega)) (by omega)
    have hh_q := hH_q.go ww_q rw_q fr_q ((kpD.take _ _ _).st (by omega)) hT_q
    refine wp_goto dX2_waitFor_29 ?_
    refine wp_aload_n dX2_waitFor_54 rfl ?_
    refine wp_iconst 0 dX2_waitFor_55 (by decide) ?_
    refine c_putI dX2_waitFor_56 flRX2_123 (by first | rfl | assumption) (by omega) ?_
    refine wp_aload_n dX2_waitFor_59 rfl ?_
    refine wp_iload_n dX2_waitFor_60 rfl ?_
    refine g_callV1 (mj := mX2_goOn) dX2_waitFor_61 lkRX2_104 mkX2_goOn (by first | rfl | assumption) (by decide) (by decide) (Nat.le_of_ble_eq_true rfl) (c_cgoOn hh_q hi_q (fun I2 m1_q m2_q => ?_))
    refine wp_iconst 1 dX2_waitFor_64 (by decide) ?_
    refine g_zret dX2_waitFor_65 rfl (by decide) ?_
    have ef_q : fWaits G i v = fGoOn (uI (fTake G i p) 132 i 0) i := by unfold fWaits; rw [if_neg h17, ep_q, tn_nI (by omega)]
    refine kk_q _ _ (by rw [ef_q]; exact m1_q) (fr_q.tr m2_q) (Or.inr rfl) ?_
    rw [ef_q, fGoOn_g, uI_ap, if_neg (by omega)]; unfold fTake; rw [uI_ap, if_neg (by omega), tkS_n _ _ _ _ (by decide) (by decide)]
