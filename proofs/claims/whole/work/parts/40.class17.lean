/-! the sum of the falls grows as the model's own count -/
def dwD (n : Nat) (S S' : Mem) : Prop := smI (S' 136) n - S' 126 36 = smI (S 136) n - S 126 36
theorem dwD.same {n : Nat} {S S' : Mem} (h : S' 136 = S 136) (h2 : S' 126 36 = S 126 36) : dwD n S S' := by unfold dwD; rw [h, h2]
theorem dwD.tr {n : Nat} {S S' S2 : Mem} (h : dwD n S S') (h2 : dwD n S' S2) : dwD n S S2 := Eq.trans h2 h
theorem smI_up (f : Nat → Int32) (a : Nat) (g : Nat → Int32) (hg : ∀ j, g j = if j = a then f j + 1 else f j) : ∀ n, smI g n = smI f n + (if a < n then 1 else 0) := by
  intro n
  induction n with
  | zero => simp [smI]
  | succ n ih =>
    simp only [smI]
    rw [ih, hg n]
    by_cases e : n = a
    · subst e; simp [Int32.add_assoc]
    · by_cases e2 : a < n
      · rw [if_pos e2, if_neg e, if_pos (by omega), Int32.add_assoc, Int32.add_comm 1, Int32.add_assoc]
      · rw [if_neg e2, if_neg e, if_neg (by omega)]; simp
theorem dwD.down {n a : Nat} {S : Mem} (ha : a < n) : dwD n S (fDown S a) := by
  unfold dwD
  have h := smI_up (S 136) a ((fDown S a) 136) (fun j => by simp only [fDown, uI_ap]; by_cases e : j = a <;> simp [e]) n
  rw [h, if_pos ha]
  have h2 : (fDown S a) 126 36 = S 126 36 + 1 := by simp [fDown, uI_ap]
  rw [h2]
  generalize smI (S 136) n = X
  generalize S 126 36 = Y
  rw [Int32.sub_eq_add_neg, Int32.neg_add, Int32.sub_eq_add_neg]
  grind
theorem dwD.hear {n : Nat} (S : Mem) (a f : Nat) : dwD n S (fHear S a f) := by
  unfold fHear
  split
  · unfold fPost; split <;> exact dwD.same (by simp [uI_ne]) (by simp [uI_ap])
  · split
    · unfold fBegin; exact dwD.same (by simp [uI_ne]) (by simp [uI_ap])
    · unfold fStand; exact dwD.same (by simp [uI_ne]) (by simp [uI_ap])
theorem dwD.lk {n : Nat} (S : Mem) (a k : Nat) : dwD n S (fLk S a k) := by
  induction k with
  | zero => exact dwD.same rfl rfl
  | succ k ih =>
    simp only [fLk]
    split
    · exact ih.tr (dwD.hear _ _ _)
    · exact ih
theorem dwD.row {n T : Nat} : ∀ (m f r : Nat) (S : Mem), RV n T f r S → dwD n S (fRow m S) := by
  intro m
  induction m with
  | zero => exact fun f r S h => dwD.same rfl rfl
  | succ m ih =>
    intro f r S h
    simp only [fRow]
    split
    next hc =>
      obtain ⟨h1, h2, h3, h4, h5⟩ := id h
      have hn := h1.1
      rw [h2, h4.1, nI_ltg (by omega) (by omega)] at hc
      obtain ⟨r', h'⟩ := h.next hc
      refine dwD.tr ?_ (ih _ _ _ h')
      obtain ⟨x, hx, ex⟩ := h4.2 f hc
      have s0 : dwD n S (uI S 126 37 (S 126 37 + 1)) := dwD.same (by simp [uI_ne]) (by simp [uI_ap])
      unfold fNext
      rw [h2, tn_nI (by omega), ex, tn_nI (by omega)]
      rw [h2] at s0
      split
      · unfold fFallOne; exact s0.tr ((dwD.down hx).tr (dwD.lk _ _ _))
      · exact s0
    · exact dwD.same rfl rfl
theorem dwD.fall {n T a : Nat} {S : Mem} (h : WS n T S) (ha : a < n) : dwD n S (fFall S a) := by
  unfold fFall
  refine dwD.tr ?_ (dwD.row 128 0 1 _ (RV.start h ha))
  unfold fStand
  exact dwD.same (by simp [uI_ne]) (by simp [uI_ap])
set_option maxHeartbeats 4000000 in
theorem c_pfell {I S : Mem} {J : Mel} {Q : Option Value → Mem → Mem → Mel → Prop} {n T : Nat} {G : Mem} (hH_q : Hc n T 0 I 24 G) {x : Int32} (hT9_q : T ≤ 9999) (k : ∀ I' T', T' ≤ 9999 → Hc n T' 0 I' 24 (spFell G x).2 → Fr 24 I I' → Q (some (.int (spFell G x).1)) I' S J) : M2 mX10_fell 6 [.ref 2, .int x] I S J Q := by
  obtain ⟨hC_q, hW_q, hR_q, hP_q, hT_q⟩ := id hH_q
  obtain ⟨c1_q, c2_q, c3_q, c4_q, c5_q, c6_q, c7_q, c8_q, c9_q, c10_q, c11_q, c12_q, c13_q, c14_q⟩ := id hC_q
  have hn_q := hW_q.1
  unfold spFell at k
  have hA_q := has_eq (x := x) hW_q.2.1 hn_q hP_q.1
  refine m2_of [.ref 2, .int x, dum] moX10_fell (Nat.le_of_ble_eq_true rfl) rfl ?_
  refine wp_aload_n dX10_fell_0 rfl ?_
  refine wp_getA (by first | rfl | assumption) dX10_fell_1 flRX10_26 (by first | rfl | assumption) ?_
  refine wp_iload_n dX10_fell_4 rfl ?_
  refine g_callV1 (mj := mX6_has) dX10_fell_5 lkRX10_92 mkX6_has (by first | rfl | assumption) (by decide) (by decide) (Nat.le_of_ble_eq_true rfl) (c_has plan15 ?_)
  refine wp_if_ne dX10_fell_8 (fun h8 => ?_) (fun h8 => ?_)
  · skip
    have hx_q := hA_q.mp (b01_ne h8)
    obtain ⟨i, hi_q, rfl⟩ := isA_of hW_q.2.1 hn_q hx_q
    have c5i_q := c5_q i (by omega)
    have cAi_q := c12_q i (by omega)
    obtain ⟨a1i_q, a2i_q, aBi_q, a6i_q⟩ := id cAi_q
    obtain ⟨b1i_q, b2i_q, b3i_q, b4i_q, b5i_q, b6i_q⟩ := id aBi_q
    obtain ⟨r1i_q, r2i_q, r3i_q, r4i_q, r5i_q, r6i_q, r7i_q, r8i_q, r9i_q⟩ := hR_q.2.2.1 i (by omega)
    obtain ⟨-, u_q, -⟩ := hW_q.2.2.2.2 i hi_q
    rw [if_pos hx_q, tn_nI (by omega)] at k
    refine wp_aload_n dX10_fell_14 rfl ?_
    refine wp_getA (by first | rfl | assumption) dX10_fell_15 flRX10_35 (by first | rfl | assumption) ?_
    refine wp_getA (by first | rfl | assumption) dX10_fell_18 flRX10_100 (by first | rfl | assumption) ?_
    refine wp_iload_n dX10_fell_21 rfl ?_
    refine wp_aald c5i_q dX10_fell_22 c4_q rfl (by omega) (by decide) ?_
    refine c_getZ dX10_fell_23 flRX10_126 (by first | rfl | assumption) (by omega) ?_
    refine wp_if_ne dX10_fell_26 (fun h26 => ?_) (fun h26 => ?_)
    · skip
      rw [r2i_q] at h26
      rw [if_neg h26] at k
      have hz_q := hH_q.gs (b := 126) (j := 36) (x := 0) (by unfold scrC; omega) (by omega)
      refine wp_aload_n dX10_fell_32 rfl ?_
      refine wp_getA (by first | rfl | assumption) dX10_fell_33 flRX10_35 (by first | rfl | assumption) ?_
      refine g_callV0 (mj := mX2_downsInAll) dX10_fell_36 lkRX10_146 mkX2_downsInAll (by first | rfl | assumption) (by decide) (by decide) (Nat.le_of_ble_eq_true rfl) (c_cdowns hH_q ?_)
      refine st_i_3_2 dX10_fell_39 (by decide) rfl ?_
      refine wp_aload_n dX10_fell_40 rfl ?_
      refine wp_getA (by first | rfl | assumption) dX10_fell_41 flRX10_35 (by first | rfl | assumption) ?_
      refine wp_iload_n dX10_fell_44 rfl ?_
      refine g_callV1 (mj := mX2_fall) dX10_fell_45 lkRX10_149 mkX2_fall (by first | rfl | assumption) (by decide) (by decide) (Nat.le_of_ble_eq_true rfl) (c_cfall hz_q hi_q (fun I2 hR2_q hf2_q => ?_))
      have h2_q := hz_q.go (hz_q.2.1.fall hi_q) hR2_q hf2_q (kpD.fall _ _) hT_q
      have d_q := dwD.fall hz_q.2.1 hi_q
      unfold dwD at d_q
      rw [uI_self, uI_ne (by decide)] at d_q
      have d2_q : smI ((fFall (uI G 126 36 0) i) 136) n - smI (G 136) n = (fFall (uI G 126 36 0) i) 126 36 := by grind
      refine wp_aload_n dX10_fell_48 rfl ?_
      refine wp_getA (by first | rfl | assumption) dX10_fell_49 flRX10_35 (by first | rfl | assumption) ?_
      refine g_callV0 (mj := mX2_downsInAll) dX10_fell_52 lkRX10_146 mkX2_downsInAll (by first | rfl | assumption) (by decide) (by decide) (Nat.le_of_ble_eq_true rfl) (c_cdowns h2_q ?_)
      refine wp_iload_n dX10_fell_55 rfl ?_
      refine wp_isub dX10_fell_56 ?_
      refine g_iret dX10_fell_57 rfl ?_
      rw [d2_q]; exact k _ _ hT9_q h2_q hf2_q
    · skip
      refine wp_bipush (-103) dX10_fell_29 (by decide) ?_
      refine g_iret dX10_fell_31 rfl ?_
      rw [r2i_q] at h26
      rw [if_pos (by first | exact h26 | exact Classical.not_not.mp h26)] at k; exact k _ _ hT9_q hH_q Fr.rf
  · skip
    refine wp_bipush (-101) dX10_fell_11 (by decide) ?_
    refine g_iret dX10_fell_13 rfl ?_
    rw [if_neg (fun q => b01_e0 (by first | exact h8 | exact Classical.not_not.mp h8) (hA_q.mpr q))] at k; exact k _ _ hT9_q hH_q Fr.rf
