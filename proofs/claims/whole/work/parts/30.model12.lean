theorem eqD_dwn {G G' : Mem} (h : eqD G G') (n s m : Nat) : eqD (dwn n m (G, s)).1 (dwn n m (G', s)).1 ∧ (dwn n m (G', s)).2 = (dwn n m (G, s)).2 := by
  induction m with
  | zero => exact ⟨h, rfl⟩
  | succ m ih =>
    obtain ⟨h1, h2⟩ := ih
    simp only [dwn]
    rw [h2]
    exact ⟨(h1.post _ _ _).tick, rfl⟩
set_option maxHeartbeats 4000000 in
theorem c_drawnNow {I S : Mem} {J : Mel} {Q : Option Value → Mem → Mem → Mel → Prop} {n T m s : Nat} {v : Int32} (hW_q : WS n T S) (hn1_q : 1 ≤ n) (hs_q : s < 2147483648) (hm_q : m ≤ 30) (k : ∀ (S2 : Mem) (J' : Mel), rndE S S2 → S2 126 18 = S 126 18 → Q (some (.int (spDr n S m s v))) I S2 J') : M2 mX11_drawnNow 7 [.ref 126, .int (nI m), .int (nI s), .int v] I S J Q := by
  refine m2_of [.ref 126, .int (nI m), .int (nI s), .int v, dum, dum] moX11_drawnNow (Nat.le_of_ble_eq_true rfl) rfl ?_
  refine wp_aload_n dX11_drawnNow_0 rfl ?_
  refine g_callV0 (mj := mX11_lay) dX11_drawnNow_1 lkRX11_320 mkX11_lay (by first | rfl | assumption) (by decide) (by decide) (Nat.le_of_ble_eq_true rfl) (c_lay (fun M hl_q => ?_))
  have hEM_q : eqD S M := by
    intro b j hv_q
    unfold vis at hv_q
    by_cases hb_q : b = 126
    · subst hb_q; rw [hl_q.2.2.2.2.2.2 j (by omega) (by omega)]
    · rw [hl_q.2.2.2.2.2.1 b hb_q (by omega)]
  refine wp_aload_n dX11_drawnNow_4 rfl ?_
  refine wp_iload_n dX11_drawnNow_5 rfl ?_
  refine wp_i2l dX11_drawnNow_6 ?_
  refine g_putL dX11_drawnNow_7 flRX11_347 (by first | rfl | assumption) ?_
  refine wp_aload_n dX11_drawnNow_10 rfl ?_
  refine wp_iconst 0 dX11_drawnNow_11 (by decide) ?_
  refine m_putI dX11_drawnNow_12 flRX11_227 (by first | rfl | assumption) (by decide) ?_
  refine wp_aload_n dX11_drawnNow_15 rfl ?_
  refine wp_iconst 0 dX11_drawnNow_16 (by decide) ?_
  refine m_putI dX11_drawnNow_17 flRX11_278 (by first | rfl | assumption) (by decide) ?_
  refine wp_iconst 0 dX11_drawnNow_20 (by decide) ?_
  refine st_i_6_4 dX11_drawnNow_21 (by decide) rfl ?_
  have hW1_q : WS n T (uI (uI M 126 17 0) 126 36 0) := ((hW_q.all ⟨hEM_q.s (by omega), hEM_q.s (by omega), hEM_q.s (by omega), hEM_q.r (by omega), hEM_q.r (by omega)⟩ (fun i => ⟨by rw [hEM_q.r (by omega)], by rw [hEM_q.r (by omega)], fun j _ => by rw [hEM_q.r (by omega)], by rw [hEM_q.r (by omega)], by rw [hEM_q.r (by omega)], by rw [hEM_q.r (by omega)], by rw [hEM_q.r (by omega)], fun j _ => ⟨by rw [hEM_q.r (by omega)], by rw [hEM_q.r (by omega)]⟩, by rw [hEM_q.r (by omega)], by rw [hEM_q.r (by omega)]⟩)).lost (by decide)).lost (by decide)
  have hE2_q : eqD (uI (uI S 126 17 0) 126 36 0) (uI (uI M 126 17 0) 126 36 0) := (hEM_q.u rfl).u rfl
  obtain ⟨hd1_q, hd2_q⟩ := eqD_dwn hE2_q n s m
  have hk_q : kqR M (dwn n m (uI (uI M 126 17 0) 126 36 0, s)).1 := ⟨fun b h1_q h2_q => by rw [(kpD.dwn n s _ m).1 b h1_q (by omega), uI_ne h1_q, uI_ne h1_q], fun j h1_q h2_q h3_q => by rw [(kpD.dwn n s _ m).2 j h1_q h2_q h3_q, uI_ap, if_neg (by omega), uI_ap, if_neg (by omega)]⟩
  refine l_dwn hW1_q hn1_q hs_q hm_q (fun J2 z hJ2_q => ?_) 0 _ dum (by omega) (by simp [uJ, dwn]; exact nI_l (by omega))
  refine wp_iload_n dX11_drawnNow_62 rfl ?_
  refine wp_if_ne dX11_drawnNow_63 (fun h63 => ?_) (fun h63 => ?_)
  · skip
    refine wp_iload_n dX11_drawnNow_73 rfl ?_
    refine wp_iconst 1 dX11_drawnNow_74 (by decide) ?_
    refine wp_icmp_ne dX11_drawnNow_75 (fun h75 => ?_) (fun h75 => ?_)
    · skip
      refine wp_aload_n dX11_drawnNow_85 rfl ?_
      refine wp_getL dX11_drawnNow_86 flRX11_347 (by first | rfl | assumption) ?_
      rw [hJ2_q]
      refine wp_l2i dX11_drawnNow_89 ?_
      refine st_i_6_4 dX11_drawnNow_90 (by decide) rfl ?_
      refine wp_aload_n dX11_drawnNow_92 rfl ?_
      refine g_callV0 (mj := mX11_layBack) dX11_drawnNow_93 lkRX11_329 mkX11_layBack (by first | rfl | assumption) (by decide) (by decide) (Nat.le_of_ble_eq_true rfl) (c_layBack (fun S2 hb_q => ?_))
      refine wp_iload dX11_drawnNow_96 rfl ?_
      refine g_iret dX11_drawnNow_98 rfl ?_
      have hq_q := k S2 J2 (rnd_end hl_q hk_q hb_q).1 (rnd_end hl_q hk_q hb_q).2
      unfold spDr at hq_q
      rw [← hd1_q.s (by omega), ← hd1_q.s (by omega), ← hd2_q] at hq_q
      first | (rw [if_pos h63] at hq_q; exact hq_q) | (rw [if_neg h63, if_pos h75] at hq_q; exact hq_q) | (rw [if_neg h63, if_neg h75] at hq_q; rw [lN_i]; exact hq_q)
    · skip
      refine wp_aload_n dX11_drawnNow_78 rfl ?_
      refine m_getI dX11_drawnNow_79 flRX11_278 (by first | rfl | assumption) (by decide) ?_
      refine wp_goto dX11_drawnNow_82 ?_
      refine st_i_6_4 dX11_drawnNow_90 (by decide) rfl ?_
      refine wp_aload_n dX11_drawnNow_92 rfl ?_
      refine g_callV0 (mj := mX11_layBack) dX11_drawnNow_93 lkRX11_329 mkX11_layBack (by first | rfl | assumption) (by decide) (by decide) (Nat.le_of_ble_eq_true rfl) (c_layBack (fun S2 hb_q => ?_))
      refine wp_iload dX11_drawnNow_96 rfl ?_
      refine g_iret dX11_drawnNow_98 rfl ?_
      have hq_q := k S2 J2 (rnd_end hl_q hk_q hb_q).1 (rnd_end hl_q hk_q hb_q).2
      unfold spDr at hq_q
      rw [← hd1_q.s (by omega), ← hd1_q.s (by omega), ← hd2_q] at hq_q
      first | (rw [if_pos h63] at hq_q; exact hq_q) | (rw [if_neg h63, if_pos h75] at hq_q; exact hq_q) | (rw [if_neg h63, if_neg h75] at hq_q; rw [lN_i]; exact hq_q)
  · skip
    refine wp_aload_n dX11_drawnNow_66 rfl ?_
    refine m_getI dX11_drawnNow_67 flRX11_227 (by first | rfl | assumption) (by decide) ?_
    refine wp_goto dX11_drawnNow_70 ?_
    refine st_i_6_4 dX11_drawnNow_90 (by decide) rfl ?_
    refine wp_aload_n dX11_drawnNow_92 rfl ?_
    refine g_callV0 (mj := mX11_layBack) dX11_drawnNow_93 lkRX11_329 mkX11_layBack (by first | rfl | assumption) (by decide) (by decide) (Nat.le_of_ble_eq_true rfl) (c_layBack (fun S2 hb_q => ?_))
    refine wp_iload dX11_drawnNow_96 rfl ?_
    refine g_iret dX11_drawnNow_98 rfl ?_
    have hq_q := k S2 J2 (rnd_end hl_q hk_q hb_q).1 (rnd_end hl_q hk_q hb_q).2
    unfold spDr at hq_q
    rw [← hd1_q.s (by omega), ← hd1_q.s (by omega), ← hd2_q] at hq_q
    first | (rw [if_pos h63] at hq_q; exact hq_q) | (rw [if_neg h63, if_pos h75] at hq_q; exact hq_q) | (rw [if_neg h63, if_neg h75] at hq_q; rw [lN_i]; exact hq_q)
set_option maxHeartbeats 4000000 in
theorem c_drawn {I S : Mem} {J : Mel} {Q : Option Value → Mem → Mem → Mel → Prop} {n T : Nat} {x y v : Int32} (hW_q : WS n T S) (k1_q : ¬ ((1 ≤ x ∧ x ≤ 30) ∧ ¬ y < 0 ∧ (0 ≤ v ∧ v ≤ 2)) → Q (some (.int (-102))) I S J) (k2_q : (1 ≤ x ∧ x ≤ 30) ∧ ¬ y < 0 ∧ (0 ≤ v ∧ v ≤ 2) → S 126 1 = 0 → Q (some (.int (-103))) I S J) (k : ∀ m s, m ≤ 30 → s < 2147483648 → x = nI m → y = nI s → (1 ≤ x ∧ x ≤ 30) ∧ ¬ y < 0 ∧ (0 ≤ v ∧ v ≤ 2) → ¬ S 126 1 = 0 → ∀ (S2 : Mem) (J' : Mel), rndE S S2 → S2 126 18 = S 126 18 → Q (some (.int (spDr n S m s v))) I S2 J') : M2 mX11_drawn 8 [.ref 126, .int x, .int y, .int v] I S J Q := by
  refine m2_of [.ref 126, .int x, .int y, .int v] moX11_drawn (Nat.le_of_ble_eq_true rfl) rfl ?_
  refine wp_iload_n dX11_drawn_0 rfl ?_
  refine wp_iconst 1 dX11_drawn_1 (by decide) ?_
  refine wp_bipush 30 dX11_drawn_2 (by decide) ?_
  refine g_callS3 (mj := mX11_within) dX11_drawn_4 lkRX11_149 mkX11_within (by decide) (by decide) (Nat.le_of_ble_eq_true rfl) (c_within ?_)
  refine wp_if_eq dX11_drawn_7 (fun h7 => ?_) (fun h7 => ?_)
  · skip
    refine wp_bipush (-102) dX11_drawn_23 (by decide) ?_
    refine g_iret dX11_drawn_25 rfl ?_
    first | exact k1_q (fun q => b01_e0 h7 q.1) | exact k1_q (fun q => q.2.1 h11) | exact k1_q (fun q => b01_e0 h20 q.2.2) | exact k2_q ⟨b01_ne h7, h11, b01_ne h20⟩ h30 | exact k m s hm_q hs_q em_q es_q ⟨b01_ne h7, h11, b01_ne h20⟩ h30 S2 J2 g1_q g2_q
  · skip
    refine wp_iload_n dX11_drawn_10 rfl ?_
    refine wp_if_lt dX11_drawn_11 (fun h11 => ?_) (fun h11 => ?_)
    · skip
      refine wp_bipush (-102) dX11_drawn_23 (by decide) ?_
      refine g_iret dX11_drawn_25 rfl ?_
      first | exact k1_q (fun q => b01_e0 h7 q.1) | exact k1_q (fun q => q.2.1 h11) | exact k1_q (fun q => b01_e0 h20 q.2.2) | exact k2_q ⟨b01_ne h7, h11, b01_ne h20⟩ h30 | exact k m s hm_q hs_q em_q es_q ⟨b01_ne h7, h11, b01_ne h20⟩ h30 S2 J2 g1_q g2_q
    · skip
      refine wp_iload_n dX11_drawn_14 rfl ?_
      refine wp_iconst 0 dX11_drawn_15 (by decide) ?_
      refine wp_iconst 2 dX11_drawn_16 (by decide) ?_
      refine g_callS3 (mj := mX11_within) dX11_drawn_17 lkRX11_149 mkX11_within (by decide) (by decide) (Nat.le_of_ble_eq_true rfl) (c_within ?_)
      refine wp_if_ne dX11_drawn_20 (fun h20 => ?_) (fun h20 => ?_)
      · skip
        refine wp_aload_n dX11_drawn_26 rfl ?_
        refine m_getI dX11_drawn_27 flRX11_212 (by first | rfl | assumption) (by decide) ?_
        refine wp_if_ne dX11_drawn_30 (fun h30 => ?_) (fun h30 => ?_)
        · skip
          obtain ⟨m, hm_q, em_q⟩ := in_of (m := 30) (by omega) (Int32.le_trans (by decide) (b01_ne h7).1) (b01_ne h7).2
          obtain ⟨s, hs_q, es_q⟩ := nI_of h11
          rw [em_q, es_q]
          refine wp_aload_n dX11_drawn_38 rfl ?_
          refine wp_iload_n dX11_drawn_39 rfl ?_
          refine wp_iload_n dX11_drawn_40 rfl ?_
          refine wp_iload_n dX11_drawn_41 rfl ?_
          refine g_callV3 (mj := mX11_drawnNow) dX11_drawn_42 lkRX11_360 mkX11_drawnNow (by first | rfl | assumption) (by decide) (by decide) (Nat.le_of_ble_eq_true rfl) (c_drawnNow hW_q (by have := h30; rw [hW_q.2.1] at this; rcases Nat.eq_zero_or_pos n with e_q | e_q; exact absurd (by rw [e_q]; rfl) this; exact e_q) hs_q hm_q (fun S2 J2 g1_q g2_q => ?_))
          refine g_iret dX11_drawn_45 rfl ?_
          first | exact k1_q (fun q => b01_e0 h7 q.1) | exact k1_q (fun q => q.2.1 h11) | exact k1_q (fun q => b01_e0 h20 q.2.2) | exact k2_q ⟨b01_ne h7, h11, b01_ne h20⟩ h30 | exact k m s hm_q hs_q em_q es_q ⟨b01_ne h7, h11, b01_ne h20⟩ h30 S2 J2 g1_q g2_q
        · skip
          refine wp_bipush (-103) dX11_drawn_33 (by decide) ?_
          refine wp_goto dX11_drawn_35 ?_
          refine g_iret dX11_drawn_45 rfl ?_
          first | exact k1_q (fun q => b01_e0 h7 q.1) | exact k1_q (fun q => q.2.1 h11) | exact k1_q (fun q => b01_e0 h20 q.2.2) | exact k2_q ⟨b01_ne h7, h11, b01_ne h20⟩ h30 | exact k m s hm_q hs_q em_q es_q ⟨b01_ne h7, h11, b01_ne h20⟩ h30 S2 J2 g1_q g2_q
      · skip
        refine wp_bipush (-102) dX11_drawn_23 (by decide) ?_
        refine g_iret dX11_drawn_25 rfl ?_
        first | exact k1_q (fun q => b01_e0 h7 q.1) | exact k1_q (fun q => q.2.1 h11) | exact k1_q (fun q => b01_e0 h20 q.2.2) | exact k2_q ⟨b01_ne h7, h11, b01_ne h20⟩ h30 | exact k m s hm_q hs_q em_q es_q ⟨b01_ne h7, h11, b01_ne h20⟩ h30 S2 J2 g1_q g2_q
