set_option maxHeartbeats 4000000 in
theorem c_fallOne {I S : Mem} {J : Mel} {Q : Option Value → Mem → Mem → Mel → Prop} {n T a r : Nat} (hW : WS n T S) (ha : a < n) (hr : RVr n r S) (hr2 : r < 150) (k : Q none I (fFallOne S a) J) : M2 mX11_fallOne 3 [.ref 126, .int (nI a)] I S J Q := by
  have hn := hW.1
  refine m2_of [.ref 126, .int (nI a), dum, dum] moX11_fallOne (Nat.le_of_ble_eq_true rfl) rfl ?_
  refine wp_aload_n dX11_fallOne_0 rfl ?_
  refine wp_getA (by first | rfl | assumption) dX11_fallOne_1 flRX11_19 (by first | rfl | assumption) ?_
  refine wp_iload_n dX11_fallOne_4 rfl ?_
  refine wp_iconst 0 dX11_fallOne_5 (by decide) ?_
  refine m_iast dX11_fallOne_6 (by first | rfl | assumption) (by first | rfl | assumption) (by first | decide | omega | assumption) (by decide) (by decide) ?_
  refine wp_aload_n dX11_fallOne_7 rfl ?_
  refine wp_dup dX11_fallOne_8 rfl ?_
  refine m_getI dX11_fallOne_9 flRX11_227 (by first | rfl | assumption) (by decide) ?_
  refine wp_aload_n dX11_fallOne_12 rfl ?_
  refine wp_getA (by first | rfl | assumption) dX11_fallOne_13 flRX11_28 (by first | rfl | assumption) ?_
  refine wp_iload_n dX11_fallOne_16 rfl ?_
  refine m_iald dX11_fallOne_17 (by first | rfl | assumption) (by first | rfl | assumption) (by first | decide | omega | assumption) (by decide) (by decide) ?_
  refine wp_iadd dX11_fallOne_18 ?_
  refine m_putI dX11_fallOne_19 flRX11_227 (by first | rfl | assumption) (by decide) ?_
  refine wp_aload_n dX11_fallOne_22 rfl ?_
  refine wp_getA (by first | rfl | assumption) dX11_fallOne_23 flRX11_28 (by first | rfl | assumption) ?_
  refine wp_iload_n dX11_fallOne_26 rfl ?_
  refine wp_iconst 0 dX11_fallOne_27 (by decide) ?_
  refine m_iast dX11_fallOne_28 (by first | rfl | assumption) (by first | rfl | assumption) (by first | decide | omega | assumption) (by decide) (by decide) ?_
  refine wp_aload_n dX11_fallOne_29 rfl ?_
  refine wp_getA (by first | rfl | assumption) dX11_fallOne_30 flRX11_37 (by first | rfl | assumption) ?_
  refine wp_iload_n dX11_fallOne_33 rfl ?_
  refine wp_dup2 dX11_fallOne_34 rfl rfl ?_
  refine m_iald dX11_fallOne_35 (by first | rfl | assumption) (by first | rfl | assumption) (by first | decide | omega | assumption) (by decide) (by decide) ?_
  refine wp_iconst 1 dX11_fallOne_36 (by decide) ?_
  refine wp_iadd dX11_fallOne_37 ?_
  refine m_iast dX11_fallOne_38 (by first | rfl | assumption) (by first | rfl | assumption) (by first | decide | omega | assumption) (by decide) (by decide) ?_
  refine wp_aload_n dX11_fallOne_39 rfl ?_
  refine wp_dup dX11_fallOne_40 rfl ?_
  refine m_getI dX11_fallOne_41 flRX11_278 (by first | rfl | assumption) (by decide) ?_
  refine wp_iconst 1 dX11_fallOne_44 (by decide) ?_
  refine wp_iadd dX11_fallOne_45 ?_
  refine m_putI dX11_fallOne_46 flRX11_278 (by first | rfl | assumption) (by decide) ?_
  refine wp_iconst 0 dX11_fallOne_49 (by decide) ?_
  refine st_i_4_2 dX11_fallOne_50 (by decide) rfl ?_
  obtain ⟨l, l1, l2, -⟩ := hW.2.2.2.1
  have hr3 : RVr n r (fDown S a) := ⟨by unfold fDown; simp only [uI_ap]; simpa using hr.1, fun j hj => by unfold fDown; simp only [uI_ap]; simpa using hr.2 j hj⟩
  have t := l_fallOne (hW.down ha) ha (l := l) (by simpa [fDown, uI_ap] using l2) l1 hr3 hr2 (by unfold fFallOne at k; rw [l2, tn_nI (by omega)] at k; exact k) 0 dum (by omega)
  exact t
set_option maxHeartbeats 4000000 in
theorem l_fall {I : Mem} {J : Mel} {Q : Option Value → Mem → Mem → Mel → Prop} {n T : Nat} : ∀ (m f r : Nat) (S : Mem) (u : Int32) (v : Value), (128 ≤ f + m) → (RV n T f r S) → (Q none I (fRow m S) J) → W2 mX11_fall 4 Q I S J 15 [.ref 126, .int u, v] [] := by
  intro m f r S u v
  induction hm : m using Nat.strongRecOn generalizing m f r S u v with
  | _ c ih =>
    intro hm2 hV k
    subst hm
    obtain ⟨h1, h2, h3, h4, h5⟩ := id hV
    have hn := h1.1
    refine wp_aload_n dX11_fall_15 rfl ?_
    refine m_getI dX11_fall_16 flRX11_284 (by first | rfl | assumption) (by decide) ?_
    refine wp_aload_n dX11_fall_19 rfl ?_
    refine m_getI dX11_fall_20 flRX11_265 (by first | rfl | assumption) (by decide) ?_
    refine wp_icmp_ge dX11_fall_23 (fun h23 => ?_) (fun h23 => ?_)
    · skip
      refine g_vret dX11_fall_64 rfl ?_
      have e0 : fRow m S = S := by
        cases m with
        | zero => rfl
        | succ m => simp only [fRow]; exact if_neg (by rw [h2, h4.1, nI_ltg (by omega) (by omega)]; rw [h2, h4.1, nI_leg (by omega) (by omega)] at h23; omega)
      rw [e0] at k; exact k
    · skip
      have hfr : f < r := by rw [h2, h4.1, nI_leg (by omega) (by omega)] at h23; omega
      obtain ⟨x, hx, ex⟩ := h4.2 f hfr
      obtain ⟨r2, hV2⟩ := hV.next hfr
      obtain ⟨m, rfl⟩ : ∃ m2, m = m2 + 1 := ⟨m - 1, by omega⟩
      have e0 : fRow (m + 1) S = fRow m (fNext S) := by simp only [fRow]; exact if_pos (by rw [h2, h4.1, nI_ltg (by omega) (by omega)]; exact hfr)
      rw [e0] at k
      have e1 : fNext S = if (uI S 126 37 (S 126 37 + 1)) 130 x = 1 then fFallOne (uI S 126 37 (S 126 37 + 1)) x else uI S 126 37 (S 126 37 + 1) := by unfold fNext; rw [h2, tn_nI (by omega), ex, tn_nI (by omega)]
      refine wp_aload_n dX11_fall_26 rfl ?_
      refine wp_getA (by first | rfl | assumption) dX11_fall_27 flRX11_77 (by first | rfl | assumption) ?_
      refine wp_aload_n dX11_fall_30 rfl ?_
      refine m_getI dX11_fall_31 flRX11_284 (by first | rfl | assumption) (by decide) ?_
      refine m_iald dX11_fall_34 rfl h2 (by omega) (by decide) (by decide) ?_
      rw [ex]
      refine st_i_3_2 dX11_fall_35 (by decide) rfl ?_
      refine wp_aload_n dX11_fall_36 rfl ?_
      refine wp_dup dX11_fall_37 rfl ?_
      refine m_getI dX11_fall_38 flRX11_284 (by first | rfl | assumption) (by decide) ?_
      refine wp_iconst 1 dX11_fall_41 (by decide) ?_
      refine wp_iadd dX11_fall_42 ?_
      refine m_putI dX11_fall_43 flRX11_284 (by first | rfl | assumption) (by decide) ?_
      refine wp_aload_n dX11_fall_46 rfl ?_
      refine wp_getA (by first | rfl | assumption) dX11_fall_47 flRX11_19 (by first | rfl | assumption) ?_
      refine wp_iload_n dX11_fall_50 rfl ?_
      refine m_iald dX11_fall_51 rfl rfl (by omega) (by decide) (by decide) ?_
      refine wp_iconst 1 dX11_fall_52 (by decide) ?_
      refine wp_icmp_ne dX11_fall_53 (fun h53 => ?_) (fun h53 => ?_)
      · skip
        refine wp_goto dX11_fall_61 ?_
        first | (rw [if_pos h53] at e1; rw [← e1]; exact ih m (by omega) m (f + 1) r2 (fNext S) _ _ rfl (by omega) hV2 k) | (rw [if_neg h53] at e1; rw [← e1]; exact ih m (by omega) m (f + 1) r2 (fNext S) _ _ rfl (by omega) hV2 k)
      · skip
        refine wp_aload_n dX11_fall_56 rfl ?_
        refine wp_iload_n dX11_fall_57 rfl ?_
        refine g_callV1 (mj := mX11_fallOne) dX11_fall_58 lkRX11_287 mkX11_fallOne (by first | rfl | assumption) (by decide) (by decide) (Nat.le_of_ble_eq_true rfl) (c_fallOne (n := n) (T := T) (r := r) (h1.lost (by decide)) hx ⟨by rw [uI_ap, if_neg (by omega)]; exact h4.1, fun j hj => by rw [uI_ne (by decide)]; exact h4.2 j hj⟩ (by omega) ?_)
        refine wp_goto dX11_fall_61 ?_
        first | (rw [if_pos h53] at e1; rw [← e1]; exact ih m (by omega) m (f + 1) r2 (fNext S) _ _ rfl (by omega) hV2 k) | (rw [if_neg h53] at e1; rw [← e1]; exact ih m (by omega) m (f + 1) r2 (fNext S) _ _ rfl (by omega) hV2 k)
set_option maxHeartbeats 4000000 in
theorem c_fall {I S : Mem} {J : Mel} {Q : Option Value → Mem → Mem → Mel → Prop} {n T a : Nat} (hW : WS n T S) (ha : a < n) (k : Q none I (fFall S a) J) : M2 mX11_fall 4 [.ref 126, .int (nI a)] I S J Q := by
  refine m2_of [.ref 126, .int (nI a), dum] moX11_fall (Nat.le_of_ble_eq_true rfl) rfl ?_
  refine wp_aload_n dX11_fall_0 rfl ?_
  refine wp_iconst 0 dX11_fall_1 (by decide) ?_
  refine m_putI dX11_fall_2 flRX11_284 (by first | rfl | assumption) (by decide) ?_
  refine wp_aload_n dX11_fall_5 rfl ?_
  refine wp_iconst 0 dX11_fall_6 (by decide) ?_
  refine m_putI dX11_fall_7 flRX11_265 (by first | rfl | assumption) (by decide) ?_
  refine wp_aload_n dX11_fall_10 rfl ?_
  refine wp_iload_n dX11_fall_11 rfl ?_
  refine g_callV1 (mj := mX11_stand) dX11_fall_12 lkRX11_275 mkX11_stand (by first | rfl | assumption) (by decide) (by decide) (Nat.le_of_ble_eq_true rfl) (c_stand (r := 0) (by rw [uI_self]; rfl) (by omega) ?_)
  exact l_fall 128 0 1 _ _ _ (by omega) (RV.start hW ha) k
set_option maxHeartbeats 4000000 in
theorem c_doStep {I S : Mem} {J : Mel} {Q : Option Value → Mem → Mem → Mel → Prop} {n T a : Nat} (hW : WS n T S) (ha : a < n) (k : Q none I (fDoStep S a) J) : M2 mX11_doStep 5 [.ref 126, .int (nI a)] I S J Q := by
  have hn := hW.1
  obtain ⟨x, hx, ex, hok⟩ := hW.stp ha
  have h0 := hW.steps ha
  obtain ⟨b, hb5, hb⟩ := hW.box ha
  unfold fDoStep at k
  rw [ex, tn_nI (by omega)] at k
  refine m2_of [.ref 126, .int (nI a), dum] moX11_doStep (Nat.le_of_ble_eq_true rfl) rfl ?_
  refine wp_aload_n dX11_doStep_0 rfl ?_
  refine wp_getA (by first | rfl | assumption) dX11_doStep_1 flRX11_16 (by first | rfl | assumption) ?_
  refine wp_iconst 3 dX11_doStep_4 (by decide) ?_
  refine wp_iload_n dX11_doStep_5 rfl ?_
  refine wp_imul dX11_doStep_6 ?_
  refine wp_aload_n dX11_doStep_7 rfl ?_
  refine wp_getA (by first | rfl | assumption) dX11_doStep_8 flRX11_22 (by first | rfl | assumption) ?_
  refine wp_iload_n dX11_doStep_11 rfl ?_
  refine m_iald dX11_doStep_12 rfl rfl (by omega) (by decide) (by decide) ?_
  refine wp_iadd dX11_doStep_13 ?_
  refine m_iald dX11_doStep_14 rfl (by rw [ex]; exact nI_mad 3 a x) (by omega) (by decide) (by decide) ?_
  refine st_i_3_2 dX11_doStep_15 (by decide) rfl ?_
  refine wp_iload_n dX11_doStep_16 rfl ?_
  refine wp_sipush 400 dX11_doStep_17 (by decide) ?_
  refine wp_icmp_ge dX11_doStep_20 (fun h20 => ?_) (fun h20 => ?_)
  · skip
    refine wp_iload_n dX11_doStep_54 rfl ?_
    refine wp_sipush 400 dX11_doStep_55 (by decide) ?_
    refine wp_icmp_ne dX11_doStep_58 (fun h58 => ?_) (fun h58 => ?_)
    · skip
      refine wp_iload_n dX11_doStep_69 rfl ?_
      refine wp_sipush 500 dX11_doStep_70 (by decide) ?_
      refine wp_icmp_ne dX11_doStep_73 (fun h73 => ?_) (fun h73 => ?_)
      · skip
        refine wp_aload_n dX11_doStep_89 rfl ?_
        refine wp_iload_n dX11_doStep_90 rfl ?_
        refine wp_iload_n dX11_doStep_91 rfl ?_
        refine g_callV2 (mj := mX11_waits) dX11_doStep_92 lkRX11_293 mkX11_waits (by first | rfl | assumption) (by decide) (by decide) (Nat.le_of_ble_eq_true rfl) (c_waits (by omega) hb hb5 h0 ?_)
        refine g_vret dX11_doStep_95 rfl ?_
        first | exact k | (rw [if_neg (by grind), if_pos (by grind)] at k; exact k) | (rw [if_neg (by grind), if_neg (by grind), if_pos (by grind)] at k; exact k) | (rw [if_neg (by grind), if_neg (by grind), if_neg (by grind)] at k; exact k)
      · skip
        refine wp_aload_n dX11_doStep_76 rfl ?_
        refine wp_iload_n dX11_doStep_77 rfl ?_
        refine g_callV1 (mj := mX11_goOn) dX11_doStep_78 lkRX11_262 mkX11_goOn (by first | rfl | assumption) (by decide) (by decide) (Nat.le_of_ble_eq_true rfl) (c_goOn (by omega) h0 ?_)
        refine wp_aload_n dX11_doStep_81 rfl ?_
        refine wp_iload_n dX11_doStep_82 rfl ?_
        refine g_callV1 (mj := mX11_fall) dX11_doStep_83 lkRX11_290 mkX11_fall (by first | rfl | assumption) (by decide) (by decide) (Nat.le_of_ble_eq_true rfl) (c_fall (hW.goOn ha) ha ?_)
        refine wp_goto dX11_doStep_86 ?_
        refine g_vret dX11_doStep_95 rfl ?_
        first | exact k | (rw [if_neg (by grind), if_pos (by grind)] at k; exact k) | (rw [if_neg (by grind), if_neg (by grind), if_pos (by grind)] at k; exact k) | (rw [if_neg (by grind), if_neg (by grind), if_neg (by grind)] at k; exact k)
    · skip
      refine wp_aload_n dX11_doStep_61 rfl ?_
      refine wp_iload_n dX11_doStep_62 rfl ?_
      refine g_callV1 (mj := mX11_goOn) dX11_doStep_63 lkRX11_262 mkX11_goOn (by first | rfl | assumption) (by decide) (by decide) (Nat.le_of_ble_eq_true rfl) (c_goOn (by omega) h0 ?_)
      refine wp_goto dX11_doStep_66 ?_
      refine g_vret dX11_doStep_95 rfl ?_
      first | exact k | (rw [if_neg (by grind), if_pos (by grind)] at k; exact k) | (rw [if_neg (by grind), if_neg (by grind), if_pos (by grind)] at k; exact k) | (rw [if_neg (by grind), if_neg (by grind), if_neg (by grind)] at k; exact k)
  · skip
    refine wp_iload_n dX11_doStep_23 rfl ?_
    refine wp_sipush 300 dX11_doStep_24 (by decide) ?_
    refine wp_icmp_lt dX11_doStep_27 (fun h27 => ?_) (fun h27 => ?_)
    · skip
      refine wp_iload_n dX11_doStep_54 rfl ?_
      refine wp_sipush 400 dX11_doStep_55 (by decide) ?_
      refine wp_icmp_ne dX11_doStep_58 (fun h58 => ?_) (fun h58 => ?_)
      · skip
        refine wp_iload_n dX11_doStep_69 rfl ?_
        refine wp_sipush 500 dX11_doStep_70 (by decide) ?_
        refine wp_icmp_ne dX11_doStep_73 (fun h73 => ?_) (fun h73 => ?_)
        · skip
          refine wp_aload_n dX11_doStep_89 rfl ?_
          refine wp_iload_n dX11_doStep_90 rfl ?_
          refine wp_iload_n dX11_doStep_91 rfl ?_
          refine g_callV2 (mj := mX11_waits) dX11_doStep_92 lkRX11_293 mkX11_waits (by first | rfl | assumption) (by decide) (by decide) (Nat.le_of_ble_eq_true rfl) (c_waits (by omega) hb hb5 h0 ?_)
          refine g_vret dX11_doStep_95 rfl ?_
          first | exact k | (rw [if_neg (by grind), if_pos (by grind)] at k; exact k) | (rw [if_neg (by grind), if_neg (by grind), if_pos (by grind)] at k; exact k) | (rw [if_neg (by grind), if_neg (by grind), if_neg (by grind)] at k; exact k)
        · skip
          refine wp_aload_n dX11_doStep_76 rfl ?_
          refine wp_iload_n dX11_doStep_77 rfl ?_
          refine g_callV1 (mj := mX11_goOn) dX11_doStep_78 lkRX11_262 mkX11_goOn (by first | rfl | assumption) (by decide) (by decide) (Nat.le_of_ble_eq_true rfl) (c_goOn (by omega) h0 ?_)
          refine wp_aload_n dX11_doStep_81 rfl ?_
          refine wp_iload_n dX11_doStep_82 rfl ?_
          refine g_callV1 (mj := mX11_fall) dX11_doStep_83 lkRX11_290 mkX11_fall (by first | rfl | assumption) (by decide) (by decide) (Nat.le_of_ble_eq_true rfl) (c_fall (hW.goOn ha) ha ?_)
          refine wp_goto dX11_doStep_86 ?_
          refine g_vret dX11_doStep_95 rfl ?_
          first | exact k | (rw [if_neg (by grind), if_pos (by grind)] at k; exact k) | (rw [if_neg (by grind), if_neg (by grind), if_pos (by grind)] at k; exact k) | (rw [if_neg (by grind), if_neg (by grind), if_neg (by grind)] at k; exact k)
      · skip
        refine wp_aload_n dX11_doStep_61 rfl ?_
        refine wp_iload_n dX11_doStep_62 rfl ?_
        refine g_callV1 (mj := mX11_goOn) dX11_doStep_63 lkRX11_262 mkX11_goOn (by first | rfl | assumption) (by decide) (by decide) (Nat.le_of_ble_eq_true rfl) (c_goOn (by omega) h0 ?_)
        refine wp_goto dX11_doStep_66 ?_
        refine g_vret dX11_doStep_95 rfl ?_
        first | exact k | (rw [if_neg (by grind), if_pos (by grind)] at k; exact k) | (rw [if_neg (by grind), if_neg (by grind), if_pos (by grind)] at k; exact k) | (rw [if_neg (by grind), if_neg (by grind), if_neg (by grind)] at k; exact k)
    · skip
      obtain ⟨t, s, ht, hs, -, e1, e2⟩ := okS_snd hn hok (by grind) (by grind)
      obtain ⟨bt, hbt5, hbt⟩ := hW.box ht
      rw [if_pos ⟨by grind, by grind⟩, e1, e2, tn_nI (by omega)] at k
      refine wp_aload_n dX11_doStep_30 rfl ?_
      refine wp_iload_n dX11_doStep_31 rfl ?_
      refine wp_bipush 10 dX11_doStep_32 (by decide) ?_
      refine wp_idiv dX11_doStep_34 (by decide) ?_
      refine wp_bipush 10 dX11_doStep_35 (by decide) ?_
      refine wp_irem dX11_doStep_37 (by decide) ?_
      refine wp_iload_n dX11_doStep_38 rfl ?_
      refine wp_bipush 10 dX11_doStep_39 (by decide) ?_
      refine wp_irem dX11_doStep_41 (by decide) ?_
      rw [e1, e2]
      refine wp_iload_n dX11_doStep_42 rfl ?_
      refine g_callV3 (mj := mX11_post) dX11_doStep_43 lkRX11_268 mkX11_post (by first | rfl | assumption) (by decide) (by decide) (Nat.le_of_ble_eq_true rfl) (c_post (by omega) hbt hbt5 ?_)
      refine wp_aload_n dX11_doStep_46 rfl ?_
      refine wp_iload_n dX11_doStep_47 rfl ?_
      refine g_callV1 (mj := mX11_goOn) dX11_doStep_48 lkRX11_262 mkX11_goOn (by first | rfl | assumption) (by decide) (by decide) (Nat.le_of_ble_eq_true rfl) (c_goOn (by omega) ((hW.post ht ⟨⟨s, by omega, rfl⟩, Or.inr ⟨a, by omega, rfl⟩⟩).steps ha) ?_)
      refine wp_goto dX11_doStep_51 ?_
      refine g_vret dX11_doStep_95 rfl ?_
      first | exact k | (rw [if_neg (by grind), if_pos (by grind)] at k; exact k) | (rw [if_neg (by grind), if_neg (by grind), if_pos (by grind)] at k; exact k) | (rw [if_neg (by grind), if_neg (by grind), if_neg (by grind)] at k; exact k)
set_option maxHeartbeats 4000000 in
theorem l_tick {I S : Mem} {J : Mel} {Q : Option Value → Mem → Mem → Mel → Prop} {n T : Nat} (hW : WS n T S) (k : Q none I (fTk S n) J) : ∀ (x : Nat), (x ≤ n) → W2 mX11_tickOnce 6 Q I (fTk S x) J 12 [.ref 126, .int (nI x)] [] := by
  intro x
  induction hm : n - x using Nat.strongRecOn generalizing x with
  | _ c ih =>
    intro hx
    have hn := hW.1
    have h1 := hW.tk x hx
    refine wp_iload_n dX11_tickOnce_12 rfl ?_
    refine wp_aload_n dX11_tickOnce_13 rfl ?_
    refine m_getI dX11_tickOnce_14 flRX11_212 (by first | rfl | assumption) (by decide) ?_
    refine wp_icmp_ge dX11_tickOnce_17 (fun h17 => ?_) (fun h17 => ?_)
    · skip
      refine g_vret dX11_tickOnce_41 rfl ?_
      have e : x = n := by rw [h1.2.1, nI_leg (by omega) (by omega)] at h17; omega
      rw [e]; exact k
    · skip
      have hxn : x < n := by rw [h1.2.1, nI_leg (by omega) (by omega)] at h17; omega
      refine wp_aload_n dX11_tickOnce_20 rfl ?_
      refine wp_getA (by first | rfl | assumption) dX11_tickOnce_21 flRX11_19 (by first | rfl | assumption) ?_
      refine wp_iload_n dX11_tickOnce_24 rfl ?_
      refine m_iald dX11_tickOnce_25 rfl rfl (by omega) (by decide) (by decide) ?_
      refine wp_iconst 1 dX11_tickOnce_26 (by decide) ?_
      refine wp_icmp_ne dX11_tickOnce_27 (fun h27 => ?_) (fun h27 => ?_)
      · skip
        refine ic_2_1 (nI (x + 1)) dX11_tickOnce_35 (nI_inc x) (by decide) rfl ?_
        refine wp_goto dX11_tickOnce_38 ?_
        first | (have e : fTk S (x + 1) = fDoStep (fTk S x) x := (by simp only [fTk]; exact if_pos h27); rw [← e]; exact ih _ (by omega) (x + 1) rfl (by omega)) | (have e : fTk S (x + 1) = fTk S x := (by simp only [fTk]; exact if_neg h27); rw [← e]; exact ih _ (by omega) (x + 1) rfl (by omega))
      · skip
        refine wp_aload_n dX11_tickOnce_30 rfl ?_
        refine wp_iload_n dX11_tickOnce_31 rfl ?_
        refine g_callV1 (mj := mX11_doStep) dX11_tickOnce_32 lkRX11_296 mkX11_doStep (by first | rfl | assumption) (by decide) (by decide) (Nat.le_of_ble_eq_true rfl) (c_doStep h1 hxn ?_)
        refine ic_2_1 (nI (x + 1)) dX11_tickOnce_35 (nI_inc x) (by decide) rfl ?_
        refine wp_goto dX11_tickOnce_38 ?_
        first | (have e : fTk S (x + 1) = fDoStep (fTk S x) x := (by simp only [fTk]; exact if_pos h27); rw [← e]; exact ih _ (by omega) (x + 1) rfl (by omega)) | (have e : fTk S (x + 1) = fTk S x := (by simp only [fTk]; exact if_neg h27); rw [← e]; exact ih _ (by omega) (x + 1) rfl (by omega))
set_option maxHeartbeats 4000000 in
theorem c_tickOnce {I S : Mem} {J : Mel} {Q : Option Value → Mem → Mem → Mel → Prop} {n T : Nat} (hW : WS n T S) (k : Q none I (fTick S) J) : M2 mX11_tickOnce 6 [.ref 126] I S J Q := by
  refine m2_of [.ref 126, dum] moX11_tickOnce (Nat.le_of_ble_eq_true rfl) rfl ?_
  refine wp_aload_n dX11_tickOnce_0 rfl ?_
  refine wp_dup dX11_tickOnce_1 rfl ?_
  refine m_getI dX11_tickOnce_2 flRX11_224 (by first | rfl | assumption) (by decide) ?_
  refine wp_iconst 1 dX11_tickOnce_5 (by decide) ?_
  refine wp_iadd dX11_tickOnce_6 ?_
  refine m_putI dX11_tickOnce_7 flRX11_224 (by first | rfl | assumption) (by decide) ?_
  refine wp_iconst 0 dX11_tickOnce_10 (by decide) ?_
  refine st_i_2_1 dX11_tickOnce_11 (by decide) rfl ?_
  exact l_tick hW.time (by unfold fTick at k; rw [hW.2.1, tn_nI (by have := hW.1; omega)] at k; exact k) 0 (by omega)
