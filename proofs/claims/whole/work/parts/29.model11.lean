set_option maxHeartbeats 4000000 in
theorem c_roundNow {I S : Mem} {J : Mel} {Q : Option Value → Mem → Mem → Mel → Prop} {n T : Nat} {v : Int32} (hW_q : WS n T S) (k : ∀ (r : Int32) (S2 : Mem), RoundP n S v r → rndE S S2 → S2 126 18 = S 126 18 + 1 → Q (some (.int r)) I S2 J) : M2 mX11_roundNow 7 [.ref 126, .int v] I S J Q := by
  refine m2_of [.ref 126, .int v, dum, dum, dum] moX11_roundNow (Nat.le_of_ble_eq_true rfl) rfl ?_
  refine wp_aload_n dX11_roundNow_0 rfl ?_
  refine wp_dup dX11_roundNow_1 rfl ?_
  refine m_getI dX11_roundNow_2 flRX11_317 (by first | rfl | assumption) (by decide) ?_
  refine wp_iconst 1 dX11_roundNow_5 (by decide) ?_
  refine wp_iadd dX11_roundNow_6 ?_
  refine m_putI dX11_roundNow_7 flRX11_317 (by first | rfl | assumption) (by decide) ?_
  refine wp_aload_n dX11_roundNow_10 rfl ?_
  refine g_callV0 (mj := mX11_lay) dX11_roundNow_11 lkRX11_320 mkX11_lay (by first | rfl | assumption) (by decide) (by decide) (Nat.le_of_ble_eq_true rfl) (c_lay (fun M hl_q => ?_))
  have hEM_q : eqD S M := by
    intro b j hv_q
    unfold vis at hv_q
    by_cases hb_q : b = 126
    · subst hb_q; rw [hl_q.2.2.2.2.2.2 j (by omega) (by omega), uI_ap, if_neg (by omega)]
    · rw [hl_q.2.2.2.2.2.1 b hb_q (by omega), uI_ne hb_q]
  have hM1_q : M 126 1 = nI n := (hEM_q.s (by omega)).trans hW_q.2.1
  have hMb_q : ∀ i, i < n → ∃ b, b ≤ 5 ∧ M 133 i = nI b := fun i hi_q => by rw [hEM_q.r (by omega)]; exact hW_q.box hi_q
  refine wp_aload_n dX11_roundNow_14 rfl ?_
  refine wp_iconst 0 dX11_roundNow_15 (by decide) ?_
  refine g_callV1 (mj := mX11_write) dX11_roundNow_16 lkRX11_323 mkX11_write (by first | rfl | assumption) (by decide) (by decide) (Nat.le_of_ble_eq_true rfl) (c_write (n := n) (t := 0) hW_q.1 hM1_q (by omega) hMb_q (fun S1 hw_q => ?_))
  refine wp_iconst (-1) dX11_roundNow_19 (by decide) ?_
  refine st_i_5_2 dX11_roundNow_20 (by decide) rfl ?_
  refine wp_iconst 1 dX11_roundNow_21 (by decide) ?_
  refine st_i_5_3 dX11_roundNow_22 (by decide) rfl ?_
  have hn_q := hW_q.1
  have hkq_q : kqR M S1 := ⟨fun b h1_q h2_q => hw_q.1 b (by omega), fun j h1_q h2_q h3_q => by rw [hw_q.1 126 (by decide)]⟩
  have heM_q : eqD S M := hEM_q
  have heS_q : eqD S S1 := heM_q.tr (eqD.wr hw_q)
  refine l_rnd (M := M) hW_q (fun r S3 S2 g1_q g2_q g3_q => ?_) 1 S1 (-1) dum (by omega) (Or.inl ⟨rfl, fun t u h1_q h2_q => by omega⟩) heS_q ?_ hkq_q
  · obtain ⟨e1_q, e2_q⟩ := rnd_end hl_q g2_q g3_q
    refine k r S2 g1_q ?_ ?_
    · obtain ⟨x1_q, x2_q, x3_q, x4_q, x5_q⟩ := e1_q
      refine ⟨fun i hi_q => ?_, fun i hi_q => ?_, fun i hi_q => ?_, fun b hb_q hc_q => ?_, fun j h1_q h2_q => ?_⟩
      · have := x1_q i hi_q; simpa [uI_ap] using this
      · have := x2_q i hi_q; simpa [uI_ap] using this
      · have := x3_q i hi_q; simpa [uI_ap] using this
      · rw [x4_q b hb_q hc_q, uI_ne hb_q]
      · rw [x5_q j h1_q h2_q, uI_ap, if_neg (by omega)]
    · rw [e2_q, uI_self]
  · intro t ht_q a ha_q q hq_q
    have ht0_q : t = 0 := by omega
    subst ht0_q
    rw [hw_q.2.1 a ha_q q hq_q]
    exact stv_eq heM_q a q
set_option maxHeartbeats 4000000 in
theorem c_round {I S : Mem} {J : Mel} {Q : Option Value → Mem → Mem → Mel → Prop} {n T : Nat} {x : Int32} (hW_q : WS n T S) (k1_q : ¬ (0 ≤ x ∧ x ≤ 1) → Q (some (.int (-102))) I S J) (k2_q : 0 ≤ x ∧ x ≤ 1 → (S 126 1 = 0 ∨ S 126 18 = 6) → Q (some (.int (-103))) I S J) (k : 0 ≤ x ∧ x ≤ 1 → ¬ (S 126 1 = 0 ∨ S 126 18 = 6) → ∀ (r : Int32) (S2 : Mem), RoundP n S x r → rndE S S2 → S2 126 18 = S 126 18 + 1 → Q (some (.int r)) I S2 J) : M2 mX11_round 8 [.ref 126, .int x] I S J Q := by
  refine m2_of [.ref 126, .int x] moX11_round (Nat.le_of_ble_eq_true rfl) rfl ?_
  refine wp_iload_n dX11_round_0 rfl ?_
  refine wp_iconst 0 dX11_round_1 (by decide) ?_
  refine wp_iconst 1 dX11_round_2 (by decide) ?_
  refine g_callS3 (mj := mX11_within) dX11_round_3 lkRX11_149 mkX11_within (by decide) (by decide) (Nat.le_of_ble_eq_true rfl) (c_within ?_)
  refine wp_if_ne dX11_round_6 (fun h6 => ?_) (fun h6 => ?_)
  · skip
    refine wp_aload_n dX11_round_12 rfl ?_
    refine m_getI dX11_round_13 flRX11_212 (by first | rfl | assumption) (by decide) ?_
    refine wp_if_eq dX11_round_16 (fun h16 => ?_) (fun h16 => ?_)
    · skip
      refine wp_bipush (-103) dX11_round_28 (by decide) ?_
      refine wp_goto dX11_round_30 ?_
      refine g_iret dX11_round_38 rfl ?_
      first | exact k1_q (b01_e0 h6) | exact k2_q (b01_ne h6) (Or.inl h16) | exact k2_q (b01_ne h6) (Or.inr h25) | exact k (b01_ne h6) (by rintro (q_q | q_q); exact h16 q_q; exact h25 q_q) r S2 g1_q g2_q g3_q
    · skip
      refine wp_aload_n dX11_round_19 rfl ?_
      refine m_getI dX11_round_20 flRX11_317 (by first | rfl | assumption) (by decide) ?_
      refine wp_bipush 6 dX11_round_23 (by decide) ?_
      refine wp_icmp_ne dX11_round_25 (fun h25 => ?_) (fun h25 => ?_)
      · skip
        refine wp_aload_n dX11_round_33 rfl ?_
        refine wp_iload_n dX11_round_34 rfl ?_
        refine g_callV1 (mj := mX11_roundNow) dX11_round_35 lkRX11_332 mkX11_roundNow (by first | rfl | assumption) (by decide) (by decide) (Nat.le_of_ble_eq_true rfl) (c_roundNow hW_q (fun r S2 g1_q g2_q g3_q => ?_))
        refine g_iret dX11_round_38 rfl ?_
        first | exact k1_q (b01_e0 h6) | exact k2_q (b01_ne h6) (Or.inl h16) | exact k2_q (b01_ne h6) (Or.inr h25) | exact k (b01_ne h6) (by rintro (q_q | q_q); exact h16 q_q; exact h25 q_q) r S2 g1_q g2_q g3_q
      · skip
        refine wp_bipush (-103) dX11_round_28 (by decide) ?_
        refine wp_goto dX11_round_30 ?_
        refine g_iret dX11_round_38 rfl ?_
        first | exact k1_q (b01_e0 h6) | exact k2_q (b01_ne h6) (Or.inl h16) | exact k2_q (b01_ne h6) (Or.inr h25) | exact k (b01_ne h6) (by rintro (q_q | q_q); exact h16 q_q; exact h25 q_q) r S2 g1_q g2_q g3_q
  · skip
    refine wp_bipush (-102) dX11_round_9 (by decide) ?_
    refine g_iret dX11_round_11 rfl ?_
    first | exact k1_q (b01_e0 h6) | exact k2_q (b01_ne h6) (Or.inl h16) | exact k2_q (b01_ne h6) (Or.inr h25) | exact k (b01_ne h6) (by rintro (q_q | q_q); exact h16 q_q; exact h25 q_q) r S2 g1_q g2_q g3_q
/-! draws -/
def sN (s : Nat) : Nat := (1103515245 * s + 12345) % 2147483648
theorem sN_lt (s : Nat) : sN s < 2147483648 := Nat.mod_lt _ (by decide)
theorem sd_eq {s : Nat} (h : s < 2147483648) : (1103515245 * lN s + 12345 &&& 2147483647 : Int64) = lN (sN s) := by
  rw [show (1103515245 : Int64) = lN 1103515245 from rfl, show (12345 : Int64) = lN 12345 from rfl, show (2147483647 : Int64) = lN (2 ^ 31 - 1) from rfl, lN_mul, lN_add, fb_maskL]
  rfl
theorem dr_eq {t m : Nat} (h : t < 2147483648) (hm : 1 ≤ m) (hm2 : m < 100) : (lN t / 65536 - lN t / 65536 / (nI m).toInt64 * (nI m).toInt64).toInt32 = nI (t / 65536 % m) := by
  rw [nI_l (by omega), show (65536 : Int64) = lN 65536 from rfl, pk_lDiv (by omega) (by decide) (by decide), pk_lRem (by omega) (by omega) (by omega), lN_i]
set_option maxHeartbeats 4000000 in
theorem c_draw {I S : Mem} {J : Mel} {Q : Option Value → Mem → Mem → Mel → Prop} {s m : Nat} (hs_q : s < 2147483648) (hm_q : 1 ≤ m) (hm2_q : m < 100) (hJ_q : J 126 51 = lN s) (k : ∀ J', J' 126 51 = lN (sN s) → Q (some (.int (nI (sN s / 65536 % m)))) I S J') : M2 mX11_draw 1 [.ref 126, .int (nI m)] I S J Q := by
  refine m2_of [.ref 126, .int (nI m)] moX11_draw (Nat.le_of_ble_eq_true rfl) rfl ?_
  refine wp_aload_n dX11_draw_0 rfl ?_
  refine wp_ldc2 dX11_draw_1 kcRX11_345 ?_
  refine wp_aload_n dX11_draw_4 rfl ?_
  refine wp_getL dX11_draw_5 flRX11_347 (by first | rfl | assumption) ?_
  refine wp_lmul dX11_draw_8 ?_
  refine wp_ldc2 dX11_draw_9 kcRX11_351 ?_
  refine wp_ladd dX11_draw_12 ?_
  refine wp_ldc2 dX11_draw_13 kcRX11_353 ?_
  refine wp_land dX11_draw_16 ?_
  refine g_putL dX11_draw_17 flRX11_347 (by first | rfl | assumption) ?_
  refine wp_aload_n dX11_draw_20 rfl ?_
  refine wp_getL dX11_draw_21 flRX11_347 (by first | rfl | assumption) ?_
  refine wp_ldc2 dX11_draw_24 kcRX11_355 ?_
  refine wp_ldiv dX11_draw_27 (by decide) ?_
  refine wp_iload_n dX11_draw_28 rfl ?_
  refine wp_i2l dX11_draw_29 ?_
  refine wp_lrem dX11_draw_30 (by rw [nI_l (by omega)]; intro hc_q; have := (pk_lEQ (a := m) (b := 0) (by omega) (by omega)).mp hc_q; omega) ?_
  refine wp_l2i dX11_draw_31 ?_
  refine g_iret dX11_draw_32 rfl ?_
  have e1_q : uJ J 126 51 (1103515245 * J 126 51 + 12345 &&& 2147483647) 126 51 = lN (sN s) := by rw [hJ_q, sd_eq hs_q]; simp [uJ]
  rw [e1_q, dr_eq (sN_lt s) hm_q hm2_q]
  exact k _ e1_q
def dwn (n : Nat) : Nat → Mem × Nat → Mem × Nat
  | 0, p => p
  | m + 1, p => (fTick (fPost (dwn n m p).1 (sN (dwn n m p).2 / 65536 % n) (nI (sN (sN (dwn n m p).2) / 65536 % 8)) (-1)), sN (sN (dwn n m p).2))
theorem dwn_lt {n m s : Nat} {S : Mem} (hs : s < 2147483648) : (dwn n m (S, s)).2 < 2147483648 := by
  cases m with
  | zero => exact hs
  | succ m => exact sN_lt _
theorem okLm {x : Nat} (hx : x < 8) : okL (nI x) (-1) := ⟨⟨x, by omega, rfl⟩, Or.inl rfl⟩
theorem WS.dwn {n T s : Nat} {S : Mem} (h : WS n T S) (hn : 1 ≤ n) (m : Nat) : WS n (T + m) (dwn n m (S, s)).1 := by
  induction m with
  | zero => exact h
  | succ m ih => exact (ih.post (Nat.mod_lt _ (by omega)) (okLm (Nat.mod_lt _ (by decide)))).tick
theorem kpD.dwn (n s : Nat) (S : Mem) (m : Nat) : kpD S (dwn n m (S, s)).1 := by
  induction m with
  | zero => exact kpD.rf
  | succ m ih => exact (ih.tr (kpD.post _ _ _ _)).tr (kpD.tick _)
def spDr (n : Nat) (S : Mem) (m s : Nat) (v : Int32) : Int32 := if v = 0 then (dwn n m (uI (uI S 126 17 0) 126 36 0, s)).1 126 17 else if v = 1 then (dwn n m (uI (uI S 126 17 0) 126 36 0, s)).1 126 36 else nI (dwn n m (uI (uI S 126 17 0) 126 36 0, s)).2
set_option maxHeartbeats 4000000 in
theorem l_dwn {I S : Mem} {Q : Option Value → Mem → Mem → Mel → Prop} {n T m s : Nat} {u v : Int32} (hW_q : WS n T S) (hn1_q : 1 ≤ n) (hs_q : s < 2147483648) (hm_q : m ≤ 30) (k : ∀ (J : Mel) (z : Value), J 126 51 = lN (dwn n m (S, s)).2 → W2 mX11_drawnNow 7 Q I (dwn n m (S, s)).1 J 62 [.ref 126, .int (nI m), .int u, .int v, .int (nI m), z] []) : ∀ (x : Nat) (J : Mel) (z : Value), (x ≤ m) → (J 126 51 = lN (dwn n x (S, s)).2) → W2 mX11_drawnNow 7 Q I (dwn n x (S, s)).1 J 23 [.ref 126, .int (nI m), .int u, .int v, .int (nI x), z] [] := by
  intro x J z
  induction hm : m - x using Nat.strongRecOn generalizing x J z with
  | _ c ih =>
    intro hx_q hJ_q
    have hn_q := hW_q.1
    have hWx_q := hW_q.dwn (s := s) hn1_q x
    have hsx_q : (dwn n x (S, s)).2 < 2147483648 := dwn_lt hs_q
    refine wp_iload dX11_drawnNow_23 rfl ?_
    refine wp_iload_n dX11_drawnNow_25 rfl ?_
    refine wp_icmp_ge dX11_drawnNow_26 (fun h26 => ?_) (fun h26 => ?_)
    · skip
      have e_q : x = m := by rw [nI_leg (by omega) (by omega)] at h26; omega
      subst e_q; exact k J z hJ_q
    · skip
      have hxm_q : x < m := by rw [nI_leg (by omega) (by omega)] at h26; omega
      refine wp_aload_n dX11_drawnNow_29 rfl ?_
      refine wp_aload_n dX11_drawnNow_30 rfl ?_
      refine m_getI dX11_drawnNow_31 flRX11_212 (by first | rfl | assumption) (by decide) ?_
      rw [hWx_q.2.1]
      refine g_callV1 (mj := mX11_draw) dX11_drawnNow_34 lkRX11_357 mkX11_draw (by first | rfl | assumption) (by decide) (by decide) (Nat.le_of_ble_eq_true rfl) (c_draw hsx_q hn1_q (by omega) hJ_q (fun J2 hJ2_q => ?_))
      refine st_i_6_5 dX11_drawnNow_37 (by decide) rfl ?_
      refine wp_aload_n dX11_drawnNow_39 rfl ?_
      refine wp_iload dX11_drawnNow_40 rfl ?_
      refine wp_aload_n dX11_drawnNow_42 rfl ?_
      refine wp_bipush 8 dX11_drawnNow_43 (by decide) ?_
      refine g_callV1 (mj := mX11_draw) dX11_drawnNow_45 lkRX11_357 mkX11_draw (by first | rfl | assumption) (by decide) (by decide) (Nat.le_of_ble_eq_true rfl) (c_draw (m := 8) (sN_lt _) (by omega) (by omega) hJ2_q (fun J3 hJ3_q => ?_))
      refine wp_iconst (-1) dX11_drawnNow_48 (by decide) ?_
      refine g_callV3 (mj := mX11_post) dX11_drawnNow_49 lkRX11_268 mkX11_post (by first | rfl | assumption) (by decide) (by decide) (Nat.le_of_ble_eq_true rfl) (c_post (b := (hWx_q.box (Nat.mod_lt _ (by omega))).choose) (Nat.lt_of_lt_of_le (Nat.mod_lt _ (by omega)) hn_q) (hWx_q.box (Nat.mod_lt _ (by omega))).choose_spec.2 (hWx_q.box (Nat.mod_lt _ (by omega))).choose_spec.1 ?_)
      refine wp_aload_n dX11_drawnNow_52 rfl ?_
      refine g_callV0 (mj := mX11_tickOnce) dX11_drawnNow_53 lkRX11_299 mkX11_tickOnce (by first | rfl | assumption) (by decide) (by decide) (Nat.le_of_ble_eq_true rfl) (c_tickOnce (hWx_q.post (Nat.mod_lt _ (by omega)) (okLm (Nat.mod_lt _ (by decide)))) ?_)
      refine ic_6_4 (nI (x + 1)) dX11_drawnNow_56 (nI_inc x) (by decide) rfl ?_
      refine wp_goto dX11_drawnNow_59 ?_
      exact ih _ (by omega) (x + 1) J3 _ rfl (by omega) hJ3_q
