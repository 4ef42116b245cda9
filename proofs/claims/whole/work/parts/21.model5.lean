def spSend (S : Mem) (x y : Int32) : Int32 × Mem := if isA S x then (if 0 ≤ y ∧ y ≤ 8 then (if S 130 (tn x) = 0 then (-103, S) else if S 133 (tn x) = 5 then (-104, S) else ((fPost S (tn x) y (-1)) 133 (tn x), fPost S (tn x) y (-1))) else (-102, S)) else (-101, S)
set_option maxHeartbeats 4000000 in
theorem c_send {I S : Mem} {J : Mel} {Q : Option Value → Mem → Mem → Mel → Prop} {n : Nat} (hn_q : n ≤ 6) (ha_q : S 126 1 = nI n) {x y : Int32} (hb_q : ∀ i, i < n → ∃ b, b ≤ 5 ∧ S 133 i = nI b) (k : Q (some (.int (spSend S x y).1)) I (spSend S x y).2 J) : M2 mX11_send 3 [.ref 126, .int x, .int y] I S J Q := by
  refine m2_of [.ref 126, .int x, .int y] moX11_send (Nat.le_of_ble_eq_true rfl) rfl ?_
  refine wp_aload_n dX11_send_0 rfl ?_
  refine wp_iload_n dX11_send_1 rfl ?_
  refine g_callV1 (mj := mX11_isActor) dX11_send_2 lkRX11_245 mkX11_isActor (by first | rfl | assumption) (by decide) (by decide) (Nat.le_of_ble_eq_true rfl) (c_isActor ?_)
  refine wp_if_ne dX11_send_5 (fun h5 => ?_) (fun h5 => ?_)
  · skip
    refine wp_iload_n dX11_send_11 rfl ?_
    refine wp_iconst 0 dX11_send_12 (by decide) ?_
    refine wp_bipush 8 dX11_send_13 (by decide) ?_
    refine g_callS3 (mj := mX11_within) dX11_send_15 lkRX11_149 mkX11_within (by decide) (by decide) (Nat.le_of_ble_eq_true rfl) (c_within ?_)
    refine wp_if_ne dX11_send_18 (fun h18 => ?_) (fun h18 => ?_)
    · skip
      obtain ⟨i, hi_q, rfl⟩ := isA_of ha_q hn_q (b01_ne h5)
      obtain ⟨b, hb5_q, hbb_q⟩ := hb_q i hi_q
      refine wp_aload_n dX11_send_24 rfl ?_
      refine wp_getA (by first | rfl | assumption) dX11_send_25 flRX11_19 (by first | rfl | assumption) ?_
      refine wp_iload_n dX11_send_28 rfl ?_
      refine m_iald dX11_send_29 rfl rfl (by omega) (by decide) (by decide) ?_
      refine wp_if_ne dX11_send_30 (fun h30 => ?_) (fun h30 => ?_)
      · skip
        refine wp_aload_n dX11_send_36 rfl ?_
        refine wp_getA (by first | rfl | assumption) dX11_send_37 flRX11_28 (by first | rfl | assumption) ?_
        refine wp_iload_n dX11_send_40 rfl ?_
        refine m_iald dX11_send_41 rfl rfl (by omega) (by decide) (by decide) ?_
        refine wp_iconst 5 dX11_send_42 (by decide) ?_
        refine wp_icmp_ne dX11_send_43 (fun h43 => ?_) (fun h43 => ?_)
        · skip
          refine wp_aload_n dX11_send_49 rfl ?_
          refine wp_iload_n dX11_send_50 rfl ?_
          refine wp_iload_n dX11_send_51 rfl ?_
          refine wp_iconst (-1) dX11_send_52 (by decide) ?_
          refine g_callV3 (mj := mX11_post) dX11_send_53 lkRX11_268 mkX11_post (by first | rfl | assumption) (by decide) (by decide) (Nat.le_of_ble_eq_true rfl) (c_post (by omega) hbb_q hb5_q ?_)
          refine wp_aload_n dX11_send_56 rfl ?_
          refine wp_getA (by first | rfl | assumption) dX11_send_57 flRX11_28 (by first | rfl | assumption) ?_
          refine wp_iload_n dX11_send_60 rfl ?_
          refine m_iald dX11_send_61 rfl rfl (by omega) (by decide) (by decide) ?_
          refine g_iret dX11_send_62 rfl ?_
          unfold spSend at k
          first | (rw [if_neg (b01_e0 h5)] at k; exact k) | (rw [if_pos (b01_ne h5), if_neg (b01_e0 h18)] at k; exact k) | (rw [if_pos (b01_ne h5), if_pos (b01_ne h18), tn_nI (by omega)] at k; first | (rw [if_pos h30] at k; exact k) | (rw [if_neg h30] at k; first | (rw [if_pos h43] at k; exact k) | (rw [if_neg h43] at k; exact k)))
        · skip
          refine wp_bipush (-104) dX11_send_46 (by decide) ?_
          refine g_iret dX11_send_48 rfl ?_
          unfold spSend at k
          first | (rw [if_neg (b01_e0 h5)] at k; exact k) | (rw [if_pos (b01_ne h5), if_neg (b01_e0 h18)] at k; exact k) | (rw [if_pos (b01_ne h5), if_pos (b01_ne h18), tn_nI (by omega)] at k; first | (rw [if_pos h30] at k; exact k) | (rw [if_neg h30] at k; first | (rw [if_pos h43] at k; exact k) | (rw [if_neg h43] at k; exact k)))
      · skip
        refine wp_bipush (-103) dX11_send_33 (by decide) ?_
        refine g_iret dX11_send_35 rfl ?_
        unfold spSend at k
        first | (rw [if_neg (b01_e0 h5)] at k; exact k) | (rw [if_pos (b01_ne h5), if_neg (b01_e0 h18)] at k; exact k) | (rw [if_pos (b01_ne h5), if_pos (b01_ne h18), tn_nI (by omega)] at k; first | (rw [if_pos h30] at k; exact k) | (rw [if_neg h30] at k; first | (rw [if_pos h43] at k; exact k) | (rw [if_neg h43] at k; exact k)))
    · skip
      refine wp_bipush (-102) dX11_send_21 (by decide) ?_
      refine g_iret dX11_send_23 rfl ?_
      unfold spSend at k
      first | (rw [if_neg (b01_e0 h5)] at k; exact k) | (rw [if_pos (b01_ne h5), if_neg (b01_e0 h18)] at k; exact k) | (rw [if_pos (b01_ne h5), if_pos (b01_ne h18), tn_nI (by omega)] at k; first | (rw [if_pos h30] at k; exact k) | (rw [if_neg h30] at k; first | (rw [if_pos h43] at k; exact k) | (rw [if_neg h43] at k; exact k)))
  · skip
    refine wp_bipush (-101) dX11_send_8 (by decide) ?_
    refine g_iret dX11_send_10 rfl ?_
    unfold spSend at k
    first | (rw [if_neg (b01_e0 h5)] at k; exact k) | (rw [if_pos (b01_ne h5), if_neg (b01_e0 h18)] at k; exact k) | (rw [if_pos (b01_ne h5), if_pos (b01_ne h18), tn_nI (by omega)] at k; first | (rw [if_pos h30] at k; exact k) | (rw [if_neg h30] at k; first | (rw [if_pos h43] at k; exact k) | (rw [if_neg h43] at k; exact k)))
def tks : Nat → Mem → Mem
  | 0, S => S
  | m + 1, S => fTick (tks m S)
theorem WS.tks {n T : Nat} {S : Mem} (h : WS n T S) (m : Nat) : WS n (T + m) (tks m S) := by
  induction m with
  | zero => exact h
  | succ m ih => exact ih.tick
def spTick (S : Mem) (x : Int32) : Int32 × Mem := if 1 ≤ x ∧ x ≤ 50 then (if S 126 1 = 0 then (-103, S) else if S 126 16 + x ≤ 9999 then ((tks (tn x) (uI S 126 35 0)) 126 35, tks (tn x) (uI S 126 35 0)) else (-104, S)) else (-102, S)
set_option maxHeartbeats 4000000 in
theorem l_mtick {I S : Mem} {J : Mel} {Q : Option Value → Mem → Mem → Mel → Prop} {n T m : Nat} (hW_q : WS n T S) (hm_q : m ≤ 50) (k : Q (some (.int ((tks m S) 126 35))) I (tks m S) J) : ∀ (x : Nat), (x ≤ m) → W2 mX11_tick 7 Q I (tks x S) J 45 [.ref 126, .int (nI m), .int (nI x)] [] := by
  intro x
  induction hm : m - x using Nat.strongRecOn generalizing x with
  | _ c ih =>
    intro hx_q
    have hx2_q := hW_q.tks x
    refine wp_iload_n dX11_tick_45 rfl ?_
    refine wp_iload_n dX11_tick_46 rfl ?_
    refine wp_icmp_ge dX11_tick_47 (fun h47 => ?_) (fun h47 => ?_)
    · skip
      refine wp_aload_n dX11_tick_60 rfl ?_
      refine m_getI dX11_tick_61 flRX11_252 (by first | rfl | assumption) (by decide) ?_
      refine g_iret dX11_tick_64 rfl ?_
      have e_q : x = m := by rw [nI_leg (by omega) (by omega)] at h47; omega
      rw [e_q]; exact k
    · skip
      have hxm_q : x < m := by rw [nI_leg (by omega) (by omega)] at h47; omega
      refine wp_aload_n dX11_tick_50 rfl ?_
      refine g_callV0 (mj := mX11_tickOnce) dX11_tick_51 lkRX11_299 mkX11_tickOnce (by first | rfl | assumption) (by decide) (by decide) (Nat.le_of_ble_eq_true rfl) (c_tickOnce hx2_q ?_)
      refine ic_3_2 (nI (x + 1)) dX11_tick_54 (nI_inc x) (by decide) rfl ?_
      refine wp_goto dX11_tick_57 ?_
      exact ih _ (by omega) (x + 1) rfl (by omega)
set_option maxHeartbeats 4000000 in
theorem c_tick {I S : Mem} {J : Mel} {Q : Option Value → Mem → Mem → Mel → Prop} {n T : Nat} {x : Int32} (hW_q : WS n T S) (k : Q (some (.int (spTick S x).1)) I (spTick S x).2 J) : M2 mX11_tick 7 [.ref 126, .int x] I S J Q := by
  refine m2_of [.ref 126, .int x, dum] moX11_tick (Nat.le_of_ble_eq_true rfl) rfl ?_
  refine wp_iload_n dX11_tick_0 rfl ?_
  refine wp_iconst 1 dX11_tick_1 (by decide) ?_
  refine wp_bipush 50 dX11_tick_2 (by decide) ?_
  refine g_callS3 (mj := mX11_within) dX11_tick_4 lkRX11_149 mkX11_within (by decide) (by decide) (Nat.le_of_ble_eq_true rfl) (c_within ?_)
  refine wp_if_ne dX11_tick_7 (fun h7 => ?_) (fun h7 => ?_)
  · skip
    refine wp_aload_n dX11_tick_13 rfl ?_
    refine m_getI dX11_tick_14 flRX11_212 (by first | rfl | assumption) (by decide) ?_
    refine wp_if_ne dX11_tick_17 (fun h17 => ?_) (fun h17 => ?_)
    · skip
      refine wp_aload_n dX11_tick_23 rfl ?_
      refine m_getI dX11_tick_24 flRX11_224 (by first | rfl | assumption) (by decide) ?_
      refine wp_iload_n dX11_tick_27 rfl ?_
      refine wp_iadd dX11_tick_28 ?_
      refine wp_sipush 9999 dX11_tick_29 (by decide) ?_
      refine wp_icmp_le dX11_tick_32 (fun h32 => ?_) (fun h32 => ?_)
      · skip
        refine wp_aload_n dX11_tick_38 rfl ?_
        refine wp_iconst 0 dX11_tick_39 (by decide) ?_
        refine m_putI dX11_tick_40 flRX11_252 (by first | rfl | assumption) (by decide) ?_
        refine wp_iconst 0 dX11_tick_43 (by decide) ?_
        refine st_i_3_2 dX11_tick_44 (by decide) rfl ?_
        obtain ⟨m, hm_q, rfl⟩ := in_of (m := 50) (by omega) (Int32.le_trans (by decide) (b01_ne h7).1) (b01_ne h7).2
        unfold spTick at k
        rw [if_pos (b01_ne h7), if_neg h17, if_pos h32, tn_nI (by omega)] at k
        exact l_mtick (hW_q.lost (by decide)) hm_q k 0 (by omega)
      · skip
        refine wp_bipush (-104) dX11_tick_35 (by decide) ?_
        refine g_iret dX11_tick_37 rfl ?_
        unfold spTick at k
        first | (rw [if_neg (b01_e0 h7)] at k; exact k) | (rw [if_pos (b01_ne h7), if_pos h17] at k; exact k) | (rw [if_pos (b01_ne h7), if_neg h17, if_neg h32] at k; exact k)
    · skip
      refine wp_bipush (-103) dX11_tick_20 (by decide) ?_
      refine g_iret dX11_tick_22 rfl ?_
      unfold spTick at k
      first | (rw [if_neg (b01_e0 h7)] at k; exact k) | (rw [if_pos (b01_ne h7), if_pos h17] at k; exact k) | (rw [if_pos (b01_ne h7), if_neg h17, if_neg h32] at k; exact k)
  · skip
    refine wp_bipush (-102) dX11_tick_10 (by decide) ?_
    refine g_iret dX11_tick_12 rfl ?_
    unfold spTick at k
    first | (rw [if_neg (b01_e0 h7)] at k; exact k) | (rw [if_pos (b01_ne h7), if_pos h17] at k; exact k) | (rw [if_pos (b01_ne h7), if_neg h17, if_neg h32] at k; exact k)
def spFell (S : Mem) (x : Int32) : Int32 × Mem := if isA S x then (if S 130 (tn x) = 0 then (-103, S) else ((fFall (uI S 126 36 0) (tn x)) 126 36, fFall (uI S 126 36 0) (tn x))) else (-101, S)
set_option maxHeartbeats 4000000 in
theorem c_fell {I S : Mem} {J : Mel} {Q : Option Value → Mem → Mem → Mel → Prop} {n T : Nat} {x : Int32} (hW_q : WS n T S) (k : Q (some (.int (spFell S x).1)) I (spFell S x).2 J) : M2 mX11_fell 5 [.ref 126, .int x] I S J Q := by
  refine m2_of [.ref 126, .int x] moX11_fell (Nat.le_of_ble_eq_true rfl) rfl ?_
  refine wp_aload_n dX11_fell_0 rfl ?_
  refine wp_iload_n dX11_fell_1 rfl ?_
  refine g_callV1 (mj := mX11_isActor) dX11_fell_2 lkRX11_245 mkX11_isActor (by first | rfl | assumption) (by decide) (by decide) (Nat.le_of_ble_eq_true rfl) (c_isActor ?_)
  refine wp_if_ne dX11_fell_5 (fun h5 => ?_) (fun h5 => ?_)
  · skip
    obtain ⟨i, hi_q, rfl⟩ := isA_of hW_q.2.1 hW_q.1 (b01_ne h5)
    have hn_q := hW_q.1
    refine wp_aload_n dX11_fell_11 rfl ?_
    refine wp_getA (by first | rfl | assumption) dX11_fell_12 flRX11_19 (by first | rfl | assumption) ?_
    refine wp_iload_n dX11_fell_15 rfl ?_
    refine m_iald dX11_fell_16 rfl rfl (by omega) (by decide) (by decide) ?_
    refine wp_if_ne dX11_fell_17 (fun h17 => ?_) (fun h17 => ?_)
    · skip
      refine wp_aload_n dX11_fell_23 rfl ?_
      refine wp_iconst 0 dX11_fell_24 (by decide) ?_
      refine m_putI dX11_fell_25 flRX11_278 (by first | rfl | assumption) (by decide) ?_
      refine wp_aload_n dX11_fell_28 rfl ?_
      refine wp_iload_n dX11_fell_29 rfl ?_
      refine g_callV1 (mj := mX11_fall) dX11_fell_30 lkRX11_290 mkX11_fall (by first | rfl | assumption) (by decide) (by decide) (Nat.le_of_ble_eq_true rfl) (c_fall (hW_q.lost (by decide)) hi_q ?_)
      refine wp_aload_n dX11_fell_33 rfl ?_
      refine m_getI dX11_fell_34 flRX11_278 (by first | rfl | assumption) (by decide) ?_
      refine g_iret dX11_fell_37 rfl ?_
      unfold spFell at k
      first | (rw [if_neg (b01_e0 h5)] at k; exact k) | (rw [if_pos (b01_ne h5), tn_nI (by omega)] at k; first | (rw [if_pos h17] at k; exact k) | (rw [if_neg h17] at k; exact k))
    · skip
      refine wp_bipush (-103) dX11_fell_20 (by decide) ?_
      refine g_iret dX11_fell_22 rfl ?_
      unfold spFell at k
      first | (rw [if_neg (b01_e0 h5)] at k; exact k) | (rw [if_pos (b01_ne h5), tn_nI (by omega)] at k; first | (rw [if_pos h17] at k; exact k) | (rw [if_neg h17] at k; exact k))
  · skip
    refine wp_bipush (-101) dX11_fell_8 (by decide) ?_
    refine g_iret dX11_fell_10 rfl ?_
    unfold spFell at k
    first | (rw [if_neg (b01_e0 h5)] at k; exact k) | (rw [if_pos (b01_ne h5), tn_nI (by omega)] at k; first | (rw [if_pos h17] at k; exact k) | (rw [if_neg h17] at k; exact k))
def spRaise (S : Mem) (x : Int32) : Int32 × Mem := if isA S x then (if S 130 (tn x) = 1 then (-103, S) else (smI ((fBegin S (tn x)) 130) (tn (S 126 1)), fBegin S (tn x))) else (-101, S)
set_option maxHeartbeats 4000000 in
theorem c_raise {I S : Mem} {J : Mel} {Q : Option Value → Mem → Mem → Mel → Prop} {n : Nat} (hn_q : n ≤ 6) (ha_q : S 126 1 = nI n) {x : Int32} (k : Q (some (.int (spRaise S x).1)) I (spRaise S x).2 J) : M2 mX11_raise 3 [.ref 126, .int x] I S J Q := by
  refine m2_of [.ref 126, .int x] moX11_raise (Nat.le_of_ble_eq_true rfl) rfl ?_
  refine wp_aload_n dX11_raise_0 rfl ?_
  refine wp_iload_n dX11_raise_1 rfl ?_
  refine g_callV1 (mj := mX11_isActor) dX11_raise_2 lkRX11_245 mkX11_isActor (by first | rfl | assumption) (by decide) (by decide) (Nat.le_of_ble_eq_true rfl) (c_isActor ?_)
  refine wp_if_ne dX11_raise_5 (fun h5 => ?_) (fun h5 => ?_)
  · skip
    obtain ⟨i, hi_q, rfl⟩ := isA_of ha_q hn_q (b01_ne h5)
    refine wp_aload_n dX11_raise_11 rfl ?_
    refine wp_getA (by first | rfl | assumption) dX11_raise_12 flRX11_19 (by first | rfl | assumption) ?_
    refine wp_iload_n dX11_raise_15 rfl ?_
    refine m_iald dX11_raise_16 rfl rfl (by omega) (by decide) (by decide) ?_
    refine wp_iconst 1 dX11_raise_17 (by decide) ?_
    refine wp_icmp_ne dX11_raise_18 (fun h18 => ?_) (fun h18 => ?_)
    · skip
      refine wp_aload_n dX11_raise_24 rfl ?_
      refine wp_iload_n dX11_raise_25 rfl ?_
      refine g_callV1 (mj := mX11_begin) dX11_raise_26 lkRX11_215 mkX11_begin (by first | rfl | assumption) (by decide) (by decide) (Nat.le_of_ble_eq_true rfl) (c_begin (by omega) ?_)
      refine wp_aload_n dX11_raise_29 rfl ?_
      refine g_callV0 (mj := mX11_ups) dX11_raise_30 lkRX11_302 mkX11_ups (by first | rfl | assumption) (by decide) (by decide) (Nat.le_of_ble_eq_true rfl) (c_ups (S := fBegin S i) hn_q (by simp [fBegin, uI_ap]; exact ha_q) ?_)
      refine g_iret dX11_raise_33 rfl ?_
      unfold spRaise at k
      first | (rw [if_neg (b01_e0 h5)] at k; exact k) | (rw [if_pos (b01_ne h5), tn_nI (by omega)] at k; first | (rw [if_pos h18] at k; exact k) | (rw [if_neg h18, ha_q, tn_nI (by omega)] at k; exact k))
    · skip
      refine wp_bipush (-103) dX11_raise_21 (by decide) ?_
      refine g_iret dX11_raise_23 rfl ?_
      unfold spRaise at k
      first | (rw [if_neg (b01_e0 h5)] at k; exact k) | (rw [if_pos (b01_ne h5), tn_nI (by omega)] at k; first | (rw [if_pos h18] at k; exact k) | (rw [if_neg h18, ha_q, tn_nI (by omega)] at k; exact k))
  · skip
    refine wp_bipush (-101) dX11_raise_8 (by decide) ?_
    refine g_iret dX11_raise_10 rfl ?_
    unfold spRaise at k
    first | (rw [if_neg (b01_e0 h5)] at k; exact k) | (rw [if_pos (b01_ne h5), tn_nI (by omega)] at k; first | (rw [if_pos h18] at k; exact k) | (rw [if_neg h18, ha_q, tn_nI (by omega)] at k; exact k))
def lkB (S : Mem) (x y : Int32) (l : Nat) : Nat → Int32
  | 0 => -1
  | c + 1 => if (S 138 (l - (c + 1)) = x ∧ S 139 (l - (c + 1)) = y) ∨ (S 138 (l - (c + 1)) = y ∧ S 139 (l - (c + 1)) = x) then nI (l - (c + 1)) else lkB S x y l c
/-- the first link of the two -/
def spLk (S : Mem) (x y : Int32) : Int32 := lkB S x y (tn (S 126 13)) (tn (S 126 13))
set_option maxHeartbeats 4000000 in
theorem l_linkBy {I S : Mem} {J : Mel} {Q : Option Value → Mem → Mem → Mel → Prop} {x y : Int32} {l : Nat} (hl_q : S 126 13 = nI l) (hl6_q : l ≤ 6) : ∀ (z : Nat), (z ≤ l) → (Q (some (.int (lkB S x y l (l - z)))) I S J) → W2 mX11_linkBy 1 Q I S J 2 [.ref 126, .int x, .int y, .int (nI z)] [] := by
  intro z
  induction hm : l - z using Nat.strongRecOn generalizing z with
  | _ c ih =>
    intro hz_q k
    rw [← hm] at k
    refine wp_iload_n dX11_linkBy_2 rfl ?_
    refine wp_aload_n dX11_linkBy_3 rfl ?_
    refine m_getI dX11_linkBy_4 flRX11_221 (by first | rfl | assumption) (by decide) ?_
    refine wp_icmp_ge dX11_linkBy_7 (fun h7 => ?_) (fun h7 => ?_)
    · skip
      refine wp_iconst (-1) dX11_linkBy_58 (by decide) ?_
      refine g_iret dX11_linkBy_59 rfl ?_
      have e_q : l - z = 0 := by rw [hl_q, nI_leg (by omega) (by omega)] at h7; omega
      rw [e_q] at k; exact k
    · skip
      have hzl_q : z < l := by rw [hl_q, nI_leg (by omega) (by omega)] at h7; omega
      obtain ⟨c2, hc2_q⟩ : ∃ c2, l - z = c2 + 1 := ⟨l - z - 1, by omega⟩
      have ez_q : l - (c2 + 1) = z := by omega
      rw [hc2_q] at k
      simp only [lkB] at k
      rw [ez_q] at k
      refine wp_aload_n dX11_linkBy_10 rfl ?_
      refine wp_getA (by first | rfl | assumption) dX11_linkBy_11 flRX11_43 (by first | rfl | assumption) ?_
      refine wp_iload_n dX11_linkBy_14 rfl ?_
      refine m_iald dX11_linkBy_15 rfl rfl (by omega) (by decide) (by decide) ?_
      refine wp_iload_n dX11_linkBy_16 rfl ?_
      refine wp_icmp_ne dX11_linkBy_17 (fun h17 => ?_) (fun h17 => ?_)
      · skip
        refine wp_aload_n dX11_linkBy_30 rfl ?_
        refine wp_getA (by first | rfl | assumption) dX11_linkBy_31 flRX11_43 (by first | rfl | assumption) ?_
        refine wp_iload_n dX11_linkBy_34 rfl ?_
        refine m_iald dX11_linkBy_35 rfl rfl (by omega) (by decide) (by decide) ?_
        refine wp_iload_n dX11_linkBy_36 rfl ?_
        refine wp_icmp_ne dX11_linkBy_37 (fun h37 => ?_) (fun h37 => ?_)
        · skip
          refine ic_4_3 (nI (z + 1)) dX11_linkBy_52 (nI_inc z) (by decide) rfl ?_
          refine wp_goto dX11_linkBy_55 ?_
          rw [if_neg (by grind)] at k
          exact ih _ (by omega) (z + 1) rfl (by omega) (by have e_q : l - (z + 1) = c2 := (by omega); simpa only [e_q] using k)
        · skip
          refine wp_aload_n dX11_linkBy_40 rfl ?_
          refine wp_getA (by first | rfl | assumption) dX11_linkBy_41 flRX11_46 (by first | rfl | assumption) ?_
          refine wp_iload_n dX11_linkBy_44 rfl ?_
          refine m_iald dX11_linkBy_45 rfl rfl (by omega) (by decide) (by decide) ?_
          refine wp_iload_n dX11_linkBy_46 rfl ?_
          refine wp_icmp_ne dX11_linkBy_47 (fun h47 => ?_) (fun h47 => ?_)
          · skip
            refine ic_4_3 (nI (z + 1)) dX11_linkBy_52 (nI_inc z) (by decide) rfl ?_
            refine wp_goto dX11_linkBy_55 ?_
            rw [if_neg (by grind)] at k
            exact ih _ (by omega) (z + 1) rfl (by omega) (by have e_q : l - (z + 1) = c2 := (by omega); simpa only [e_q] using k)
          · skip
            refine wp_iload_n dX11_linkBy_50 rfl ?_
            refine g_iret dX11_linkBy_51 rfl ?_
            rw [if_pos (by grind)] at k; exact k
      · skip
        refine wp_aload_n dX11_linkBy_20 rfl ?_
        refine wp_getA (by first | rfl | assumption) dX11_linkBy_21 flRX11_46 (by first | rfl | assumption) ?_
        refine wp_iload_n dX11_linkBy_24 rfl ?_
        refine m_iald dX11_linkBy_25 rfl rfl (by omega) (by decide) (by decide) ?_
        refine wp_iload_n dX11_linkBy_26 rfl ?_
        refine wp_icmp_eq dX11_linkBy_27 (fun h27 => ?_) (fun h27 => ?_)
        · skip
          refine wp_iload_n dX11_linkBy_50 rfl ?_
          refine g_iret dX11_linkBy_51 rfl ?_
          rw [if_pos (by grind)] at k; exact k
        · skip
          refine wp_aload_n dX11_linkBy_30 rfl ?_
          refine wp_getA (by first | rfl | assumption) dX11_linkBy_31 flRX11_43 (by first | rfl | assumption) ?_
          refine wp_iload_n dX11_linkBy_34 rfl ?_
          refine m_iald dX11_linkBy_35 rfl rfl (by omega) (by decide) (by decide) ?_
          refine wp_iload_n dX11_linkBy_36 rfl ?_
          refine wp_icmp_ne dX11_linkBy_37 (fun h37 => ?_) (fun h37 => ?_)
          · skip
            refine ic_4_3 (nI (z + 1)) dX11_linkBy_52 (nI_inc z) (by decide) rfl ?_
            refine wp_goto dX11_linkBy_55 ?_
            rw [if_neg (by grind)] at k
            exact ih _ (by omega) (z + 1) rfl (by omega) (by have e_q : l - (z + 1) = c2 := (by omega); simpa only [e_q] using k)
          · skip
            refine wp_aload_n dX11_linkBy_40 rfl ?_
            refine wp_getA (by first | rfl | assumption) dX11_linkBy_41 flRX11_46 (by first | rfl | assumption) ?_
            refine wp_iload_n dX11_linkBy_44 rfl ?_
            refine m_iald dX11_linkBy_45 rfl rfl (by omega) (by decide) (by decide) ?_
            refine wp_iload_n dX11_linkBy_46 rfl ?_
            refine wp_icmp_ne dX11_linkBy_47 (fun h47 => ?_) (fun h47 => ?_)
            · skip
              refine ic_4_3 (nI (z + 1)) dX11_linkBy_52 (nI_inc z) (by decide) rfl ?_
              refine wp_goto dX11_linkBy_55 ?_
              rw [if_neg (by grind)] at k
              exact ih _ (by omega) (z + 1) rfl (by omega) (by have e_q : l - (z + 1) = c2 := (by omega); simpa only [e_q] using k)
            · skip
              refine wp_iload_n dX11_linkBy_50 rfl ?_
              refine g_iret dX11_linkBy_51 rfl ?_
              rw [if_pos (by grind)] at k; exact k
set_option maxHeartbeats 4000000 in
theorem c_linkBy {I S : Mem} {J : Mel} {Q : Option Value → Mem → Mem → Mel → Prop} {x y : Int32} {l : Nat} (hl_q : S 126 13 = nI l) (hl6_q : l ≤ 6) (k : Q (some (.int (spLk S x y))) I S J) : M2 mX11_linkBy 1 [.ref 126, .int x, .int y] I S J Q := by
  refine m2_of [.ref 126, .int x, .int y, dum] moX11_linkBy (Nat.le_of_ble_eq_true rfl) rfl ?_
  refine wp_iconst 0 dX11_linkBy_0 (by decide) ?_
  refine st_i_4_3 dX11_linkBy_1 (by decide) rfl ?_
  exact l_linkBy hl_q hl6_q 0 (by omega) (by unfold spLk at k; rw [hl_q, tn_nI (by omega)] at k; exact k)
def spTie (S : Mem) (x y : Int32) : Int32 × Mem := if isA S x ∧ isA S y ∧ ¬ x = y then (if spLk S x y = -1 then (if S 126 13 = 6 then (-104, S) else (S 126 13 + 1, uI (uI (uI S 138 (tn (S 126 13)) x) 139 (tn (S 126 13)) y) 126 13 (S 126 13 + 1))) else (-103, S)) else (-101, S)
set_option maxHeartbeats 4000000 in
theorem c_tie {I S : Mem} {J : Mel} {Q : Option Value → Mem → Mem → Mel → Prop} {x y : Int32} {l : Nat} (hl_q : S 126 13 = nI l) (hl6_q : l ≤ 6) (k : Q (some (.int (spTie S x y).1)) I (spTie S x y).2 J) : M2 mX11_tie 3 [.ref 126, .int x, .int y] I S J Q := by
  refine m2_of [.ref 126, .int x, .int y] moX11_tie (Nat.le_of_ble_eq_true rfl) rfl ?_
  refine wp_aload_n dX11_tie_0 rfl ?_
  refine wp_iload_n dX11_tie_1 rfl ?_
  refine g_callV1 (mj := mX11_isActor) dX11_tie_2 lkRX11_245 mkX11_isActor (by first | rfl | assumption) (by decide) (by decide) (Nat.le_of_ble_eq_true rfl) (c_isActor ?_)
  refine wp_if_eq dX11_tie_5 (fun h5 => ?_) (fun h5 => ?_)
  · skip
    refine wp_bipush (-101) dX11_tie_21 (by decide) ?_
    refine g_iret dX11_tie_23 rfl ?_
    unfold spTie at k
    first | (rw [if_neg (fun q => b01_e0 h5 q.1)] at k; exact k) | (rw [if_neg (fun q => b01_e0 h13 q.2.1)] at k; exact k) | (rw [if_neg (fun q => q.2.2 h18)] at k; exact k) | (rw [if_pos ⟨b01_ne h5, b01_ne h13, h18⟩] at k; first | (rw [if_neg h31] at k; exact k) | (rw [if_pos h31] at k; first | (rw [if_pos h43] at k; exact k) | (rw [if_neg h43, hl_q, tn_nI (by omega)] at k; rw [uI_self, uI_ne (show (126 : Nat) ≠ 139 by decide), uI_ne (show (126 : Nat) ≠ 138 by decide), hl_q]; exact k)))
  · skip
    refine wp_aload_n dX11_tie_8 rfl ?_
    refine wp_iload_n dX11_tie_9 rfl ?_
    refine g_callV1 (mj := mX11_isActor) dX11_tie_10 lkRX11_245 mkX11_isActor (by first | rfl | assumption) (by decide) (by decide) (Nat.le_of_ble_eq_true rfl) (c_isActor ?_)
    refine wp_if_eq dX11_tie_13 (fun h13 => ?_) (fun h13 => ?_)
    · skip
      refine wp_bipush (-101) dX11_tie_21 (by decide) ?_
      refine g_iret dX11_tie_23 rfl ?_
      unfold spTie at k
      first | (rw [if_neg (fun q => b01_e0 h5 q.1)] at k; exact k) | (rw [if_neg (fun q => b01_e0 h13 q.2.1)] at k; exact k) | (rw [if_neg (fun q => q.2.2 h18)] at k; exact k) | (rw [if_pos ⟨b01_ne h5, b01_ne h13, h18⟩] at k; first | (rw [if_neg h31] at k; exact k) | (rw [if_pos h31] at k; first | (rw [if_pos h43] at k; exact k) | (rw [if_neg h43, hl_q, tn_nI (by omega)] at k; rw [uI_self, uI_ne (show (126 : Nat) ≠ 139 by decide), uI_ne (show (126 : Nat) ≠ 138 by decide), hl_q]; exact k)))
    · skip
      refine wp_iload_n dX11_tie_16 rfl ?_
      refine wp_iload_n dX11_tie_17 rfl ?_
      refine wp_icmp_ne dX11_tie_18 (fun h18 => ?_) (fun h18 => ?_)
      · skip
        refine wp_aload_n dX11_tie_24 rfl ?_
        refine wp_iload_n dX11_tie_25 rfl ?_
        refine wp_iload_n dX11_tie_26 rfl ?_
        refine g_callV2 (mj := mX11_linkBy) dX11_tie_27 lkRX11_305 mkX11_linkBy (by first | rfl | assumption) (by decide) (by decide) (Nat.le_of_ble_eq_true rfl) (c_linkBy hl_q hl6_q ?_)
        refine wp_iconst (-1) dX11_tie_30 (by decide) ?_
        refine wp_icmp_eq dX11_tie_31 (fun h31 => ?_) (fun h31 => ?_)
        · skip
          refine wp_aload_n dX11_tie_37 rfl ?_
          refine m_getI dX11_tie_38 flRX11_221 (by first | rfl | assumption) (by decide) ?_
          refine wp_bipush 6 dX11_tie_41 (by decide) ?_
          refine wp_icmp_ne dX11_tie_43 (fun h43 => ?_) (fun h43 => ?_)
          · skip
            have hl5_q : l < 6 := by have : l ≠ 6 := fun e => h43 (by rw [hl_q, e]; rfl); omega
            refine wp_aload_n dX11_tie_49 rfl ?_
            refine wp_getA (by first | rfl | assumption) dX11_tie_50 flRX11_43 (by first | rfl | assumption) ?_
            refine wp_aload_n dX11_tie_53 rfl ?_
            refine m_getI dX11_tie_54 flRX11_221 (by first | rfl | assumption) (by decide) ?_
            refine wp_iload_n dX11_tie_57 rfl ?_
            refine m_iast dX11_tie_58 rfl hl_q (by omega) (by decide) (by decide) ?_
            refine wp_aload_n dX11_tie_59 rfl ?_
            refine wp_getA (by first | rfl | assumption) dX11_tie_60 flRX11_46 (by first | rfl | assumption) ?_
            refine wp_aload_n dX11_tie_63 rfl ?_
            refine m_getI dX11_tie_64 flRX11_221 (by first | rfl | assumption) (by decide) ?_
            refine wp_iload_n dX11_tie_67 rfl ?_
            refine m_iast dX11_tie_68 rfl (by rw [uI_ne (by decide)]; exact hl_q) (by omega) (by decide) (by decide) ?_
            refine wp_aload_n dX11_tie_69 rfl ?_
            refine wp_dup dX11_tie_70 rfl ?_
            refine m_getI dX11_tie_71 flRX11_221 (by first | rfl | assumption) (by decide) ?_
            refine wp_iconst 1 dX11_tie_74 (by decide) ?_
            refine wp_iadd dX11_tie_75 ?_
            refine m_putI dX11_tie_76 flRX11_221 (by first | rfl | assumption) (by decide) ?_
            refine wp_aload_n dX11_tie_79 rfl ?_
            refine m_getI dX11_tie_80 flRX11_221 (by first | rfl | assumption) (by decide) ?_
            refine g_iret dX11_tie_83 rfl ?_
            unfold spTie at k
            first | (rw [if_neg (fun q => b01_e0 h5 q.1)] at k; exact k) | (rw [if_neg (fun q => b01_e0 h13 q.2.1)] at k; exact k) | (rw [if_neg (fun q => q.2.2 h18)] at k; exact k) | (rw [if_pos ⟨b01_ne h5, b01_ne h13, h18⟩] at k; first | (rw [if_neg h31] at k; exact k) | (rw [if_pos h31] at k; first | (rw [if_pos h43] at k; exact k) | (rw [if_neg h43, hl_q, tn_nI (by omega)] at k; rw [uI_self, uI_ne (show (126 : Nat) ≠ 139 by decide), uI_ne (show (126 : Nat) ≠ 138 by decide), hl_q]; exact k)))
          · skip
            refine wp_bipush (-104) dX11_tie_46 (by decide) ?_
            refine g_iret dX11_tie_48 rfl ?_
            unfold spTie at k
            first | (rw [if_neg (fun q => b01_e0 h5 q.1)] at k; exact k) | (rw [if_neg (fun q => b01_e0 h13 q.2.1)] at k; exact k) | (rw [if_neg (fun q => q.2.2 h18)] at k; exact k) | (rw [if_pos ⟨b01_ne h5, b01_ne h13, h18⟩] at k; first | (rw [if_neg h31] at k; exact k) | (rw [if_pos h31] at k; first | (rw [if_pos h43] at k; exact k) | (rw [if_neg h43, hl_q, tn_nI (by omega)] at k; rw [uI_self, uI_ne (show (126 : Nat) ≠ 139 by decide), uI_ne (show (126 : Nat) ≠ 138 by decide), hl_q]; exact k)))
        · skip
          refine wp_bipush (-103) dX11_tie_34 (by decide) ?_
          refine g_iret dX11_tie_36 rfl ?_
          unfold spTie at k
          first | (rw [if_neg (fun q => b01_e0 h5 q.1)] at k; exact k) | (rw [if_neg (fun q => b01_e0 h13 q.2.1)] at k; exact k) | (rw [if_neg (fun q => q.2.2 h18)] at k; exact k) | (rw [if_pos ⟨b01_ne h5, b01_ne h13, h18⟩] at k; first | (rw [if_neg h31] at k; exact k) | (rw [if_pos h31] at k; first | (rw [if_pos h43] at k; exact k) | (rw [if_neg h43, hl_q, tn_nI (by omega)] at k; rw [uI_self, uI_ne (show (126 : Nat) ≠ 139 by decide), uI_ne (show (126 : Nat) ≠ 138 by decide), hl_q]; exact k)))
      · skip
        refine wp_bipush (-101) dX11_tie_21 (by decide) ?_
        refine g_iret dX11_tie_23 rfl ?_
        unfold spTie at k
        first | (rw [if_neg (fun q => b01_e0 h5 q.1)] at k; exact k) | (rw [if_neg (fun q => b01_e0 h13 q.2.1)] at k; exact k) | (rw [if_neg (fun q => q.2.2 h18)] at k; exact k) | (rw [if_pos ⟨b01_ne h5, b01_ne h13, h18⟩] at k; first | (rw [if_neg h31] at k; exact k) | (rw [if_pos h31] at k; first | (rw [if_pos h43] at k; exact k) | (rw [if_neg h43, hl_q, tn_nI (by omega)] at k; rw [uI_self, uI_ne (show (126 : Nat) ≠ 139 by decide), uI_ne (show (126 : Nat) ≠ 138 by decide), hl_q]; exact k)))
def ctS (S : Mem) (p x : Nat) : Mem := fun b j => if (b = 138 ∨ b = 139) ∧ p ≤ j ∧ j + 1 < x then S b (j + 1) else S b j
theorem ctS_0 (S : Mem) (p : Nat) : ctS S p (p + 1) = S := by
  funext b j
  unfold ctS
  rw [if_neg (by omega)]
theorem ctS_n (S : Mem) (p x : Nat) {b : Nat} (h : b ≠ 138) (h2 : b ≠ 139) : ctS S p x b = S b := by
  funext j
  unfold ctS
  rw [if_neg (by omega)]
theorem ctS_1 (S : Mem) {p x : Nat} (h : p < x) : uI (uI (ctS S p x) 138 (x - 1) (ctS S p x 138 x)) 139 (x - 1) (uI (ctS S p x) 138 (x - 1) (ctS S p x 138 x) 139 x) = ctS S p (x + 1) := by
  funext b j
  simp only [uI_ap, ctS]
  grind
def fCut (S : Mem) (p : Nat) : Mem := uI (ctS S p (tn (S 126 13))) 126 13 (S 126 13 - 1)
def spCut (S : Mem) (x y : Int32) : Int32 × Mem := if isA S x ∧ isA S y then (if spLk S x y = -1 then (-103, S) else (S 126 13 - 1, fCut S (tn (spLk S x y)))) else (-101, S)
theorem lkB_r (S : Mem) (x y : Int32) (l : Nat) : ∀ c, c ≤ l → lkB S x y l c = -1 ∨ ∃ p, p < l ∧ lkB S x y l c = nI p := by
  intro c
  induction c with
  | zero => exact fun _ => Or.inl rfl
  | succ c ih =>
    intro hc
    simp only [lkB]
    split
    · exact Or.inr ⟨l - (c + 1), by omega, rfl⟩
    · exact ih (by omega)
theorem spLk_r {S : Mem} {x y : Int32} {l : Nat} (hl : S 126 13 = nI l) (hl6 : l ≤ 6) : spLk S x y = -1 ∨ ∃ p, p < l ∧ spLk S x y = nI p := by
  unfold spLk
  rw [hl, tn_nI (by omega)]
  exact lkB_r S x y l l (Nat.le_refl l)
set_option maxHeartbeats 4000000 in
theorem l_cut {I S : Mem} {J : Mel} {Q : Option Value → Mem → Mem → Mel → Prop} {l p : Nat} {u v : Int32} (hl_q : S 126 13 = nI l) (hl6_q : l ≤ 6) (k : Q (some (.int (nI l - 1))) I (fCut S p) J) : ∀ (x : Nat), (x ≤ l) → (p < x) → W2 mX11_cut 3 Q I (ctS S p x) J 39 [.ref 126, .int u, .int v, .int (nI p), .int (nI x)] [] := by
  intro x
  induction hm : l - x using Nat.strongRecOn generalizing x with
  | _ c ih =>
    intro hx_q hpx_q
    have e0_q : ctS S p x 126 = S 126 := ctS_n _ _ _ (by decide) (by decide)
    refine wp_iload dX11_cut_39 rfl ?_
    refine wp_aload_n dX11_cut_41 rfl ?_
    refine m_getI dX11_cut_42 flRX11_221 (by first | rfl | assumption) (by decide) ?_
    refine wp_icmp_ge dX11_cut_45 (fun h45 => ?_) (fun h45 => ?_)
    · skip
      refine wp_aload_n dX11_cut_86 rfl ?_
      refine wp_dup dX11_cut_87 rfl ?_
      refine m_getI dX11_cut_88 flRX11_221 (by first | rfl | assumption) (by decide) ?_
      refine wp_iconst 1 dX11_cut_91 (by decide) ?_
      refine wp_isub dX11_cut_92 ?_
      refine m_putI dX11_cut_93 flRX11_221 (by first | rfl | assumption) (by decide) ?_
      refine wp_aload_n dX11_cut_96 rfl ?_
      refine m_getI dX11_cut_97 flRX11_221 (by first | rfl | assumption) (by decide) ?_
      refine g_iret dX11_cut_100 rfl ?_
      have e_q : x = l := by rw [e0_q, hl_q, nI_leg (by omega) (by omega)] at h45; omega
      subst e_q
      unfold fCut at k
      rw [hl_q, tn_nI (by omega)] at k
      rw [uI_self, e0_q, hl_q]; exact k
    · skip
      have hxl_q : x < l := by rw [e0_q, hl_q, nI_leg (by omega) (by omega)] at h45; omega
      refine wp_aload_n dX11_cut_48 rfl ?_
      refine wp_getA (by first | rfl | assumption) dX11_cut_49 flRX11_43 (by first | rfl | assumption) ?_
      refine wp_iload dX11_cut_52 rfl ?_
      refine wp_iconst 1 dX11_cut_54 (by decide) ?_
      refine wp_isub dX11_cut_55 ?_
      refine wp_aload_n dX11_cut_56 rfl ?_
      refine wp_getA (by first | rfl | assumption) dX11_cut_57 flRX11_43 (by first | rfl | assumption) ?_
      refine wp_iload dX11_cut_60 rfl ?_
      refine m_iald dX11_cut_62 rfl rfl (by omega) (by decide) (by decide) ?_
      refine m_iast dX11_cut_63 rfl (nI_s1 (by omega)) (by omega) (by decide) (by decide) ?_
      refine wp_aload_n dX11_cut_64 rfl ?_
      refine wp_getA (by first | rfl | assumption) dX11_cut_65 flRX11_46 (by first | rfl | assumption) ?_
      refine wp_iload dX11_cut_68 rfl ?_
      refine wp_iconst 1 dX11_cut_70 (by decide) ?_
      refine wp_isub dX11_cut_71 ?_
      refine wp_aload_n dX11_cut_72 rfl ?_
      refine wp_getA (by first | rfl | assumption) dX11_cut_73 flRX11_46 (by first | rfl | assumption) ?_
      refine wp_iload dX11_cut_76 rfl ?_
      refine m_iald dX11_cut_78 rfl rfl (by omega) (by decide) (by decide) ?_
      refine m_iast dX11_cut_79 rfl (nI_s1 (by omega)) (by omega) (by decide) (by decide) ?_
      rw [ctS_1 S hpx_q]
      refine ic_5_4 (nI (x + 1)) dX11_cut_80 (nI_inc x) (by decide) rfl ?_
      refine wp_goto dX11_cut_83 ?_
      exact ih _ (by omega) (x + 1) rfl (by omega) (by omega)
set_option maxHeartbeats 4000000 in
theorem c_cut {I S : Mem} {J : Mel} {Q : Option Value → Mem → Mem → Mel → Prop} {x y : Int32} {l : Nat} (hl_q : S 126 13 = nI l) (hl6_q : l ≤ 6) (k : Q (some (.int (spCut S x y).1)) I (spCut S x y).2 J) : M2 mX11_cut 3 [.ref 126, .int x, .int y] I S J Q := by
  refine m2_of [.ref 126, .int x, .int y, dum, dum] moX11_cut (Nat.le_of_ble_eq_true rfl) rfl ?_
  refine wp_aload_n dX11_cut_0 rfl ?_
  refine wp_iload_n dX11_cut_1 rfl ?_
  refine g_callV1 (mj := mX11_isActor) dX11_cut_2 lkRX11_245 mkX11_isActor (by first | rfl | assumption) (by decide) (by decide) (Nat.le_of_ble_eq_true rfl) (c_isActor ?_)
  refine wp_if_eq dX11_cut_5 (fun h5 => ?_) (fun h5 => ?_)
  · skip
    refine wp_bipush (-101) dX11_cut_16 (by decide) ?_
    refine g_iret dX11_cut_18 rfl ?_
    unfold spCut at k
    first | (rw [if_neg (fun q => b01_e0 h5 q.1)] at k; exact k) | (rw [if_neg (fun q => b01_e0 h13 q.2)] at k; exact k) | (rw [if_pos ⟨b01_ne h5, b01_ne h13⟩, if_pos h28] at k; exact k)
  · skip
    refine wp_aload_n dX11_cut_8 rfl ?_
    refine wp_iload_n dX11_cut_9 rfl ?_
    refine g_callV1 (mj := mX11_isActor) dX11_cut_10 lkRX11_245 mkX11_isActor (by first | rfl | assumption) (by decide) (by decide) (Nat.le_of_ble_eq_true rfl) (c_isActor ?_)
    refine wp_if_ne dX11_cut_13 (fun h13 => ?_) (fun h13 => ?_)
    · skip
      refine wp_aload_n dX11_cut_19 rfl ?_
      refine wp_iload_n dX11_cut_20 rfl ?_
      refine wp_iload_n dX11_cut_21 rfl ?_
      refine g_callV2 (mj := mX11_linkBy) dX11_cut_22 lkRX11_305 mkX11_linkBy (by first | rfl | assumption) (by decide) (by decide) (Nat.le_of_ble_eq_true rfl) (c_linkBy hl_q hl6_q ?_)
      refine st_i_5_3 dX11_cut_25 (by decide) rfl ?_
      refine wp_iload_n dX11_cut_26 rfl ?_
      refine wp_iconst (-1) dX11_cut_27 (by decide) ?_
      refine wp_icmp_ne dX11_cut_28 (fun h28 => ?_) (fun h28 => ?_)
      · skip
        obtain ⟨p, hp_q, ep_q⟩ := (spLk_r (x := x) (y := y) hl_q hl6_q).resolve_left h28
        rw [ep_q]
        refine wp_iload_n dX11_cut_34 rfl ?_
        refine wp_iconst 1 dX11_cut_35 (by decide) ?_
        refine wp_iadd dX11_cut_36 ?_
        refine st_i_5_4 dX11_cut_37 (by decide) rfl ?_
        have t_q := l_cut (u := x) (v := y) hl_q hl6_q (p := p) (by unfold spCut at k; rw [if_pos ⟨b01_ne h5, b01_ne h13⟩, if_neg h28, ep_q, tn_nI (by omega), hl_q] at k; exact k) (p + 1) (by omega) (by omega)
        rw [ctS_0, ← nI_1] at t_q
        exact t_q
      · skip
        refine wp_bipush (-103) dX11_cut_31 (by decide) ?_
        refine g_iret dX11_cut_33 rfl ?_
        unfold spCut at k
        first | (rw [if_neg (fun q => b01_e0 h5 q.1)] at k; exact k) | (rw [if_neg (fun q => b01_e0 h13 q.2)] at k; exact k) | (rw [if_pos ⟨b01_ne h5, b01_ne h13⟩, if_pos h28] at k; exact k)
    · skip
      refine wp_bipush (-101) dX11_cut_16 (by decide) ?_
      refine g_iret dX11_cut_18 rfl ?_
      unfold spCut at k
      first | (rw [if_neg (fun q => b01_e0 h5 q.1)] at k; exact k) | (rw [if_neg (fun q => b01_e0 h13 q.2)] at k; exact k) | (rw [if_pos ⟨b01_ne h5, b01_ne h13⟩, if_pos h28] at k; exact k)
set_option maxHeartbeats 4000000 in
theorem c_fgR {I S : Mem} {J : Mel} {Q : Option Value → Mem → Mem → Mel → Prop} {a : Nat} (ha_q : a < 6) (k : Q none I (uI (uI S 137 (2 * a) (-268435456)) 137 (2 * a + 1) (-268435456)) J) : M2 mX11_forgetRaises 1 [.ref 126, .int (nI a)] I S J Q := by
  refine m2_of [.ref 126, .int (nI a)] moX11_forgetRaises (Nat.le_of_ble_eq_true rfl) rfl ?_
  refine wp_aload_n dX11_forgetRaises_0 rfl ?_
  refine wp_getA (by first | rfl | assumption) dX11_forgetRaises_1 flRX11_40 (by first | rfl | assumption) ?_
  refine wp_iconst 2 dX11_forgetRaises_4 (by decide) ?_
  refine wp_iload_n dX11_forgetRaises_5 rfl ?_
  refine wp_imul dX11_forgetRaises_6 ?_
  refine wp_ldc dX11_forgetRaises_7 kcRX11_211 ?_
  refine m_iast dX11_forgetRaises_9 rfl (nI_mul 2 a) (by omega) (by decide) (by decide) ?_
  refine wp_aload_n dX11_forgetRaises_10 rfl ?_
  refine wp_getA (by first | rfl | assumption) dX11_forgetRaises_11 flRX11_40 (by first | rfl | assumption) ?_
  refine wp_iconst 2 dX11_forgetRaises_14 (by decide) ?_
  refine wp_iload_n dX11_forgetRaises_15 rfl ?_
  refine wp_imul dX11_forgetRaises_16 ?_
  refine wp_iconst 1 dX11_forgetRaises_17 (by decide) ?_
  refine wp_iadd dX11_forgetRaises_18 ?_
  refine wp_ldc dX11_forgetRaises_19 kcRX11_211 ?_
  refine m_iast dX11_forgetRaises_21 rfl (nI_mad 2 a 1) (by omega) (by decide) (by decide) ?_
  refine g_vret dX11_forgetRaises_22 rfl ?_
  exact k
def fBe (S : Mem) (a : Nat) (y : Int32) : Mem := uI (uI (uI S 127 a y) 137 (2 * a) (-268435456)) 137 (2 * a + 1) (-268435456)
def spBe (S : Mem) (x y : Int32) : Int32 × Mem := if isA S x then (if 0 ≤ y ∧ y ≤ 4 then (S 127 (tn x), fBe S (tn x) y) else (-102, S)) else (-101, S)
set_option maxHeartbeats 4000000 in
theorem c_be {I S : Mem} {J : Mel} {Q : Option Value → Mem → Mem → Mel → Prop} {n : Nat} (hn_q : n ≤ 6) (ha_q : S 126 1 = nI n) {x y : Int32} (k : Q (some (.int (spBe S x y).1)) I (spBe S x y).2 J) : M2 mX11_be 3 [.ref 126, .int x, .int y] I S J Q := by
  refine m2_of [.ref 126, .int x, .int y, dum] moX11_be (Nat.le_of_ble_eq_true rfl) rfl ?_
  refine wp_aload_n dX11_be_0 rfl ?_
  refine wp_iload_n dX11_be_1 rfl ?_
  refine g_callV1 (mj := mX11_isActor) dX11_be_2 lkRX11_245 mkX11_isActor (by first | rfl | assumption) (by decide) (by decide) (Nat.le_of_ble_eq_true rfl) (c_isActor ?_)
  refine wp_if_ne dX11_be_5 (fun h5 => ?_) (fun h5 => ?_)
  · skip
    refine wp_iload_n dX11_be_11 rfl ?_
    refine wp_iconst 0 dX11_be_12 (by decide) ?_
    refine wp_iconst 4 dX11_be_13 (by decide) ?_
    refine g_callS3 (mj := mX11_within) dX11_be_14 lkRX11_149 mkX11_within (by decide) (by decide) (Nat.le_of_ble_eq_true rfl) (c_within ?_)
    refine wp_if_ne dX11_be_17 (fun h17 => ?_) (fun h17 => ?_)
    · skip
      obtain ⟨i, hi_q, rfl⟩ := isA_of ha_q hn_q (b01_ne h5)
      refine wp_aload_n dX11_be_23 rfl ?_
      refine wp_getA (by first | rfl | assumption) dX11_be_24 flRX11_7 (by first | rfl | assumption) ?_
      refine wp_iload_n dX11_be_27 rfl ?_
      refine m_iald dX11_be_28 rfl rfl (by omega) (by decide) (by decide) ?_
      refine st_i_4_3 dX11_be_29 (by decide) rfl ?_
      refine wp_aload_n dX11_be_30 rfl ?_
      refine wp_getA (by first | rfl | assumption) dX11_be_31 flRX11_7 (by first | rfl | assumption) ?_
      refine wp_iload_n dX11_be_34 rfl ?_
      refine wp_iload_n dX11_be_35 rfl ?_
      refine m_iast dX11_be_36 rfl rfl (by omega) (by decide) (by decide) ?_
      refine wp_aload_n dX11_be_37 rfl ?_
      refine wp_iload_n dX11_be_38 rfl ?_
      refine g_callV1 (mj := mX11_forgetRaises) dX11_be_39 lkRX11_218 mkX11_forgetRaises (by first | rfl | assumption) (by decide) (by decide) (Nat.le_of_ble_eq_true rfl) (c_fgR (by omega) ?_)
      refine wp_iload_n dX11_be_42 rfl ?_
      refine g_iret dX11_be_43 rfl ?_
      unfold spBe at k
      first | (rw [if_neg (b01_e0 h5)] at k; exact k) | (rw [if_pos (b01_ne h5), if_neg (b01_e0 h17)] at k; exact k) | (rw [if_pos (b01_ne h5), if_pos (b01_ne h17), tn_nI (by omega)] at k; exact k)
    · skip
      refine wp_bipush (-102) dX11_be_20 (by decide) ?_
      refine g_iret dX11_be_22 rfl ?_
      unfold spBe at k
      first | (rw [if_neg (b01_e0 h5)] at k; exact k) | (rw [if_pos (b01_ne h5), if_neg (b01_e0 h17)] at k; exact k) | (rw [if_pos (b01_ne h5), if_pos (b01_ne h17), tn_nI (by omega)] at k; exact k)
  · skip
    refine wp_bipush (-101) dX11_be_8 (by decide) ?_
    refine g_iret dX11_be_10 rfl ?_
    unfold spBe at k
    first | (rw [if_neg (b01_e0 h5)] at k; exact k) | (rw [if_pos (b01_ne h5), if_neg (b01_e0 h17)] at k; exact k) | (rw [if_pos (b01_ne h5), if_pos (b01_ne h17), tn_nI (by omega)] at k; exact k)
def spSee (S : Mem) (x y v : Int32) : Int32 × Mem := if isA S x then (if 0 ≤ y ∧ y ≤ 3 then (if S 126 19 = 6 then (-104, S) else (S 126 19 + 1, uI (uI (uI (uI S 140 (tn (S 126 19)) x) 141 (tn (S 126 19)) y) 142 (tn (S 126 19)) (if v = 0 then 0 else 1)) 126 19 (S 126 19 + 1))) else (-102, S)) else (-101, S)
set_option maxHeartbeats 4000000 in
theorem c_see {I S : Mem} {J : Mel} {Q : Option Value → Mem → Mem → Mel → Prop} {x y v : Int32} {s : Nat} (hs_q : S 126 19 = nI s) (hs6_q : s ≤ 6) (k : Q (some (.int (spSee S x y v).1)) I (spSee S x y v).2 J) : M2 mX11_see 3 [.ref 126, .int x, .int y, .int v] I S J Q := by
  refine m2_of [.ref 126, .int x, .int y, .int v] moX11_see (Nat.le_of_ble_eq_true rfl) rfl ?_
  refine wp_aload_n dX11_see_0 rfl ?_
  refine wp_iload_n dX11_see_1 rfl ?_
  refine g_callV1 (mj := mX11_isActor) dX11_see_2 lkRX11_245 mkX11_isActor (by first | rfl | assumption) (by decide) (by decide) (Nat.le_of_ble_eq_true rfl) (c_isActor ?_)
  refine wp_if_ne dX11_see_5 (fun h5 => ?_) (fun h5 => ?_)
  · skip
    refine wp_iload_n dX11_see_11 rfl ?_
    refine wp_iconst 0 dX11_see_12 (by decide) ?_
    refine wp_iconst 3 dX11_see_13 (by decide) ?_
    refine g_callS3 (mj := mX11_within) dX11_see_14 lkRX11_149 mkX11_within (by decide) (by decide) (Nat.le_of_ble_eq_true rfl) (c_within ?_)
    refine wp_if_ne dX11_see_17 (fun h17 => ?_) (fun h17 => ?_)
    · skip
      refine wp_aload_n dX11_see_23 rfl ?_
      refine m_getI dX11_see_24 flRX11_233 (by first | rfl | assumption) (by decide) ?_
      refine wp_bipush 6 dX11_see_27 (by decide) ?_
      refine wp_icmp_ne dX11_see_29 (fun h29 => ?_) (fun h29 => ?_)
      · skip
        have hs5_q : s < 6 := by have : s ≠ 6 := fun e => h29 (by rw [hs_q, e]; rfl); omega
        refine wp_aload_n dX11_see_35 rfl ?_
        refine wp_getA (by first | rfl | assumption) dX11_see_36 flRX11_49 (by first | rfl | assumption) ?_
        refine wp_aload_n dX11_see_39 rfl ?_
        refine m_getI dX11_see_40 flRX11_233 (by first | rfl | assumption) (by decide) ?_
        refine wp_iload_n dX11_see_43 rfl ?_
        refine m_iast dX11_see_44 rfl hs_q (by omega) (by decide) (by decide) ?_
        refine wp_aload_n dX11_see_45 rfl ?_
        refine wp_getA (by first | rfl | assumption) dX11_see_46 flRX11_52 (by first | rfl | assumption) ?_
        refine wp_aload_n dX11_see_49 rfl ?_
        refine m_getI dX11_see_50 flRX11_233 (by first | rfl | assumption) (by decide) ?_
        refine wp_iload_n dX11_see_53 rfl ?_
        refine m_iast dX11_see_54 rfl (by rw [uI_ne (by decide)]; exact hs_q) (by omega) (by decide) (by decide) ?_
        refine wp_aload_n dX11_see_55 rfl ?_
        refine wp_getA (by first | rfl | assumption) dX11_see_56 flRX11_55 (by first | rfl | assumption) ?_
        refine wp_aload_n dX11_see_59 rfl ?_
        refine m_getI dX11_see_60 flRX11_233 (by first | rfl | assumption) (by decide) ?_
        refine wp_iload_n dX11_see_63 rfl ?_
        refine wp_if_eq dX11_see_64 (fun h64 => ?_) (fun h64 => ?_)
        · skip
          refine wp_iconst 0 dX11_see_71 (by decide) ?_
          refine m_iast dX11_see_72 rfl (by rw [uI_ne (by decide), uI_ne (by decide)]; exact hs_q) (by omega) (by decide) (by decide) ?_
          refine wp_aload_n dX11_see_73 rfl ?_
          refine wp_dup dX11_see_74 rfl ?_
          refine m_getI dX11_see_75 flRX11_233 (by first | rfl | assumption) (by decide) ?_
          refine wp_iconst 1 dX11_see_78 (by decide) ?_
          refine wp_iadd dX11_see_79 ?_
          refine m_putI dX11_see_80 flRX11_233 (by first | rfl | assumption) (by decide) ?_
          refine wp_aload_n dX11_see_83 rfl ?_
          refine m_getI dX11_see_84 flRX11_233 (by first | rfl | assumption) (by decide) ?_
          refine g_iret dX11_see_87 rfl ?_
          unfold spSee at k
          first | (rw [if_neg (b01_e0 h5)] at k; exact k) | (rw [if_pos (b01_ne h5), if_neg (b01_e0 h17)] at k; exact k) | (rw [if_pos (b01_ne h5), if_pos (b01_ne h17), if_pos h29] at k; exact k) | (rw [if_pos (b01_ne h5), if_pos (b01_ne h17), if_neg h29, hs_q, tn_nI (by omega)] at k; rw [uI_self, uI_ne (show (126 : Nat) ≠ 142 by decide), uI_ne (show (126 : Nat) ≠ 141 by decide), uI_ne (show (126 : Nat) ≠ 140 by decide), hs_q]; first | (rw [if_pos h64] at k; exact k) | (rw [if_neg h64] at k; exact k))
        · skip
          refine wp_iconst 1 dX11_see_67 (by decide) ?_
          refine wp_goto dX11_see_68 ?_
          refine m_iast dX11_see_72 rfl (by rw [uI_ne (by decide), uI_ne (by decide)]; exact hs_q) (by omega) (by decide) (by decide) ?_
          refine wp_aload_n dX11_see_73 rfl ?_
          refine wp_dup dX11_see_74 rfl ?_
          refine m_getI dX11_see_75 flRX11_233 (by first | rfl | assumption) (by decide) ?_
          refine wp_iconst 1 dX11_see_78 (by decide) ?_
          refine wp_iadd dX11_see_79 ?_
          refine m_putI dX11_see_80 flRX11_233 (by first | rfl | assumption) (by decide) ?_
          refine wp_aload_n dX11_see_83 rfl ?_
          refine m_getI dX11_see_84 flRX11_233 (by first | rfl | assumption) (by decide) ?_
          refine g_iret dX11_see_87 rfl ?_
          unfold spSee at k
          first | (rw [if_neg (b01_e0 h5)] at k; exact k) | (rw [if_pos (b01_ne h5), if_neg (b01_e0 h17)] at k; exact k) | (rw [if_pos (b01_ne h5), if_pos (b01_ne h17), if_pos h29] at k; exact k) | (rw [if_pos (b01_ne h5), if_pos (b01_ne h17), if_neg h29, hs_q, tn_nI (by omega)] at k; rw [uI_self, uI_ne (show (126 : Nat) ≠ 142 by decide), uI_ne (show (126 : Nat) ≠ 141 by decide), uI_ne (show (126 : Nat) ≠ 140 by decide), hs_q]; first | (rw [if_pos h64] at k; exact k) | (rw [if_neg h64] at k; exact k))
      · skip
        refine wp_bipush (-104) dX11_see_32 (by decide) ?_
        refine g_iret dX11_see_34 rfl ?_
        unfold spSee at k
        first | (rw [if_neg (b01_e0 h5)] at k; exact k) | (rw [if_pos (b01_ne h5), if_neg (b01_e0 h17)] at k; exact k) | (rw [if_pos (b01_ne h5), if_pos (b01_ne h17), if_pos h29] at k; exact k) | (rw [if_pos (b01_ne h5), if_pos (b01_ne h17), if_neg h29, hs_q, tn_nI (by omega)] at k; rw [uI_self, uI_ne (show (126 : Nat) ≠ 142 by decide), uI_ne (show (126 : Nat) ≠ 141 by decide), uI_ne (show (126 : Nat) ≠ 140 by decide), hs_q]; first | (rw [if_pos h64] at k; exact k) | (rw [if_neg h64] at k; exact k))
    · skip
      refine wp_bipush (-102) dX11_see_20 (by decide) ?_
      refine g_iret dX11_see_22 rfl ?_
      unfold spSee at k
      first | (rw [if_neg (b01_e0 h5)] at k; exact k) | (rw [if_pos (b01_ne h5), if_neg (b01_e0 h17)] at k; exact k) | (rw [if_pos (b01_ne h5), if_pos (b01_ne h17), if_pos h29] at k; exact k) | (rw [if_pos (b01_ne h5), if_pos (b01_ne h17), if_neg h29, hs_q, tn_nI (by omega)] at k; rw [uI_self, uI_ne (show (126 : Nat) ≠ 142 by decide), uI_ne (show (126 : Nat) ≠ 141 by decide), uI_ne (show (126 : Nat) ≠ 140 by decide), hs_q]; first | (rw [if_pos h64] at k; exact k) | (rw [if_neg h64] at k; exact k))
  · skip
    refine wp_bipush (-101) dX11_see_8 (by decide) ?_
    refine g_iret dX11_see_10 rfl ?_
    unfold spSee at k
    first | (rw [if_neg (b01_e0 h5)] at k; exact k) | (rw [if_pos (b01_ne h5), if_neg (b01_e0 h17)] at k; exact k) | (rw [if_pos (b01_ne h5), if_pos (b01_ne h17), if_pos h29] at k; exact k) | (rw [if_pos (b01_ne h5), if_pos (b01_ne h17), if_neg h29, hs_q, tn_nI (by omega)] at k; rw [uI_self, uI_ne (show (126 : Nat) ≠ 142 by decide), uI_ne (show (126 : Nat) ≠ 141 by decide), uI_ne (show (126 : Nat) ≠ 140 by decide), hs_q]; first | (rw [if_pos h64] at k; exact k) | (rw [if_neg h64] at k; exact k))
set_option maxHeartbeats 4000000 in
theorem c_forget {I S : Mem} {J : Mel} {Q : Option Value → Mem → Mem → Mel → Prop} (k : Q (some (.int (S 126 19))) I (uI S 126 19 0) J) : M2 mX11_forget 1 [.ref 126] I S J Q := by
  refine m2_of [.ref 126, dum] moX11_forget (Nat.le_of_ble_eq_true rfl) rfl ?_
  refine wp_aload_n dX11_forget_0 rfl ?_
  refine m_getI dX11_forget_1 flRX11_233 (by first | rfl | assumption) (by decide) ?_
  refine st_i_2_1 dX11_forget_4 (by decide) rfl ?_
  refine wp_aload_n dX11_forget_5 rfl ?_
  refine wp_iconst 0 dX11_forget_6 (by decide) ?_
  refine m_putI dX11_forget_7 flRX11_233 (by first | rfl | assumption) (by decide) ?_
  refine wp_iload_n dX11_forget_10 rfl ?_
  refine g_iret dX11_forget_11 rfl ?_
  exact k
set_option maxHeartbeats 4000000 in
theorem c_blank {I S : Mem} {J : Mel} {Q : Option Value → Mem → Mem → Mel → Prop} (k : Q (some (.int (S 126 23))) I (uI S 126 23 0) J) : M2 mX11_blank 1 [.ref 126] I S J Q := by
  refine m2_of [.ref 126, dum] moX11_blank (Nat.le_of_ble_eq_true rfl) rfl ?_
  refine wp_aload_n dX11_blank_0 rfl ?_
  refine m_getI dX11_blank_1 flRX11_153 (by first | rfl | assumption) (by decide) ?_
  refine st_i_2_1 dX11_blank_4 (by decide) rfl ?_
  refine wp_aload_n dX11_blank_5 rfl ?_
  refine wp_iconst 0 dX11_blank_6 (by decide) ?_
  refine m_putI dX11_blank_7 flRX11_153 (by first | rfl | assumption) (by decide) ?_
  refine wp_iload_n dX11_blank_10 rfl ?_
  refine g_iret dX11_blank_11 rfl ?_
  exact k
def spLetter (S : Mem) (x : Int32) : Int32 × Mem := if 32 ≤ x ∧ x ≤ 126 then (if S 126 23 = 84 then (-104, S) else (S 126 23 + 1, uI (uI S 143 (tn (S 126 23)) (vp_nar .byte x.toInt8.toInt32)) 126 23 (S 126 23 + 1))) else (-102, S)
set_option maxHeartbeats 4000000 in
theorem c_letter {I S : Mem} {J : Mel} {Q : Option Value → Mem → Mem → Mel → Prop} {x : Int32} {p : Nat} (hp_q : S 126 23 = nI p) (hp84_q : p ≤ 84) (k : Q (some (.int (spLetter S x).1)) I (spLetter S x).2 J) : M2 mX11_letter 2 [.ref 126, .int x] I S J Q := by
  refine m2_of [.ref 126, .int x] moX11_letter (Nat.le_of_ble_eq_true rfl) rfl ?_
  refine wp_iload_n dX11_letter_0 rfl ?_
  refine wp_bipush 32 dX11_letter_1 (by decide) ?_
  refine wp_bipush 126 dX11_letter_3 (by decide) ?_
  refine g_callS3 (mj := mX11_within) dX11_letter_5 lkRX11_149 mkX11_within (by decide) (by decide) (Nat.le_of_ble_eq_true rfl) (c_within ?_)
  refine wp_if_ne dX11_letter_8 (fun h8 => ?_) (fun h8 => ?_)
  · skip
    refine wp_aload_n dX11_letter_14 rfl ?_
    refine m_getI dX11_letter_15 flRX11_153 (by first | rfl | assumption) (by decide) ?_
    refine wp_bipush 84 dX11_letter_18 (by decide) ?_
    refine wp_icmp_ne dX11_letter_20 (fun h20 => ?_) (fun h20 => ?_)
    · skip
      have hp5_q : p < 84 := by have : p ≠ 84 := fun e => h20 (by rw [hp_q, e]; rfl); omega
      refine wp_aload_n dX11_letter_26 rfl ?_
      refine wp_getA (by first | rfl | assumption) dX11_letter_27 flRX11_58 (by first | rfl | assumption) ?_
      refine wp_aload_n dX11_letter_30 rfl ?_
      refine m_getI dX11_letter_31 flRX11_153 (by first | rfl | assumption) (by decide) ?_
      refine wp_iload_n dX11_letter_34 rfl ?_
      refine wp_i2b dX11_letter_35 ?_
      refine m_bast dX11_letter_36 rfl hp_q (by omega) (by decide) (by decide) ?_
      refine wp_aload_n dX11_letter_37 rfl ?_
      refine wp_dup dX11_letter_38 rfl ?_
      refine m_getI dX11_letter_39 flRX11_153 (by first | rfl | assumption) (by decide) ?_
      refine wp_iconst 1 dX11_letter_42 (by decide) ?_
      refine wp_iadd dX11_letter_43 ?_
      refine m_putI dX11_letter_44 flRX11_153 (by first | rfl | assumption) (by decide) ?_
      refine wp_aload_n dX11_letter_47 rfl ?_
      refine m_getI dX11_letter_48 flRX11_153 (by first | rfl | assumption) (by decide) ?_
      refine g_iret dX11_letter_51 rfl ?_
      unfold spLetter at k
      first | (rw [if_neg (b01_e0 h8)] at k; exact k) | (rw [if_pos (b01_ne h8), if_pos h20] at k; exact k) | (rw [if_pos (b01_ne h8), if_neg h20, hp_q, tn_nI (by omega)] at k; rw [uI_self, uI_ne (show (126 : Nat) ≠ 143 by decide), hp_q]; exact k)
    · skip
      refine wp_bipush (-104) dX11_letter_23 (by decide) ?_
      refine g_iret dX11_letter_25 rfl ?_
      unfold spLetter at k
      first | (rw [if_neg (b01_e0 h8)] at k; exact k) | (rw [if_pos (b01_ne h8), if_pos h20] at k; exact k) | (rw [if_pos (b01_ne h8), if_neg h20, hp_q, tn_nI (by omega)] at k; rw [uI_self, uI_ne (show (126 : Nat) ≠ 143 by decide), hp_q]; exact k)
  · skip
    refine wp_bipush (-102) dX11_letter_11 (by decide) ?_
    refine g_iret dX11_letter_13 rfl ?_
    unfold spLetter at k
    first | (rw [if_neg (b01_e0 h8)] at k; exact k) | (rw [if_pos (b01_ne h8), if_pos h20] at k; exact k) | (rw [if_pos (b01_ne h8), if_neg h20, hp_q, tn_nI (by omega)] at k; rw [uI_self, uI_ne (show (126 : Nat) ≠ 143 by decide), hp_q]; exact k)
