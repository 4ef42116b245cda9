set_option maxHeartbeats 4000000 in
theorem c_isActor {I S : Mem} {J : Mel} {Q : Option Value → Mem → Mem → Mel → Prop} {v : Int32} (k : Q (some (.int (b01 (0 ≤ v ∧ v ≤ S 126 1 - 1)))) I S J) : M2 mX11_isActor 2 [.ref 126, .int v] I S J Q := by
  refine m2_of [.ref 126, .int v] moX11_isActor (Nat.le_of_ble_eq_true rfl) rfl ?_
  refine wp_iload_n dX11_isActor_0 rfl ?_
  refine wp_iconst 0 dX11_isActor_1 (by decide) ?_
  refine wp_aload_n dX11_isActor_2 rfl ?_
  refine m_getI dX11_isActor_3 flRX11_212 (by first | rfl | assumption) (by decide) ?_
  refine wp_iconst 1 dX11_isActor_6 (by decide) ?_
  refine wp_isub dX11_isActor_7 ?_
  refine g_callS3 (mj := mX11_within) dX11_isActor_8 lkRX11_149 mkX11_within (by decide) (by decide) (Nat.le_of_ble_eq_true rfl) (c_within ?_)
  refine g_zret dX11_isActor_11 rfl (b01_b _) ?_
  exact k
def smI (f : Nat → Int32) : Nat → Int32
  | 0 => 0
  | k + 1 => smI f k + f k
set_option maxHeartbeats 4000000 in
theorem l_ups {I S : Mem} {J : Mel} {Q : Option Value → Mem → Mem → Mel → Prop} {n : Nat} (hn_q : n ≤ 6) (ha_q : S 126 1 = nI n) (k : Q (some (.int (smI (S 130) n))) I S J) : ∀ (x : Nat), (x ≤ n) → W2 mX11_ups 1 Q I S J 4 [.ref 126, .int (smI (S 130) x), .int (nI x)] [] := by
  intro x
  induction hm : n - x using Nat.strongRecOn generalizing x with
  | _ c ih =>
    intro hx_q
    refine wp_iload_n dX11_ups_4 rfl ?_
    refine wp_aload_n dX11_ups_5 rfl ?_
    refine m_getI dX11_ups_6 flRX11_212 (by first | rfl | assumption) (by decide) ?_
    refine wp_icmp_ge dX11_ups_9 (fun h9 => ?_) (fun h9 => ?_)
    · skip
      refine wp_iload_n dX11_ups_27 rfl ?_
      refine g_iret dX11_ups_28 rfl ?_
      have e_q : x = n := by rw [ha_q, nI_leg (by omega) (by omega)] at h9; omega
      rw [e_q]; exact k
    · skip
      have hxn_q : x < n := by rw [ha_q, nI_leg (by omega) (by omega)] at h9; omega
      refine wp_iload_n dX11_ups_12 rfl ?_
      refine wp_aload_n dX11_ups_13 rfl ?_
      refine wp_getA (by first | rfl | assumption) dX11_ups_14 flRX11_19 (by first | rfl | assumption) ?_
      refine wp_iload_n dX11_ups_17 rfl ?_
      refine m_iald dX11_ups_18 rfl rfl (by omega) (by decide) (by decide) ?_
      refine wp_iadd dX11_ups_19 ?_
      refine st_i_3_1 dX11_ups_20 (by decide) rfl ?_
      refine ic_3_2 (nI (x + 1)) dX11_ups_21 (nI_inc x) (by decide) rfl ?_
      refine wp_goto dX11_ups_24 ?_
      exact ih _ (by omega) (x + 1) rfl (by omega)
set_option maxHeartbeats 4000000 in
theorem c_ups {I S : Mem} {J : Mel} {Q : Option Value → Mem → Mem → Mel → Prop} {n : Nat} (hn_q : n ≤ 6) (ha_q : S 126 1 = nI n) (k : Q (some (.int (smI (S 130) n))) I S J) : M2 mX11_ups 1 [.ref 126] I S J Q := by
  refine m2_of [.ref 126, dum, dum] moX11_ups (Nat.le_of_ble_eq_true rfl) rfl ?_
  refine wp_iconst 0 dX11_ups_0 (by decide) ?_
  refine st_i_3_1 dX11_ups_1 (by decide) rfl ?_
  refine wp_iconst 0 dX11_ups_2 (by decide) ?_
  refine st_i_3_2 dX11_ups_3 (by decide) rfl ?_
  exact l_ups hn_q ha_q k 0 (by omega)
set_option maxHeartbeats 4000000 in
theorem l_ofA {I S : Mem} {J : Mel} {Q : Option Value → Mem → Mem → Mel → Prop} {n : Nat} {v : Int32} (hn_q : n ≤ 6) (ha_q : S 126 1 = nI n) (k : Q (some (.int (smI (S (if v = 4 then 133 else 136)) n))) I S J) : ∀ (x : Nat), (x ≤ n) → W2 mX11_ofActors 1 Q I S J 4 [.ref 126, .int v, .int (smI (S (if v = 4 then 133 else 136)) x), .int (nI x)] [] := by
  intro x
  induction hm : n - x using Nat.strongRecOn generalizing x with
  | _ c ih =>
    intro hx_q
    refine wp_iload_n dX11_ofActors_4 rfl ?_
    refine wp_aload_n dX11_ofActors_5 rfl ?_
    refine m_getI dX11_ofActors_6 flRX11_212 (by first | rfl | assumption) (by decide) ?_
    refine wp_icmp_ge dX11_ofActors_9 (fun h9 => ?_) (fun h9 => ?_)
    · skip
      refine wp_iload_n dX11_ofActors_41 rfl ?_
      refine g_iret dX11_ofActors_42 rfl ?_
      have e_q : x = n := by rw [ha_q, nI_leg (by omega) (by omega)] at h9; omega
      rw [e_q]; exact k
    · skip
      have hxn_q : x < n := by rw [ha_q, nI_leg (by omega) (by omega)] at h9; omega
      refine wp_iload_n dX11_ofActors_12 rfl ?_
      refine wp_iload_n dX11_ofActors_13 rfl ?_
      refine wp_iconst 4 dX11_ofActors_14 (by decide) ?_
      refine wp_icmp_ne dX11_ofActors_15 (fun h15 => ?_) (fun h15 => ?_)
      · skip
        refine wp_aload_n dX11_ofActors_27 rfl ?_
        refine wp_getA (by first | rfl | assumption) dX11_ofActors_28 flRX11_37 (by first | rfl | assumption) ?_
        refine wp_iload_n dX11_ofActors_31 rfl ?_
        refine m_iald dX11_ofActors_32 rfl rfl (by omega) (by decide) (by decide) ?_
        refine wp_iadd dX11_ofActors_33 ?_
        refine st_i_4_2 dX11_ofActors_34 (by decide) rfl ?_
        refine ic_4_3 (nI (x + 1)) dX11_ofActors_35 (nI_inc x) (by decide) rfl ?_
        refine wp_goto dX11_ofActors_38 ?_
        have t_q := ih _ (by omega) (x + 1) rfl (by omega)
        simp only [smI] at t_q
        first | (rw [if_pos h15] at t_q ⊢; exact t_q) | (rw [if_neg h15] at t_q ⊢; exact t_q)
      · skip
        refine wp_aload_n dX11_ofActors_18 rfl ?_
        refine wp_getA (by first | rfl | assumption) dX11_ofActors_19 flRX11_28 (by first | rfl | assumption) ?_
        refine wp_iload_n dX11_ofActors_22 rfl ?_
        refine m_iald dX11_ofActors_23 rfl rfl (by omega) (by decide) (by decide) ?_
        refine wp_goto dX11_ofActors_24 ?_
        refine wp_iadd dX11_ofActors_33 ?_
        refine st_i_4_2 dX11_ofActors_34 (by decide) rfl ?_
        refine ic_4_3 (nI (x + 1)) dX11_ofActors_35 (nI_inc x) (by decide) rfl ?_
        refine wp_goto dX11_ofActors_38 ?_
        have t_q := ih _ (by omega) (x + 1) rfl (by omega)
        simp only [smI] at t_q
        first | (rw [if_pos h15] at t_q ⊢; exact t_q) | (rw [if_neg h15] at t_q ⊢; exact t_q)
set_option maxHeartbeats 4000000 in
theorem c_ofA {I S : Mem} {J : Mel} {Q : Option Value → Mem → Mem → Mel → Prop} {n : Nat} {v : Int32} (hn_q : n ≤ 6) (ha_q : S 126 1 = nI n) (k : Q (some (.int (smI (S (if v = 4 then 133 else 136)) n))) I S J) : M2 mX11_ofActors 1 [.ref 126, .int v] I S J Q := by
  refine m2_of [.ref 126, .int v, dum, dum] moX11_ofActors (Nat.le_of_ble_eq_true rfl) rfl ?_
  refine wp_iconst 0 dX11_ofActors_0 (by decide) ?_
  refine st_i_4_2 dX11_ofActors_1 (by decide) rfl ?_
  refine wp_iconst 0 dX11_ofActors_2 (by decide) ?_
  refine st_i_4_3 dX11_ofActors_3 (by decide) rfl ?_
  exact l_ofA hn_q ha_q k 0 (by omega)
def lkN (S : Mem) (a : Nat) : Nat → Int32
  | 0 => 0
  | k + 1 => lkN S a k + (if S 138 k = nI a ∨ S 139 k = nI a then 1 else 0)
set_option maxHeartbeats 4000000 in
theorem l_linksOf {I S : Mem} {J : Mel} {Q : Option Value → Mem → Mem → Mel → Prop} {a l : Nat} (hl_q : S 126 13 = nI l) (hl6_q : l ≤ 6) (k : Q (some (.int (lkN S a l))) I S J) : ∀ (x : Nat), (x ≤ l) → W2 mX11_linksOf 1 Q I S J 4 [.ref 126, .int (nI a), .int (lkN S a x), .int (nI x)] [] := by
  intro x
  induction hm : l - x using Nat.strongRecOn generalizing x with
  | _ c ih =>
    intro hx_q
    refine wp_iload_n dX11_linksOf_4 rfl ?_
    refine wp_aload_n dX11_linksOf_5 rfl ?_
    refine m_getI dX11_linksOf_6 flRX11_221 (by first | rfl | assumption) (by decide) ?_
    refine wp_icmp_ge dX11_linksOf_9 (fun h9 => ?_) (fun h9 => ?_)
    · skip
      refine wp_iload_n dX11_linksOf_46 rfl ?_
      refine g_iret dX11_linksOf_47 rfl ?_
      have e_q : x = l := by rw [hl_q, nI_leg (by omega) (by omega)] at h9; omega
      rw [e_q]; exact k
    · skip
      have hxn_q : x < l := by rw [hl_q, nI_leg (by omega) (by omega)] at h9; omega
      refine wp_iload_n dX11_linksOf_12 rfl ?_
      refine wp_aload_n dX11_linksOf_13 rfl ?_
      refine wp_getA (by first | rfl | assumption) dX11_linksOf_14 flRX11_43 (by first | rfl | assumption) ?_
      refine wp_iload_n dX11_linksOf_17 rfl ?_
      refine m_iald dX11_linksOf_18 rfl rfl (by omega) (by decide) (by decide) ?_
      refine wp_iload_n dX11_linksOf_19 rfl ?_
      refine wp_icmp_eq dX11_linksOf_20 (fun h20 => ?_) (fun h20 => ?_)
      · skip
        refine wp_iconst 1 dX11_linksOf_33 (by decide) ?_
        refine wp_goto dX11_linksOf_34 ?_
        refine wp_iadd dX11_linksOf_38 ?_
        refine st_i_4_2 dX11_linksOf_39 (by decide) rfl ?_
        refine ic_4_3 (nI (x + 1)) dX11_linksOf_40 (nI_inc x) (by decide) rfl ?_
        refine wp_goto dX11_linksOf_43 ?_
        have t_q := ih _ (by omega) (x + 1) rfl (by omega)
        simp only [lkN] at t_q
        first | (rw [if_pos (by grind)] at t_q; exact t_q) | (rw [if_neg (by grind)] at t_q; exact t_q)
      · skip
        refine wp_aload_n dX11_linksOf_23 rfl ?_
        refine wp_getA (by first | rfl | assumption) dX11_linksOf_24 flRX11_46 (by first | rfl | assumption) ?_
        refine wp_iload_n dX11_linksOf_27 rfl ?_
        refine m_iald dX11_linksOf_28 rfl rfl (by omega) (by decide) (by decide) ?_
        refine wp_iload_n dX11_linksOf_29 rfl ?_
        refine wp_icmp_ne dX11_linksOf_30 (fun h30 => ?_) (fun h30 => ?_)
        · skip
          refine wp_iconst 0 dX11_linksOf_37 (by decide) ?_
          refine wp_iadd dX11_linksOf_38 ?_
          refine st_i_4_2 dX11_linksOf_39 (by decide) rfl ?_
          refine ic_4_3 (nI (x + 1)) dX11_linksOf_40 (nI_inc x) (by decide) rfl ?_
          refine wp_goto dX11_linksOf_43 ?_
          have t_q := ih _ (by omega) (x + 1) rfl (by omega)
          simp only [lkN] at t_q
          first | (rw [if_pos (by grind)] at t_q; exact t_q) | (rw [if_neg (by grind)] at t_q; exact t_q)
        · skip
          refine wp_iconst 1 dX11_linksOf_33 (by decide) ?_
          refine wp_goto dX11_linksOf_34 ?_
          refine wp_iadd dX11_linksOf_38 ?_
          refine st_i_4_2 dX11_linksOf_39 (by decide) rfl ?_
          refine ic_4_3 (nI (x + 1)) dX11_linksOf_40 (nI_inc x) (by decide) rfl ?_
          refine wp_goto dX11_linksOf_43 ?_
          have t_q := ih _ (by omega) (x + 1) rfl (by omega)
          simp only [lkN] at t_q
          first | (rw [if_pos (by grind)] at t_q; exact t_q) | (rw [if_neg (by grind)] at t_q; exact t_q)
set_option maxHeartbeats 4000000 in
theorem c_linksOf {I S : Mem} {J : Mel} {Q : Option Value → Mem → Mem → Mel → Prop} {a l : Nat} (hl_q : S 126 13 = nI l) (hl6_q : l ≤ 6) (k : Q (some (.int (lkN S a l))) I S J) : M2 mX11_linksOf 1 [.ref 126, .int (nI a)] I S J Q := by
  refine m2_of [.ref 126, .int (nI a), dum, dum] moX11_linksOf (Nat.le_of_ble_eq_true rfl) rfl ?_
  refine wp_iconst 0 dX11_linksOf_0 (by decide) ?_
  refine st_i_4_2 dX11_linksOf_1 (by decide) rfl ?_
  refine wp_iconst 0 dX11_linksOf_2 (by decide) ?_
  refine st_i_4_3 dX11_linksOf_3 (by decide) rfl ?_
  exact l_linksOf hl_q hl6_q k 0 (by omega)
def cou (x : Int32) (v : Nat) : Int32 := if v = 0 then b01 (x = 4) else if v = 1 then b01 (x < 3) else if v = 2 then b01 (x = 0 ∨ 2 < x) else b01 (x = 2)
theorem cou_b (x : Int32) (v : Nat) : cou x v = 0 ∨ cou x v = 1 := by unfold cou; split; exact b01_b _; split; exact b01_b _; split; exact b01_b _; exact b01_b _
set_option maxHeartbeats 4000000 in
theorem c_could {I S : Mem} {J : Mel} {Q : Option Value → Mem → Mem → Mel → Prop} {x : Int32} {v : Nat} (hv_q : v < 4) (k : Q (some (.int (cou x v))) I S J) : M2 mX11_could 1 [.int x, .int (nI v)] I S J Q := by
  refine m2_of [.int x, .int (nI v)] moX11_could (Nat.le_of_ble_eq_true rfl) rfl ?_
  refine wp_iload_n dX11_could_0 rfl ?_
  rcases (show v = 0 ∨ v = 1 ∨ v = 2 ∨ v = 3 by omega) with rfl | rfl | rfl | rfl
  · skip
    refine wp_tswIn (off := 27) (tgt := 28) dX11_could_1 0 rfl (by decide) (by decide) (by decide) (by decide) ?_
    refine wp_iload_n dX11_could_28 rfl ?_
    refine wp_iconst 4 dX11_could_29 (by decide) ?_
    refine wp_icmp_ne dX11_could_30 (fun h30 => ?_) (fun h30 => ?_)
    · skip
      refine wp_iconst 0 dX11_could_37 (by decide) ?_
      refine g_zret dX11_could_38 rfl (by first | decide | assumption) ?_
      simp only [cou] at k
      first | (rw [b01_t (by grind)] at k; simpa using k) | (rw [b01_f (by grind)] at k; simpa using k) | (simp at k; first | (rw [b01_t (by grind)] at k; exact k) | (rw [b01_f (by grind)] at k; exact k))
    · skip
      refine wp_iconst 1 dX11_could_33 (by decide) ?_
      refine wp_goto dX11_could_34 ?_
      refine g_zret dX11_could_38 rfl (by first | decide | assumption) ?_
      simp only [cou] at k
      first | (rw [b01_t (by grind)] at k; simpa using k) | (rw [b01_f (by grind)] at k; simpa using k) | (simp at k; first | (rw [b01_t (by grind)] at k; exact k) | (rw [b01_f (by grind)] at k; exact k))
  · skip
    refine wp_tswIn (off := 38) (tgt := 39) dX11_could_1 1 rfl (by decide) (by decide) (by decide) (by decide) ?_
    refine wp_iload_n dX11_could_39 rfl ?_
    refine wp_iconst 3 dX11_could_40 (by decide) ?_
    refine wp_icmp_ge dX11_could_41 (fun h41 => ?_) (fun h41 => ?_)
    · skip
      refine wp_iconst 0 dX11_could_48 (by decide) ?_
      refine g_zret dX11_could_49 rfl (by first | decide | assumption) ?_
      simp only [cou] at k
      first | (rw [b01_t (by grind)] at k; simpa using k) | (rw [b01_f (by grind)] at k; simpa using k) | (simp at k; first | (rw [b01_t (by grind)] at k; exact k) | (rw [b01_f (by grind)] at k; exact k))
    · skip
      refine wp_iconst 1 dX11_could_44 (by decide) ?_
      refine wp_goto dX11_could_45 ?_
      refine g_zret dX11_could_49 rfl (by first | decide | assumption) ?_
      simp only [cou] at k
      first | (rw [b01_t (by grind)] at k; simpa using k) | (rw [b01_f (by grind)] at k; simpa using k) | (simp at k; first | (rw [b01_t (by grind)] at k; exact k) | (rw [b01_f (by grind)] at k; exact k))
  · skip
    refine wp_tswIn (off := 49) (tgt := 50) dX11_could_1 2 rfl (by decide) (by decide) (by decide) (by decide) ?_
    refine wp_iload_n dX11_could_50 rfl ?_
    refine wp_if_eq dX11_could_51 (fun h51 => ?_) (fun h51 => ?_)
    · skip
      refine wp_iconst 1 dX11_could_59 (by decide) ?_
      refine wp_goto dX11_could_60 ?_
      refine g_zret dX11_could_64 rfl (by first | decide | assumption) ?_
      simp only [cou] at k
      first | (rw [b01_t (by grind)] at k; simpa using k) | (rw [b01_f (by grind)] at k; simpa using k) | (simp at k; first | (rw [b01_t (by grind)] at k; exact k) | (rw [b01_f (by grind)] at k; exact k))
    · skip
      refine wp_iload_n dX11_could_54 rfl ?_
      refine wp_iconst 2 dX11_could_55 (by decide) ?_
      refine wp_icmp_le dX11_could_56 (fun h56 => ?_) (fun h56 => ?_)
      · skip
        refine wp_iconst 0 dX11_could_63 (by decide) ?_
        refine g_zret dX11_could_64 rfl (by first | decide | assumption) ?_
        simp only [cou] at k
        first | (rw [b01_t (by grind)] at k; simpa using k) | (rw [b01_f (by grind)] at k; simpa using k) | (simp at k; first | (rw [b01_t (by grind)] at k; exact k) | (rw [b01_f (by grind)] at k; exact k))
      · skip
        refine wp_iconst 1 dX11_could_59 (by decide) ?_
        refine wp_goto dX11_could_60 ?_
        refine g_zret dX11_could_64 rfl (by first | decide | assumption) ?_
        simp only [cou] at k
        first | (rw [b01_t (by grind)] at k; simpa using k) | (rw [b01_f (by grind)] at k; simpa using k) | (simp at k; first | (rw [b01_t (by grind)] at k; exact k) | (rw [b01_f (by grind)] at k; exact k))
  · skip
    refine wp_tswOut (tgt := 65) dX11_could_1 (by decide) (by decide) ?_
    refine wp_iload_n dX11_could_65 rfl ?_
    refine wp_iconst 2 dX11_could_66 (by decide) ?_
    refine wp_icmp_ne dX11_could_67 (fun h67 => ?_) (fun h67 => ?_)
    · skip
      refine wp_iconst 0 dX11_could_74 (by decide) ?_
      refine g_zret dX11_could_75 rfl (by first | decide | assumption) ?_
      simp only [cou] at k
      first | (rw [b01_t (by grind)] at k; simpa using k) | (rw [b01_f (by grind)] at k; simpa using k) | (simp at k; first | (rw [b01_t (by grind)] at k; exact k) | (rw [b01_f (by grind)] at k; exact k))
    · skip
      refine wp_iconst 1 dX11_could_70 (by decide) ?_
      refine wp_goto dX11_could_71 ?_
      refine g_zret dX11_could_75 rfl (by first | decide | assumption) ?_
      simp only [cou] at k
      first | (rw [b01_t (by grind)] at k; simpa using k) | (rw [b01_f (by grind)] at k; simpa using k) | (simp at k; first | (rw [b01_t (by grind)] at k; exact k) | (rw [b01_f (by grind)] at k; exact k))
def isM (S : Mem) (a x : Nat) : Nat → Int32
  | 0 => 1
  | k + 1 => if ¬ isM S a x k = 0 ∧ (¬ S 140 k = nI a ∨ cou (nI x) (tn (S 141 k)) = b01 (S 142 k = 1)) then 1 else 0
def sbM (S : Mem) (a s : Nat) : Nat → Int32
  | 0 => 0
  | x + 1 => sbM S a s x ||| (if isM S a x s = 0 then (0 : Int32) else (1 : Int32) <<< (nI x &&& 31))
/-- what is seen is in order -/
def WSe (n : Nat) (S : Mem) : Prop := ∃ s, s ≤ 6 ∧ S 126 19 = nI s ∧ ∀ j, j < s → (∃ a, a < n ∧ S 140 j = nI a) ∧ (∃ v, v < 4 ∧ S 141 j = nI v) ∧ (S 142 j = 0 ∨ S 142 j = 1)
set_option maxHeartbeats 4000000 in
theorem l_sorts2 {I S : Mem} {J : Mel} {Q : Option Value → Mem → Mem → Mel → Prop} {a s x : Nat} {bits : Int32} (hs_q : S 126 19 = nI s) (hs6_q : s ≤ 6) (hv_q : ∀ j, j < s → ∃ v, v < 4 ∧ S 141 j = nI v) (k : W2 mX11_sortsOf 2 Q I S J 83 [.ref 126, .int (nI a), .int bits, .int (nI x), .int (isM S a x s), .int (nI s)] []) : ∀ (y : Nat), (y ≤ s) → W2 mX11_sortsOf 2 Q I S J 15 [.ref 126, .int (nI a), .int bits, .int (nI x), .int (isM S a x y), .int (nI y)] [] := by
  intro y
  induction hm : s - y using Nat.strongRecOn generalizing y with
  | _ c ih =>
    intro hy_q
    refine wp_iload dX11_sortsOf_15 rfl ?_
    refine wp_aload_n dX11_sortsOf_17 rfl ?_
    refine m_getI dX11_sortsOf_18 flRX11_233 (by first | rfl | assumption) (by decide) ?_
    refine wp_icmp_ge dX11_sortsOf_21 (fun h21 => ?_) (fun h21 => ?_)
    · skip
      have e_q : y = s := by rw [hs_q, nI_leg (by omega) (by omega)] at h21; omega
      subst e_q; exact k
    · skip
      have hys_q : y < s := by rw [hs_q, nI_leg (by omega) (by omega)] at h21; omega
      obtain ⟨v, hv4_q, ev_q⟩ := hv_q y hys_q
      refine wp_iload dX11_sortsOf_24 rfl ?_
      refine wp_if_eq dX11_sortsOf_26 (fun h26 => ?_) (fun h26 => ?_)
      · skip
        refine wp_iconst 0 dX11_sortsOf_74 (by decide) ?_
        refine st_i_6_4 dX11_sortsOf_75 (by decide) rfl ?_
        refine ic_6_5 (nI (y + 1)) dX11_sortsOf_77 (nI_inc y) (by decide) rfl ?_
        refine wp_goto dX11_sortsOf_80 ?_
        have t_q := ih _ (by omega) (y + 1) rfl (by omega)
        simp only [isM] at t_q
        rw [ev_q, tn_nI (by omega)] at t_q
        first | (rw [if_neg (by grind [b01])] at t_q; exact t_q) | (rw [if_pos (by grind [b01])] at t_q; exact t_q)
      · skip
        refine wp_aload_n dX11_sortsOf_29 rfl ?_
        refine wp_getA (by first | rfl | assumption) dX11_sortsOf_30 flRX11_49 (by first | rfl | assumption) ?_
        refine wp_iload dX11_sortsOf_33 rfl ?_
        refine m_iald dX11_sortsOf_35 rfl rfl (by omega) (by decide) (by decide) ?_
        refine wp_iload_n dX11_sortsOf_36 rfl ?_
        refine wp_icmp_ne dX11_sortsOf_37 (fun h37 => ?_) (fun h37 => ?_)
        · skip
          refine wp_iconst 1 dX11_sortsOf_70 (by decide) ?_
          refine wp_goto dX11_sortsOf_71 ?_
          refine st_i_6_4 dX11_sortsOf_75 (by decide) rfl ?_
          refine ic_6_5 (nI (y + 1)) dX11_sortsOf_77 (nI_inc y) (by decide) rfl ?_
          refine wp_goto dX11_sortsOf_80 ?_
          have t_q := ih _ (by omega) (y + 1) rfl (by omega)
          simp only [isM] at t_q
          rw [ev_q, tn_nI (by omega)] at t_q
          first | (rw [if_neg (by grind [b01])] at t_q; exact t_q) | (rw [if_pos (by grind [b01])] at t_q; exact t_q)
        · skip
          refine wp_iload_n dX11_sortsOf_40 rfl ?_
          refine wp_aload_n dX11_sortsOf_41 rfl ?_
          refine wp_getA (by first | rfl | assumption) dX11_sortsOf_42 flRX11_52 (by first | rfl | assumption) ?_
          refine wp_iload dX11_sortsOf_45 rfl ?_
          refine m_iald dX11_sortsOf_47 rfl rfl (by omega) (by decide) (by decide) ?_
          rw [ev_q]
          refine g_callS2 (mj := mX11_could) dX11_sortsOf_48 lkRX11_335 mkX11_could (by decide) (by decide) (Nat.le_of_ble_eq_true rfl) (c_could hv4_q ?_)
          refine wp_aload_n dX11_sortsOf_51 rfl ?_
          refine wp_getA (by first | rfl | assumption) dX11_sortsOf_52 flRX11_55 (by first | rfl | assumption) ?_
          refine wp_iload dX11_sortsOf_55 rfl ?_
          refine m_iald dX11_sortsOf_57 rfl rfl (by omega) (by decide) (by decide) ?_
          refine wp_iconst 1 dX11_sortsOf_58 (by decide) ?_
          refine wp_icmp_ne dX11_sortsOf_59 (fun h59 => ?_) (fun h59 => ?_)
          · skip
            refine wp_iconst 0 dX11_sortsOf_66 (by decide) ?_
            refine wp_icmp_ne dX11_sortsOf_67 (fun h67 => ?_) (fun h67 => ?_)
            · skip
              refine wp_iconst 0 dX11_sortsOf_74 (by decide) ?_
              refine st_i_6_4 dX11_sortsOf_75 (by decide) rfl ?_
              refine ic_6_5 (nI (y + 1)) dX11_sortsOf_77 (nI_inc y) (by decide) rfl ?_
              refine wp_goto dX11_sortsOf_80 ?_
              have t_q := ih _ (by omega) (y + 1) rfl (by omega)
              simp only [isM] at t_q
              rw [ev_q, tn_nI (by omega)] at t_q
              first | (rw [if_neg (by grind [b01])] at t_q; exact t_q) | (rw [if_pos (by grind [b01])] at t_q; exact t_q)
            · skip
              refine wp_iconst 1 dX11_sortsOf_70 (by decide) ?_
              refine wp_goto dX11_sortsOf_71 ?_
              refine st_i_6_4 dX11_sortsOf_75 (by decide) rfl ?_
              refine ic_6_5 (nI (y + 1)) dX11_sortsOf_77 (nI_inc y) (by decide) rfl ?_
              refine wp_goto dX11_sortsOf_80 ?_
              have t_q := ih _ (by omega) (y + 1) rfl (by omega)
              simp only [isM] at t_q
              rw [ev_q, tn_nI (by omega)] at t_q
              first | (rw [if_neg (by grind [b01])] at t_q; exact t_q) | (rw [if_pos (by grind [b01])] at t_q; exact t_q)
          · skip
            refine wp_iconst 1 dX11_sortsOf_62 (by decide) ?_
            refine wp_goto dX11_sortsOf_63 ?_
            refine wp_icmp_ne dX11_sortsOf_67 (fun h67 => ?_) (fun h67 => ?_)
            · skip
              refine wp_iconst 0 dX11_sortsOf_74 (by decide) ?_
              refine st_i_6_4 dX11_sortsOf_75 (by decide) rfl ?_
              refine ic_6_5 (nI (y + 1)) dX11_sortsOf_77 (nI_inc y) (by decide) rfl ?_
              refine wp_goto dX11_sortsOf_80 ?_
              have t_q := ih _ (by omega) (y + 1) rfl (by omega)
              simp only [isM] at t_q
              rw [ev_q, tn_nI (by omega)] at t_q
              first | (rw [if_neg (by grind [b01])] at t_q; exact t_q) | (rw [if_pos (by grind [b01])] at t_q; exact t_q)
            · skip
              refine wp_iconst 1 dX11_sortsOf_70 (by decide) ?_
              refine wp_goto dX11_sortsOf_71 ?_
              refine st_i_6_4 dX11_sortsOf_75 (by decide) rfl ?_
              refine ic_6_5 (nI (y + 1)) dX11_sortsOf_77 (nI_inc y) (by decide) rfl ?_
              refine wp_goto dX11_sortsOf_80 ?_
              have t_q := ih _ (by omega) (y + 1) rfl (by omega)
              simp only [isM] at t_q
              rw [ev_q, tn_nI (by omega)] at t_q
              first | (rw [if_neg (by grind [b01])] at t_q; exact t_q) | (rw [if_pos (by grind [b01])] at t_q; exact t_q)
set_option maxHeartbeats 4000000 in
theorem l_sorts {I S : Mem} {J : Mel} {Q : Option Value → Mem → Mem → Mel → Prop} {a s : Nat} (hs_q : S 126 19 = nI s) (hs6_q : s ≤ 6) (hv_q : ∀ j, j < s → ∃ v, v < 4 ∧ S 141 j = nI v) (k : Q (some (.int (sbM S a s 5))) I S J) : ∀ (x : Nat) (u v : Value), (x ≤ 5) → W2 mX11_sortsOf 2 Q I S J 4 [.ref 126, .int (nI a), .int (sbM S a s x), .int (nI x), u, v] [] := by
  intro x u v
  induction hm : 5 - x using Nat.strongRecOn generalizing x u v with
  | _ c ih =>
    intro hx_q
    refine wp_iload_n dX11_sortsOf_4 rfl ?_
    refine wp_iconst 4 dX11_sortsOf_5 (by decide) ?_
    refine wp_icmp_gt dX11_sortsOf_6 (fun h6 => ?_) (fun h6 => ?_)
    · skip
      refine wp_iload_n dX11_sortsOf_104 rfl ?_
      refine g_iret dX11_sortsOf_105 rfl ?_
      have e_q : x = 5 := by rw [show (4 : Int32) = nI 4 from rfl, nI_ltg (by omega) (by omega)] at h6; omega
      rw [e_q]; exact k
    · skip
      have hx5_q : x < 5 := by rw [show (4 : Int32) = nI 4 from rfl, nI_ltg (by omega) (by omega)] at h6; omega
      refine wp_iconst 1 dX11_sortsOf_9 (by decide) ?_
      refine st_i_6_4 dX11_sortsOf_10 (by decide) rfl ?_
      refine wp_iconst 0 dX11_sortsOf_12 (by decide) ?_
      refine st_i_6_5 dX11_sortsOf_13 (by decide) rfl ?_
      refine l_sorts2 hs_q hs6_q hv_q ?_ 0 (by omega)
      refine wp_iload_n dX11_sortsOf_83 rfl ?_
      refine wp_iload dX11_sortsOf_84 rfl ?_
      refine wp_if_eq dX11_sortsOf_86 (fun h86 => ?_) (fun h86 => ?_)
      · refine wp_iconst 0 dX11_sortsOf_95 (by decide) ?_
        refine wp_ior dX11_sortsOf_96 ?_
        refine wp_istore_n dX11_sortsOf_97 (by decide) rfl ?_
        refine wp_iinc (nI (x + 1)) dX11_sortsOf_98 rfl (nI_inc x) (by decide) rfl ?_
        refine wp_goto dX11_sortsOf_101 ?_
        have t_q := fun u v => ih _ (by omega) (x + 1) u v rfl (by omega)
        simp only [sbM, if_pos h86] at t_q
        exact t_q _ _
      · refine wp_iconst 1 dX11_sortsOf_89 (by decide) ?_
        refine wp_iload_n dX11_sortsOf_90 rfl ?_
        refine wp_ishl dX11_sortsOf_91 ?_
        refine wp_goto dX11_sortsOf_92 ?_
        refine wp_ior dX11_sortsOf_96 ?_
        refine wp_istore_n dX11_sortsOf_97 (by decide) rfl ?_
        refine wp_iinc (nI (x + 1)) dX11_sortsOf_98 rfl (nI_inc x) (by decide) rfl ?_
        refine wp_goto dX11_sortsOf_101 ?_
        have t_q := fun u v => ih _ (by omega) (x + 1) u v rfl (by omega)
        simp only [sbM, if_neg h86] at t_q
        exact t_q _ _
set_option maxHeartbeats 4000000 in
theorem c_sortsOf {I S : Mem} {J : Mel} {Q : Option Value → Mem → Mem → Mel → Prop} {a s : Nat} (hs_q : S 126 19 = nI s) (hs6_q : s ≤ 6) (hv_q : ∀ j, j < s → ∃ v, v < 4 ∧ S 141 j = nI v) (k : Q (some (.int (sbM S a s 5))) I S J) : M2 mX11_sortsOf 2 [.ref 126, .int (nI a)] I S J Q := by
  refine m2_of [.ref 126, .int (nI a), dum, dum, dum, dum] moX11_sortsOf (Nat.le_of_ble_eq_true rfl) rfl ?_
  refine wp_iconst 0 dX11_sortsOf_0 (by decide) ?_
  refine st_i_6_2 dX11_sortsOf_1 (by decide) rfl ?_
  refine wp_iconst 0 dX11_sortsOf_2 (by decide) ?_
  refine st_i_6_3 dX11_sortsOf_3 (by decide) rfl ?_
  exact l_sorts hs_q hs6_q hv_q k 0 dum dum (by omega)
