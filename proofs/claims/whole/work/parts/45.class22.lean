/-! the class's reader: what a letter does -/
def FrR (I I' : Mem) : Prop := ∀ b, (b < 5 ∨ 15 ≤ b) → I' b = I b
theorem FrR.rf {I : Mem} : FrR I I := fun _ _ => rfl
theorem FrR.tr {I I' I2 : Mem} (h : FrR I I') (h2 : FrR I' I2) : FrR I I2 := fun b hb => (h2 b hb).trans (h b hb)
theorem FrR.st {I I' : Mem} {b j : Nat} {x : Int32} (h : FrR I I') (hb : 5 ≤ b ∧ b < 15) : FrR I (uI I' b j x) := fun c hc => by rw [uI_ne (by omega)]; exact h c hc
def aEd (I : Mem) (c z : Nat) (d t s : Int32) : Mem := uI (uI (uI (uI (uI I 9 (3 * c + z) d) 10 (3 * c + z) t) 11 (3 * c + z) s) 8 c (nI (z + 1))) 5 1 5
def aEnd (I : Mem) (d t s : Int32) : Mem := aEd I (tn (I 6 6) - 1) (tn (I 8 (tn (I 6 6) - 1))) d t s
theorem aEnd_eq {I : Mem} {c z : Nat} {d t s : Int32} (ha : I 6 6 = nI (c + 1)) (hc : c < 6) (hz : I 8 c = nI z) (hz3 : z < 3) : aEnd I d t s = aEd I c z d t s := by
  unfold aEnd
  rw [ha, tn_nI (by omega), Nat.add_sub_cancel, hz, tn_nI (by omega)]
theorem FrR.aEd (I : Mem) (c z : Nat) (d t s : Int32) : FrR I (aEd I c z d t s) := ((((FrR.rf.st (by omega)).st (by omega)).st (by omega)).st (by omega)).st (by omega)
def aSt (I : Mem) (x : Int32) : Option Mem := if x = 63 then some (uI I 5 1 2) else if x = 33 then some (uI I 5 1 3) else if x = 42 then some (aEnd I 1 (-1) 9) else if x = 45 then some (aEnd I 0 (-1) (-1)) else if x = 120 then some (aEnd I 3 (-1) (-1)) else none
def kdO (x : Int32) : Int32 := if x = 97 then 0 else if x = 98 then 2 else if x = 104 then 4 else if x = 109 then 3 else if x = 116 then 1 else -1
def aTk (I : Mem) (x : Int32) : Option Mem :=
  if I 5 1 = 0 then (if kdO x = -1 then none else some (uI (uI (uI (uI I 7 (tn (I 6 6)) (kdO x)) 8 (tn (I 6 6)) 0) 6 6 (I 6 6 + 1)) 5 1 1))
  else if I 5 1 = 1 then aSt I x
  else if I 5 1 = 2 then (if 48 ≤ x ∧ x ≤ 56 then some (aEnd I 1 (-1) (x - 48)) else none)
  else if I 5 1 = 3 then (if 48 ≤ x ∧ x < 54 then some (uI (uI I 5 2 (x - 48)) 5 1 4) else none)
  else if I 5 1 = 4 then (if 48 ≤ x ∧ x ≤ 55 then some (aEnd I 2 (I 5 2) (x - 48)) else none)
  else if I 5 1 = 5 then (if x = 59 then some (uI I 5 1 6) else if x = 44 then (if I 6 6 < 6 then some (uI I 5 1 0) else none) else if I 8 (tn (I 6 6) - 1) < 3 then aSt I x else none)
  else if I 5 1 = 9 then (if x = 44 ∧ ¬ 6 ≤ I 12 2 then some (uI I 5 1 7) else none)
  else if I 5 1 = 8 then (if (0 ≤ x - 48 ∧ x - 48 < I 6 6) ∧ ¬ x - 48 = I 5 3 ∧ fdC I 12 (I 5 3) (x - 48) (tn (I 12 2)) (tn (I 12 2)) = -1 then some (uI (uI (uI (uI I 13 (tn (I 12 2)) (I 5 3)) 14 (tn (I 12 2)) (x - 48)) 12 2 (I 12 2 + 1)) 5 1 9) else none)
  else (if 0 ≤ x - 48 ∧ x - 48 < I 6 6 then some (uI (uI I 5 3 (x - 48)) 5 1 8) else none)
theorem aTk_0 {I : Mem} {x : Int32} (h : I 5 1 = 0) : aTk I x = if kdO x = -1 then none else some (uI (uI (uI (uI I 7 (tn (I 6 6)) (kdO x)) 8 (tn (I 6 6)) 0) 6 6 (I 6 6 + 1)) 5 1 1) := by unfold aTk; rw [if_pos h]
theorem aTk_1 {I : Mem} {x : Int32} (h : I 5 1 = 1) : aTk I x = aSt I x := by unfold aTk; rw [if_neg (by rw [h]; decide), if_pos h]
theorem aTk_2 {I : Mem} {x : Int32} (h : I 5 1 = 2) : aTk I x = if 48 ≤ x ∧ x ≤ 56 then some (aEnd I 1 (-1) (x - 48)) else none := by unfold aTk; rw [if_neg (by rw [h]; decide), if_neg (by rw [h]; decide), if_pos h]
theorem aTk_3 {I : Mem} {x : Int32} (h : I 5 1 = 3) : aTk I x = if 48 ≤ x ∧ x < 54 then some (uI (uI I 5 2 (x - 48)) 5 1 4) else none := by unfold aTk; rw [if_neg (by rw [h]; decide), if_neg (by rw [h]; decide), if_neg (by rw [h]; decide), if_pos h]
theorem aTk_4 {I : Mem} {x : Int32} (h : I 5 1 = 4) : aTk I x = if 48 ≤ x ∧ x ≤ 55 then some (aEnd I 2 (I 5 2) (x - 48)) else none := by unfold aTk; rw [if_neg (by rw [h]; decide), if_neg (by rw [h]; decide), if_neg (by rw [h]; decide), if_neg (by rw [h]; decide), if_pos h]
theorem aTk_5 {I : Mem} {x : Int32} (h : I 5 1 = 5) : aTk I x = if x = 59 then some (uI I 5 1 6) else if x = 44 then (if I 6 6 < 6 then some (uI I 5 1 0) else none) else if I 8 (tn (I 6 6) - 1) < 3 then aSt I x else none := by unfold aTk; rw [if_neg (by rw [h]; decide), if_neg (by rw [h]; decide), if_neg (by rw [h]; decide), if_neg (by rw [h]; decide), if_neg (by rw [h]; decide), if_pos h]
theorem aTk_9 {I : Mem} {x : Int32} (h : I 5 1 = 9) : aTk I x = if x = 44 ∧ ¬ 6 ≤ I 12 2 then some (uI I 5 1 7) else none := by unfold aTk; rw [if_neg (by rw [h]; decide), if_neg (by rw [h]; decide), if_neg (by rw [h]; decide), if_neg (by rw [h]; decide), if_neg (by rw [h]; decide), if_neg (by rw [h]; decide), if_pos h]
theorem aTk_8 {I : Mem} {x : Int32} (h : I 5 1 = 8) : aTk I x = if (0 ≤ x - 48 ∧ x - 48 < I 6 6) ∧ ¬ x - 48 = I 5 3 ∧ fdC I 12 (I 5 3) (x - 48) (tn (I 12 2)) (tn (I 12 2)) = -1 then some (uI (uI (uI (uI I 13 (tn (I 12 2)) (I 5 3)) 14 (tn (I 12 2)) (x - 48)) 12 2 (I 12 2 + 1)) 5 1 9) else none := by unfold aTk; rw [if_neg (by rw [h]; decide), if_neg (by rw [h]; decide), if_neg (by rw [h]; decide), if_neg (by rw [h]; decide), if_neg (by rw [h]; decide), if_neg (by rw [h]; decide), if_neg (by rw [h]; decide), if_pos h]
theorem aTk_67 {I : Mem} {x : Int32} (h : I 5 1 = 6 ∨ I 5 1 = 7) : aTk I x = if 0 ≤ x - 48 ∧ x - 48 < I 6 6 then some (uI (uI I 5 3 (x - 48)) 5 1 8) else none := by
  unfold aTk
  rcases h with h | h <;> rw [if_neg (by rw [h]; decide), if_neg (by rw [h]; decide), if_neg (by rw [h]; decide), if_neg (by rw [h]; decide), if_neg (by rw [h]; decide), if_neg (by rw [h]; decide), if_neg (by rw [h]; decide), if_neg (by rw [h]; decide)]
def QO (o : Option Mem) (I : Mem) (Q : Option Value → Mem → Mem → Mel → Prop) (S : Mem) (J : Mel) : Prop := match o with
  | some I' => Q (some (.int 1)) I' S J
  | none => ∀ I', FrR I I' → Q (some (.int 0)) I' S J
theorem lks12 : IsLinks 12 := by unfold IsLinks; decide
theorem c1_s (c : Nat) : nI (c + 1) - 1 = nI c := by rw [nI_s1 (by omega)]; rfl
set_option maxHeartbeats 4000000 in
theorem c_clear {I S : Mem} {J : Mel} {Q : Option Value → Mem → Mem → Mel → Prop} (k : Q none (uI (uI I 6 6 0) 12 2 0) S J) : M2 mX6_clear 1 [.ref 6] I S J Q := by
  refine m2_of [.ref 6] moX6_clear (Nat.le_of_ble_eq_true rfl) rfl ?_
  refine wp_aload_n dX6_clear_0 rfl ?_
  refine wp_iconst 0 dX6_clear_1 (by decide) ?_
  refine c_putI dX6_clear_2 flRX6_34 (by first | rfl | assumption) (by omega) ?_
  refine wp_aload_n dX6_clear_5 rfl ?_
  refine wp_getA (by first | rfl | assumption) dX6_clear_6 flRX6_30 (by first | rfl | assumption) ?_
  refine wp_iconst 0 dX6_clear_9 (by decide) ?_
  refine c_putI dX6_clear_10 flRX6_38 (by first | rfl | assumption) (by omega) ?_
  refine g_vret dX6_clear_13 rfl ?_
  exact k
set_option maxHeartbeats 4000000 in
theorem c_addActor {I S : Mem} {J : Mel} {Q : Option Value → Mem → Mem → Mel → Prop} {a : Nat} {x : Int32} (ha_q : I 6 6 = nI a) (ha6_q : a < 6) (k : Q none (uI (uI (uI I 7 a x) 8 a 0) 6 6 (nI a + 1)) S J) : M2 mX6_addActor 1 [.ref 6, .int x] I S J Q := by
  refine m2_of [.ref 6, .int x] moX6_addActor (Nat.le_of_ble_eq_true rfl) rfl ?_
  refine wp_aload_n dX6_addActor_0 rfl ?_
  refine c_getI dX6_addActor_1 flRX6_34 (by first | rfl | assumption) (by omega) ?_
  refine wp_bipush 6 dX6_addActor_4 (by decide) ?_
  refine wp_icmp_ge dX6_addActor_6 (fun h6 => absurd h6 (by rw [ha_q, show (6 : Int32) = nI 6 from rfl, nI_leg (by omega) (by omega)]; omega)) (fun h6 => ?_)
  refine wp_aload_n dX6_addActor_9 rfl ?_
  refine wp_getA (by first | rfl | assumption) dX6_addActor_10 flRX6_9 (by first | rfl | assumption) ?_
  refine wp_aload_n dX6_addActor_13 rfl ?_
  refine c_getI dX6_addActor_14 flRX6_34 (by first | rfl | assumption) (by omega) ?_
  rw [ha_q]
  refine wp_iload_n dX6_addActor_17 rfl ?_
  refine c_iast dX6_addActor_18 rfl rfl (by omega) (by omega) (by decide) ?_
  refine wp_aload_n dX6_addActor_19 rfl ?_
  refine wp_getA (by first | rfl | assumption) dX6_addActor_20 flRX6_15 (by first | rfl | assumption) ?_
  refine wp_aload_n dX6_addActor_23 rfl ?_
  refine c_getI dX6_addActor_24 flRX6_34 (by first | rfl | assumption) (by omega) ?_
  rw [uI_ne (by decide), ha_q]
  refine wp_iconst 0 dX6_addActor_27 (by decide) ?_
  refine c_iast dX6_addActor_28 rfl rfl (by omega) (by omega) (by decide) ?_
  refine wp_aload_n dX6_addActor_29 rfl ?_
  refine wp_dup dX6_addActor_30 rfl ?_
  refine c_getI dX6_addActor_31 flRX6_34 (by first | rfl | assumption) (by omega) ?_
  rw [uI_ne (by decide), uI_ne (by decide), ha_q]
  refine wp_iconst 1 dX6_addActor_34 (by decide) ?_
  refine wp_iadd dX6_addActor_35 ?_
  refine c_putI dX6_addActor_36 flRX6_34 (by first | rfl | assumption) (by omega) ?_
  refine g_vret dX6_addActor_39 rfl ?_
  exact k
set_option maxHeartbeats 4000000 in
theorem c_lastTakes {I S : Mem} {J : Mel} {Q : Option Value → Mem → Mem → Mel → Prop} {c z : Nat} (ha_q : I 6 6 = nI (c + 1)) (hc_q : c < 6) (hz_q : I 8 c = nI z) (hz3_q : z ≤ 3) (k : Q (some (.int (b01 (z < 3)))) I S J) : M2 mX6_lastTakesStep 1 [.ref 6] I S J Q := by
  refine m2_of [.ref 6] moX6_lastTakesStep (Nat.le_of_ble_eq_true rfl) rfl ?_
  refine wp_aload_n dX6_lastTakesStep_0 rfl ?_
  refine c_getI dX6_lastTakesStep_1 flRX6_34 (by first | rfl | assumption) (by omega) ?_
  refine wp_if_le dX6_lastTakesStep_4 (fun h4 => absurd h4 (by rw [ha_q, show (0 : Int32) = nI 0 from rfl, nI_leg (by omega) (by omega)]; omega)) (fun h4 => ?_)
  refine wp_aload_n dX6_lastTakesStep_7 rfl ?_
  refine wp_getA (by first | rfl | assumption) dX6_lastTakesStep_8 flRX6_15 (by first | rfl | assumption) ?_
  refine wp_aload_n dX6_lastTakesStep_11 rfl ?_
  refine c_getI dX6_lastTakesStep_12 flRX6_34 (by first | rfl | assumption) (by omega) ?_
  rw [ha_q]
  refine wp_iconst 1 dX6_lastTakesStep_15 (by decide) ?_
  refine wp_isub dX6_lastTakesStep_16 ?_
  rw [c1_s]
  refine c_iald dX6_lastTakesStep_17 rfl rfl (by omega) (by omega) (by decide) ?_
  rw [hz_q]
  refine wp_iconst 3 dX6_lastTakesStep_18 (by decide) ?_
  refine wp_icmp_ge dX6_lastTakesStep_19 (fun h19 => ?_) (fun h19 => ?_)
  · skip
    refine wp_iconst 0 dX6_lastTakesStep_26 (by decide) ?_
    refine g_zret dX6_lastTakesStep_27 rfl (by first | decide | assumption) ?_
    rw [show (3 : Int32) = nI 3 from rfl, nI_leg (by omega) (by omega)] at h19
    first | (rw [b01_t (by omega)] at k; exact k) | (rw [b01_f (by omega)] at k; exact k)
  · skip
    refine wp_iconst 1 dX6_lastTakesStep_22 (by decide) ?_
    refine wp_goto dX6_lastTakesStep_23 ?_
    refine g_zret dX6_lastTakesStep_27 rfl (by first | decide | assumption) ?_
    rw [show (3 : Int32) = nI 3 from rfl, nI_leg (by omega) (by omega)] at h19
    first | (rw [b01_t (by omega)] at k; exact k) | (rw [b01_f (by omega)] at k; exact k)
set_option maxHeartbeats 4000000 in
theorem c_addStep {I S : Mem} {J : Mel} {Q : Option Value → Mem → Mem → Mel → Prop} {c z : Nat} {d t s : Int32} (ha_q : I 6 6 = nI (c + 1)) (hc_q : c < 6) (hz_q : I 8 c = nI z) (hz3_q : z < 3) (k : Q none (uI (uI (uI (uI I 9 (3 * c + z) d) 10 (3 * c + z) t) 11 (3 * c + z) s) 8 c (nI (z + 1))) S J) : M2 mX6_addStep 2 [.ref 6, .int d, .int t, .int s] I S J Q := by
  refine m2_of [.ref 6, .int d, .int t, .int s, dum, dum] moX6_addStep (Nat.le_of_ble_eq_true rfl) rfl ?_
  refine wp_aload_n dX6_addStep_0 rfl ?_
  refine g_callV0 (mj := mX6_lastTakesStep) dX6_addStep_1 lkRX6_41 mkX6_lastTakesStep (by first | rfl | assumption) (by decide) (by decide) (Nat.le_of_ble_eq_true rfl) (c_lastTakes ha_q hc_q hz_q (by omega) ?_)
  refine wp_if_eq dX6_addStep_4 (fun h4 => absurd h4 (by rw [b01_t hz3_q]; decide)) (fun h4 => ?_)
  refine wp_aload_n dX6_addStep_7 rfl ?_
  refine c_getI dX6_addStep_8 flRX6_34 (by first | rfl | assumption) (by omega) ?_
  rw [ha_q]
  refine wp_iconst 1 dX6_addStep_11 (by decide) ?_
  refine wp_isub dX6_addStep_12 ?_
  rw [c1_s]
  refine st_i_6_4 dX6_addStep_13 (by decide) rfl ?_
  refine wp_aload_n dX6_addStep_15 rfl ?_
  refine wp_iload dX6_addStep_16 rfl ?_
  refine wp_aload_n dX6_addStep_18 rfl ?_
  refine wp_getA (by first | rfl | assumption) dX6_addStep_19 flRX6_15 (by first | rfl | assumption) ?_
  refine wp_iload dX6_addStep_22 rfl ?_
  refine c_iald dX6_addStep_24 rfl rfl (by omega) (by omega) (by decide) ?_
  rw [hz_q]
  refine g_callV2 (mj := mX6_placeOf) dX6_addStep_25 lkRX6_45 mkX6_placeOf (by first | rfl | assumption) (by decide) (by decide) (Nat.le_of_ble_eq_true rfl) (c_placeOf ?_)
  refine st_i_6_5 dX6_addStep_28 (by decide) rfl ?_
  refine wp_aload_n dX6_addStep_30 rfl ?_
  refine wp_getA (by first | rfl | assumption) dX6_addStep_31 flRX6_18 (by first | rfl | assumption) ?_
  refine wp_iload dX6_addStep_34 rfl ?_
  refine wp_iload_n dX6_addStep_36 rfl ?_
  refine c_iast dX6_addStep_37 rfl rfl (by omega) (by omega) (by decide) ?_
  refine wp_aload_n dX6_addStep_38 rfl ?_
  refine wp_getA (by first | rfl | assumption) dX6_addStep_39 flRX6_21 (by first | rfl | assumption) ?_
  refine wp_iload dX6_addStep_42 rfl ?_
  refine wp_iload_n dX6_addStep_44 rfl ?_
  refine c_iast dX6_addStep_45 rfl rfl (by omega) (by omega) (by decide) ?_
  refine wp_aload_n dX6_addStep_46 rfl ?_
  refine wp_getA (by first | rfl | assumption) dX6_addStep_47 flRX6_24 (by first | rfl | assumption) ?_
  refine wp_iload dX6_addStep_50 rfl ?_
  refine wp_iload_n dX6_addStep_52 rfl ?_
  refine c_iast dX6_addStep_53 rfl rfl (by omega) (by omega) (by decide) ?_
  refine wp_aload_n dX6_addStep_54 rfl ?_
  refine wp_getA (by first | rfl | assumption) dX6_addStep_55 flRX6_15 (by first | rfl | assumption) ?_
  refine wp_iload dX6_addStep_58 rfl ?_
  refine wp_dup2 dX6_addStep_60 rfl rfl ?_
  refine c_iald dX6_addStep_61 rfl rfl (by omega) (by omega) (by decide) ?_
  rw [uI_ne (by decide), uI_ne (by decide), uI_ne (by decide), hz_q]
  refine wp_iconst 1 dX6_addStep_62 (by decide) ?_
  refine wp_iadd dX6_addStep_63 ?_
  rw [nI_1]
  refine c_iast dX6_addStep_64 rfl rfl (by omega) (by omega) (by decide) ?_
  refine g_vret dX6_addStep_65 rfl ?_
  exact k
set_option maxHeartbeats 4000000 in
theorem c_ends {I S : Mem} {J : Mel} {Q : Option Value → Mem → Mem → Mel → Prop} {c z : Nat} (ha_q : I 6 6 = nI (c + 1)) (hc_q : c < 6) (hz_q : I 8 c = nI z) (hz3_q : z < 3) {d t s : Int32} (k : Q (some (.int 1)) (aEd I c z d t s) S J) : M2 mX7_endsStep 3 [.ref 5, .int d, .int t, .int s] I S J Q := by
  refine m2_of [.ref 5, .int d, .int t, .int s] moX7_endsStep (Nat.le_of_ble_eq_true rfl) rfl ?_
  refine wp_aload_n dX7_endsStep_0 rfl ?_
  refine wp_getA (by first | rfl | assumption) dX7_endsStep_1 flRX7_12 (by first | rfl | assumption) ?_
  refine wp_iload_n dX7_endsStep_4 rfl ?_
  refine wp_iload_n dX7_endsStep_5 rfl ?_
  refine wp_iload_n dX7_endsStep_6 rfl ?_
  refine g_callV3 (mj := mX6_addStep) dX7_endsStep_7 lkRX7_81 mkX6_addStep (by first | rfl | assumption) (by decide) (by decide) (Nat.le_of_ble_eq_true rfl) (c_addStep ha_q hc_q hz_q hz3_q ?_)
  refine wp_aload_n dX7_endsStep_10 rfl ?_
  refine wp_iconst 5 dX7_endsStep_11 (by decide) ?_
  refine c_putI dX7_endsStep_12 flRX7_21 (by first | rfl | assumption) (by omega) ?_
  refine wp_iconst 1 dX7_endsStep_15 (by decide) ?_
  refine g_zret dX7_endsStep_16 rfl (by first | decide | assumption) ?_
  exact k
set_option maxHeartbeats 4000000 in
theorem c_kindOf {I S : Mem} {J : Mel} {Q : Option Value → Mem → Mem → Mel → Prop} {x : Int32} (k : Q (some (.int (kdO x))) I S J) : M2 mX7_kindOf 1 [.int x] I S J Q := by
  refine m2_of [.int x] moX7_kindOf (Nat.le_of_ble_eq_true rfl) rfl ?_
  refine wp_iload_n dX7_kindOf_0 rfl ?_
  rcases (show x = 97 ∨ x = 98 ∨ x = 104 ∨ x = 109 ∨ x = 116 ∨ (¬ x = 97 ∧ ¬ x = 98 ∧ ¬ x = 104 ∧ ¬ x = 109 ∧ ¬ x = 116) by grind) with rfl | rfl | rfl | rfl | rfl | ⟨n97_q, n98_q, n104_q, n109_q, n116_q⟩
  · skip
    refine wp_lsw (off := 51) (tgt := 52) dX7_kindOf_1 (by decide) (by decide +kernel) (by decide) ?_
    refine wp_iconst 0 dX7_kindOf_52 (by decide) ?_
    refine g_iret dX7_kindOf_53 rfl ?_
    first | exact k | (unfold kdO at k; rw [if_neg n97_q, if_neg n98_q, if_neg n104_q, if_neg n109_q, if_neg n116_q] at k; exact k)
  · skip
    refine wp_lsw (off := 55) (tgt := 56) dX7_kindOf_1 (by decide) (by decide +kernel) (by decide) ?_
    refine wp_iconst 2 dX7_kindOf_56 (by decide) ?_
    refine g_iret dX7_kindOf_57 rfl ?_
    first | exact k | (unfold kdO at k; rw [if_neg n97_q, if_neg n98_q, if_neg n104_q, if_neg n109_q, if_neg n116_q] at k; exact k)
  · skip
    refine wp_lsw (off := 59) (tgt := 60) dX7_kindOf_1 (by decide) (by decide +kernel) (by decide) ?_
    refine wp_iconst 4 dX7_kindOf_60 (by decide) ?_
    refine g_iret dX7_kindOf_61 rfl ?_
    first | exact k | (unfold kdO at k; rw [if_neg n97_q, if_neg n98_q, if_neg n104_q, if_neg n109_q, if_neg n116_q] at k; exact k)
  · skip
    refine wp_lsw (off := 57) (tgt := 58) dX7_kindOf_1 (by decide) (by decide +kernel) (by decide) ?_
    refine wp_iconst 3 dX7_kindOf_58 (by decide) ?_
    refine g_iret dX7_kindOf_59 rfl ?_
    first | exact k | (unfold kdO at k; rw [if_neg n97_q, if_neg n98_q, if_neg n104_q, if_neg n109_q, if_neg n116_q] at k; exact k)
  · skip
    refine wp_lsw (off := 53) (tgt := 54) dX7_kindOf_1 (by decide) (by decide +kernel) (by decide) ?_
    refine wp_iconst 1 dX7_kindOf_54 (by decide) ?_
    refine g_iret dX7_kindOf_55 rfl ?_
    first | exact k | (unfold kdO at k; rw [if_neg n97_q, if_neg n98_q, if_neg n104_q, if_neg n109_q, if_neg n116_q] at k; exact k)
  · skip
    refine wp_lsw (off := 61) (tgt := 62) dX7_kindOf_1 (by decide) (by show Op.lookupswitch.offset [(97, 51), (98, 55), (104, 59), (109, 57), (116, 53)] 61 _ = 61; rw [lv_osw (k := 97) n97_q (by decide), lv_osw (k := 98) n98_q (by decide), lv_osw (k := 104) n104_q (by decide), lv_osw (k := 109) n109_q (by decide), lv_osw (k := 116) n116_q (by decide)]; rfl) (by decide) ?_
    refine wp_iconst (-1) dX7_kindOf_62 (by decide) ?_
    refine g_iret dX7_kindOf_63 rfl ?_
    first | exact k | (unfold kdO at k; rw [if_neg n97_q, if_neg n98_q, if_neg n104_q, if_neg n109_q, if_neg n116_q] at k; exact k)
set_option maxHeartbeats 4000000 in
theorem c_kindBy {I S : Mem} {J : Mel} {Q : Option Value → Mem → Mem → Mel → Prop} {x : Int32} (k : Q (some (.int (kdO x))) I S J) : M2 mX11_kindBy 1 [.int x] I S J Q := by
  refine m2_of [.int x] moX11_kindBy (Nat.le_of_ble_eq_true rfl) rfl ?_
  refine wp_iload_n dX11_kindBy_0 rfl ?_
  rcases (show x = 97 ∨ x = 98 ∨ x = 104 ∨ x = 109 ∨ x = 116 ∨ (¬ x = 97 ∧ ¬ x = 98 ∧ ¬ x = 104 ∧ ¬ x = 109 ∧ ¬ x = 116) by grind) with rfl | rfl | rfl | rfl | rfl | ⟨n97_q, n98_q, n104_q, n109_q, n116_q⟩
  · skip
    refine wp_lsw (off := 51) (tgt := 52) dX11_kindBy_1 (by decide) (by decide +kernel) (by decide) ?_
    refine wp_iconst 0 dX11_kindBy_52 (by decide) ?_
    refine g_iret dX11_kindBy_53 rfl ?_
    first | exact k | (unfold kdO at k; rw [if_neg n97_q, if_neg n98_q, if_neg n104_q, if_neg n109_q, if_neg n116_q] at k; exact k)
  · skip
    refine wp_lsw (off := 55) (tgt := 56) dX11_kindBy_1 (by decide) (by decide +kernel) (by decide) ?_
    refine wp_iconst 2 dX11_kindBy_56 (by decide) ?_
    refine g_iret dX11_kindBy_57 rfl ?_
    first | exact k | (unfold kdO at k; rw [if_neg n97_q, if_neg n98_q, if_neg n104_q, if_neg n109_q, if_neg n116_q] at k; exact k)
  · skip
    refine wp_lsw (off := 59) (tgt := 60) dX11_kindBy_1 (by decide) (by decide +kernel) (by decide) ?_
    refine wp_iconst 4 dX11_kindBy_60 (by decide) ?_
    refine g_iret dX11_kindBy_61 rfl ?_
    first | exact k | (unfold kdO at k; rw [if_neg n97_q, if_neg n98_q, if_neg n104_q, if_neg n109_q, if_neg n116_q] at k; exact k)
  · skip
    refine wp_lsw (off := 57) (tgt := 58) dX11_kindBy_1 (by decide) (by decide +kernel) (by decide) ?_
    refine wp_iconst 3 dX11_kindBy_58 (by decide) ?_
    refine g_iret dX11_kindBy_59 rfl ?_
    first | exact k | (unfold kdO at k; rw [if_neg n97_q, if_neg n98_q, if_neg n104_q, if_neg n109_q, if_neg n116_q] at k; exact k)
  · skip
    refine wp_lsw (off := 53) (tgt := 54) dX11_kindBy_1 (by decide) (by decide +kernel) (by decide) ?_
    refine wp_iconst 1 dX11_kindBy_54 (by decide) ?_
    refine g_iret dX11_kindBy_55 rfl ?_
    first | exact k | (unfold kdO at k; rw [if_neg n97_q, if_neg n98_q, if_neg n104_q, if_neg n109_q, if_neg n116_q] at k; exact k)
  · skip
    refine wp_lsw (off := 61) (tgt := 62) dX11_kindBy_1 (by decide) (by show Op.lookupswitch.offset [(97, 51), (98, 55), (104, 59), (109, 57), (116, 53)] 61 _ = 61; rw [lv_osw (k := 97) n97_q (by decide), lv_osw (k := 98) n98_q (by decide), lv_osw (k := 104) n104_q (by decide), lv_osw (k := 109) n109_q (by decide), lv_osw (k := 116) n116_q (by decide)]; rfl) (by decide) ?_
    refine wp_iconst (-1) dX11_kindBy_62 (by decide) ?_
    refine g_iret dX11_kindBy_63 rfl ?_
    first | exact k | (unfold kdO at k; rw [if_neg n97_q, if_neg n98_q, if_neg n104_q, if_neg n109_q, if_neg n116_q] at k; exact k)
theorem kdO_r (x : Int32) : kdO x = -1 ∨ ∃ c, c ≤ 4 ∧ kdO x = nI c := by
  unfold kdO
  split
  · exact Or.inr ⟨0, by omega, rfl⟩
  split
  · exact Or.inr ⟨2, by omega, rfl⟩
  split
  · exact Or.inr ⟨4, by omega, rfl⟩
  split
  · exact Or.inr ⟨3, by omega, rfl⟩
  split
  · exact Or.inr ⟨1, by omega, rfl⟩
  exact Or.inl rfl
set_option maxHeartbeats 4000000 in
theorem c_tkKind {I S : Mem} {J : Mel} {Q : Option Value → Mem → Mem → Mel → Prop} {a : Nat} {x : Int32} (hd_q : I 5 1 = 0) (ha_q : I 6 6 = nI a) (ha6_q : a < 6) (k : QO (aTk I x) I Q S J) : M2 mX7_takesKind 2 [.ref 5, .int x] I S J Q := by
  rw [aTk_0 hd_q, ha_q, tn_nI (by omega)] at k
  refine m2_of [.ref 5, .int x, dum] moX7_takesKind (Nat.le_of_ble_eq_true rfl) rfl ?_
  refine wp_iload_n dX7_takesKind_0 rfl ?_
  refine g_callS1 (mj := mX7_kindOf) dX7_takesKind_1 lkRX7_69 mkX7_kindOf (by decide) (by decide) (Nat.le_of_ble_eq_true rfl) (c_kindOf ?_)
  refine st_i_3_2 dX7_takesKind_4 (by decide) rfl ?_
  refine wp_iload_n dX7_takesKind_5 rfl ?_
  refine wp_iconst (-1) dX7_takesKind_6 (by decide) ?_
  refine wp_icmp_ne dX7_takesKind_7 (fun h7 => ?_) (fun h7 => ?_)
  · skip
    refine wp_aload_n dX7_takesKind_12 rfl ?_
    refine wp_getA (by first | rfl | assumption) dX7_takesKind_13 flRX7_12 (by first | rfl | assumption) ?_
    refine wp_iload_n dX7_takesKind_16 rfl ?_
    refine g_callV1 (mj := mX6_addActor) dX7_takesKind_17 lkRX7_73 mkX6_addActor (by first | rfl | assumption) (by decide) (by decide) (Nat.le_of_ble_eq_true rfl) (c_addActor ha_q ha6_q ?_)
    refine wp_aload_n dX7_takesKind_20 rfl ?_
    refine wp_iconst 1 dX7_takesKind_21 (by decide) ?_
    refine c_putI dX7_takesKind_22 flRX7_21 (by first | rfl | assumption) (by omega) ?_
    refine wp_iconst 1 dX7_takesKind_25 (by decide) ?_
    refine g_zret dX7_takesKind_26 rfl (by first | decide | assumption) ?_
    rw [if_neg (by first | exact h7 | exact fun q => h7 q)] at k; exact k
  · skip
    refine wp_iconst 0 dX7_takesKind_10 (by decide) ?_
    refine g_zret dX7_takesKind_11 rfl (by first | decide | assumption) ?_
    rw [if_pos (by first | exact h7 | exact Classical.not_not.mp h7)] at k; exact k I FrR.rf
theorem aSt_63 {I : Mem} : aSt I 63 = some (uI I 5 1 2) := rfl
theorem aSt_33 {I : Mem} : aSt I 33 = some (uI I 5 1 3) := rfl
theorem aSt_42 {I : Mem} : aSt I 42 = some (aEnd I 1 (-1) 9) := rfl
theorem aSt_45 {I : Mem} : aSt I 45 = some (aEnd I 0 (-1) (-1)) := rfl
theorem aSt_120 {I : Mem} : aSt I 120 = some (aEnd I 3 (-1) (-1)) := rfl
theorem aSt_no {I : Mem} {x : Int32} (n33 : ¬ x = 33) (n42 : ¬ x = 42) (n45 : ¬ x = 45) (n63 : ¬ x = 63) (n120 : ¬ x = 120) : aSt I x = none := by unfold aSt; rw [if_neg n63, if_neg n33, if_neg n42, if_neg n45, if_neg n120]
set_option maxHeartbeats 4000000 in
theorem c_tkStep {I S : Mem} {J : Mel} {Q : Option Value → Mem → Mem → Mel → Prop} {c z : Nat} (ha_q : I 6 6 = nI (c + 1)) (hc_q : c < 6) (hz_q : I 8 c = nI z) (hz3_q : z < 3) {x : Int32} (k : QO (aSt I x) I Q S J) : M2 mX7_takesStep 4 [.ref 5, .int x] I S J Q := by
  refine m2_of [.ref 5, .int x] moX7_takesStep (Nat.le_of_ble_eq_true rfl) rfl ?_
  refine wp_iload_n dX7_takesStep_0 rfl ?_
  rcases (show x = 33 ∨ x = 42 ∨ x = 45 ∨ x = 63 ∨ x = 120 ∨ (¬ x = 33 ∧ ¬ x = 42 ∧ ¬ x = 45 ∧ ¬ x = 63 ∧ ¬ x = 120) by grind) with rfl | rfl | rfl | rfl | rfl | ⟨n33_q, n42_q, n45_q, n63_q, n120_q⟩
  · skip
    have e_q := aSt_33 (I := I)
    rw [e_q] at k
    refine wp_lsw (off := 58) (tgt := 59) dX7_takesStep_1 (by decide) (by decide +kernel) (by decide) ?_
    refine wp_aload_n dX7_takesStep_59 rfl ?_
    refine wp_iconst 3 dX7_takesStep_60 (by decide) ?_
    refine c_putI dX7_takesStep_61 flRX7_21 (by first | rfl | assumption) (by omega) ?_
    refine wp_iconst 1 dX7_takesStep_64 (by decide) ?_
    refine g_zret dX7_takesStep_65 rfl (by first | decide | assumption) ?_
    exact k
  · skip
    have e_q := aSt_42 (I := I)
    rw [e_q] at k
    refine wp_lsw (off := 65) (tgt := 66) dX7_takesStep_1 (by decide) (by decide +kernel) (by decide) ?_
    refine wp_aload_n dX7_takesStep_66 rfl ?_
    refine wp_iconst 1 dX7_takesStep_67 (by decide) ?_
    refine wp_iconst (-1) dX7_takesStep_68 (by decide) ?_
    refine wp_bipush 9 dX7_takesStep_69 (by decide) ?_
    refine g_callV3 (mj := mX7_endsStep) dX7_takesStep_71 lkRX7_77 mkX7_endsStep (by first | rfl | assumption) (by decide) (by decide) (Nat.le_of_ble_eq_true rfl) (c_ends ha_q hc_q hz_q hz3_q ?_)
    refine g_zret dX7_takesStep_74 rfl (by first | decide | assumption) ?_
    rw [aEnd_eq ha_q hc_q hz_q hz3_q] at k; exact k
  · skip
    have e_q := aSt_45 (I := I)
    rw [e_q] at k
    refine wp_lsw (off := 74) (tgt := 75) dX7_takesStep_1 (by decide) (by decide +kernel) (by decide) ?_
    refine wp_aload_n dX7_takesStep_75 rfl ?_
    refine wp_iconst 0 dX7_takesStep_76 (by decide) ?_
    refine wp_iconst (-1) dX7_takesStep_77 (by decide) ?_
    refine wp_iconst (-1) dX7_takesStep_78 (by decide) ?_
    refine g_callV3 (mj := mX7_endsStep) dX7_takesStep_79 lkRX7_77 mkX7_endsStep (by first | rfl | assumption) (by decide) (by decide) (Nat.le_of_ble_eq_true rfl) (c_ends ha_q hc_q hz_q hz3_q ?_)
    refine g_zret dX7_takesStep_82 rfl (by first | decide | assumption) ?_
    rw [aEnd_eq ha_q hc_q hz_q hz3_q] at k; exact k
  · skip
    have e_q := aSt_63 (I := I)
    rw [e_q] at k
    refine wp_lsw (off := 51) (tgt := 52) dX7_takesStep_1 (by decide) (by decide +kernel) (by decide) ?_
    refine wp_aload_n dX7_takesStep_52 rfl ?_
    refine wp_iconst 2 dX7_takesStep_53 (by decide) ?_
    refine c_putI dX7_takesStep_54 flRX7_21 (by first | rfl | assumption) (by omega) ?_
    refine wp_iconst 1 dX7_takesStep_57 (by decide) ?_
    refine g_zret dX7_takesStep_58 rfl (by first | decide | assumption) ?_
    exact k
  · skip
    have e_q := aSt_120 (I := I)
    rw [e_q] at k
    refine wp_lsw (off := 82) (tgt := 83) dX7_takesStep_1 (by decide) (by decide +kernel) (by decide) ?_
    refine wp_aload_n dX7_takesStep_83 rfl ?_
    refine wp_iconst 3 dX7_takesStep_84 (by decide) ?_
    refine wp_iconst (-1) dX7_takesStep_85 (by decide) ?_
    refine wp_iconst (-1) dX7_takesStep_86 (by decide) ?_
    refine g_callV3 (mj := mX7_endsStep) dX7_takesStep_87 lkRX7_77 mkX7_endsStep (by first | rfl | assumption) (by decide) (by decide) (Nat.le_of_ble_eq_true rfl) (c_ends ha_q hc_q hz_q hz3_q ?_)
    refine g_zret dX7_takesStep_90 rfl (by first | decide | assumption) ?_
    rw [aEnd_eq ha_q hc_q hz_q hz3_q] at k; exact k
  · skip
    rw [aSt_no n33_q n42_q n45_q n63_q n120_q] at k
    refine wp_lsw (off := 90) (tgt := 91) dX7_takesStep_1 (by decide) (by show Op.lookupswitch.offset [(33, 58), (42, 65), (45, 74), (63, 51), (120, 82)] 90 _ = 90; rw [lv_osw (k := 33) n33_q (by decide), lv_osw (k := 42) n42_q (by decide), lv_osw (k := 45) n45_q (by decide), lv_osw (k := 63) n63_q (by decide), lv_osw (k := 120) n120_q (by decide)]; rfl) (by decide) ?_
    refine wp_iconst 0 dX7_takesStep_91 (by decide) ?_
    refine g_zret dX7_takesStep_92 rfl (by first | decide | assumption) ?_
    exact k I FrR.rf
set_option maxHeartbeats 4000000 in
theorem c_tkWait {I S : Mem} {J : Mel} {Q : Option Value → Mem → Mem → Mel → Prop} {c z : Nat} (ha_q : I 6 6 = nI (c + 1)) (hc_q : c < 6) (hz_q : I 8 c = nI z) (hz3_q : z < 3) {x : Int32} (hd_q : I 5 1 = 2) (k : QO (aTk I x) I Q S J) : M2 mX7_takesWaitSign 4 [.ref 5, .int x] I S J Q := by
  rw [aTk_2 hd_q, aEnd_eq ha_q hc_q hz_q hz3_q] at k
  refine m2_of [.ref 5, .int x] moX7_takesWaitSign (Nat.le_of_ble_eq_true rfl) rfl ?_
  refine wp_iload_n dX7_takesWaitSign_0 rfl ?_
  refine wp_bipush 48 dX7_takesWaitSign_1 (by decide) ?_
  refine wp_icmp_lt dX7_takesWaitSign_3 (fun h3 => ?_) (fun h3 => ?_)
  · skip
    refine wp_iconst 0 dX7_takesWaitSign_29 (by decide) ?_
    refine g_zret dX7_takesWaitSign_30 rfl (by first | decide | assumption) ?_
    first | (rw [if_pos (by grind)] at k; exact k) | (rw [if_neg (by grind)] at k; exact k I FrR.rf)
  · skip
    refine wp_iload_n dX7_takesWaitSign_6 rfl ?_
    refine wp_bipush 56 dX7_takesWaitSign_7 (by decide) ?_
    refine wp_icmp_gt dX7_takesWaitSign_9 (fun h9 => ?_) (fun h9 => ?_)
    · skip
      refine wp_iconst 0 dX7_takesWaitSign_29 (by decide) ?_
      refine g_zret dX7_takesWaitSign_30 rfl (by first | decide | assumption) ?_
      first | (rw [if_pos (by grind)] at k; exact k) | (rw [if_neg (by grind)] at k; exact k I FrR.rf)
    · skip
      refine wp_aload_n dX7_takesWaitSign_12 rfl ?_
      refine wp_iconst 1 dX7_takesWaitSign_13 (by decide) ?_
      refine wp_iconst (-1) dX7_takesWaitSign_14 (by decide) ?_
      refine wp_iload_n dX7_takesWaitSign_15 rfl ?_
      refine wp_bipush 48 dX7_takesWaitSign_16 (by decide) ?_
      refine wp_isub dX7_takesWaitSign_18 ?_
      refine g_callV3 (mj := mX7_endsStep) dX7_takesWaitSign_19 lkRX7_77 mkX7_endsStep (by first | rfl | assumption) (by decide) (by decide) (Nat.le_of_ble_eq_true rfl) (c_ends ha_q hc_q hz_q hz3_q ?_)
      refine wp_if_eq dX7_takesWaitSign_22 (fun h22 => absurd h22 (by decide)) (fun h22 => ?_)
      refine wp_iconst 1 dX7_takesWaitSign_25 (by decide) ?_
      refine wp_goto dX7_takesWaitSign_26 ?_
      refine g_zret dX7_takesWaitSign_30 rfl (by first | decide | assumption) ?_
      first | (rw [if_pos (by grind)] at k; exact k) | (rw [if_neg (by grind)] at k; exact k I FrR.rf)
set_option maxHeartbeats 4000000 in
theorem c_tkTarget {I S : Mem} {J : Mel} {Q : Option Value → Mem → Mem → Mel → Prop} {x : Int32} (hd_q : I 5 1 = 3) (k : QO (aTk I x) I Q S J) : M2 mX7_takesTarget 1 [.ref 5, .int x] I S J Q := by
  rw [aTk_3 hd_q] at k
  refine m2_of [.ref 5, .int x] moX7_takesTarget (Nat.le_of_ble_eq_true rfl) rfl ?_
  refine wp_iload_n dX7_takesTarget_0 rfl ?_
  refine wp_bipush 48 dX7_takesTarget_1 (by decide) ?_
  refine wp_icmp_lt dX7_takesTarget_3 (fun h3 => ?_) (fun h3 => ?_)
  · skip
    refine wp_iconst 0 dX7_takesTarget_12 (by decide) ?_
    refine g_zret dX7_takesTarget_13 rfl (by first | decide | assumption) ?_
    first | (rw [if_pos (by grind)] at k; exact k) | (rw [if_neg (by grind)] at k; exact k I FrR.rf)
  · skip
    refine wp_iload_n dX7_takesTarget_6 rfl ?_
    refine wp_bipush 54 dX7_takesTarget_7 (by decide) ?_
    refine wp_icmp_lt dX7_takesTarget_9 (fun h9 => ?_) (fun h9 => ?_)
    · skip
      refine wp_aload_n dX7_takesTarget_14 rfl ?_
      refine wp_iload_n dX7_takesTarget_15 rfl ?_
      refine wp_bipush 48 dX7_takesTarget_16 (by decide) ?_
      refine wp_isub dX7_takesTarget_18 ?_
      refine c_putI dX7_takesTarget_19 flRX7_85 (by first | rfl | assumption) (by omega) ?_
      refine wp_aload_n dX7_takesTarget_22 rfl ?_
      refine wp_iconst 4 dX7_takesTarget_23 (by decide) ?_
      refine c_putI dX7_takesTarget_24 flRX7_21 (by first | rfl | assumption) (by omega) ?_
      refine wp_iconst 1 dX7_takesTarget_27 (by decide) ?_
      refine g_zret dX7_takesTarget_28 rfl (by first | decide | assumption) ?_
      first | (rw [if_pos (by grind)] at k; exact k) | (rw [if_neg (by grind)] at k; exact k I FrR.rf)
    · skip
      refine wp_iconst 0 dX7_takesTarget_12 (by decide) ?_
      refine g_zret dX7_takesTarget_13 rfl (by first | decide | assumption) ?_
      first | (rw [if_pos (by grind)] at k; exact k) | (rw [if_neg (by grind)] at k; exact k I FrR.rf)
set_option maxHeartbeats 4000000 in
theorem c_tkSend {I S : Mem} {J : Mel} {Q : Option Value → Mem → Mem → Mel → Prop} {c z : Nat} (ha_q : I 6 6 = nI (c + 1)) (hc_q : c < 6) (hz_q : I 8 c = nI z) (hz3_q : z < 3) {x : Int32} (hd_q : I 5 1 = 4) (k : QO (aTk I x) I Q S J) : M2 mX7_takesSendSign 4 [.ref 5, .int x] I S J Q := by
  rw [aTk_4 hd_q, aEnd_eq ha_q hc_q hz_q hz3_q] at k
  refine m2_of [.ref 5, .int x] moX7_takesSendSign (Nat.le_of_ble_eq_true rfl) rfl ?_
  refine wp_iload_n dX7_takesSendSign_0 rfl ?_
  refine wp_bipush 48 dX7_takesSendSign_1 (by decide) ?_
  refine wp_icmp_lt dX7_takesSendSign_3 (fun h3 => ?_) (fun h3 => ?_)
  · skip
    refine wp_iconst 0 dX7_takesSendSign_32 (by decide) ?_
    refine g_zret dX7_takesSendSign_33 rfl (by first | decide | assumption) ?_
    first | (rw [if_pos (by grind)] at k; exact k) | (rw [if_neg (by grind)] at k; exact k I FrR.rf)
  · skip
    refine wp_iload_n dX7_takesSendSign_6 rfl ?_
    refine wp_bipush 55 dX7_takesSendSign_7 (by decide) ?_
    refine wp_icmp_gt dX7_takesSendSign_9 (fun h9 => ?_) (fun h9 => ?_)
    · skip
      refine wp_iconst 0 dX7_takesSendSign_32 (by decide) ?_
      refine g_zret dX7_takesSendSign_33 rfl (by first | decide | assumption) ?_
      first | (rw [if_pos (by grind)] at k; exact k) | (rw [if_neg (by grind)] at k; exact k I FrR.rf)
    · skip
      refine wp_aload_n dX7_takesSendSign_12 rfl ?_
      refine wp_iconst 2 dX7_takesSendSign_13 (by decide) ?_
      refine wp_aload_n dX7_takesSendSign_14 rfl ?_
      refine c_getI dX7_takesSendSign_15 flRX7_85 (by first | rfl | assumption) (by omega) ?_
      refine wp_iload_n dX7_takesSendSign_18 rfl ?_
      refine wp_bipush 48 dX7_takesSendSign_19 (by decide) ?_
      refine wp_isub dX7_takesSendSign_21 ?_
      refine g_callV3 (mj := mX7_endsStep) dX7_takesSendSign_22 lkRX7_77 mkX7_endsStep (by first | rfl | assumption) (by decide) (by decide) (Nat.le_of_ble_eq_true rfl) (c_ends ha_q hc_q hz_q hz3_q ?_)
      refine wp_if_eq dX7_takesSendSign_25 (fun h25 => absurd h25 (by decide)) (fun h25 => ?_)
      refine wp_iconst 1 dX7_takesSendSign_28 (by decide) ?_
      refine wp_goto dX7_takesSendSign_29 ?_
      refine g_zret dX7_takesSendSign_33 rfl (by first | decide | assumption) ?_
      first | (rw [if_pos (by grind)] at k; exact k) | (rw [if_neg (by grind)] at k; exact k I FrR.rf)
