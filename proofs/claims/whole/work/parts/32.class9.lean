set_option maxHeartbeats 4000000 in
theorem c_sadd {I S : Mem} {J : Mel} {Q : Option Value → Mem → Mem → Mel → Prop} {a z v : Nat} {x y : Int32} (hL_q : IsSeen a) (hz_q : I a 2 = nI z) (hz6_q : z < 6) (hv_q : v < 4) (k : Q none (uI (uI (uI I (a + 1) z x) (a + 2) z (if y = 0 then 31 ^^^ kin v else kin v)) a 2 (nI z + 1)) S J) : M2 mX8_add 1 [.ref a, .int x, .int (nI v), .int y] I S J Q := by
  obtain ⟨s1_q, s2_q, s3_q, s4_q, s5_q, s6_q⟩ := id hL_q
  refine m2_of [.ref a, .int x, .int (nI v), .int y] moX8_add (Nat.le_of_ble_eq_true rfl) rfl ?_
  refine wp_aload_n dX8_add_0 rfl ?_
  refine c_getI dX8_add_1 flRX8_18 (by first | rfl | assumption) (by omega) ?_
  refine wp_bipush 6 dX8_add_4 (by decide) ?_
  refine wp_icmp_ge dX8_add_6 (fun h6 => absurd h6 (by rw [hz_q, show (6 : Int32) = nI 6 from rfl, nI_leg (by omega) (by omega)]; omega)) (fun h6 => ?_)
  refine wp_iload_n dX8_add_9 rfl ?_
  refine wp_if_lt dX8_add_10 (fun h10 => absurd h10 (nI_pos (by omega))) (fun h10 => ?_)
  refine wp_iload_n dX8_add_13 rfl ?_
  refine wp_iconst 4 dX8_add_14 (by decide) ?_
  refine wp_icmp_ge dX8_add_15 (fun h15 => absurd h15 (by rw [show (4 : Int32) = nI 4 from rfl, nI_leg (by omega) (by omega)]; omega)) (fun h15 => ?_)
  refine wp_aload_n dX8_add_18 rfl ?_
  refine wp_getA (by first | rfl | assumption) dX8_add_19 flRX8_9 (by first | rfl | assumption) ?_
  refine wp_aload_n dX8_add_22 rfl ?_
  refine c_getI dX8_add_23 flRX8_18 (by first | rfl | assumption) (by omega) ?_
  refine wp_iload_n dX8_add_26 rfl ?_
  refine c_iast dX8_add_27 s4_q hz_q (by omega) (by omega) (by decide) ?_
  refine wp_aload_n dX8_add_28 rfl ?_
  refine wp_getA (by first | rfl | assumption) dX8_add_29 flRX8_15 (by first | rfl | assumption) ?_
  refine wp_aload_n dX8_add_32 rfl ?_
  refine c_getI dX8_add_33 flRX8_18 (by first | rfl | assumption) (by omega) ?_
  refine wp_iload_n dX8_add_36 rfl ?_
  refine wp_if_eq dX8_add_37 (fun h37 => ?_) (fun h37 => ?_)
  · skip
    refine wp_bipush 31 dX8_add_48 (by decide) ?_
    refine wp_gets dX8_add_50 fsRX8_22 ?_
    refine wp_iload_n dX8_add_53 rfl ?_
    refine wp_kld dX8_add_54 rfl hv_q ?_
    refine wp_ixor dX8_add_55 ?_
    refine c_iast dX8_add_56 s5_q (by rw [uI_ne (by omega)]; exact hz_q) (by omega) (by omega) (by decide) ?_
    refine wp_aload_n dX8_add_57 rfl ?_
    refine wp_dup dX8_add_58 rfl ?_
    refine c_getI dX8_add_59 flRX8_18 (by first | rfl | assumption) (by omega) ?_
    refine wp_iconst 1 dX8_add_62 (by decide) ?_
    refine wp_iadd dX8_add_63 ?_
    refine c_putI dX8_add_64 flRX8_18 (by first | rfl | assumption) (by omega) ?_
    refine g_vret dX8_add_67 rfl ?_
    rw [uI_ne (show a ≠ a + 2 by omega), uI_ne (show a ≠ a + 1 by omega), hz_q]; first | (rw [if_pos h37] at k; exact k) | (rw [if_neg h37] at k; exact k)
  · skip
    refine wp_gets dX8_add_40 fsRX8_22 ?_
    refine wp_iload_n dX8_add_43 rfl ?_
    refine wp_kld dX8_add_44 rfl hv_q ?_
    refine wp_goto dX8_add_45 ?_
    refine c_iast dX8_add_56 s5_q (by rw [uI_ne (by omega)]; exact hz_q) (by omega) (by omega) (by decide) ?_
    refine wp_aload_n dX8_add_57 rfl ?_
    refine wp_dup dX8_add_58 rfl ?_
    refine c_getI dX8_add_59 flRX8_18 (by first | rfl | assumption) (by omega) ?_
    refine wp_iconst 1 dX8_add_62 (by decide) ?_
    refine wp_iadd dX8_add_63 ?_
    refine c_putI dX8_add_64 flRX8_18 (by first | rfl | assumption) (by omega) ?_
    refine g_vret dX8_add_67 rfl ?_
    rw [uI_ne (show a ≠ a + 2 by omega), uI_ne (show a ≠ a + 1 by omega), hz_q]; first | (rw [if_pos h37] at k; exact k) | (rw [if_neg h37] at k; exact k)
def soC (I : Mem) (a : Nat) (x : Int32) : Nat → Int32
  | 0 => 31
  | c + 1 => if I (a + 1) c = x then soC I a x c &&& I (a + 2) c else soC I a x c
set_option maxHeartbeats 4000000 in
theorem l_csorts {I S : Mem} {J : Mel} {Q : Option Value → Mem → Mem → Mel → Prop} {a s : Nat} {x : Int32} (hL_q : IsSeen a) (hs_q : I a 2 = nI s) (hs6_q : s ≤ 6) (k : Q (some (.int (soC I a x s))) I S J) : ∀ (z : Nat), (z ≤ s) → W2 mX8_sortsOf 1 Q I S J 5 [.ref a, .int x, .int (soC I a x z), .int (nI z)] [] := by
  intro z
  induction hm : s - z using Nat.strongRecOn generalizing z with
  | _ c ih =>
    intro hz_q
    obtain ⟨s1_q, s2_q, s3_q, s4_q, s5_q, s6_q⟩ := id hL_q
    refine wp_iload_n dX8_sortsOf_5 rfl ?_
    refine wp_aload_n dX8_sortsOf_6 rfl ?_
    refine c_getI dX8_sortsOf_7 flRX8_18 (by first | rfl | assumption) (by omega) ?_
    refine wp_icmp_ge dX8_sortsOf_10 (fun h10 => ?_) (fun h10 => ?_)
    · skip
      refine wp_iload_n dX8_sortsOf_38 rfl ?_
      refine g_iret dX8_sortsOf_39 rfl ?_
      have e_q : z = s := by rw [hs_q, nI_leg (by omega) (by omega)] at h10; omega
      rw [e_q]; exact k
    · skip
      have hzs_q : z < s := by rw [hs_q, nI_leg (by omega) (by omega)] at h10; omega
      refine wp_aload_n dX8_sortsOf_13 rfl ?_
      refine wp_getA (by first | rfl | assumption) dX8_sortsOf_14 flRX8_9 (by first | rfl | assumption) ?_
      refine wp_iload_n dX8_sortsOf_17 rfl ?_
      refine c_iald dX8_sortsOf_18 s4_q rfl (by omega) (by omega) (by decide) ?_
      refine wp_iload_n dX8_sortsOf_19 rfl ?_
      refine wp_icmp_ne dX8_sortsOf_20 (fun h20 => ?_) (fun h20 => ?_)
      · skip
        refine ic_4_3 (nI (z + 1)) dX8_sortsOf_32 (nI_inc z) (by decide) rfl ?_
        refine wp_goto dX8_sortsOf_35 ?_
        have t_q := ih _ (by omega) (z + 1) rfl (by omega)
        simp only [soC] at t_q
        first | (rw [if_pos h20] at t_q; exact t_q) | (rw [if_neg h20] at t_q; exact t_q)
      · skip
        refine wp_iload_n dX8_sortsOf_23 rfl ?_
        refine wp_aload_n dX8_sortsOf_24 rfl ?_
        refine wp_getA (by first | rfl | assumption) dX8_sortsOf_25 flRX8_15 (by first | rfl | assumption) ?_
        refine wp_iload_n dX8_sortsOf_28 rfl ?_
        refine c_iald dX8_sortsOf_29 s5_q rfl (by omega) (by omega) (by decide) ?_
        refine wp_iand dX8_sortsOf_30 ?_
        refine st_i_4_2 dX8_sortsOf_31 (by decide) rfl ?_
        refine ic_4_3 (nI (z + 1)) dX8_sortsOf_32 (nI_inc z) (by decide) rfl ?_
        refine wp_goto dX8_sortsOf_35 ?_
        have t_q := ih _ (by omega) (z + 1) rfl (by omega)
        simp only [soC] at t_q
        first | (rw [if_pos h20] at t_q; exact t_q) | (rw [if_neg h20] at t_q; exact t_q)
set_option maxHeartbeats 4000000 in
theorem c_csorts {I S : Mem} {J : Mel} {Q : Option Value → Mem → Mem → Mel → Prop} {a s : Nat} {x : Int32} (hL_q : IsSeen a) (hs_q : I a 2 = nI s) (hs6_q : s ≤ 6) (k : Q (some (.int (soC I a x s))) I S J) : M2 mX8_sortsOf 1 [.ref a, .int x] I S J Q := by
  refine m2_of [.ref a, .int x, dum, dum] moX8_sortsOf (Nat.le_of_ble_eq_true rfl) rfl ?_
  refine wp_bipush 31 dX8_sortsOf_0 (by decide) ?_
  refine st_i_4_2 dX8_sortsOf_2 (by decide) rfl ?_
  refine wp_iconst 0 dX8_sortsOf_3 (by decide) ?_
  refine st_i_4_3 dX8_sortsOf_4 (by decide) rfl ?_
  exact l_csorts hL_q hs_q hs6_q k 0 (by omega)
def us_ (x y : Int32) : Int32 := (x.toUInt32 >>> (y.toUInt32 &&& Int32.toUInt32 31)).toInt32
def bc1 (x : Int32) : Int32 := x - (us_ x 1 &&& 1431655765)
def bc2 (x : Int32) : Int32 := (x &&& 858993459) + (us_ x 2 &&& 858993459)
def bc3 (x : Int32) : Int32 := x + us_ x 4 &&& 252645135
def bc4 (x : Int32) : Int32 := x + us_ x 8
def bc5 (x : Int32) : Int32 := x + us_ x 16
def bcI (x : Int32) : Int32 := bc5 (bc4 (bc3 (bc2 (bc1 x)))) &&& 63
set_option maxHeartbeats 4000000 in
theorem c_bitCount {I S : Mem} {J : Mel} {Q : Option Value → Mem → Mem → Mel → Prop} {x : Int32} (k : Q (some (.int (bcI x))) I S J) : M2 mJ6_bitCount_0f7a4 1 [.int x] I S J Q := by
  refine m2_of [.int x] moJ6_bitCount_0f7a4 (Nat.le_of_ble_eq_true rfl) rfl ?_
  refine wp_iload_n dJ6_bitCount_0f7a4_0 rfl ?_
  refine wp_iload_n dJ6_bitCount_0f7a4_1 rfl ?_
  refine wp_iconst 1 dJ6_bitCount_0f7a4_2 (by decide) ?_
  refine wp_iushr dJ6_bitCount_0f7a4_3 ?_
  refine wp_ldcw dJ6_bitCount_0f7a4_4 kcRJ6_265 ?_
  refine wp_iand dJ6_bitCount_0f7a4_7 ?_
  refine wp_isub dJ6_bitCount_0f7a4_8 ?_
  refine st_i_1_0 dJ6_bitCount_0f7a4_9 (by decide) rfl ?_
  refine wp_iload_n dJ6_bitCount_0f7a4_10 rfl ?_
  refine wp_ldcw dJ6_bitCount_0f7a4_11 kcRJ6_266 ?_
  refine wp_iand dJ6_bitCount_0f7a4_14 ?_
  refine wp_iload_n dJ6_bitCount_0f7a4_15 rfl ?_
  refine wp_iconst 2 dJ6_bitCount_0f7a4_16 (by decide) ?_
  refine wp_iushr dJ6_bitCount_0f7a4_17 ?_
  refine wp_ldcw dJ6_bitCount_0f7a4_18 kcRJ6_266 ?_
  refine wp_iand dJ6_bitCount_0f7a4_21 ?_
  refine wp_iadd dJ6_bitCount_0f7a4_22 ?_
  refine st_i_1_0 dJ6_bitCount_0f7a4_23 (by decide) rfl ?_
  refine wp_iload_n dJ6_bitCount_0f7a4_24 rfl ?_
  refine wp_iload_n dJ6_bitCount_0f7a4_25 rfl ?_
  refine wp_iconst 4 dJ6_bitCount_0f7a4_26 (by decide) ?_
  refine wp_iushr dJ6_bitCount_0f7a4_27 ?_
  refine wp_iadd dJ6_bitCount_0f7a4_28 ?_
  refine wp_ldcw dJ6_bitCount_0f7a4_29 kcRJ6_267 ?_
  refine wp_iand dJ6_bitCount_0f7a4_32 ?_
  refine st_i_1_0 dJ6_bitCount_0f7a4_33 (by decide) rfl ?_
  refine wp_iload_n dJ6_bitCount_0f7a4_34 rfl ?_
  refine wp_iload_n dJ6_bitCount_0f7a4_35 rfl ?_
  refine wp_bipush 8 dJ6_bitCount_0f7a4_36 (by decide) ?_
  refine wp_iushr dJ6_bitCount_0f7a4_38 ?_
  refine wp_iadd dJ6_bitCount_0f7a4_39 ?_
  refine st_i_1_0 dJ6_bitCount_0f7a4_40 (by decide) rfl ?_
  refine wp_iload_n dJ6_bitCount_0f7a4_41 rfl ?_
  refine wp_iload_n dJ6_bitCount_0f7a4_42 rfl ?_
  refine wp_bipush 16 dJ6_bitCount_0f7a4_43 (by decide) ?_
  refine wp_iushr dJ6_bitCount_0f7a4_45 ?_
  refine wp_iadd dJ6_bitCount_0f7a4_46 ?_
  refine st_i_1_0 dJ6_bitCount_0f7a4_47 (by decide) rfl ?_
  refine wp_iload_n dJ6_bitCount_0f7a4_48 rfl ?_
  refine wp_bipush 63 dJ6_bitCount_0f7a4_49 (by decide) ?_
  refine wp_iand dJ6_bitCount_0f7a4_51 ?_
  refine g_iret dJ6_bitCount_0f7a4_52 rfl ?_
  exact k
def lfC (b : Int32) (v : Nat) : Int32 := if bcI (b &&& kin v) < bcI b - bcI (b &&& kin v) then bcI b - bcI (b &&& kin v) else bcI (b &&& kin v)
def akC (b : Int32) : Nat → Int32 × Int32
  | 0 => (0, 6)
  | v + 1 => if (akC b v).2 ≤ lfC b v then akC b v else (nI v, lfC b v)
def askC (b : Int32) : Int32 := if b = 0 then -1 else (akC b 4).1
theorem akC_s {b : Int32} {v : Nat} (h : (akC b v).2 ≤ lfC b v) : akC b (v + 1) = akC b v := if_pos h
theorem akC_n {b : Int32} {v : Nat} (h : ¬ (akC b v).2 ≤ lfC b v) : akC b (v + 1) = (nI v, lfC b v) := if_neg h
set_option maxHeartbeats 4000000 in
theorem l_askFor {I S : Mem} {J : Mel} {Q : Option Value → Mem → Mem → Mel → Prop} {b : Int32} (hb_q : ¬ b = 0) (k : Q (some (.int (askC b))) I S J) : ∀ (v : Nat) (u4 u5 : Value), (v ≤ 4) → W2 mX8_askFor 2 Q I S J 13 [.int b, .int (akC b v).1, .int (akC b v).2, .int (nI v), u4, u5] [] := by
  intro v u4 u5
  induction hm : 4 - v using Nat.strongRecOn generalizing v u4 u5 with
  | _ c ih =>
    intro hv_q
    refine wp_iload_n dX8_askFor_13 rfl ?_
    refine wp_iconst 4 dX8_askFor_14 (by decide) ?_
    refine wp_icmp_ge dX8_askFor_15 (fun h15 => ?_) (fun h15 => ?_)
    · skip
      refine wp_iload_n dX8_askFor_61 rfl ?_
      refine g_iret dX8_askFor_62 rfl ?_
      have e_q : v = 4 := by rw [show (4 : Int32) = nI 4 from rfl, nI_leg (by omega) (by omega)] at h15; omega
      subst e_q
      unfold askC at k
      rw [if_neg hb_q] at k; exact k
    · skip
      have hv4_q : v < 4 := by rw [show (4 : Int32) = nI 4 from rfl, nI_leg (by omega) (by omega)] at h15; omega
      refine wp_iload_n dX8_askFor_18 rfl ?_
      refine wp_gets dX8_askFor_19 fsRX8_22 ?_
      refine wp_iload_n dX8_askFor_22 rfl ?_
      refine wp_kld dX8_askFor_23 rfl hv4_q ?_
      refine wp_iand dX8_askFor_24 ?_
      refine g_callS1 (mj := mJ6_bitCount_0f7a4) dX8_askFor_25 lkRX8_25 mkJ6_bitCount_0f7a4 (by decide) (by decide) (Nat.le_of_ble_eq_true rfl) (c_bitCount ?_)
      refine st_i_6_4 dX8_askFor_28 (by decide) rfl ?_
      refine wp_iload dX8_askFor_30 rfl ?_
      refine wp_iload_n dX8_askFor_32 rfl ?_
      refine g_callS1 (mj := mJ6_bitCount_0f7a4) dX8_askFor_33 lkRX8_25 mkJ6_bitCount_0f7a4 (by decide) (by decide) (Nat.le_of_ble_eq_true rfl) (c_bitCount ?_)
      refine wp_iload dX8_askFor_36 rfl ?_
      refine wp_isub dX8_askFor_38 ?_
      refine wp_mmax dX8_askFor_39 lkRX8_31 (by decide) (by decide) (Nat.le_of_ble_eq_true rfl) ?_
      refine st_i_6_5 dX8_askFor_42 (by decide) rfl ?_
      refine wp_iload dX8_askFor_44 rfl ?_
      refine wp_iload_n dX8_askFor_46 rfl ?_
      refine wp_icmp_ge dX8_askFor_47 (fun h47 => ?_) (fun h47 => ?_)
      · skip
        refine ic_6_3 (nI (v + 1)) dX8_askFor_55 (nI_inc v) (by decide) rfl ?_
        refine wp_goto dX8_askFor_58 ?_
        have t_q := fun u4 u5 => ih _ (by omega) (v + 1) u4 u5 rfl (by omega)
        first | (simp only [akC_s h47] at t_q; exact t_q _ _) | (simp only [akC_n h47] at t_q; exact t_q _ _)
      · skip
        refine wp_iload_n dX8_askFor_50 rfl ?_
        refine st_i_6_1 dX8_askFor_51 (by decide) rfl ?_
        refine wp_iload dX8_askFor_52 rfl ?_
        refine st_i_6_2 dX8_askFor_54 (by decide) rfl ?_
        refine ic_6_3 (nI (v + 1)) dX8_askFor_55 (nI_inc v) (by decide) rfl ?_
        refine wp_goto dX8_askFor_58 ?_
        have t_q := fun u4 u5 => ih _ (by omega) (v + 1) u4 u5 rfl (by omega)
        first | (simp only [akC_s h47] at t_q; exact t_q _ _) | (simp only [akC_n h47] at t_q; exact t_q _ _)
set_option maxHeartbeats 4000000 in
theorem c_askFor {I S : Mem} {J : Mel} {Q : Option Value → Mem → Mem → Mel → Prop} {b : Int32} (k : Q (some (.int (askC b))) I S J) : M2 mX8_askFor 2 [.int b] I S J Q := by
  refine m2_of [.int b, dum, dum, dum, dum, dum] moX8_askFor (Nat.le_of_ble_eq_true rfl) rfl ?_
  refine wp_iload_n dX8_askFor_0 rfl ?_
  refine wp_if_ne dX8_askFor_1 (fun h1 => ?_) (fun h1 => ?_)
  · skip
    refine wp_iconst 0 dX8_askFor_6 (by decide) ?_
    refine st_i_6_1 dX8_askFor_7 (by decide) rfl ?_
    refine wp_bipush 6 dX8_askFor_8 (by decide) ?_
    refine st_i_6_2 dX8_askFor_10 (by decide) rfl ?_
    refine wp_iconst 0 dX8_askFor_11 (by decide) ?_
    refine st_i_6_3 dX8_askFor_12 (by decide) rfl ?_
    exact l_askFor h1 k 0 dum dum (by omega)
  · skip
    refine wp_iconst (-1) dX8_askFor_4 (by decide) ?_
    refine g_iret dX8_askFor_5 rfl ?_
    unfold askC at k
    rw [if_pos h1] at k; exact k
theorem ask_eq : ∀ m : Nat, m < 32 → askC (nI m) = askM (nI m) := by decide +kernel
def adN (m v : Nat) (b : Bool) : Nat := tn (nI m &&& (if b then kin v else 31 ^^^ kin v))
theorem adN_eq : ∀ m : Nat, m < 32 → ∀ v : Nat, v < 4 → ∀ b : Bool, (nI m &&& (if b then kin v else 31 ^^^ kin v)) = nI (adN m v b) ∧ adN m v b < 32 := by decide +kernel
theorem adN_bit : ∀ m : Nat, m < 32 → ∀ v : Nat, v < 4 → ∀ b : Bool, ∀ x : Nat, x < 5 → (adN m v b).testBit x = (m.testBit x && (cou (nI x) v == b01 (b = true))) := by decide +kernel
theorem bits_eq : ∀ m : Nat, m < 32 → (((((0 : Int32) ||| (if m.testBit 0 then (1 : Int32) <<< (nI 0 &&& 31) else 0)) ||| (if m.testBit 1 then (1 : Int32) <<< (nI 1 &&& 31) else 0)) ||| (if m.testBit 2 then (1 : Int32) <<< (nI 2 &&& 31) else 0)) ||| (if m.testBit 3 then (1 : Int32) <<< (nI 3 &&& 31) else 0)) ||| (if m.testBit 4 then (1 : Int32) <<< (nI 4 &&& 31) else 0) = nI m := by decide +kernel
def mNs (S : Mem) (a : Nat) : Nat → Nat
  | 0 => 31
  | c + 1 => if S 140 c = nI a then adN (mNs S a c) (tn (S 141 c)) (S 142 c == 1) else mNs S a c
theorem mNs_lt {n : Nat} {S : Mem} (a s : Nat) (h : ∀ j, j < s → ∃ v, v < 4 ∧ S 141 j = nI v) : mNs S a s < 32 := by
  induction s with
  | zero => show 31 < 32; omega
  | succ s ih =>
    have ih := ih (fun j hj => h j (by omega))
    simp only [mNs]
    split
    · obtain ⟨v, hv, ev⟩ := h s (by omega)
      rw [ev, tn_nI (by omega)]
      exact (adN_eq _ ih v hv _).2
    · exact ih
theorem isM_bit {S : Mem} {a x : Nat} (hx : x < 5) (s : Nat) (h : ∀ j, j < s → (∃ v, v < 4 ∧ S 141 j = nI v)) : isM S a x s = bif (mNs S a s).testBit x then 1 else 0 := by
  induction s with
  | zero =>
    show (1 : Int32) = bif Nat.testBit 31 x then 1 else 0
    rcases (show x = 0 ∨ x = 1 ∨ x = 2 ∨ x = 3 ∨ x = 4 by omega) with rfl | rfl | rfl | rfl | rfl <;> decide
  | succ s ih =>
    have hl := mNs_lt (n := 0) a s (fun j hj => h j (by omega))
    have ih := ih (fun j hj => h j (by omega))
    obtain ⟨v, hv, ev⟩ := h s (by omega)
    have e1 : mNs S a (s + 1) = if S 140 s = nI a then adN (mNs S a s) v (S 142 s == 1) else mNs S a s := by
      simp only [mNs]
      rw [ev, tn_nI (by omega)]
    have e2 : isM S a x (s + 1) = if ¬ isM S a x s = 0 ∧ (¬ S 140 s = nI a ∨ cou (nI x) v = b01 (S 142 s = 1)) then 1 else 0 := by
      simp only [isM]
      rw [ev, tn_nI (by omega)]
    rw [e1, e2, ih]
    cases hb : (mNs S a s).testBit x with
    | true =>
      by_cases hs : S 140 s = nI a
      · rw [if_pos hs, adN_bit _ hl v hv _ x hx, hb, Bool.true_and]
        by_cases hc : cou (nI x) v = b01 (S 142 s = 1)
        · rw [if_pos ⟨by decide, Or.inr hc⟩, hc]
          by_cases h1 : S 142 s = 1
          · rw [h1]; decide
          · rw [b01_f h1, show (S 142 s == 1) = false by simpa using h1]; decide
        · rw [if_neg (fun q => q.2.elim (fun e => e hs) hc)]
          have : (cou (nI x) v == b01 ((S 142 s == 1) = true)) = false := by
            rw [beq_eq_false_iff_ne]
            intro e
            refine hc (e.trans ?_)
            exact b01_iff (by simp)
          rw [this]; rfl
      · rw [if_neg hs, if_pos ⟨by decide, Or.inl hs⟩, hb]; rfl
    | false =>
      rw [if_neg (fun q => q.1 rfl)]
      by_cases hs : S 140 s = nI a
      · rw [if_pos hs, adN_bit _ hl v hv _ x hx, hb]; rfl
      · rw [if_neg hs, hb]; rfl
theorem sb_eq {S : Mem} {a s : Nat} (h : ∀ j, j < s → (∃ v, v < 4 ∧ S 141 j = nI v)) : sbM S a s 5 = nI (mNs S a s) := by
  have hl := mNs_lt (n := 0) a s h
  have hb : ∀ x, x < 5 → (if isM S a x s = 0 then (0 : Int32) else (1 : Int32) <<< (nI x &&& 31)) = (if (mNs S a s).testBit x then (1 : Int32) <<< (nI x &&& 31) else 0) := by
    intro x hx
    rw [isM_bit hx s h]
    cases (mNs S a s).testBit x
    · rfl
    · rw [if_pos rfl]; rfl
  simp only [sbM]
  rw [hb 0 (by omega), hb 1 (by omega), hb 2 (by omega), hb 3 (by omega), hb 4 (by omega)]
  exact bits_eq _ hl
theorem so_eq {I S : Mem} {k i s n : Nat} (hR : RcS I k S) (hs : S 126 19 = nI s) (hs6 : s ≤ 6) (h : ∀ j, j < s → (∃ v, v < 4 ∧ S 141 j = nI v) ∧ (S 142 j = 0 ∨ S 142 j = 1)) : ∀ c, c ≤ s → soC I (k + 5) (nI i) c = nI (mNs S i c) := by
  intro c
  induction c with
  | zero => exact fun _ => rfl
  | succ c ih =>
    intro hc
    obtain ⟨e1, e2⟩ := hR.2 c (by rw [hs, tn_nI (by omega)]; omega)
    obtain ⟨⟨v, hv, ev⟩, hb⟩ := h c (by omega)
    have hl := mNs_lt (n := 0) i c (fun j hj => (h j (by omega)).1)
    simp only [soC, mNs]
    rw [show k + 5 + 1 = k + 6 from rfl, show k + 5 + 2 = k + 7 from rfl, e1, ih (by omega)]
    split
    · rw [e2, ev, tn_nI (by omega), ← (adN_eq _ hl v hv _).1]
      unfold msk
      rw [tn_nI (by omega)]
      rcases hb with hb | hb
      · rw [hb]; rfl
      · rw [hb]; rfl
    · rfl
