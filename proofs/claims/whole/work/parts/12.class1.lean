/-! the shapes of the class's objects -/
def IsBox (b : Nat) : Prop := ShA b = (1, 0) ∧ RA b 0 = some (b + 1) ∧ RA b 1 = some (b + 2) ∧ ShA (b + 1) = (100, 5) ∧ ShA (b + 2) = (100, 5) ∧ b + 2 < 126
def IsActor (a : Nat) : Prop := ShA a = (0, 0) ∧ RA a 0 = some (a + 1) ∧ IsBox (a + 1) ∧ a + 3 < 126
def IsLinks (a : Nat) : Prop := ShA a = (4, 0) ∧ RA a 0 = some (a + 1) ∧ RA a 1 = some (a + 2) ∧ ShA (a + 1) = (100, 6) ∧ ShA (a + 2) = (100, 6) ∧ a + 2 < 126
def IsSeen (a : Nat) : Prop := ShA a = (8, 0) ∧ RA a 0 = some (a + 1) ∧ RA a 1 = some (a + 2) ∧ ShA (a + 1) = (100, 6) ∧ ShA (a + 2) = (100, 6) ∧ a + 2 < 126
def IsPlan (a : Nat) : Prop := ShA a = (6, 0) ∧ (∀ i, i < 6 → RA a i = some (a + 1 + i)) ∧ ShA (a + 1) = (100, 6) ∧ ShA (a + 2) = (100, 6) ∧ ShA (a + 3) = (100, 18) ∧ ShA (a + 4) = (100, 18) ∧ ShA (a + 5) = (100, 18) ∧ IsLinks (a + 6) ∧ a + 8 < 126
def IsCrew (k : Nat) : Prop := ShA k = (2, 0) ∧ RA k 0 = some 15 ∧ RA k 1 = some (k + 1) ∧ ShA (k + 1) = (103, 6) ∧ (∀ i, i < 6 → RA (k + 1) i = some (k + 9 + 4 * i)) ∧ RA k 2 = some (k + 2) ∧ IsLinks (k + 2) ∧ RA k 3 = some (k + 5) ∧ IsSeen (k + 5) ∧ RA k 4 = some (k + 8) ∧ ShA (k + 8) = (100, 128) ∧ (∀ i, i < 6 → IsActor (k + 9 + 4 * i)) ∧ 24 ≤ k ∧ k + 33 ≤ 123
theorem crew24 : IsCrew 24 := ⟨by decide, by decide, by decide, by decide, by decide, by decide, by unfold IsLinks; decide, by decide, by unfold IsSeen; decide, by decide, by decide, by unfold IsActor IsBox; decide, by decide, by decide⟩
theorem crew57 : IsCrew 57 := ⟨by decide, by decide, by decide, by decide, by decide, by decide, by unfold IsLinks; decide, by decide, by unfold IsSeen; decide, by decide, by decide, by unfold IsActor IsBox; decide, by decide, by decide⟩
theorem crew90 : IsCrew 90 := ⟨by decide, by decide, by decide, by decide, by decide, by decide, by unfold IsLinks; decide, by decide, by unfold IsSeen; decide, by decide, by decide, by unfold IsActor IsBox; decide, by decide, by decide⟩
theorem plan6 : IsPlan 6 := by unfold IsPlan IsLinks; decide
theorem plan15 : IsPlan 15 := by unfold IsPlan IsLinks; decide
set_option maxHeartbeats 4000000 in
theorem c_isFull {I S : Mem} {J : Mel} {Q : Option Value → Mem → Mem → Mel → Prop} {b : Nat} (hB : IsBox b) (k : Q (some (.int (b01 (5 ≤ I b 2)))) I S J) : M2 mX1_isFull 1 [.ref b] I S J Q := by
  obtain ⟨s1, s2, s3, s4, s5, s6⟩ := hB
  refine m2_of [.ref b] moX1_isFull (Nat.le_of_ble_eq_true rfl) rfl ?_
  refine wp_aload_n dX1_isFull_0 rfl ?_
  refine c_getI dX1_isFull_1 flRX1_18 (by first | rfl | assumption) (by omega) ?_
  refine wp_iconst 5 dX1_isFull_4 (by decide) ?_
  refine wp_icmp_lt dX1_isFull_5 (fun h5 => ?_) (fun h5 => ?_)
  · skip
    refine wp_iconst 0 dX1_isFull_12 (by decide) ?_
    refine g_zret dX1_isFull_13 rfl (by first | decide | assumption) ?_
    first | (rw [b01_t (by grind)] at k; exact k) | (rw [b01_f (by grind)] at k; exact k)
  · skip
    refine wp_iconst 1 dX1_isFull_8 (by decide) ?_
    refine wp_goto dX1_isFull_9 ?_
    refine g_zret dX1_isFull_13 rfl (by first | decide | assumption) ?_
    first | (rw [b01_t (by grind)] at k; exact k) | (rw [b01_f (by grind)] at k; exact k)
set_option maxHeartbeats 4000000 in
theorem c_add {I S : Mem} {J : Mel} {Q : Option Value → Mem → Mem → Mel → Prop} {b z : Nat} {x y : Int32} (hB : IsBox b) (hz : I b 2 = nI z) (hz5 : z < 5) (k : Q none (uI (uI (uI I (b + 1) z x) (b + 2) z y) b 2 (nI z + 1)) S J) : M2 mX1_add 1 [.ref b, .int x, .int y] I S J Q := by
  obtain ⟨s1, s2, s3, s4, s5, s6⟩ := hB
  refine m2_of [.ref b, .int x, .int y] moX1_add (Nat.le_of_ble_eq_true rfl) rfl ?_
  refine wp_aload_n dX1_add_0 rfl ?_
  refine c_getI dX1_add_1 flRX1_18 (by first | rfl | assumption) (by omega) ?_
  refine wp_iconst 5 dX1_add_4 (by decide) ?_
  refine wp_icmp_ge dX1_add_5 (fun h5 => absurd h5 (by rw [hz]; have : (5 : Int32) = nI 5 := rfl; rw [this, nI_leg (by omega) (by omega)]; omega)) (fun h5 => ?_)
  refine wp_aload_n dX1_add_8 rfl ?_
  refine wp_getA (by first | rfl | assumption) dX1_add_9 flRX1_9 (by first | rfl | assumption) ?_
  refine wp_aload_n dX1_add_12 rfl ?_
  refine c_getI dX1_add_13 flRX1_18 (by first | rfl | assumption) (by omega) ?_
  refine wp_iload_n dX1_add_16 rfl ?_
  refine c_iast dX1_add_17 s4 hz hz5 (by omega) (by decide) ?_
  refine wp_aload_n dX1_add_18 rfl ?_
  refine wp_getA (by first | rfl | assumption) dX1_add_19 flRX1_15 (by first | rfl | assumption) ?_
  refine wp_aload_n dX1_add_22 rfl ?_
  refine c_getI dX1_add_23 flRX1_18 (by first | rfl | assumption) (by omega) ?_
  refine wp_iload_n dX1_add_26 rfl ?_
  refine c_iast dX1_add_27 s5 (by rw [uI_ne (by omega)]; exact hz) hz5 (by omega) (by decide) ?_
  refine wp_aload_n dX1_add_28 rfl ?_
  refine wp_dup dX1_add_29 rfl ?_
  refine c_getI dX1_add_30 flRX1_18 (by first | rfl | assumption) (by omega) ?_
  refine wp_iconst 1 dX1_add_33 (by decide) ?_
  refine wp_iadd dX1_add_34 ?_
  refine c_putI dX1_add_35 flRX1_18 (by first | rfl | assumption) (by omega) ?_
  refine g_vret dX1_add_38 rfl ?_
  rw [uI_ne (show b ≠ b + 2 by omega), uI_ne (show b ≠ b + 1 by omega), hz]; exact k
theorem i32_dec (y : Int32) : y + Int32.ofInt (-1) = y - 1 := by
  rw [Int32.sub_eq_add_neg]
  exact congrArg (y + ·) (by decide)
/-- the first, the last that fits -/
def mtc (f : Nat → Int32) (u : Int32) (j : Nat) : Prop := u = 9 ∨ f j = u
def OldP (f : Nat → Int32) (u : Int32) (z : Nat) (r : Int32) : Prop := (r = -1 ∧ ∀ j, j < z → ¬ mtc f u j) ∨ ∃ p, p < z ∧ r = nI p ∧ mtc f u p ∧ ∀ j, j < p → ¬ mtc f u j
def NewP (f : Nat → Int32) (u : Int32) (z : Nat) (r : Int32) : Prop := (r = -1 ∧ ∀ j, j < z → ¬ mtc f u j) ∨ ∃ p, p < z ∧ r = nI p ∧ mtc f u p ∧ ∀ j, p < j → j < z → ¬ mtc f u j
set_option maxHeartbeats 4000000 in
theorem l_oldest {I S : Mem} {J : Mel} {Q : Option Value → Mem → Mem → Mel → Prop} {b z : Nat} {u : Int32} (hB : IsBox b) (hz : I b 2 = nI z) (hz5 : z ≤ 5) (k : ∀ r, OldP (I (b + 1)) u z r → Q (some (.int r)) I S J) : ∀ (x : Nat), (x ≤ z) → (∀ j, j < x → ¬ mtc (I (b + 1)) u j) → W2 mX1_oldestOf 1 Q I S J 2 [.ref b, .int u, .int (nI x)] [] := by
  intro x
  induction hm : z - x using Nat.strongRecOn generalizing x with
  | _ c ih =>
    intro hx hno
    obtain ⟨s1, s2, s3, s4, s5, s6⟩ := hB
    refine wp_iload_n dX1_oldestOf_2 rfl ?_
    refine wp_aload_n dX1_oldestOf_3 rfl ?_
    refine c_getI dX1_oldestOf_4 flRX1_18 (by first | rfl | assumption) (by omega) ?_
    refine wp_icmp_ge dX1_oldestOf_7 (fun h7 => ?_) (fun h7 => ?_)
    · skip
      refine wp_iconst (-1) dX1_oldestOf_34 (by decide) ?_
      refine g_iret dX1_oldestOf_35 rfl ?_
      exact k _ (Or.inl ⟨rfl, fun j hj => hno j (by rw [hz, nI_leg (by omega) (by omega)] at h7; omega)⟩)
    · skip
      have hxz : x < z := by rw [hz, nI_leg (by omega) (by omega)] at h7; omega
      refine wp_iload_n dX1_oldestOf_10 rfl ?_
      refine wp_bipush 9 dX1_oldestOf_11 (by decide) ?_
      refine wp_icmp_eq dX1_oldestOf_13 (fun h13 => ?_) (fun h13 => ?_)
      · skip
        refine wp_iload_n dX1_oldestOf_26 rfl ?_
        refine g_iret dX1_oldestOf_27 rfl ?_
        exact k _ (Or.inr ⟨x, hxz, rfl, by unfold mtc; grind, hno⟩)
      · skip
        refine wp_aload_n dX1_oldestOf_16 rfl ?_
        refine wp_getA (by first | rfl | assumption) dX1_oldestOf_17 flRX1_9 (by first | rfl | assumption) ?_
        refine wp_iload_n dX1_oldestOf_20 rfl ?_
        refine c_iald dX1_oldestOf_21 s4 rfl (by omega) (by omega) (by decide) ?_
        refine wp_iload_n dX1_oldestOf_22 rfl ?_
        refine wp_icmp_ne dX1_oldestOf_23 (fun h23 => ?_) (fun h23 => ?_)
        · skip
          refine ic_3_2 (nI (x + 1)) dX1_oldestOf_28 (nI_inc x) (by decide) rfl ?_
          refine wp_goto dX1_oldestOf_31 ?_
          refine ih _ (by omega) (x + 1) rfl (by omega) (fun j hj => ?_)
          by_cases hjx : j = x
          · subst hjx; unfold mtc; grind
          · exact hno j (by omega)
        · skip
          refine wp_iload_n dX1_oldestOf_26 rfl ?_
          refine g_iret dX1_oldestOf_27 rfl ?_
          exact k _ (Or.inr ⟨x, hxz, rfl, by unfold mtc; grind, hno⟩)
set_option maxHeartbeats 4000000 in
theorem c_oldest {I S : Mem} {J : Mel} {Q : Option Value → Mem → Mem → Mel → Prop} {b z : Nat} {u : Int32} (hB : IsBox b) (hz : I b 2 = nI z) (hz5 : z ≤ 5) (k : ∀ r, OldP (I (b + 1)) u z r → Q (some (.int r)) I S J) : M2 mX1_oldestOf 1 [.ref b, .int u] I S J Q := by
  refine m2_of [.ref b, .int u, dum] moX1_oldestOf (Nat.le_of_ble_eq_true rfl) rfl ?_
  refine wp_iconst 0 dX1_oldestOf_0 (by decide) ?_
  refine st_i_3_2 dX1_oldestOf_1 (by decide) rfl ?_
  exact l_oldest hB hz hz5 k 0 (by omega) (fun j hj => by omega)
set_option maxHeartbeats 4000000 in
theorem l_newest {I S : Mem} {J : Mel} {Q : Option Value → Mem → Mem → Mel → Prop} {b z : Nat} {u : Int32} (hB : IsBox b) (hz : I b 2 = nI z) (hz5 : z ≤ 5) (k : ∀ r, NewP (I (b + 1)) u z r → Q (some (.int r)) I S J) : ∀ (x : Nat), (x ≤ z) → (∀ j, x ≤ j → j < z → ¬ mtc (I (b + 1)) u j) → W2 mX1_newestOf 1 Q I S J 7 [.ref b, .int u, .int (nI x - 1)] [] := by
  intro x
  induction hm : x using Nat.strongRecOn generalizing x with
  | _ c ih =>
    intro hx hno
    obtain ⟨s1, s2, s3, s4, s5, s6⟩ := hB
    subst hm
    refine wp_iload_n dX1_newestOf_7 rfl ?_
    refine wp_if_lt dX1_newestOf_8 (fun h8 => ?_) (fun h8 => ?_)
    · skip
      refine wp_iconst (-1) dX1_newestOf_35 (by decide) ?_
      refine g_iret dX1_newestOf_36 rfl ?_
      have hx0 : x = 0 := by rcases Nat.eq_zero_or_pos x with e | e; exact e; rw [nI_s1 e] at h8; exact absurd h8 (nI_pos (by omega))
      subst hx0
      exact k _ (Or.inl ⟨rfl, fun j hj => hno j (by omega) hj⟩)
    · skip
      have hx1 : 1 ≤ x := by rcases Nat.eq_zero_or_pos x with e | e; (rw [e, show nI 0 - 1 = (-1 : Int32) from rfl] at h8; exact absurd (by decide) h8); exact e
      rw [nI_s1 hx1] at h8 ⊢
      refine wp_iload_n dX1_newestOf_11 rfl ?_
      refine wp_bipush 9 dX1_newestOf_12 (by decide) ?_
      refine wp_icmp_eq dX1_newestOf_14 (fun h14 => ?_) (fun h14 => ?_)
      · skip
        refine wp_iload_n dX1_newestOf_27 rfl ?_
        refine g_iret dX1_newestOf_28 rfl ?_
        exact k _ (Or.inr ⟨x - 1, by omega, rfl, by unfold mtc; grind, fun j h1 h2 => hno j (by omega) h2⟩)
      · skip
        refine wp_aload_n dX1_newestOf_17 rfl ?_
        refine wp_getA (by first | rfl | assumption) dX1_newestOf_18 flRX1_9 (by first | rfl | assumption) ?_
        refine wp_iload_n dX1_newestOf_21 rfl ?_
        refine c_iald dX1_newestOf_22 s4 rfl (by omega) (by omega) (by decide) ?_
        refine wp_iload_n dX1_newestOf_23 rfl ?_
        refine wp_icmp_ne dX1_newestOf_24 (fun h24 => ?_) (fun h24 => ?_)
        · skip
          refine ic_3_2 (nI (x - 1) - 1) dX1_newestOf_29 (i32_dec _) (by decide) rfl ?_
          refine wp_goto dX1_newestOf_32 ?_
          refine ih (x - 1) (by omega) (x - 1) rfl (by omega) (fun j hj hjz => ?_)
          by_cases hjx : j = x - 1
          · subst hjx; unfold mtc; grind
          · exact hno j (by omega) hjz
        · skip
          refine wp_iload_n dX1_newestOf_27 rfl ?_
          refine g_iret dX1_newestOf_28 rfl ?_
          exact k _ (Or.inr ⟨x - 1, by omega, rfl, by unfold mtc; grind, fun j h1 h2 => hno j (by omega) h2⟩)
set_option maxHeartbeats 4000000 in
theorem c_newest {I S : Mem} {J : Mel} {Q : Option Value → Mem → Mem → Mel → Prop} {b z : Nat} {u : Int32} (hB : IsBox b) (hz : I b 2 = nI z) (hz5 : z ≤ 5) (k : ∀ r, NewP (I (b + 1)) u z r → Q (some (.int r)) I S J) : M2 mX1_newestOf 1 [.ref b, .int u] I S J Q := by
  have hB2 := hB
  obtain ⟨s1, s2, s3, s4, s5, s6⟩ := hB
  refine m2_of [.ref b, .int u, dum] moX1_newestOf (Nat.le_of_ble_eq_true rfl) rfl ?_
  refine wp_aload_n dX1_newestOf_0 rfl ?_
  refine c_getI dX1_newestOf_1 flRX1_18 (by first | rfl | assumption) (by omega) ?_
  refine wp_iconst 1 dX1_newestOf_4 (by decide) ?_
  refine wp_isub dX1_newestOf_5 ?_
  refine st_i_3_2 dX1_newestOf_6 (by decide) rfl ?_
  rw [hz]; exact l_newest hB2 hz hz5 k z (by omega) (fun j h1 h2 => by omega)
def tkC (I : Mem) (b p x : Nat) : Mem := fun c j => if (c = b + 1 ∨ c = b + 2) ∧ p ≤ j ∧ j + 1 < x then I c (j + 1) else I c j
theorem tkC_0 (I : Mem) (b p : Nat) : tkC I b p (p + 1) = I := by
  funext c j
  unfold tkC
  rw [if_neg (by omega)]
theorem tkC_n (I : Mem) (b p x : Nat) {c : Nat} (h : c ≠ b + 1) (h2 : c ≠ b + 2) : tkC I b p x c = I c := by
  funext j
  unfold tkC
  rw [if_neg (by omega)]
theorem tkC_1 (I : Mem) {b p x : Nat} (h : p < x) : uI (uI (tkC I b p x) (b + 1) (x - 1) (tkC I b p x (b + 1) x)) (b + 2) (x - 1) (uI (tkC I b p x) (b + 1) (x - 1) (tkC I b p x (b + 1) x) (b + 2) x) = tkC I b p (x + 1) := by
  funext c j
  simp only [uI_ap, tkC]
  grind
set_option maxHeartbeats 4000000 in
theorem l_btake {I S : Mem} {J : Mel} {Q : Option Value → Mem → Mem → Mel → Prop} {b z p : Nat} (hB : IsBox b) (hz : I b 2 = nI z) (hz5 : z ≤ 5) (k : Q none (uI (tkC I b p z) b 2 (nI z - 1)) S J) : ∀ (x : Nat), (x ≤ z) → (p < x) → W2 mX1_takeOut 1 Q (tkC I b p x) S J 4 [.ref b, .int (nI p), .int (nI x)] [] := by
  intro x
  induction hm : z - x using Nat.strongRecOn generalizing x with
  | _ c ih =>
    intro hx hpx
    obtain ⟨s1, s2, s3, s4, s5, s6⟩ := hB
    have e0 : tkC I b p x b = I b := tkC_n _ _ _ _ (by omega) (by omega)
    refine wp_iload_n dX1_takeOut_4 rfl ?_
    refine wp_aload_n dX1_takeOut_5 rfl ?_
    refine c_getI dX1_takeOut_6 flRX1_18 (by first | rfl | assumption) (by omega) ?_
    refine wp_icmp_ge dX1_takeOut_9 (fun h9 => ?_) (fun h9 => ?_)
    · skip
      refine wp_aload_n dX1_takeOut_46 rfl ?_
      refine wp_dup dX1_takeOut_47 rfl ?_
      refine c_getI dX1_takeOut_48 flRX1_18 (by first | rfl | assumption) (by omega) ?_
      refine wp_iconst 1 dX1_takeOut_51 (by decide) ?_
      refine wp_isub dX1_takeOut_52 ?_
      refine c_putI dX1_takeOut_53 flRX1_18 (by first | rfl | assumption) (by omega) ?_
      refine g_vret dX1_takeOut_56 rfl ?_
      have e : x = z := by rw [e0, hz, nI_leg (by omega) (by omega)] at h9; omega
      subst e
      rw [e0, hz]; exact k
    · skip
      have hxz : x < z := by rw [e0, hz, nI_leg (by omega) (by omega)] at h9; omega
      refine wp_aload_n dX1_takeOut_12 rfl ?_
      refine wp_getA (by first | rfl | assumption) dX1_takeOut_13 flRX1_9 (by first | rfl | assumption) ?_
      refine wp_iload_n dX1_takeOut_16 rfl ?_
      refine wp_iconst 1 dX1_takeOut_17 (by decide) ?_
      refine wp_isub dX1_takeOut_18 ?_
      refine wp_aload_n dX1_takeOut_19 rfl ?_
      refine wp_getA (by first | rfl | assumption) dX1_takeOut_20 flRX1_9 (by first | rfl | assumption) ?_
      refine wp_iload_n dX1_takeOut_23 rfl ?_
      refine c_iald dX1_takeOut_24 s4 rfl (by omega) (by omega) (by decide) ?_
      refine c_iast dX1_takeOut_25 s4 (nI_s1 (by omega)) (by omega) (by omega) (by decide) ?_
      refine wp_aload_n dX1_takeOut_26 rfl ?_
      refine wp_getA (by first | rfl | assumption) dX1_takeOut_27 flRX1_15 (by first | rfl | assumption) ?_
      refine wp_iload_n dX1_takeOut_30 rfl ?_
      refine wp_iconst 1 dX1_takeOut_31 (by decide) ?_
      refine wp_isub dX1_takeOut_32 ?_
      refine wp_aload_n dX1_takeOut_33 rfl ?_
      refine wp_getA (by first | rfl | assumption) dX1_takeOut_34 flRX1_15 (by first | rfl | assumption) ?_
      refine wp_iload_n dX1_takeOut_37 rfl ?_
      refine c_iald dX1_takeOut_38 s5 rfl (by omega) (by omega) (by decide) ?_
      refine c_iast dX1_takeOut_39 s5 (nI_s1 (by omega)) (by omega) (by omega) (by decide) ?_
      rw [tkC_1 I hpx]
      refine ic_3_2 (nI (x + 1)) dX1_takeOut_40 (nI_inc x) (by decide) rfl ?_
      refine wp_goto dX1_takeOut_43 ?_
      exact ih _ (by omega) (x + 1) rfl (by omega) (by omega)
set_option maxHeartbeats 4000000 in
theorem c_btake {I S : Mem} {J : Mel} {Q : Option Value → Mem → Mem → Mel → Prop} {b z p : Nat} (hB : IsBox b) (hz : I b 2 = nI z) (hz5 : z ≤ 5) (hp : p < z) (k : Q none (uI (tkC I b p z) b 2 (nI z - 1)) S J) : M2 mX1_takeOut 1 [.ref b, .int (nI p)] I S J Q := by
  refine m2_of [.ref b, .int (nI p), dum] moX1_takeOut (Nat.le_of_ble_eq_true rfl) rfl ?_
  refine wp_iload_n dX1_takeOut_0 rfl ?_
  refine wp_iconst 1 dX1_takeOut_1 (by decide) ?_
  refine wp_iadd dX1_takeOut_2 ?_
  refine st_i_3_2 dX1_takeOut_3 (by decide) rfl ?_
  have t := l_btake hB hz hz5 k (p + 1) (by omega) (by omega)
  rw [tkC_0, ← nI_1] at t
  exact t
set_option maxHeartbeats 4000000 in
theorem c_rise {I S : Mem} {J : Mel} {Q : Option Value → Mem → Mem → Mel → Prop} {a : Nat} (hA : IsActor a) (k : Q none (uI (uI (uI (uI I a 2 1) a 3 0) a 4 0) (a + 1) 2 0) S J) : M2 mX0_rise 1 [.ref a] I S J Q := by
  obtain ⟨s1, s2, hB, s6⟩ := hA; obtain ⟨b1, b2, b3, b4, b5, b6⟩ := id hB
  refine m2_of [.ref a] moX0_rise (Nat.le_of_ble_eq_true rfl) rfl ?_
  refine wp_aload_n dX0_rise_0 rfl ?_
  refine wp_iconst 1 dX0_rise_1 (by decide) ?_
  refine c_putZ dX0_rise_2 flRX0_38 (by first | rfl | assumption) (by first | decide | assumption) (by omega) ?_
  refine wp_aload_n dX0_rise_5 rfl ?_
  refine wp_iconst 0 dX0_rise_6 (by decide) ?_
  refine c_putI dX0_rise_7 flRX0_42 (by first | rfl | assumption) (by omega) ?_
  refine wp_aload_n dX0_rise_10 rfl ?_
  refine wp_iconst 0 dX0_rise_11 (by decide) ?_
  refine c_putI dX0_rise_12 flRX0_45 (by first | rfl | assumption) (by omega) ?_
  refine wp_aload_n dX0_rise_15 rfl ?_
  refine wp_getA (by first | rfl | assumption) dX0_rise_16 flRX0_12 (by first | rfl | assumption) ?_
  refine wp_iconst 0 dX0_rise_19 (by decide) ?_
  refine c_putI dX0_rise_20 flRX0_48 (by first | rfl | assumption) (by omega) ?_
  refine g_vret dX0_rise_23 rfl ?_
  exact k
set_option maxHeartbeats 4000000 in
theorem c_turnInto {I S : Mem} {J : Mel} {Q : Option Value → Mem → Mem → Mel → Prop} {a : Nat} {x : Int32} (hA : IsActor a) (k : Q none (uI (uI (uI I a 1 x) a 6 (-1000)) a 7 (-1000)) S J) : M2 mX0_turnInto 1 [.ref a, .int x] I S J Q := by
  obtain ⟨s1, s2, hB, s6⟩ := hA; obtain ⟨b1, b2, b3, b4, b5, b6⟩ := id hB
  refine m2_of [.ref a, .int x] moX0_turnInto (Nat.le_of_ble_eq_true rfl) rfl ?_
  refine wp_aload_n dX0_turnInto_0 rfl ?_
  refine wp_iload_n dX0_turnInto_1 rfl ?_
  refine c_putI dX0_turnInto_2 flRX0_29 (by first | rfl | assumption) (by omega) ?_
  refine wp_aload_n dX0_turnInto_5 rfl ?_
  refine wp_sipush (-1000) dX0_turnInto_6 (by decide) ?_
  refine c_putI dX0_turnInto_9 flRX0_32 (by first | rfl | assumption) (by omega) ?_
  refine wp_aload_n dX0_turnInto_12 rfl ?_
  refine wp_sipush (-1000) dX0_turnInto_13 (by decide) ?_
  refine c_putI dX0_turnInto_16 flRX0_35 (by first | rfl | assumption) (by omega) ?_
  refine g_vret dX0_turnInto_19 rfl ?_
  exact k
set_option maxHeartbeats 4000000 in
theorem c_noteRaise {I S : Mem} {J : Mel} {Q : Option Value → Mem → Mem → Mel → Prop} {a : Nat} {x : Int32} (hA : IsActor a) (k : Q none (uI (uI I a 7 (I a 6)) a 6 x) S J) : M2 mX0_noteRaise 1 [.ref a, .int x] I S J Q := by
  obtain ⟨s1, s2, hB, s6⟩ := hA; obtain ⟨b1, b2, b3, b4, b5, b6⟩ := id hB
  refine m2_of [.ref a, .int x] moX0_noteRaise (Nat.le_of_ble_eq_true rfl) rfl ?_
  refine wp_aload_n dX0_noteRaise_0 rfl ?_
  refine wp_aload_n dX0_noteRaise_1 rfl ?_
  refine c_getI dX0_noteRaise_2 flRX0_32 (by first | rfl | assumption) (by omega) ?_
  refine c_putI dX0_noteRaise_5 flRX0_35 (by first | rfl | assumption) (by omega) ?_
  refine wp_aload_n dX0_noteRaise_8 rfl ?_
  refine wp_iload_n dX0_noteRaise_9 rfl ?_
  refine c_putI dX0_noteRaise_10 flRX0_32 (by first | rfl | assumption) (by omega) ?_
  refine g_vret dX0_noteRaise_13 rfl ?_
  exact k
set_option maxHeartbeats 4000000 in
theorem c_mayRaise {I S : Mem} {J : Mel} {Q : Option Value → Mem → Mem → Mel → Prop} {a : Nat} {x : Int32} (hA : IsActor a) (k : Q (some (.int (b01 (b01 (x - I a 6 ≤ 4) + b01 (x - I a 7 ≤ 4) < 2)))) I S J) : M2 mX0_mayRaise 1 [.ref a, .int x] I S J Q := by
  obtain ⟨s1, s2, hB, s6⟩ := hA; obtain ⟨b1, b2, b3, b4, b5, b6⟩ := id hB
  refine m2_of [.ref a, .int x, dum] moX0_mayRaise (Nat.le_of_ble_eq_true rfl) rfl ?_
  refine wp_iconst 0 dX0_mayRaise_0 (by decide) ?_
  refine st_i_3_2 dX0_mayRaise_1 (by decide) rfl ?_
  refine wp_iload_n dX0_mayRaise_2 rfl ?_
  refine wp_aload_n dX0_mayRaise_3 rfl ?_
  refine c_getI dX0_mayRaise_4 flRX0_32 (by first | rfl | assumption) (by omega) ?_
  refine wp_isub dX0_mayRaise_7 ?_
  refine wp_iconst 4 dX0_mayRaise_8 (by decide) ?_
  refine wp_icmp_gt dX0_mayRaise_9 (fun h9 => ?_) (fun h9 => ?_)
  · skip
    refine wp_iload_n dX0_mayRaise_15 rfl ?_
    refine wp_aload_n dX0_mayRaise_16 rfl ?_
    refine c_getI dX0_mayRaise_17 flRX0_35 (by first | rfl | assumption) (by omega) ?_
    refine wp_isub dX0_mayRaise_20 ?_
    refine wp_iconst 4 dX0_mayRaise_21 (by decide) ?_
    refine wp_icmp_gt dX0_mayRaise_22 (fun h22 => ?_) (fun h22 => ?_)
    · skip
      refine wp_iload_n dX0_mayRaise_28 rfl ?_
      refine wp_iconst 2 dX0_mayRaise_29 (by decide) ?_
      refine wp_icmp_ge dX0_mayRaise_30 (fun h30 => absurd h30 (by decide)) (fun h30 => ?_)
      refine wp_iconst 1 dX0_mayRaise_33 (by decide) ?_
      refine wp_goto dX0_mayRaise_34 ?_
      refine g_zret dX0_mayRaise_38 rfl (by first | decide | assumption) ?_
      first | (rw [b01_t (p := x - I a 6 ≤ 4) (by grind)] at k) | (rw [b01_f (p := x - I a 6 ≤ 4) (by grind)] at k)
      first | (rw [b01_t (p := x - I a 7 ≤ 4) (by grind)] at k) | (rw [b01_f (p := x - I a 7 ≤ 4) (by grind)] at k)
      first | exact k | (simp only [show (0 : Int32) + 0 = 0 from rfl, show (1 : Int32) + 0 = 1 from rfl, show (0 : Int32) + 1 = 1 from rfl, show (1 : Int32) + 1 = 2 from rfl] at k; first | (rw [b01_t (by decide)] at k; exact k) | (rw [b01_f (by decide)] at k; exact k))
    · skip
      refine ic_3_2 (1) dX0_mayRaise_25 (by decide) (by decide) rfl ?_
      refine wp_iload_n dX0_mayRaise_28 rfl ?_
      refine wp_iconst 2 dX0_mayRaise_29 (by decide) ?_
      refine wp_icmp_ge dX0_mayRaise_30 (fun h30 => absurd h30 (by decide)) (fun h30 => ?_)
      refine wp_iconst 1 dX0_mayRaise_33 (by decide) ?_
      refine wp_goto dX0_mayRaise_34 ?_
      refine g_zret dX0_mayRaise_38 rfl (by first | decide | assumption) ?_
      first | (rw [b01_t (p := x - I a 6 ≤ 4) (by grind)] at k) | (rw [b01_f (p := x - I a 6 ≤ 4) (by grind)] at k)
      first | (rw [b01_t (p := x - I a 7 ≤ 4) (by grind)] at k) | (rw [b01_f (p := x - I a 7 ≤ 4) (by grind)] at k)
      first | exact k | (simp only [show (0 : Int32) + 0 = 0 from rfl, show (1 : Int32) + 0 = 1 from rfl, show (0 : Int32) + 1 = 1 from rfl, show (1 : Int32) + 1 = 2 from rfl] at k; first | (rw [b01_t (by decide)] at k; exact k) | (rw [b01_f (by decide)] at k; exact k))
  · skip
    refine ic_3_2 (1) dX0_mayRaise_12 (by decide) (by decide) rfl ?_
    refine wp_iload_n dX0_mayRaise_15 rfl ?_
    refine wp_aload_n dX0_mayRaise_16 rfl ?_
    refine c_getI dX0_mayRaise_17 flRX0_35 (by first | rfl | assumption) (by omega) ?_
    refine wp_isub dX0_mayRaise_20 ?_
    refine wp_iconst 4 dX0_mayRaise_21 (by decide) ?_
    refine wp_icmp_gt dX0_mayRaise_22 (fun h22 => ?_) (fun h22 => ?_)
    · skip
      refine wp_iload_n dX0_mayRaise_28 rfl ?_
      refine wp_iconst 2 dX0_mayRaise_29 (by decide) ?_
      refine wp_icmp_ge dX0_mayRaise_30 (fun h30 => absurd h30 (by decide)) (fun h30 => ?_)
      refine wp_iconst 1 dX0_mayRaise_33 (by decide) ?_
      refine wp_goto dX0_mayRaise_34 ?_
      refine g_zret dX0_mayRaise_38 rfl (by first | decide | assumption) ?_
      first | (rw [b01_t (p := x - I a 6 ≤ 4) (by grind)] at k) | (rw [b01_f (p := x - I a 6 ≤ 4) (by grind)] at k)
      first | (rw [b01_t (p := x - I a 7 ≤ 4) (by grind)] at k) | (rw [b01_f (p := x - I a 7 ≤ 4) (by grind)] at k)
      first | exact k | (simp only [show (0 : Int32) + 0 = 0 from rfl, show (1 : Int32) + 0 = 1 from rfl, show (0 : Int32) + 1 = 1 from rfl, show (1 : Int32) + 1 = 2 from rfl] at k; first | (rw [b01_t (by decide)] at k; exact k) | (rw [b01_f (by decide)] at k; exact k))
    · skip
      refine ic_3_2 (2) dX0_mayRaise_25 (by decide) (by decide) rfl ?_
      refine wp_iload_n dX0_mayRaise_28 rfl ?_
      refine wp_iconst 2 dX0_mayRaise_29 (by decide) ?_
      refine wp_icmp_ge dX0_mayRaise_30 (fun h30 => ?_) (fun h30 => absurd h30 (by decide))
      refine wp_iconst 0 dX0_mayRaise_37 (by decide) ?_
      refine g_zret dX0_mayRaise_38 rfl (by first | decide | assumption) ?_
      first | (rw [b01_t (p := x - I a 6 ≤ 4) (by grind)] at k) | (rw [b01_f (p := x - I a 6 ≤ 4) (by grind)] at k)
      first | (rw [b01_t (p := x - I a 7 ≤ 4) (by grind)] at k) | (rw [b01_f (p := x - I a 7 ≤ 4) (by grind)] at k)
      first | exact k | (simp only [show (0 : Int32) + 0 = 0 from rfl, show (1 : Int32) + 0 = 1 from rfl, show (0 : Int32) + 1 = 1 from rfl, show (1 : Int32) + 1 = 2 from rfl] at k; first | (rw [b01_t (by decide)] at k; exact k) | (rw [b01_f (by decide)] at k; exact k))
set_option maxHeartbeats 4000000 in
theorem c_place {I S : Mem} {J : Mel} {Q : Option Value → Mem → Mem → Mel → Prop} {a z : Nat} {u : Int32} (hA : IsActor a) (hz : I (a + 1) 2 = nI z) (hz5 : z ≤ 5) (k : ∀ r, (I a 1 = 3 ∧ r = -1) ∨ (¬ I a 1 = 3 ∧ I a 1 = 4 ∧ NewP (I (a + 2)) u z r) ∨ (¬ I a 1 = 3 ∧ ¬ I a 1 = 4 ∧ OldP (I (a + 2)) u z r) → Q (some (.int r)) I S J) : M2 mX0_placeToTake 2 [.ref a, .int u] I S J Q := by
  obtain ⟨s1, s2, hB, s6⟩ := hA; obtain ⟨b1, b2, b3, b4, b5, b6⟩ := id hB
  refine m2_of [.ref a, .int u] moX0_placeToTake (Nat.le_of_ble_eq_true rfl) rfl ?_
  refine wp_aload_n dX0_placeToTake_0 rfl ?_
  refine c_getI dX0_placeToTake_1 flRX0_29 (by first | rfl | assumption) (by omega) ?_
  refine wp_iconst 3 dX0_placeToTake_4 (by decide) ?_
  refine wp_icmp_ne dX0_placeToTake_5 (fun h5 => ?_) (fun h5 => ?_)
  · skip
    refine wp_aload_n dX0_placeToTake_10 rfl ?_
    refine c_getI dX0_placeToTake_11 flRX0_29 (by first | rfl | assumption) (by omega) ?_
    refine wp_iconst 4 dX0_placeToTake_14 (by decide) ?_
    refine wp_icmp_ne dX0_placeToTake_15 (fun h15 => ?_) (fun h15 => ?_)
    · skip
      refine wp_aload_n dX0_placeToTake_29 rfl ?_
      refine wp_getA (by first | rfl | assumption) dX0_placeToTake_30 flRX0_12 (by first | rfl | assumption) ?_
      refine wp_iload_n dX0_placeToTake_33 rfl ?_
      refine g_callV1 (mj := mX1_oldestOf) dX0_placeToTake_34 lkRX0_55 mkX1_oldestOf (by first | rfl | assumption) (by decide) (by decide) (Nat.le_of_ble_eq_true rfl) (c_oldest hB hz hz5 (fun r hr => ?_))
      refine g_iret dX0_placeToTake_37 rfl ?_
      first | exact k _ (Or.inl ⟨h5, rfl⟩) | exact k _ (Or.inr (Or.inl ⟨h5, h15, hr⟩)) | exact k _ (Or.inr (Or.inr ⟨h5, h15, hr⟩))
    · skip
      refine wp_aload_n dX0_placeToTake_18 rfl ?_
      refine wp_getA (by first | rfl | assumption) dX0_placeToTake_19 flRX0_12 (by first | rfl | assumption) ?_
      refine wp_iload_n dX0_placeToTake_22 rfl ?_
      refine g_callV1 (mj := mX1_newestOf) dX0_placeToTake_23 lkRX0_51 mkX1_newestOf (by first | rfl | assumption) (by decide) (by decide) (Nat.le_of_ble_eq_true rfl) (c_newest hB hz hz5 (fun r hr => ?_))
      refine wp_goto dX0_placeToTake_26 ?_
      refine g_iret dX0_placeToTake_37 rfl ?_
      first | exact k _ (Or.inl ⟨h5, rfl⟩) | exact k _ (Or.inr (Or.inl ⟨h5, h15, hr⟩)) | exact k _ (Or.inr (Or.inr ⟨h5, h15, hr⟩))
  · skip
    refine wp_iconst (-1) dX0_placeToTake_8 (by decide) ?_
    refine g_iret dX0_placeToTake_9 rfl ?_
    first | exact k _ (Or.inl ⟨h5, rfl⟩) | exact k _ (Or.inr (Or.inl ⟨h5, h15, hr⟩)) | exact k _ (Or.inr (Or.inr ⟨h5, h15, hr⟩))
set_option maxHeartbeats 4000000 in
theorem c_partner {I S : Mem} {J : Mel} {Q : Option Value → Mem → Mem → Mel → Prop} {a x : Nat} {y : Int32} (hL : IsLinks a) (hx : x < 6) (k : Q (some (.int (if I (a + 1) x = y then I (a + 2) x else if I (a + 2) x = y then I (a + 1) x else -1))) I S J) : M2 mX4_partnerOf 1 [.ref a, .int (nI x), .int y] I S J Q := by
  obtain ⟨s1, s2, s3, s4, s5, s6⟩ := hL
  refine m2_of [.ref a, .int (nI x), .int y] moX4_partnerOf (Nat.le_of_ble_eq_true rfl) rfl ?_
  refine wp_aload_n dX4_partnerOf_0 rfl ?_
  refine wp_getA (by first | rfl | assumption) dX4_partnerOf_1 flRX4_9 (by first | rfl | assumption) ?_
  refine wp_iload_n dX4_partnerOf_4 rfl ?_
  refine c_iald dX4_partnerOf_5 (by first | rfl | assumption) (by first | rfl | assumption) (by first | decide | omega | assumption) (by omega) (by decide) ?_
  refine wp_iload_n dX4_partnerOf_6 rfl ?_
  refine wp_icmp_ne dX4_partnerOf_7 (fun h7 => ?_) (fun h7 => ?_)
  · skip
    refine wp_aload_n dX4_partnerOf_17 rfl ?_
    refine wp_getA (by first | rfl | assumption) dX4_partnerOf_18 flRX4_15 (by first | rfl | assumption) ?_
    refine wp_iload_n dX4_partnerOf_21 rfl ?_
    refine c_iald dX4_partnerOf_22 (by first | rfl | assumption) (by first | rfl | assumption) (by first | decide | omega | assumption) (by omega) (by decide) ?_
    refine wp_iload_n dX4_partnerOf_23 rfl ?_
    refine wp_icmp_ne dX4_partnerOf_24 (fun h24 => ?_) (fun h24 => ?_)
    · skip
      refine wp_iconst (-1) dX4_partnerOf_36 (by decide) ?_
      refine g_iret dX4_partnerOf_37 rfl ?_
      first | (rw [if_pos (by grind)] at k; exact k) | (rw [if_neg (by grind), if_pos (by grind)] at k; exact k) | (rw [if_neg (by grind), if_neg (by grind)] at k; exact k)
    · skip
      refine wp_aload_n dX4_partnerOf_27 rfl ?_
      refine wp_getA (by first | rfl | assumption) dX4_partnerOf_28 flRX4_9 (by first | rfl | assumption) ?_
      refine wp_iload_n dX4_partnerOf_31 rfl ?_
      refine c_iald dX4_partnerOf_32 (by first | rfl | assumption) (by first | rfl | assumption) (by first | decide | omega | assumption) (by omega) (by decide) ?_
      refine wp_goto dX4_partnerOf_33 ?_
      refine g_iret dX4_partnerOf_37 rfl ?_
      first | (rw [if_pos (by grind)] at k; exact k) | (rw [if_neg (by grind), if_pos (by grind)] at k; exact k) | (rw [if_neg (by grind), if_neg (by grind)] at k; exact k)
  · skip
    refine wp_aload_n dX4_partnerOf_10 rfl ?_
    refine wp_getA (by first | rfl | assumption) dX4_partnerOf_11 flRX4_15 (by first | rfl | assumption) ?_
    refine wp_iload_n dX4_partnerOf_14 rfl ?_
    refine c_iald dX4_partnerOf_15 (by first | rfl | assumption) (by first | rfl | assumption) (by first | decide | omega | assumption) (by omega) (by decide) ?_
    refine g_iret dX4_partnerOf_16 rfl ?_
    first | (rw [if_pos (by grind)] at k; exact k) | (rw [if_neg (by grind), if_pos (by grind)] at k; exact k) | (rw [if_neg (by grind), if_neg (by grind)] at k; exact k)
set_option maxHeartbeats 4000000 in
theorem c_placeOf {I S : Mem} {J : Mel} {Q : Option Value → Mem → Mem → Mel → Prop} {a x y : Nat} (k : Q (some (.int (nI (3 * x + y)))) I S J) : M2 mX6_placeOf 1 [.ref a, .int (nI x), .int (nI y)] I S J Q := by
  refine m2_of [.ref a, .int (nI x), .int (nI y)] moX6_placeOf (Nat.le_of_ble_eq_true rfl) rfl ?_
  refine wp_iload_n dX6_placeOf_0 rfl ?_
  refine wp_iconst 3 dX6_placeOf_1 (by decide) ?_
  refine wp_imul dX6_placeOf_2 ?_
  refine wp_iload_n dX6_placeOf_3 rfl ?_
  refine wp_iadd dX6_placeOf_4 ?_
  refine g_iret dX6_placeOf_5 rfl ?_
  have e : nI x * 3 + nI y = nI (3 * x + y) := by rw [show (3 : Int32) = nI 3 from rfl, nI_mul, nI_add, Nat.mul_comm]
  rw [e]; exact k
