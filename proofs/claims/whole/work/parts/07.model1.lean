def b01 (p : Prop) [Decidable p] : Int32 := if p then 1 else 0
theorem b01_t {p : Prop} [Decidable p] (h : p) : b01 p = 1 := if_pos h
theorem b01_f {p : Prop} [Decidable p] (h : ¬ p) : b01 p = 0 := if_neg h
theorem b01_b (p : Prop) [Decidable p] : b01 p = 0 ∨ b01 p = 1 := by unfold b01; split <;> simp
def tn (x : Int32) : Nat := x.toNatClampNeg
theorem tn_nI {b : Nat} (h : b < 2 ^ 31) : tn (nI b) = b := nI_clamp h
theorem nI_mul (a b : Nat) : nI a * nI b = nI (a * b) := by unfold nI; exact (Int32.ofNat_mul a b).symm
theorem nI_inc (x : Nat) : nI x + Int32.ofInt 1 = nI (x + 1) := nI_1 x
theorem nI_mad (c a b : Nat) : nI c * nI a + nI b = nI (c * a + b) := by rw [nI_mul, nI_add]
theorem nI_mads (c a b : Nat) (h : 1 ≤ c * a + b) : nI c * nI a + nI b - 1 = nI (c * a + b - 1) := by
  rw [nI_mad]
  have := nI_pred (c * a + b - 1)
  rwa [show c * a + b - 1 + 1 = c * a + b by omega] at this
theorem nI_s1 {b : Nat} (h : 1 ≤ b) : nI b - 1 = nI (b - 1) := by
  have := nI_pred (b - 1)
  rwa [show b - 1 + 1 = b by omega] at this
theorem nI_leg {a b : Nat} (ha : a < 1000000) (hb : b < 1000000) : nI a ≤ nI b ↔ a ≤ b := nI_leI (by omega) (by omega)
theorem nI_ltg {a b : Nat} (ha : a < 1000000) (hb : b < 1000000) : nI a < nI b ↔ a < b := nI_ltI (by omega) (by omega)
theorem nI_eqg {a b : Nat} (ha : a < 1000000) (hb : b < 1000000) : nI a = nI b ↔ a = b := nI_eq (by omega) (by omega)
theorem uI_self (S : Mem) (a j : Nat) (x : Int32) : uI S a j x a j = x := by simp [uI]
theorem uI_ap (S : Mem) (a j b k : Nat) (x : Int32) : uI S a j x b k = if b = a ∧ k = j then x else S b k := by
  unfold uI
  by_cases h1 : b = a <;> by_cases h2 : k = j <;> simp [h1, h2]
set_option maxHeartbeats 4000000 in
theorem c_within {I S : Mem} {J : Mel} {Q : Option Value → Mem → Mem → Mel → Prop} {v a b : Int32} (k : Q (some (.int (b01 (a ≤ v ∧ v ≤ b)))) I S J) : M2 mX11_within 1 [.int v, .int a, .int b] I S J Q := by
  refine m2_of [.int v, .int a, .int b] moX11_within (Nat.le_of_ble_eq_true rfl) rfl ?_
  refine wp_iload_n dX11_within_0 rfl ?_
  refine wp_iload_n dX11_within_1 rfl ?_
  refine wp_icmp_lt dX11_within_2 (fun h2 => ?_) (fun h2 => ?_)
  · skip
    refine wp_iconst 0 dX11_within_14 (by decide) ?_
    refine g_zret dX11_within_15 rfl (by first | decide | assumption) ?_
    first | (rw [b01_t (by grind)] at k; exact k) | (rw [b01_f (by grind)] at k; exact k)
  · skip
    refine wp_iload_n dX11_within_5 rfl ?_
    refine wp_iload_n dX11_within_6 rfl ?_
    refine wp_icmp_gt dX11_within_7 (fun h7 => ?_) (fun h7 => ?_)
    · skip
      refine wp_iconst 0 dX11_within_14 (by decide) ?_
      refine g_zret dX11_within_15 rfl (by first | decide | assumption) ?_
      first | (rw [b01_t (by grind)] at k; exact k) | (rw [b01_f (by grind)] at k; exact k)
    · skip
      refine wp_iconst 1 dX11_within_10 (by decide) ?_
      refine wp_goto dX11_within_11 ?_
      refine g_zret dX11_within_15 rfl (by first | decide | assumption) ?_
      first | (rw [b01_t (by grind)] at k; exact k) | (rw [b01_f (by grind)] at k; exact k)
set_option maxHeartbeats 4000000 in
theorem c_begin {I S : Mem} {J : Mel} {Q : Option Value → Mem → Mem → Mel → Prop} {a : Nat} (ha : a < 6) (k : Q none I (uI (uI (uI (uI S 130 a 1) 131 a 0) 132 a 0) 133 a 0) J) : M2 mX11_begin 1 [.ref 126, .int (nI a)] I S J Q := by
  refine m2_of [.ref 126, .int (nI a)] moX11_begin (Nat.le_of_ble_eq_true rfl) rfl ?_
  refine wp_aload_n dX11_begin_0 rfl ?_
  refine wp_getA (by first | rfl | assumption) dX11_begin_1 flRX11_19 (by first | rfl | assumption) ?_
  refine wp_iload_n dX11_begin_4 rfl ?_
  refine wp_iconst 1 dX11_begin_5 (by decide) ?_
  refine m_iast dX11_begin_6 (by first | rfl | assumption) (by first | rfl | assumption) (by first | decide | omega | assumption) (by decide) (by decide) ?_
  refine wp_aload_n dX11_begin_7 rfl ?_
  refine wp_getA (by first | rfl | assumption) dX11_begin_8 flRX11_22 (by first | rfl | assumption) ?_
  refine wp_iload_n dX11_begin_11 rfl ?_
  refine wp_iconst 0 dX11_begin_12 (by decide) ?_
  refine m_iast dX11_begin_13 (by first | rfl | assumption) (by first | rfl | assumption) (by first | decide | omega | assumption) (by decide) (by decide) ?_
  refine wp_aload_n dX11_begin_14 rfl ?_
  refine wp_getA (by first | rfl | assumption) dX11_begin_15 flRX11_25 (by first | rfl | assumption) ?_
  refine wp_iload_n dX11_begin_18 rfl ?_
  refine wp_iconst 0 dX11_begin_19 (by decide) ?_
  refine m_iast dX11_begin_20 (by first | rfl | assumption) (by first | rfl | assumption) (by first | decide | omega | assumption) (by decide) (by decide) ?_
  refine wp_aload_n dX11_begin_21 rfl ?_
  refine wp_getA (by first | rfl | assumption) dX11_begin_22 flRX11_28 (by first | rfl | assumption) ?_
  refine wp_iload_n dX11_begin_25 rfl ?_
  refine wp_iconst 0 dX11_begin_26 (by decide) ?_
  refine m_iast dX11_begin_27 (by first | rfl | assumption) (by first | rfl | assumption) (by first | decide | omega | assumption) (by decide) (by decide) ?_
  refine g_vret dX11_begin_28 rfl ?_
  exact k
def fBegin (S : Mem) (a : Nat) : Mem := uI (uI (uI (uI S 130 a 1) 131 a 0) 132 a 0) 133 a 0
def fPost (S : Mem) (t : Nat) (x y : Int32) : Mem := if S 130 t = 0 ∨ S 133 t = 5 then uI S 126 17 (S 126 17 + 1) else uI (uI (uI S 134 (5 * t + tn (S 133 t)) x) 135 (5 * t + tn (S 133 t)) y) 133 t (S 133 t + 1)
set_option maxHeartbeats 4000000 in
theorem c_post {I S : Mem} {J : Mel} {Q : Option Value → Mem → Mem → Mel → Prop} {t b : Nat} {x y : Int32} (ht : t < 6) (hb : S 133 t = nI b) (hb5 : b ≤ 5) (k : Q none I (fPost S t x y) J) : M2 mX11_post 1 [.ref 126, .int (nI t), .int x, .int y] I S J Q := by
  refine m2_of [.ref 126, .int (nI t), .int x, .int y] moX11_post (Nat.le_of_ble_eq_true rfl) rfl ?_
  refine wp_aload_n dX11_post_0 rfl ?_
  refine wp_getA (by first | rfl | assumption) dX11_post_1 flRX11_19 (by first | rfl | assumption) ?_
  refine wp_iload_n dX11_post_4 rfl ?_
  refine m_iald dX11_post_5 (by first | rfl | assumption) (by first | rfl | assumption) (by first | decide | omega | assumption) (by decide) (by decide) ?_
  refine wp_if_eq dX11_post_6 (fun h6 => ?_) (fun h6 => ?_)
  · skip
    refine wp_aload_n dX11_post_19 rfl ?_
    refine wp_dup dX11_post_20 rfl ?_
    refine m_getI dX11_post_21 flRX11_227 (by first | rfl | assumption) (by decide) ?_
    refine wp_iconst 1 dX11_post_24 (by decide) ?_
    refine wp_iadd dX11_post_25 ?_
    refine m_putI dX11_post_26 flRX11_227 (by first | rfl | assumption) (by decide) ?_
    refine g_vret dX11_post_29 rfl ?_
    unfold fPost at k; rw [if_pos (by first | exact Or.inl h6 | exact Or.inr h16)] at k; exact k
  · skip
    refine wp_aload_n dX11_post_9 rfl ?_
    refine wp_getA (by first | rfl | assumption) dX11_post_10 flRX11_28 (by first | rfl | assumption) ?_
    refine wp_iload_n dX11_post_13 rfl ?_
    refine m_iald dX11_post_14 (by first | rfl | assumption) (by first | rfl | assumption) (by first | decide | omega | assumption) (by decide) (by decide) ?_
    refine wp_iconst 5 dX11_post_15 (by decide) ?_
    refine wp_icmp_ne dX11_post_16 (fun h16 => ?_) (fun h16 => ?_)
    · skip
      refine wp_aload_n dX11_post_30 rfl ?_
      refine wp_getA (by first | rfl | assumption) dX11_post_31 flRX11_31 (by first | rfl | assumption) ?_
      refine wp_iconst 5 dX11_post_34 (by decide) ?_
      refine wp_iload_n dX11_post_35 rfl ?_
      refine wp_imul dX11_post_36 ?_
      refine wp_aload_n dX11_post_37 rfl ?_
      refine wp_getA (by first | rfl | assumption) dX11_post_38 flRX11_28 (by first | rfl | assumption) ?_
      refine wp_iload_n dX11_post_41 rfl ?_
      refine m_iald dX11_post_42 (by first | rfl | assumption) (by first | rfl | assumption) (by first | decide | omega | assumption) (by decide) (by decide) ?_
      refine wp_iadd dX11_post_43 ?_
      refine wp_iload_n dX11_post_44 rfl ?_
      refine m_iast dX11_post_45 rfl (by first | (rw [hb]; exact nI_mad 5 t b) | (show nI 5 * nI t + uI _ _ _ _ _ _ = _; rw [uI_ne (by decide), hb]; exact nI_mad 5 t b)) (by have := h16; rw [hb] at this; have : b ≠ 5 := fun e => this (by rw [e]; rfl); omega) (by decide) (by decide) ?_
      refine wp_aload_n dX11_post_46 rfl ?_
      refine wp_getA (by first | rfl | assumption) dX11_post_47 flRX11_34 (by first | rfl | assumption) ?_
      refine wp_iconst 5 dX11_post_50 (by decide) ?_
      refine wp_iload_n dX11_post_51 rfl ?_
      refine wp_imul dX11_post_52 ?_
      refine wp_aload_n dX11_post_53 rfl ?_
      refine wp_getA (by first | rfl | assumption) dX11_post_54 flRX11_28 (by first | rfl | assumption) ?_
      refine wp_iload_n dX11_post_57 rfl ?_
      refine m_iald dX11_post_58 (by first | rfl | assumption) (by first | rfl | assumption) (by first | decide | omega | assumption) (by decide) (by decide) ?_
      refine wp_iadd dX11_post_59 ?_
      refine wp_iload_n dX11_post_60 rfl ?_
      refine m_iast dX11_post_61 rfl (by first | (rw [hb]; exact nI_mad 5 t b) | (show nI 5 * nI t + uI _ _ _ _ _ _ = _; rw [uI_ne (by decide), hb]; exact nI_mad 5 t b)) (by have := h16; rw [hb] at this; have : b ≠ 5 := fun e => this (by rw [e]; rfl); omega) (by decide) (by decide) ?_
      refine wp_aload_n dX11_post_62 rfl ?_
      refine wp_getA (by first | rfl | assumption) dX11_post_63 flRX11_28 (by first | rfl | assumption) ?_
      refine wp_iload_n dX11_post_66 rfl ?_
      refine wp_dup2 dX11_post_67 rfl rfl ?_
      refine m_iald dX11_post_68 (by first | rfl | assumption) (by first | rfl | assumption) (by first | decide | omega | assumption) (by decide) (by decide) ?_
      refine wp_iconst 1 dX11_post_69 (by decide) ?_
      refine wp_iadd dX11_post_70 ?_
      refine m_iast dX11_post_71 (by first | rfl | assumption) (by first | rfl | assumption) (by first | decide | omega | assumption) (by decide) (by decide) ?_
      refine g_vret dX11_post_72 rfl ?_
      unfold fPost at k; rw [if_neg (by rintro (h | h); exact h6 h; exact h16 h), hb, tn_nI (by omega)] at k; rw [← hb] at k; simpa only [uI_ne (show 133 ≠ 135 by decide), uI_ne (show 133 ≠ 134 by decide)] using k
    · skip
      refine wp_aload_n dX11_post_19 rfl ?_
      refine wp_dup dX11_post_20 rfl ?_
      refine m_getI dX11_post_21 flRX11_227 (by first | rfl | assumption) (by decide) ?_
      refine wp_iconst 1 dX11_post_24 (by decide) ?_
      refine wp_iadd dX11_post_25 ?_
      refine m_putI dX11_post_26 flRX11_227 (by first | rfl | assumption) (by decide) ?_
      refine g_vret dX11_post_29 rfl ?_
      unfold fPost at k; rw [if_pos (by first | exact Or.inl h6 | exact Or.inr h16)] at k; exact k
def tkS (S : Mem) (a p x : Nat) : Mem := fun b j => if (b = 134 ∨ b = 135) ∧ 5 * a + p ≤ j ∧ j + 1 < 5 * a + x then S b (j + 1) else S b j
def fTake (S : Mem) (a p : Nat) : Mem := uI (tkS S a p (tn (S 133 a))) 133 a (S 133 a - 1)
theorem tkS_0 (S : Mem) (a p : Nat) : tkS S a p (p + 1) = S := by
  funext b j
  unfold tkS
  rw [if_neg (by omega)]
theorem tkS_n (S : Mem) (a p x : Nat) {b : Nat} (h : b ≠ 134) (h2 : b ≠ 135) : tkS S a p x b = S b := by
  funext j
  unfold tkS
  rw [if_neg (by omega)]
theorem tkS_1 (S : Mem) {a p x : Nat} (h : p < x) : uI (uI (tkS S a p x) 134 (5 * a + x - 1) (tkS S a p x 134 (5 * a + x))) 135 (5 * a + x - 1) (uI (tkS S a p x) 134 (5 * a + x - 1) (tkS S a p x 134 (5 * a + x)) 135 (5 * a + x)) = tkS S a p (x + 1) := by
  funext b j
  simp only [uI_ap, tkS]
  grind
set_option maxHeartbeats 4000000 in
theorem l_takeOut {I S : Mem} {J : Mel} {Q : Option Value → Mem → Mem → Mel → Prop} {a b p : Nat} (ha : a < 6) (hb : S 133 a = nI b) (hb5 : b ≤ 5) (k : Q none I (fTake S a p) J) : ∀ (x : Nat), (x ≤ b) → (p < x) → W2 mX11_takeOut 1 Q I (tkS S a p x) J 4 [.ref 126, .int (nI a), .int (nI p), .int (nI x)] [] := by
  intro x
  induction hm : b - x using Nat.strongRecOn generalizing x with
  | _ c ih =>
    intro hx hpx
    refine wp_iload_n dX11_takeOut_4 rfl ?_
    refine wp_aload_n dX11_takeOut_5 rfl ?_
    refine wp_getA (by first | rfl | assumption) dX11_takeOut_6 flRX11_28 (by first | rfl | assumption) ?_
    refine wp_iload_n dX11_takeOut_9 rfl ?_
    refine m_iald dX11_takeOut_10 rfl rfl ha (by decide) (by decide) ?_
    refine wp_icmp_ge dX11_takeOut_11 (fun h11 => ?_) (fun h11 => ?_)
    · skip
      refine wp_aload_n dX11_takeOut_64 rfl ?_
      refine wp_getA (by first | rfl | assumption) dX11_takeOut_65 flRX11_28 (by first | rfl | assumption) ?_
      refine wp_iload_n dX11_takeOut_68 rfl ?_
      refine wp_dup2 dX11_takeOut_69 rfl rfl ?_
      refine m_iald dX11_takeOut_70 (by first | rfl | assumption) (by first | rfl | assumption) (by first | decide | omega | assumption) (by decide) (by decide) ?_
      refine wp_iconst 1 dX11_takeOut_71 (by decide) ?_
      refine wp_isub dX11_takeOut_72 ?_
      refine m_iast dX11_takeOut_73 (by first | rfl | assumption) (by first | rfl | assumption) (by first | decide | omega | assumption) (by decide) (by decide) ?_
      refine g_vret dX11_takeOut_74 rfl ?_
      unfold fTake at k
      rw [hb, tn_nI (by omega)] at k
      rw [tkS_n _ _ _ _ (by decide) (by decide)] at h11
      have e : x = b := by rw [hb, nI_leg (by omega) (by omega)] at h11; omega
      subst e
      rw [tkS_n _ _ _ _ (by decide) (by decide), hb]
      exact k
    · skip
      have hxb : x < b := by rw [tkS_n _ _ _ _ (by decide) (by decide), hb, nI_leg (by omega) (by omega)] at h11; omega
      refine wp_aload_n dX11_takeOut_14 rfl ?_
      refine wp_getA (by first | rfl | assumption) dX11_takeOut_15 flRX11_31 (by first | rfl | assumption) ?_
      refine wp_iconst 5 dX11_takeOut_18 (by decide) ?_
      refine wp_iload_n dX11_takeOut_19 rfl ?_
      refine wp_imul dX11_takeOut_20 ?_
      refine wp_iload_n dX11_takeOut_21 rfl ?_
      refine wp_iadd dX11_takeOut_22 ?_
      refine wp_iconst 1 dX11_takeOut_23 (by decide) ?_
      refine wp_isub dX11_takeOut_24 ?_
      refine wp_aload_n dX11_takeOut_25 rfl ?_
      refine wp_getA (by first | rfl | assumption) dX11_takeOut_26 flRX11_31 (by first | rfl | assumption) ?_
      refine wp_iconst 5 dX11_takeOut_29 (by decide) ?_
      refine wp_iload_n dX11_takeOut_30 rfl ?_
      refine wp_imul dX11_takeOut_31 ?_
      refine wp_iload_n dX11_takeOut_32 rfl ?_
      refine wp_iadd dX11_takeOut_33 ?_
      refine m_iald dX11_takeOut_34 rfl (nI_mad 5 a x) (by omega) (by decide) (by decide) ?_
      refine m_iast dX11_takeOut_35 rfl (nI_mads 5 a x (by omega)) (by omega) (by decide) (by decide) ?_
      refine wp_aload_n dX11_takeOut_36 rfl ?_
      refine wp_getA (by first | rfl | assumption) dX11_takeOut_37 flRX11_34 (by first | rfl | assumption) ?_
      refine wp_iconst 5 dX11_takeOut_40 (by decide) ?_
      refine wp_iload_n dX11_takeOut_41 rfl ?_
      refine wp_imul dX11_takeOut_42 ?_
      refine wp_iload_n dX11_takeOut_43 rfl ?_
      refine wp_iadd dX11_takeOut_44 ?_
      refine wp_iconst 1 dX11_takeOut_45 (by decide) ?_
      refine wp_isub dX11_takeOut_46 ?_
      refine wp_aload_n dX11_takeOut_47 rfl ?_
      refine wp_getA (by first | rfl | assumption) dX11_takeOut_48 flRX11_34 (by first | rfl | assumption) ?_
      refine wp_iconst 5 dX11_takeOut_51 (by decide) ?_
      refine wp_iload_n dX11_takeOut_52 rfl ?_
      refine wp_imul dX11_takeOut_53 ?_
      refine wp_iload_n dX11_takeOut_54 rfl ?_
      refine wp_iadd dX11_takeOut_55 ?_
      refine m_iald dX11_takeOut_56 rfl (nI_mad 5 a x) (by omega) (by decide) (by decide) ?_
      refine m_iast dX11_takeOut_57 rfl (nI_mads 5 a x (by omega)) (by omega) (by decide) (by decide) ?_
      rw [tkS_1 S hpx]
      refine ic_4_3 (nI (x + 1)) dX11_takeOut_58 (nI_inc x) (by decide) rfl ?_
      refine wp_goto dX11_takeOut_61 ?_
      exact ih _ (by omega) (x + 1) rfl (by omega) (by omega)
set_option maxHeartbeats 4000000 in
theorem c_takeOut {I S : Mem} {J : Mel} {Q : Option Value → Mem → Mem → Mel → Prop} {a b p : Nat} (ha : a < 6) (hb : S 133 a = nI b) (hb5 : b ≤ 5) (hp : p < b) (k : Q none I (fTake S a p) J) : M2 mX11_takeOut 1 [.ref 126, .int (nI a), .int (nI p)] I S J Q := by
  refine m2_of [.ref 126, .int (nI a), .int (nI p), dum] moX11_takeOut (Nat.le_of_ble_eq_true rfl) rfl ?_
  refine wp_iload_n dX11_takeOut_0 rfl ?_
  refine wp_iconst 1 dX11_takeOut_1 (by decide) ?_
  refine wp_iadd dX11_takeOut_2 ?_
  refine st_i_4_3 dX11_takeOut_3 (by decide) rfl ?_
  have := l_takeOut ha hb hb5 k (p + 1) (by omega) (by omega)
  rw [tkS_0, ← nI_1] at this
  exact this
def wl (S : Mem) (a : Nat) (w : Int32) : Nat → Int32
  | 0 => -1
  | k + 1 => if (w = 200 ∨ S 134 (5 * a + k) = w - 100) ∧ (wl S a w k = -1 ∨ S 127 a = 4) then nI k else wl S a w k
def fWant (S : Mem) (a : Nat) (w : Int32) : Int32 := if S 127 a = 3 then -1 else wl S a w (tn (S 133 a))
set_option maxHeartbeats 4000000 in
theorem l_wanted {I S : Mem} {J : Mel} {Q : Option Value → Mem → Mem → Mel → Prop} {a b : Nat} {u : Int32} (ha : a < 6) (hb : S 133 a = nI b) (hb5 : b ≤ 5) (k : Q (some (.int (fWant S a u))) I S J) : ∀ (x : Nat) (v : Value), (x ≤ b) → W2 mX11_wanted 1 Q I S J 5 [.ref 126, .int (nI a), .int u, .int (wl S a u x), .int (nI x), v] [] := by
  intro x v
  induction hm : b - x using Nat.strongRecOn generalizing x v with
  | _ c ih =>
    intro hx
    refine wp_iload dX11_wanted_5 rfl ?_
    refine wp_aload_n dX11_wanted_7 rfl ?_
    refine wp_getA (by first | rfl | assumption) dX11_wanted_8 flRX11_28 (by first | rfl | assumption) ?_
    refine wp_iload_n dX11_wanted_11 rfl ?_
    refine m_iald dX11_wanted_12 (by first | rfl | assumption) (by first | rfl | assumption) (by first | decide | omega | assumption) (by decide) (by decide) ?_
    refine wp_icmp_ge dX11_wanted_13 (fun h13 => ?_) (fun h13 => ?_)
    · skip
      refine wp_aload_n dX11_wanted_81 rfl ?_
      refine wp_getA (by first | rfl | assumption) dX11_wanted_82 flRX11_7 (by first | rfl | assumption) ?_
      refine wp_iload_n dX11_wanted_85 rfl ?_
      refine m_iald dX11_wanted_86 (by first | rfl | assumption) (by first | rfl | assumption) (by first | decide | omega | assumption) (by decide) (by decide) ?_
      refine wp_iconst 3 dX11_wanted_87 (by decide) ?_
      refine wp_icmp_ne dX11_wanted_88 (fun h88 => ?_) (fun h88 => ?_)
      · skip
        refine wp_iload_n dX11_wanted_95 rfl ?_
        refine g_iret dX11_wanted_96 rfl ?_
        unfold fWant at k
        have e : x = b := by rw [hb, nI_leg (by omega) (by omega)] at h13; omega
        rw [hb, tn_nI (by omega), ← e] at k
        first | (rw [if_pos (by grind)] at k; exact k) | (rw [if_neg (by grind)] at k; exact k)
      · skip
        refine wp_iconst (-1) dX11_wanted_91 (by decide) ?_
        refine wp_goto dX11_wanted_92 ?_
        refine g_iret dX11_wanted_96 rfl ?_
        unfold fWant at k
        have e : x = b := by rw [hb, nI_leg (by omega) (by omega)] at h13; omega
        rw [hb, tn_nI (by omega), ← e] at k
        first | (rw [if_pos (by grind)] at k; exact k) | (rw [if_neg (by grind)] at k; exact k)
    · skip
      have hxb : x < b := by rw [hb, nI_leg (by omega) (by omega)] at h13; omega
      refine wp_iload_n dX11_wanted_16 rfl ?_
      refine wp_sipush 200 dX11_wanted_17 (by decide) ?_
      refine wp_icmp_eq dX11_wanted_20 (fun h20 => ?_) (fun h20 => ?_)
      · skip
        refine wp_iconst 1 dX11_wanted_41 (by decide) ?_
        refine wp_goto dX11_wanted_42 ?_
        refine st_i_6_5 dX11_wanted_46 (by decide) rfl ?_
        refine wp_iload dX11_wanted_48 rfl ?_
        refine wp_if_eq dX11_wanted_50 (fun h50 => absurd h50 (by decide)) (fun h50 => ?_)
        refine wp_iload_n dX11_wanted_53 rfl ?_
        refine wp_iconst (-1) dX11_wanted_54 (by decide) ?_
        refine wp_icmp_eq dX11_wanted_55 (fun h55 => ?_) (fun h55 => ?_)
        · skip
          refine wp_iload dX11_wanted_68 rfl ?_
          refine wp_goto dX11_wanted_70 ?_
          refine st_i_6_3 dX11_wanted_74 (by decide) rfl ?_
          refine ic_6_4 (nI (x + 1)) dX11_wanted_75 (nI_inc x) (by decide) rfl ?_
          refine wp_goto dX11_wanted_78 ?_
          first | (have e : wl S a u (x + 1) = nI x := (by simp only [wl]; exact if_pos (by grind)); have t := ih _ (by omega) (x + 1) (.int 1) rfl (by omega); rw [e] at t; exact t) | (have e : wl S a u (x + 1) = wl S a u x := (by simp only [wl]; exact if_neg (by grind)); have t := ih _ (by omega) (x + 1) (.int 1) rfl (by omega); rw [e] at t; exact t) | (have e : wl S a u (x + 1) = wl S a u x := (by simp only [wl]; exact if_neg (by grind)); have t := ih _ (by omega) (x + 1) (.int 0) rfl (by omega); rw [e] at t; exact t)
        · skip
          refine wp_aload_n dX11_wanted_58 rfl ?_
          refine wp_getA (by first | rfl | assumption) dX11_wanted_59 flRX11_7 (by first | rfl | assumption) ?_
          refine wp_iload_n dX11_wanted_62 rfl ?_
          refine m_iald dX11_wanted_63 (by first | rfl | assumption) (by first | rfl | assumption) (by first | decide | omega | assumption) (by decide) (by decide) ?_
          refine wp_iconst 4 dX11_wanted_64 (by decide) ?_
          refine wp_icmp_ne dX11_wanted_65 (fun h65 => ?_) (fun h65 => ?_)
          · skip
            refine wp_iload_n dX11_wanted_73 rfl ?_
            refine st_i_6_3 dX11_wanted_74 (by decide) rfl ?_
            refine ic_6_4 (nI (x + 1)) dX11_wanted_75 (nI_inc x) (by decide) rfl ?_
            refine wp_goto dX11_wanted_78 ?_
            first | (have e : wl S a u (x + 1) = nI x := (by simp only [wl]; exact if_pos (by grind)); have t := ih _ (by omega) (x + 1) (.int 1) rfl (by omega); rw [e] at t; exact t) | (have e : wl S a u (x + 1) = wl S a u x := (by simp only [wl]; exact if_neg (by grind)); have t := ih _ (by omega) (x + 1) (.int 1) rfl (by omega); rw [e] at t; exact t) | (have e : wl S a u (x + 1) = wl S a u x := (by simp only [wl]; exact if_neg (by grind)); have t := ih _ (by omega) (x + 1) (.int 0) rfl (by omega); rw [e] at t; exact t)
          · skip
            refine wp_iload dX11_wanted_68 rfl ?_
            refine wp_goto dX11_wanted_70 ?_
            refine st_i_6_3 dX11_wanted_74 (by decide) rfl ?_
            refine ic_6_4 (nI (x + 1)) dX11_wanted_75 (nI_inc x) (by decide) rfl ?_
            refine wp_goto dX11_wanted_78 ?_
            first | (have e : wl S a u (x + 1) = nI x := (by simp only [wl]; exact if_pos (by grind)); have t := ih _ (by omega) (x + 1) (.int 1) rfl (by omega); rw [e] at t; exact t) | (have e : wl S a u (x + 1) = wl S a u x := (by simp only [wl]; exact if_neg (by grind)); have t := ih _ (by omega) (x + 1) (.int 1) rfl (by omega); rw [e] at t; exact t) | (have e : wl S a u (x + 1) = wl S a u x := (by simp only [wl]; exact if_neg (by grind)); have t := ih _ (by omega) (x + 1) (.int 0) rfl (by omega); rw [e] at t; exact t)
      · skip
        refine wp_aload_n dX11_wanted_23 rfl ?_
        refine wp_getA (by first | rfl | assumption) dX11_wanted_24 flRX11_31 (by first | rfl | assumption) ?_
        refine wp_iconst 5 dX11_wanted_27 (by decide) ?_
        refine wp_iload_n dX11_wanted_28 rfl ?_
        refine wp_imul dX11_wanted_29 ?_
        refine wp_iload dX11_wanted_30 rfl ?_
        refine wp_iadd dX11_wanted_32 ?_
        refine m_iald dX11_wanted_33 rfl (nI_mad 5 a x) (by omega) (by decide) (by decide) ?_
        refine wp_iload_n dX11_wanted_34 rfl ?_
        refine wp_bipush 100 dX11_wanted_35 (by decide) ?_
        refine wp_isub dX11_wanted_37 ?_
        refine wp_icmp_ne dX11_wanted_38 (fun h38 => ?_) (fun h38 => ?_)
        · skip
          refine wp_iconst 0 dX11_wanted_45 (by decide) ?_
          refine st_i_6_5 dX11_wanted_46 (by decide) rfl ?_
          refine wp_iload dX11_wanted_48 rfl ?_
          refine wp_if_eq dX11_wanted_50 (fun h50 => ?_) (fun h50 => absurd h50 (by decide))
          refine wp_iload_n dX11_wanted_73 rfl ?_
          refine st_i_6_3 dX11_wanted_74 (by decide) rfl ?_
          refine ic_6_4 (nI (x + 1)) dX11_wanted_75 (nI_inc x) (by decide) rfl ?_
          refine wp_goto dX11_wanted_78 ?_
          first | (have e : wl S a u (x + 1) = nI x := (by simp only [wl]; exact if_pos (by grind)); have t := ih _ (by omega) (x + 1) (.int 1) rfl (by omega); rw [e] at t; exact t) | (have e : wl S a u (x + 1) = wl S a u x := (by simp only [wl]; exact if_neg (by grind)); have t := ih _ (by omega) (x + 1) (.int 1) rfl (by omega); rw [e] at t; exact t) | (have e : wl S a u (x + 1) = wl S a u x := (by simp only [wl]; exact if_neg (by grind)); have t := ih _ (by omega) (x + 1) (.int 0) rfl (by omega); rw [e] at t; exact t)
        · skip
          refine wp_iconst 1 dX11_wanted_41 (by decide) ?_
          refine wp_goto dX11_wanted_42 ?_
          refine st_i_6_5 dX11_wanted_46 (by decide) rfl ?_
          refine wp_iload dX11_wanted_48 rfl ?_
          refine wp_if_eq dX11_wanted_50 (fun h50 => absurd h50 (by decide)) (fun h50 => ?_)
          refine wp_iload_n dX11_wanted_53 rfl ?_
          refine wp_iconst (-1) dX11_wanted_54 (by decide) ?_
          refine wp_icmp_eq dX11_wanted_55 (fun h55 => ?_) (fun h55 => ?_)
          · skip
            refine wp_iload dX11_wanted_68 rfl ?_
            refine wp_goto dX11_wanted_70 ?_
            refine st_i_6_3 dX11_wanted_74 (by decide) rfl ?_
            refine ic_6_4 (nI (x + 1)) dX11_wanted_75 (nI_inc x) (by decide) rfl ?_
            refine wp_goto dX11_wanted_78 ?_
            first | (have e : wl S a u (x + 1) = nI x := (by simp only [wl]; exact if_pos (by grind)); have t := ih _ (by omega) (x + 1) (.int 1) rfl (by omega); rw [e] at t; exact t) | (have e : wl S a u (x + 1) = wl S a u x := (by simp only [wl]; exact if_neg (by grind)); have t := ih _ (by omega) (x + 1) (.int 1) rfl (by omega); rw [e] at t; exact t) | (have e : wl S a u (x + 1) = wl S a u x := (by simp only [wl]; exact if_neg (by grind)); have t := ih _ (by omega) (x + 1) (.int 0) rfl (by omega); rw [e] at t; exact t)
          · skip
            refine wp_aload_n dX11_wanted_58 rfl ?_
            refine wp_getA (by first | rfl | assumption) dX11_wanted_59 flRX11_7 (by first | rfl | assumption) ?_
            refine wp_iload_n dX11_wanted_62 rfl ?_
            refine m_iald dX11_wanted_63 (by first | rfl | assumption) (by first | rfl | assumption) (by first | decide | omega | assumption) (by decide) (by decide) ?_
            refine wp_iconst 4 dX11_wanted_64 (by decide) ?_
            refine wp_icmp_ne dX11_wanted_65 (fun h65 => ?_) (fun h65 => ?_)
            · skip
              refine wp_iload_n dX11_wanted_73 rfl ?_
              refine st_i_6_3 dX11_wanted_74 (by decide) rfl ?_
              refine ic_6_4 (nI (x + 1)) dX11_wanted_75 (nI_inc x) (by decide) rfl ?_
              refine wp_goto dX11_wanted_78 ?_
              first | (have e : wl S a u (x + 1) = nI x := (by simp only [wl]; exact if_pos (by grind)); have t := ih _ (by omega) (x + 1) (.int 1) rfl (by omega); rw [e] at t; exact t) | (have e : wl S a u (x + 1) = wl S a u x := (by simp only [wl]; exact if_neg (by grind)); have t := ih _ (by omega) (x + 1) (.int 1) rfl (by omega); rw [e] at t; exact t) | (have e : wl S a u (x + 1) = wl S a u x := (by simp only [wl]; exact if_neg (by grind)); have t := ih _ (by omega) (x + 1) (.int 0) rfl (by omega); rw [e] at t; exact t)
            · skip
              refine wp_iload dX11_wanted_68 rfl ?_
              refine wp_goto dX11_wanted_70 ?_
              refine st_i_6_3 dX11_wanted_74 (by decide) rfl ?_
              refine ic_6_4 (nI (x + 1)) dX11_wanted_75 (nI_inc x) (by decide) rfl ?_
              refine wp_goto dX11_wanted_78 ?_
              first | (have e : wl S a u (x + 1) = nI x := (by simp only [wl]; exact if_pos (by grind)); have t := ih _ (by omega) (x + 1) (.int 1) rfl (by omega); rw [e] at t; exact t) | (have e : wl S a u (x + 1) = wl S a u x := (by simp only [wl]; exact if_neg (by grind)); have t := ih _ (by omega) (x + 1) (.int 1) rfl (by omega); rw [e] at t; exact t) | (have e : wl S a u (x + 1) = wl S a u x := (by simp only [wl]; exact if_neg (by grind)); have t := ih _ (by omega) (x + 1) (.int 0) rfl (by omega); rw [e] at t; exact t)
set_option maxHeartbeats 4000000 in
theorem c_wanted {I S : Mem} {J : Mel} {Q : Option Value → Mem → Mem → Mel → Prop} {a b : Nat} {u : Int32} (ha : a < 6) (hb : S 133 a = nI b) (hb5 : b ≤ 5) (k : Q (some (.int (fWant S a u))) I S J) : M2 mX11_wanted 1 [.ref 126, .int (nI a), .int u] I S J Q := by
  refine m2_of [.ref 126, .int (nI a), .int u, dum, dum, dum] moX11_wanted (Nat.le_of_ble_eq_true rfl) rfl ?_
  refine wp_iconst (-1) dX11_wanted_0 (by decide) ?_
  refine st_i_6_3 dX11_wanted_1 (by decide) rfl ?_
  refine wp_iconst 0 dX11_wanted_2 (by decide) ?_
  refine st_i_6_4 dX11_wanted_3 (by decide) rfl ?_
  exact l_wanted ha hb hb5 k 0 dum (by omega)
def fGoOn (S : Mem) (a : Nat) : Mem := uI (uI S 131 a (S 131 a + 1 - (S 131 a + 1) / S 128 a * S 128 a)) 126 35 (S 126 35 + 1)
set_option maxHeartbeats 4000000 in
theorem c_goOn {I S : Mem} {J : Mel} {Q : Option Value → Mem → Mem → Mel → Prop} {a : Nat} (ha : a < 6) (h0 : ¬ S 128 a = 0) (k : Q none I (fGoOn S a) J) : M2 mX11_goOn 1 [.ref 126, .int (nI a)] I S J Q := by
  refine m2_of [.ref 126, .int (nI a)] moX11_goOn (Nat.le_of_ble_eq_true rfl) rfl ?_
  refine wp_aload_n dX11_goOn_0 rfl ?_
  refine wp_getA (by first | rfl | assumption) dX11_goOn_1 flRX11_22 (by first | rfl | assumption) ?_
  refine wp_iload_n dX11_goOn_4 rfl ?_
  refine wp_aload_n dX11_goOn_5 rfl ?_
  refine wp_getA (by first | rfl | assumption) dX11_goOn_6 flRX11_22 (by first | rfl | assumption) ?_
  refine wp_iload_n dX11_goOn_9 rfl ?_
  refine m_iald dX11_goOn_10 (by first | rfl | assumption) (by first | rfl | assumption) (by first | decide | omega | assumption) (by decide) (by decide) ?_
  refine wp_iconst 1 dX11_goOn_11 (by decide) ?_
  refine wp_iadd dX11_goOn_12 ?_
  refine wp_aload_n dX11_goOn_13 rfl ?_
  refine wp_getA (by first | rfl | assumption) dX11_goOn_14 flRX11_13 (by first | rfl | assumption) ?_
  refine wp_iload_n dX11_goOn_17 rfl ?_
  refine m_iald dX11_goOn_18 (by first | rfl | assumption) (by first | rfl | assumption) (by first | decide | omega | assumption) (by decide) (by decide) ?_
  refine wp_irem dX11_goOn_19 h0 ?_
  refine m_iast dX11_goOn_20 (by first | rfl | assumption) (by first | rfl | assumption) (by first | decide | omega | assumption) (by decide) (by decide) ?_
  refine wp_aload_n dX11_goOn_21 rfl ?_
  refine wp_dup dX11_goOn_22 rfl ?_
  refine m_getI dX11_goOn_23 flRX11_252 (by first | rfl | assumption) (by decide) ?_
  refine wp_iconst 1 dX11_goOn_26 (by decide) ?_
  refine wp_iadd dX11_goOn_27 ?_
  refine m_putI dX11_goOn_28 flRX11_252 (by first | rfl | assumption) (by decide) ?_
  refine g_vret dX11_goOn_31 rfl ?_
  exact k
def fWaits (S : Mem) (a : Nat) (u : Int32) : Mem := if fWant S a u = -1 then (if S 132 a + 1 = 3 then fGoOn (uI (uI S 132 a (S 132 a + 1)) 132 a 0) a else uI S 132 a (S 132 a + 1)) else fGoOn (uI (fTake S a (tn (fWant S a u))) 132 a 0) a
theorem wl_r (S : Mem) (a : Nat) (u : Int32) (k : Nat) : wl S a u k = -1 ∨ ∃ p, p < k ∧ wl S a u k = nI p := by
  induction k with
  | zero => exact Or.inl rfl
  | succ k ih =>
    simp only [wl]
    split
    · exact Or.inr ⟨k, by omega, rfl⟩
    · rcases ih with h | ⟨p, h1, h2⟩
      · exact Or.inl h
      · exact Or.inr ⟨p, by omega, h2⟩
theorem fWant_r (S : Mem) {a b : Nat} {u : Int32} (hb : S 133 a = nI b) (hb5 : b ≤ 5) : fWant S a u = -1 ∨ ∃ p, p < b ∧ fWant S a u = nI p := by
  unfold fWant
  split
  · exact Or.inl rfl
  · rw [hb, tn_nI (by omega)]
    exact wl_r S a u b
set_option maxHeartbeats 4000000 in
theorem c_waits {I S : Mem} {J : Mel} {Q : Option Value → Mem → Mem → Mel → Prop} {a b : Nat} {u : Int32} (ha : a < 6) (hb : S 133 a = nI b) (hb5 : b ≤ 5) (h0 : ¬ S 128 a = 0) (k : Q none I (fWaits S a u) J) : M2 mX11_waits 2 [.ref 126, .int (nI a), .int u] I S J Q := by
  refine m2_of [.ref 126, .int (nI a), .int u, dum] moX11_waits (Nat.le_of_ble_eq_true rfl) rfl ?_
  refine wp_aload_n dX11_waits_0 rfl ?_
  refine wp_iload_n dX11_waits_1 rfl ?_
  refine wp_iload_n dX11_waits_2 rfl ?_
  refine g_callV2 (mj := mX11_wanted) dX11_waits_3 lkRX11_255 mkX11_wanted (by first | rfl | assumption) (by decide) (by decide) (Nat.le_of_ble_eq_true rfl) (c_wanted ha hb hb5 ?_)
  refine st_i_4_3 dX11_waits_6 (by decide) rfl ?_
  refine wp_iload_n dX11_waits_7 rfl ?_
  refine wp_iconst (-1) dX11_waits_8 (by decide) ?_
  refine wp_icmp_eq dX11_waits_9 (fun h9 => ?_) (fun h9 => ?_)
  · skip
    refine wp_aload_n dX11_waits_31 rfl ?_
    refine wp_getA (by first | rfl | assumption) dX11_waits_32 flRX11_25 (by first | rfl | assumption) ?_
    refine wp_iload_n dX11_waits_35 rfl ?_
    refine wp_dup2 dX11_waits_36 rfl rfl ?_
    refine m_iald dX11_waits_37 (by first | rfl | assumption) (by first | rfl | assumption) (by first | decide | omega | assumption) (by decide) (by decide) ?_
    refine wp_iconst 1 dX11_waits_38 (by decide) ?_
    refine wp_iadd dX11_waits_39 ?_
    refine m_iast dX11_waits_40 (by first | rfl | assumption) (by first | rfl | assumption) (by first | decide | omega | assumption) (by decide) (by decide) ?_
    refine wp_aload_n dX11_waits_41 rfl ?_
    refine wp_getA (by first | rfl | assumption) dX11_waits_42 flRX11_25 (by first | rfl | assumption) ?_
    refine wp_iload_n dX11_waits_45 rfl ?_
    refine m_iald dX11_waits_46 (by first | rfl | assumption) (by first | rfl | assumption) (by first | decide | omega | assumption) (by decide) (by decide) ?_
    refine wp_iconst 3 dX11_waits_47 (by decide) ?_
    refine wp_icmp_ne dX11_waits_48 (fun h48 => ?_) (fun h48 => ?_)
    · skip
      refine g_vret dX11_waits_63 rfl ?_
      unfold fWaits at k; rw [if_pos h9] at k; rw [uI_self] at h48; first | (rw [if_pos (by simpa using h48)] at k; exact k) | (rw [if_neg h48] at k; exact k)
    · skip
      refine wp_aload_n dX11_waits_51 rfl ?_
      refine wp_getA (by first | rfl | assumption) dX11_waits_52 flRX11_25 (by first | rfl | assumption) ?_
      refine wp_iload_n dX11_waits_55 rfl ?_
      refine wp_iconst 0 dX11_waits_56 (by decide) ?_
      refine m_iast dX11_waits_57 (by first | rfl | assumption) (by first | rfl | assumption) (by first | decide | omega | assumption) (by decide) (by decide) ?_
      refine wp_aload_n dX11_waits_58 rfl ?_
      refine wp_iload_n dX11_waits_59 rfl ?_
      refine g_callV1 (mj := mX11_goOn) dX11_waits_60 lkRX11_262 mkX11_goOn (by first | rfl | assumption) (by decide) (by decide) (Nat.le_of_ble_eq_true rfl) (c_goOn ha (by rw [uI_ne (by decide), uI_ne (by decide)]; exact h0) ?_)
      refine g_vret dX11_waits_63 rfl ?_
      unfold fWaits at k; rw [if_pos h9] at k; rw [uI_self] at h48; first | (rw [if_pos (by simpa using h48)] at k; exact k) | (rw [if_neg h48] at k; exact k)
  · skip
    obtain ⟨p, hp, ep⟩ := (fWant_r S (u := u) hb hb5).resolve_left h9
    rw [ep]
    refine wp_aload_n dX11_waits_12 rfl ?_
    refine wp_iload_n dX11_waits_13 rfl ?_
    refine wp_iload_n dX11_waits_14 rfl ?_
    refine g_callV2 (mj := mX11_takeOut) dX11_waits_15 lkRX11_258 mkX11_takeOut (by first | rfl | assumption) (by decide) (by decide) (Nat.le_of_ble_eq_true rfl) (c_takeOut ha hb hb5 hp ?_)
    refine wp_aload_n dX11_waits_18 rfl ?_
    refine wp_getA (by first | rfl | assumption) dX11_waits_19 flRX11_25 (by first | rfl | assumption) ?_
    refine wp_iload_n dX11_waits_22 rfl ?_
    refine wp_iconst 0 dX11_waits_23 (by decide) ?_
    refine m_iast dX11_waits_24 (by first | rfl | assumption) (by first | rfl | assumption) (by first | decide | omega | assumption) (by decide) (by decide) ?_
    refine wp_aload_n dX11_waits_25 rfl ?_
    refine wp_iload_n dX11_waits_26 rfl ?_
    refine g_callV1 (mj := mX11_goOn) dX11_waits_27 lkRX11_262 mkX11_goOn (by first | rfl | assumption) (by decide) (by decide) (Nat.le_of_ble_eq_true rfl) (c_goOn ha (by show ¬ uI (uI (tkS _ _ _ _) _ _ _) _ _ _ _ _ = 0; rw [uI_ne (by decide), uI_ne (by decide), tkS_n _ _ _ _ (by decide) (by decide)]; exact h0) ?_)
    refine g_vret dX11_waits_30 rfl ?_
    unfold fWaits at k; rw [if_neg h9, ep, tn_nI (by omega)] at k; exact k
def fStand (S : Mem) (x : Int32) : Mem := uI (uI S 149 (tn (S 126 38)) x) 126 38 (S 126 38 + 1)
set_option maxHeartbeats 4000000 in
theorem c_stand {I S : Mem} {J : Mel} {Q : Option Value → Mem → Mem → Mel → Prop} {x : Int32} {r : Nat} (hr : S 126 38 = nI r) (hr2 : r < 256) (k : Q none I (fStand S x) J) : M2 mX11_stand 1 [.ref 126, .int x] I S J Q := by
  refine m2_of [.ref 126, .int x] moX11_stand (Nat.le_of_ble_eq_true rfl) rfl ?_
  refine wp_aload_n dX11_stand_0 rfl ?_
  refine wp_getA (by first | rfl | assumption) dX11_stand_1 flRX11_77 (by first | rfl | assumption) ?_
  refine wp_aload_n dX11_stand_4 rfl ?_
  refine m_getI dX11_stand_5 flRX11_265 (by first | rfl | assumption) (by decide) ?_
  refine wp_iload_n dX11_stand_8 rfl ?_
  refine m_iast dX11_stand_9 rfl hr (by omega) (by decide) (by decide) ?_
  refine wp_aload_n dX11_stand_10 rfl ?_
  refine wp_dup dX11_stand_11 rfl ?_
  refine m_getI dX11_stand_12 flRX11_265 (by first | rfl | assumption) (by decide) ?_
  refine wp_iconst 1 dX11_stand_15 (by decide) ?_
  refine wp_iadd dX11_stand_16 ?_
  refine m_putI dX11_stand_17 flRX11_265 (by first | rfl | assumption) (by decide) ?_
  refine g_vret dX11_stand_20 rfl ?_
  unfold fStand at k; rw [hr, tn_nI (by omega)] at k; rw [uI_ne (by decide), hr]; exact k
def fRs (S : Mem) (a : Nat) : Int32 := b01 (S 126 16 - S 137 (2 * a) ≤ 4) + b01 (S 126 16 - S 137 (2 * a + 1) ≤ 4)
set_option maxHeartbeats 4000000 in
theorem c_raisesOf {I S : Mem} {J : Mel} {Q : Option Value → Mem → Mem → Mel → Prop} {a : Nat} (ha : a < 6) (k : Q (some (.int (fRs S a))) I S J) : M2 mX11_raisesOf 1 [.ref 126, .int (nI a)] I S J Q := by
  refine m2_of [.ref 126, .int (nI a)] moX11_raisesOf (Nat.le_of_ble_eq_true rfl) rfl ?_
  refine wp_aload_n dX11_raisesOf_0 rfl ?_
  refine m_getI dX11_raisesOf_1 flRX11_224 (by first | rfl | assumption) (by decide) ?_
  refine wp_aload_n dX11_raisesOf_4 rfl ?_
  refine wp_getA (by first | rfl | assumption) dX11_raisesOf_5 flRX11_40 (by first | rfl | assumption) ?_
  refine wp_iconst 2 dX11_raisesOf_8 (by decide) ?_
  refine wp_iload_n dX11_raisesOf_9 rfl ?_
  refine wp_imul dX11_raisesOf_10 ?_
  refine m_iald dX11_raisesOf_11 rfl (nI_mul 2 a) (by omega) (by decide) (by decide) ?_
  refine wp_isub dX11_raisesOf_12 ?_
  refine wp_iconst 4 dX11_raisesOf_13 (by decide) ?_
  refine wp_icmp_gt dX11_raisesOf_14 (fun h14 => ?_) (fun h14 => ?_)
  · skip
    refine wp_iconst 0 dX11_raisesOf_21 (by decide) ?_
    refine wp_aload_n dX11_raisesOf_22 rfl ?_
    refine m_getI dX11_raisesOf_23 flRX11_224 (by first | rfl | assumption) (by decide) ?_
    refine wp_aload_n dX11_raisesOf_26 rfl ?_
    refine wp_getA (by first | rfl | assumption) dX11_raisesOf_27 flRX11_40 (by first | rfl | assumption) ?_
    refine wp_iconst 2 dX11_raisesOf_30 (by decide) ?_
    refine wp_iload_n dX11_raisesOf_31 rfl ?_
    refine wp_imul dX11_raisesOf_32 ?_
    refine wp_iconst 1 dX11_raisesOf_33 (by decide) ?_
    refine wp_iadd dX11_raisesOf_34 ?_
    refine m_iald dX11_raisesOf_35 rfl (nI_mad 2 a 1) (by omega) (by decide) (by decide) ?_
    refine wp_isub dX11_raisesOf_36 ?_
    refine wp_iconst 4 dX11_raisesOf_37 (by decide) ?_
    refine wp_icmp_gt dX11_raisesOf_38 (fun h38 => ?_) (fun h38 => ?_)
    · skip
      refine wp_iconst 0 dX11_raisesOf_45 (by decide) ?_
      refine wp_iadd dX11_raisesOf_46 ?_
      refine g_iret dX11_raisesOf_47 rfl ?_
      unfold fRs at k
      first | (rw [b01_t (p := S 126 16 - S 137 (2 * a) ≤ 4) (by grind)] at k) | (rw [b01_f (p := S 126 16 - S 137 (2 * a) ≤ 4) (by grind)] at k)
      first | (rw [b01_t (p := S 126 16 - S 137 (2 * a + 1) ≤ 4) (by grind)] at k) | (rw [b01_f (p := S 126 16 - S 137 (2 * a + 1) ≤ 4) (by grind)] at k)
      exact k
    · skip
      refine wp_iconst 1 dX11_raisesOf_41 (by decide) ?_
      refine wp_goto dX11_raisesOf_42 ?_
      refine wp_iadd dX11_raisesOf_46 ?_
      refine g_iret dX11_raisesOf_47 rfl ?_
      unfold fRs at k
      first | (rw [b01_t (p := S 126 16 - S 137 (2 * a) ≤ 4) (by grind)] at k) | (rw [b01_f (p := S 126 16 - S 137 (2 * a) ≤ 4) (by grind)] at k)
      first | (rw [b01_t (p := S 126 16 - S 137 (2 * a + 1) ≤ 4) (by grind)] at k) | (rw [b01_f (p := S 126 16 - S 137 (2 * a + 1) ≤ 4) (by grind)] at k)
      exact k
  · skip
    refine wp_iconst 1 dX11_raisesOf_17 (by decide) ?_
    refine wp_goto dX11_raisesOf_18 ?_
    refine wp_aload_n dX11_raisesOf_22 rfl ?_
    refine m_getI dX11_raisesOf_23 flRX11_224 (by first | rfl | assumption) (by decide) ?_
    refine wp_aload_n dX11_raisesOf_26 rfl ?_
    refine wp_getA (by first | rfl | assumption) dX11_raisesOf_27 flRX11_40 (by first | rfl | assumption) ?_
    refine wp_iconst 2 dX11_raisesOf_30 (by decide) ?_
    refine wp_iload_n dX11_raisesOf_31 rfl ?_
    refine wp_imul dX11_raisesOf_32 ?_
    refine wp_iconst 1 dX11_raisesOf_33 (by decide) ?_
    refine wp_iadd dX11_raisesOf_34 ?_
    refine m_iald dX11_raisesOf_35 rfl (nI_mad 2 a 1) (by omega) (by decide) (by decide) ?_
    refine wp_isub dX11_raisesOf_36 ?_
    refine wp_iconst 4 dX11_raisesOf_37 (by decide) ?_
    refine wp_icmp_gt dX11_raisesOf_38 (fun h38 => ?_) (fun h38 => ?_)
    · skip
      refine wp_iconst 0 dX11_raisesOf_45 (by decide) ?_
      refine wp_iadd dX11_raisesOf_46 ?_
      refine g_iret dX11_raisesOf_47 rfl ?_
      unfold fRs at k
      first | (rw [b01_t (p := S 126 16 - S 137 (2 * a) ≤ 4) (by grind)] at k) | (rw [b01_f (p := S 126 16 - S 137 (2 * a) ≤ 4) (by grind)] at k)
      first | (rw [b01_t (p := S 126 16 - S 137 (2 * a + 1) ≤ 4) (by grind)] at k) | (rw [b01_f (p := S 126 16 - S 137 (2 * a + 1) ≤ 4) (by grind)] at k)
      exact k
    · skip
      refine wp_iconst 1 dX11_raisesOf_41 (by decide) ?_
      refine wp_goto dX11_raisesOf_42 ?_
      refine wp_iadd dX11_raisesOf_46 ?_
      refine g_iret dX11_raisesOf_47 rfl ?_
      unfold fRs at k
      first | (rw [b01_t (p := S 126 16 - S 137 (2 * a) ≤ 4) (by grind)] at k) | (rw [b01_f (p := S 126 16 - S 137 (2 * a) ≤ 4) (by grind)] at k)
      first | (rw [b01_t (p := S 126 16 - S 137 (2 * a + 1) ≤ 4) (by grind)] at k) | (rw [b01_f (p := S 126 16 - S 137 (2 * a + 1) ≤ 4) (by grind)] at k)
      exact k
def fHear (S : Mem) (a f : Nat) : Mem := if S 127 a = 1 then fPost S a 8 (nI f) else if S 127 a = 2 ∧ fRs S a < 2 then fBegin (uI (uI S 137 (2 * a + 1) (S 137 (2 * a))) 137 (2 * a) (S 126 16)) f else fStand S (nI a)
set_option maxHeartbeats 4000000 in
theorem c_hear {I S : Mem} {J : Mel} {Q : Option Value → Mem → Mem → Mel → Prop} {a f b r : Nat} (ha : a < 6) (hf : f < 6) (hb : S 133 a = nI b) (hb5 : b ≤ 5) (hr : S 126 38 = nI r) (hr2 : r < 256) (k : Q none I (fHear S a f) J) : M2 mX11_hear 2 [.ref 126, .int (nI a), .int (nI f)] I S J Q := by
  refine m2_of [.ref 126, .int (nI a), .int (nI f)] moX11_hear (Nat.le_of_ble_eq_true rfl) rfl ?_
  refine wp_aload_n dX11_hear_0 rfl ?_
  refine wp_getA (by first | rfl | assumption) dX11_hear_1 flRX11_7 (by first | rfl | assumption) ?_
  refine wp_iload_n dX11_hear_4 rfl ?_
  refine m_iald dX11_hear_5 (by first | rfl | assumption) (by first | rfl | assumption) (by first | decide | omega | assumption) (by decide) (by decide) ?_
  refine wp_iconst 1 dX11_hear_6 (by decide) ?_
  refine wp_icmp_ne dX11_hear_7 (fun h7 => ?_) (fun h7 => ?_)
  · skip
    refine wp_aload_n dX11_hear_21 rfl ?_
    refine wp_getA (by first | rfl | assumption) dX11_hear_22 flRX11_7 (by first | rfl | assumption) ?_
    refine wp_iload_n dX11_hear_25 rfl ?_
    refine m_iald dX11_hear_26 (by first | rfl | assumption) (by first | rfl | assumption) (by first | decide | omega | assumption) (by decide) (by decide) ?_
    refine wp_iconst 2 dX11_hear_27 (by decide) ?_
    refine wp_icmp_ne dX11_hear_28 (fun h28 => ?_) (fun h28 => ?_)
    · skip
      refine wp_aload_n dX11_hear_78 rfl ?_
      refine wp_iload_n dX11_hear_79 rfl ?_
      refine g_callV1 (mj := mX11_stand) dX11_hear_80 lkRX11_275 mkX11_stand (by first | rfl | assumption) (by decide) (by decide) (Nat.le_of_ble_eq_true rfl) (c_stand hr hr2 ?_)
      refine g_vret dX11_hear_83 rfl ?_
      unfold fHear at k
      first | (rw [if_pos (by grind)] at k; exact k) | (rw [if_neg (by grind), if_pos (by grind)] at k; rw [uI_ne (show 126 ≠ 137 by decide)]; exact k) | (rw [if_neg (by grind), if_neg (by grind)] at k; exact k)
    · skip
      refine wp_aload_n dX11_hear_31 rfl ?_
      refine wp_iload_n dX11_hear_32 rfl ?_
      refine g_callV1 (mj := mX11_raisesOf) dX11_hear_33 lkRX11_272 mkX11_raisesOf (by first | rfl | assumption) (by decide) (by decide) (Nat.le_of_ble_eq_true rfl) (c_raisesOf ha ?_)
      refine wp_iconst 2 dX11_hear_36 (by decide) ?_
      refine wp_icmp_ge dX11_hear_37 (fun h37 => ?_) (fun h37 => ?_)
      · skip
        refine wp_aload_n dX11_hear_78 rfl ?_
        refine wp_iload_n dX11_hear_79 rfl ?_
        refine g_callV1 (mj := mX11_stand) dX11_hear_80 lkRX11_275 mkX11_stand (by first | rfl | assumption) (by decide) (by decide) (Nat.le_of_ble_eq_true rfl) (c_stand hr hr2 ?_)
        refine g_vret dX11_hear_83 rfl ?_
        unfold fHear at k
        first | (rw [if_pos (by grind)] at k; exact k) | (rw [if_neg (by grind), if_pos (by grind)] at k; rw [uI_ne (show 126 ≠ 137 by decide)]; exact k) | (rw [if_neg (by grind), if_neg (by grind)] at k; exact k)
      · skip
        refine wp_aload_n dX11_hear_40 rfl ?_
        refine wp_getA (by first | rfl | assumption) dX11_hear_41 flRX11_40 (by first | rfl | assumption) ?_
        refine wp_iconst 2 dX11_hear_44 (by decide) ?_
        refine wp_iload_n dX11_hear_45 rfl ?_
        refine wp_imul dX11_hear_46 ?_
        refine wp_iconst 1 dX11_hear_47 (by decide) ?_
        refine wp_iadd dX11_hear_48 ?_
        refine wp_aload_n dX11_hear_49 rfl ?_
        refine wp_getA (by first | rfl | assumption) dX11_hear_50 flRX11_40 (by first | rfl | assumption) ?_
        refine wp_iconst 2 dX11_hear_53 (by decide) ?_
        refine wp_iload_n dX11_hear_54 rfl ?_
        refine wp_imul dX11_hear_55 ?_
        refine m_iald dX11_hear_56 rfl (nI_mul 2 a) (by omega) (by decide) (by decide) ?_
        refine m_iast dX11_hear_57 rfl (nI_mad 2 a 1) (by omega) (by decide) (by decide) ?_
        refine wp_aload_n dX11_hear_58 rfl ?_
        refine wp_getA (by first | rfl | assumption) dX11_hear_59 flRX11_40 (by first | rfl | assumption) ?_
        refine wp_iconst 2 dX11_hear_62 (by decide) ?_
        refine wp_iload_n dX11_hear_63 rfl ?_
        refine wp_imul dX11_hear_64 ?_
        refine wp_aload_n dX11_hear_65 rfl ?_
        refine m_getI dX11_hear_66 flRX11_224 (by first | rfl | assumption) (by decide) ?_
        refine m_iast dX11_hear_69 rfl (nI_mul 2 a) (by omega) (by decide) (by decide) ?_
        refine wp_aload_n dX11_hear_70 rfl ?_
        refine wp_iload_n dX11_hear_71 rfl ?_
        refine g_callV1 (mj := mX11_begin) dX11_hear_72 lkRX11_215 mkX11_begin (by first | rfl | assumption) (by decide) (by decide) (Nat.le_of_ble_eq_true rfl) (c_begin hf ?_)
        refine wp_goto dX11_hear_75 ?_
        refine g_vret dX11_hear_83 rfl ?_
        unfold fHear at k
        first | (rw [if_pos (by grind)] at k; exact k) | (rw [if_neg (by grind), if_pos (by grind)] at k; rw [uI_ne (show 126 ≠ 137 by decide)]; exact k) | (rw [if_neg (by grind), if_neg (by grind)] at k; exact k)
  · skip
    refine wp_aload_n dX11_hear_10 rfl ?_
    refine wp_iload_n dX11_hear_11 rfl ?_
    refine wp_bipush 8 dX11_hear_12 (by decide) ?_
    refine wp_iload_n dX11_hear_14 rfl ?_
    refine g_callV3 (mj := mX11_post) dX11_hear_15 lkRX11_268 mkX11_post (by first | rfl | assumption) (by decide) (by decide) (Nat.le_of_ble_eq_true rfl) (c_post ha hb hb5 ?_)
    refine wp_goto dX11_hear_18 ?_
    refine g_vret dX11_hear_83 rfl ?_
    unfold fHear at k
    first | (rw [if_pos (by grind)] at k; exact k) | (rw [if_neg (by grind), if_pos (by grind)] at k; rw [uI_ne (show 126 ≠ 137 by decide)]; exact k) | (rw [if_neg (by grind), if_neg (by grind)] at k; exact k)
