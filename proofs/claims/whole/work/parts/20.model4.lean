theorem b01_ne {p : Prop} [Decidable p] (h : ¬ b01 p = 0) : p := by
  by_cases hp : p
  · exact hp
  · exact absurd (b01_f hp) h
theorem b01_e0 {p : Prop} [Decidable p] (h : b01 p = 0) : ¬ p := fun hp => by rw [b01_t hp] at h; exact absurd h (by decide)
abbrev isA (S : Mem) (x : Int32) : Prop := 0 ≤ x ∧ x ≤ S 126 1 - 1
theorem isA_of {S : Mem} {x : Int32} {n : Nat} (ha : S 126 1 = nI n) (hn : n ≤ 6) (h : isA S x) : ∃ i, i < n ∧ x = nI i := by
  obtain ⟨h1, h2⟩ := h
  rw [ha] at h2
  have h0 : ¬ x < 0 := Int32.not_lt.mpr h1
  obtain ⟨j, hj, rfl⟩ := nI_of h0
  rcases Nat.eq_zero_or_pos n with e | e
  · subst e
    exact absurd h2 (by
      intro hc
      have := Int32.le_trans h1 hc
      exact absurd this (by decide))
  · rw [nI_s1 e, nI_leI hj (by omega)] at h2
    exact ⟨j, by omega, rfl⟩
theorem isA_nI {S : Mem} {i n : Nat} (ha : S 126 1 = nI n) (hn : n ≤ 6) (h : i < n) : isA S (nI i) := by
  refine ⟨nI_pos' (by omega), ?_⟩
  rw [ha, nI_s1 (by omega), nI_leg (by omega) (by omega)]
  omega
theorem in_of {x : Int32} {m : Nat} (hm : m < 1000) (h1 : 0 ≤ x) (h2 : x ≤ nI m) : ∃ j, j ≤ m ∧ x = nI j := by
  have h0 : ¬ x < 0 := Int32.not_lt.mpr h1
  obtain ⟨j, hj, rfl⟩ := nI_of h0
  rw [nI_leI hj (by omega)] at h2
  exact ⟨j, h2, rfl⟩
/-! what to ask next -/
def szM (b : Int32) : Nat → Int32
  | 0 => 0
  | k + 1 => szM b k + (b >>> (nI k &&& 31) &&& 1)
def inM (b : Int32) (x : Nat) : Int32 := b01 (b >>> (nI x &&& 31) &&& 1 = 1)
def yesM (b : Int32) (v : Nat) : Nat → Int32
  | 0 => 0
  | x + 1 => yesM b v x + (if ¬ inM b x = 0 ∧ ¬ cou (nI x) v = 0 then 1 else 0)
def wsM (b : Int32) (v : Nat) : Int32 := if yesM b v 5 ≤ szM b 16 - yesM b v 5 then szM b 16 - yesM b v 5 else yesM b v 5
def akM (b : Int32) : Nat → Int32 × Int32
  | 0 => (-1, 268435456)
  | v + 1 => (if (akM b v).2 ≤ wsM b v then (akM b v).1 else nI v, if (akM b v).2 ≤ wsM b v then (akM b v).2 else wsM b v)
def askM (b : Int32) : Int32 := if b = 0 then -1 else (akM b 4).1
set_option maxHeartbeats 4000000 in
theorem l_size {I S : Mem} {J : Mel} {Q : Option Value → Mem → Mem → Mel → Prop} {b : Int32} (k : Q (some (.int (szM b 16))) I S J) : ∀ (x : Nat), (x ≤ 16) → W2 mX11_size 1 Q I S J 4 [.int b, .int (szM b x), .int (nI x)] [] := by
  intro x
  induction hm : 16 - x using Nat.strongRecOn generalizing x with
  | _ c ih =>
    intro hx_q
    refine wp_iload_n dX11_size_4 rfl ?_
    refine wp_bipush 16 dX11_size_5 (by decide) ?_
    refine wp_icmp_ge dX11_size_7 (fun h7 => ?_) (fun h7 => ?_)
    · skip
      refine wp_iload_n dX11_size_24 rfl ?_
      refine g_iret dX11_size_25 rfl ?_
      have e_q : x = 16 := by rw [show (16 : Int32) = nI 16 from rfl, nI_leg (by omega) (by omega)] at h7; omega
      rw [e_q]; exact k
    · skip
      have hx2_q : x < 16 := by rw [show (16 : Int32) = nI 16 from rfl, nI_leg (by omega) (by omega)] at h7; omega
      refine wp_iload_n dX11_size_10 rfl ?_
      refine wp_iload_n dX11_size_11 rfl ?_
      refine wp_iload_n dX11_size_12 rfl ?_
      refine wp_ishr dX11_size_13 ?_
      refine wp_iconst 1 dX11_size_14 (by decide) ?_
      refine wp_iand dX11_size_15 ?_
      refine wp_iadd dX11_size_16 ?_
      refine st_i_3_1 dX11_size_17 (by decide) rfl ?_
      refine ic_3_2 (nI (x + 1)) dX11_size_18 (nI_inc x) (by decide) rfl ?_
      refine wp_goto dX11_size_21 ?_
      exact ih _ (by omega) (x + 1) rfl (by omega)
set_option maxHeartbeats 4000000 in
theorem c_size {I S : Mem} {J : Mel} {Q : Option Value → Mem → Mem → Mel → Prop} {b : Int32} (k : Q (some (.int (szM b 16))) I S J) : M2 mX11_size 1 [.int b] I S J Q := by
  refine m2_of [.int b, dum, dum] moX11_size (Nat.le_of_ble_eq_true rfl) rfl ?_
  refine wp_iconst 0 dX11_size_0 (by decide) ?_
  refine st_i_3_1 dX11_size_1 (by decide) rfl ?_
  refine wp_iconst 0 dX11_size_2 (by decide) ?_
  refine st_i_3_2 dX11_size_3 (by decide) rfl ?_
  exact l_size k 0 (by omega)
set_option maxHeartbeats 4000000 in
theorem c_isIn {I S : Mem} {J : Mel} {Q : Option Value → Mem → Mem → Mel → Prop} {b : Int32} {x : Nat} (k : Q (some (.int (inM b x))) I S J) : M2 mX11_isIn 1 [.int b, .int (nI x)] I S J Q := by
  refine m2_of [.int b, .int (nI x)] moX11_isIn (Nat.le_of_ble_eq_true rfl) rfl ?_
  refine wp_iload_n dX11_isIn_0 rfl ?_
  refine wp_iload_n dX11_isIn_1 rfl ?_
  refine wp_ishr dX11_isIn_2 ?_
  refine wp_iconst 1 dX11_isIn_3 (by decide) ?_
  refine wp_iand dX11_isIn_4 ?_
  refine wp_iconst 1 dX11_isIn_5 (by decide) ?_
  refine wp_icmp_ne dX11_isIn_6 (fun h6 => ?_) (fun h6 => ?_)
  · skip
    refine wp_iconst 0 dX11_isIn_13 (by decide) ?_
    refine g_zret dX11_isIn_14 rfl (by first | decide | assumption) ?_
    unfold inM at k
    first | (rw [b01_t (by grind)] at k; exact k) | (rw [b01_f (by grind)] at k; exact k)
  · skip
    refine wp_iconst 1 dX11_isIn_9 (by decide) ?_
    refine wp_goto dX11_isIn_10 ?_
    refine g_zret dX11_isIn_14 rfl (by first | decide | assumption) ?_
    unfold inM at k
    first | (rw [b01_t (by grind)] at k; exact k) | (rw [b01_f (by grind)] at k; exact k)
set_option maxHeartbeats 4000000 in
theorem l_ask2 {I S : Mem} {J : Mel} {Q : Option Value → Mem → Mem → Mel → Prop} {a b v5 v6 : Int32} {v : Nat} {l8 : Value} (hv_q : v < 4) (k : ∀ u : Value, W2 mX11_askOf 3 Q I S J 73 [.ref 126, .int a, .int b, .int v5, .int v6, .int (nI v), .int (yesM b v 5), .int (nI 5), u] []) : ∀ (x : Nat), (x ≤ 5) → W2 mX11_askOf 3 Q I S J 32 [.ref 126, .int a, .int b, .int v5, .int v6, .int (nI v), .int (yesM b v x), .int (nI x), l8] [] := by
  intro x
  induction hm : 5 - x using Nat.strongRecOn generalizing x with
  | _ c ih =>
    intro hx_q
    refine wp_iload dX11_askOf_32 rfl ?_
    refine wp_iconst 4 dX11_askOf_34 (by decide) ?_
    refine wp_icmp_gt dX11_askOf_35 (fun h35 => ?_) (fun h35 => ?_)
    · skip
      have e_q : x = 5 := by rw [show (4 : Int32) = nI 4 from rfl, nI_ltg (by omega) (by omega)] at h35; omega
      subst e_q; exact k _
    · skip
      have hx5_q : x < 5 := by rw [show (4 : Int32) = nI 4 from rfl, nI_ltg (by omega) (by omega)] at h35; omega
      refine wp_iload dX11_askOf_38 rfl ?_
      refine wp_iload_n dX11_askOf_40 rfl ?_
      refine wp_iload dX11_askOf_41 rfl ?_
      refine g_callS2 (mj := mX11_isIn) dX11_askOf_43 lkRX11_339 mkX11_isIn (by decide) (by decide) (Nat.le_of_ble_eq_true rfl) (c_isIn ?_)
      refine wp_if_eq dX11_askOf_46 (fun h46 => ?_) (fun h46 => ?_)
      · skip
        refine wp_iconst 0 dX11_askOf_63 (by decide) ?_
        refine wp_iadd dX11_askOf_64 ?_
        refine st_i_9_6 dX11_askOf_65 (by decide) rfl ?_
        refine ic_9_7 (nI (x + 1)) dX11_askOf_67 (nI_inc x) (by decide) rfl ?_
        refine wp_goto dX11_askOf_70 ?_
        have t_q := ih _ (by omega) (x + 1) rfl (by omega)
        simp only [yesM] at t_q
        first | (rw [if_pos (by grind)] at t_q; exact t_q) | (rw [if_neg (by grind)] at t_q; exact t_q)
      · skip
        refine wp_iload dX11_askOf_49 rfl ?_
        refine wp_iload dX11_askOf_51 rfl ?_
        refine g_callS2 (mj := mX11_could) dX11_askOf_53 lkRX11_335 mkX11_could (by decide) (by decide) (Nat.le_of_ble_eq_true rfl) (c_could hv_q ?_)
        refine wp_if_eq dX11_askOf_56 (fun h56 => ?_) (fun h56 => ?_)
        · skip
          refine wp_iconst 0 dX11_askOf_63 (by decide) ?_
          refine wp_iadd dX11_askOf_64 ?_
          refine st_i_9_6 dX11_askOf_65 (by decide) rfl ?_
          refine ic_9_7 (nI (x + 1)) dX11_askOf_67 (nI_inc x) (by decide) rfl ?_
          refine wp_goto dX11_askOf_70 ?_
          have t_q := ih _ (by omega) (x + 1) rfl (by omega)
          simp only [yesM] at t_q
          first | (rw [if_pos (by grind)] at t_q; exact t_q) | (rw [if_neg (by grind)] at t_q; exact t_q)
        · skip
          refine wp_iconst 1 dX11_askOf_59 (by decide) ?_
          refine wp_goto dX11_askOf_60 ?_
          refine wp_iadd dX11_askOf_64 ?_
          refine st_i_9_6 dX11_askOf_65 (by decide) rfl ?_
          refine ic_9_7 (nI (x + 1)) dX11_askOf_67 (nI_inc x) (by decide) rfl ?_
          refine wp_goto dX11_askOf_70 ?_
          have t_q := ih _ (by omega) (x + 1) rfl (by omega)
          simp only [yesM] at t_q
          first | (rw [if_pos (by grind)] at t_q; exact t_q) | (rw [if_neg (by grind)] at t_q; exact t_q)
set_option maxHeartbeats 4000000 in
theorem l_ask {I S : Mem} {J : Mel} {Q : Option Value → Mem → Mem → Mel → Prop} {a b : Int32} (k : Q (some (.int (askM b))) I S J) : ∀ (v : Nat) (u6 u7 u8 : Value), (v ≤ 4) → (v = 0 ∨ ¬ b = 0) → W2 mX11_askOf 3 Q I S J 16 [.ref 126, .int a, .int b, .int (akM b v).1, .int (akM b v).2, .int (nI v), u6, u7, u8] [] := by
  intro v u6 u7 u8
  induction hm : 4 - v using Nat.strongRecOn generalizing v u6 u7 u8 with
  | _ c ih =>
    intro hv_q hb_q
    refine wp_iload dX11_askOf_16 rfl ?_
    refine wp_iconst 4 dX11_askOf_18 (by decide) ?_
    refine wp_icmp_ge dX11_askOf_19 (fun h19 => ?_) (fun h19 => ?_)
    · skip
      refine wp_iload_n dX11_askOf_134 rfl ?_
      refine g_iret dX11_askOf_135 rfl ?_
      unfold askM at k
      first | (rw [if_pos h23] at k; rcases hb_q with e_q | e_q; subst e_q; exact k; exact absurd h23 e_q) | skip
      all_goals (have e_q : v = 4 := by rw [show (4 : Int32) = nI 4 from rfl, nI_leg (by omega) (by omega)] at h19; omega)
      all_goals (subst e_q; rw [if_neg (hb_q.resolve_left (by omega))] at k; exact k)
    · skip
      have hv4_q : v < 4 := by rw [show (4 : Int32) = nI 4 from rfl, nI_leg (by omega) (by omega)] at h19; omega
      refine wp_iload_n dX11_askOf_22 rfl ?_
      refine wp_if_eq dX11_askOf_23 (fun h23 => ?_) (fun h23 => ?_)
      · skip
        refine wp_iload_n dX11_askOf_134 rfl ?_
        refine g_iret dX11_askOf_135 rfl ?_
        unfold askM at k
        first | (rw [if_pos h23] at k; rcases hb_q with e_q | e_q; subst e_q; exact k; exact absurd h23 e_q) | skip
        all_goals (have e_q : v = 4 := by rw [show (4 : Int32) = nI 4 from rfl, nI_leg (by omega) (by omega)] at h19; omega)
        all_goals (subst e_q; rw [if_neg (hb_q.resolve_left (by omega))] at k; exact k)
      · skip
        refine wp_iconst 0 dX11_askOf_26 (by decide) ?_
        refine st_i_9_6 dX11_askOf_27 (by decide) rfl ?_
        refine wp_iconst 0 dX11_askOf_29 (by decide) ?_
        refine st_i_9_7 dX11_askOf_30 (by decide) rfl ?_
        refine l_ask2 hv4_q (fun u => ?_) 0 (by omega)
        refine wp_iload_n dX11_askOf_73 rfl ?_
        refine g_callS1 (mj := mX11_size) dX11_askOf_74 lkRX11_342 mkX11_size (by decide) (by decide) (Nat.le_of_ble_eq_true rfl) (c_size ?_)
        refine wp_iload dX11_askOf_77 rfl ?_
        refine wp_isub dX11_askOf_79 ?_
        refine st_i_9_7 dX11_askOf_80 (by decide) rfl ?_
        refine wp_iload dX11_askOf_82 rfl ?_
        refine wp_iload dX11_askOf_84 rfl ?_
        refine wp_icmp_le dX11_askOf_86 (fun h86 => ?_) (fun h86 => ?_)
        · skip
          refine wp_iload dX11_askOf_94 rfl ?_
          refine st_i_9_8 dX11_askOf_96 (by decide) rfl ?_
          refine wp_iload dX11_askOf_98 rfl ?_
          refine wp_iload dX11_askOf_100 rfl ?_
          refine wp_icmp_ge dX11_askOf_102 (fun h102 => ?_) (fun h102 => ?_)
          · skip
            refine wp_iload_n dX11_askOf_110 rfl ?_
            refine st_i_9_3 dX11_askOf_111 (by decide) rfl ?_
            refine wp_iload dX11_askOf_112 rfl ?_
            refine wp_iload dX11_askOf_114 rfl ?_
            refine wp_icmp_ge dX11_askOf_116 (fun h116 => ?_) (fun h116 => ?_)
            · skip
              refine wp_iload dX11_askOf_124 rfl ?_
              refine st_i_9_4 dX11_askOf_126 (by decide) rfl ?_
              refine ic_9_5 (nI (v + 1)) dX11_askOf_128 (nI_inc v) (by decide) rfl ?_
              refine wp_goto dX11_askOf_131 ?_
              first | exact absurd h102 h116 | exact absurd h116 h102 | (have t_q := fun u6 u7 u8 => ih _ (by omega) (v + 1) u6 u7 u8 rfl (by omega) (Or.inr h23); simp only [akM, wsM] at t_q; (first | (simp only [if_pos h86] at t_q h102 h116) | (simp only [if_neg h86] at t_q h102 h116)); (first | (simp only [if_pos h102] at t_q) | (simp only [if_neg h102] at t_q)); exact t_q _ _ _)
            · skip
              refine wp_iload dX11_askOf_119 rfl ?_
              refine wp_goto dX11_askOf_121 ?_
              refine st_i_9_4 dX11_askOf_126 (by decide) rfl ?_
              refine ic_9_5 (nI (v + 1)) dX11_askOf_128 (nI_inc v) (by decide) rfl ?_
              refine wp_goto dX11_askOf_131 ?_
              first | exact absurd h102 h116 | exact absurd h116 h102 | (have t_q := fun u6 u7 u8 => ih _ (by omega) (v + 1) u6 u7 u8 rfl (by omega) (Or.inr h23); simp only [akM, wsM] at t_q; (first | (simp only [if_pos h86] at t_q h102 h116) | (simp only [if_neg h86] at t_q h102 h116)); (first | (simp only [if_pos h102] at t_q) | (simp only [if_neg h102] at t_q)); exact t_q _ _ _)
          · skip
            refine wp_iload dX11_askOf_105 rfl ?_
            refine wp_goto dX11_askOf_107 ?_
            refine st_i_9_3 dX11_askOf_111 (by decide) rfl ?_
            refine wp_iload dX11_askOf_112 rfl ?_
            refine wp_iload dX11_askOf_114 rfl ?_
            refine wp_icmp_ge dX11_askOf_116 (fun h116 => ?_) (fun h116 => ?_)
            · skip
              refine wp_iload dX11_askOf_124 rfl ?_
              refine st_i_9_4 dX11_askOf_126 (by decide) rfl ?_
              refine ic_9_5 (nI (v + 1)) dX11_askOf_128 (nI_inc v) (by decide) rfl ?_
              refine wp_goto dX11_askOf_131 ?_
              first | exact absurd h102 h116 | exact absurd h116 h102 | (have t_q := fun u6 u7 u8 => ih _ (by omega) (v + 1) u6 u7 u8 rfl (by omega) (Or.inr h23); simp only [akM, wsM] at t_q; (first | (simp only [if_pos h86] at t_q h102 h116) | (simp only [if_neg h86] at t_q h102 h116)); (first | (simp only [if_pos h102] at t_q) | (simp only [if_neg h102] at t_q)); exact t_q _ _ _)
            · skip
              refine wp_iload dX11_askOf_119 rfl ?_
              refine wp_goto dX11_askOf_121 ?_
              refine st_i_9_4 dX11_askOf_126 (by decide) rfl ?_
              refine ic_9_5 (nI (v + 1)) dX11_askOf_128 (nI_inc v) (by decide) rfl ?_
              refine wp_goto dX11_askOf_131 ?_
              first | exact absurd h102 h116 | exact absurd h116 h102 | (have t_q := fun u6 u7 u8 => ih _ (by omega) (v + 1) u6 u7 u8 rfl (by omega) (Or.inr h23); simp only [akM, wsM] at t_q; (first | (simp only [if_pos h86] at t_q h102 h116) | (simp only [if_neg h86] at t_q h102 h116)); (first | (simp only [if_pos h102] at t_q) | (simp only [if_neg h102] at t_q)); exact t_q _ _ _)
        · skip
          refine wp_iload dX11_askOf_89 rfl ?_
          refine wp_goto dX11_askOf_91 ?_
          refine st_i_9_8 dX11_askOf_96 (by decide) rfl ?_
          refine wp_iload dX11_askOf_98 rfl ?_
          refine wp_iload dX11_askOf_100 rfl ?_
          refine wp_icmp_ge dX11_askOf_102 (fun h102 => ?_) (fun h102 => ?_)
          · skip
            refine wp_iload_n dX11_askOf_110 rfl ?_
            refine st_i_9_3 dX11_askOf_111 (by decide) rfl ?_
            refine wp_iload dX11_askOf_112 rfl ?_
            refine wp_iload dX11_askOf_114 rfl ?_
            refine wp_icmp_ge dX11_askOf_116 (fun h116 => ?_) (fun h116 => ?_)
            · skip
              refine wp_iload dX11_askOf_124 rfl ?_
              refine st_i_9_4 dX11_askOf_126 (by decide) rfl ?_
              refine ic_9_5 (nI (v + 1)) dX11_askOf_128 (nI_inc v) (by decide) rfl ?_
              refine wp_goto dX11_askOf_131 ?_
              first | exact absurd h102 h116 | exact absurd h116 h102 | (have t_q := fun u6 u7 u8 => ih _ (by omega) (v + 1) u6 u7 u8 rfl (by omega) (Or.inr h23); simp only [akM, wsM] at t_q; (first | (simp only [if_pos h86] at t_q h102 h116) | (simp only [if_neg h86] at t_q h102 h116)); (first | (simp only [if_pos h102] at t_q) | (simp only [if_neg h102] at t_q)); exact t_q _ _ _)
            · skip
              refine wp_iload dX11_askOf_119 rfl ?_
              refine wp_goto dX11_askOf_121 ?_
              refine st_i_9_4 dX11_askOf_126 (by decide) rfl ?_
              refine ic_9_5 (nI (v + 1)) dX11_askOf_128 (nI_inc v) (by decide) rfl ?_
              refine wp_goto dX11_askOf_131 ?_
              first | exact absurd h102 h116 | exact absurd h116 h102 | (have t_q := fun u6 u7 u8 => ih _ (by omega) (v + 1) u6 u7 u8 rfl (by omega) (Or.inr h23); simp only [akM, wsM] at t_q; (first | (simp only [if_pos h86] at t_q h102 h116) | (simp only [if_neg h86] at t_q h102 h116)); (first | (simp only [if_pos h102] at t_q) | (simp only [if_neg h102] at t_q)); exact t_q _ _ _)
          · skip
            refine wp_iload dX11_askOf_105 rfl ?_
            refine wp_goto dX11_askOf_107 ?_
            refine st_i_9_3 dX11_askOf_111 (by decide) rfl ?_
            refine wp_iload dX11_askOf_112 rfl ?_
            refine wp_iload dX11_askOf_114 rfl ?_
            refine wp_icmp_ge dX11_askOf_116 (fun h116 => ?_) (fun h116 => ?_)
            · skip
              refine wp_iload dX11_askOf_124 rfl ?_
              refine st_i_9_4 dX11_askOf_126 (by decide) rfl ?_
              refine ic_9_5 (nI (v + 1)) dX11_askOf_128 (nI_inc v) (by decide) rfl ?_
              refine wp_goto dX11_askOf_131 ?_
              first | exact absurd h102 h116 | exact absurd h116 h102 | (have t_q := fun u6 u7 u8 => ih _ (by omega) (v + 1) u6 u7 u8 rfl (by omega) (Or.inr h23); simp only [akM, wsM] at t_q; (first | (simp only [if_pos h86] at t_q h102 h116) | (simp only [if_neg h86] at t_q h102 h116)); (first | (simp only [if_pos h102] at t_q) | (simp only [if_neg h102] at t_q)); exact t_q _ _ _)
            · skip
              refine wp_iload dX11_askOf_119 rfl ?_
              refine wp_goto dX11_askOf_121 ?_
              refine st_i_9_4 dX11_askOf_126 (by decide) rfl ?_
              refine ic_9_5 (nI (v + 1)) dX11_askOf_128 (nI_inc v) (by decide) rfl ?_
              refine wp_goto dX11_askOf_131 ?_
              first | exact absurd h102 h116 | exact absurd h116 h102 | (have t_q := fun u6 u7 u8 => ih _ (by omega) (v + 1) u6 u7 u8 rfl (by omega) (Or.inr h23); simp only [akM, wsM] at t_q; (first | (simp only [if_pos h86] at t_q h102 h116) | (simp only [if_neg h86] at t_q h102 h116)); (first | (simp only [if_pos h102] at t_q) | (simp only [if_neg h102] at t_q)); exact t_q _ _ _)
set_option maxHeartbeats 4000000 in
theorem c_askOf {I S : Mem} {J : Mel} {Q : Option Value → Mem → Mem → Mel → Prop} {a s : Nat} (hs_q : S 126 19 = nI s) (hs6_q : s ≤ 6) (hv_q : ∀ j, j < s → ∃ v, v < 4 ∧ S 141 j = nI v) (k : Q (some (.int (askM (sbM S a s 5)))) I S J) : M2 mX11_askOf 3 [.ref 126, .int (nI a)] I S J Q := by
  refine m2_of [.ref 126, .int (nI a), dum, dum, dum, dum, dum, dum, dum] moX11_askOf (Nat.le_of_ble_eq_true rfl) rfl ?_
  refine wp_aload_n dX11_askOf_0 rfl ?_
  refine wp_iload_n dX11_askOf_1 rfl ?_
  refine g_callV1 (mj := mX11_sortsOf) dX11_askOf_2 lkRX11_236 mkX11_sortsOf (by first | rfl | assumption) (by decide) (by decide) (Nat.le_of_ble_eq_true rfl) (c_sortsOf hs_q hs6_q hv_q ?_)
  refine st_i_9_2 dX11_askOf_5 (by decide) rfl ?_
  refine wp_iconst (-1) dX11_askOf_6 (by decide) ?_
  refine st_i_9_3 dX11_askOf_7 (by decide) rfl ?_
  refine wp_ldcw dX11_askOf_8 kcRX11_338 ?_
  refine st_i_9_4 dX11_askOf_11 (by decide) rfl ?_
  refine wp_iconst 0 dX11_askOf_13 (by decide) ?_
  refine st_i_9_5 dX11_askOf_14 (by decide) rfl ?_
  exact l_ask k 0 dum dum dum (by omega) (Or.inl rfl)
/-- what actor() tells -/
def aN (S : Mem) (a v : Nat) : Int32 := match v with
  | 0 => S 127 a
  | 1 => S 130 a
  | 2 => S 131 a
  | 3 => S 132 a
  | 4 => S 133 a
  | 5 => S 136 a
  | 6 => S 128 a
  | 7 => sbM S a (tn (S 126 19)) 5
  | 8 => askM (sbM S a (tn (S 126 19)) 5)
  | _ => lkN S a (tn (S 126 13))
set_option maxHeartbeats 4000000 in
theorem c_actorNow {I S : Mem} {J : Mel} {Q : Option Value → Mem → Mem → Mel → Prop} {a v : Nat} (ha_q : a < 6) (hv9_q : v < 10) {s l : Nat} (hs_q : S 126 19 = nI s) (hs6_q : s ≤ 6) (hv_q : ∀ j, j < s → ∃ v, v < 4 ∧ S 141 j = nI v) (hl_q : S 126 13 = nI l) (hl6_q : l ≤ 6) (k : Q (some (.int (aN S a v))) I S J) : M2 mX11_actorNow 4 [.ref 126, .int (nI a), .int (nI v)] I S J Q := by
  refine m2_of [.ref 126, .int (nI a), .int (nI v)] moX11_actorNow (Nat.le_of_ble_eq_true rfl) rfl ?_
  refine wp_iload_n dX11_actorNow_0 rfl ?_
  rcases (show v = 0 ∨ v = 1 ∨ v = 2 ∨ v = 3 ∨ v = 4 ∨ v = 5 ∨ v = 6 ∨ v = 7 ∨ v = 8 ∨ v = 9 by omega) with rfl | rfl | rfl | rfl | rfl | rfl | rfl | rfl | rfl | rfl
  · skip
    refine wp_tswIn (off := 51) (tgt := 52) dX11_actorNow_1 0 rfl (by decide) (by decide) (by decide) (by decide) ?_
    refine wp_aload_n dX11_actorNow_52 rfl ?_
    refine wp_getA (by first | rfl | assumption) dX11_actorNow_53 flRX11_7 (by first | rfl | assumption) ?_
    refine wp_iload_n dX11_actorNow_56 rfl ?_
    refine m_iald dX11_actorNow_57 (by first | rfl | assumption) (by first | rfl | assumption) (by first | decide | omega | assumption) (by decide) (by decide) ?_
    refine g_iret dX11_actorNow_58 rfl ?_
    exact k
  · skip
    refine wp_tswIn (off := 58) (tgt := 59) dX11_actorNow_1 1 rfl (by decide) (by decide) (by decide) (by decide) ?_
    refine wp_aload_n dX11_actorNow_59 rfl ?_
    refine wp_getA (by first | rfl | assumption) dX11_actorNow_60 flRX11_19 (by first | rfl | assumption) ?_
    refine wp_iload_n dX11_actorNow_63 rfl ?_
    refine m_iald dX11_actorNow_64 (by first | rfl | assumption) (by first | rfl | assumption) (by first | decide | omega | assumption) (by decide) (by decide) ?_
    refine g_iret dX11_actorNow_65 rfl ?_
    exact k
  · skip
    refine wp_tswIn (off := 65) (tgt := 66) dX11_actorNow_1 2 rfl (by decide) (by decide) (by decide) (by decide) ?_
    refine wp_aload_n dX11_actorNow_66 rfl ?_
    refine wp_getA (by first | rfl | assumption) dX11_actorNow_67 flRX11_22 (by first | rfl | assumption) ?_
    refine wp_iload_n dX11_actorNow_70 rfl ?_
    refine m_iald dX11_actorNow_71 (by first | rfl | assumption) (by first | rfl | assumption) (by first | decide | omega | assumption) (by decide) (by decide) ?_
    refine g_iret dX11_actorNow_72 rfl ?_
    exact k
  · skip
    refine wp_tswIn (off := 72) (tgt := 73) dX11_actorNow_1 3 rfl (by decide) (by decide) (by decide) (by decide) ?_
    refine wp_aload_n dX11_actorNow_73 rfl ?_
    refine wp_getA (by first | rfl | assumption) dX11_actorNow_74 flRX11_25 (by first | rfl | assumption) ?_
    refine wp_iload_n dX11_actorNow_77 rfl ?_
    refine m_iald dX11_actorNow_78 (by first | rfl | assumption) (by first | rfl | assumption) (by first | decide | omega | assumption) (by decide) (by decide) ?_
    refine g_iret dX11_actorNow_79 rfl ?_
    exact k
  · skip
    refine wp_tswIn (off := 79) (tgt := 80) dX11_actorNow_1 4 rfl (by decide) (by decide) (by decide) (by decide) ?_
    refine wp_aload_n dX11_actorNow_80 rfl ?_
    refine wp_getA (by first | rfl | assumption) dX11_actorNow_81 flRX11_28 (by first | rfl | assumption) ?_
    refine wp_iload_n dX11_actorNow_84 rfl ?_
    refine m_iald dX11_actorNow_85 (by first | rfl | assumption) (by first | rfl | assumption) (by first | decide | omega | assumption) (by decide) (by decide) ?_
    refine g_iret dX11_actorNow_86 rfl ?_
    exact k
  · skip
    refine wp_tswIn (off := 86) (tgt := 87) dX11_actorNow_1 5 rfl (by decide) (by decide) (by decide) (by decide) ?_
    refine wp_aload_n dX11_actorNow_87 rfl ?_
    refine wp_getA (by first | rfl | assumption) dX11_actorNow_88 flRX11_37 (by first | rfl | assumption) ?_
    refine wp_iload_n dX11_actorNow_91 rfl ?_
    refine m_iald dX11_actorNow_92 (by first | rfl | assumption) (by first | rfl | assumption) (by first | decide | omega | assumption) (by decide) (by decide) ?_
    refine g_iret dX11_actorNow_93 rfl ?_
    exact k
  · skip
    refine wp_tswIn (off := 93) (tgt := 94) dX11_actorNow_1 6 rfl (by decide) (by decide) (by decide) (by decide) ?_
    refine wp_aload_n dX11_actorNow_94 rfl ?_
    refine wp_getA (by first | rfl | assumption) dX11_actorNow_95 flRX11_13 (by first | rfl | assumption) ?_
    refine wp_iload_n dX11_actorNow_98 rfl ?_
    refine m_iald dX11_actorNow_99 (by first | rfl | assumption) (by first | rfl | assumption) (by first | decide | omega | assumption) (by decide) (by decide) ?_
    refine g_iret dX11_actorNow_100 rfl ?_
    exact k
  · skip
    refine wp_tswIn (off := 100) (tgt := 101) dX11_actorNow_1 7 rfl (by decide) (by decide) (by decide) (by decide) ?_
    refine wp_aload_n dX11_actorNow_101 rfl ?_
    refine wp_iload_n dX11_actorNow_102 rfl ?_
    refine g_callV1 (mj := mX11_sortsOf) dX11_actorNow_103 lkRX11_236 mkX11_sortsOf (by first | rfl | assumption) (by decide) (by decide) (Nat.le_of_ble_eq_true rfl) (c_sortsOf hs_q hs6_q hv_q ?_)
    refine g_iret dX11_actorNow_106 rfl ?_
    simp only [aN] at k; rw [hs_q, tn_nI (by omega)] at k; exact k
  · skip
    refine wp_tswIn (off := 106) (tgt := 107) dX11_actorNow_1 8 rfl (by decide) (by decide) (by decide) (by decide) ?_
    refine wp_aload_n dX11_actorNow_107 rfl ?_
    refine wp_iload_n dX11_actorNow_108 rfl ?_
    refine g_callV1 (mj := mX11_askOf) dX11_actorNow_109 lkRX11_239 mkX11_askOf (by first | rfl | assumption) (by decide) (by decide) (Nat.le_of_ble_eq_true rfl) (c_askOf hs_q hs6_q hv_q ?_)
    refine g_iret dX11_actorNow_112 rfl ?_
    simp only [aN] at k; rw [hs_q, tn_nI (by omega)] at k; exact k
  · skip
    refine wp_tswOut (tgt := 113) dX11_actorNow_1 (by decide) (by decide) ?_
    refine wp_aload_n dX11_actorNow_113 rfl ?_
    refine wp_iload_n dX11_actorNow_114 rfl ?_
    refine g_callV1 (mj := mX11_linksOf) dX11_actorNow_115 lkRX11_242 mkX11_linksOf (by first | rfl | assumption) (by decide) (by decide) (Nat.le_of_ble_eq_true rfl) (c_linksOf hl_q hl6_q ?_)
    refine g_iret dX11_actorNow_118 rfl ?_
    simp only [aN] at k; rw [hl_q, tn_nI (by omega)] at k; exact k
def spActor (S : Mem) (x y : Int32) : Int32 := if isA S x then (if 0 ≤ y ∧ y ≤ 9 then aN S (tn x) (tn y) else -102) else -101
set_option maxHeartbeats 4000000 in
theorem c_actor {I S : Mem} {J : Mel} {Q : Option Value → Mem → Mem → Mel → Prop} {n : Nat} (hn_q : n ≤ 6) (ha_q : S 126 1 = nI n) {x y : Int32} {s l : Nat} (hs_q : S 126 19 = nI s) (hs6_q : s ≤ 6) (hv_q : ∀ j, j < s → ∃ v, v < 4 ∧ S 141 j = nI v) (hl_q : S 126 13 = nI l) (hl6_q : l ≤ 6) (k : Q (some (.int (spActor S x y))) I S J) : M2 mX11_actor 5 [.ref 126, .int x, .int y] I S J Q := by
  refine m2_of [.ref 126, .int x, .int y] moX11_actor (Nat.le_of_ble_eq_true rfl) rfl ?_
  refine wp_aload_n dX11_actor_0 rfl ?_
  refine wp_iload_n dX11_actor_1 rfl ?_
  refine g_callV1 (mj := mX11_isActor) dX11_actor_2 lkRX11_245 mkX11_isActor (by first | rfl | assumption) (by decide) (by decide) (Nat.le_of_ble_eq_true rfl) (c_isActor ?_)
  refine wp_if_ne dX11_actor_5 (fun h5 => ?_) (fun h5 => ?_)
  · skip
    refine wp_iload_n dX11_actor_13 rfl ?_
    refine wp_iconst 0 dX11_actor_14 (by decide) ?_
    refine wp_bipush 9 dX11_actor_15 (by decide) ?_
    refine g_callS3 (mj := mX11_within) dX11_actor_17 lkRX11_149 mkX11_within (by decide) (by decide) (Nat.le_of_ble_eq_true rfl) (c_within ?_)
    refine wp_if_eq dX11_actor_20 (fun h20 => ?_) (fun h20 => ?_)
    · skip
      refine wp_bipush (-102) dX11_actor_32 (by decide) ?_
      refine g_iret dX11_actor_34 rfl ?_
      unfold spActor at k
      first | (rw [if_neg (b01_e0 h5)] at k; exact k) | (rw [if_pos (b01_ne h5), if_neg (b01_e0 h20)] at k; exact k) | (rw [if_pos (b01_ne h5), if_pos (b01_ne h20), tn_nI (by omega), tn_nI (by omega)] at k; exact k)
    · skip
      obtain ⟨i, hi_q, rfl⟩ := isA_of ha_q hn_q (b01_ne h5)
      obtain ⟨v, hv9_q, rfl⟩ := in_of (m := 9) (by omega) (b01_ne h20).1 (b01_ne h20).2
      refine wp_aload_n dX11_actor_23 rfl ?_
      refine wp_iload_n dX11_actor_24 rfl ?_
      refine wp_iload_n dX11_actor_25 rfl ?_
      refine g_callV2 (mj := mX11_actorNow) dX11_actor_26 lkRX11_248 mkX11_actorNow (by first | rfl | assumption) (by decide) (by decide) (Nat.le_of_ble_eq_true rfl) (c_actorNow (by omega) (by omega) hs_q hs6_q hv_q hl_q hl6_q ?_)
      refine wp_goto dX11_actor_29 ?_
      refine g_iret dX11_actor_34 rfl ?_
      unfold spActor at k
      first | (rw [if_neg (b01_e0 h5)] at k; exact k) | (rw [if_pos (b01_ne h5), if_neg (b01_e0 h20)] at k; exact k) | (rw [if_pos (b01_ne h5), if_pos (b01_ne h20), tn_nI (by omega), tn_nI (by omega)] at k; exact k)
  · skip
    refine wp_bipush (-101) dX11_actor_8 (by decide) ?_
    refine wp_goto dX11_actor_10 ?_
    refine g_iret dX11_actor_34 rfl ?_
    unfold spActor at k
    first | (rw [if_neg (b01_e0 h5)] at k; exact k) | (rw [if_pos (b01_ne h5), if_neg (b01_e0 h20)] at k; exact k) | (rw [if_pos (b01_ne h5), if_pos (b01_ne h20), tn_nI (by omega), tn_nI (by omega)] at k; exact k)
def spBox (S : Mem) (x y v : Int32) : Int32 := if isA S x ∧ 0 ≤ y ∧ y ≤ S 133 (tn x) - 1 then (if 0 ≤ v ∧ v ≤ 1 then S (if v = 0 then 134 else 135) (5 * tn x + tn y) else -102) else -101
set_option maxHeartbeats 4000000 in
theorem c_box {I S : Mem} {J : Mel} {Q : Option Value → Mem → Mem → Mel → Prop} {n : Nat} (hn_q : n ≤ 6) (ha_q : S 126 1 = nI n) {x y v : Int32} (hb_q : ∀ i, i < n → ∃ b, b ≤ 5 ∧ S 133 i = nI b) (k : Q (some (.int (spBox S x y v))) I S J) : M2 mX11_box 3 [.ref 126, .int x, .int y, .int v] I S J Q := by
  refine m2_of [.ref 126, .int x, .int y, .int v, dum] moX11_box (Nat.le_of_ble_eq_true rfl) rfl ?_
  refine wp_aload_n dX11_box_0 rfl ?_
  refine wp_iload_n dX11_box_1 rfl ?_
  refine g_callV1 (mj := mX11_isActor) dX11_box_2 lkRX11_245 mkX11_isActor (by first | rfl | assumption) (by decide) (by decide) (Nat.le_of_ble_eq_true rfl) (c_isActor ?_)
  refine wp_if_eq dX11_box_5 (fun h5 => ?_) (fun h5 => ?_)
  · skip
    refine wp_bipush (-101) dX11_box_24 (by decide) ?_
    refine g_iret dX11_box_26 rfl ?_
    unfold spBox at k
    first | (rw [if_neg (fun q => b01_e0 h5 q.1)] at k; exact k) | (rw [if_neg (fun q => b01_e0 h21 (by have := q.2; rwa [tn_nI (by omega)] at this))] at k; exact k) | (rw [if_pos ⟨b01_ne h5, by rw [tn_nI (by omega)]; exact b01_ne h21⟩] at k; first | (rw [if_neg (b01_e0 h40)] at k; exact k) | (rw [if_pos (b01_ne h40), tn_nI (by omega), tn_nI (by omega)] at k; first | (rw [if_pos h49] at k; exact k) | (rw [if_neg h49] at k; exact k)))
  · skip
    obtain ⟨i, hi_q, rfl⟩ := isA_of ha_q hn_q (b01_ne h5)
    obtain ⟨b, hb5_q, hbb_q⟩ := hb_q i hi_q
    refine wp_iload_n dX11_box_8 rfl ?_
    refine wp_iconst 0 dX11_box_9 (by decide) ?_
    refine wp_aload_n dX11_box_10 rfl ?_
    refine wp_getA (by first | rfl | assumption) dX11_box_11 flRX11_28 (by first | rfl | assumption) ?_
    refine wp_iload_n dX11_box_14 rfl ?_
    refine m_iald dX11_box_15 rfl rfl (by omega) (by decide) (by decide) ?_
    refine wp_iconst 1 dX11_box_16 (by decide) ?_
    refine wp_isub dX11_box_17 ?_
    refine g_callS3 (mj := mX11_within) dX11_box_18 lkRX11_149 mkX11_within (by decide) (by decide) (Nat.le_of_ble_eq_true rfl) (c_within ?_)
    refine wp_if_ne dX11_box_21 (fun h21 => ?_) (fun h21 => ?_)
    · skip
      have hy_q := b01_ne h21
      rw [hbb_q] at hy_q
      have hb1_q : 1 ≤ b := by rcases Nat.eq_zero_or_pos b with e_q | e_q; (rw [e_q] at hy_q; exact absurd (Int32.le_trans hy_q.1 hy_q.2) (by decide)); exact e_q
      rw [nI_s1 hb1_q] at hy_q
      obtain ⟨p, hp_q, rfl⟩ := in_of (by omega) hy_q.1 hy_q.2
      refine wp_iconst 5 dX11_box_27 (by decide) ?_
      refine wp_iload_n dX11_box_28 rfl ?_
      refine wp_imul dX11_box_29 ?_
      refine wp_iload_n dX11_box_30 rfl ?_
      refine wp_iadd dX11_box_31 ?_
      refine st_i_5_4 dX11_box_32 (by decide) rfl ?_
      refine wp_iload_n dX11_box_34 rfl ?_
      refine wp_iconst 0 dX11_box_35 (by decide) ?_
      refine wp_iconst 1 dX11_box_36 (by decide) ?_
      refine g_callS3 (mj := mX11_within) dX11_box_37 lkRX11_149 mkX11_within (by decide) (by decide) (Nat.le_of_ble_eq_true rfl) (c_within ?_)
      refine wp_if_ne dX11_box_40 (fun h40 => ?_) (fun h40 => ?_)
      · skip
        refine wp_iload_n dX11_box_48 rfl ?_
        refine wp_if_ne dX11_box_49 (fun h49 => ?_) (fun h49 => ?_)
        · skip
          refine wp_aload_n dX11_box_62 rfl ?_
          refine wp_getA (by first | rfl | assumption) dX11_box_63 flRX11_34 (by first | rfl | assumption) ?_
          refine wp_iload dX11_box_66 rfl ?_
          refine m_iald dX11_box_68 rfl (nI_mad 5 i p) (by omega) (by decide) (by decide) ?_
          refine g_iret dX11_box_69 rfl ?_
          unfold spBox at k
          first | (rw [if_neg (fun q => b01_e0 h5 q.1)] at k; exact k) | (rw [if_neg (fun q => b01_e0 h21 (by have := q.2; rwa [tn_nI (by omega)] at this))] at k; exact k) | (rw [if_pos ⟨b01_ne h5, by rw [tn_nI (by omega)]; exact b01_ne h21⟩] at k; first | (rw [if_neg (b01_e0 h40)] at k; exact k) | (rw [if_pos (b01_ne h40), tn_nI (by omega), tn_nI (by omega)] at k; first | (rw [if_pos h49] at k; exact k) | (rw [if_neg h49] at k; exact k)))
        · skip
          refine wp_aload_n dX11_box_52 rfl ?_
          refine wp_getA (by first | rfl | assumption) dX11_box_53 flRX11_31 (by first | rfl | assumption) ?_
          refine wp_iload dX11_box_56 rfl ?_
          refine m_iald dX11_box_58 rfl (nI_mad 5 i p) (by omega) (by decide) (by decide) ?_
          refine wp_goto dX11_box_59 ?_
          refine g_iret dX11_box_69 rfl ?_
          unfold spBox at k
          first | (rw [if_neg (fun q => b01_e0 h5 q.1)] at k; exact k) | (rw [if_neg (fun q => b01_e0 h21 (by have := q.2; rwa [tn_nI (by omega)] at this))] at k; exact k) | (rw [if_pos ⟨b01_ne h5, by rw [tn_nI (by omega)]; exact b01_ne h21⟩] at k; first | (rw [if_neg (b01_e0 h40)] at k; exact k) | (rw [if_pos (b01_ne h40), tn_nI (by omega), tn_nI (by omega)] at k; first | (rw [if_pos h49] at k; exact k) | (rw [if_neg h49] at k; exact k)))
      · skip
        refine wp_bipush (-102) dX11_box_43 (by decide) ?_
        refine wp_goto dX11_box_45 ?_
        refine g_iret dX11_box_69 rfl ?_
        unfold spBox at k
        first | (rw [if_neg (fun q => b01_e0 h5 q.1)] at k; exact k) | (rw [if_neg (fun q => b01_e0 h21 (by have := q.2; rwa [tn_nI (by omega)] at this))] at k; exact k) | (rw [if_pos ⟨b01_ne h5, by rw [tn_nI (by omega)]; exact b01_ne h21⟩] at k; first | (rw [if_neg (b01_e0 h40)] at k; exact k) | (rw [if_pos (b01_ne h40), tn_nI (by omega), tn_nI (by omega)] at k; first | (rw [if_pos h49] at k; exact k) | (rw [if_neg h49] at k; exact k)))
    · skip
      refine wp_bipush (-101) dX11_box_24 (by decide) ?_
      refine g_iret dX11_box_26 rfl ?_
      unfold spBox at k
      first | (rw [if_neg (fun q => b01_e0 h5 q.1)] at k; exact k) | (rw [if_neg (fun q => b01_e0 h21 (by have := q.2; rwa [tn_nI (by omega)] at this))] at k; exact k) | (rw [if_pos ⟨b01_ne h5, by rw [tn_nI (by omega)]; exact b01_ne h21⟩] at k; first | (rw [if_neg (b01_e0 h40)] at k; exact k) | (rw [if_pos (b01_ne h40), tn_nI (by omega), tn_nI (by omega)] at k; first | (rw [if_pos h49] at k; exact k) | (rw [if_neg h49] at k; exact k)))
def spAs (S : Mem) (x y : Int32) : Int32 := if isA S x then (if 0 ≤ y ∧ y ≤ 4 then (if y = 0 ∨ S 127 (tn x) = y ∨ (y = 1 ∧ S 127 (tn x) = 2) then x else -1) else -102) else -101
set_option maxHeartbeats 4000000 in
theorem c_as {I S : Mem} {J : Mel} {Q : Option Value → Mem → Mem → Mel → Prop} {n : Nat} (hn_q : n ≤ 6) (ha_q : S 126 1 = nI n) {x y : Int32} (k : Q (some (.int (spAs S x y))) I S J) : M2 mX11_as 3 [.ref 126, .int x, .int y] I S J Q := by
  refine m2_of [.ref 126, .int x, .int y, dum] moX11_as (Nat.le_of_ble_eq_true rfl) rfl ?_
  refine wp_aload_n dX11_as_0 rfl ?_
  refine wp_iload_n dX11_as_1 rfl ?_
  refine g_callV1 (mj := mX11_isActor) dX11_as_2 lkRX11_245 mkX11_isActor (by first | rfl | assumption) (by decide) (by decide) (Nat.le_of_ble_eq_true rfl) (c_isActor ?_)
  refine wp_if_ne dX11_as_5 (fun h5 => ?_) (fun h5 => ?_)
  · skip
    refine wp_iload_n dX11_as_11 rfl ?_
    refine wp_iconst 0 dX11_as_12 (by decide) ?_
    refine wp_iconst 4 dX11_as_13 (by decide) ?_
    refine g_callS3 (mj := mX11_within) dX11_as_14 lkRX11_149 mkX11_within (by decide) (by decide) (Nat.le_of_ble_eq_true rfl) (c_within ?_)
    refine wp_if_ne dX11_as_17 (fun h17 => ?_) (fun h17 => ?_)
    · skip
      obtain ⟨i, hi_q, rfl⟩ := isA_of ha_q hn_q (b01_ne h5)
      refine wp_aload_n dX11_as_23 rfl ?_
      refine wp_getA (by first | rfl | assumption) dX11_as_24 flRX11_7 (by first | rfl | assumption) ?_
      refine wp_iload_n dX11_as_27 rfl ?_
      refine m_iald dX11_as_28 rfl rfl (by omega) (by decide) (by decide) ?_
      refine st_i_4_3 dX11_as_29 (by decide) rfl ?_
      refine wp_iload_n dX11_as_30 rfl ?_
      refine wp_if_eq dX11_as_31 (fun h31 => ?_) (fun h31 => ?_)
      · skip
        refine wp_iload_n dX11_as_49 rfl ?_
        refine wp_goto dX11_as_50 ?_
        refine g_iret dX11_as_54 rfl ?_
        unfold spAs at k
        first | (rw [if_neg (b01_e0 h5)] at k; exact k) | (rw [if_pos (b01_ne h5), if_neg (b01_e0 h17)] at k; exact k) | (rw [if_pos (b01_ne h5), if_pos (b01_ne h17), tn_nI (by omega)] at k; first | (rw [if_pos (by grind)] at k; exact k) | (rw [if_neg (by grind)] at k; exact k))
      · skip
        refine wp_iload_n dX11_as_34 rfl ?_
        refine wp_iload_n dX11_as_35 rfl ?_
        refine wp_icmp_eq dX11_as_36 (fun h36 => ?_) (fun h36 => ?_)
        · skip
          refine wp_iload_n dX11_as_49 rfl ?_
          refine wp_goto dX11_as_50 ?_
          refine g_iret dX11_as_54 rfl ?_
          unfold spAs at k
          first | (rw [if_neg (b01_e0 h5)] at k; exact k) | (rw [if_pos (b01_ne h5), if_neg (b01_e0 h17)] at k; exact k) | (rw [if_pos (b01_ne h5), if_pos (b01_ne h17), tn_nI (by omega)] at k; first | (rw [if_pos (by grind)] at k; exact k) | (rw [if_neg (by grind)] at k; exact k))
        · skip
          refine wp_iload_n dX11_as_39 rfl ?_
          refine wp_iconst 1 dX11_as_40 (by decide) ?_
          refine wp_icmp_ne dX11_as_41 (fun h41 => ?_) (fun h41 => ?_)
          · skip
            refine wp_iconst (-1) dX11_as_53 (by decide) ?_
            refine g_iret dX11_as_54 rfl ?_
            unfold spAs at k
            first | (rw [if_neg (b01_e0 h5)] at k; exact k) | (rw [if_pos (b01_ne h5), if_neg (b01_e0 h17)] at k; exact k) | (rw [if_pos (b01_ne h5), if_pos (b01_ne h17), tn_nI (by omega)] at k; first | (rw [if_pos (by grind)] at k; exact k) | (rw [if_neg (by grind)] at k; exact k))
          · skip
            refine wp_iload_n dX11_as_44 rfl ?_
            refine wp_iconst 2 dX11_as_45 (by decide) ?_
            refine wp_icmp_ne dX11_as_46 (fun h46 => ?_) (fun h46 => ?_)
            · skip
              refine wp_iconst (-1) dX11_as_53 (by decide) ?_
              refine g_iret dX11_as_54 rfl ?_
              unfold spAs at k
              first | (rw [if_neg (b01_e0 h5)] at k; exact k) | (rw [if_pos (b01_ne h5), if_neg (b01_e0 h17)] at k; exact k) | (rw [if_pos (b01_ne h5), if_pos (b01_ne h17), tn_nI (by omega)] at k; first | (rw [if_pos (by grind)] at k; exact k) | (rw [if_neg (by grind)] at k; exact k))
            · skip
              refine wp_iload_n dX11_as_49 rfl ?_
              refine wp_goto dX11_as_50 ?_
              refine g_iret dX11_as_54 rfl ?_
              unfold spAs at k
              first | (rw [if_neg (b01_e0 h5)] at k; exact k) | (rw [if_pos (b01_ne h5), if_neg (b01_e0 h17)] at k; exact k) | (rw [if_pos (b01_ne h5), if_pos (b01_ne h17), tn_nI (by omega)] at k; first | (rw [if_pos (by grind)] at k; exact k) | (rw [if_neg (by grind)] at k; exact k))
    · skip
      refine wp_bipush (-102) dX11_as_20 (by decide) ?_
      refine g_iret dX11_as_22 rfl ?_
      unfold spAs at k
      first | (rw [if_neg (b01_e0 h5)] at k; exact k) | (rw [if_pos (b01_ne h5), if_neg (b01_e0 h17)] at k; exact k) | (rw [if_pos (b01_ne h5), if_pos (b01_ne h17), tn_nI (by omega)] at k; first | (rw [if_pos (by grind)] at k; exact k) | (rw [if_neg (by grind)] at k; exact k))
  · skip
    refine wp_bipush (-101) dX11_as_8 (by decide) ?_
    refine g_iret dX11_as_10 rfl ?_
    unfold spAs at k
    first | (rw [if_neg (b01_e0 h5)] at k; exact k) | (rw [if_pos (b01_ne h5), if_neg (b01_e0 h17)] at k; exact k) | (rw [if_pos (b01_ne h5), if_pos (b01_ne h17), tn_nI (by omega)] at k; first | (rw [if_pos (by grind)] at k; exact k) | (rw [if_neg (by grind)] at k; exact k))
def spCount (S : Mem) (y : Int32) : Int32 := if y = 0 then S 126 1 else if y = 1 then smI (S 130) (tn (S 126 1)) else if y = 2 then S 126 13 else if y = 3 then S 126 16 else if y = 4 then smI (S 133) (tn (S 126 1)) else if y = 5 then S 126 17 else if y = 6 then smI (S 136) (tn (S 126 1)) else if y = 7 then S 126 19 else if y = 8 then S 126 23 else if y = 9 then S 126 0 else if y = 10 then S 126 18 else -102
theorem out10 {y : Int32} (h : ∀ i : Nat, i ≤ 10 → ¬ y = nI i) : y.toInt < 0 ∨ 10 < y.toInt := by
  rcases Classical.em (y.toInt < 0 ∨ 10 < y.toInt) with hc | hc
  · exact hc
  · exfalso
    have h1 : 0 ≤ y := Int32.le_iff_toInt_le.mpr (by show (0 : Int) ≤ y.toInt; omega)
    have h2 : y ≤ nI 10 := Int32.le_iff_toInt_le.mpr (by show y.toInt ≤ (10 : Int); omega)
    obtain ⟨j, hj, e⟩ := in_of (by omega) h1 h2
    exact h j hj e
set_option maxHeartbeats 4000000 in
theorem c_howMany {I S : Mem} {J : Mel} {Q : Option Value → Mem → Mem → Mel → Prop} {n : Nat} (hn_q : n ≤ 6) (ha_q : S 126 1 = nI n) {y : Int32} (k : Q (some (.int (spCount S y))) I S J) : M2 mX11_howMany 2 [.ref 126, .int y] I S J Q := by
  refine m2_of [.ref 126, .int y] moX11_howMany (Nat.le_of_ble_eq_true rfl) rfl ?_
  refine wp_iload_n dX11_howMany_0 rfl ?_
  rcases Classical.em (∃ i : Nat, i ≤ 10 ∧ y = nI i) with ⟨i, hi_q, rfl⟩ | hno_q
  rcases (show i = 0 ∨ i = 1 ∨ i = 2 ∨ i = 3 ∨ i = 4 ∨ i = 5 ∨ i = 6 ∨ i = 7 ∨ i = 8 ∨ i = 9 ∨ i = 10 by omega) with rfl | rfl | rfl | rfl | rfl | rfl | rfl | rfl | rfl | rfl | rfl
  · skip
    refine wp_tswIn (off := 59) (tgt := 60) dX11_howMany_1 0 rfl (by decide) (by decide) (by decide) (by decide) ?_
    refine wp_aload_n dX11_howMany_60 rfl ?_
    refine m_getI dX11_howMany_61 flRX11_212 (by first | rfl | assumption) (by decide) ?_
    refine g_iret dX11_howMany_64 rfl ?_
    exact k
  · skip
    refine wp_tswIn (off := 64) (tgt := 65) dX11_howMany_1 1 rfl (by decide) (by decide) (by decide) (by decide) ?_
    refine wp_aload_n dX11_howMany_65 rfl ?_
    refine g_callV0 (mj := mX11_ups) dX11_howMany_66 lkRX11_302 mkX11_ups (by first | rfl | assumption) (by decide) (by decide) (Nat.le_of_ble_eq_true rfl) (c_ups hn_q ha_q ?_)
    refine g_iret dX11_howMany_69 rfl ?_
    have e_q : spCount S (nI 1) = smI (S 130) n := by show smI (S 130) (tn (S 126 1)) = _; rw [ha_q, tn_nI (by omega)]
    rw [e_q] at k; exact k
  · skip
    refine wp_tswIn (off := 69) (tgt := 70) dX11_howMany_1 2 rfl (by decide) (by decide) (by decide) (by decide) ?_
    refine wp_aload_n dX11_howMany_70 rfl ?_
    refine m_getI dX11_howMany_71 flRX11_221 (by first | rfl | assumption) (by decide) ?_
    refine g_iret dX11_howMany_74 rfl ?_
    exact k
  · skip
    refine wp_tswIn (off := 74) (tgt := 75) dX11_howMany_1 3 rfl (by decide) (by decide) (by decide) (by decide) ?_
    refine wp_aload_n dX11_howMany_75 rfl ?_
    refine m_getI dX11_howMany_76 flRX11_224 (by first | rfl | assumption) (by decide) ?_
    refine g_iret dX11_howMany_79 rfl ?_
    exact k
  · skip
    refine wp_tswIn (off := 79) (tgt := 80) dX11_howMany_1 4 rfl (by decide) (by decide) (by decide) (by decide) ?_
    refine wp_aload_n dX11_howMany_80 rfl ?_
    refine wp_iload_n dX11_howMany_81 rfl ?_
    refine g_callV1 (mj := mX11_ofActors) dX11_howMany_82 lkRX11_382 mkX11_ofActors (by first | rfl | assumption) (by decide) (by decide) (Nat.le_of_ble_eq_true rfl) (c_ofA hn_q ha_q ?_)
    refine g_iret dX11_howMany_85 rfl ?_
    first | (have e_q : spCount S (nI 4) = smI (S 133) n := (by show smI (S 133) (tn (S 126 1)) = _; rw [ha_q, tn_nI (by omega)]); rw [e_q] at k; exact k) | (have e_q : spCount S (nI 6) = smI (S 136) n := (by show smI (S 136) (tn (S 126 1)) = _; rw [ha_q, tn_nI (by omega)]); rw [e_q] at k; exact k)
  · skip
    refine wp_tswIn (off := 85) (tgt := 86) dX11_howMany_1 5 rfl (by decide) (by decide) (by decide) (by decide) ?_
    refine wp_aload_n dX11_howMany_86 rfl ?_
    refine m_getI dX11_howMany_87 flRX11_227 (by first | rfl | assumption) (by decide) ?_
    refine g_iret dX11_howMany_90 rfl ?_
    exact k
  · skip
    refine wp_tswIn (off := 79) (tgt := 80) dX11_howMany_1 6 rfl (by decide) (by decide) (by decide) (by decide) ?_
    refine wp_aload_n dX11_howMany_80 rfl ?_
    refine wp_iload_n dX11_howMany_81 rfl ?_
    refine g_callV1 (mj := mX11_ofActors) dX11_howMany_82 lkRX11_382 mkX11_ofActors (by first | rfl | assumption) (by decide) (by decide) (Nat.le_of_ble_eq_true rfl) (c_ofA hn_q ha_q ?_)
    refine g_iret dX11_howMany_85 rfl ?_
    first | (have e_q : spCount S (nI 4) = smI (S 133) n := (by show smI (S 133) (tn (S 126 1)) = _; rw [ha_q, tn_nI (by omega)]); rw [e_q] at k; exact k) | (have e_q : spCount S (nI 6) = smI (S 136) n := (by show smI (S 136) (tn (S 126 1)) = _; rw [ha_q, tn_nI (by omega)]); rw [e_q] at k; exact k)
  · skip
    refine wp_tswIn (off := 90) (tgt := 91) dX11_howMany_1 7 rfl (by decide) (by decide) (by decide) (by decide) ?_
    refine wp_aload_n dX11_howMany_91 rfl ?_
    refine m_getI dX11_howMany_92 flRX11_233 (by first | rfl | assumption) (by decide) ?_
    refine g_iret dX11_howMany_95 rfl ?_
    exact k
  · skip
    refine wp_tswIn (off := 95) (tgt := 96) dX11_howMany_1 8 rfl (by decide) (by decide) (by decide) (by decide) ?_
    refine wp_aload_n dX11_howMany_96 rfl ?_
    refine m_getI dX11_howMany_97 flRX11_153 (by first | rfl | assumption) (by decide) ?_
    refine g_iret dX11_howMany_100 rfl ?_
    exact k
  · skip
    refine wp_tswIn (off := 100) (tgt := 101) dX11_howMany_1 9 rfl (by decide) (by decide) (by decide) (by decide) ?_
    refine wp_aload_n dX11_howMany_101 rfl ?_
    refine m_getI dX11_howMany_102 flRX11_230 (by first | rfl | assumption) (by decide) ?_
    refine g_iret dX11_howMany_105 rfl ?_
    exact k
  · skip
    refine wp_tswIn (off := 105) (tgt := 106) dX11_howMany_1 10 rfl (by decide) (by decide) (by decide) (by decide) ?_
    refine wp_aload_n dX11_howMany_106 rfl ?_
    refine m_getI dX11_howMany_107 flRX11_317 (by first | rfl | assumption) (by decide) ?_
    refine g_iret dX11_howMany_110 rfl ?_
    exact k
  · skip
    refine wp_tswOut (tgt := 111) dX11_howMany_1 (out10 (fun i h1 h2 => hno_q ⟨i, h1, h2⟩)) (by decide) ?_
    refine wp_bipush (-102) dX11_howMany_111 (by decide) ?_
    refine g_iret dX11_howMany_113 rfl ?_
    have e_q : spCount S y = -102 := by unfold spCount; rw [if_neg (fun e => hno_q ⟨0, by omega, e.trans rfl⟩), if_neg (fun e => hno_q ⟨1, by omega, e.trans rfl⟩), if_neg (fun e => hno_q ⟨2, by omega, e.trans rfl⟩), if_neg (fun e => hno_q ⟨3, by omega, e.trans rfl⟩), if_neg (fun e => hno_q ⟨4, by omega, e.trans rfl⟩), if_neg (fun e => hno_q ⟨5, by omega, e.trans rfl⟩), if_neg (fun e => hno_q ⟨6, by omega, e.trans rfl⟩), if_neg (fun e => hno_q ⟨7, by omega, e.trans rfl⟩), if_neg (fun e => hno_q ⟨8, by omega, e.trans rfl⟩), if_neg (fun e => hno_q ⟨9, by omega, e.trans rfl⟩), if_neg (fun e => hno_q ⟨10, by omega, e.trans rfl⟩)]
    rw [e_q] at k; exact k
set_option maxHeartbeats 4000000 in
theorem c_count {I S : Mem} {J : Mel} {Q : Option Value → Mem → Mem → Mel → Prop} {n : Nat} (hn_q : n ≤ 6) (ha_q : S 126 1 = nI n) {y : Int32} (k : Q (some (.int (spCount S y))) I S J) : M2 mX11_count 3 [.ref 126, .int y] I S J Q := by
  refine m2_of [.ref 126, .int y] moX11_count (Nat.le_of_ble_eq_true rfl) rfl ?_
  refine wp_aload_n dX11_count_0 rfl ?_
  refine wp_iload_n dX11_count_1 rfl ?_
  refine g_callV1 (mj := mX11_howMany) dX11_count_2 lkRX11_385 mkX11_howMany (by first | rfl | assumption) (by decide) (by decide) (Nat.le_of_ble_eq_true rfl) (c_howMany hn_q ha_q ?_)
  refine g_iret dX11_count_5 rfl ?_
  exact k
