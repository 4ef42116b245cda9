/-! the model's reader, against the class's automaton -/
def hr (S : Mem) (p x : Nat) : Int32 := if x < p then S 143 x else 0
def fg (S : Mem) (p x : Nat) : Int32 := hr S p x - 48
def isSS (x : Int32) : Prop := x = 63 ∨ x = 42 ∨ x = 33 ∨ x = 45 ∨ x = 120
def PG (S : Mem) (p : Nat) : Prop := S 126 23 = nI p ∧ p ≤ 84 ∧ ∀ j, j < p → ∃ q, 32 ≤ q ∧ q ≤ 126 ∧ S 143 j = nI q
def Sgo (P : Nat → Int32) (p k : Nat) (I : Mem) (r : Nat) (I' : Mem) : Prop := r ≤ p ∧ aRun P (p - k) k I = aRun P (p - r) r I'
def Bad (P : Nat → Int32) (p k : Nat) (I : Mem) (r : Nat) : Prop := r ≤ p ∧ (aRun P (p - k) k I).1 = r ∧ (r = p → ¬ ((aRun P (p - k) k I).2 5 1 = 6 ∨ (aRun P (p - k) k I).2 5 1 = 9))
theorem Sgo.rf {P : Nat → Int32} {p k : Nat} {I : Mem} (h : k ≤ p) : Sgo P p k I k I := ⟨h, rfl⟩
theorem Sgo.step {P : Nat → Int32} {p k : Nat} {I I' : Mem} (h : k < p) (e : aTk I (P k) = some I') : Sgo P p k I (k + 1) I' := ⟨h, by rw [show p - k = p - (k + 1) + 1 by omega, aRun_go e]⟩
theorem Sgo.tr {P : Nat → Int32} {p k r q : Nat} {I I' I2 : Mem} (h : Sgo P p k I r I') (h2 : Sgo P p r I' q I2) : Sgo P p k I q I2 := ⟨h2.1, h.2.trans h2.2⟩
theorem Sgo.bad {P : Nat → Int32} {p k r q : Nat} {I I' : Mem} (h : Sgo P p k I r I') (h2 : Bad P p r I' q) : Bad P p k I q := by
  unfold Bad at h2 ⊢
  rw [h.2]; exact h2
theorem Bad.stop {P : Nat → Int32} {p k : Nat} {I : Mem} (h : k ≤ p) (e : k < p → aTk I (P k) = none) (hd : k = p → ¬ (I 5 1 = 6 ∨ I 5 1 = 9)) : Bad P p k I k := by
  unfold Bad
  rcases Nat.lt_or_ge k p with hk | hk
  · rw [show p - k = p - (k + 1) + 1 by omega, aRun_no (e hk)]; exact ⟨h, rfl, fun q => by omega⟩
  · have e : k = p := by omega
    subst e
    rw [Nat.sub_self]; exact ⟨h, rfl, fun _ => hd rfl⟩
theorem hr_lt {S : Mem} {p x : Nat} (h : x < p) : hr S p x = S 143 x := if_pos h
theorem hr_ge {S : Mem} {p x : Nat} (h : ¬ x < p) : hr S p x = 0 := if_neg h
theorem hr_in {S : Mem} {p x : Nat} {c : Int32} (h : hr S p x = c) (hc : ¬ c = 0) : x < p ∧ S 143 x = c := by
  rcases Nat.lt_or_ge x p with q | q
  · rw [hr_lt q] at h; exact ⟨q, h⟩
  · rw [hr_ge (by omega)] at h; exact absurd h.symm hc
theorem fg_tab : ∀ q : Nat, q < 127 → ∀ b : Nat, b < 11 → ((0 ≤ nI q - 48 ∧ nI q - 48 ≤ nI b) ↔ (48 ≤ q ∧ q ≤ 48 + b)) := by decide +kernel
theorem fg_sub : ∀ q : Nat, q < 127 → 48 ≤ q → nI q - 48 = nI (q - 48) := by decide +kernel
theorem fg_in {S : Mem} {p y b : Nat} (hP : PG S p) (hb : b < 11) (h : 0 ≤ fg S p y ∧ fg S p y ≤ nI b) : y < p ∧ ∃ f, f ≤ b ∧ fg S p y = nI f ∧ S 143 y = nI (48 + f) := by
  unfold fg at h ⊢
  rcases Nat.lt_or_ge y p with hy | hy
  · obtain ⟨q, q1, q2, q3⟩ := hP.2.2 y hy
    rw [hr_lt hy, q3] at h ⊢
    have t := (fg_tab q (by omega) b hb).mp h
    exact ⟨hy, q - 48, by omega, fg_sub q (by omega) t.1, by rw [show 48 + (q - 48) = q by omega]⟩
  · rw [hr_ge (by omega)] at h; exact absurd h.1 (by decide)
theorem fg_out {S : Mem} {p y b : Nat} (hP : PG S p) (hb : b < 11) (h : ¬ (0 ≤ fg S p y ∧ fg S p y ≤ nI b)) (hy : y < p) : ¬ (0 ≤ S 143 y - 48 ∧ S 143 y - 48 ≤ nI b) ∧ ¬ (48 ≤ S 143 y ∧ S 143 y ≤ nI (48 + b)) := by
  unfold fg at h
  obtain ⟨q, q1, q2, q3⟩ := hP.2.2 y hy
  rw [hr_lt hy] at h
  refine ⟨h, fun t => h ?_⟩
  rw [q3] at t ⊢
  rw [show (48 : Int32) = nI 48 from rfl, nI_leg (by omega) (by omega), nI_leg (by omega) (by omega)] at t
  exact (fg_tab q (by omega) b hb).mpr t
theorem fg_ok {f b : Nat} (hf : f ≤ b) (hb : b < 11) : 48 ≤ nI (48 + f) ∧ nI (48 + f) ≤ nI (48 + b) ∧ nI (48 + f) - 48 = nI f := by
  rw [show (48 : Int32) = nI 48 from rfl, nI_leg (by omega) (by omega), nI_leg (by omega) (by omega)]
  refine ⟨by omega, by omega, ?_⟩
  have := fg_sub (48 + f) (by omega) (by omega)
  rw [show 48 + f - 48 = f by omega] at this; exact this
theorem fg_u {S : Mem} {p y a j : Nat} {x : Int32} (h : a ≠ 143) : fg (uI S a j x) p y = fg S p y ∧ hr (uI S a j x) p y = hr S p y := by
  unfold fg hr
  rw [uI_ne (Ne.symm h)]; exact ⟨rfl, rfl⟩
/-- what the model's reader leaves as it is -/
def kpR (S S' : Mem) : Prop := (∀ b, b ≠ 126 → (b < 144 ∨ 148 < b) → S' b = S b) ∧ ∀ j, (j < 26 ∨ 29 < j) → S' 126 j = S 126 j
theorem kpR.rf {S : Mem} : kpR S S := ⟨fun _ _ _ => rfl, fun _ _ => rfl⟩
theorem kpR.tr {S S' S2 : Mem} (h : kpR S S') (h2 : kpR S' S2) : kpR S S2 := ⟨fun b h3 h4 => (h2.1 b h3 h4).trans (h.1 b h3 h4), fun j h3 => (h2.2 j h3).trans (h.2 j h3)⟩
theorem kpR.st {S S' : Mem} {a j : Nat} {x : Int32} (h : kpR S S') (ha : (144 ≤ a ∧ a ≤ 148) ∨ (a = 126 ∧ 26 ≤ j ∧ j ≤ 29)) : kpR S (uI S' a j x) :=
  ⟨fun b h3 h4 => by rw [uI_ne (by omega)]; exact h.1 b h3 h4, fun q h3 => by rw [uI_ap, if_neg (by omega)]; exact h.2 q h3⟩
theorem kpR.pg {S S' : Mem} {p : Nat} (h : kpR S S') (hP : PG S p) : PG S' p := ⟨by rw [h.2 23 (by omega)]; exact hP.1, hP.2.1, fun j hj => by rw [h.1 143 (by decide) (by omega)]; exact hP.2.2 j hj⟩
theorem kpR.pp {S S' : Mem} (h : kpR S S') : S' 143 = S 143 := h.1 143 (by decide) (by omega)
def RMa (I S : Mem) (i mn : Nat) : Prop := ∃ c t, c ≤ 4 ∧ t ≤ 3 ∧ mn ≤ t ∧ I 7 i = nI c ∧ S 144 i = nI c ∧ I 8 i = nI t ∧ S 145 i = nI t ∧ ∀ j, j < t → stR (I 9 (3 * i + j)) (I 10 (3 * i + j)) (I 11 (3 * i + j)) (S 146 (3 * i + j))
def RMl (a l : Nat) (I S : Mem) : Prop := l ≤ 6 ∧ I 12 2 = nI l ∧ S 126 28 = nI l ∧ ∀ j, j < l → ∃ x y, x < a ∧ y < a ∧ x ≠ y ∧ I 13 j = nI x ∧ S 147 j = nI x ∧ I 14 j = nI y ∧ S 148 j = nI y
def MS (a : Nat) (I : Mem) (M : Int32) : Prop := (∀ i, i < a → ∀ j, j < tn (I 8 i) → I 9 (3 * i + j) = 2 → I 10 (3 * i + j) ≤ M) ∧ (M = -1 ∨ ∃ i j, i < a ∧ j < tn (I 8 i) ∧ I 9 (3 * i + j) = 2 ∧ I 10 (3 * i + j) = M)
def RM (a m l : Nat) (I S : Mem) : Prop := a ≤ 6 ∧ I 6 6 = nI a ∧ S 126 27 = nI m ∧ (∀ i, i < a → RMa I S i (if i < m then 1 else 0)) ∧ RMl a l I S ∧ S 126 26 = 0
theorem RM.cg {a m l : Nat} {I I' S S' : Mem} (h : RM a m l I S) (hI : ∀ b, 6 ≤ b → b ≤ 14 → I' b = I b) (hS : ∀ b, 144 ≤ b → b ≤ 148 → S' b = S b) (h1 : S' 126 26 = S 126 26) (h2 : S' 126 27 = S 126 27) (h3 : S' 126 28 = S 126 28) : RM a m l I' S' := by
  unfold RM RMa RMl at h ⊢
  rw [hI 6 (by omega) (by omega), hI 7 (by omega) (by omega), hI 8 (by omega) (by omega), hI 9 (by omega) (by omega), hI 10 (by omega) (by omega), hI 11 (by omega) (by omega), hI 12 (by omega) (by omega), hI 13 (by omega) (by omega), hI 14 (by omega) (by omega), hS 144 (by omega) (by omega), hS 145 (by omega) (by omega), hS 146 (by omega) (by omega), hS 147 (by omega) (by omega), hS 148 (by omega) (by omega), h1, h2, h3]
  exact h
theorem RM.i5 {a m l j : Nat} {x : Int32} {I S : Mem} (h : RM a m l I S) : RM a m l (uI I 5 j x) S := h.cg (fun b h1 _ => uI_ne (by omega)) (fun _ _ _ => rfl) rfl rfl rfl
theorem MS.i5 {a j : Nat} {x M : Int32} {I : Mem} (h : MS a I M) : MS a (uI I 5 j x) M := by
  unfold MS at h ⊢
  rw [uI_ne (by decide), uI_ne (by decide), uI_ne (by decide)]; exact h
theorem aEd_r (I : Mem) (c z : Nat) (d t s : Int32) : (∀ i, aEd I c z d t s 8 i = if i = c then nI (z + 1) else I 8 i) ∧ (∀ j, aEd I c z d t s 9 j = if j = 3 * c + z then d else I 9 j) ∧ (∀ j, aEd I c z d t s 10 j = if j = 3 * c + z then t else I 10 j) ∧ (∀ j, aEd I c z d t s 11 j = if j = 3 * c + z then s else I 11 j) ∧ aEd I c z d t s 5 1 = 5 ∧ ∀ b, b ≠ 5 → (b < 8 ∨ 11 < b) → aEd I c z d t s b = I b := by
  unfold aEd
  refine ⟨fun i => by simp [uI_ap], fun j => by simp [uI_ap], fun j => by simp [uI_ap], fun j => by simp [uI_ap], by simp [uI_ap], fun b h1 h2 => ?_⟩
  rw [uI_ne h1, uI_ne (by omega), uI_ne (by omega), uI_ne (by omega), uI_ne (by omega)]
theorem RM.ed {c z l : Nat} {I S : Mem} {d t s v : Int32} (h : RM (c + 1) c l I S) (hz : I 8 c = nI z) (hz3 : z < 3) (hv : stR d t s v) : RM (c + 1) c l (aEd I c z d t s) (uI (uI S 146 (3 * c + z) v) 145 c (nI (z + 1))) := by
  obtain ⟨e8, e9, e10, e11, -, eo⟩ := aEd_r I c z d t s
  obtain ⟨r1, r2, r3, r4, r5, r6⟩ := h
  refine ⟨r1, by rw [eo 6 (by decide) (by omega)]; exact r2, by simp only [uI_ap]; simpa using r3, fun i hi => ?_, ?_, by simp only [uI_ap]; simpa using r6⟩
  · obtain ⟨k, u, k1, k2, k3, k4, k5, k6, k7, k8⟩ := r4 i hi
    by_cases e : i = c
    · subst e
      have hu : u = z := by rw [hz, nI_eqg (by omega) (by omega)] at k6; omega
      subst hu
      refine ⟨k, u + 1, k1, by omega, by omega, by rw [eo 7 (by decide) (by omega)]; exact k4, by rw [uI_ne (by decide), uI_ne (by decide)]; exact k5, by rw [e8, if_pos rfl], uI_self _ _ _ _, fun j hj => ?_⟩
      rw [e9, e10, e11, uI_ne (by decide), uI_ap]
      by_cases ej : j = u
      · subst ej; rw [if_pos rfl, if_pos rfl, if_pos rfl, if_pos ⟨rfl, rfl⟩]; exact hv
      · rw [if_neg (by omega), if_neg (by omega), if_neg (by omega), if_neg (by omega)]; exact k8 j (by omega)
    · refine ⟨k, u, k1, k2, k3, by rw [eo 7 (by decide) (by omega)]; exact k4, by rw [uI_ne (by decide), uI_ne (by decide)]; exact k5, by rw [e8, if_neg e]; exact k6, by rw [uI_ap, if_neg (by omega), uI_ne (by decide)]; exact k7, fun j hj => ?_⟩
      rw [e9, e10, e11, uI_ne (by decide), uI_ap, if_neg (by omega), if_neg (by omega), if_neg (by omega), if_neg (by omega)]; exact k8 j hj
  · unfold RMl at r5 ⊢
    rw [eo 12 (by decide) (by omega), eo 13 (by decide) (by omega), eo 14 (by decide) (by omega), uI_ne (by decide), uI_ne (by decide), uI_ne (by decide), uI_ne (by decide), uI_ne (by decide), uI_ne (by decide)]; exact r5
theorem MS.ed {c z l : Nat} {I S : Mem} {d t s M M' : Int32} (h : MS (c + 1) I M) (hR : RM (c + 1) c l I S) (hz : I 8 c = nI z) (hz3 : z < 3) (h1 : M ≤ M') (h2 : d = 2 → t ≤ M') (h3 : M' = M ∨ (d = 2 ∧ t = M')) : MS (c + 1) (aEd I c z d t s) M' := by
  obtain ⟨e8, e9, e10, e11, -, eo⟩ := aEd_r I c z d t s
  obtain ⟨m1, m2⟩ := h
  have r4 := hR.2.2.2.1
  have hc := hR.1
  refine ⟨fun i hi j hj q => ?_, ?_⟩
  · rw [e9] at q
    rw [e10]
    rw [e8] at hj
    by_cases e : j = z ∧ i = c
    · obtain ⟨rfl, rfl⟩ := e
      rw [if_pos rfl] at q ⊢; exact h2 q
    · have hj3 : j < 3 := by
        by_cases ei : i = c
        · rw [if_pos ei, tn_nI (by omega)] at hj; omega
        · rw [if_neg ei] at hj
          obtain ⟨k, u, k1, k2, k3, k4, k5, k6, k7, k8⟩ := r4 i hi
          rw [k6, tn_nI (by omega)] at hj; omega
      rw [if_neg (by omega)] at q ⊢
      refine Int32.le_trans (m1 i hi j ?_ q) h1
      by_cases ei : i = c
      · subst ei; rw [if_pos rfl, tn_nI (by omega)] at hj; rw [hz, tn_nI (by omega)]; omega
      · rw [if_neg ei] at hj; exact hj
  · rcases h3 with h3 | ⟨h3, h4⟩
    · rcases m2 with m2 | ⟨i, j, q1, q2, q3, q4⟩
      · exact Or.inl (h3.trans m2)
      · have hne : ¬ (3 * i + j = 3 * c + z) := by
          obtain ⟨k, u, k1, k2, k3, k4, k5, k6, k7, k8⟩ := r4 i q1
          rw [k6, tn_nI (by omega)] at q2
          intro hh
          have ei : i = c := by omega
          subst ei
          rw [hz, nI_eqg (by omega) (by omega)] at k6; omega
        refine Or.inr ⟨i, j, q1, ?_, by rw [e9, if_neg hne]; exact q3, by rw [e10, if_neg hne, h3]; exact q4⟩
        rw [e8]
        by_cases ei : i = c
        · subst ei; rw [if_pos rfl, tn_nI (by omega)]; rw [hz, tn_nI (by omega)] at q2; omega
        · rw [if_neg ei]; exact q2
    · exact Or.inr ⟨c, z, by omega, by rw [e8, if_pos rfl, tn_nI (by omega)]; omega, by rw [e9, if_pos rfl]; exact h3, by rw [e10, if_pos rfl]; exact h4⟩
theorem aTk_s {I : Mem} {c z : Nat} {x : Int32} (ha : I 6 6 = nI (c + 1)) (hc : c < 6) (hz : I 8 c = nI z) (hz3 : z < 3) (hd : I 5 1 = 1 ∨ I 5 1 = 5) (hx : isSS x) : aTk I x = aSt I x := by
  rcases hd with hd | hd
  · exact aTk_1 hd
  · rw [aTk_5 hd, ha, tn_nI (by omega), Nat.add_sub_cancel, hz, if_neg (by rcases hx with e | e | e | e | e <;> rw [e] <;> decide), if_neg (by rcases hx with e | e | e | e | e <;> rw [e] <;> decide), if_pos (by rw [show (3 : Int32) = nI 3 from rfl, nI_ltg (by omega) (by omega)]; exact hz3)]
theorem nI_2 (x : Nat) : nI x + 2 = nI (x + 2) := nI_add x 2
theorem nI_3 (x : Nat) : nI x + 3 = nI (x + 3) := nI_add x 3
set_option maxHeartbeats 4000000 in
theorem c_here {I S : Mem} {J : Mel} {Q : Option Value → Mem → Mem → Mel → Prop} {p : Nat} (hP_q : PG S p) {x : Nat} (hx_q : x < 1000) (k : Q (some (.int (hr S p x))) I S J) : M2 mX11_here 1 [.ref 126, .int (nI x)] I S J Q := by
  have p1_q := hP_q.1
  have p2_q := hP_q.2.1
  refine m2_of [.ref 126, .int (nI x)] moX11_here (Nat.le_of_ble_eq_true rfl) rfl ?_
  refine wp_iload_n dX11_here_0 rfl ?_
  refine wp_aload_n dX11_here_1 rfl ?_
  refine m_getI dX11_here_2 flRX11_153 (by first | rfl | assumption) (by decide) ?_
  refine wp_icmp_ge dX11_here_5 (fun h5 => ?_) (fun h5 => ?_)
  · skip
    rw [hr_ge (by rw [p1_q, nI_leg (by omega) (by omega)] at h5; omega)] at k
    refine wp_iconst 0 dX11_here_17 (by decide) ?_
    refine g_iret dX11_here_18 rfl ?_
    exact k
  · skip
    have hxp_q : x < p := by rw [p1_q, nI_leg (by omega) (by omega)] at h5; omega
    rw [hr_lt hxp_q] at k
    refine wp_aload_n dX11_here_8 rfl ?_
    refine wp_getA (by first | rfl | assumption) dX11_here_9 flRX11_58 (by first | rfl | assumption) ?_
    refine wp_iload_n dX11_here_12 rfl ?_
    refine m_bald dX11_here_13 rfl rfl (by omega) (by decide) (by decide) ?_
    refine wp_goto dX11_here_14 ?_
    refine g_iret dX11_here_18 rfl ?_
    exact k
set_option maxHeartbeats 4000000 in
theorem c_figure {I S : Mem} {J : Mel} {Q : Option Value → Mem → Mem → Mel → Prop} {p : Nat} (hP_q : PG S p) {x : Nat} (hx_q : x < 1000) (k : Q (some (.int (fg S p x))) I S J) : M2 mX11_figure 2 [.ref 126, .int (nI x)] I S J Q := by
  refine m2_of [.ref 126, .int (nI x)] moX11_figure (Nat.le_of_ble_eq_true rfl) rfl ?_
  refine wp_aload_n dX11_figure_0 rfl ?_
  refine wp_iload_n dX11_figure_1 rfl ?_
  refine g_callV1 (mj := mX11_here) dX11_figure_2 lkRX11_157 mkX11_here (by first | rfl | assumption) (by decide) (by decide) (Nat.le_of_ble_eq_true rfl) (c_here hP_q hx_q ?_)
  refine wp_bipush 48 dX11_figure_5 (by decide) ?_
  refine wp_isub dX11_figure_7 ?_
  refine g_iret dX11_figure_8 rfl ?_
  exact k
set_option maxHeartbeats 4000000 in
theorem c_broken {I S : Mem} {J : Mel} {Q : Option Value → Mem → Mem → Mel → Prop} {x : Int32} (k : Q (some (.int x)) I (uI S 126 26 1) J) : M2 mX11_broken 1 [.ref 126, .int x] I S J Q := by
  refine m2_of [.ref 126, .int x] moX11_broken (Nat.le_of_ble_eq_true rfl) rfl ?_
  refine wp_aload_n dX11_broken_0 rfl ?_
  refine wp_iconst 1 dX11_broken_1 (by decide) ?_
  refine m_putZ dX11_broken_2 flRX11_161 (by first | rfl | assumption) (by first | decide | assumption) (by decide) ?_
  refine wp_iload_n dX11_broken_5 rfl ?_
  refine g_iret dX11_broken_6 rfl ?_
  exact k
set_option maxHeartbeats 4000000 in
theorem c_mAdd {I S : Mem} {J : Mel} {Q : Option Value → Mem → Mem → Mel → Prop} {m z : Nat} {v : Int32} (hm_q : S 126 27 = nI m) (hm6_q : m < 6) (hz_q : S 145 m = nI z) (hz3_q : z < 3) (k : Q none I (uI (uI S 146 (3 * m + z) v) 145 m (nI (z + 1))) J) : M2 mX11_addStep 1 [.ref 126, .int v] I S J Q := by
  refine m2_of [.ref 126, .int v] moX11_addStep (Nat.le_of_ble_eq_true rfl) rfl ?_
  refine wp_aload_n dX11_addStep_0 rfl ?_
  refine wp_getA (by first | rfl | assumption) dX11_addStep_1 flRX11_68 (by first | rfl | assumption) ?_
  refine wp_iconst 3 dX11_addStep_4 (by decide) ?_
  refine wp_aload_n dX11_addStep_5 rfl ?_
  refine m_getI dX11_addStep_6 flRX11_165 (by first | rfl | assumption) (by decide) ?_
  rw [hm_q]
  refine wp_imul dX11_addStep_9 ?_
  refine wp_aload_n dX11_addStep_10 rfl ?_
  refine wp_getA (by first | rfl | assumption) dX11_addStep_11 flRX11_65 (by first | rfl | assumption) ?_
  refine wp_aload_n dX11_addStep_14 rfl ?_
  refine m_getI dX11_addStep_15 flRX11_165 (by first | rfl | assumption) (by decide) ?_
  rw [hm_q]
  refine m_iald dX11_addStep_18 rfl rfl (by omega) (by decide) (by decide) ?_
  rw [hz_q]
  refine wp_iadd dX11_addStep_19 ?_
  refine wp_iload_n dX11_addStep_20 rfl ?_
  refine m_iast dX11_addStep_21 rfl (nI_mad 3 m z) (by omega) (by decide) (by decide) ?_
  refine wp_aload_n dX11_addStep_22 rfl ?_
  refine wp_getA (by first | rfl | assumption) dX11_addStep_23 flRX11_65 (by first | rfl | assumption) ?_
  refine wp_aload_n dX11_addStep_26 rfl ?_
  refine m_getI dX11_addStep_27 flRX11_165 (by first | rfl | assumption) (by decide) ?_
  rw [uI_ne (by decide), hm_q]
  refine wp_dup2 dX11_addStep_30 rfl rfl ?_
  refine m_iald dX11_addStep_31 rfl rfl (by omega) (by decide) (by decide) ?_
  rw [uI_ne (by decide), hz_q]
  refine wp_iconst 1 dX11_addStep_32 (by decide) ?_
  refine wp_iadd dX11_addStep_33 ?_
  rw [nI_1]
  refine m_iast dX11_addStep_34 rfl rfl (by omega) (by decide) (by decide) ?_
  refine g_vret dX11_addStep_35 rfl ?_
  exact k
set_option maxHeartbeats 4000000 in
theorem c_isSS {I S : Mem} {J : Mel} {Q : Option Value → Mem → Mem → Mel → Prop} {x : Int32} (k : ∀ r, (r = 1 ∧ isSS x) ∨ (r = 0 ∧ ¬ isSS x) → Q (some (.int r)) I S J) : M2 mX11_isStepSign 1 [.int x] I S J Q := by
  refine m2_of [.int x] moX11_isStepSign (Nat.le_of_ble_eq_true rfl) rfl ?_
  refine wp_iload_n dX11_isStepSign_0 rfl ?_
  refine wp_bipush 63 dX11_isStepSign_1 (by decide) ?_
  refine wp_icmp_eq dX11_isStepSign_3 (fun h3 => ?_) (fun h3 => ?_)
  · skip
    refine wp_iconst 1 dX11_isStepSign_30 (by decide) ?_
    refine wp_goto dX11_isStepSign_31 ?_
    refine g_zret dX11_isStepSign_35 rfl (by first | decide | assumption) ?_
    first | exact k _ (Or.inl ⟨rfl, by unfold isSS; grind⟩) | exact k _ (Or.inr ⟨rfl, by unfold isSS; grind⟩)
  · skip
    refine wp_iload_n dX11_isStepSign_6 rfl ?_
    refine wp_bipush 42 dX11_isStepSign_7 (by decide) ?_
    refine wp_icmp_eq dX11_isStepSign_9 (fun h9 => ?_) (fun h9 => ?_)
    · skip
      refine wp_iconst 1 dX11_isStepSign_30 (by decide) ?_
      refine wp_goto dX11_isStepSign_31 ?_
      refine g_zret dX11_isStepSign_35 rfl (by first | decide | assumption) ?_
      first | exact k _ (Or.inl ⟨rfl, by unfold isSS; grind⟩) | exact k _ (Or.inr ⟨rfl, by unfold isSS; grind⟩)
    · skip
      refine wp_iload_n dX11_isStepSign_12 rfl ?_
      refine wp_bipush 33 dX11_isStepSign_13 (by decide) ?_
      refine wp_icmp_eq dX11_isStepSign_15 (fun h15 => ?_) (fun h15 => ?_)
      · skip
        refine wp_iconst 1 dX11_isStepSign_30 (by decide) ?_
        refine wp_goto dX11_isStepSign_31 ?_
        refine g_zret dX11_isStepSign_35 rfl (by first | decide | assumption) ?_
        first | exact k _ (Or.inl ⟨rfl, by unfold isSS; grind⟩) | exact k _ (Or.inr ⟨rfl, by unfold isSS; grind⟩)
      · skip
        refine wp_iload_n dX11_isStepSign_18 rfl ?_
        refine wp_bipush 45 dX11_isStepSign_19 (by decide) ?_
        refine wp_icmp_eq dX11_isStepSign_21 (fun h21 => ?_) (fun h21 => ?_)
        · skip
          refine wp_iconst 1 dX11_isStepSign_30 (by decide) ?_
          refine wp_goto dX11_isStepSign_31 ?_
          refine g_zret dX11_isStepSign_35 rfl (by first | decide | assumption) ?_
          first | exact k _ (Or.inl ⟨rfl, by unfold isSS; grind⟩) | exact k _ (Or.inr ⟨rfl, by unfold isSS; grind⟩)
        · skip
          refine wp_iload_n dX11_isStepSign_24 rfl ?_
          refine wp_bipush 120 dX11_isStepSign_25 (by decide) ?_
          refine wp_icmp_ne dX11_isStepSign_27 (fun h27 => ?_) (fun h27 => ?_)
          · skip
            refine wp_iconst 0 dX11_isStepSign_34 (by decide) ?_
            refine g_zret dX11_isStepSign_35 rfl (by first | decide | assumption) ?_
            first | exact k _ (Or.inl ⟨rfl, by unfold isSS; grind⟩) | exact k _ (Or.inr ⟨rfl, by unfold isSS; grind⟩)
          · skip
            refine wp_iconst 1 dX11_isStepSign_30 (by decide) ?_
            refine wp_goto dX11_isStepSign_31 ?_
            refine g_zret dX11_isStepSign_35 rfl (by first | decide | assumption) ?_
            first | exact k _ (Or.inl ⟨rfl, by unfold isSS; grind⟩) | exact k _ (Or.inr ⟨rfl, by unfold isSS; grind⟩)
