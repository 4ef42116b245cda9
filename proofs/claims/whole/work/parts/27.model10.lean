def smG (n : Nat) (G G' : Mem) : Prop := ∀ a, a < n → ∀ q, q < 16 → stv G a q = stv G' a q
/-- what round() tells -/
def RoundP (n : Nat) (S : Mem) (v r : Int32) : Prop := (∃ t u, 1 ≤ t ∧ t ≤ 60 ∧ u < t ∧ smG n (tks u S) (tks t S) ∧ (∀ t2 u2, t2 < t → u2 < t2 → ¬ smG n (tks u2 S) (tks t2 S)) ∧ (∀ u2, u2 < u → ¬ smG n (tks u2 S) (tks t S)) ∧ r = (if v = 0 then nI u else nI t - nI u)) ∨ ((∀ t u, t ≤ 60 → u < t → ¬ smG n (tks u S) (tks t S)) ∧ r = -1)
theorem RoundP_u {n : Nat} {S : Mem} {v r r2 : Int32} (h : RoundP n S v r) (h2 : RoundP n S v r2) : r = r2 := by
  rcases h with ⟨t, u, a1, a2, a3, a4, a5, a6, a7⟩ | ⟨a1, a2⟩ <;> rcases h2 with ⟨t2, u2, b1, b2, b3, b4, b5, b6, b7⟩ | ⟨b1, b2⟩
  · have ht : t = t2 := by
      rcases Nat.lt_trichotomy t t2 with c | c | c
      · exact absurd a4 (b5 t u c a3)
      · exact c
      · exact absurd b4 (a5 t2 u2 c b3)
    subst ht
    have hu : u = u2 := by
      rcases Nat.lt_trichotomy u u2 with c | c | c
      · exact absurd a4 (b6 u c)
      · exact c
      · exact absurd b4 (a6 u2 c)
    subst hu
    rw [a7, b7]
  · exact absurd a4 (b1 t u a2 a3)
  · exact absurd b4 (a1 t2 u2 b2 b3)
  · rw [a2, b2]
def kqR (M S' : Mem) : Prop := (∀ b, b ≠ 126 → (b < 130 ∨ (138 ≤ b ∧ b ≠ 149 ∧ b ≠ 158)) → S' b = M b) ∧ ∀ j, j ≠ 16 → j ≠ 17 → (j < 35 ∨ 38 < j) → S' 126 j = M 126 j
theorem kqR.tick {M S' : Mem} (h : kqR M S') : kqR M (fTick S') := ⟨fun b h1 h2 => ((kpD.tick S').1 b h1 (by omega)).trans (h.1 b h1 h2), fun j h1 h2 h3 => ((kpD.tick S').2 j h1 h2 h3).trans (h.2 j h1 h2 h3)⟩
theorem kqR.wr {M S' S2 : Mem} {t x q : Nat} (h : kqR M S') (hw : wrI S' S2 t x q) : kqR M S2 := ⟨fun b h1 h2 => (hw.1 b (by omega)).trans (h.1 b h1 h2), fun j h1 h2 h3 => by rw [hw.1 126 (by decide)]; exact h.2 j h1 h2 h3⟩
/-- the turns below y stand written -/
def rowsR (n : Nat) (S S' : Mem) (y : Nat) : Prop := ∀ t, t < y → ∀ a, a < n → ∀ q, q < 16 → S' 158 (16 * (6 * t + a) + q) = stv (tks t S) a q
theorem eqD.wr {S' S2 : Mem} {t x q : Nat} (hw : wrI S' S2 t x q) : eqD S' S2 := by
  intro b j hv
  rw [hw.1 b (by unfold vis at hv; omega)]
theorem rows_wr {n y : Nat} {S S' S2 : Mem} (hn : n ≤ 6) (h : rowsR n S S' y) (he : eqD (tks y S) S') (hw : wrI S' S2 y n 0) : rowsR n S S2 (y + 1) := by
  intro t ht a ha q hq
  by_cases hty : t = y
  · subst hty
    rw [hw.2.1 a ha q hq, stv_eq he]
  · rw [hw.2.2.2 _ (by omega)]
    exact h t (by omega) a ha q hq
theorem rows_sm {n y t u : Nat} {S S' : Mem} (h : rowsR n S S' y) (ht : t < y) (hu : u < y) : smP S' n t u ↔ smG n (tks t S) (tks u S) := by
  constructor
  · intro hs a ha q hq
    have := hs (16 * a + q) (by omega)
    rw [show 96 * t + (16 * a + q) = 16 * (6 * t + a) + q by omega, show 96 * u + (16 * a + q) = 16 * (6 * u + a) + q by omega, h t ht a ha q hq, h u hu a ha q hq] at this
    exact this
  · intro hs j hj
    have := hs (j / 16) (by omega) (j % 16) (by omega)
    rw [show 96 * t + j = 16 * (6 * t + j / 16) + j % 16 by omega, show 96 * u + j = 16 * (6 * u + j / 16) + j % 16 by omega, h t ht _ (by omega) _ (by omega), h u hu _ (by omega) _ (by omega)]
    exact this
/-- as it was, apart from what is of no account -/
def rndE (S S' : Mem) : Prop := (∀ i, i < 6 → S' 130 i = S 130 i ∧ S' 131 i = S 131 i ∧ S' 132 i = S 132 i ∧ S' 133 i = S 133 i ∧ S' 136 i = S 136 i) ∧ (∀ i, i < 12 → S' 137 i = S 137 i) ∧ (∀ i, i < 30 → S' 134 i = S 134 i ∧ S' 135 i = S 135 i) ∧ (∀ b, b ≠ 126 → (b < 130 ∨ (138 ≤ b ∧ b ≤ 148) ∨ 159 ≤ b) → S' b = S b) ∧ ∀ j, j ≠ 18 → (j < 35 ∨ 41 < j) → S' 126 j = S 126 j
theorem rnd_end {S M S1 S2 : Mem} (h1 : layR S M) (h2 : kqR M S1) (h3 : lbkR S1 S2) : rndE S S2 ∧ S2 126 18 = S 126 18 := by
  obtain ⟨a1, a2, a3, a4, a5, a6, a7⟩ := h1
  obtain ⟨b1, b2⟩ := h2
  obtain ⟨c1, c2, c3, c4, c5, c6, c7⟩ := h3
  refine ⟨⟨fun i hi => ?_, fun i hi => ?_, fun i hi => ?_, fun b hb hc => ?_, fun j h18 hj => ?_⟩, ?_⟩
  · obtain ⟨x1, x2, x3, x4, x5⟩ := c1 i hi
    obtain ⟨y1, y2, y3, y4, y5⟩ := a1 i hi
    rw [x1, x2, x3, x4, x5, b1 150 (by decide) (by omega), b1 151 (by decide) (by omega), b1 152 (by decide) (by omega), b1 153 (by decide) (by omega), b1 156 (by decide) (by omega)]
    exact ⟨y1, y2, y3, y4, y5⟩
  · rw [c2 i hi, b1 157 (by decide) (by omega)]; exact a2 i hi
  · rw [(c3 i hi).1, (c3 i hi).2, b1 154 (by decide) (by omega), b1 155 (by decide) (by omega)]; exact a3 i hi
  · rw [c6 b hb (by omega), b1 b hb (by omega), a6 b hb (by omega)]
  · by_cases h16 : j = 16
    · rw [h16, c4, b2 40 (by decide) (by decide) (by omega), a4]
    · by_cases h17 : j = 17
      · rw [h17, c5, b2 41 (by decide) (by decide) (by omega), a5]
      · rw [c7 j h16 h17, b2 j h16 h17 (by omega), a7 j (by omega) (by omega)]
  · rw [c7 18 (by decide) (by decide), b2 18 (by decide) (by decide) (by omega), a7 18 (by decide) (by decide)]
set_option maxHeartbeats 4000000 in
theorem l_rnd2 {I S S1 : Mem} {J : Mel} {Q : Option Value → Mem → Mem → Mel → Prop} {n y : Nat} {v : Int32} (hn_q : n ≤ 6) (ha_q : S1 126 1 = nI n) (hy_q : 1 ≤ y ∧ y ≤ 60) (hR_q : rowsR n S S1 (y + 1)) (k : ∀ (r : Int32) (z : Value), (r = -1 ∧ ∀ t u, t < y + 1 → u < t → ¬ smG n (tks u S) (tks t S)) ∨ (¬ r = -1 ∧ RoundP n S v r) → W2 mX11_roundNow 7 Q I S1 J 91 [.ref 126, .int v, .int r, .int (nI y), z] []) : ∀ (z : Nat) (r : Int32), (z ≤ y) → ((r = -1 ∧ (∀ t u, t < y → u < t → ¬ smG n (tks u S) (tks t S)) ∧ ∀ u, u < z → ¬ smG n (tks u S) (tks y S)) ∨ (¬ r = -1 ∧ RoundP n S v r)) → W2 mX11_roundNow 7 Q I S1 J 46 [.ref 126, .int v, .int r, .int (nI y), .int (nI z)] [] := by
  intro z r
  induction hm : y - z using Nat.strongRecOn generalizing z r with
  | _ c ih =>
    intro hz_q hr_q
    refine wp_iload dX11_roundNow_46 rfl ?_
    refine wp_iload_n dX11_roundNow_48 rfl ?_
    refine wp_icmp_ge dX11_roundNow_49 (fun h49 => ?_) (fun h49 => ?_)
    · skip
      refine k _ _ ?_
      rcases hr_q with ⟨r1_q, r2_q, r3_q⟩ | hr2_q
      · refine Or.inl ⟨r1_q, fun t u ht_q hu_q => ?_⟩
        by_cases e_q : t = y
        · rw [e_q]; exact r3_q u (by first | (rw [nI_leg (by omega) (by omega)] at h49; omega) | exact absurd r1_q h54)
        · exact r2_q t u (by omega) hu_q
      · exact Or.inr hr2_q
    · skip
      have hzy_q : z < y := by rw [nI_leg (by omega) (by omega)] at h49; omega
      refine wp_iload_n dX11_roundNow_52 rfl ?_
      refine wp_iconst (-1) dX11_roundNow_53 (by decide) ?_
      refine wp_icmp_ne dX11_roundNow_54 (fun h54 => ?_) (fun h54 => ?_)
      · skip
        refine k _ _ ?_
        rcases hr_q with ⟨r1_q, r2_q, r3_q⟩ | hr2_q
        · refine Or.inl ⟨r1_q, fun t u ht_q hu_q => ?_⟩
          by_cases e_q : t = y
          · rw [e_q]; exact r3_q u (by first | (rw [nI_leg (by omega) (by omega)] at h49; omega) | exact absurd r1_q h54)
          · exact r2_q t u (by omega) hu_q
        · exact Or.inr hr2_q
      · skip
        obtain ⟨r1_q, r2_q, r3_q⟩ := hr_q.resolve_right (fun q => q.1 h54)
        refine wp_aload_n dX11_roundNow_57 rfl ?_
        refine wp_iload dX11_roundNow_58 rfl ?_
        refine wp_iload_n dX11_roundNow_60 rfl ?_
        refine g_callV2 (mj := mX11_isSame) dX11_roundNow_61 lkRX11_326 mkX11_isSame (by first | rfl | assumption) (by decide) (by decide) (Nat.le_of_ble_eq_true rfl) (c_same hn_q ha_q (by omega) (by omega) (fun s hs_q => ?_))
        rw [rows_sm hR_q (by omega) (by omega)] at hs_q
        refine wp_if_ne dX11_roundNow_64 (fun h64 => ?_) (fun h64 => ?_)
        · skip
          refine wp_iload_n dX11_roundNow_71 rfl ?_
          refine wp_if_ne dX11_roundNow_72 (fun h72 => ?_) (fun h72 => ?_)
          · skip
            refine wp_iload_n dX11_roundNow_80 rfl ?_
            refine wp_iload dX11_roundNow_81 rfl ?_
            refine wp_isub dX11_roundNow_83 ?_
            refine st_i_5_2 dX11_roundNow_84 (by decide) rfl ?_
            refine ic_5_4 (nI (z + 1)) dX11_roundNow_85 (nI_inc z) (by decide) rfl ?_
            refine wp_goto dX11_roundNow_88 ?_
            first | (have hns_q := (hs_q.resolve_left (fun q => by rw [q.1] at h64; exact absurd h64 (by decide))).2; exact ih _ (by omega) (z + 1) _ rfl (by omega) (Or.inl ⟨rfl, r2_q, fun u2 hu2_q => by by_cases e_q : u2 = z; (rw [e_q]; exact hns_q); exact r3_q u2 (by omega)⟩)) | (have hys_q := (hs_q.resolve_right (fun q => h64 q.1)).2; refine ih _ (by omega) (z + 1) _ rfl (by omega) (Or.inr ⟨?_, Or.inl ⟨y, z, hy_q.1, hy_q.2, hzy_q, hys_q, r2_q, r3_q, ?_⟩⟩))
            all_goals first | exact nI_small (by omega) | (rw [if_pos h72]; done) | (rw [if_neg h72]; done) | (intro hc_q; have e9_q : nI y - nI z = nI (y - z) := (by have := nI_add (y - z) z; rw [show y - z + z = y by omega] at this; rw [← this, Int32.sub_eq_add_neg, Int32.add_assoc, ← Int32.sub_eq_add_neg, Int32.sub_self, Int32.add_zero]); rw [e9_q] at hc_q; exact nI_small (by omega) hc_q)
          · skip
            refine wp_iload dX11_roundNow_75 rfl ?_
            refine wp_goto dX11_roundNow_77 ?_
            refine st_i_5_2 dX11_roundNow_84 (by decide) rfl ?_
            refine ic_5_4 (nI (z + 1)) dX11_roundNow_85 (nI_inc z) (by decide) rfl ?_
            refine wp_goto dX11_roundNow_88 ?_
            first | (have hns_q := (hs_q.resolve_left (fun q => by rw [q.1] at h64; exact absurd h64 (by decide))).2; exact ih _ (by omega) (z + 1) _ rfl (by omega) (Or.inl ⟨rfl, r2_q, fun u2 hu2_q => by by_cases e_q : u2 = z; (rw [e_q]; exact hns_q); exact r3_q u2 (by omega)⟩)) | (have hys_q := (hs_q.resolve_right (fun q => h64 q.1)).2; refine ih _ (by omega) (z + 1) _ rfl (by omega) (Or.inr ⟨?_, Or.inl ⟨y, z, hy_q.1, hy_q.2, hzy_q, hys_q, r2_q, r3_q, ?_⟩⟩))
            all_goals first | exact nI_small (by omega) | (rw [if_pos h72]; done) | (rw [if_neg h72]; done) | (intro hc_q; have e9_q : nI y - nI z = nI (y - z) := (by have := nI_add (y - z) z; rw [show y - z + z = y by omega] at this; rw [← this, Int32.sub_eq_add_neg, Int32.add_assoc, ← Int32.sub_eq_add_neg, Int32.sub_self, Int32.add_zero]); rw [e9_q] at hc_q; exact nI_small (by omega) hc_q)
        · skip
          refine wp_iconst (-1) dX11_roundNow_67 (by decide) ?_
          refine wp_goto dX11_roundNow_68 ?_
          refine st_i_5_2 dX11_roundNow_84 (by decide) rfl ?_
          refine ic_5_4 (nI (z + 1)) dX11_roundNow_85 (nI_inc z) (by decide) rfl ?_
          refine wp_goto dX11_roundNow_88 ?_
          first | (have hns_q := (hs_q.resolve_left (fun q => by rw [q.1] at h64; exact absurd h64 (by decide))).2; exact ih _ (by omega) (z + 1) _ rfl (by omega) (Or.inl ⟨rfl, r2_q, fun u2 hu2_q => by by_cases e_q : u2 = z; (rw [e_q]; exact hns_q); exact r3_q u2 (by omega)⟩)) | (have hys_q := (hs_q.resolve_right (fun q => h64 q.1)).2; refine ih _ (by omega) (z + 1) _ rfl (by omega) (Or.inr ⟨?_, Or.inl ⟨y, z, hy_q.1, hy_q.2, hzy_q, hys_q, r2_q, r3_q, ?_⟩⟩))
          all_goals first | exact nI_small (by omega) | (rw [if_pos h72]; done) | (rw [if_neg h72]; done) | (intro hc_q; have e9_q : nI y - nI z = nI (y - z) := (by have := nI_add (y - z) z; rw [show y - z + z = y by omega] at this; rw [← this, Int32.sub_eq_add_neg, Int32.add_assoc, ← Int32.sub_eq_add_neg, Int32.sub_self, Int32.add_zero]); rw [e9_q] at hc_q; exact nI_small (by omega) hc_q)
set_option maxHeartbeats 4000000 in
theorem l_rnd {I S M : Mem} {J : Mel} {Q : Option Value → Mem → Mem → Mel → Prop} {n T : Nat} {v : Int32} (hW_q : WS n T S) (k : ∀ (r : Int32) (S1 S2 : Mem), RoundP n S v r → kqR M S1 → lbkR S1 S2 → Q (some (.int r)) I S2 J) : ∀ (y : Nat) (S1 : Mem) (r : Int32) (z : Value), (1 ≤ y ∧ y ≤ 61) → ((r = -1 ∧ ∀ t u, t < y → u < t → ¬ smG n (tks u S) (tks t S)) ∨ (¬ r = -1 ∧ RoundP n S v r)) → (eqD (tks (y - 1) S) S1) → (rowsR n S S1 y) → (kqR M S1) → W2 mX11_roundNow 7 Q I S1 J 23 [.ref 126, .int v, .int r, .int (nI y), z] [] := by
  intro y S1 r z
  induction hm : 61 - y using Nat.strongRecOn generalizing y S1 r z with
  | _ c ih =>
    intro hy_q hr_q he_q hR_q hk_q
    have hn_q := hW_q.1
    have hW1_q : WS n (T + (y - 1)) S1 := (hW_q.tks (y - 1)).all ⟨he_q.s (by omega), he_q.s (by omega), he_q.s (by omega), he_q.r (by omega), he_q.r (by omega)⟩ (fun i => ⟨by rw [he_q.r (by omega)], by rw [he_q.r (by omega)], fun j _ => by rw [he_q.r (by omega)], by rw [he_q.r (by omega)], by rw [he_q.r (by omega)], by rw [he_q.r (by omega)], by rw [he_q.r (by omega)], fun j _ => ⟨by rw [he_q.r (by omega)], by rw [he_q.r (by omega)]⟩, by rw [he_q.r (by omega)], by rw [he_q.r (by omega)]⟩)
    refine wp_iload_n dX11_roundNow_23 rfl ?_
    refine wp_bipush 60 dX11_roundNow_24 (by decide) ?_
    refine wp_icmp_gt dX11_roundNow_26 (fun h26 => ?_) (fun h26 => ?_)
    · skip
      refine wp_aload_n dX11_roundNow_97 rfl ?_
      refine g_callV0 (mj := mX11_layBack) dX11_roundNow_98 lkRX11_329 mkX11_layBack (by first | rfl | assumption) (by decide) (by decide) (Nat.le_of_ble_eq_true rfl) (c_layBack (fun S2 hb_q => ?_))
      refine wp_iload_n dX11_roundNow_101 rfl ?_
      refine g_iret dX11_roundNow_102 rfl ?_
      refine k _ S1 S2 ?_ hk_q hb_q
      rcases hr_q with ⟨q1_q, q2_q⟩ | q_q
      · refine Or.inr ⟨fun t u ht_q hu_q => q2_q t u ?_ hu_q, q1_q⟩
        first | (rw [show (60 : Int32) = nI 60 from rfl, nI_ltg (by omega) (by omega)] at h26; omega) | exact absurd q1_q h31
      · exact q_q.2
    · skip
      have hy60_q : y ≤ 60 := by rw [show (60 : Int32) = nI 60 from rfl, nI_ltg (by omega) (by omega)] at h26; omega
      refine wp_iload_n dX11_roundNow_29 rfl ?_
      refine wp_iconst (-1) dX11_roundNow_30 (by decide) ?_
      refine wp_icmp_ne dX11_roundNow_31 (fun h31 => ?_) (fun h31 => ?_)
      · skip
        refine wp_aload_n dX11_roundNow_97 rfl ?_
        refine g_callV0 (mj := mX11_layBack) dX11_roundNow_98 lkRX11_329 mkX11_layBack (by first | rfl | assumption) (by decide) (by decide) (Nat.le_of_ble_eq_true rfl) (c_layBack (fun S2 hb_q => ?_))
        refine wp_iload_n dX11_roundNow_101 rfl ?_
        refine g_iret dX11_roundNow_102 rfl ?_
        refine k _ S1 S2 ?_ hk_q hb_q
        rcases hr_q with ⟨q1_q, q2_q⟩ | q_q
        · refine Or.inr ⟨fun t u ht_q hu_q => q2_q t u ?_ hu_q, q1_q⟩
          first | (rw [show (60 : Int32) = nI 60 from rfl, nI_ltg (by omega) (by omega)] at h26; omega) | exact absurd q1_q h31
        · exact q_q.2
      · skip
        refine wp_aload_n dX11_roundNow_34 rfl ?_
        refine g_callV0 (mj := mX11_tickOnce) dX11_roundNow_35 lkRX11_299 mkX11_tickOnce (by first | rfl | assumption) (by decide) (by decide) (Nat.le_of_ble_eq_true rfl) (c_tickOnce hW1_q ?_)
        refine wp_aload_n dX11_roundNow_38 rfl ?_
        refine wp_iload_n dX11_roundNow_39 rfl ?_
        refine g_callV1 (mj := mX11_write) dX11_roundNow_40 lkRX11_323 mkX11_write (by first | rfl | assumption) (by decide) (by decide) (Nat.le_of_ble_eq_true rfl) (c_write hn_q (hW1_q.tick).2.1 (by omega) (fun i hi_q => (hW1_q.tick).box hi_q) (fun S3 hw_q => ?_))
        have hW2_q := hW1_q.tick
        have heT_q : eqD (tks y S) (fTick S1) := by rw [show tks y S = fTick (tks (y - 1) S) by rw [show y = y - 1 + 1 by omega]; rfl]; exact he_q.tick
        have hRT_q : rowsR n S (fTick S1) y := fun t h1 a h2 q h3 => by rw [(kpD.tick S1).1 158 (by decide) (by omega)]; exact hR_q t h1 a h2 q h3
        have hR3_q := rows_wr hn_q hRT_q heT_q hw_q
        refine wp_iconst 0 dX11_roundNow_43 (by decide) ?_
        refine st_i_5_4 dX11_roundNow_44 (by decide) rfl ?_
        refine l_rnd2 hn_q (by rw [hw_q.1 126 (by decide)]; exact hW2_q.2.1) ⟨hy_q.1, hy60_q⟩ hR3_q (fun r2 z2 hr2_q => ?_) 0 r (by omega) ?_
        · skip
          refine ic_5_3 (nI (y + 1)) dX11_roundNow_91 (nI_inc y) (by decide) rfl ?_
          refine wp_goto dX11_roundNow_94 ?_
          exact ih _ (by omega) (y + 1) S3 r2 _ rfl ⟨by omega, by omega⟩ hr2_q (by rw [show y + 1 - 1 = y by omega]; exact (eqD.tick he_q |> fun q => by rw [show tks y S = fTick (tks (y - 1) S) by rw [show y = y - 1 + 1 by omega]; rfl]; exact q.tr (eqD.wr hw_q))) hR3_q (hk_q.tick.wr hw_q)
        · rcases hr_q with ⟨q1_q, q2_q⟩ | q_q
          · exact Or.inl ⟨q1_q, q2_q, fun u hu_q => by omega⟩
          · exact Or.inr q_q
