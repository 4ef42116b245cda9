set_option maxHeartbeats 4000000 in
theorem l_pd1 {I S : Mem} {J : Mel} {Q : Option Value → Mem → Mem → Mel → Prop} {n T : Nat} {G : Mem} (hH_q : Hc n T 0 I 24 G) (hE_q : WSe n G) {a : Nat} {h : Int64} {u : Value} (ha_q : a < n) (k : W2 mX10_digest 4 Q I S J 48 [.ref 2, .long (d10 G a h 10), dum, .int (nI a), .int (nI 10), u] []) : ∀ (v : Nat), (v ≤ 10) → W2 mX10_digest 4 Q I S J 20 [.ref 2, .long (d10 G a h v), dum, .int (nI a), .int (nI v), u] [] := by
  intro v
  induction hm : 10 - v using Nat.strongRecOn generalizing v with
  | _ c ih =>
    intro hv_q
    refine wp_iload dX10_digest_20 rfl ?_
    refine wp_bipush 10 dX10_digest_22 (by decide) ?_
    refine wp_icmp_ge dX10_digest_24 (fun h24 => ?_) (fun h24 => ?_)
    · skip
      have e_q : v = 10 := by rw [show (10 : Int32) = nI 10 from rfl, nI_leg (by omega) (by omega)] at h24; omega
      subst e_q; exact k
    · skip
      have hv10_q : v < 10 := by rw [show (10 : Int32) = nI 10 from rfl, nI_leg (by omega) (by omega)] at h24; omega
      refine wp_lload_n dX10_digest_27 rfl ?_
      refine wp_ldc2 dX10_digest_28 kcRX10_217 ?_
      refine wp_lmul dX10_digest_31 ?_
      refine wp_aload_n dX10_digest_32 rfl ?_
      refine wp_iload_n dX10_digest_33 rfl ?_
      refine wp_iload dX10_digest_34 rfl ?_
      refine g_callV2 (mj := mX10_actorFact) dX10_digest_36 lkRX10_96 mkX10_actorFact (by first | rfl | assumption) (by decide) (by decide) (Nat.le_of_ble_eq_true rfl) (c_actorFact hH_q hE_q ha_q hv10_q ?_)
      refine wp_i2l dX10_digest_39 ?_
      refine wp_ladd dX10_digest_40 ?_
      rw [Int64.mul_comm]
      refine st_l_6_1 dX10_digest_41 (by decide) rfl ?_
      refine ic_6_4 (nI (v + 1)) dX10_digest_42 (nI_inc v) (by decide) rfl ?_
      refine wp_goto dX10_digest_45 ?_
      exact ih _ (by omega) (v + 1) rfl (by omega)
