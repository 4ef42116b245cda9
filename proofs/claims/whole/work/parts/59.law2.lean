theorem fb_andI (a b : Nat) : nI a &&& nI b = nI (a &&& b) := by
  apply Int32.toBitVec_inj.1
  show BitVec.ofNat 32 a &&& BitVec.ofNat 32 b = BitVec.ofNat 32 (a &&& b)
  apply BitVec.eq_of_getLsbD_eq
  intro i hi
  simp [hi]
theorem and31 (x : Int32) : ∃ m, m < 32 ∧ x &&& 31 = nI m := by
  obtain ⟨n, hn, rfl⟩ := wb_of32 x
  refine ⟨n &&& 31, ?_, by rw [show (31 : Int32) = nI 31 from rfl, fb_andI]⟩
  have := @Nat.and_le_right n 31
  omega
theorem len4 {L i : Nat} (hL : L ≤ 2048) (hi : i < 1000000) (h : ¬ nI L - 4 < nI i) : i + 4 ≤ L := by
  rcases Nat.lt_or_ge L 4 with q | q
  · exfalso
    apply h
    refine Int32.lt_of_lt_of_le (b := 0) ?_ (nI_pos' (by omega))
    rcases (show L = 0 ∨ L = 1 ∨ L = 2 ∨ L = 3 by omega) with rfl | rfl | rfl | rfl <;> decide
  · have e : nI L - 4 = nI (L - 4) := by
      have := nI_add (L - 4) 4
      rw [show L - 4 + 4 = L by omega] at this
      rw [← this, show nI 4 = (4 : Int32) from rfl, Int32.add_sub_cancel]
    rw [e, nI_ltg (by omega) (by omega)] at h
    omega
theorem lw_end {p : Program} {l : Launch} {e : Env} {s : State} {m : MethodId} {args : Array Value} {below : List Frame} {meth : Method} {c : Code} (hx : p.tables.exec = Jvm.exec) (hb : c.code = code) (hr : meth.sig.returnType = ret) (hlocks : meth.locks = false) {pc : Nat} {H : Heap} {ls : Array Slot} (hdg : decode code pc = .ok (.ireturn, 1)) : W p l e room_1 s m args below meth c H [] 600000 7302250 (lw_Z below args s) (F0 m pc ls [.int 1]) := by
  intro T hT X
  obtain ⟨fs, hret, hrun, hended, hW, hframe⟩ := X.leave (v := some (.int 1)) (hlocks := hlocks) (fun h => by rw [hr] at h; cases h)
  have hmeth' : T.vm.method? m = some meth := X.method'
  refine ⟨T.setFrames fs, ?_, .returned (some (.int 1)), hrun, hended, rfl, ⟨_, rfl⟩, hW, hframe⟩
  jvm_step X.here [X.here.top, hx, hb, hdg, hmeth', hr, ret, narrow_b1]
  (try refine ⟨rfl, ?_⟩); (try refine ⟨rfl, ?_⟩)
  first | (intro acts; rw [hret _ acts rfl rfl rfl]) | rw [hret _ _ rfl rfl rfl]
  exact Steps.refl _
/-- the law's end, where its own cells are those behind all that was there -/
def finLw : FinT := fun z below args s t => z.1.2.2 = s.heap.size → lw_Z below args s t
theorem wp_lend {sc : Option (Nat × (Nat → Int32))} {g : Geo} {I : Mem} {J : Mel} {Ls : List Value} : Wp mL_law room_1 sc finLw 171 8253 g I J 716 Ls [.int 1] := by
  intro z p l e s m args below meth c C H locs ls hS hP hl
  by_cases hz : z.1.2.2 = s.heap.size
  · have k : W p l e room_1 s m args below meth c H [] 600000 7302250 (lw_Z below args s) (F0 m 716 ls [.int 1]) := lw_end C.1 C.2.1 C.2.2.2.1 C.2.2.2.2.1 dL_law_716
    have k2 : W p l e room_1 s m args below meth c H [] 600000 7302250 (finLw z below args s) (F0 m 716 ls [.int 1]) := fun T hT X => by
      obtain ⟨t, a, b⟩ := k T hT X
      exact ⟨t, a, fun _ => b⟩
    refine va_forget (fun q hq => ?_) (W.widen (Nat.le_of_ble_eq_true rfl) (Nat.le_of_ble_eq_true rfl) k2)
    have t : zA z q.base := hS.2.2 q hq
    unfold zA at t
    omega
  · exact fun T hT X => ⟨_, Steps.refl _, fun q => absurd q hz⟩
set_option maxHeartbeats 4000000 in
theorem l_law {L : Nat} {xs : Nat → Int32} (hL_q : L ≤ 2048) : ∀ (i : Nat) (I S : Mem) (J : Mel), i ≤ L + 4 → (∃ n T p cr r, LI n T p cr r I S ∧ cr ≤ i) → WLw finLw L xs i I S J 18 [] := by
  intro i
  induction hm : L + 4 - i using Nat.strongRecOn generalizing i with
  | _ c ih =>
    intro I S J hi_q hL2_q
    obtain ⟨n, T, p, cr, r, h_q, hcr_q⟩ := hL2_q
    unfold WLw
    refine wp_iload_n dL_law_18 rfl ?_
    refine wp_aload_n dL_law_19 rfl ?_
    refine wp_slen dL_law_20 rfl ?_
    refine wp_iconst 4 dL_law_21 (by decide) ?_
    refine wp_isub dL_law_22 ?_
    refine wp_icmp_gt dL_law_23 (fun h23 => ?_) (fun h23 => ?_)
    · skip
      refine wp_iconst 1 dL_law_715 (by decide) ?_
      exact wp_lend
    · skip
      have hi4_q : i + 4 ≤ L := len4 hL_q (by omega) h23
      have kk_q : KKw finLw L xs i := fun I2 S2 J2 n2 T2 p2 cr2 r2 h2_q hc2_q => by
        unfold WLw
        refine ic_4_3 (nI (i + 4)) dL_law_709 (nI_add i 4) (by decide) rfl ?_
        refine wp_goto dL_law_712 ?_
        exact ih _ (by omega) (i + 4) rfl I2 S2 J2 (by omega) ⟨n2, T2, p2, cr2, r2, h2_q, by omega⟩
      refine wp_aload_n dL_law_26 rfl ?_
      refine wp_iload_n dL_law_27 rfl ?_
      refine wp_sld dL_law_28 rfl rfl (by omega) (by omega) ?_
      refine wp_bipush 31 dL_law_29 (by decide) ?_
      refine wp_iand dL_law_31 ?_
      obtain ⟨m, hm_q, em_q⟩ := and31 (xs i)
      rw [em_q]
      by_cases h22_q : m < 22
      · rcases (show m = 0 ∨ m = 1 ∨ m = 2 ∨ m = 3 ∨ m = 4 ∨ m = 5 ∨ m = 6 ∨ m = 7 ∨ m = 8 ∨ m = 9 ∨ m = 10 ∨ m = 11 ∨ m = 12 ∨ m = 13 ∨ m = 14 ∨ m = 15 ∨ m = 16 ∨ m = 17 ∨ m = 18 ∨ m = 19 ∨ m = 20 ∨ m = 21 by omega) with rfl | rfl | rfl | rfl | rfl | rfl | rfl | rfl | rfl | rfl | rfl | rfl | rfl | rfl | rfl | rfl | rfl | rfl | rfl | rfl | rfl | rfl
        · refine wp_tswIn (off := 104) (tgt := 136) dL_law_32 0 rfl (by decide) (by decide) (by decide) (by decide) ?_
          exact op_0 hi4_q hL_q h_q hcr_q kk_q
        · refine wp_tswIn (off := 127) (tgt := 159) dL_law_32 1 rfl (by decide) (by decide) (by decide) (by decide) ?_
          exact op_1 hi4_q hL_q h_q hcr_q kk_q
        · refine wp_tswIn (off := 140) (tgt := 172) dL_law_32 2 rfl (by decide) (by decide) (by decide) (by decide) ?_
          exact op_2 hi4_q hL_q h_q hcr_q kk_q
        · refine wp_tswIn (off := 153) (tgt := 185) dL_law_32 3 rfl (by decide) (by decide) (by decide) (by decide) ?_
          exact op_3 hi4_q hL_q h_q hcr_q kk_q
        · refine wp_tswIn (off := 166) (tgt := 198) dL_law_32 4 rfl (by decide) (by decide) (by decide) (by decide) ?_
          exact op_4 hi4_q hL_q h_q hcr_q kk_q
        · refine wp_tswIn (off := 199) (tgt := 231) dL_law_32 5 rfl (by decide) (by decide) (by decide) (by decide) ?_
          exact op_5 hi4_q hL_q h_q hcr_q kk_q
        · refine wp_tswIn (off := 242) (tgt := 274) dL_law_32 6 rfl (by decide) (by decide) (by decide) (by decide) ?_
          exact op_6 hi4_q hL_q h_q hcr_q kk_q
        · refine wp_tswIn (off := 275) (tgt := 307) dL_law_32 7 rfl (by decide) (by decide) (by decide) (by decide) ?_
          exact op_7 hi4_q hL_q h_q hcr_q kk_q
        · refine wp_tswIn (off := 308) (tgt := 340) dL_law_32 8 rfl (by decide) (by decide) (by decide) (by decide) ?_
          exact op_8 hi4_q hL_q h_q hcr_q kk_q
        · refine wp_tswIn (off := 331) (tgt := 363) dL_law_32 9 rfl (by decide) (by decide) (by decide) (by decide) ?_
          exact op_9 hi4_q hL_q h_q hcr_q kk_q
        · refine wp_tswIn (off := 354) (tgt := 386) dL_law_32 10 rfl (by decide) (by decide) (by decide) (by decide) ?_
          exact op_10 hi4_q hL_q h_q hcr_q kk_q
        · refine wp_tswIn (off := 377) (tgt := 409) dL_law_32 11 rfl (by decide) (by decide) (by decide) (by decide) ?_
          exact op_11 hi4_q hL_q h_q hcr_q kk_q
        · refine wp_tswIn (off := 410) (tgt := 442) dL_law_32 12 rfl (by decide) (by decide) (by decide) (by decide) ?_
          exact op_12 hi4_q hL_q h_q hcr_q kk_q
        · refine wp_tswIn (off := 443) (tgt := 475) dL_law_32 13 rfl (by decide) (by decide) (by decide) (by decide) ?_
          exact op_13 hi4_q hL_q h_q hcr_q kk_q
        · refine wp_tswIn (off := 476) (tgt := 508) dL_law_32 14 rfl (by decide) (by decide) (by decide) (by decide) ?_
          exact op_14 hi4_q hL_q h_q hcr_q kk_q
        · refine wp_tswIn (off := 499) (tgt := 531) dL_law_32 15 rfl (by decide) (by decide) (by decide) (by decide) ?_
          exact op_15 hi4_q hL_q h_q hcr_q kk_q
        · refine wp_tswIn (off := 558) (tgt := 590) dL_law_32 16 rfl (by decide) (by decide) (by decide) (by decide) ?_
          exact op_16 hi4_q hL_q h_q hcr_q kk_q
        · refine wp_tswIn (off := 571) (tgt := 603) dL_law_32 17 rfl (by decide) (by decide) (by decide) (by decide) ?_
          exact op_17 hi4_q hL_q h_q hcr_q kk_q
        · refine wp_tswIn (off := 614) (tgt := 646) dL_law_32 18 rfl (by decide) (by decide) (by decide) (by decide) ?_
          exact op_18 hi4_q hL_q h_q hcr_q kk_q
        · refine wp_tswIn (off := 627) (tgt := 659) dL_law_32 19 rfl (by decide) (by decide) (by decide) (by decide) ?_
          exact op_19 hi4_q hL_q h_q hcr_q kk_q
        · refine wp_tswIn (off := 640) (tgt := 672) dL_law_32 20 rfl (by decide) (by decide) (by decide) (by decide) ?_
          exact op_20 hi4_q hL_q h_q hcr_q kk_q
        · refine wp_tswIn (off := 663) (tgt := 695) dL_law_32 21 rfl (by decide) (by decide) (by decide) (by decide) ?_
          exact op_21 hi4_q hL_q h_q hcr_q kk_q
      · refine wp_tswOut (tgt := 709) dL_law_32 (Or.inr (by rw [nI_toInt (by omega)]; omega)) (by decide) ?_
        exact kk_q I S J n T p cr r h_q (by omega)
theorem LI.zero : LI 0 0 0 0 0 zM zM := by
  refine ⟨⟨crew24, ⟨by omega, rfl, rfl, ⟨0, by omega, rfl, fun j hj => by omega⟩, fun i hi => by omega⟩, ⟨rfl, rfl, fun i hi => by omega, ⟨rfl, fun j hj => ?_⟩, rfl, fun j hj => ?_⟩, ⟨rfl, fun i hi => by omega, fun i hi => by omega⟩, by omega⟩, by omega, ⟨0, by omega, rfl, fun j hj => by omega⟩, ⟨rfl, rfl, rfl, rfl, by omega, rfl, ⟨rfl, by omega, fun j hj => by omega⟩, fun j hj => by omega, Or.inl rfl⟩, Or.inl ⟨rfl, fun q => q.1 rfl⟩⟩
  · exact absurd hj (by show ¬ j < tn (nI 0); rw [tn_nI (by omega)]; omega)
  · exact absurd hj (by show ¬ j < tn (nI 0); rw [tn_nI (by omega)]; omega)
theorem mg_z : mg zM zM = zM := by
  funext a
  unfold mg
  split <;> rfl
theorem gA_eq : gL (bS_X10_init ++ bS_X11_init) (bR_X10_init 0 ++ bR_X11_init 124) = gA := by
  have h1 : bS_X10_init ++ bS_X11_init = shL := by decide +kernel
  have h2 : bR_X10_init 0 ++ bR_X11_init 124 = raL := by decide +kernel
  rw [h1, h2]
  refine Prod.ext (by decide +kernel) (Prod.ext ?_ ?_)
  · funext a
    match a with
    | 0 => rfl
    | 1 => rfl
    | k + 2 => rfl
  · funext a j
    match a with
    | 0 => rfl
    | 1 => rfl
    | k + 2 => rfl
theorem gN10 : gN (gL [] []) (10, 0) = gL ([] ++ [(10, 0)]) ([] ++ [[]]) := gn_eq rfl _
theorem gN11 : gN (gL ([] ++ bS_X10_init) ([] ++ bR_X10_init 0)) (11, 0) = gL (bS_X10_init ++ [(11, 0)]) (bR_X10_init 0 ++ [[]]) := gn_eq rfl _
set_option maxHeartbeats 4000000 in
theorem law_go {L : Nat} {xs : Nat → Int32} (hL_q : L ≤ 2048) : Wp mL_law room_1 (some (L, xs)) finLw 0 0 (gL [] []) zM zJ 0 [.ref 0, dum, dum, dum] [] := by
  refine wp_new dL_law_0 ckX10 klRL_7 inst10 init10 (by decide) (by decide) ?_
  rw [gN10, rI_z, rJ_z]
  show Wp mL_law room_1 (some (L, xs)) finLw 1 11 (gL ([] ++ [(10, 0)]) ([] ++ [[]])) zM zJ 3 [.ref 0, dum, dum, dum] [.ref 2]
  refine wp_dup dL_law_3 rfl ?_
  refine wp_callI (mj := mX10_init) (rm := rmc 4 123 1529) (av := []) (a := 2) (st := [.ref 2]) rfl dL_law_4 lkRL_9 mkX10_init rfl rfl (by decide) (by decide) (Nat.le_of_ble_eq_true rfl) ?_
  refine mc_X10_init [] [] 0 _ rfl rfl (by decide +kernel) ?_
  show Wp mL_law room_1 (some (L, xs)) finLw 124 1540 (gL ([] ++ bS_X10_init) ([] ++ bR_X10_init 0)) zM zJ 7 [.ref 0, dum, dum, dum] [.ref 2]
  refine st_a_4_1 dL_law_7 (by decide) rfl ?_
  refine wp_new dL_law_8 ckX11 klRL_10 inst11 init11 (by decide +kernel) (by decide) ?_
  rw [gN11, rI_z, rJ_z]
  show Wp mL_law room_1 (some (L, xs)) finLw 125 1613 (gL (bS_X10_init ++ [(11, 0)]) (bR_X10_init 0 ++ [[]])) zM zJ 11 [.ref 0, .ref 2, dum, dum] [.ref 126]
  refine wp_dup dL_law_11 rfl ?_
  refine wp_callI (mj := mX11_init) (rm := rmc 1 46 6640) (av := []) (a := 126) (st := [.ref 126]) rfl dL_law_12 lkRL_12 mkX11_init rfl rfl (by decide) (by decide) (Nat.le_of_ble_eq_true rfl) ?_
  refine mc_X11_init bS_X10_init (bR_X10_init 0) 124 _ (by decide +kernel) (by decide +kernel) (by decide +kernel) ?_
  rw [gA_eq, ← mg_z]
  show Wp mL_law room_1 (some (L, xs)) finLw 171 8253 gA (mg zM zM) zJ 15 [.ref 0, .ref 2, dum, dum] [.ref 126]
  refine st_a_4_2 dL_law_15 (by decide) rfl ?_
  refine wp_iconst 0 dL_law_16 (by decide) ?_
  refine st_i_4_3 dL_law_17 (by decide) rfl ?_
  exact l_law hL_q 0 zM zM zJ (by omega) ⟨0, 0, 0, 0, 0, LI.zero, by omega⟩
