theorem nst_in : ∀ q ∈ nstl, Cond.methodLinkNest q.1 q.2.1 q.2.2 "LetterCrew" ∈ lw_tbl := List.forall_mem_cons.mpr ⟨List.mem_of_getElem? (i := 87) (by decide +kernel), List.forall_mem_cons.mpr ⟨List.mem_of_getElem? (i := 105) (by decide +kernel), List.forall_mem_cons.mpr ⟨List.mem_of_getElem? (i := 111) (by decide +kernel), List.forall_mem_cons.mpr ⟨List.mem_of_getElem? (i := 117) (by decide +kernel), List.forall_mem_cons.mpr ⟨List.mem_of_getElem? (i := 183) (by decide +kernel), List.forall_mem_cons.mpr ⟨List.mem_of_getElem? (i := 193) (by decide +kernel), List.forall_mem_cons.mpr ⟨List.mem_of_getElem? (i := 196) (by decide +kernel), List.forall_mem_cons.mpr ⟨List.mem_of_getElem? (i := 213) (by decide +kernel), List.forall_mem_cons.mpr ⟨List.mem_of_getElem? (i := 219) (by decide +kernel), List.forall_mem_cons.mpr ⟨List.mem_of_getElem? (i := 312) (by decide +kernel), List.forall_mem_cons.mpr ⟨List.mem_of_getElem? (i := 326) (by decide +kernel), (fun q hq => by cases hq)⟩⟩⟩⟩⟩⟩⟩⟩⟩⟩⟩
theorem whole_start {p : Program} {e : Env} {s : State} {m : MethodId} {below : List Frame} {meth : Method} {c : Code} (l : Launch) (hflags : l.flags = flags0) {b L : Nat} {xs : Nat → Int32} (hL : L ≤ 2048) (C0 : lw_At p s m meth c b L xs) : W p l e room_1 s m #[Value.ref b] below meth c s.heap [] 0 0 (lw_Z below #[Value.ref b] s) (entryFrame m ([Value.ref b] : List Value).toArray 4) := by
  obtain ⟨hx, hb, hr, hml, hown, hts, hX, hbl, hlocks, hgv⟩ := id C0
  have htg : ∀ w ∈ gtbl, w.before #[Value.ref b] s = true := fun w hw => hts w (List.mem_filter.mp hw).1
  have hfl := flat_of_before _ hgv
  have hKn : ∀ (k : Nat) (q : vw_C), cls12[k]? = some q → ∃ (cC : ClassId) (iS : Nat → Nat), u_Kn s q.1 q.2.1 q.2.2 cC iS := by
    intro k q hq
    match k, hq with
    | 0, hq => cases hq; exact u_known htg ckX0.2.2.1 (htg _ inst0)
    | 1, hq => cases hq; exact u_known htg ckX1.2.2.1 (htg _ inst1)
    | 2, hq => cases hq; exact u_known htg ckX2.2.2.1 (htg _ inst2)
    | 3, hq => cases hq; exact u_known htg ckX3.2.2.1 (htg _ inst3)
    | 4, hq => cases hq; exact u_known htg ckX4.2.2.1 (htg _ inst4)
    | 5, hq => cases hq; exact u_known htg ckX5.2.2.1 (htg _ inst5)
    | 6, hq => cases hq; exact u_known htg ckX6.2.2.1 (htg _ inst6)
    | 7, hq => cases hq; exact u_known htg ckX7.2.2.1 (htg _ inst7)
    | 8, hq => cases hq; exact u_known htg ckX8.2.2.1 (htg _ inst8)
    | 9, hq => cases hq; exact u_known htg ckX9.2.2.1 (htg _ inst9)
    | 10, hq => cases hq; exact u_known htg ckX10.2.2.1 (htg _ inst10)
    | 11, hq => cases hq; exact u_known htg ckX11.2.2.1 (htg _ inst11)
    | k + 12, hq => simp at hq
  obtain ⟨c0, i0, -⟩ := hKn 0 _ rfl
  have hK2 : ∀ k : Nat, ∃ x : ClassId × (Nat → Nat), ∀ q, cls12[k]? = some q → u_Kn s q.1 q.2.1 q.2.2 x.1 x.2 := by
    intro k
    cases hq : cls12[k]? with
    | none => exact ⟨(c0, i0), fun q h => by cases h⟩
    | some q => obtain ⟨c1, i1, h⟩ := hKn k q hq; exact ⟨(c1, i1), fun q2 h2 => by cases h2; exact h⟩
  obtain ⟨cI, kI, mI, fI1, fI2, fI3⟩ := Cond.arrayClass_spec (htg _ arrc_int)
  obtain ⟨cB, kB, mB, fB1, fB2, fB3⟩ := Cond.arrayClass_spec (htg _ arrc_byte)
  obtain ⟨cJ, kJ, mJ, fJ1, fJ2, fJ3⟩ := Cond.arrayClass_spec (htg _ arrc_long)
  have hov : (Cond.arrayOver (.object "LetterCrew$Actor")).before #[Value.ref b] s = true := hts _ (List.mem_of_getElem? (i := 191) (by decide +kernel))
  obtain ⟨mA, cA, kA, a1, a2, a3, a4, a5⟩ := Cond.arrayOver_spec hov
  have hA : ∀ a : Nat, a < s.heap.size → ¬ (fun q : Nat => s.heap.size ≤ q) a := fun a h => Nat.not_le.mpr h
  have harr : (Cond.arrayOf (.static "LetterCrew$Seen" "KINDS_THAT_DO" "[I") .int).before #[Value.ref b] s = true := hfl _ (by decide +kernel)
  have hlen : (Term.length (.static "LetterCrew$Seen" "KINDS_THAT_DO" "[I")).eval #[Value.ref b] s none [] s = some (.int (Int32.ofNat 4)) := va_eqt (hfl (Cond.eq (.length (.static "LetterCrew$Seen" "KINDS_THAT_DO" "[I")) (.int 4)) (by decide +kernel))
  have hel : ∀ j : Nat, j < 4 → (Term.elem (.static "LetterCrew$Seen" "KINDS_THAT_DO" "[I") (.int (Int32.ofNat j))).eval #[Value.ref b] s none [] s = some (.int (if j = 0 then 16 else if j = 1 then 7 else if j = 2 then 25 else 4)) := by
    intro j hj
    rcases (show j = 0 ∨ j = 1 ∨ j = 2 ∨ j = 3 by omega) with rfl | rfl | rfl | rfl
    · exact va_eqt (hfl (Cond.eq (.elem (.static "LetterCrew$Seen" "KINDS_THAT_DO" "[I") (.int 0)) (.int 16)) (by decide +kernel))
    · exact va_eqt (hfl (Cond.eq (.elem (.static "LetterCrew$Seen" "KINDS_THAT_DO" "[I") (.int 1)) (.int 7)) (by decide +kernel))
    · exact va_eqt (hfl (Cond.eq (.elem (.static "LetterCrew$Seen" "KINDS_THAT_DO" "[I") (.int 2)) (.int 25)) (by decide +kernel))
    · exact va_eqt (hfl (Cond.eq (.elem (.static "LetterCrew$Seen" "KINDS_THAT_DO" "[I") (.int 3)) (.int 4)) (by decide +kernel))
  obtain ⟨t, ht, hT⟩ := va_Tof (A := fun q : Nat => s.heap.size ≤ q) (by decide) harr hlen hel hA
  have hZ := va_Zref (A := fun q : Nat => s.heap.size ≤ q) (hts (Cond.laysStatic "LetterCrew$Seen" "KINDS_THAT_DO" "[I") (List.mem_of_getElem? (i := 534) (by decide +kernel))) (htg _ init8) ht hA
  let z : Zc := ((b, t, s.heap.size), (fun k => (hK2 k).choose.1, fun k => (hK2 k).choose.2), (cI, cB, cJ, cA))
  have hzt : Ztt z s s.heap := ⟨⟨fun q hq => va_Nw.of rfl (hts _ (nst_in q hq)), va_AO.of hov⟩, hZ, hT⟩
  have hst : Stt z (gL [] []) zM zJ s s.heap := by
    refine ⟨fun _ => rfl, fun a ha => ?_, fun k q h => (by simp [zws, gL] at h), fun k q h => (hK2 k).choose_spec q h, fun k q h => ?_⟩
    · match a, ha with
      | 0, ha => exact absurd rfl ha
      | 1, ha => exact absurd rfl ha
      | k + 2, ha => exact absurd rfl ha
    · match k, h with
      | 0, h => cases h; exact ⟨fun n v => ⟨fun k h => (by cases h), kI, fI2, mI, fI3⟩, fI1⟩
      | 1, h => cases h; exact ⟨fun n v => ⟨fun k h => (by cases h), kB, fB2, mB, fB3⟩, fB1⟩
      | 2, h => cases h; exact ⟨fun n v => ⟨fun k h => (by cases h), kJ, fJ2, mJ, fJ3⟩, fJ1⟩
      | 3, h => cases h; exact ⟨fun n v => ⟨fun k h => (by cases h), kA, a3, mA, a4⟩, kA, mA, a3, a4, a1, a5⟩
      | k + 4, h => simp at h
  have hcx : Cx mL_law (some (L, xs)) z p s m #[Value.ref b] meth c := ⟨hx, hb, hml, hr, hlocks, hown, htg, Nat.le_refl _, fun q => absurd q (by decide +kernel), hzt, fun q hq => by cases hq; exact ⟨hX, hbl, Nat.not_le.mpr hbl⟩⟩
  rw [lg_entry_eq]
  have k := law_go (xs := xs) hL z p l e s m #[Value.ref b] below meth c hcx s.heap [] _ va_S.rf hst (lvl_entry (av := [.ref 0]) (by rw [slN_eq]; decide) (padL_ok (n := 4) (av := [.ref 0])))
  intro T hT2 X
  obtain ⟨t2, q1, q2⟩ := k T hT2 X
  exact ⟨t2, q1, q2 rfl⟩
set_option maxHeartbeats 4000000 in
theorem lw_walk (l : Launch) (hflags : l.flags = flags0) (b : Addr) (xs : List Int32) : MetFree l x (headSpec (Jvm.Cond.code x code maxLocals ret :: tables_1) room_1) (lw_P b xs) (fun _ _ _ _ _ => True) lw_Q := by
  refine MetFree.of_bodyS (code := code) (maxLocals := maxLocals) (ret := ret) (by decide) ?_ ?_
  · intro args s m h hn
    obtain ⟨meth, c, h1, h2, h3, h4, h5, h6, -, -⟩ := Cond.code_spec hn (atoms_spec (ws := Jvm.Cond.code x code maxLocals ret :: tables_1) h _ List.mem_cons_self)
    exact ⟨meth, c, h1, h2, h3, h4, h5, h6⟩
  · intro p e s m args below meth c s₁ B hml0 hP _
    obtain ⟨rfl, hx, hbd, hgv⟩ := hP
    obtain ⟨scr, harrAt, hlist, hof, hsmall⟩ := hx
    obtain ⟨hcb, hkn, -, -⟩ := State.arrayAt?_spec harrAt
    have hown : s.vm.findClass R_law = some m.cls := findClass_of_methodNamed B.named
    have hts0 : ∀ c ∈ (Jvm.Cond.code x code maxLocals ret :: tables_1), c.before #[Value.ref b] s = true := atoms_spec (ws := Jvm.Cond.code x code maxLocals ret :: tables_1) B.pre
    have hts : ∀ w ∈ lw_tbl, w.before #[Value.ref b] s = true := k2_hts_sels lw_privs (fun w hw => hts0 w (List.mem_cons_of_mem _ hw)) lw_privs_ok
    have hml : c.maxLocals = 4 := B.maxLocals_eq (hts0 _ List.mem_cons_self)
    have X₀ : Stand p l e room_1 s m #[Value.ref b] below meth c s₁ [] 0 0 := Stand.of_body B
    have hh0 : s₁.heap = s.heap := by rw [B.state]; rfl
    have hsz : scr.slots.size = xs.length := by rw [← Array.length_toList, hlist, List.length_map]
    have hval : ∀ j : Nat, j < xs.length → scr.slots[j]? = some (.int (xs.getD j 0)) := fun j hj => by
      rw [← Array.getElem?_toList, hlist]
      simp [hj]
    have hbl : b < s.heap.size := (Array.getElem?_eq_some_iff.mp hcb).1
    have hX : va_X b xs.length (fun j => xs.getD j 0) s s.heap := ⟨scr, hcb, hof, hkn, hsz, hval⟩
    have K : W p l e room_1 s m #[Value.ref b] below meth c s₁.heap [] 0 0 (lw_Z below #[Value.ref b] s) (entryFrame m ([Value.ref b] : List Value).toArray 4) := by
      rw [hh0]
      exact whole_start l hflags hbd ⟨B.exec, B.bytes, B.returns, hml, hown, hts, hX, hbl, B.notSynchronized, hgv⟩
    obtain ⟨t, a1, o, b1, b2, b3⟩ := K s₁ rfl X₀
    exact ⟨t, o, a1, b1, b2, b3⟩
theorem lw_pre_spec {args : Array Value} {s : State} (h : (Jvm.Cond.and given_1 narrow_1).before args s = true) (hr : rest_1_c.before args s = true) : ∃ (b : Addr) (xs : List Int32), lw_P b xs args s := by
  have hs := flat_of_before _ h
  have hq := flat_of_before _ hr
  have hc : (Cond.count 1).before args s = true := hs _ (by decide +kernel)
  have harr : (Cond.arrayOf (.arg 0) .int).before args s = true := hs _ (by decide +kernel)
  have hle : (Cond.le (.length (.arg 0)) (.int 2048)).before args s = true := hs _ (by decide +kernel)
  have hlen : (Cond.isInt (.length (.arg 0))).before args s = true := hq _ (by decide +kernel)
  have hall : (Cond.all (.arg 0) (.isInt (.elem (.arg 0) (.index 0)))).before args s = true := hq _ (by decide +kernel)
  obtain ⟨b, xs, hb, hx⟩ := State.ints_of_pre rfl harr hlen hall
  have hsm : xs.length < 2 ^ 31 := hx.choose_spec.2.2.2
  have hev : (Term.length (.arg 0)).eval args s none [] s = some (.int xs.length.toInt32) := hx.length_eval hb
  have hv := Cond.le_ints hev (show (Term.int 2048).eval args s none [] s = some (.int 2048) from rfl)
  have hd : xs.length.toInt32 ≤ 2048 := by
    simpa [Cond.before, Cond.holds, hv] using hle
  have hN : xs.length ≤ 2048 := (Int32.ofNat_le_ofNat hsm (by decide)).mp (show Int32.ofNat xs.length ≤ Int32.ofNat 2048 from hd)
  exact ⟨b, xs, Cond.one_arg hc (show args[0]? = some (.ref b) from hb), hx, hN, h⟩
theorem lw_comes (l : Launch) (hflags : l.flags = flags0) : Comes l x (Jvm.Cond.code x code maxLocals ret :: tables_1) room_1 (fun tb e args s => Calls_1 tb e args s ∧ rest_1 tb e args s ∧ Pre_1 tb e args s)
    (fun _ _ args s o t => lw_Q args s o t) := by
  intro p e ha hc hk s m args below hf hfit hheap happ hpre
  obtain ⟨b, xs, hP⟩ := lw_pre_spec hpre.2.2 hpre.2.1
  obtain ⟨k, o, h1, h2, h3, hQ⟩ := lw_walk l hflags b xs p e ha hc hk s m args below hf ((Spec.applies_iff_loose hf).mp happ).1 hP trivial
  exact ⟨k, o, h1, h2, h3, hQ⟩
theorem lw_frame {s t : State} {o : Outcome} {args : Array Value} (h : Framed s o t [] 600000 7302250) :
    Framed s o t (fieldLocs frame_1_writes args s ++ arrayLocs frame_1_arrays args s ++ staticLocs frame_1_statics s) 600000 7302250 := h
theorem lw_limb (L : Cond) (hL : ∀ (args : Array Value) (s t : State), L.after args s (.returned (some (.int 1))) t = true) :
    ArmFor flags0 classFile x code maxLocals ret World_1 tables_1 room_1 Calls_1 rest_1 Pre_1
      (fun tb e a s o t => postC L tb e a s o t ∧ Framed s o t (fieldLocs frame_1_writes a s ++ arrayLocs frame_1_arrays a s ++ staticLocs frame_1_statics s) 600000 7302250) := by
  intro l hflags _ _ p e ha hc hk s m args below hf hfit hheap happ hpre
  obtain ⟨k, o, h1, h2, h3, rfl, hF⟩ := lw_comes l hflags p e ha hc hk s m args below hf hfit hheap happ hpre
  exact ⟨k, _, h1, h2, h3, hL args s _, lw_frame hF⟩
theorem i_vc : Claimed_1_1 ∧ Claimed_1_2 := ⟨lw_limb limb_1_1 (fun args s t => by simp [limb_1_1, Cond.after, Cond.holds, Cond.value]), lw_limb limb_1_2 (fun args s t => Cond.after_iff.mpr (by
  first | (rw [show limb_1_2 = Cond.eq .result (.int 1) from rfl, Cond.eq_ints (x := 1) (y := 1) rfl rfl]; simp; done) | (simp [limb_1_2, Cond.value, Term.eval]; done)))⟩
