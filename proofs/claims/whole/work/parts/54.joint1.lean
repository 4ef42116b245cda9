/-! the two together: what holds between the calls of the law -/
def agR (S S' : Mem) : Prop := (∀ i, i < 6 → S' 127 i = S 127 i ∧ S' 128 i = S 128 i ∧ S' 130 i = S 130 i ∧ S' 131 i = S 131 i ∧ S' 132 i = S 132 i ∧ S' 133 i = S 133 i ∧ S' 136 i = S 136 i ∧ S' 138 i = S 138 i ∧ S' 139 i = S 139 i ∧ S' 140 i = S 140 i ∧ S' 141 i = S 141 i ∧ S' 142 i = S 142 i) ∧ (∀ i, i < 12 → S' 137 i = S 137 i) ∧ (∀ i, i < 18 → S' 129 i = S 129 i) ∧ (∀ i, i < 30 → S' 134 i = S 134 i ∧ S' 135 i = S 135 i) ∧ S' 126 1 = S 126 1 ∧ S' 126 13 = S 126 13 ∧ S' 126 16 = S 126 16 ∧ S' 126 17 = S 126 17 ∧ S' 126 19 = S 126 19
theorem WS.agr {n T : Nat} {S S' : Mem} (h : WS n T S) (e : agR S S') : WS n T S' := by
  obtain ⟨e1, e2, e3, e4, f1, f13, f16, f17, f19⟩ := e
  obtain ⟨h1, h2, h3, ⟨l, l1, l2, l3⟩, h5⟩ := h
  refine ⟨h1, by rw [f1]; exact h2, by rw [f16]; exact h3, ⟨l, l1, by rw [f13]; exact l2, fun j hj => ?_⟩, fun i hi => ?_⟩
  · obtain ⟨-, -, -, -, -, -, -, t8, t9, -⟩ := e1 j (by omega)
    rw [t8, t9]; exact l3 j hj
  · obtain ⟨t1, t2, t3, t4, t5, t6, t7, -⟩ := e1 i (by omega)
    exact (h5 i hi).ag ⟨t1, t2, fun j hj => e3 _ (by omega), t3, t4, t5, t6, fun j hj => e4 _ (by omega), e2 _ (by omega), e2 _ (by omega)⟩
theorem Rc.agr {n T k : Nat} {dl : Int32} {I S S' : Mem} (h : Rc n dl I k S) (hW : WS n T S) (hE : WSe n S) (e : agR S S') : Rc n dl I k S' := by
  obtain ⟨e1, e2, e3, e4, f1, f13, f16, f17, f19⟩ := e
  obtain ⟨r1, r2, r3, ⟨r4, r5⟩, r6, r7⟩ := h
  have hn := hW.1
  obtain ⟨l, l1, l2, -⟩ := hW.2.2.2.1
  obtain ⟨s, s1, s2, -⟩ := hE
  refine ⟨by rw [f16]; exact r1, by rw [f17]; exact r2, fun i hi => ?_, ⟨by rw [f13]; exact r4, fun j hj => ?_⟩, by rw [f19]; exact r6, fun j hj => ?_⟩
  · obtain ⟨b, b5, b6⟩ := hW.box hi
    obtain ⟨t1, t2, t3, t4, t5, t6, t7, -⟩ := e1 i (by omega)
    exact (r3 i hi).ag b6 b5 rfl rfl rfl rfl ⟨t1, t3, t4, t5, t7, e2 _ (by omega), e2 _ (by omega), t6, fun j hj => e4 _ (by omega)⟩
  · rw [f13] at hj
    have hj2 := hj
    rw [l2, tn_nI (by omega)] at hj2
    obtain ⟨-, -, -, -, -, -, -, t8, t9, -⟩ := e1 j (by omega)
    rw [t8, t9]; exact r5 j hj
  · rw [f19] at hj
    have hj2 := hj
    rw [s2, tn_nI (by omega)] at hj2
    obtain ⟨-, -, -, -, -, -, -, -, -, t10, t11, t12⟩ := e1 j (by omega)
    rw [t10, t11, t12]; exact r7 j hj
theorem Rp.agr {n : Nat} {I S S' : Mem} (h : Rp n I S) (hn : n ≤ 6) (e : agR S S') : Rp n I S' := by
  obtain ⟨e1, e2, e3, e4, -⟩ := e
  obtain ⟨p1, p2, p3⟩ := h
  refine ⟨p1, fun i hi => by rw [(e1 i (by omega)).2.1]; exact p2 i hi, fun i hi j hj hj2 => ?_⟩
  rw [(e1 i (by omega)).2.1] at hj2
  rw [e3 _ (by omega)]
  exact p3 i hi j hj hj2
theorem Hc.agr {n T k : Nat} {dl : Int32} {I S S' : Mem} (h : Hc n T dl I k S) (hE : WSe n S) (e : agR S S') : Hc n T dl I k S' :=
  ⟨h.1, h.2.1.agr e, h.2.2.1.agr h.2.1 hE e, h.2.2.2.1.agr h.2.1.1 e, h.2.2.2.2⟩
theorem WSe.agr {n : Nat} {S S' : Mem} (h : WSe n S) (e : agR S S') : WSe n S' := by
  obtain ⟨e1, e2, e3, e4, f1, f13, f16, f17, f19⟩ := e
  obtain ⟨s, s1, s2, s3⟩ := h
  refine ⟨s, s1, by rw [f19]; exact s2, fun j hj => ?_⟩
  obtain ⟨-, -, -, -, -, -, -, -, -, t10, t11, t12⟩ := e1 j (by omega)
  rw [t10, t11, t12]; exact s3 j hj
theorem agR.of {S S' : Mem} (h1 : ∀ b, 127 ≤ b → b ≤ 142 → S' b = S b) (h2 : ∀ j, (j = 1 ∨ j = 13 ∨ j = 16 ∨ j = 17 ∨ j = 19) → S' 126 j = S 126 j) : agR S S' := by
  refine ⟨fun i _ => ?_, fun i _ => by rw [h1 137 (by omega) (by omega)], fun i _ => by rw [h1 129 (by omega) (by omega)], fun i _ => by rw [h1 134 (by omega) (by omega), h1 135 (by omega) (by omega)]; exact ⟨rfl, rfl⟩, h2 1 (by omega), h2 13 (by omega), h2 16 (by omega), h2 17 (by omega), h2 19 (by omega)⟩
  rw [h1 127 (by omega) (by omega), h1 128 (by omega) (by omega), h1 130 (by omega) (by omega), h1 131 (by omega) (by omega), h1 132 (by omega) (by omega), h1 133 (by omega) (by omega), h1 136 (by omega) (by omega), h1 138 (by omega) (by omega), h1 139 (by omega) (by omega), h1 140 (by omega) (by omega), h1 141 (by omega) (by omega), h1 142 (by omega) (by omega)]
  exact ⟨rfl, rfl, rfl, rfl, rfl, rfl, rfl, rfl, rfl, rfl, rfl, rfl⟩
theorem rndE.ag {S S' : Mem} (h : rndE S S') : agR S S' := by
  obtain ⟨r1, r2, r3, r4, r5⟩ := h
  refine ⟨fun i hi => ?_, r2, fun i _ => by rw [r4 129 (by decide) (by omega)], r3, r5 1 (by decide) (by omega), r5 13 (by decide) (by omega), r5 16 (by decide) (by omega), r5 17 (by decide) (by omega), r5 19 (by decide) (by omega)⟩
  obtain ⟨t1, t2, t3, t4, t5⟩ := r1 i hi
  rw [r4 127 (by decide) (by omega), r4 128 (by decide) (by omega), r4 138 (by decide) (by omega), r4 139 (by decide) (by omega), r4 140 (by decide) (by omega), r4 141 (by decide) (by omega), r4 142 (by decide) (by omega)]
  exact ⟨rfl, rfl, t1, t2, t3, t4, t5, rfl, rfl, rfl, rfl, rfl⟩
/-- what is kept in S is K -/
def kpt (K S : Mem) : Prop := (∀ i, i < 6 → S 159 i = K 127 i ∧ S 160 i = K 130 i ∧ S 161 i = K 131 i ∧ S 162 i = K 132 i ∧ S 163 i = K 133 i ∧ S 166 i = K 136 i ∧ S 168 i = K 138 i ∧ S 169 i = K 139 i ∧ S 170 i = K 140 i ∧ S 171 i = K 141 i ∧ S 172 i = K 142 i) ∧ (∀ i, i < 12 → S 167 i = K 137 i) ∧ (∀ i, i < 30 → S 164 i = K 134 i ∧ S 165 i = K 135 i) ∧ S 126 54 = K 126 16 ∧ S 126 55 = K 126 17 ∧ S 126 56 = K 126 13 ∧ S 126 57 = K 126 19 ∧ S 128 = K 128 ∧ S 129 = K 129 ∧ S 126 1 = K 126 1
theorem kpt.rst {K S S' : Mem} (h : kpt K S) (hr : rstR S S') : agR K S' := by
  obtain ⟨k1, k2, k3, k4, k5, k6, k7, k8, k9, k10⟩ := h
  obtain ⟨r1, r2, r3, r4, r5, r6, r7, r8, r9⟩ := hr
  refine ⟨fun i hi => ?_, fun i hi => by rw [r2 i hi]; exact k2 i hi, fun i _ => by rw [r8 129 (by decide) (by omega), k9], fun i hi => by rw [(r3 i hi).1, (r3 i hi).2]; exact k3 i hi, by rw [r9 1 (by decide) (by decide) (by decide) (by decide)]; exact k10, by rw [r6]; exact k6, by rw [r4]; exact k4, by rw [r5]; exact k5, by rw [r7]; exact k7⟩
  obtain ⟨a1, a2, a3, a4, a5, a6, a7, a8, a9, a10, a11⟩ := r1 i hi
  obtain ⟨b1, b2, b3, b4, b5, b6, b7, b8, b9, b10, b11⟩ := k1 i hi
  rw [a1, a2, a3, a4, a5, a6, a7, a8, a9, a10, a11, r8 128 (by decide) (by omega), k8]
  exact ⟨b1, rfl, b2, b3, b4, b5, b6, b7, b8, b9, b10, b11⟩
theorem kpt.img {S S' : Mem} (h : imgR S S') : kpt S S' := by
  obtain ⟨r1, r2, r3, r4, r5, r6, r7, r8, r9, r10, r11⟩ := h
  exact ⟨r1, r2, r3, r6, r7, r8, r9, r10 128 (by decide) (by omega), r10 129 (by decide) (by omega), r11 1 (by decide) (by decide) (by decide) (by decide) (by decide) (by decide)⟩
/-- what no call but crew, image, round, letter, blank changes of the model -/
def kpL (S S' : Mem) : Prop := (∀ b, (b = 128 ∨ b = 129 ∨ b = 143 ∨ 159 ≤ b) → S' b = S b) ∧ ∀ j, (j = 0 ∨ j = 1 ∨ j = 18 ∨ j = 23 ∨ 52 ≤ j) → S' 126 j = S 126 j
theorem kpL.rf {S : Mem} : kpL S S := ⟨fun _ _ => rfl, fun _ _ => rfl⟩
theorem kpD.l {S S' : Mem} (h : kpD S S') : kpL S S' := ⟨fun b hb => h.1 b (by omega) (by omega), fun j hj => h.2 j (by omega) (by omega) (by omega)⟩
theorem kpL.tr {S S' S2 : Mem} (h : kpL S S') (h2 : kpL S' S2) : kpL S S2 := ⟨fun b hb => (h2.1 b hb).trans (h.1 b hb), fun j hj => (h2.2 j hj).trans (h.2 j hj)⟩
def kpM (S S' : Mem) : Prop := (∀ b, (b = 128 ∨ b = 129 ∨ 159 ≤ b) → S' b = S b) ∧ ∀ j, (j = 0 ∨ j = 1 ∨ 52 ≤ j) → S' 126 j = S 126 j
theorem kpL.m {S S' : Mem} (h : kpL S S') : kpM S S' := ⟨fun b hb => h.1 b (by omega), fun j hj => h.2 j (by omega)⟩
theorem kpt.go {K S S' : Mem} (h : kpt K S) (e : kpM S S') : kpt K S' := by
  unfold kpt at h ⊢
  rw [e.1 159 (by omega), e.1 160 (by omega), e.1 161 (by omega), e.1 162 (by omega), e.1 163 (by omega), e.1 164 (by omega), e.1 165 (by omega), e.1 166 (by omega), e.1 167 (by omega), e.1 168 (by omega), e.1 169 (by omega), e.1 170 (by omega), e.1 171 (by omega), e.1 172 (by omega), e.1 128 (by omega), e.1 129 (by omega), e.2 54 (by omega), e.2 55 (by omega), e.2 56 (by omega), e.2 57 (by omega), e.2 1 (by omega)]
  exact h
def LK (n : Nat) (I S : Mem) : Prop := (I 2 8 = 0 ∧ ¬ (¬ S 126 52 = 0 ∧ S 126 53 = S 126 0)) ∨ (I 2 8 = 1 ∧ (¬ S 126 52 = 0 ∧ S 126 53 = S 126 0) ∧ ∃ T K, Hc n T 0 I 57 K ∧ T ≤ 9999 ∧ WSe n K ∧ kpt K S)
def LB (p cr r : Nat) (I S : Mem) : Prop := I 2 9 = S 126 0 ∧ S 126 0 = nI cr ∧ I 2 10 = S 126 18 ∧ S 126 18 = nI r ∧ r ≤ 6 ∧ I 3 1 = S 126 23 ∧ PG S p ∧ (∀ j, j < p → I 4 j = S 143 j) ∧ (S 126 52 = 0 ∨ ∃ q, q ≤ cr ∧ S 126 53 = nI q)
def LI (n T p cr r : Nat) (I S : Mem) : Prop := Hc n T 0 I 24 S ∧ T ≤ 9999 ∧ WSe n S ∧ LB p cr r I S ∧ LK n I S
theorem LK.go {n : Nat} {I I' S S' : Mem} (h : LK n I S) (h8 : I' 2 8 = I 2 8) (hI : ∀ b, ((15 ≤ b ∧ b < 24) ∨ (57 ≤ b ∧ b < 90)) → I' b = I b) (hS : kpM S S') : LK n I' S' := by
  unfold LK at h ⊢
  rw [h8, hS.2 0 (by omega), hS.2 52 (by omega), hS.2 53 (by omega)]
  rcases h with h | ⟨h1, h2, T, K, h3, h4, h5, h6⟩
  · exact Or.inl h
  · exact Or.inr ⟨h1, h2, T, K, h3.cg (fun b hb => hI b (by omega)), h4, h5, h6.go hS⟩
theorem LB.go {p cr r : Nat} {I I' S S' : Mem} (h : LB p cr r I S) (hI : ∀ b, b < 5 → I' b = I b) (hS : kpL S S') : LB p cr r I' S' := by
  unfold LB PG at h ⊢
  rw [hI 2 (by omega), hI 3 (by omega), hI 4 (by omega), hS.2 0 (by omega), hS.2 18 (by omega), hS.2 23 (by omega), hS.2 52 (by omega), hS.2 53 (by omega), hS.1 143 (by omega)]
  exact h
theorem LI.go {n T T' p cr r : Nat} {I I' S S' : Mem} (h : LI n T p cr r I S) (hH : Hc n T' 0 I' 24 S') (hT : T' ≤ 9999) (hE : WSe n S') (hI : ∀ b, (b < 5 ∨ (15 ≤ b ∧ b < 24) ∨ (57 ≤ b ∧ b < 90)) → I' b = I b) (hS : kpL S S') : LI n T' p cr r I' S' :=
  ⟨hH, hT, hE, h.2.2.2.1.go (fun b hb => hI b (by omega)) hS, h.2.2.2.2.go (by rw [hI 2 (by omega)]) (fun b hb => hI b (by omega)) hS.m⟩
theorem WSe.cg {n : Nat} {S S' : Mem} (h : WSe n S) (h0 : S' 126 19 = S 126 19) (h1 : S' 140 = S 140) (h2 : S' 141 = S 141) (h3 : S' 142 = S 142) : WSe n S' := by
  unfold WSe at h ⊢
  rw [h0, h1, h2, h3]; exact h
theorem kpD.e {n : Nat} {S S' : Mem} (h : kpD S S') (hE : WSe n S) : WSe n S' := hE.cg (h.2 19 (by decide) (by decide) (by omega)) (h.1 140 (by decide) (by omega)) (h.1 141 (by decide) (by omega)) (h.1 142 (by decide) (by omega))
theorem Fr.ll {I I' : Mem} (h : Fr 24 I I') : ∀ b, (b < 5 ∨ (15 ≤ b ∧ b < 24) ∨ (57 ≤ b ∧ b < 90)) → I' b = I b := fun b hb => h b (by omega)
/-- a call that moves the model by the dynamics alone -/
theorem LI.dyn {n T T' p cr r : Nat} {I I' S S' : Mem} (h : LI n T p cr r I S) (hH : Hc n T' 0 I' 24 S') (hT : T' ≤ 9999) (hf : Fr 24 I I') (hk : kpD S S') : LI n T' p cr r I' S' := h.go hH hT (hk.e h.2.2.1) hf.ll hk.l
theorem LI.send {n T T' p cr r : Nat} {I I' S : Mem} {x y : Int32} (h : LI n T p cr r I S) (hT : T' ≤ 9999) (hH : Hc n T' 0 I' 24 (spSend S x y).2) (hf : Fr 24 I I') : LI n T' p cr r I' (spSend S x y).2 := by
  refine h.dyn hH hT hf ?_
  unfold spSend
  split
  · split
    · split
      · exact kpD.rf
      · split
        · exact kpD.rf
        · exact kpD.post _ _ _ _
    · exact kpD.rf
  · exact kpD.rf
theorem kpD.u35 {S : Mem} {j : Nat} {x : Int32} (hj : j = 35 ∨ j = 36) : kpD S (uI S 126 j x) := kpD.rf.st (by omega)
theorem LI.tick {n T T' p cr r : Nat} {I I' S : Mem} {x : Int32} (h : LI n T p cr r I S) (hT : T' ≤ 9999) (hH : Hc n T' 0 I' 24 (spTick S x).2) (hf : Fr 24 I I') : LI n T' p cr r I' (spTick S x).2 := by
  refine h.dyn hH hT hf ?_
  unfold spTick
  split
  · split
    · exact kpD.rf
    · split
      · exact (kpD.u35 (by omega)).tr (kpD.tks _ _)
      · exact kpD.rf
  · exact kpD.rf
theorem LI.fell {n T T' p cr r : Nat} {I I' S : Mem} {x : Int32} (h : LI n T p cr r I S) (hT : T' ≤ 9999) (hH : Hc n T' 0 I' 24 (spFell S x).2) (hf : Fr 24 I I') : LI n T' p cr r I' (spFell S x).2 := by
  refine h.dyn hH hT hf ?_
  unfold spFell
  split
  · split
    · exact kpD.rf
    · exact (kpD.u35 (by omega)).tr (kpD.fall _ _)
  · exact kpD.rf
theorem LI.raise {n T T' p cr r : Nat} {I I' S : Mem} {x : Int32} (h : LI n T p cr r I S) (hT : T' ≤ 9999) (hH : Hc n T' 0 I' 24 (spRaise S x).2) (hf : Fr 24 I I') : LI n T' p cr r I' (spRaise S x).2 := by
  refine h.dyn hH hT hf ?_
  unfold spRaise
  split
  · split
    · exact kpD.rf
    · exact kpD.begin _ _
  · exact kpD.rf
theorem LI.tie {n T T' p cr r : Nat} {I I' S : Mem} {x y : Int32} (h : LI n T p cr r I S) (hT : T' ≤ 9999) (hH : Hc n T' 0 I' 24 (spTie S x y).2) (hf : Fr 24 I I') : LI n T' p cr r I' (spTie S x y).2 := by
  have key : kpL S (spTie S x y).2 ∧ WSe n (spTie S x y).2 := by
    unfold spTie
    split
    · split
      · split
        · exact ⟨kpL.rf, h.2.2.1⟩
        · dsimp only
          refine ⟨⟨fun b hb => ?_, fun j hj => ?_⟩, h.2.2.1.cg ?_ ?_ ?_ ?_⟩
          · rw [uI_ne (by omega), uI_ne (by omega), uI_ne (by omega)]
          · rw [uI_ap, if_neg (by omega), uI_ne (by decide), uI_ne (by decide)]
          · rw [uI_ap, if_neg (by omega), uI_ne (by decide), uI_ne (by decide)]
          · rw [uI_ne (by decide), uI_ne (by decide), uI_ne (by decide)]
          · rw [uI_ne (by decide), uI_ne (by decide), uI_ne (by decide)]
          · rw [uI_ne (by decide), uI_ne (by decide), uI_ne (by decide)]
      · exact ⟨kpL.rf, h.2.2.1⟩
    · exact ⟨kpL.rf, h.2.2.1⟩
  exact h.go hH hT key.2 hf.ll key.1
theorem LI.cut {n T T' p cr r : Nat} {I I' S : Mem} {x y : Int32} (h : LI n T p cr r I S) (hT : T' ≤ 9999) (hH : Hc n T' 0 I' 24 (spCut S x y).2) (hf : Fr 24 I I') : LI n T' p cr r I' (spCut S x y).2 := by
  have key : kpL S (spCut S x y).2 ∧ WSe n (spCut S x y).2 := by
    unfold spCut
    split
    · split
      · exact ⟨kpL.rf, h.2.2.1⟩
      · unfold fCut
        dsimp only
        refine ⟨⟨fun b hb => ?_, fun j hj => ?_⟩, h.2.2.1.cg ?_ ?_ ?_ ?_⟩
        · rw [uI_ne (by omega), ctS_n _ _ _ (by omega) (by omega)]
        · rw [uI_ap, if_neg (by omega), ctS_n _ _ _ (by decide) (by decide)]
        · rw [uI_ap, if_neg (by omega), ctS_n _ _ _ (by decide) (by decide)]
        · rw [uI_ne (by decide), ctS_n _ _ _ (by decide) (by decide)]
        · rw [uI_ne (by decide), ctS_n _ _ _ (by decide) (by decide)]
        · rw [uI_ne (by decide), ctS_n _ _ _ (by decide) (by decide)]
    · exact ⟨kpL.rf, h.2.2.1⟩
  exact h.go hH hT key.2 hf.ll key.1
theorem LI.be {n T T' p cr r : Nat} {I I' S : Mem} {x y : Int32} (h : LI n T p cr r I S) (hT : T' ≤ 9999) (hH : Hc n T' 0 I' 24 (spBe S x y).2) (hf : Fr 24 I I') : LI n T' p cr r I' (spBe S x y).2 := by
  have key : kpL S (spBe S x y).2 ∧ WSe n (spBe S x y).2 := by
    unfold spBe
    split
    · split
      · unfold fBe
        dsimp only
        refine ⟨⟨fun b hb => ?_, fun j hj => ?_⟩, h.2.2.1.cg ?_ ?_ ?_ ?_⟩
        · rw [uI_ne (by omega), uI_ne (by omega), uI_ne (by omega)]
        · rw [uI_ne (by decide), uI_ne (by decide), uI_ne (by decide)]
        · rw [uI_ne (by decide), uI_ne (by decide), uI_ne (by decide)]
        · rw [uI_ne (by decide), uI_ne (by decide), uI_ne (by decide)]
        · rw [uI_ne (by decide), uI_ne (by decide), uI_ne (by decide)]
        · rw [uI_ne (by decide), uI_ne (by decide), uI_ne (by decide)]
      · exact ⟨kpL.rf, h.2.2.1⟩
    · exact ⟨kpL.rf, h.2.2.1⟩
  exact h.go hH hT key.2 hf.ll key.1
theorem LI.see {n T T' p cr r : Nat} {I I' S : Mem} {x y v : Int32} (h : LI n T p cr r I S) (hT : T' ≤ 9999) (hH : Hc n T' 0 I' 24 (spSee S x y v).2) (hf : Fr 24 I I') : LI n T' p cr r I' (spSee S x y v).2 := by
  have key : kpL S (spSee S x y v).2 ∧ WSe n (spSee S x y v).2 := by
    unfold spSee
    split
    next hx =>
      split
      next hy =>
        split
        · exact ⟨kpL.rf, h.2.2.1⟩
        next h6 =>
          obtain ⟨s, s1, s2, s3⟩ := h.2.2.1
          have hs : s < 6 := by
            rcases Nat.lt_or_ge s 6 with q | q
            · exact q
            · rw [s2, show s = 6 by omega] at h6; exact absurd rfl h6
          have hW := h.1.2.1
          obtain ⟨a, ha, rfl⟩ := isA_of hW.2.1 hW.1 hx
          obtain ⟨u, hu, rfl⟩ := in_of (m := 3) (by omega) hy.1 hy.2
          rw [s2, tn_nI (by omega)]
          dsimp only
          refine ⟨⟨fun b hb => ?_, fun j hj => ?_⟩, s + 1, by omega, by rw [uI_self, nI_1], fun j hj => ?_⟩
          · rw [uI_ne (by omega), uI_ne (by omega), uI_ne (by omega), uI_ne (by omega)]
          · rw [uI_ap, if_neg (by omega), uI_ne (by decide), uI_ne (by decide), uI_ne (by decide)]
          · by_cases e : j = s
            · subst e
              refine ⟨⟨a, ha, by rw [uI_ne (by decide), uI_ne (by decide), uI_ne (by decide), uI_self]⟩, ⟨u, by omega, by rw [uI_ne (by decide), uI_ne (by decide), uI_self]⟩, ?_⟩
              rw [uI_ne (by decide), uI_self]
              split
              · exact Or.inl rfl
              · exact Or.inr rfl
            · obtain ⟨q1, q2, q3⟩ := s3 j (by omega)
              rw [uI_ne (show (140 : Nat) ≠ 126 by decide), uI_ne (show (140 : Nat) ≠ 142 by decide), uI_ne (show (140 : Nat) ≠ 141 by decide), uI_ap, if_neg (by omega), uI_ne (show (141 : Nat) ≠ 126 by decide), uI_ne (show (141 : Nat) ≠ 142 by decide), uI_ap, if_neg (by omega), uI_ne (show (141 : Nat) ≠ 140 by decide), uI_ne (show (142 : Nat) ≠ 126 by decide), uI_ap, if_neg (by omega), uI_ne (show (142 : Nat) ≠ 141 by decide), uI_ne (show (142 : Nat) ≠ 140 by decide)]
              exact ⟨q1, q2, q3⟩
      · exact ⟨kpL.rf, h.2.2.1⟩
    · exact ⟨kpL.rf, h.2.2.1⟩
  exact h.go hH hT key.2 hf.ll key.1
theorem LI.forget {n T p cr r : Nat} {I I' S : Mem} (h : LI n T p cr r I S) (hH : Hc n T 0 I' 24 (uI S 126 19 0)) (hf : Fr 24 I I') : LI n T p cr r I' (uI S 126 19 0) := by
  refine h.go hH h.2.1 ⟨0, by omega, by rw [uI_self]; rfl, fun j hj => by omega⟩ hf.ll ⟨fun b hb => uI_ne (by omega), fun j hj => by rw [uI_ap, if_neg (by omega)]⟩
