/-! the class's crew at k stands for the model's state G -/
def rr (m : Int32) : Int32 := if m = -268435456 then -1000 else m
def RcA (I : Mem) (a : Nat) (G : Mem) (i : Nat) : Prop :=
  I a 1 = G 127 i ∧ I a 2 = G 130 i ∧ I a 3 = G 131 i ∧ I a 4 = G 132 i ∧ I a 5 = G 136 i ∧ I a 6 = rr (G 137 (2 * i)) ∧ I a 7 = rr (G 137 (2 * i + 1)) ∧ I (a + 1) 2 = G 133 i ∧ ∀ j, j < tn (G 133 i) → I (a + 2) j = G 134 (5 * i + j) ∧ I (a + 3) j = G 135 (5 * i + j)
def msk (x y : Int32) : Int32 := if y = 1 then kin (tn x) else 31 ^^^ kin (tn x)
def RcL (I : Mem) (k : Nat) (G : Mem) : Prop := I (k + 2) 2 = G 126 13 ∧ ∀ j, j < tn (G 126 13) → I (k + 3) j = G 138 j ∧ I (k + 4) j = G 139 j
def RcS (I : Mem) (k : Nat) (G : Mem) : Prop := I (k + 5) 2 = G 126 19 ∧ ∀ j, j < tn (G 126 19) → I (k + 6) j = G 140 j ∧ I (k + 7) j = msk (G 141 j) (G 142 j)
def Rc (n : Nat) (dl : Int32) (I : Mem) (k : Nat) (G : Mem) : Prop := I k 6 = G 126 16 ∧ I k 7 = G 126 17 + dl ∧ (∀ i, i < n → RcA I (k + 9 + 4 * i) G i) ∧ RcL I k G ∧ RcS I k G
def agM (G G' : Mem) (i : Nat) : Prop := G' 127 i = G 127 i ∧ G' 130 i = G 130 i ∧ G' 131 i = G 131 i ∧ G' 132 i = G 132 i ∧ G' 136 i = G 136 i ∧ G' 137 (2 * i) = G 137 (2 * i) ∧ G' 137 (2 * i + 1) = G 137 (2 * i + 1) ∧ G' 133 i = G 133 i ∧ ∀ j, j < 5 → G' 134 (5 * i + j) = G 134 (5 * i + j) ∧ G' 135 (5 * i + j) = G 135 (5 * i + j)
theorem RcA.ag {I I' G G' : Mem} {a i b : Nat} (h : RcA I a G i) (hb : G 133 i = nI b) (hb5 : b ≤ 5) (h1 : I' a = I a) (h2 : I' (a + 1) = I (a + 1)) (h3 : I' (a + 2) = I (a + 2)) (h4 : I' (a + 3) = I (a + 3)) (e : agM G G' i) : RcA I' a G' i := by
  obtain ⟨a1, a2, a3, a4, a5, a6, a7, a8, a9⟩ := h
  obtain ⟨e1, e2, e3, e4, e5, e6, e7, e8, e9⟩ := e
  refine ⟨by rw [h1, e1]; exact a1, by rw [h1, e2]; exact a2, by rw [h1, e3]; exact a3, by rw [h1, e4]; exact a4, by rw [h1, e5]; exact a5, by rw [h1, e6]; exact a6, by rw [h1, e7]; exact a7, by rw [h2, e8]; exact a8, fun j hj => ?_⟩
  rw [e8] at hj
  have hj2 := hj
  rw [hb, tn_nI (by omega)] at hj2
  rw [h3, h4, (e9 j (by omega)).1, (e9 j (by omega)).2]
  exact a9 j hj
def BX (n : Nat) (G : Mem) : Prop := n ≤ 6 ∧ ∀ j, j < n → ∃ b, b ≤ 5 ∧ G 133 j = nI b
theorem WS.bx {n T : Nat} {G : Mem} (h : WS n T G) : BX n G := ⟨h.1, fun _ hj => h.box hj⟩
theorem BX.ne {n a j : Nat} {x : Int32} {G : Mem} (h : BX n G) (ha : a ≠ 133) : BX n (uI G a j x) := ⟨h.1, fun i hi => by rw [uI_ne (Ne.symm ha)]; exact h.2 i hi⟩
theorem uI_comm {S : Mem} {a b i j : Nat} {x y : Int32} (h : a ≠ b) : uI (uI S a i x) b j y = uI (uI S b j y) a i x := by
  funext c d
  simp only [uI_ap]
  by_cases h1 : c = a
  · subst h1; simp [h]
  · simp [h1]
/-- the heads of the two agree, apart from an actor -/
theorem Rc.upd {n k i : Nat} {dl : Int32} {I I' G G' : Mem} (h : Rc n dl I k G) (hW : BX n G) (h1 : I' k 6 = G' 126 16) (h2 : I' k 7 = G' 126 17 + dl) (hl : ∀ q, 2 ≤ q → q ≤ 7 → I' (k + q) = I (k + q)) (hg : G' 126 13 = G 126 13 ∧ G' 138 = G 138 ∧ G' 139 = G 139 ∧ G' 126 19 = G 126 19 ∧ G' 140 = G 140 ∧ G' 141 = G 141 ∧ G' 142 = G 142) (ho : ∀ j, j < n → j ≠ i → (∀ q, q < 4 → I' (k + 9 + 4 * j + q) = I (k + 9 + 4 * j + q)) ∧ agM G G' j) (ha : i < n → RcA I' (k + 9 + 4 * i) G' i) : Rc n dl I' k G' := by
  obtain ⟨-, -, r3, ⟨r4, r5⟩, r6, r7⟩ := h
  obtain ⟨g1, g2, g3, g4, g5, g6, g7⟩ := hg
  refine ⟨h1, h2, fun j hj => ?_, ⟨?_, fun j hj => ?_⟩, ?_, fun j hj => ?_⟩
  · by_cases hji : j = i
    · subst hji; exact ha hj
    · obtain ⟨o1, o2⟩ := ho j hj hji
      obtain ⟨b, hb5, hb⟩ := hW.2 j hj
      exact (r3 j hj).ag hb hb5 (o1 0 (by omega)) (o1 1 (by omega)) (o1 2 (by omega)) (o1 3 (by omega)) o2
  · rw [hl 2 (by omega) (by omega), g1]; exact r4
  · rw [g1] at hj; rw [hl 3 (by omega) (by omega), hl 4 (by omega) (by omega), g2, g3]; exact r5 j hj
  · rw [hl 5 (by omega) (by omega), g4]; exact r6
  · rw [g4] at hj; rw [hl 6 (by omega) (by omega), hl 7 (by omega) (by omega), g5, g6, g7]; exact r7 j hj
/-- nothing that counts has changed in G -/
theorem Rc.gscr {n k b j : Nat} {dl x : Int32} {I G : Mem} (h : Rc n dl I k G) (hW : BX n G) (hs : (b = 126 ∧ j ≠ 13 ∧ j ≠ 16 ∧ j ≠ 17 ∧ j ≠ 19) ∨ b = 128 ∨ b = 129 ∨ 143 ≤ b) : Rc n dl I k (uI G b j x) := by
  refine h.upd (i := n) (I' := I) hW ?_ ?_ (fun _ _ _ => rfl) ⟨?_, ?_, ?_, ?_, ?_, ?_, ?_⟩ (fun j hj _ => ⟨fun _ _ => rfl, ?_, ?_, ?_, ?_, ?_, ?_, ?_, ?_, fun j _ => ⟨?_, ?_⟩⟩) (fun hi => absurd hi (by omega))
  all_goals first | (rw [uI_ap, if_neg (by omega)]; first | exact h.1 | exact h.2.1 | done) | (exact uI_ne (by omega)) | skip
theorem Rc.iscr {n k b j : Nat} {dl x : Int32} {I G : Mem} (h : Rc n dl I k G) (hW : BX n G) (hs : (b = k ∧ j ≠ 6 ∧ j ≠ 7) ∨ b = k + 8 ∨ b = k + 1 ∨ b < k ∨ k + 33 ≤ b) : Rc n dl (uI I b j x) k G := by
  have hn := hW.1
  refine h.upd (i := n) (G' := G) hW ?_ ?_ (fun q _ _ => uI_ne (by omega)) ⟨rfl, rfl, rfl, rfl, rfl, rfl, rfl⟩ (fun j hj _ => ⟨fun q hq => uI_ne (by omega), rfl, rfl, rfl, rfl, rfl, rfl, rfl, rfl, fun _ _ => ⟨rfl, rfl⟩⟩) (fun hi => absurd hi (by omega))
  all_goals rw [uI_ap, if_neg (by omega)]
  · exact h.1
  · exact h.2.1
theorem Rc.lost {n k : Nat} {dl x : Int32} {I G : Mem} (h : Rc n dl I k G) (hW : BX n G) : Rc n dl (uI I k 7 (I k 7 + x)) k (uI G 126 17 (G 126 17 + x)) := by
  refine h.upd (i := n) hW ?_ ?_ (fun q _ _ => uI_ne (by omega)) ⟨?_, uI_ne (by decide), uI_ne (by decide), ?_, uI_ne (by decide), uI_ne (by decide), uI_ne (by decide)⟩ (fun j hj _ => ⟨fun q hq => uI_ne (by omega), ?_, ?_, ?_, ?_, ?_, ?_, ?_, ?_, fun j _ => ⟨?_, ?_⟩⟩) (fun hi => absurd hi (by omega))
  all_goals first | (rw [uI_self, uI_self, h.2.1]; simp only [Int32.add_assoc, Int32.add_comm dl x]; done) | (rw [uI_ap, if_neg (by omega), uI_ap, if_neg (by omega)]; exact h.1) | (rw [uI_ap, if_neg (by omega)]; done) | skip
theorem Rc.time {n k : Nat} {dl x : Int32} {I G : Mem} (h : Rc n dl I k G) (hW : BX n G) : Rc n dl (uI I k 6 x) k (uI G 126 16 x) := by
  refine h.upd (i := n) hW ?_ ?_ (fun q _ _ => uI_ne (by omega)) ⟨?_, uI_ne (by decide), uI_ne (by decide), ?_, uI_ne (by decide), uI_ne (by decide), uI_ne (by decide)⟩ (fun j hj _ => ⟨fun q hq => uI_ne (by omega), ?_, ?_, ?_, ?_, ?_, ?_, ?_, ?_, fun j _ => ⟨?_, ?_⟩⟩) (fun hi => absurd hi (by omega))
  all_goals first | (rw [uI_self, uI_self]; done) | (rw [uI_ap, if_neg (by omega), uI_ap, if_neg (by omega)]; exact h.2.1) | (rw [uI_ap, if_neg (by omega)]; done) | skip

theorem Rc.up {n k i : Nat} {dl x : Int32} {I G : Mem} (h : Rc n dl I k G) (hW : BX n G) (hi : i < n) : Rc n dl (uI I (k + 9 + 4 * i) 2 x) k (uI G 130 i x) := by
  obtain ⟨a1, a2, a3, a4, a5, a6, a7, a8, a9⟩ := h.2.2.1 i hi
  refine h.upd (i := i) hW ?_ ?_ (fun q _ _ => uI_ne (by omega)) ⟨?_, uI_ne (by decide), uI_ne (by decide), ?_, uI_ne (by decide), uI_ne (by decide), uI_ne (by decide)⟩ (fun j hj _ => ⟨fun q hq => uI_ne (by omega), ?_, ?_, ?_, ?_, ?_, ?_, ?_, ?_, fun j _ => ⟨?_, ?_⟩⟩) (fun _ => ⟨?_, ?_, ?_, ?_, ?_, ?_, ?_, ?_, ?_⟩)
  all_goals first | (rw [uI_ap, if_neg (by omega), uI_ap, if_neg (by omega)]; first | exact h.1 | exact h.2.1 | assumption) | (rw [uI_self, uI_self]; done) | (rw [uI_ap, if_neg (by omega)]; done) | skip
  · rw [uI_ne (by decide), uI_ne (show k + 9 + 4 * i + 2 ≠ k + 9 + 4 * i by omega), uI_ne (show k + 9 + 4 * i + 3 ≠ k + 9 + 4 * i by omega), uI_ne (by decide), uI_ne (by decide)]; exact a9
theorem Rc.step {n k i : Nat} {dl x : Int32} {I G : Mem} (h : Rc n dl I k G) (hW : BX n G) (hi : i < n) : Rc n dl (uI I (k + 9 + 4 * i) 3 x) k (uI G 131 i x) := by
  obtain ⟨a1, a2, a3, a4, a5, a6, a7, a8, a9⟩ := h.2.2.1 i hi
  refine h.upd (i := i) hW ?_ ?_ (fun q _ _ => uI_ne (by omega)) ⟨?_, uI_ne (by decide), uI_ne (by decide), ?_, uI_ne (by decide), uI_ne (by decide), uI_ne (by decide)⟩ (fun j hj _ => ⟨fun q hq => uI_ne (by omega), ?_, ?_, ?_, ?_, ?_, ?_, ?_, ?_, fun j _ => ⟨?_, ?_⟩⟩) (fun _ => ⟨?_, ?_, ?_, ?_, ?_, ?_, ?_, ?_, ?_⟩)
  all_goals first | (rw [uI_ap, if_neg (by omega), uI_ap, if_neg (by omega)]; first | exact h.1 | exact h.2.1 | assumption) | (rw [uI_self, uI_self]; done) | (rw [uI_ap, if_neg (by omega)]; done) | skip
  · rw [uI_ne (by decide), uI_ne (show k + 9 + 4 * i + 2 ≠ k + 9 + 4 * i by omega), uI_ne (show k + 9 + 4 * i + 3 ≠ k + 9 + 4 * i by omega), uI_ne (by decide), uI_ne (by decide)]; exact a9
theorem Rc.waited {n k i : Nat} {dl x : Int32} {I G : Mem} (h : Rc n dl I k G) (hW : BX n G) (hi : i < n) : Rc n dl (uI I (k + 9 + 4 * i) 4 x) k (uI G 132 i x) := by
  obtain ⟨a1, a2, a3, a4, a5, a6, a7, a8, a9⟩ := h.2.2.1 i hi
  refine h.upd (i := i) hW ?_ ?_ (fun q _ _ => uI_ne (by omega)) ⟨?_, uI_ne (by decide), uI_ne (by decide), ?_, uI_ne (by decide), uI_ne (by decide), uI_ne (by decide)⟩ (fun j hj _ => ⟨fun q hq => uI_ne (by omega), ?_, ?_, ?_, ?_, ?_, ?_, ?_, ?_, fun j _ => ⟨?_, ?_⟩⟩) (fun _ => ⟨?_, ?_, ?_, ?_, ?_, ?_, ?_, ?_, ?_⟩)
  all_goals first | (rw [uI_ap, if_neg (by omega), uI_ap, if_neg (by omega)]; first | exact h.1 | exact h.2.1 | assumption) | (rw [uI_self, uI_self]; done) | (rw [uI_ap, if_neg (by omega)]; done) | skip
  · rw [uI_ne (by decide), uI_ne (show k + 9 + 4 * i + 2 ≠ k + 9 + 4 * i by omega), uI_ne (show k + 9 + 4 * i + 3 ≠ k + 9 + 4 * i by omega), uI_ne (by decide), uI_ne (by decide)]; exact a9
theorem Rc.downs {n k i : Nat} {dl x : Int32} {I G : Mem} (h : Rc n dl I k G) (hW : BX n G) (hi : i < n) : Rc n dl (uI I (k + 9 + 4 * i) 5 x) k (uI G 136 i x) := by
  obtain ⟨a1, a2, a3, a4, a5, a6, a7, a8, a9⟩ := h.2.2.1 i hi
  refine h.upd (i := i) hW ?_ ?_ (fun q _ _ => uI_ne (by omega)) ⟨?_, uI_ne (by decide), uI_ne (by decide), ?_, uI_ne (by decide), uI_ne (by decide), uI_ne (by decide)⟩ (fun j hj _ => ⟨fun q hq => uI_ne (by omega), ?_, ?_, ?_, ?_, ?_, ?_, ?_, ?_, fun j _ => ⟨?_, ?_⟩⟩) (fun _ => ⟨?_, ?_, ?_, ?_, ?_, ?_, ?_, ?_, ?_⟩)
  all_goals first | (rw [uI_ap, if_neg (by omega), uI_ap, if_neg (by omega)]; first | exact h.1 | exact h.2.1 | assumption) | (rw [uI_self, uI_self]; done) | (rw [uI_ap, if_neg (by omega)]; done) | skip
  · rw [uI_ne (by decide), uI_ne (show k + 9 + 4 * i + 2 ≠ k + 9 + 4 * i by omega), uI_ne (show k + 9 + 4 * i + 3 ≠ k + 9 + 4 * i by omega), uI_ne (by decide), uI_ne (by decide)]; exact a9
theorem Rc.kind {n k i : Nat} {dl x : Int32} {I G : Mem} (h : Rc n dl I k G) (hW : BX n G) (hi : i < n) : Rc n dl (uI I (k + 9 + 4 * i) 1 x) k (uI G 127 i x) := by
  obtain ⟨a1, a2, a3, a4, a5, a6, a7, a8, a9⟩ := h.2.2.1 i hi
  refine h.upd (i := i) hW ?_ ?_ (fun q _ _ => uI_ne (by omega)) ⟨?_, uI_ne (by decide), uI_ne (by decide), ?_, uI_ne (by decide), uI_ne (by decide), uI_ne (by decide)⟩ (fun j hj _ => ⟨fun q hq => uI_ne (by omega), ?_, ?_, ?_, ?_, ?_, ?_, ?_, ?_, fun j _ => ⟨?_, ?_⟩⟩) (fun _ => ⟨?_, ?_, ?_, ?_, ?_, ?_, ?_, ?_, ?_⟩)
  all_goals first | (rw [uI_ap, if_neg (by omega), uI_ap, if_neg (by omega)]; first | exact h.1 | exact h.2.1 | assumption) | (rw [uI_self, uI_self]; done) | (rw [uI_ap, if_neg (by omega)]; done) | skip
  · rw [uI_ne (by decide), uI_ne (show k + 9 + 4 * i + 2 ≠ k + 9 + 4 * i by omega), uI_ne (show k + 9 + 4 * i + 3 ≠ k + 9 + 4 * i by omega), uI_ne (by decide), uI_ne (by decide)]; exact a9
theorem Rc.size0 {n k i : Nat} {dl : Int32} {I G : Mem} (h : Rc n dl I k G) (hW : BX n G) (hi : i < n) : Rc n dl (uI I (k + 9 + 4 * i + 1) 2 0) k (uI G 133 i 0) := by
  obtain ⟨a1, a2, a3, a4, a5, a6, a7, a8, a9⟩ := h.2.2.1 i hi
  refine h.upd (i := i) hW ?_ ?_ (fun q _ _ => uI_ne (by omega)) ⟨?_, uI_ne (by decide), uI_ne (by decide), ?_, uI_ne (by decide), uI_ne (by decide), uI_ne (by decide)⟩ (fun j hj _ => ⟨fun q hq => uI_ne (by omega), ?_, ?_, ?_, ?_, ?_, ?_, ?_, ?_, fun j _ => ⟨?_, ?_⟩⟩) (fun _ => ⟨?_, ?_, ?_, ?_, ?_, ?_, ?_, ?_, ?_⟩)
  all_goals first | (rw [uI_ap, if_neg (by omega), uI_ap, if_neg (by omega)]; first | exact h.1 | exact h.2.1 | assumption) | (rw [uI_self, uI_self]; done) | (rw [uI_ap, if_neg (by omega)]; done) | skip
  · rw [uI_self]; intro j hj; exact absurd hj (by show ¬ j < tn (nI 0); rw [tn_nI (by decide)]; omega)
theorem Rc.raise {n T k i : Nat} {dl : Int32} {I G : Mem} (h : Rc n dl I k G) (hW : BX n G) (hT : T < 100000) (hT2 : G 126 16 = nI T) (hi : i < n) : Rc n dl (uI (uI I (k + 9 + 4 * i) 7 (I (k + 9 + 4 * i) 6)) (k + 9 + 4 * i) 6 (I k 6)) k (uI (uI G 137 (2 * i + 1) (G 137 (2 * i))) 137 (2 * i) (G 126 16)) := by
  obtain ⟨a1, a2, a3, a4, a5, a6, a7, a8, a9⟩ := h.2.2.1 i hi
  have hrr : rr (G 126 16) = G 126 16 := by
    unfold rr
    rw [if_neg]
    rw [hT2]
    intro hc
    have h1 := nI_pos (n := T) (by omega)
    rw [hc] at h1
    exact h1 (by decide)
  refine h.upd (i := i) hW ?_ ?_ (fun q _ _ => by rw [uI_ne (by omega), uI_ne (by omega)]) ⟨?_, by rw [uI_ne (by decide), uI_ne (by decide)], by rw [uI_ne (by decide), uI_ne (by decide)], ?_, by rw [uI_ne (by decide), uI_ne (by decide)], by rw [uI_ne (by decide), uI_ne (by decide)], by rw [uI_ne (by decide), uI_ne (by decide)]⟩ (fun j hj _ => ⟨fun q hq => by rw [uI_ne (by omega), uI_ne (by omega)], ?_, ?_, ?_, ?_, ?_, ?_, ?_, ?_, fun j _ => ⟨?_, ?_⟩⟩) (fun _ => ⟨?_, ?_, ?_, ?_, ?_, ?_, ?_, ?_, ?_⟩)
  all_goals first | (rw [uI_ap, if_neg (by omega), uI_ap, if_neg (by omega), uI_ap, if_neg (by omega), uI_ap, if_neg (by omega)]; first | exact h.1 | exact h.2.1 | assumption) | (rw [uI_ap, if_neg (by omega), uI_ap, if_neg (by omega)]; done) | skip
  · rw [uI_self, uI_self, hrr]; exact h.1
  · rw [uI_ap, if_neg (by omega), uI_self, uI_ap, if_neg (by omega), uI_self]; exact a6
  · rw [uI_ne (by decide), uI_ne (by decide), uI_ne (show k + 9 + 4 * i + 2 ≠ k + 9 + 4 * i by omega), uI_ne (show k + 9 + 4 * i + 3 ≠ k + 9 + 4 * i by omega), uI_ne (show k + 9 + 4 * i + 2 ≠ k + 9 + 4 * i by omega), uI_ne (show k + 9 + 4 * i + 3 ≠ k + 9 + 4 * i by omega), uI_ne (by decide), uI_ne (by decide), uI_ne (by decide), uI_ne (by decide)]; exact a9
theorem Rc.push {n k i z : Nat} {dl x y : Int32} {I G : Mem} (h : Rc n dl I k G) (hW : BX n G) (hi : i < n) (hz : G 133 i = nI z) (hz5 : z < 5) : Rc n dl (uI (uI (uI I (k + 9 + 4 * i + 1 + 1) z x) (k + 9 + 4 * i + 1 + 2) z y) (k + 9 + 4 * i + 1) 2 (nI z + 1)) k (uI (uI (uI G 134 (5 * i + z) x) 135 (5 * i + z) y) 133 i (nI z + 1)) := by
  obtain ⟨a1, a2, a3, a4, a5, a6, a7, a8, a9⟩ := h.2.2.1 i hi
  refine h.upd (i := i) hW ?_ ?_ (fun q _ _ => by rw [uI_ne (by omega), uI_ne (by omega), uI_ne (by omega)]) ⟨?_, by rw [uI_ne (by decide), uI_ne (by decide), uI_ne (by decide)], by rw [uI_ne (by decide), uI_ne (by decide), uI_ne (by decide)], ?_, by rw [uI_ne (by decide), uI_ne (by decide), uI_ne (by decide)], by rw [uI_ne (by decide), uI_ne (by decide), uI_ne (by decide)], by rw [uI_ne (by decide), uI_ne (by decide), uI_ne (by decide)]⟩ (fun j hj _ => ⟨fun q hq => by rw [uI_ne (by omega), uI_ne (by omega), uI_ne (by omega)], ?_, ?_, ?_, ?_, ?_, ?_, ?_, ?_, fun j _ => ⟨?_, ?_⟩⟩) (fun _ => ⟨?_, ?_, ?_, ?_, ?_, ?_, ?_, ?_, ?_⟩)
  all_goals first | (rw [uI_ap, if_neg (by omega), uI_ap, if_neg (by omega), uI_ap, if_neg (by omega), uI_ap, if_neg (by omega), uI_ap, if_neg (by omega), uI_ap, if_neg (by omega)]; first | exact h.1 | exact h.2.1 | assumption) | (rw [uI_ap, if_neg (by omega), uI_ap, if_neg (by omega), uI_ap, if_neg (by omega)]; done) | (rw [uI_self, uI_self]; done) | skip
  · rw [uI_self, nI_1, tn_nI (by omega)]
    intro j hj
    rw [hz, tn_nI (by omega)] at a9
    rw [uI_ne (show k + 9 + 4 * i + 2 ≠ k + 9 + 4 * i + 1 by omega), uI_ne (show k + 9 + 4 * i + 3 ≠ k + 9 + 4 * i + 1 by omega), uI_ne (show (134 : Nat) ≠ 133 by decide), uI_ne (show (135 : Nat) ≠ 133 by decide)]
    by_cases hjz : j = z
    · subst hjz
      rw [uI_ne (show k + 9 + 4 * i + 2 ≠ k + 9 + 4 * i + 1 + 2 by omega), uI_ne (show (134 : Nat) ≠ 135 by decide)]
      exact ⟨by rw [uI_ap, if_pos ⟨by omega, rfl⟩, uI_self], by rw [uI_ap, if_pos ⟨by omega, rfl⟩, uI_self]⟩
    · have := a9 j (by omega)
      rw [uI_ap, if_neg (by omega), uI_ap, if_neg (by omega), uI_ap, if_neg (by omega), uI_ap, if_neg (by omega), uI_ap, if_neg (by omega), uI_ap, if_neg (by omega), uI_ap, if_neg (by omega), uI_ap, if_neg (by omega)]
      exact this
theorem Rc.take {n k i z p : Nat} {dl : Int32} {I G : Mem} (h : Rc n dl I k G) (hW : BX n G) (hi : i < n) (hz : G 133 i = nI z) (hz5 : z ≤ 5) (hp : p < z) : Rc n dl (uI (tkC I (k + 9 + 4 * i + 1) p z) (k + 9 + 4 * i + 1) 2 (nI z - 1)) k (fTake G i p) := by
  obtain ⟨a1, a2, a3, a4, a5, a6, a7, a8, a9⟩ := h.2.2.1 i hi
  have hG : ∀ b, b ≠ 133 → b ≠ 134 → b ≠ 135 → fTake G i p b = G b := fun b h1 h2 h3 => by unfold fTake; rw [uI_ne h1, tkS_n _ _ _ _ h2 h3]
  have hI : ∀ c, c ≠ k + 9 + 4 * i + 1 → c ≠ k + 9 + 4 * i + 2 → c ≠ k + 9 + 4 * i + 3 → (uI (tkC I (k + 9 + 4 * i + 1) p z) (k + 9 + 4 * i + 1) 2 (nI z - 1)) c = I c := fun c h1 h2 h3 => by rw [uI_ne h1, tkC_n _ _ _ _ (by omega) (by omega)]
  have hb : fTake G i p 133 i = nI z - 1 := by unfold fTake; rw [uI_self, hz]
  refine h.upd (i := i) hW ?_ ?_ (fun q _ _ => hI _ (by omega) (by omega) (by omega)) ⟨by rw [hG _ (by decide) (by decide) (by decide)], hG _ (by decide) (by decide) (by decide), hG _ (by decide) (by decide) (by decide), by rw [hG _ (by decide) (by decide) (by decide)], hG _ (by decide) (by decide) (by decide), hG _ (by decide) (by decide) (by decide), hG _ (by decide) (by decide) (by decide)⟩ (fun j hj hji => ⟨fun q hq => hI _ (by omega) (by omega) (by omega), ?_, ?_, ?_, ?_, ?_, ?_, ?_, ?_, fun j _ => ⟨?_, ?_⟩⟩) (fun _ => ⟨?_, ?_, ?_, ?_, ?_, ?_, ?_, ?_, ?_⟩)
  · rw [hI _ (by omega) (by omega) (by omega), hG _ (by decide) (by decide) (by decide)]; exact h.1
  · rw [hI _ (by omega) (by omega) (by omega), hG _ (by decide) (by decide) (by decide)]; exact h.2.1
  all_goals first | (rw [hG _ (by decide) (by decide) (by decide)]; done) | (rw [hI _ (by omega) (by omega) (by omega), hG _ (by decide) (by decide) (by decide)]; assumption) | skip
  · unfold fTake; rw [uI_ap, if_neg (by omega), tkS_n _ _ _ _ (by decide) (by decide)]
  · unfold fTake; rw [uI_ne (by decide), hz, tn_nI (by omega)]; unfold tkS; rw [if_neg (by omega)]
  · unfold fTake; rw [uI_ne (by decide), hz, tn_nI (by omega)]; unfold tkS; rw [if_neg (by omega)]
  · rw [hb, uI_self]
  · rw [hb, nI_s1 (by omega), tn_nI (by omega)]
    intro j hj
    rw [hz, tn_nI (by omega)] at a9
    unfold fTake
    rw [uI_ne (show k + 9 + 4 * i + 2 ≠ k + 9 + 4 * i + 1 by omega), uI_ne (show k + 9 + 4 * i + 3 ≠ k + 9 + 4 * i + 1 by omega), uI_ne (show (134 : Nat) ≠ 133 by decide), uI_ne (show (135 : Nat) ≠ 133 by decide), hz, tn_nI (by omega)]
    unfold tkC tkS
    by_cases hjp : p ≤ j
    · rw [if_pos (by omega), if_pos (by omega), if_pos (by omega), if_pos (by omega)]
      exact a9 (j + 1) (by omega)
    · rw [if_neg (by omega), if_neg (by omega), if_neg (by omega), if_neg (by omega)]
      exact a9 j (by omega)
/-- outside of the crew at k nothing has changed -/
def Fr (k : Nat) (I I' : Mem) : Prop := ∀ b, (b < k ∨ k + 33 ≤ b) → I' b = I b
theorem Fr.rf {k : Nat} {I : Mem} : Fr k I I := fun _ _ => rfl
theorem Fr.tr {k : Nat} {I I' I2 : Mem} (h : Fr k I I') (h2 : Fr k I' I2) : Fr k I I2 := fun b hb => (h2 b hb).trans (h b hb)
theorem Fr.st {k b j : Nat} {I I' : Mem} {x : Int32} (h : Fr k I I') (hb : k ≤ b ∧ b < k + 33) : Fr k I (uI I' b j x) := fun c hc => by rw [uI_ne (by omega)]; exact h c hc
