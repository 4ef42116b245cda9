def shL : List (Nat × Nat) := [(10, 0), (5, 0), (100, 84), (7, 0), (6, 0), (100, 6), (100, 6), (100, 18), (100, 18), (100, 18), (4, 0), (100, 6), (100, 6), (6, 0), (100, 6), (100, 6), (100, 18), (100, 18), (100, 18), (4, 0), (100, 6), (100, 6), (2, 0), (103, 6), (4, 0), (100, 6), (100, 6), (8, 0), (100, 6), (100, 6), (100, 128), (0, 0), (1, 0), (100, 5), (100, 5), (0, 0), (1, 0), (100, 5), (100, 5), (0, 0), (1, 0), (100, 5), (100, 5), (0, 0), (1, 0), (100, 5), (100, 5), (0, 0), (1, 0), (100, 5), (100, 5), (0, 0), (1, 0), (100, 5), (100, 5), (2, 0), (103, 6), (4, 0), (100, 6), (100, 6), (8, 0), (100, 6), (100, 6), (100, 128), (0, 0), (1, 0), (100, 5), (100, 5), (0, 0), (1, 0), (100, 5), (100, 5), (0, 0), (1, 0), (100, 5), (100, 5), (0, 0), (1, 0), (100, 5), (100, 5), (0, 0), (1, 0), (100, 5), (100, 5), (0, 0), (1, 0), (100, 5), (100, 5), (2, 0), (103, 6), (4, 0), (100, 6), (100, 6), (8, 0), (100, 6), (100, 6), (100, 128), (0, 0), (1, 0), (100, 5), (100, 5), (0, 0), (1, 0), (100, 5), (100, 5), (0, 0), (1, 0), (100, 5), (100, 5), (0, 0), (1, 0), (100, 5), (100, 5), (0, 0), (1, 0), (100, 5), (100, 5), (0, 0), (1, 0), (100, 5), (100, 5), (9, 0), (102, 366), (3, 0), (11, 0), (100, 6), (100, 6), (100, 18), (100, 6), (100, 6), (100, 6), (100, 6), (100, 30), (100, 30), (100, 6), (100, 12), (100, 6), (100, 6), (100, 6), (100, 6), (100, 6), (101, 84), (100, 6), (100, 6), (100, 18), (100, 6), (100, 6), (100, 256), (100, 6), (100, 6), (100, 6), (100, 6), (100, 30), (100, 30), (100, 6), (100, 12), (100, 5856), (100, 6), (100, 6), (100, 6), (100, 6), (100, 6), (100, 30), (100, 30), (100, 6), (100, 12), (100, 6), (100, 6), (100, 6), (100, 6), (100, 6)]
def ShA (a : Nat) : Nat × Nat := match a with
  | 0 => (999, 0)
  | 1 => (999, 0)
  | k + 2 => shL.getD k (999, 0)
def raL : List (List (Option Nat)) := [[some 3, some 5, some 15, some 24, some 57, some 90, some 123, some 125], [some 4], [], [some 6], [some 7, some 8, some 9, some 10, some 11, some 12], [], [], [], [], [], [some 13, some 14], [], [], [some 16, some 17, some 18, some 19, some 20, some 21], [], [], [], [], [], [some 22, some 23], [], [], [some 15, some 25, some 26, some 29, some 32], [some 33, some 37, some 41, some 45, some 49, some 53], [some 27, some 28], [], [], [some 30, some 31], [], [], [], [some 34], [some 35, some 36], [], [], [some 38], [some 39, some 40], [], [], [some 42], [some 43, some 44], [], [], [some 46], [some 47, some 48], [], [], [some 50], [some 51, some 52], [], [], [some 54], [some 55, some 56], [], [], [some 15, some 58, some 59, some 62, some 65], [some 66, some 70, some 74, some 78, some 82, some 86], [some 60, some 61], [], [], [some 63, some 64], [], [], [], [some 67], [some 68, some 69], [], [], [some 71], [some 72, some 73], [], [], [some 75], [some 76, some 77], [], [], [some 79], [some 80, some 81], [], [], [some 83], [some 84, some 85], [], [], [some 87], [some 88, some 89], [], [], [some 15, some 91, some 92, some 95, some 98], [some 99, some 103, some 107, some 111, some 115, some 119], [some 93, some 94], [], [], [some 96, some 97], [], [], [], [some 100], [some 101, some 102], [], [], [some 104], [some 105, some 106], [], [], [some 108], [some 109, some 110], [], [], [some 112], [some 113, some 114], [], [], [some 116], [some 117, some 118], [], [], [some 120], [some 121, some 122], [], [], [some 124], [], [], [none, none, some 127, some 128, some 129, some 130, some 131, some 132, some 133, some 134, some 135, some 136, some 137, none, some 138, some 139, none, none, none, none, some 140, some 141, some 142, none, some 143, none, none, none, none, none, some 144, some 145, some 146, some 147, some 148, none, none, none, none, some 149, none, none, some 150, some 151, some 152, some 153, some 154, some 155, some 156, some 157, some 158, none, none, none, none, none, none, none, some 159, some 160, some 161, some 162, some 163, some 164, some 165, some 166, some 167, some 168, some 169, some 170, some 171, some 172], [], [], [], [], [], [], [], [], [], [], [], [], [], [], [], [], [], [], [], [], [], [], [], [], [], [], [], [], [], [], [], [], [], [], [], [], [], [], [], [], [], [], [], [], [], []]
def RA (a j : Nat) : Option Nat := match a with
  | 0 => none
  | 1 => none
  | k + 2 => (raL.getD k []).getD j none
abbrev gA : Geo := (171, ShA, RA)
theorem Mt.mono {mi : MI} {rm : Room} {av : List Value} {g : Geo} {I : Mem} {J : Mel} {Q Q' : Option Value → Geo → Mem → Mel → Prop} (h : Mt mi rm av g I J Q) (hq : ∀ r g I J, Q r g I J → Q' r g I J) : Mt mi rm av g I J Q' := by
  intro l z p e ha hc hk s m args below hf happ hP hK
  obtain ⟨k, o, h1, h2, h3, ⟨⟨r, g', I', J', e1, e2, e3⟩, e4⟩, h5⟩ := h l z p e ha hc hk s m args below hf happ hP hK
  exact ⟨k, o, h1, h2, h3, ⟨⟨r, g', I', J', e1, hq _ _ _ _ e2, e3⟩, e4⟩, h5⟩
/-- the class's cells as I has them, the model's as S has them -/
def mg (I S : Mem) : Mem := fun a => if 126 ≤ a then S a else I a
theorem mg_m {I S : Mem} {a : Nat} (h : 126 ≤ a) : mg I S a = S a := if_pos h
theorem mg_c {I S : Mem} {a : Nat} (h : a < 126) : mg I S a = I a := if_neg (Nat.not_le.mpr h)
theorem mg_um {I S : Mem} {a j : Nat} {x : Int32} (h : 126 ≤ a) : uI (mg I S) a j x = mg I (uI S a j x) := by
  funext b k
  by_cases hb : b = a
  · subst hb; simp [uI, mg, h]
  · by_cases h2 : 126 ≤ b <;> simp [uI, mg, hb, h2]
theorem mg_uc {I S : Mem} {a j : Nat} {x : Int32} (h : a < 126) : uI (mg I S) a j x = mg (uI I a j x) S := by
  have h' : ¬ 126 ≤ a := Nat.not_le.mpr h
  funext b k
  by_cases hb : b = a
  · subst hb; simp [uI, mg, h']
  · by_cases h2 : 126 ≤ b <;> simp [uI, mg, hb, h2]
theorem mg_cpy {I S : Mem} {a b n : Nat} (ha : a < 126) (hb : b < 126) : cpy (mg I S) a b n = mg (cpy I a b n) S := by
  have ha' : ¬ 126 ≤ a := Nat.not_le.mpr ha
  have hb' : ¬ 126 ≤ b := Nat.not_le.mpr hb
  funext c k
  by_cases hc : c = b
  · subst hc; simp [cpy, mg, ha', hb']
  · by_cases h2 : 126 ≤ c <;> simp [cpy, mg, hc, h2]
abbrev rmd (d : Nat) : Room := { frames := d, cells := 0, slots := 0, locals := 36 * d }
def q2 (Q : Option Value → Mem → Mem → Mel → Prop) : Option Value → Geo → Mem → Mel → Prop := fun r g M J => g = gA ∧ ∃ I S, M = mg I S ∧ Q r I S J
/-- a method behind the constructors -/
def M2 (mi : MI) (d : Nat) (av : List Value) (I S : Mem) (J : Mel) (Q : Option Value → Mem → Mem → Mel → Prop) : Prop := Mt mi (rmd d) av gA (mg I S) J (q2 Q)
abbrev W2 (mi : MI) (d : Nat) (Q : Option Value → Mem → Mem → Mel → Prop) (I S : Mem) (J : Mel) (pc : Nat) (Ls st : List Value) : Prop := Wp mi (rmd d) none (finM 0 0 (q2 Q)) 0 0 gA (mg I S) J pc Ls st
theorem m2_of {mi : MI} {d n : Nat} {av : List Value} (Ls : List Value) {I S : Mem} {J : Mel} {Q : Option Value → Mem → Mem → Mel → Prop} (mk : Mok mi n) (hs : slN av ≤ mi.2.2.1) (hL : padL mi.2.2.1 (entL mi.2.2.1 av) = Ls) (k : W2 mi d Q I S J 0 Ls []) : M2 mi d av I S J Q := mt_of mk hs hL k
section RULES4
variable {mi : MI} {R : Room} {sc : Option (Nat × (Nat → Int32))} {Fn : FinT} {cs ss : Nat} {I S : Mem} {J : Mel} {pc q a idx ci fk : Nat} {Ls st : List Value}
theorem m_getI {n : Nat} (d : Dc mi.2.1 pc (.getfield idx) 3 q) (f : FlI mi.1.cls idx ci fk) (hs : ShA a = (ci, n)) (ha : 126 ≤ a) (k : Wp mi R sc Fn cs ss gA (mg I S) J q Ls (.int (S a fk) :: st)) : Wp mi R sc Fn cs ss gA (mg I S) J pc Ls (.ref a :: st) := wp_getI d f hs (by rw [mg_m ha]; exact k)
theorem m_getZ {n : Nat} (d : Dc mi.2.1 pc (.getfield idx) 3 q) (f : FlZ mi.1.cls idx ci fk) (hs : ShA a = (ci, n)) (ha : 126 ≤ a) (k : Wp mi R sc Fn cs ss gA (mg I S) J q Ls (.int (S a fk) :: st)) : Wp mi R sc Fn cs ss gA (mg I S) J pc Ls (.ref a :: st) := wp_getZ d f hs (by rw [mg_m ha]; exact k)
theorem m_putI {n : Nat} {x : Int32} (d : Dc mi.2.1 pc (.putfield idx) 3 q) (f : FlI mi.1.cls idx ci fk) (hs : ShA a = (ci, n)) (ha : 126 ≤ a) (k : Wp mi R sc Fn cs ss gA (mg I (uI S a fk x)) J q Ls st) : Wp mi R sc Fn cs ss gA (mg I S) J pc Ls (.int x :: .ref a :: st) := wp_putI d f hs (by decide) (by rw [mg_um ha]; exact k)
theorem m_putZ {n : Nat} {x : Int32} (d : Dc mi.2.1 pc (.putfield idx) 3 q) (f : FlZ mi.1.cls idx ci fk) (hs : ShA a = (ci, n)) (hx : x = 0 ∨ x = 1) (ha : 126 ≤ a) (k : Wp mi R sc Fn cs ss gA (mg I (uI S a fk x)) J q Ls st) : Wp mi R sc Fn cs ss gA (mg I S) J pc Ls (.int x :: .ref a :: st) := wp_putZ hx d f hs (by decide) (by rw [mg_um ha]; exact k)
theorem m_iald {n i : Nat} {x : Int32} (d : Dc mi.2.1 pc .iaload 1 q) (hs : ShA a = (100, n)) (hx : x = nI i) (hi : i < n) (ha : 126 ≤ a) (hn : n < 2 ^ 31) (k : Wp mi R sc Fn cs ss gA (mg I S) J q Ls (.int (S a i) :: st)) : Wp mi R sc Fn cs ss gA (mg I S) J pc Ls (.int x :: .ref a :: st) := wp_iald d hs hx hi hn (by rw [mg_m ha]; exact k)
theorem m_bald {n i : Nat} {x : Int32} (d : Dc mi.2.1 pc .baload 1 q) (hs : ShA a = (101, n)) (hx : x = nI i) (hi : i < n) (ha : 126 ≤ a) (hn : n < 2 ^ 31) (k : Wp mi R sc Fn cs ss gA (mg I S) J q Ls (.int (S a i) :: st)) : Wp mi R sc Fn cs ss gA (mg I S) J pc Ls (.int x :: .ref a :: st) := wp_bald d hs hx hi hn (by rw [mg_m ha]; exact k)
theorem m_iast {n i : Nat} {x v : Int32} (d : Dc mi.2.1 pc .iastore 1 q) (hs : ShA a = (100, n)) (hx : x = nI i) (hi : i < n) (ha : 126 ≤ a) (hn : n < 2 ^ 31) (k : Wp mi R sc Fn cs ss gA (mg I (uI S a i v)) J q Ls st) : Wp mi R sc Fn cs ss gA (mg I S) J pc Ls (.int v :: .int x :: .ref a :: st) := wp_iast d hs hx hi hn (by decide) (by rw [mg_um ha]; exact k)
theorem m_bast {n i : Nat} {x v : Int32} (d : Dc mi.2.1 pc .bastore 1 q) (hs : ShA a = (101, n)) (hx : x = nI i) (hi : i < n) (ha : 126 ≤ a) (hn : n < 2 ^ 31) (k : Wp mi R sc Fn cs ss gA (mg I (uI S a i (vp_nar .byte v))) J q Ls st) : Wp mi R sc Fn cs ss gA (mg I S) J pc Ls (.int v :: .int x :: .ref a :: st) := wp_bast d hs hx hi hn (by decide) (by rw [mg_um ha]; exact k)
theorem c_getI {n : Nat} (d : Dc mi.2.1 pc (.getfield idx) 3 q) (f : FlI mi.1.cls idx ci fk) (hs : ShA a = (ci, n)) (ha : a < 126) (k : Wp mi R sc Fn cs ss gA (mg I S) J q Ls (.int (I a fk) :: st)) : Wp mi R sc Fn cs ss gA (mg I S) J pc Ls (.ref a :: st) := wp_getI d f hs (by rw [mg_c ha]; exact k)
theorem c_getZ {n : Nat} (d : Dc mi.2.1 pc (.getfield idx) 3 q) (f : FlZ mi.1.cls idx ci fk) (hs : ShA a = (ci, n)) (ha : a < 126) (k : Wp mi R sc Fn cs ss gA (mg I S) J q Ls (.int (I a fk) :: st)) : Wp mi R sc Fn cs ss gA (mg I S) J pc Ls (.ref a :: st) := wp_getZ d f hs (by rw [mg_c ha]; exact k)
theorem c_putI {n : Nat} {x : Int32} (d : Dc mi.2.1 pc (.putfield idx) 3 q) (f : FlI mi.1.cls idx ci fk) (hs : ShA a = (ci, n)) (ha : a < 126) (k : Wp mi R sc Fn cs ss gA (mg (uI I a fk x) S) J q Ls st) : Wp mi R sc Fn cs ss gA (mg I S) J pc Ls (.int x :: .ref a :: st) := wp_putI d f hs (by decide) (by rw [mg_uc ha]; exact k)
theorem c_putZ {n : Nat} {x : Int32} (d : Dc mi.2.1 pc (.putfield idx) 3 q) (f : FlZ mi.1.cls idx ci fk) (hs : ShA a = (ci, n)) (hx : x = 0 ∨ x = 1) (ha : a < 126) (k : Wp mi R sc Fn cs ss gA (mg (uI I a fk x) S) J q Ls st) : Wp mi R sc Fn cs ss gA (mg I S) J pc Ls (.int x :: .ref a :: st) := wp_putZ hx d f hs (by decide) (by rw [mg_uc ha]; exact k)
theorem c_iald {n i : Nat} {x : Int32} (d : Dc mi.2.1 pc .iaload 1 q) (hs : ShA a = (100, n)) (hx : x = nI i) (hi : i < n) (ha : a < 126) (hn : n < 2 ^ 31) (k : Wp mi R sc Fn cs ss gA (mg I S) J q Ls (.int (I a i) :: st)) : Wp mi R sc Fn cs ss gA (mg I S) J pc Ls (.int x :: .ref a :: st) := wp_iald d hs hx hi hn (by rw [mg_c ha]; exact k)
theorem c_bald {n i : Nat} {x : Int32} (d : Dc mi.2.1 pc .baload 1 q) (hs : ShA a = (101, n)) (hx : x = nI i) (hi : i < n) (ha : a < 126) (hn : n < 2 ^ 31) (k : Wp mi R sc Fn cs ss gA (mg I S) J q Ls (.int (I a i) :: st)) : Wp mi R sc Fn cs ss gA (mg I S) J pc Ls (.int x :: .ref a :: st) := wp_bald d hs hx hi hn (by rw [mg_c ha]; exact k)
theorem c_iast {n i : Nat} {x v : Int32} (d : Dc mi.2.1 pc .iastore 1 q) (hs : ShA a = (100, n)) (hx : x = nI i) (hi : i < n) (ha : a < 126) (hn : n < 2 ^ 31) (k : Wp mi R sc Fn cs ss gA (mg (uI I a i v) S) J q Ls st) : Wp mi R sc Fn cs ss gA (mg I S) J pc Ls (.int v :: .int x :: .ref a :: st) := wp_iast d hs hx hi hn (by decide) (by rw [mg_uc ha]; exact k)
theorem c_bast {n i : Nat} {x v : Int32} (d : Dc mi.2.1 pc .bastore 1 q) (hs : ShA a = (101, n)) (hx : x = nI i) (hi : i < n) (ha : a < 126) (hn : n < 2 ^ 31) (k : Wp mi R sc Fn cs ss gA (mg (uI I a i (vp_nar .byte v)) S) J q Ls st) : Wp mi R sc Fn cs ss gA (mg I S) J pc Ls (.int v :: .int x :: .ref a :: st) := wp_bast d hs hx hi hn (by decide) (by rw [mg_uc ha]; exact k)
theorem g_putL {n : Nat} {x : Int64} (d : Dc mi.2.1 pc (.putfield idx) 3 q) (f : FlL mi.1.cls idx ci fk) (hs : ShA a = (ci, n)) (k : Wp mi R sc Fn cs ss gA (mg I S) (uJ J a fk x) q Ls st) : Wp mi R sc Fn cs ss gA (mg I S) J pc Ls (.long x :: .ref a :: st) := wp_putL d f hs (by decide) k
theorem g_last {n i : Nat} {x : Int32} {v : Int64} (d : Dc mi.2.1 pc .lastore 1 q) (hs : ShA a = (102, n)) (hx : x = nI i) (hi : i < n) (hn : n < 2 ^ 31) (k : Wp mi R sc Fn cs ss gA (mg I S) (uJ J a i v) q Ls st) : Wp mi R sc Fn cs ss gA (mg I S) J pc Ls (.long v :: .int x :: .ref a :: st) := wp_last d hs hx hi hn (by decide) k
theorem g_callV0 {mj : MI} {d' nn a : Nat} (d : Dc mi.2.1 pc (.invokevirtual idx) 3 q) (lk : Cond.methodLink mi.1.cls idx mj.1 ∈ gtbl) (mk : MokV mj 0 ci) (hs : ShA a = (ci, nn)) (hR : d' + 1 ≤ R.frames ∧ 8 + (mj.2.2.1 + 11) + 36 * d' ≤ R.locals) (hc : cs ≤ R.cells ∧ ss ≤ R.slots) (hw : (st.map Value.category).sum ≤ 8)
    (hM : M2 mj d' [.ref a] I S J (fun r I' S' J' => Wp mi R sc Fn cs ss gA (mg I' S') J' q Ls (pushR r st))) : Wp mi R sc Fn cs ss gA (mg I S) J pc Ls (.ref a :: st) := by
  refine wp_callV (rm := rmd d') (av := []) d lk mk rfl rfl hs hR hc hw ?_
  exact Mt.mono hM (fun r g M J' h => by obtain ⟨rfl, I', S', rfl, h⟩ := h; exact h)
theorem g_callV1 {mj : MI} {d' nn a : Nat} {x : Value} (d : Dc mi.2.1 pc (.invokevirtual idx) 3 q) (lk : Cond.methodLink mi.1.cls idx mj.1 ∈ gtbl) (mk : MokV mj 1 ci) (hs : ShA a = (ci, nn)) (hR : d' + 1 ≤ R.frames ∧ 8 + (mj.2.2.1 + 11) + 36 * d' ≤ R.locals) (hc : cs ≤ R.cells ∧ ss ≤ R.slots) (hw : (st.map Value.category).sum ≤ 8)
    (hM : M2 mj d' [.ref a, x] I S J (fun r I' S' J' => Wp mi R sc Fn cs ss gA (mg I' S') J' q Ls (pushR r st))) : Wp mi R sc Fn cs ss gA (mg I S) J pc Ls (x :: .ref a :: st) := by
  refine wp_callV (rm := rmd d') (av := [x]) d lk mk rfl rfl hs hR hc hw ?_
  exact Mt.mono hM (fun r g M J' h => by obtain ⟨rfl, I', S', rfl, h⟩ := h; exact h)
theorem g_callV2 {mj : MI} {d' nn a : Nat} {x y : Value} (d : Dc mi.2.1 pc (.invokevirtual idx) 3 q) (lk : Cond.methodLink mi.1.cls idx mj.1 ∈ gtbl) (mk : MokV mj 2 ci) (hs : ShA a = (ci, nn)) (hR : d' + 1 ≤ R.frames ∧ 8 + (mj.2.2.1 + 11) + 36 * d' ≤ R.locals) (hc : cs ≤ R.cells ∧ ss ≤ R.slots) (hw : (st.map Value.category).sum ≤ 8)
    (hM : M2 mj d' [.ref a, x, y] I S J (fun r I' S' J' => Wp mi R sc Fn cs ss gA (mg I' S') J' q Ls (pushR r st))) : Wp mi R sc Fn cs ss gA (mg I S) J pc Ls (y :: x :: .ref a :: st) := by
  refine wp_callV (rm := rmd d') (av := [x, y]) d lk mk rfl rfl hs hR hc hw ?_
  exact Mt.mono hM (fun r g M J' h => by obtain ⟨rfl, I', S', rfl, h⟩ := h; exact h)
theorem g_callV3 {mj : MI} {d' nn a : Nat} {x y u : Value} (d : Dc mi.2.1 pc (.invokevirtual idx) 3 q) (lk : Cond.methodLink mi.1.cls idx mj.1 ∈ gtbl) (mk : MokV mj 3 ci) (hs : ShA a = (ci, nn)) (hR : d' + 1 ≤ R.frames ∧ 8 + (mj.2.2.1 + 11) + 36 * d' ≤ R.locals) (hc : cs ≤ R.cells ∧ ss ≤ R.slots) (hw : (st.map Value.category).sum ≤ 8)
    (hM : M2 mj d' [.ref a, x, y, u] I S J (fun r I' S' J' => Wp mi R sc Fn cs ss gA (mg I' S') J' q Ls (pushR r st))) : Wp mi R sc Fn cs ss gA (mg I S) J pc Ls (u :: y :: x :: .ref a :: st) := by
  refine wp_callV (rm := rmd d') (av := [x, y, u]) d lk mk rfl rfl hs hR hc hw ?_
  exact Mt.mono hM (fun r g M J' h => by obtain ⟨rfl, I', S', rfl, h⟩ := h; exact h)
theorem g_callS1 {mj : MI} {d' : Nat} {x : Value} (d : Dc mi.2.1 pc (.invokestatic idx) 3 q) (lk : Cond.methodLink mi.1.cls idx mj.1 ∈ gtbl) (mk : MokS mj 1) (hR : d' + 1 ≤ R.frames ∧ 8 + (mj.2.2.1 + 11) + 36 * d' ≤ R.locals) (hc : cs ≤ R.cells ∧ ss ≤ R.slots) (hw : (st.map Value.category).sum ≤ 8)
    (hM : M2 mj d' [x] I S J (fun r I' S' J' => Wp mi R sc Fn cs ss gA (mg I' S') J' q Ls (pushR r st))) : Wp mi R sc Fn cs ss gA (mg I S) J pc Ls (x :: st) := by
  refine wp_callS (rm := rmd d') (av := [x]) d lk mk rfl rfl hR hc hw ?_
  exact Mt.mono hM (fun r g M J' h => by obtain ⟨rfl, I', S', rfl, h⟩ := h; exact h)
theorem g_callS2 {mj : MI} {d' : Nat} {x y : Value} (d : Dc mi.2.1 pc (.invokestatic idx) 3 q) (lk : Cond.methodLink mi.1.cls idx mj.1 ∈ gtbl) (mk : MokS mj 2) (hR : d' + 1 ≤ R.frames ∧ 8 + (mj.2.2.1 + 11) + 36 * d' ≤ R.locals) (hc : cs ≤ R.cells ∧ ss ≤ R.slots) (hw : (st.map Value.category).sum ≤ 8)
    (hM : M2 mj d' [x, y] I S J (fun r I' S' J' => Wp mi R sc Fn cs ss gA (mg I' S') J' q Ls (pushR r st))) : Wp mi R sc Fn cs ss gA (mg I S) J pc Ls (y :: x :: st) := by
  refine wp_callS (rm := rmd d') (av := [x, y]) d lk mk rfl rfl hR hc hw ?_
  exact Mt.mono hM (fun r g M J' h => by obtain ⟨rfl, I', S', rfl, h⟩ := h; exact h)
theorem g_callS3 {mj : MI} {d' : Nat} {x y u : Value} (d : Dc mi.2.1 pc (.invokestatic idx) 3 q) (lk : Cond.methodLink mi.1.cls idx mj.1 ∈ gtbl) (mk : MokS mj 3) (hR : d' + 1 ≤ R.frames ∧ 8 + (mj.2.2.1 + 11) + 36 * d' ≤ R.locals) (hc : cs ≤ R.cells ∧ ss ≤ R.slots) (hw : (st.map Value.category).sum ≤ 8)
    (hM : M2 mj d' [x, y, u] I S J (fun r I' S' J' => Wp mi R sc Fn cs ss gA (mg I' S') J' q Ls (pushR r st))) : Wp mi R sc Fn cs ss gA (mg I S) J pc Ls (u :: y :: x :: st) := by
  refine wp_callS (rm := rmd d') (av := [x, y, u]) d lk mk rfl rfl hR hc hw ?_
  exact Mt.mono hM (fun r g M J' h => by obtain ⟨rfl, I', S', rfl, h⟩ := h; exact h)
theorem g_copy {n a0 n0 n1 : Nat} {x sp dp : Int32} (d : Dc mi.2.1 pc (.invokestatic idx) 3 q) (lk : Cond.methodLink mi.1.cls idx arraycopyName ∈ gtbl) (hs0 : ShA a0 = (100, n0)) (hs1 : ShA a = (100, n1)) (hsp : sp = nI 0) (hdp : dp = nI 0) (hx : x = nI n) (hn : n ≤ n0 ∧ n ≤ n1 ∧ n < 10000) (ha0 : a0 < 126) (ha : a < 126) (hR : 1 ≤ R.frames ∧ 36 ≤ R.locals) (hw : (st.map Value.category).sum ≤ 8)
    (k : Wp mi R sc Fn cs ss gA (mg (cpy I a0 a n) S) J q Ls st) : Wp mi R sc Fn cs ss gA (mg I S) J pc Ls (.int x :: .int dp :: .ref a :: .int sp :: .ref a0 :: st) :=
  wp_copy d lk acn1 acn2 acn3 hs0 hs1 hsp hdp hx hn (by decide) ⟨hR.1, Nat.le_trans (show nativeFrameWords "java/lang/System" "arraycopy" 5 + 19 ≤ 36 by decide) hR.2⟩ hw (by rw [mg_cpy ha0 ha]; exact k)
theorem wp_mmax {x y : Int32} (d : Dc mi.2.1 pc (.invokestatic idx) 3 q) (lk : Cond.methodLink mi.1.cls idx Lib.Math.max.name ∈ gtbl) (hR : 1 ≤ R.frames ∧ 21 ≤ R.locals) (hc : cs ≤ R.cells ∧ ss ≤ R.slots) (hw : (st.map Value.category).sum ≤ 8) (k : Wp mi R sc Fn cs ss gA (mg I S) J q Ls (.int (if x < y then y else x) :: st)) : Wp mi R sc Fn cs ss gA (mg I S) J pc Ls (.int y :: .int x :: st) := by
  obtain ⟨d, rfl⟩ := d
  intro z p l e s m args below meth c C H locs ls hS hP hl
  have hts := C.2.2.2.2.2.2.1
  have hws : ((st.map (zv z)).map fun v => v.category).sum ≤ 8 := by rw [List.map_map]; simpa [Function.comp_def, zv_cat] using hw
  exact va_mmax C.1 C.2.1 (C.2.2.1.trans hl.1.symm) C.2.2.2.2.2.1 (hts _ lk) (hts _ mth_max.1) (hts _ mth_max.2.1) (hts _ mth_max.2.2) hR.1 (by omega) hc.1 hc.2 d (k z p l e s m args below meth c C H locs ls hS hP hl)
theorem wp_mmin {x y : Int32} (d : Dc mi.2.1 pc (.invokestatic idx) 3 q) (lk : Cond.methodLink mi.1.cls idx Lib.Math.min.name ∈ gtbl) (hR : 1 ≤ R.frames ∧ 21 ≤ R.locals) (hc : cs ≤ R.cells ∧ ss ≤ R.slots) (hw : (st.map Value.category).sum ≤ 8) (k : Wp mi R sc Fn cs ss gA (mg I S) J q Ls (.int (if y < x then y else x) :: st)) : Wp mi R sc Fn cs ss gA (mg I S) J pc Ls (.int y :: .int x :: st) := by
  obtain ⟨d, rfl⟩ := d
  intro z p l e s m args below meth c C H locs ls hS hP hl
  have hts := C.2.2.2.2.2.2.1
  have hws : ((st.map (zv z)).map fun v => v.category).sum ≤ 8 := by rw [List.map_map]; simpa [Function.comp_def, zv_cat] using hw
  exact va_mmin C.1 C.2.1 (C.2.2.1.trans hl.1.symm) C.2.2.2.2.2.1 (hts _ lk) (hts _ mth_min.1) (hts _ mth_min.2.1) (hts _ mth_min.2.2) hR.1 (by omega) hc.1 hc.2 d (k z p l e s m args below meth c C H locs ls hS hP hl)
end RULES4
section RET
variable {mi : MI} {R : Room} {sc : Option (Nat × (Nat → Int32))} {I S : Mem} {J : Mel} {pc : Nat} {Ls : List Value} {Q : Option Value → Mem → Mem → Mel → Prop}
theorem g_iret {x : Int32} (d : decode mi.2.1 pc = .ok (.ireturn, 1)) (hr : mi.2.2.2 = some .int) (hQ : Q (some (.int x)) I S J) : Wp mi R sc (finM 0 0 (q2 Q)) 0 0 gA (mg I S) J pc Ls [.int x] := wp_iret d hr rfl (Nat.le_refl 0) (Nat.le_refl 0) ⟨rfl, I, S, rfl, hQ⟩
theorem g_zret {x : Int32} (d : decode mi.2.1 pc = .ok (.ireturn, 1)) (hr : mi.2.2.2 = some .boolean) (hx : x = 0 ∨ x = 1) (hQ : Q (some (.int x)) I S J) : Wp mi R sc (finM 0 0 (q2 Q)) 0 0 gA (mg I S) J pc Ls [.int x] := wp_iret d hr (by rcases hx with rfl | rfl <;> rfl) (Nat.le_refl 0) (Nat.le_refl 0) ⟨rfl, I, S, rfl, hQ⟩
theorem g_lret {x : Int64} (d : decode mi.2.1 pc = .ok (.lreturn, 1)) (hr : mi.2.2.2 = some .long) (hQ : Q (some (.long x)) I S J) : Wp mi R sc (finM 0 0 (q2 Q)) 0 0 gA (mg I S) J pc Ls [.long x] := wp_lret d hr (Nat.le_refl 0) (Nat.le_refl 0) ⟨rfl, I, S, rfl, hQ⟩
theorem g_vret (d : decode mi.2.1 pc = .ok (.return_, 1)) (hr : mi.2.2.2 = none) (hQ : Q none I S J) : Wp mi R sc (finM 0 0 (q2 Q)) 0 0 gA (mg I S) J pc Ls [] := wp_vret d hr (Nat.le_refl 0) (Nat.le_refl 0) ⟨rfl, I, S, rfl, hQ⟩
end RET
