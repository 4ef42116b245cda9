/-! the classes that the worlds hold, their fields' kinds (0 int, 1 long, 2 reference, 3 boolean) -/
abbrev cls12 : List vw_C := [(RX0, TX0, 8), (RX1, TX1, 3), (RX2, TX2, 8), (RX3, TX3, 1), (RX4, TX4, 3), (RX5, TX5, 2), (RX6, TX6, 7), (RX7, TX7, 4), (RX8, TX8, 3), (RX9, TX9, 2), (RX10, TX10, 11), (RX11, TX11, 73)]
def nfl (c : Nat) : Nat := match c with
  | 0 => 8
  | 1 => 3
  | 2 => 8
  | 3 => 1
  | 4 => 3
  | 5 => 2
  | 6 => 7
  | 7 => 4
  | 8 => 3
  | 9 => 2
  | 10 => 11
  | 11 => 73
  | _ => 0
def fkd (c j : Nat) : Nat := match c with
  | 0 => (match j with | 0 => 2 | 1 => 0 | 2 => 3 | 3 => 0 | 4 => 0 | 5 => 0 | 6 => 0 | _ => 0)
  | 1 => (match j with | 0 => 2 | 1 => 2 | _ => 0)
  | 2 => (match j with | 0 => 2 | 1 => 2 | 2 => 2 | 3 => 2 | 4 => 2 | 5 => 0 | 6 => 0 | _ => 0)
  | 3 => (match j with | _ => 0)
  | 4 => (match j with | 0 => 2 | 1 => 2 | _ => 0)
  | 5 => (match j with | 0 => 2 | _ => 0)
  | 6 => (match j with | 0 => 2 | 1 => 2 | 2 => 2 | 3 => 2 | 4 => 2 | 5 => 2 | _ => 0)
  | 7 => (match j with | 0 => 2 | 1 => 0 | 2 => 0 | _ => 0)
  | 8 => (match j with | 0 => 2 | 1 => 2 | _ => 0)
  | 9 => (match j with | 0 => 2 | _ => 0)
  | 10 => (match j with | 0 => 2 | 1 => 2 | 2 => 2 | 3 => 2 | 4 => 2 | 5 => 2 | 6 => 2 | 7 => 2 | 8 => 3 | 9 => 0 | _ => 0)
  | 11 => (match j with | 0 => 0 | 1 => 0 | 2 => 2 | 3 => 2 | 4 => 2 | 5 => 2 | 6 => 2 | 7 => 2 | 8 => 2 | 9 => 2 | 10 => 2 | 11 => 2 | 12 => 2 | 13 => 0 | 14 => 2 | 15 => 2 | 16 => 0 | 17 => 0 | 18 => 0 | 19 => 0 | 20 => 2 | 21 => 2 | 22 => 2 | 23 => 0 | 24 => 2 | 25 => 3 | 26 => 3 | 27 => 0 | 28 => 0 | 29 => 0 | 30 => 2 | 31 => 2 | 32 => 2 | 33 => 2 | 34 => 2 | 35 => 0 | 36 => 0 | 37 => 0 | 38 => 0 | 39 => 2 | 40 => 0 | 41 => 0 | 42 => 2 | 43 => 2 | 44 => 2 | 45 => 2 | 46 => 2 | 47 => 2 | 48 => 2 | 49 => 2 | 50 => 2 | 51 => 1 | 52 => 3 | 53 => 0 | 54 => 0 | 55 => 0 | 56 => 0 | 57 => 0 | 58 => 2 | 59 => 2 | 60 => 2 | 61 => 2 | 62 => 2 | 63 => 2 | 64 => 2 | 65 => 2 | 66 => 2 | 67 => 2 | 68 => 2 | 69 => 2 | 70 => 2 | 71 => 2 | _ => 1)
  | _ => 9
def fkT (t : FieldType) : Nat := match t with
  | .int => 0
  | .long => 1
  | .object _ => 2
  | .array _ => 2
  | .boolean => 3
  | _ => 9
abbrev Mem : Type := Nat → Nat → Int32
abbrev Mel : Type := Nat → Nat → Int64
/-- how many cells, of which kind and length each is, what references they hold -/
abbrev Geo : Type := Nat × (Nat → Nat × Nat) × (Nat → Nat → Option Nat)
abbrev MI : Type := MethodName × ByteArray × Nat × Option FieldType
abbrev Zc : Type := (Nat × Nat × Nat) × va_G × (ClassId × ClassId × ClassId × ClassId)
/-- 0 is the script, 1 the static row, from 2 on what the law makes -/
def zad (z : Zc) (a : Nat) : Nat := match a with
  | 0 => z.1.1
  | 1 => z.1.2.1
  | k + 2 => z.1.2.2 + k
def zv (z : Zc) (v : Value) : Value := match v with
  | .ref a => .ref (zad z a)
  | w => w
def zA (z : Zc) : Nat → Prop := fun q => z.1.2.2 ≤ q
abbrev ztys (z : Zc) : List (ClassId × FieldType) := [(z.2.2.1, .int), (z.2.2.2.1, .byte), (z.2.2.2.2.1, .long), (z.2.2.2.2.2, .object "LetterCrew$Actor")]
def uI (I : Mem) (a j : Nat) (x : Int32) : Mem := fun b k => if b = a then (if k = j then x else I b k) else I b k
def uJ (J : Mel) (a j : Nat) (x : Int64) : Mel := fun b k => if b = a then (if k = j then x else J b k) else J b k
def uR (r : Nat → Nat → Option Nat) (a j : Nat) (x : Option Nat) : Nat → Nat → Option Nat := fun b k => if b = a then (if k = j then x else r b k) else r b k
def uS (S : Nat → Nat × Nat) (a : Nat) (x : Nat × Nat) : Nat → Nat × Nat := fun b => if b = a then x else S b
def rI (I : Mem) (a : Nat) : Mem := fun b k => if b = a then 0 else I b k
def rJ (J : Mel) (a : Nat) : Mel := fun b k => if b = a then 0 else J b k
def rR (r : Nat → Nat → Option Nat) (a : Nat) : Nat → Nat → Option Nat := fun b k => if b = a then none else r b k
def fva (z : Zc) (g : Geo) (I : Mem) (J : Mel) (a c j : Nat) : Value := match fkd c j with
  | 1 => .long (J a j)
  | 2 => va_rf ((g.2.2 a j).map (zad z))
  | _ => .int (I a j)
def fvs (z : Zc) (g : Geo) (I : Mem) (J : Mel) (a c : Nat) : List Value := (List.range (nfl c)).map (fva z g I J a c)
def cel (z : Zc) (g : Geo) (I : Mem) (J : Mel) (a : Nat) : va_E :=
  if (g.2.1 a).1 = 100 then .inl (z.2.2.1, (g.2.1 a).2, .inl (I a))
  else if (g.2.1 a).1 = 101 then .inl (z.2.2.2.1, (g.2.1 a).2, .inl (I a))
  else if (g.2.1 a).1 = 102 then .inl (z.2.2.2.2.1, (g.2.1 a).2, .inr (.inl (J a)))
  else if (g.2.1 a).1 = 103 then .inl (z.2.2.2.2.2, (g.2.1 a).2, .inr (.inr (.inr (.inr (fun j => (g.2.2 a j).map (zad z))))))
  else .inr ((g.2.1 a).1, fvs z g I J a (g.2.1 a).1)
def zws (z : Zc) (g : Geo) (I : Mem) (J : Mel) : va_W := (List.range g.1).map (fun k => (zad z (k + 2), cel z g I J (k + 2)))
def nstl : List (String × Nat × MethodName) := [("LetterCrew", 9, ⟨"LetterCrew$Page", "<init>", "()V"⟩), ("LetterCrew", 18, ⟨"LetterCrew$Reader", "<init>", "()V"⟩), ("LetterCrew$Reader", 11, ⟨"LetterCrew$Plan", "<init>", "()V"⟩), ("LetterCrew$Plan", 29, ⟨"LetterCrew$Links", "<init>", "()V"⟩), ("LetterCrew", 25, ⟨"LetterCrew$Plan", "<init>", "()V"⟩), ("LetterCrew$Crew", 19, ⟨"LetterCrew$Links", "<init>", "()V"⟩), ("LetterCrew$Crew", 26, ⟨"LetterCrew$Seen", "<init>", "()V"⟩), ("LetterCrew$Crew", 39, ⟨"LetterCrew$Actor", "<init>", "()V"⟩), ("LetterCrew$Actor", 11, ⟨"LetterCrew$Box", "<init>", "()V"⟩), ("LetterCrew", 47, ⟨"LetterCrew$Tracks", "<init>", "()V"⟩), ("LetterCrew", 54, ⟨"LetterCrew$Draws", "<init>", "()V"⟩)]
def Nst (U : State) : Prop := (∀ q ∈ nstl, va_Nw (.methodLinkNest q.1 q.2.1 q.2.2 "LetterCrew") U) ∧ va_AO "LetterCrew$Actor" U
def gtbl : List Cond := lw_tbl.filter goodWord
def Ztt (z : Zc) (U : State) (H : Heap) : Prop := Nst U ∧ va_Z "LetterCrew$Seen" "KINDS_THAT_DO" "[I" (.ref z.1.2.1) (zA z) U H ∧ va_T .int z.1.2.1 4 (fun j => .int (if j = 0 then 16 else if j = 1 then 7 else if j = 2 then 25 else 4)) (zA z) U H
def Stt (z : Zc) (g : Geo) (I : Mem) (J : Mel) (U : State) (H : Heap) : Prop :=
  (g.1 < 171 → H.size = z.1.2.2 + g.1) ∧ (∀ a, (g.2.1 a).1 ≠ 999 → 2 ≤ a ∧ a < g.1 + 2) ∧ va_P z.2.1 cls12 (zws z g I J) H ∧ va_K z.2.1 cls12 (ztys z) U
abbrev wsm (mi : MI) : List Cond := .code mi.1 mi.2.1 mi.2.2.1 mi.2.2.2 :: gtbl
def qcM (z : Zc) (Q : Option Value → Geo → Mem → Mel → Prop) : Array Value → State → Outcome → State → Prop := fun _ st o t =>
  (∃ (r : Option Value) (g : Geo) (I : Mem) (J : Mel), o = .returned (r.map (zv z)) ∧ Q r g I J ∧ Stt z g I J t t.heap) ∧ va_F (zA z) st t
/-- the method, called with av where the law's cells are as g, I, J say: it comes back, and Q -/
def Mt (mi : MI) (rm : Room) (av : List Value) (g : Geo) (I : Mem) (J : Mel) (Q : Option Value → Geo → Mem → Mel → Prop) : Prop :=
  ∀ (l : Launch) (z : Zc), Met l mi.1 (wsm mi) rm (va_Pc (av.map (zv z)) (fun U => Stt z g I J U U.heap ∧ Ztt z U U.heap ∧ z.1.2.2 ≤ U.heap.size)) (qcM z Q) rm.cells rm.slots (zA z)
def Cx (mi : MI) (sc : Option (Nat × (Nat → Int32))) (z : Zc) (p : Program) (s : State) (m : MethodId) (args : Array Value) (meth : Method) (c : Code) : Prop :=
  p.tables.exec = Jvm.exec ∧ c.code = mi.2.1 ∧ c.maxLocals = mi.2.2.1 ∧ meth.sig.returnType = mi.2.2.2 ∧ meth.locks = false ∧ s.vm.findClass mi.1.cls = some m.cls ∧ (∀ w ∈ gtbl, w.before args s = true) ∧ z.1.2.2 ≤ s.heap.size ∧ (mi.1.name = "<init>" → meth.name = "<init>") ∧ Ztt z s s.heap ∧ (∀ q : Nat × (Nat → Int32), sc = some q → va_X z.1.1 q.1 q.2 s s.heap ∧ z.1.1 < s.heap.size ∧ ¬ zA z z.1.1)
abbrev dum : Value := .retAddr 0
def lvl (z : Zc) (Ls : List Value) : List (Nat × Value) := (Ls.zipIdx.filter (fun q => q.1 != dum)).map (fun q => (q.2, zv z q.1))
abbrev FinT : Type := Zc → List Frame → Array Value → State → State → Prop
def Wp (mi : MI) (R : Room) (sc : Option (Nat × (Nat → Int32))) (Fin : FinT) (cs ss : Nat) (g : Geo) (I : Mem) (J : Mel) (pc : Nat) (Ls st : List Value) : Prop :=
  ∀ (z : Zc) (p : Program) (l : Launch) (e : Env) (s : State) (m : MethodId) (args : Array Value) (below : List Frame) (meth : Method) (c : Code), Cx mi sc z p s m args meth c →
    ∀ (H : Heap) (locs : List Loc) (ls : Array Slot), va_S (zA z) s.heap H locs → Stt z g I J s H → lv_has ls mi.2.2.1 (lvl z Ls) →
      W p l e R s m args below meth c H locs cs ss (Fin z below args s) (F0 m pc ls (st.map (zv z)))
def finM (mc ms : Nat) (Q : Option Value → Geo → Mem → Mel → Prop) : FinT := fun z below args s => MQ below (qcM z Q) args s mc ms (zA z)
def pushR (r : Option Value) (st : List Value) : List Value := match r with
  | none => st
  | some v => v :: st
/-! the list of cells -/
theorem zad_ge (z : Zc) {a : Nat} (h : 2 ≤ a) : zad z a = z.1.2.2 + (a - 2) := by
  match a, h with
  | k + 2, _ => rfl
theorem zv_cat (z : Zc) (v : Value) : (zv z v).category = v.category := by cases v <;> rfl
theorem zws_get (z : Zc) (g : Geo) (I : Mem) (J : Mel) {a : Nat} (h : 2 ≤ a) (h2 : a < g.1 + 2) : (zws z g I J)[a - 2]? = some (zad z a, cel z g I J a) := by
  unfold zws
  rw [List.getElem?_map, List.getElem?_range (by omega)]
  simp only [Option.map_some]
  rw [show a - 2 + 2 = a by omega]
theorem zws_at {z : Zc} {g : Geo} {I : Mem} {J : Mel} {k : Nat} {q : Nat × va_E} (h : (zws z g I J)[k]? = some q) : k < g.1 ∧ q = (z.1.2.2 + k, cel z g I J (k + 2)) := by
  unfold zws at h
  rw [List.getElem?_map] at h
  by_cases hk : k < g.1
  · rw [List.getElem?_range hk] at h
    exact ⟨hk, (Option.some.inj h).symm⟩
  · rw [List.getElem?_eq_none (by simpa using hk)] at h
    cases h
theorem zws_D (z : Zc) (g : Geo) (I : Mem) (J : Mel) : va_D (zA z) (zws z g I J) := by
  refine ⟨fun i j p q hi hj hpq => ?_, fun k q hk => ?_⟩
  · rw [(zws_at hi).2, (zws_at hj).2] at hpq
    dsimp only at hpq
    omega
  · rw [(zws_at hk).2]
    exact Nat.le_add_right _ _
theorem zws_set (z : Zc) {g g' : Geo} {I I' : Mem} {J J' : Mel} {a : Nat} {e : va_E} (ha : 2 ≤ a) (h1 : g'.1 = g.1) (he : cel z g' I' J' a = e) (ho : ∀ b, b ≠ a → cel z g' I' J' b = cel z g I J b) : (zws z g I J).set (a - 2) (zad z a, e) = zws z g' I' J' := by
  apply List.ext_getElem?
  intro k
  unfold zws
  rw [h1]
  by_cases hk : k < g.1
  · by_cases hka : k = a - 2
    · subst hka
      rw [List.getElem?_set_self (by simpa using hk), List.getElem?_map, List.getElem?_range hk]
      simp only [Option.map_some]
      rw [show a - 2 + 2 = a by omega, he]
    · rw [List.getElem?_set_ne (Ne.symm hka), List.getElem?_map, List.getElem?_map, List.getElem?_range hk]
      simp only [Option.map_some]
      rw [ho (k + 2) (by omega)]
  · rw [List.getElem?_eq_none (by simpa using hk), List.getElem?_eq_none (by simpa using hk)]
theorem zws_push (z : Zc) {g g' : Geo} {I I' : Mem} {J J' : Mel} (h1 : g'.1 = g.1 + 1) (ho : ∀ b, b < g.1 + 2 → cel z g' I' J' b = cel z g I J b) : zws z g I J ++ [(z.1.2.2 + g.1, cel z g' I' J' (g.1 + 2))] = zws z g' I' J' := by
  unfold zws
  rw [h1, List.range_succ, List.map_append]
  congr 1
  apply List.map_congr_left
  intro k hk
  rw [ho (k + 2) (by have := List.mem_range.mp hk; omega)]
theorem fvs_get (z : Zc) (g : Geo) (I : Mem) (J : Mel) (a c : Nat) {k : Nat} (h : k < nfl c) : (fvs z g I J a c)[k]? = some (fva z g I J a c k) := by
  unfold fvs
  rw [List.getElem?_map, List.getElem?_range h]
  rfl
theorem fvs_set (z : Zc) {g g' : Geo} {I I' : Mem} {J J' : Mel} {a c k : Nat} {v : Value} (hk : k < nfl c) (hv : fva z g' I' J' a c k = v) (ho : ∀ j, j ≠ k → fva z g' I' J' a c j = fva z g I J a c j) : (fvs z g I J a c).set k v = fvs z g' I' J' a c := by
  apply List.ext_getElem?
  intro j
  unfold fvs
  by_cases hj : j < nfl c
  · by_cases hjk : j = k
    · subst hjk
      rw [List.getElem?_set_self (by simpa using hj), List.getElem?_map, List.getElem?_range hj]
      simp only [Option.map_some]
      rw [hv]
    · rw [List.getElem?_set_ne (Ne.symm hjk), List.getElem?_map, List.getElem?_map, List.getElem?_range hj]
      simp only [Option.map_some]
      rw [ho j hjk]
  · rw [List.getElem?_eq_none (by simpa using hj), List.getElem?_eq_none (by simpa using hj)]
theorem cel_i {z : Zc} {g : Geo} {I : Mem} {J : Mel} {a n : Nat} (h : g.2.1 a = (100, n)) : cel z g I J a = .inl (z.2.2.1, n, .inl (I a)) := by unfold cel; rw [h]; rfl
theorem cel_b {z : Zc} {g : Geo} {I : Mem} {J : Mel} {a n : Nat} (h : g.2.1 a = (101, n)) : cel z g I J a = .inl (z.2.2.2.1, n, .inl (I a)) := by unfold cel; rw [h]; rfl
theorem cel_l {z : Zc} {g : Geo} {I : Mem} {J : Mel} {a n : Nat} (h : g.2.1 a = (102, n)) : cel z g I J a = .inl (z.2.2.2.2.1, n, .inr (.inl (J a))) := by unfold cel; rw [h]; rfl
theorem cel_a {z : Zc} {g : Geo} {I : Mem} {J : Mel} {a n : Nat} (h : g.2.1 a = (103, n)) : cel z g I J a = .inl (z.2.2.2.2.2, n, .inr (.inr (.inr (.inr (fun j => (g.2.2 a j).map (zad z)))))) := by unfold cel; rw [h]; rfl
theorem cel_o {z : Zc} {g : Geo} {I : Mem} {J : Mel} {a c n : Nat} (h : g.2.1 a = (c, n)) (hc : c < 100) : cel z g I J a = .inr (c, fvs z g I J a c) := by
  unfold cel; rw [h]
  rw [if_neg (by simp; omega), if_neg (by simp; omega), if_neg (by simp; omega), if_neg (by simp; omega)]
theorem cel_congr {z : Zc} {g g' : Geo} {I I' : Mem} {J J' : Mel} {b : Nat} (h1 : g'.2.1 b = g.2.1 b) (h2 : g'.2.2 b = g.2.2 b) (h3 : I' b = I b) (h4 : J' b = J b) : cel z g' I' J' b = cel z g I J b := by
  unfold cel fvs
  have : fva z g' I' J' b = fva z g I J b := by
    funext c j
    unfold fva
    rw [h2, h3, h4]
  rw [h1, h2, h3, h4, this]
theorem uI_ne {I : Mem} {a j b : Nat} {x : Int32} (h : b ≠ a) : uI I a j x b = I b := by funext k; simp [uI, h]
theorem uJ_ne {J : Mel} {a j b : Nat} {x : Int64} (h : b ≠ a) : uJ J a j x b = J b := by funext k; simp [uJ, h]
theorem uR_ne {r : Nat → Nat → Option Nat} {a j b : Nat} {x : Option Nat} (h : b ≠ a) : uR r a j x b = r b := by funext k; simp [uR, h]
theorem uI_at {I : Mem} {a j : Nat} {x : Int32} : uI I a j x a = upd (I a) j x := by funext k; simp [uI, upd]
theorem uJ_at {J : Mel} {a j : Nat} {x : Int64} : uJ J a j x a = vp_updL (J a) j x := by funext k; simp [uJ, vp_updL]
/-! the words -/
theorem gtbl_good {w : Cond} (h : w ∈ gtbl) : goodWord w = true := (List.mem_filter.mp h).2
theorem gm {w : Cond} (i : Nat) (h : lw_tbl[i]? = some w) (hg : goodWord w = true) : w ∈ gtbl := List.mem_filter.mpr ⟨List.mem_of_getElem? h, hg⟩
theorem gml {ws : List Cond} (ps : List Nat) (h : ws = ps.filterMap (fun i => lw_tbl[i]?)) (hg : ws.all goodWord = true) : ∀ w ∈ ws, w ∈ gtbl := by
  intro w hw
  have hg2 := List.all_eq_true.mp hg w hw
  rw [h] at hw
  obtain ⟨i, -, hi⟩ := List.mem_filterMap.mp hw
  exact gm i hi hg2
theorem wsm_good (mj : MI) (h : Cond.code mj.1 mj.2.1 mj.2.2.1 mj.2.2.2 ∈ gtbl) : GoodIn gtbl (wsm mj) := by
  intro w hw
  have hm : w ∈ gtbl := by
    rcases List.mem_cons.mp hw with e | e
    · rw [e]; exact h
    · exact e
  exact ⟨hm, good_of_word (gtbl_good hm)⟩
/-! the locals -/
theorem lvl_mem {z : Zc} {Ls : List Value} {i : Nat} {w : Value} : (i, w) ∈ lvl z Ls ↔ ∃ v, Ls[i]? = some v ∧ v ≠ dum ∧ w = zv z v := by
  unfold lvl
  simp only [List.mem_map, List.mem_filter]
  constructor
  · rintro ⟨⟨v, j⟩, ⟨h1, h2⟩, h3⟩
    have h4 := List.mem_zipIdx_iff_getElem?.mp h1
    dsimp only at h3 h4
    obtain ⟨rfl, rfl⟩ := Prod.mk.inj h3
    exact ⟨v, h4, by simpa using h2, rfl⟩
  · rintro ⟨v, h1, h2, rfl⟩
    exact ⟨(v, i), ⟨List.mem_zipIdx_iff_getElem?.mpr h1, by simpa using h2⟩, rfl⟩
theorem lvl_get {z : Zc} {ls : Array Slot} {n : Nat} {Ls : List Value} (h : lv_has ls n (lvl z Ls)) {i : Nat} {v : Value} (hi : Ls[i]? = some v) (hd : v ≠ dum) : ls[i]? = some (.val (zv z v)) := h.2.2 (i, zv z v) (lvl_mem.mpr ⟨v, hi, hd, rfl⟩)
def pvk (i : Nat) (Ls : List Value) : Bool := match i with
  | 0 => true
  | j + 1 => match Ls[j]? with
    | some v => v.category == 1
    | none => true
theorem pvk_spec {i : Nat} {Ls : List Value} (h : pvk i Ls = true) {j : Nat} {v : Value} (hj : j + 1 = i) (hv : Ls[j]? = some v) : v.category = 1 := by
  subst hj
  simp only [pvk, hv] at h
  simpa using h
theorem lvl_set1 {z : Zc} {ls : Array Slot} {n i : Nat} {Ls : List Value} {v : Value} (hp : pvk i Ls = true) (h : lv_has ls n ((i, zv z v) :: (lvl z Ls).filter (fun q => !(q.1 == i) && !(q.1 + 1 == i && q.2.category == 2)))) : lv_has ls n (lvl z (Ls.set i v)) := by
  refine ⟨h.1, h.2.1, fun q hq => h.2.2 q ?_⟩
  obtain ⟨j, w⟩ := q
  obtain ⟨v', h1, h2, rfl⟩ := lvl_mem.mp hq
  by_cases hj : j = i
  · subst hj
    have hl : j < Ls.length := by have := (List.getElem?_eq_some_iff.mp h1).1; simpa using this
    rw [List.getElem?_set_self hl] at h1
    cases h1
    exact List.mem_cons_self
  · rw [List.getElem?_set_ne (Ne.symm hj)] at h1
    refine List.mem_cons_of_mem _ (List.mem_filter.mpr ⟨lvl_mem.mpr ⟨v', h1, h2, rfl⟩, ?_⟩)
    by_cases hj2 : j + 1 = i
    · simp [hj, zv_cat, pvk_spec hp hj2 h1]
    · simp [hj, hj2]
theorem lvl_set2 {z : Zc} {ls : Array Slot} {n i : Nat} {Ls : List Value} {v : Value} (hp : pvk i Ls = true) (h : lv_has ls n ((i, zv z v) :: (lvl z Ls).filter (fun q => !(q.1 == i) && (!(q.1 == i + 1) && !(q.1 + 1 == i && q.2.category == 2))))) : lv_has ls n (lvl z ((Ls.set i v).set (i + 1) dum)) := by
  refine ⟨h.1, h.2.1, fun q hq => h.2.2 q ?_⟩
  obtain ⟨j, w⟩ := q
  obtain ⟨v', h1, h2, rfl⟩ := lvl_mem.mp hq
  by_cases hk : j = i + 1
  · subst hk
    have hl : i + 1 < (Ls.set i v).length := by have := (List.getElem?_eq_some_iff.mp h1).1; simpa using this
    rw [List.getElem?_set_self hl] at h1
    cases h1
    exact absurd rfl h2
  · rw [List.getElem?_set_ne (Ne.symm hk)] at h1
    by_cases hj : j = i
    · subst hj
      have hl : j < Ls.length := by have := (List.getElem?_eq_some_iff.mp h1).1; simpa using this
      rw [List.getElem?_set_self hl] at h1
      cases h1
      exact List.mem_cons_self
    · rw [List.getElem?_set_ne (Ne.symm hj)] at h1
      refine List.mem_cons_of_mem _ (List.mem_filter.mpr ⟨lvl_mem.mpr ⟨v', h1, h2, rfl⟩, ?_⟩)
      by_cases hj2 : j + 1 = i
      · simp [hj, hk, zv_cat, pvk_spec hp hj2 h1]
      · simp [hj, hj2, hk]
def entL (n : Nat) (av : List Value) : List Value := match n, av with
  | _, [] => []
  | 0, _ => []
  | k + 1, v :: vs => if v.category = 2 then v :: dum :: entL (k - 1) vs else v :: entL k vs

/-! what the tables say of a class, of a field's place, of a method -/
def Ck (ci : Nat) (C : String) (T : u_T) (N : Nat) (ty : Nat → FieldType) : Prop :=
  cls12[ci]? = some (C, T, N) ∧ nfl ci = N ∧ (∀ w ∈ u_ws C T N, w ∈ gtbl) ∧ (∀ k, k < N → parseFieldDescriptor (T k).2.2.1 = some (ty k)) ∧ (∀ a, a < N → ∀ b, b < N → a ≠ b → (T a).2.1 ≠ (T b).2.1) ∧ (∀ k, k < N → fkT (ty k) = fkd ci k ∧ fkd ci k ≠ 9) ∧ ci < 100
def Fl (own : String) (idx ci k : Nat) (fin : Bool) : Prop := ∃ (C : String) (T : u_T) (N : Nat) (ty : Nat → FieldType), Ck ci C T N ty ∧ k < N ∧ Cond.fieldLink own idx (T k).1 (T k).2.1 (T k).2.2.1 ∈ gtbl ∧ (T k).2.2.2 = fin ∧ (T k).1 = C
abbrev FlI (own : String) (idx ci k : Nat) : Prop := Fl own idx ci k false ∧ fkd ci k = 0
abbrev FlZ (own : String) (idx ci k : Nat) : Prop := Fl own idx ci k false ∧ fkd ci k = 3
abbrev FlL (own : String) (idx ci k : Nat) : Prop := Fl own idx ci k false ∧ fkd ci k = 1
abbrev FlA (own : String) (idx ci k : Nat) : Prop := Fl own idx ci k true ∧ fkd ci k = 2
def Mok (mi : MI) (n : Nat) : Prop := Cond.code mi.1 mi.2.1 mi.2.2.1 mi.2.2.2 ∈ gtbl ∧ Cond.initialized mi.1.cls ∈ gtbl ∧ mi.1.cls ≠ "java/lang/invoke/MethodHandle" ∧ mi.1.cls ≠ "java/lang/invoke/VarHandle" ∧ (parseMethodDescriptor mi.1.desc).map (fun d => d.parameters.length) = some n ∧ plainName mi.1.cls = true
def MokV (mi : MI) (n ci : Nat) : Prop := Mok mi n ∧ Cond.instanceMethod mi.1 ∈ gtbl ∧ Cond.selects mi.1.cls mi.1 mi.1 ∈ gtbl ∧ ci < 100 ∧ ∃ (T : u_T) (N : Nat), cls12[ci]? = some (mi.1.cls, T, N)
def MokS (mi : MI) (n : Nat) : Prop := Mok mi n ∧ Cond.static mi.1 ∈ gtbl
def MokI (mi : MI) (n : Nat) : Prop := Mok mi n ∧ Cond.instanceMethod mi.1 ∈ gtbl ∧ mi.1.name = "<init>"
abbrev Dc (cc : ByteArray) (pc : Nat) (i : Instr) (len q : Nat) : Prop := decode cc pc = .ok (i, len) ∧ pc + len = q
abbrev Db (cc : ByteArray) (pc : Nat) (i : Instr) (off : Int) (q tgt : Nat) : Prop := decode cc pc = .ok (i, 3) ∧ pc + 3 = q ∧ (pc : Int) + off = (tgt : Int)
section RULES
variable {mi : MI} {R : Room} {sc : Option (Nat × (Nat → Int32))} {Fn : FinT} {cs ss : Nat} {g : Geo} {I : Mem} {J : Mel} {pc q : Nat} {Ls st : List Value}
theorem wp_iconst {n : Int} (v : Int32) (d : Dc mi.2.1 pc (.iconst n) 1 q) (hv : Int32.ofInt n = v) (k : Wp mi R sc Fn cs ss g I J q Ls (.int v :: st)) : Wp mi R sc Fn cs ss g I J pc Ls st := by
  obtain ⟨d, rfl⟩ := d
  exact fun z p l e s m args below meth c C H locs ls hS hP hl => lv_iconst C.1 C.2.1 d hv (k z p l e s m args below meth c C H locs ls hS hP hl)
theorem wp_bipush {n : Int} (v : Int32) (d : Dc mi.2.1 pc (.bipush n) 2 q) (hv : (Int8.ofInt n).toInt32 = v) (k : Wp mi R sc Fn cs ss g I J q Ls (.int v :: st)) : Wp mi R sc Fn cs ss g I J pc Ls st := by
  obtain ⟨d, rfl⟩ := d
  exact fun z p l e s m args below meth c C H locs ls hS hP hl => lv_bipush C.1 C.2.1 d hv (k z p l e s m args below meth c C H locs ls hS hP hl)
theorem wp_sipush {n : Int} (v : Int32) (d : Dc mi.2.1 pc (.sipush n) 3 q) (hv : (Int16.ofInt n).toInt32 = v) (k : Wp mi R sc Fn cs ss g I J q Ls (.int v :: st)) : Wp mi R sc Fn cs ss g I J pc Ls st := by
  obtain ⟨d, rfl⟩ := d
  exact fun z p l e s m args below meth c C H locs ls hS hP hl => lv_sipush C.1 C.2.1 d hv (k z p l e s m args below meth c C H locs ls hS hP hl)
theorem wp_lconst {n : Fin 2} (v : Int64) (d : Dc mi.2.1 pc (.lconst n) 1 q) (hv : Int64.ofNat (n : Nat) = v) (k : Wp mi R sc Fn cs ss g I J q Ls (.long v :: st)) : Wp mi R sc Fn cs ss g I J pc Ls st := by
  obtain ⟨d, rfl⟩ := d
  exact fun z p l e s m args below meth c C H locs ls hS hP hl => lv_lconst C.1 C.2.1 d hv (k z p l e s m args below meth c C H locs ls hS hP hl)
theorem wp_iload_n {n : Fin 4} {x : Int32} (d : Dc mi.2.1 pc (.iload_n n) 1 q) (h : Ls[(n : Nat)]? = some (.int x)) (k : Wp mi R sc Fn cs ss g I J q Ls (.int x :: st)) : Wp mi R sc Fn cs ss g I J pc Ls st := by
  obtain ⟨d, rfl⟩ := d
  exact fun z p l e s m args below meth c C H locs ls hS hP hl => lv_iload_n C.1 C.2.1 d rfl (lvl_get hl h (by simp)) (k z p l e s m args below meth c C H locs ls hS hP hl)
theorem wp_iload {n : Nat} {x : Int32} (d : Dc mi.2.1 pc (.iload n) 2 q) (h : Ls[n]? = some (.int x)) (k : Wp mi R sc Fn cs ss g I J q Ls (.int x :: st)) : Wp mi R sc Fn cs ss g I J pc Ls st := by
  obtain ⟨d, rfl⟩ := d
  exact fun z p l e s m args below meth c C H locs ls hS hP hl => lv_iload C.1 C.2.1 d (lvl_get hl h (by simp)) (k z p l e s m args below meth c C H locs ls hS hP hl)
theorem wp_lload_n {n : Fin 4} {x : Int64} (d : Dc mi.2.1 pc (.lload_n n) 1 q) (h : Ls[(n : Nat)]? = some (.long x)) (k : Wp mi R sc Fn cs ss g I J q Ls (.long x :: st)) : Wp mi R sc Fn cs ss g I J pc Ls st := by
  obtain ⟨d, rfl⟩ := d
  exact fun z p l e s m args below meth c C H locs ls hS hP hl => lv_lload_n C.1 C.2.1 d rfl (lvl_get hl h (by simp)) (k z p l e s m args below meth c C H locs ls hS hP hl)
theorem wp_aload_n {n : Fin 4} {x : Nat} (d : Dc mi.2.1 pc (.aload_n n) 1 q) (h : Ls[(n : Nat)]? = some (.ref x)) (k : Wp mi R sc Fn cs ss g I J q Ls (.ref x :: st)) : Wp mi R sc Fn cs ss g I J pc Ls st := by
  obtain ⟨d, rfl⟩ := d
  exact fun z p l e s m args below meth c C H locs ls hS hP hl => lv_aload_n C.1 C.2.1 d rfl (lvl_get hl h (by simp)) (k z p l e s m args below meth c C H locs ls hS hP hl)
theorem wp_aload {n : Nat} {x : Nat} (d : Dc mi.2.1 pc (.aload n) 2 q) (h : Ls[n]? = some (.ref x)) (k : Wp mi R sc Fn cs ss g I J q Ls (.ref x :: st)) : Wp mi R sc Fn cs ss g I J pc Ls st := by
  obtain ⟨d, rfl⟩ := d
  exact fun z p l e s m args below meth c C H locs ls hS hP hl => lv_aload C.1 C.2.1 d (lvl_get hl h (by simp)) (k z p l e s m args below meth c C H locs ls hS hP hl)
theorem wp_istore_n {n : Fin 4} {x : Int32} (d : Dc mi.2.1 pc (.istore_n n) 1 q) (hn : (n : Nat) < mi.2.2.1) (hp : pvk (n : Nat) Ls = true) (k : Wp mi R sc Fn cs ss g I J q (Ls.set (n : Nat) (.int x)) st) : Wp mi R sc Fn cs ss g I J pc Ls ((.int x) :: st) := by
  obtain ⟨d, rfl⟩ := d
  exact fun z p l e s m args below meth c C H locs ls hS hP hl => lv_istore_n C.1 C.2.1 d rfl hl hn rfl (fun ls hl => k z p l e s m args below meth c C H locs ls hS hP (lvl_set1 hp hl))
theorem wp_istore {n : Nat} {x : Int32} (d : Dc mi.2.1 pc (.istore n) 2 q) (hn : n < mi.2.2.1) (hp : pvk n Ls = true) (k : Wp mi R sc Fn cs ss g I J q (Ls.set n (.int x)) st) : Wp mi R sc Fn cs ss g I J pc Ls ((.int x) :: st) := by
  obtain ⟨d, rfl⟩ := d
  exact fun z p l e s m args below meth c C H locs ls hS hP hl => lv_istore C.1 C.2.1 d hl hn rfl (fun ls hl => k z p l e s m args below meth c C H locs ls hS hP (lvl_set1 hp hl))
theorem wp_lstore_n {n : Fin 4} {x : Int64} (d : Dc mi.2.1 pc (.lstore_n n) 1 q) (hn : (n : Nat) + 1 < mi.2.2.1) (hp : pvk (n : Nat) Ls = true) (k : Wp mi R sc Fn cs ss g I J q ((Ls.set (n : Nat) (.long x)).set ((n : Nat) + 1) dum) st) : Wp mi R sc Fn cs ss g I J pc Ls ((.long x) :: st) := by
  obtain ⟨d, rfl⟩ := d
  exact fun z p l e s m args below meth c C H locs ls hS hP hl => lv_lstore_n C.1 C.2.1 d rfl hl hn rfl (fun ls hl => k z p l e s m args below meth c C H locs ls hS hP (lvl_set2 hp hl))
theorem wp_astore_n {n : Fin 4} {x : Nat} (d : Dc mi.2.1 pc (.astore_n n) 1 q) (hn : (n : Nat) < mi.2.2.1) (hp : pvk (n : Nat) Ls = true) (k : Wp mi R sc Fn cs ss g I J q (Ls.set (n : Nat) (.ref x)) st) : Wp mi R sc Fn cs ss g I J pc Ls ((.ref x) :: st) := by
  obtain ⟨d, rfl⟩ := d
  exact fun z p l e s m args below meth c C H locs ls hS hP hl => lv_astore_n C.1 C.2.1 d rfl hl hn rfl (fun ls hl => k z p l e s m args below meth c C H locs ls hS hP (lvl_set1 hp hl))
theorem wp_astore {n : Nat} {x : Nat} (d : Dc mi.2.1 pc (.astore n) 2 q) (hn : n < mi.2.2.1) (hp : pvk n Ls = true) (k : Wp mi R sc Fn cs ss g I J q (Ls.set n (.ref x)) st) : Wp mi R sc Fn cs ss g I J pc Ls ((.ref x) :: st) := by
  obtain ⟨d, rfl⟩ := d
  exact fun z p l e s m args below meth c C H locs ls hS hP hl => lv_astore C.1 C.2.1 d hl hn rfl (fun ls hl => k z p l e s m args below meth c C H locs ls hS hP (lvl_set1 hp hl))
theorem wp_iinc {n : Nat} {y : Int} {x : Int32} (v : Int32) (d : Dc mi.2.1 pc (.iinc n y) 3 q) (h : Ls[n]? = some (.int x)) (hv : x + Int32.ofInt y = v) (hn : n < mi.2.2.1) (hp : pvk n Ls = true) (k : Wp mi R sc Fn cs ss g I J q (Ls.set n (.int v)) st) : Wp mi R sc Fn cs ss g I J pc Ls st := by
  obtain ⟨d, rfl⟩ := d
  refine fun z p l e s m args below meth c C H locs ls hS hP hl => ?_
  obtain ⟨kk, hk⟩ := List.getElem?_of_mem (lvl_mem.mpr ⟨_, h, by simp, rfl⟩ : (n, zv z (.int x)) ∈ lvl z Ls)
  exact lv_iinc C.1 C.2.1 d hl hk hv hn rfl (fun ls hl => k z p l e s m args below meth c C H locs ls hS hP (lvl_set1 hp hl))
theorem wp_iadd {x y : Int32} (d : Dc mi.2.1 pc (.iadd) 1 q) (k : Wp mi R sc Fn cs ss g I J q Ls (.int (x + y) :: st)) : Wp mi R sc Fn cs ss g I J pc Ls (.int y :: .int x :: st) := by
  obtain ⟨d, rfl⟩ := d
  exact fun z p l e s m args below meth c C H locs ls hS hP hl => lv_iadd C.1 C.2.1 d (k z p l e s m args below meth c C H locs ls hS hP hl)
theorem wp_isub {x y : Int32} (d : Dc mi.2.1 pc (.isub) 1 q) (k : Wp mi R sc Fn cs ss g I J q Ls (.int (x - y) :: st)) : Wp mi R sc Fn cs ss g I J pc Ls (.int y :: .int x :: st) := by
  obtain ⟨d, rfl⟩ := d
  exact fun z p l e s m args below meth c C H locs ls hS hP hl => lv_isub C.1 C.2.1 d (k z p l e s m args below meth c C H locs ls hS hP hl)
theorem wp_imul {x y : Int32} (d : Dc mi.2.1 pc (.imul) 1 q) (k : Wp mi R sc Fn cs ss g I J q Ls (.int (x * y) :: st)) : Wp mi R sc Fn cs ss g I J pc Ls (.int y :: .int x :: st) := by
  obtain ⟨d, rfl⟩ := d
  exact fun z p l e s m args below meth c C H locs ls hS hP hl => lv_imul C.1 C.2.1 d (k z p l e s m args below meth c C H locs ls hS hP hl)
theorem wp_iand {x y : Int32} (d : Dc mi.2.1 pc (.iand) 1 q) (k : Wp mi R sc Fn cs ss g I J q Ls (.int (x &&& y) :: st)) : Wp mi R sc Fn cs ss g I J pc Ls (.int y :: .int x :: st) := by
  obtain ⟨d, rfl⟩ := d
  exact fun z p l e s m args below meth c C H locs ls hS hP hl => lv_iand C.1 C.2.1 d (k z p l e s m args below meth c C H locs ls hS hP hl)
theorem wp_ior {x y : Int32} (d : Dc mi.2.1 pc (.ior) 1 q) (k : Wp mi R sc Fn cs ss g I J q Ls (.int (x ||| y) :: st)) : Wp mi R sc Fn cs ss g I J pc Ls (.int y :: .int x :: st) := by
  obtain ⟨d, rfl⟩ := d
  exact fun z p l e s m args below meth c C H locs ls hS hP hl => lv_ior C.1 C.2.1 d (k z p l e s m args below meth c C H locs ls hS hP hl)
theorem wp_ixor {x y : Int32} (d : Dc mi.2.1 pc (.ixor) 1 q) (k : Wp mi R sc Fn cs ss g I J q Ls (.int (x ^^^ y) :: st)) : Wp mi R sc Fn cs ss g I J pc Ls (.int y :: .int x :: st) := by
  obtain ⟨d, rfl⟩ := d
  exact fun z p l e s m args below meth c C H locs ls hS hP hl => lv_ixor C.1 C.2.1 d (k z p l e s m args below meth c C H locs ls hS hP hl)
theorem wp_idiv {x y : Int32} (d : Dc mi.2.1 pc (.idiv) 1 q) (h : ¬ y = 0) (k : Wp mi R sc Fn cs ss g I J q Ls (.int (x / y) :: st)) : Wp mi R sc Fn cs ss g I J pc Ls (.int y :: .int x :: st) := by
  obtain ⟨d, rfl⟩ := d
  exact fun z p l e s m args below meth c C H locs ls hS hP hl => lv_idiv C.1 C.2.1 d h (k z p l e s m args below meth c C H locs ls hS hP hl)
theorem wp_irem {x y : Int32} (d : Dc mi.2.1 pc (.irem) 1 q) (h : ¬ y = 0) (k : Wp mi R sc Fn cs ss g I J q Ls (.int (x - x / y * y) :: st)) : Wp mi R sc Fn cs ss g I J pc Ls (.int y :: .int x :: st) := by
  obtain ⟨d, rfl⟩ := d
  exact fun z p l e s m args below meth c C H locs ls hS hP hl => lv_irem C.1 C.2.1 d h (k z p l e s m args below meth c C H locs ls hS hP hl)
theorem wp_ladd {x y : Int64} (d : Dc mi.2.1 pc (.ladd) 1 q) (k : Wp mi R sc Fn cs ss g I J q Ls (.long (x + y) :: st)) : Wp mi R sc Fn cs ss g I J pc Ls (.long y :: .long x :: st) := by
  obtain ⟨d, rfl⟩ := d
  exact fun z p l e s m args below meth c C H locs ls hS hP hl => lv_ladd C.1 C.2.1 d (k z p l e s m args below meth c C H locs ls hS hP hl)
theorem wp_lmul {x y : Int64} (d : Dc mi.2.1 pc (.lmul) 1 q) (k : Wp mi R sc Fn cs ss g I J q Ls (.long (x * y) :: st)) : Wp mi R sc Fn cs ss g I J pc Ls (.long y :: .long x :: st) := by
  obtain ⟨d, rfl⟩ := d
  exact fun z p l e s m args below meth c C H locs ls hS hP hl => lv_lmul C.1 C.2.1 d (k z p l e s m args below meth c C H locs ls hS hP hl)
theorem wp_land {x y : Int64} (d : Dc mi.2.1 pc (.land) 1 q) (k : Wp mi R sc Fn cs ss g I J q Ls (.long (x &&& y) :: st)) : Wp mi R sc Fn cs ss g I J pc Ls (.long y :: .long x :: st) := by
  obtain ⟨d, rfl⟩ := d
  exact fun z p l e s m args below meth c C H locs ls hS hP hl => lv_land C.1 C.2.1 d (k z p l e s m args below meth c C H locs ls hS hP hl)
theorem wp_lor {x y : Int64} (d : Dc mi.2.1 pc (.lor) 1 q) (k : Wp mi R sc Fn cs ss g I J q Ls (.long (x ||| y) :: st)) : Wp mi R sc Fn cs ss g I J pc Ls (.long y :: .long x :: st) := by
  obtain ⟨d, rfl⟩ := d
  exact fun z p l e s m args below meth c C H locs ls hS hP hl => lv_lor C.1 C.2.1 d (k z p l e s m args below meth c C H locs ls hS hP hl)
theorem wp_ldiv {x y : Int64} (d : Dc mi.2.1 pc (.ldiv) 1 q) (h : ¬ y = 0) (k : Wp mi R sc Fn cs ss g I J q Ls (.long (x / y) :: st)) : Wp mi R sc Fn cs ss g I J pc Ls (.long y :: .long x :: st) := by
  obtain ⟨d, rfl⟩ := d
  exact fun z p l e s m args below meth c C H locs ls hS hP hl => lv_ldiv C.1 C.2.1 d h (k z p l e s m args below meth c C H locs ls hS hP hl)
theorem wp_lrem {x y : Int64} (d : Dc mi.2.1 pc (.lrem) 1 q) (h : ¬ y = 0) (k : Wp mi R sc Fn cs ss g I J q Ls (.long (x - x / y * y) :: st)) : Wp mi R sc Fn cs ss g I J pc Ls (.long y :: .long x :: st) := by
  obtain ⟨d, rfl⟩ := d
  exact fun z p l e s m args below meth c C H locs ls hS hP hl => lv_lrem C.1 C.2.1 d h (k z p l e s m args below meth c C H locs ls hS hP hl)
theorem wp_ishl {x y : Int32} (d : Dc mi.2.1 pc (.ishl) 1 q) (k : Wp mi R sc Fn cs ss g I J q Ls (.int (x <<< (y &&& 31)) :: st)) : Wp mi R sc Fn cs ss g I J pc Ls (.int y :: .int x :: st) := by
  obtain ⟨d, rfl⟩ := d
  exact fun z p l e s m args below meth c C H locs ls hS hP hl => lv_ishl C.1 C.2.1 d (k z p l e s m args below meth c C H locs ls hS hP hl)
theorem wp_ishr {x y : Int32} (d : Dc mi.2.1 pc (.ishr) 1 q) (k : Wp mi R sc Fn cs ss g I J q Ls (.int (x >>> (y &&& 31)) :: st)) : Wp mi R sc Fn cs ss g I J pc Ls (.int y :: .int x :: st) := by
  obtain ⟨d, rfl⟩ := d
  exact fun z p l e s m args below meth c C H locs ls hS hP hl => lv_ishr C.1 C.2.1 d (k z p l e s m args below meth c C H locs ls hS hP hl)
theorem wp_iushr {x y : Int32} (d : Dc mi.2.1 pc (.iushr) 1 q) (k : Wp mi R sc Fn cs ss g I J q Ls (.int ((x.toUInt32 >>> (y.toUInt32 &&& Int32.toUInt32 31)).toInt32) :: st)) : Wp mi R sc Fn cs ss g I J pc Ls (.int y :: .int x :: st) := by
  obtain ⟨d, rfl⟩ := d
  exact fun z p l e s m args below meth c C H locs ls hS hP hl => lv_iushr C.1 C.2.1 d rfl (k z p l e s m args below meth c C H locs ls hS hP hl)
theorem wp_lshl {x : Int64} {y : Int32} (d : Dc mi.2.1 pc (.lshl) 1 q) (k : Wp mi R sc Fn cs ss g I J q Ls (.long (x <<< (y.toInt64 &&& 63)) :: st)) : Wp mi R sc Fn cs ss g I J pc Ls (.int y :: .long x :: st) := by
  obtain ⟨d, rfl⟩ := d
  exact fun z p l e s m args below meth c C H locs ls hS hP hl => lv_lshl C.1 C.2.1 d rfl (k z p l e s m args below meth c C H locs ls hS hP hl)
theorem wp_i2l {x : Int32} (d : Dc mi.2.1 pc (.i2l) 1 q) (k : Wp mi R sc Fn cs ss g I J q Ls (.long x.toInt64 :: st)) : Wp mi R sc Fn cs ss g I J pc Ls (.int x :: st) := by
  obtain ⟨d, rfl⟩ := d
  exact fun z p l e s m args below meth c C H locs ls hS hP hl => lv_i2l C.1 C.2.1 d rfl (k z p l e s m args below meth c C H locs ls hS hP hl)
theorem wp_l2i {x : Int64} (d : Dc mi.2.1 pc (.l2i) 1 q) (k : Wp mi R sc Fn cs ss g I J q Ls (.int x.toInt32 :: st)) : Wp mi R sc Fn cs ss g I J pc Ls (.long x :: st) := by
  obtain ⟨d, rfl⟩ := d
  exact fun z p l e s m args below meth c C H locs ls hS hP hl => lv_l2i C.1 C.2.1 d rfl (k z p l e s m args below meth c C H locs ls hS hP hl)
theorem wp_i2b {x : Int32} (d : Dc mi.2.1 pc (.i2b) 1 q) (k : Wp mi R sc Fn cs ss g I J q Ls (.int x.toInt8.toInt32 :: st)) : Wp mi R sc Fn cs ss g I J pc Ls (.int x :: st) := by
  obtain ⟨d, rfl⟩ := d
  exact fun z p l e s m args below meth c C H locs ls hS hP hl => lv_i2b C.1 C.2.1 d rfl (k z p l e s m args below meth c C H locs ls hS hP hl)
theorem wp_lcmp {x y : Int64} (d : Dc mi.2.1 pc (.lcmp) 1 q) (k : Wp mi R sc Fn cs ss g I J q Ls (.int (lg_cmp x y) :: st)) : Wp mi R sc Fn cs ss g I J pc Ls (.long y :: .long x :: st) := by
  obtain ⟨d, rfl⟩ := d
  exact fun z p l e s m args below meth c C H locs ls hS hP hl => W.lcmp C.1 C.2.1 d (k z p l e s m args below meth c C H locs ls hS hP hl)
theorem wp_dup {v : Value} (d : Dc mi.2.1 pc (.dup) 1 q) (h : v.category = 1) (k : Wp mi R sc Fn cs ss g I J q Ls (v :: v :: st)) : Wp mi R sc Fn cs ss g I J pc Ls (v :: st) := by
  obtain ⟨d, rfl⟩ := d
  exact fun z p l e s m args below meth c C H locs ls hS hP hl => lv_dup C.1 C.2.1 d (by rw [zv_cat]; exact h) (k z p l e s m args below meth c C H locs ls hS hP hl)
theorem wp_dup2 {v u : Value} (d : Dc mi.2.1 pc (.dup2) 1 q) (h : v.category = 1) (h2 : u.category = 1) (k : Wp mi R sc Fn cs ss g I J q Ls (v :: u :: v :: u :: st)) : Wp mi R sc Fn cs ss g I J pc Ls (v :: u :: st) := by
  obtain ⟨d, rfl⟩ := d
  exact fun z p l e s m args below meth c C H locs ls hS hP hl => lv_dup2_11 C.1 C.2.1 d (by rw [zv_cat]; exact h) (by rw [zv_cat]; exact h2) (k z p l e s m args below meth c C H locs ls hS hP hl)
theorem wp_pop {v : Value} (d : Dc mi.2.1 pc (.pop) 1 q) (h : v.category = 1) (k : Wp mi R sc Fn cs ss g I J q Ls st) : Wp mi R sc Fn cs ss g I J pc Ls (v :: st) := by
  obtain ⟨d, rfl⟩ := d
  exact fun z p l e s m args below meth c C H locs ls hS hP hl => lv_pop C.1 C.2.1 d (by rw [zv_cat]; exact h) (k z p l e s m args below meth c C H locs ls hS hP hl)
theorem wp_if_eq {x : Int32} {off : Int} {tgt : Nat} (d : Db mi.2.1 pc (.ifCond .eq off) off q tgt) (kt : x = 0 → Wp mi R sc Fn cs ss g I J tgt Ls st) (kf : ¬ x = 0 → Wp mi R sc Fn cs ss g I J q Ls st) : Wp mi R sc Fn cs ss g I J pc Ls (.int x :: st) := by
  obtain ⟨d, rfl, ht⟩ := d
  exact fun z p l e s m args below meth c C H locs ls hS hP hl => lv_if_eq C.1 C.2.1 d ht (fun h => kt h z p l e s m args below meth c C H locs ls hS hP hl) (fun h => kf h z p l e s m args below meth c C H locs ls hS hP hl)
theorem wp_icmp_eq {x y : Int32} {off : Int} {tgt : Nat} (d : Db mi.2.1 pc (.if_icmp .eq off) off q tgt) (kt : x = y → Wp mi R sc Fn cs ss g I J tgt Ls st) (kf : ¬ x = y → Wp mi R sc Fn cs ss g I J q Ls st) : Wp mi R sc Fn cs ss g I J pc Ls (.int y :: .int x :: st) := by
  obtain ⟨d, rfl, ht⟩ := d
  exact fun z p l e s m args below meth c C H locs ls hS hP hl => lv_icmp_eq C.1 C.2.1 d ht (fun h => kt h z p l e s m args below meth c C H locs ls hS hP hl) (fun h => kf h z p l e s m args below meth c C H locs ls hS hP hl)
theorem wp_if_ne {x : Int32} {off : Int} {tgt : Nat} (d : Db mi.2.1 pc (.ifCond .ne off) off q tgt) (kt : ¬ x = 0 → Wp mi R sc Fn cs ss g I J tgt Ls st) (kf : x = 0 → Wp mi R sc Fn cs ss g I J q Ls st) : Wp mi R sc Fn cs ss g I J pc Ls (.int x :: st) := by
  obtain ⟨d, rfl, ht⟩ := d
  exact fun z p l e s m args below meth c C H locs ls hS hP hl => lv_if_ne C.1 C.2.1 d ht (fun h => kt h z p l e s m args below meth c C H locs ls hS hP hl) (fun h => kf h z p l e s m args below meth c C H locs ls hS hP hl)
theorem wp_icmp_ne {x y : Int32} {off : Int} {tgt : Nat} (d : Db mi.2.1 pc (.if_icmp .ne off) off q tgt) (kt : ¬ x = y → Wp mi R sc Fn cs ss g I J tgt Ls st) (kf : x = y → Wp mi R sc Fn cs ss g I J q Ls st) : Wp mi R sc Fn cs ss g I J pc Ls (.int y :: .int x :: st) := by
  obtain ⟨d, rfl, ht⟩ := d
  exact fun z p l e s m args below meth c C H locs ls hS hP hl => lv_icmp_ne C.1 C.2.1 d ht (fun h => kt h z p l e s m args below meth c C H locs ls hS hP hl) (fun h => kf h z p l e s m args below meth c C H locs ls hS hP hl)
theorem wp_if_lt {x : Int32} {off : Int} {tgt : Nat} (d : Db mi.2.1 pc (.ifCond .lt off) off q tgt) (kt : x < 0 → Wp mi R sc Fn cs ss g I J tgt Ls st) (kf : ¬ x < 0 → Wp mi R sc Fn cs ss g I J q Ls st) : Wp mi R sc Fn cs ss g I J pc Ls (.int x :: st) := by
  obtain ⟨d, rfl, ht⟩ := d
  exact fun z p l e s m args below meth c C H locs ls hS hP hl => lv_if_lt C.1 C.2.1 d ht (fun h => kt h z p l e s m args below meth c C H locs ls hS hP hl) (fun h => kf h z p l e s m args below meth c C H locs ls hS hP hl)
theorem wp_icmp_lt {x y : Int32} {off : Int} {tgt : Nat} (d : Db mi.2.1 pc (.if_icmp .lt off) off q tgt) (kt : x < y → Wp mi R sc Fn cs ss g I J tgt Ls st) (kf : ¬ x < y → Wp mi R sc Fn cs ss g I J q Ls st) : Wp mi R sc Fn cs ss g I J pc Ls (.int y :: .int x :: st) := by
  obtain ⟨d, rfl, ht⟩ := d
  exact fun z p l e s m args below meth c C H locs ls hS hP hl => lv_icmp_lt C.1 C.2.1 d ht (fun h => kt h z p l e s m args below meth c C H locs ls hS hP hl) (fun h => kf h z p l e s m args below meth c C H locs ls hS hP hl)
theorem wp_if_ge {x : Int32} {off : Int} {tgt : Nat} (d : Db mi.2.1 pc (.ifCond .ge off) off q tgt) (kt : 0 ≤ x → Wp mi R sc Fn cs ss g I J tgt Ls st) (kf : ¬ 0 ≤ x → Wp mi R sc Fn cs ss g I J q Ls st) : Wp mi R sc Fn cs ss g I J pc Ls (.int x :: st) := by
  obtain ⟨d, rfl, ht⟩ := d
  exact fun z p l e s m args below meth c C H locs ls hS hP hl => lv_if_ge C.1 C.2.1 d ht (fun h => kt h z p l e s m args below meth c C H locs ls hS hP hl) (fun h => kf h z p l e s m args below meth c C H locs ls hS hP hl)
theorem wp_icmp_ge {x y : Int32} {off : Int} {tgt : Nat} (d : Db mi.2.1 pc (.if_icmp .ge off) off q tgt) (kt : y ≤ x → Wp mi R sc Fn cs ss g I J tgt Ls st) (kf : ¬ y ≤ x → Wp mi R sc Fn cs ss g I J q Ls st) : Wp mi R sc Fn cs ss g I J pc Ls (.int y :: .int x :: st) := by
  obtain ⟨d, rfl, ht⟩ := d
  exact fun z p l e s m args below meth c C H locs ls hS hP hl => lv_icmp_ge C.1 C.2.1 d ht (fun h => kt h z p l e s m args below meth c C H locs ls hS hP hl) (fun h => kf h z p l e s m args below meth c C H locs ls hS hP hl)
theorem wp_if_gt {x : Int32} {off : Int} {tgt : Nat} (d : Db mi.2.1 pc (.ifCond .gt off) off q tgt) (kt : 0 < x → Wp mi R sc Fn cs ss g I J tgt Ls st) (kf : ¬ 0 < x → Wp mi R sc Fn cs ss g I J q Ls st) : Wp mi R sc Fn cs ss g I J pc Ls (.int x :: st) := by
  obtain ⟨d, rfl, ht⟩ := d
  exact fun z p l e s m args below meth c C H locs ls hS hP hl => lv_if_gt C.1 C.2.1 d ht (fun h => kt h z p l e s m args below meth c C H locs ls hS hP hl) (fun h => kf h z p l e s m args below meth c C H locs ls hS hP hl)
theorem wp_icmp_gt {x y : Int32} {off : Int} {tgt : Nat} (d : Db mi.2.1 pc (.if_icmp .gt off) off q tgt) (kt : y < x → Wp mi R sc Fn cs ss g I J tgt Ls st) (kf : ¬ y < x → Wp mi R sc Fn cs ss g I J q Ls st) : Wp mi R sc Fn cs ss g I J pc Ls (.int y :: .int x :: st) := by
  obtain ⟨d, rfl, ht⟩ := d
  exact fun z p l e s m args below meth c C H locs ls hS hP hl => lv_icmp_gt C.1 C.2.1 d ht (fun h => kt h z p l e s m args below meth c C H locs ls hS hP hl) (fun h => kf h z p l e s m args below meth c C H locs ls hS hP hl)
theorem wp_if_le {x : Int32} {off : Int} {tgt : Nat} (d : Db mi.2.1 pc (.ifCond .le off) off q tgt) (kt : x ≤ 0 → Wp mi R sc Fn cs ss g I J tgt Ls st) (kf : ¬ x ≤ 0 → Wp mi R sc Fn cs ss g I J q Ls st) : Wp mi R sc Fn cs ss g I J pc Ls (.int x :: st) := by
  obtain ⟨d, rfl, ht⟩ := d
  exact fun z p l e s m args below meth c C H locs ls hS hP hl => lv_if_le C.1 C.2.1 d ht (fun h => kt h z p l e s m args below meth c C H locs ls hS hP hl) (fun h => kf h z p l e s m args below meth c C H locs ls hS hP hl)
theorem wp_icmp_le {x y : Int32} {off : Int} {tgt : Nat} (d : Db mi.2.1 pc (.if_icmp .le off) off q tgt) (kt : x ≤ y → Wp mi R sc Fn cs ss g I J tgt Ls st) (kf : ¬ x ≤ y → Wp mi R sc Fn cs ss g I J q Ls st) : Wp mi R sc Fn cs ss g I J pc Ls (.int y :: .int x :: st) := by
  obtain ⟨d, rfl, ht⟩ := d
  exact fun z p l e s m args below meth c C H locs ls hS hP hl => lv_icmp_le C.1 C.2.1 d ht (fun h => kt h z p l e s m args below meth c C H locs ls hS hP hl) (fun h => kf h z p l e s m args below meth c C H locs ls hS hP hl)
theorem wp_goto {off : Int} {tgt : Nat} (d : Db mi.2.1 pc (.goto off) off q tgt) (k : Wp mi R sc Fn cs ss g I J tgt Ls st) : Wp mi R sc Fn cs ss g I J pc Ls st := by
  obtain ⟨d, rfl, ht⟩ := d
  exact fun z p l e s m args below meth c C H locs ls hS hP hl => lv_goto C.1 C.2.1 d ht (k z p l e s m args below meth c C H locs ls hS hP hl)
theorem wp_tswIn {dflt lo hi : Int} {offs : Array Int} {len : Nat} {x : Int32} {off : Int} {tgt : Nat} (d : decode mi.2.1 pc = .ok (.tableswitch dflt lo hi offs, len)) (v : Int32) (hv : x = v) (h1 : ¬ v.toInt < lo) (h2 : ¬ hi < v.toInt) (ho : offs[(v.toInt - lo).toNat]? = some off) (ht : (pc : Int) + off = (tgt : Int)) (k : Wp mi R sc Fn cs ss g I J tgt Ls st) : Wp mi R sc Fn cs ss g I J pc Ls (.int x :: st) := by
  subst hv
  exact fun z p l e s m args below meth c C H locs ls hS hP hl => lv_tableIn C.1 C.2.1 d h1 h2 ho ht (k z p l e s m args below meth c C H locs ls hS hP hl)
theorem wp_tswOut {dflt lo hi : Int} {offs : Array Int} {len : Nat} {x : Int32} {tgt : Nat} (d : decode mi.2.1 pc = .ok (.tableswitch dflt lo hi offs, len)) (h : x.toInt < lo ∨ hi < x.toInt) (ht : (pc : Int) + dflt = (tgt : Int)) (k : Wp mi R sc Fn cs ss g I J tgt Ls st) : Wp mi R sc Fn cs ss g I J pc Ls (.int x :: st) :=
  fun z p l e s m args below meth c C H locs ls hS hP hl => lv_tableOut C.1 C.2.1 d h ht (k z p l e s m args below meth c C H locs ls hS hP hl)
theorem wp_lsw {dflt : Int} {ps : Array (Int × Int)} {len : Nat} {x : Int32} {off : Int} {tgt : Nat} (d : decode mi.2.1 pc = .ok (.lookupswitch dflt ps, len)) (hp : (ps.toList.zip (ps.toList.drop 1)).all (fun (a, next) => a.1 < next.1) = true) (ho : Op.lookupswitch.offset ps.toList dflt x.toInt = off) (ht : (pc : Int) + off = (tgt : Int)) (k : Wp mi R sc Fn cs ss g I J tgt Ls st) : Wp mi R sc Fn cs ss g I J pc Ls (.int x :: st) :=
  fun z p l e s m args below meth c C H locs ls hS hP hl => lv_lookup C.1 C.2.1 d hp ho ht (k z p l e s m args below meth c C H locs ls hS hP hl)
theorem wp_ldc {n : Nat} {v : Int32} (d : Dc mi.2.1 pc (.ldc n) 2 q) (hc : Cond.constant mi.1.cls n v ∈ gtbl) (k : Wp mi R sc Fn cs ss g I J q Ls (.int v :: st)) : Wp mi R sc Fn cs ss g I J pc Ls st := by
  obtain ⟨d, rfl⟩ := d
  exact fun z p l e s m args below meth c C H locs ls hS hP hl => lv_ldc C.1 C.2.1 C.2.2.2.2.2.1 (C.2.2.2.2.2.2.1 _ hc) d (k z p l e s m args below meth c C H locs ls hS hP hl)
theorem wp_ldcw {n : Nat} {v : Int32} (d : Dc mi.2.1 pc (.ldc_w n) 3 q) (hc : Cond.constant mi.1.cls n v ∈ gtbl) (k : Wp mi R sc Fn cs ss g I J q Ls (.int v :: st)) : Wp mi R sc Fn cs ss g I J pc Ls st := by
  obtain ⟨d, rfl⟩ := d
  exact fun z p l e s m args below meth c C H locs ls hS hP hl => lv_ldcw C.1 C.2.1 C.2.2.2.2.2.1 (C.2.2.2.2.2.2.1 _ hc) d (k z p l e s m args below meth c C H locs ls hS hP hl)
theorem wp_ldc2 {n : Nat} {v : Int64} (d : Dc mi.2.1 pc (.ldc2_w n) 3 q) (hc : Cond.constantLong mi.1.cls n v ∈ gtbl) (k : Wp mi R sc Fn cs ss g I J q Ls (.long v :: st)) : Wp mi R sc Fn cs ss g I J pc Ls st := by
  obtain ⟨d, rfl⟩ := d
  exact fun z p l e s m args below meth c C H locs ls hS hP hl => lv_ldc2 C.1 C.2.1 C.2.2.2.2.2.1 (C.2.2.2.2.2.2.1 _ hc) d (k z p l e s m args below meth c C H locs ls hS hP hl)
end RULES
theorem Stt.at {z : Zc} {g : Geo} {I : Mem} {J : Mel} {U : State} {H : Heap} (h : Stt z g I J U H) {a c n : Nat} (hs : g.2.1 a = (c, n)) (hc : c < 999) : (zws z g I J)[a - 2]? = some (zad z a, cel z g I J a) ∧ 2 ≤ a := by
  have h1 := h.2.1 a (by rw [hs]; exact Nat.ne_of_lt hc)
  exact ⟨zws_get z g I J h1.1 h1.2, h1.1⟩
theorem Stt.mem {z : Zc} {g : Geo} {I I' : Mem} {J J' : Mel} {U : State} {H H' : Heap} (h : Stt z g I J U H) (hn : ¬ g.1 < 171 ∨ H'.size = H.size) (hP : va_P z.2.1 cls12 (zws z g I' J') H') : Stt z g I' J' U H' := by
  refine ⟨fun hh => ?_, h.2.1, hP, h.2.2.2⟩
  rcases hn with h1 | h1
  · exact absurd hh h1
  · rw [h1]; exact h.1 hh
section RULES2
variable {mi : MI} {R : Room} {sc : Option (Nat × (Nat → Int32))} {Fn : FinT} {cs ss : Nat} {g : Geo} {I : Mem} {J : Mel} {pc q a idx ci fk : Nat} {Ls st : List Value}
theorem wp_getI {n : Nat} (d : Dc mi.2.1 pc (.getfield idx) 3 q) (f : FlI mi.1.cls idx ci fk) (hs : g.2.1 a = (ci, n)) (k : Wp mi R sc Fn cs ss g I J q Ls (.int (I a fk) :: st)) : Wp mi R sc Fn cs ss g I J pc Ls (.ref a :: st) := by
  obtain ⟨d, rfl⟩ := d
  obtain ⟨⟨C', T, N, ty, ⟨k1, k2, k3, k4, k5, k6, k7⟩, f1, f2, f3, f4⟩, f5⟩ := f
  intro z p l e s m args below meth c C H locs ls hS hP hl
  obtain ⟨g1, g2⟩ := hP.at hs (by omega)
  rw [cel_o hs k7] at g1
  have hv : (fvs z g I J a ci)[fk]? = some (zv z (.int (I a fk))) := by
    rw [fvs_get _ _ _ _ _ _ (by omega)]; unfold fva; rw [f5]; rfl
  exact va_get C.1 C.2.1 C.2.2.2.2.2.2.1 k3 C.2.2.2.2.2.1 hP.2.2.2 hP.2.2.1 (a - 2) g1 k1 fk f1 (C.2.2.2.2.2.2.1 _ f2) (fun _ h => h) hv d (k z p l e s m args below meth c C H locs ls hS hP hl)
theorem wp_getZ {n : Nat} (d : Dc mi.2.1 pc (.getfield idx) 3 q) (f : FlZ mi.1.cls idx ci fk) (hs : g.2.1 a = (ci, n)) (k : Wp mi R sc Fn cs ss g I J q Ls (.int (I a fk) :: st)) : Wp mi R sc Fn cs ss g I J pc Ls (.ref a :: st) := by
  obtain ⟨d, rfl⟩ := d
  obtain ⟨⟨C', T, N, ty, ⟨k1, k2, k3, k4, k5, k6, k7⟩, f1, f2, f3, f4⟩, f5⟩ := f
  intro z p l e s m args below meth c C H locs ls hS hP hl
  obtain ⟨g1, g2⟩ := hP.at hs (by omega)
  rw [cel_o hs k7] at g1
  have hv : (fvs z g I J a ci)[fk]? = some (zv z (.int (I a fk))) := by
    rw [fvs_get _ _ _ _ _ _ (by omega)]; unfold fva; rw [f5]; rfl
  exact va_get C.1 C.2.1 C.2.2.2.2.2.2.1 k3 C.2.2.2.2.2.1 hP.2.2.2 hP.2.2.1 (a - 2) g1 k1 fk f1 (C.2.2.2.2.2.2.1 _ f2) (fun _ h => h) hv d (k z p l e s m args below meth c C H locs ls hS hP hl)
theorem wp_getL {n : Nat} (d : Dc mi.2.1 pc (.getfield idx) 3 q) (f : FlL mi.1.cls idx ci fk) (hs : g.2.1 a = (ci, n)) (k : Wp mi R sc Fn cs ss g I J q Ls (.long (J a fk) :: st)) : Wp mi R sc Fn cs ss g I J pc Ls (.ref a :: st) := by
  obtain ⟨d, rfl⟩ := d
  obtain ⟨⟨C', T, N, ty, ⟨k1, k2, k3, k4, k5, k6, k7⟩, f1, f2, f3, f4⟩, f5⟩ := f
  intro z p l e s m args below meth c C H locs ls hS hP hl
  obtain ⟨g1, g2⟩ := hP.at hs (by omega)
  rw [cel_o hs k7] at g1
  have hv : (fvs z g I J a ci)[fk]? = some (zv z (.long (J a fk))) := by
    rw [fvs_get _ _ _ _ _ _ (by omega)]; unfold fva; rw [f5]; rfl
  exact va_get C.1 C.2.1 C.2.2.2.2.2.2.1 k3 C.2.2.2.2.2.1 hP.2.2.2 hP.2.2.1 (a - 2) g1 k1 fk f1 (C.2.2.2.2.2.2.1 _ f2) (fun _ h => h) hv d (k z p l e s m args below meth c C H locs ls hS hP hl)
theorem wp_getA {n : Nat} {b : Nat} (hr : g.2.2 a fk = some b) (d : Dc mi.2.1 pc (.getfield idx) 3 q) (f : FlA mi.1.cls idx ci fk) (hs : g.2.1 a = (ci, n)) (k : Wp mi R sc Fn cs ss g I J q Ls (.ref b :: st)) : Wp mi R sc Fn cs ss g I J pc Ls (.ref a :: st) := by
  obtain ⟨d, rfl⟩ := d
  obtain ⟨⟨C', T, N, ty, ⟨k1, k2, k3, k4, k5, k6, k7⟩, f1, f2, f3, f4⟩, f5⟩ := f
  intro z p l e s m args below meth c C H locs ls hS hP hl
  obtain ⟨g1, g2⟩ := hP.at hs (by omega)
  rw [cel_o hs k7] at g1
  have hv : (fvs z g I J a ci)[fk]? = some (zv z (.ref b)) := by
    rw [fvs_get _ _ _ _ _ _ (by omega)]; unfold fva; rw [f5]; rw [hr]; rfl
  exact va_get C.1 C.2.1 C.2.2.2.2.2.2.1 k3 C.2.2.2.2.2.1 hP.2.2.2 hP.2.2.1 (a - 2) g1 k1 fk f1 (C.2.2.2.2.2.2.1 _ f2) (fun _ h => h) hv d (k z p l e s m args below meth c C H locs ls hS hP hl)
theorem wp_putI {n : Nat} {x : Int32} (d : Dc mi.2.1 pc (.putfield idx) 3 q) (f : FlI mi.1.cls idx ci fk) (hs : g.2.1 a = (ci, n)) (hn : ¬ g.1 < 171) (k : Wp mi R sc Fn cs ss g (uI I a fk x) J q Ls st) : Wp mi R sc Fn cs ss g I J pc Ls (.int x :: .ref a :: st) := by
  obtain ⟨d, rfl⟩ := d
  obtain ⟨⟨C', T, N, ty, ⟨k1, k2, k3, k4, k5, k6, k7⟩, f1, f2, f3, f4⟩, f5⟩ := f
  intro z p l e s m args below meth c C H locs ls hS hP hl
  obtain ⟨g1, g2⟩ := hP.at hs (by omega)
  rw [cel_o hs k7] at g1
  have hk6 := (k6 fk f1).1
  rw [f5] at hk6
  have hty : narrow (ty fk) (.int x) = .int x ∧ fits (ty fk) (.int x) = true := by
    cases h : ty fk <;> rw [h] at hk6 <;> simp [fkT] at hk6 <;> exact ⟨rfl, rfl⟩
  refine va_put C.1 C.2.1 C.2.2.2.2.2.2.1 k3 ty k4 k5 C.2.2.2.2.2.1 hP.2.2.2 hP.2.2.1 (zws_D z g I J) hS (a - 2) g1 k1 fk f1 (C.2.2.2.2.2.2.1 _ f2) (fun _ h => h) f3 (v := .int x) (k4 fk f1) hty.1 hty.2 (by simp [fvs]; omega) d (fun H1 locs1 hP1 _ hS1 => ?_)
  rw [fvs_set z (g' := g) (I' := (uI I a fk x)) (J' := J) (by omega) (by unfold fva; rw [f5]; simp [uI]) (fun j hj => by unfold fva; simp [uI, hj]), zws_set z (g' := g) (I' := (uI I a fk x)) (J' := J) g2 rfl (cel_o hs k7) (fun b hb => cel_congr rfl rfl (uI_ne hb) rfl)] at hP1
  exact k z p l e s m args below meth c C H1 locs1 ls hS1 (hP.mem (Or.inl hn) hP1) hl
theorem wp_putZ {n : Nat} {x : Int32} (hx : x = 0 ∨ x = 1) (d : Dc mi.2.1 pc (.putfield idx) 3 q) (f : FlZ mi.1.cls idx ci fk) (hs : g.2.1 a = (ci, n)) (hn : ¬ g.1 < 171) (k : Wp mi R sc Fn cs ss g (uI I a fk x) J q Ls st) : Wp mi R sc Fn cs ss g I J pc Ls (.int x :: .ref a :: st) := by
  obtain ⟨d, rfl⟩ := d
  obtain ⟨⟨C', T, N, ty, ⟨k1, k2, k3, k4, k5, k6, k7⟩, f1, f2, f3, f4⟩, f5⟩ := f
  intro z p l e s m args below meth c C H locs ls hS hP hl
  obtain ⟨g1, g2⟩ := hP.at hs (by omega)
  rw [cel_o hs k7] at g1
  have hk6 := (k6 fk f1).1
  rw [f5] at hk6
  have hty : narrow (ty fk) (.int x) = .int x ∧ fits (ty fk) (.int x) = true := by
    cases h : ty fk <;> rw [h] at hk6 <;> simp [fkT] at hk6
    rcases hx with rfl | rfl <;> exact ⟨rfl, rfl⟩
  refine va_put C.1 C.2.1 C.2.2.2.2.2.2.1 k3 ty k4 k5 C.2.2.2.2.2.1 hP.2.2.2 hP.2.2.1 (zws_D z g I J) hS (a - 2) g1 k1 fk f1 (C.2.2.2.2.2.2.1 _ f2) (fun _ h => h) f3 (v := .int x) (k4 fk f1) hty.1 hty.2 (by simp [fvs]; omega) d (fun H1 locs1 hP1 _ hS1 => ?_)
  rw [fvs_set z (g' := g) (I' := (uI I a fk x)) (J' := J) (by omega) (by unfold fva; rw [f5]; simp [uI]) (fun j hj => by unfold fva; simp [uI, hj]), zws_set z (g' := g) (I' := (uI I a fk x)) (J' := J) g2 rfl (cel_o hs k7) (fun b hb => cel_congr rfl rfl (uI_ne hb) rfl)] at hP1
  exact k z p l e s m args below meth c C H1 locs1 ls hS1 (hP.mem (Or.inl hn) hP1) hl
theorem wp_putL {n : Nat} {x : Int64} (d : Dc mi.2.1 pc (.putfield idx) 3 q) (f : FlL mi.1.cls idx ci fk) (hs : g.2.1 a = (ci, n)) (hn : ¬ g.1 < 171) (k : Wp mi R sc Fn cs ss g I (uJ J a fk x) q Ls st) : Wp mi R sc Fn cs ss g I J pc Ls (.long x :: .ref a :: st) := by
  obtain ⟨d, rfl⟩ := d
  obtain ⟨⟨C', T, N, ty, ⟨k1, k2, k3, k4, k5, k6, k7⟩, f1, f2, f3, f4⟩, f5⟩ := f
  intro z p l e s m args below meth c C H locs ls hS hP hl
  obtain ⟨g1, g2⟩ := hP.at hs (by omega)
  rw [cel_o hs k7] at g1
  have hk6 := (k6 fk f1).1
  rw [f5] at hk6
  have hty : narrow (ty fk) (.long x) = .long x ∧ fits (ty fk) (.long x) = true := by
    cases h : ty fk <;> rw [h] at hk6 <;> simp [fkT] at hk6 <;> exact ⟨rfl, rfl⟩
  refine va_put C.1 C.2.1 C.2.2.2.2.2.2.1 k3 ty k4 k5 C.2.2.2.2.2.1 hP.2.2.2 hP.2.2.1 (zws_D z g I J) hS (a - 2) g1 k1 fk f1 (C.2.2.2.2.2.2.1 _ f2) (fun _ h => h) f3 (v := .long x) (k4 fk f1) hty.1 hty.2 (by simp [fvs]; omega) d (fun H1 locs1 hP1 _ hS1 => ?_)
  rw [fvs_set z (g' := g) (I' := I) (J' := (uJ J a fk x)) (by omega) (by unfold fva; rw [f5]; simp [uJ]) (fun j hj => by unfold fva; simp [uJ, hj]), zws_set z (g' := g) (I' := I) (J' := (uJ J a fk x)) g2 rfl (cel_o hs k7) (fun b hb => cel_congr rfl rfl rfl (uJ_ne hb))] at hP1
  exact k z p l e s m args below meth c C H1 locs1 ls hS1 (hP.mem (Or.inl hn) hP1) hl
theorem wp_iald {n i : Nat} {x : Int32} (d : Dc mi.2.1 pc .iaload 1 q) (hs : g.2.1 a = (100, n)) (hx : x = nI i) (hi : i < n) (hn : n < 2 ^ 31) (k : Wp mi R sc Fn cs ss g I J q Ls (.int (I a i) :: st)) : Wp mi R sc Fn cs ss g I J pc Ls (.int x :: .ref a :: st) := by
  obtain ⟨d, rfl⟩ := d
  subst hx
  intro z p l e s m args below meth c C H locs ls hS hP hl
  obtain ⟨g1, g2⟩ := hP.at hs (by omega)
  rw [cel_i hs] at g1
  refine va_iald C.1 C.2.1 hP.2.2.2 hP.2.2.1 (a - 2) 0 g1 rfl (vp_in_nI hi hn) d ?_
  rw [nI_clamp (Nat.lt_trans hi hn)]
  exact k z p l e s m args below meth c C H locs ls hS hP hl
theorem wp_bald {n i : Nat} {x : Int32} (d : Dc mi.2.1 pc .baload 1 q) (hs : g.2.1 a = (101, n)) (hx : x = nI i) (hi : i < n) (hn : n < 2 ^ 31) (k : Wp mi R sc Fn cs ss g I J q Ls (.int (I a i) :: st)) : Wp mi R sc Fn cs ss g I J pc Ls (.int x :: .ref a :: st) := by
  obtain ⟨d, rfl⟩ := d
  subst hx
  intro z p l e s m args below meth c C H locs ls hS hP hl
  obtain ⟨g1, g2⟩ := hP.at hs (by omega)
  rw [cel_b hs] at g1
  refine va_bald C.1 C.2.1 hP.2.2.2 hP.2.2.1 (a - 2) 1 g1 rfl (vp_in_nI hi hn) d ?_
  rw [nI_clamp (Nat.lt_trans hi hn)]
  exact k z p l e s m args below meth c C H locs ls hS hP hl
theorem wp_lald {n i : Nat} {x : Int32} (d : Dc mi.2.1 pc .laload 1 q) (hs : g.2.1 a = (102, n)) (hx : x = nI i) (hi : i < n) (hn : n < 2 ^ 31) (k : Wp mi R sc Fn cs ss g I J q Ls (.long (J a i) :: st)) : Wp mi R sc Fn cs ss g I J pc Ls (.int x :: .ref a :: st) := by
  obtain ⟨d, rfl⟩ := d
  subst hx
  intro z p l e s m args below meth c C H locs ls hS hP hl
  obtain ⟨g1, g2⟩ := hP.at hs (by omega)
  rw [cel_l hs] at g1
  refine va_lald C.1 C.2.1 hP.2.2.2 hP.2.2.1 (a - 2) 2 g1 rfl (vp_in_nI hi hn) d ?_
  rw [nI_clamp (Nat.lt_trans hi hn)]
  exact k z p l e s m args below meth c C H locs ls hS hP hl
theorem wp_aald {n i : Nat} {x : Int32} {b : Nat} (hr : g.2.2 a i = some b) (d : Dc mi.2.1 pc .aaload 1 q) (hs : g.2.1 a = (103, n)) (hx : x = nI i) (hi : i < n) (hn : n < 2 ^ 31) (k : Wp mi R sc Fn cs ss g I J q Ls (.ref b :: st)) : Wp mi R sc Fn cs ss g I J pc Ls (.int x :: .ref a :: st) := by
  obtain ⟨d, rfl⟩ := d
  subst hx
  intro z p l e s m args below meth c C H locs ls hS hP hl
  obtain ⟨g1, g2⟩ := hP.at hs (by omega)
  rw [cel_a hs] at g1
  refine va_aldq C.1 C.2.1 hP.2.2.2 hP.2.2.1 (a - 2) 3 g1 rfl (vp_in_nI hi hn) d ?_
  rw [nI_clamp (Nat.lt_trans hi hn)]
  rw [hr]
  exact k z p l e s m args below meth c C H locs ls hS hP hl
theorem wp_iast {n i : Nat} {x : Int32} {v : Int32} (d : Dc mi.2.1 pc .iastore 1 q) (hs : g.2.1 a = (100, n)) (hx : x = nI i) (hi : i < n) (hn : n < 2 ^ 31) (hg : ¬ g.1 < 171) (k : Wp mi R sc Fn cs ss g (uI I a i v) J q Ls st) : Wp mi R sc Fn cs ss g I J pc Ls (.int v :: .int x :: .ref a :: st) := by
  obtain ⟨d, rfl⟩ := d
  subst hx
  intro z p l e s m args below meth c C H locs ls hS hP hl
  obtain ⟨g1, g2⟩ := hP.at hs (by omega)
  rw [cel_i hs] at g1
  refine va_iast C.1 C.2.1 hP.2.2.2 hP.2.2.1 (zws_D z g I J) hS (a - 2) 0 g1 rfl (vp_in_nI hi hn) d (fun H1 locs1 hP1 _ hS1 => ?_)
  rw [nI_clamp (Nat.lt_trans hi hn), zws_set z (g' := g) (I' := uI I a i v) (J' := J) g2 rfl (by rw [cel_i hs, uI_at]) (fun b hb => cel_congr rfl rfl (uI_ne hb) rfl)] at hP1
  exact k z p l e s m args below meth c C H1 locs1 ls hS1 (hP.mem (Or.inl hg) hP1) hl
theorem wp_bast {n i : Nat} {x : Int32} {v : Int32} (d : Dc mi.2.1 pc .bastore 1 q) (hs : g.2.1 a = (101, n)) (hx : x = nI i) (hi : i < n) (hn : n < 2 ^ 31) (hg : ¬ g.1 < 171) (k : Wp mi R sc Fn cs ss g (uI I a i (vp_nar .byte v)) J q Ls st) : Wp mi R sc Fn cs ss g I J pc Ls (.int v :: .int x :: .ref a :: st) := by
  obtain ⟨d, rfl⟩ := d
  subst hx
  intro z p l e s m args below meth c C H locs ls hS hP hl
  obtain ⟨g1, g2⟩ := hP.at hs (by omega)
  rw [cel_b hs] at g1
  refine va_bast C.1 C.2.1 hP.2.2.2 hP.2.2.1 (zws_D z g I J) hS (a - 2) 1 g1 rfl (vp_in_nI hi hn) d (fun H1 locs1 hP1 _ hS1 => ?_)
  rw [nI_clamp (Nat.lt_trans hi hn), zws_set z (g' := g) (I' := uI I a i (vp_nar .byte v)) (J' := J) g2 rfl (by rw [cel_b hs, uI_at]) (fun b hb => cel_congr rfl rfl (uI_ne hb) rfl)] at hP1
  exact k z p l e s m args below meth c C H1 locs1 ls hS1 (hP.mem (Or.inl hg) hP1) hl
theorem wp_last {n i : Nat} {x : Int32} {v : Int64} (d : Dc mi.2.1 pc .lastore 1 q) (hs : g.2.1 a = (102, n)) (hx : x = nI i) (hi : i < n) (hn : n < 2 ^ 31) (hg : ¬ g.1 < 171) (k : Wp mi R sc Fn cs ss g I (uJ J a i v) q Ls st) : Wp mi R sc Fn cs ss g I J pc Ls (.long v :: .int x :: .ref a :: st) := by
  obtain ⟨d, rfl⟩ := d
  subst hx
  intro z p l e s m args below meth c C H locs ls hS hP hl
  obtain ⟨g1, g2⟩ := hP.at hs (by omega)
  rw [cel_l hs] at g1
  refine va_last C.1 C.2.1 hP.2.2.2 hP.2.2.1 (zws_D z g I J) hS (a - 2) 2 g1 rfl (vp_in_nI hi hn) d (fun H1 locs1 hP1 _ hS1 => ?_)
  rw [nI_clamp (Nat.lt_trans hi hn), zws_set z (g' := g) (I' := I) (J' := uJ J a i v) g2 rfl (by rw [cel_l hs, uJ_at]) (fun b hb => cel_congr rfl rfl rfl (uJ_ne hb))] at hP1
  exact k z p l e s m args below meth c C H1 locs1 ls hS1 (hP.mem (Or.inl hg) hP1) hl
theorem wp_sld {n i : Nat} {x : Int32} {xs : Nat → Int32} (d : Dc mi.2.1 pc .iaload 1 q) (hc : sc = some (n, xs)) (hx : x = nI i) (hi : i < n) (hn : n < 2 ^ 31) (k : Wp mi R sc Fn cs ss g I J q Ls (.int (xs i) :: st)) : Wp mi R sc Fn cs ss g I J pc Ls (.int x :: .ref 0 :: st) := by
  obtain ⟨d, rfl⟩ := d
  subst hx
  intro z p l e s m args below meth c C H locs ls hS hP hl
  obtain ⟨x1, x2, x3⟩ := C.2.2.2.2.2.2.2.2.2.2 _ hc
  refine va_sld C.1 C.2.1 x1 x2 x3 hS (vp_in_nI hi hn) d ?_
  rw [nI_clamp (Nat.lt_trans hi hn)]
  exact k z p l e s m args below meth c C H locs ls hS hP hl
theorem wp_slen {n : Nat} {xs : Nat → Int32} (d : Dc mi.2.1 pc .arraylength 1 q) (hc : sc = some (n, xs)) (k : Wp mi R sc Fn cs ss g I J q Ls (.int (nI n) :: st)) : Wp mi R sc Fn cs ss g I J pc Ls (.ref 0 :: st) := by
  obtain ⟨d, rfl⟩ := d
  intro z p l e s m args below meth c C H locs ls hS hP hl
  obtain ⟨x1, x2, x3⟩ := C.2.2.2.2.2.2.2.2.2.2 _ hc
  exact va_slen C.1 C.2.1 x1 x2 x3 hS d (k z p l e s m args below meth c C H locs ls hS hP hl)
def kin (i : Nat) : Int32 := if i = 0 then 16 else if i = 1 then 7 else if i = 2 then 25 else 4
theorem wp_kld {i : Nat} {x : Int32} (d : Dc mi.2.1 pc .iaload 1 q) (hx : x = nI i) (hi : i < 4) (k : Wp mi R sc Fn cs ss g I J q Ls (.int (kin i) :: st)) : Wp mi R sc Fn cs ss g I J pc Ls (.int x :: .ref 1 :: st) := by
  obtain ⟨d, rfl⟩ := d
  subst hx
  intro z p l e s m args below meth c C H locs ls hS hP hl
  refine va_ti C.1 C.2.1 C.2.2.2.2.2.2.2.2.2.1.2.2 hS (vp_in_nI hi (by decide)) rfl d ?_
  rw [nI_clamp (Nat.lt_trans hi (by decide))]
  exact k z p l e s m args below meth c C H locs ls hS hP hl
theorem wp_gets (d : Dc mi.2.1 pc (.getstatic idx) 3 q) (f : Cond.fieldLink mi.1.cls idx "LetterCrew$Seen" "KINDS_THAT_DO" "[I" ∈ gtbl) (k : Wp mi R sc Fn cs ss g I J q Ls (.ref 1 :: st)) : Wp mi R sc Fn cs ss g I J pc Ls st := by
  obtain ⟨d, rfl⟩ := d
  intro z p l e s m args below meth c C H locs ls hS hP hl
  exact va_gets C.1 C.2.1 C.2.2.2.2.2.2.2.2.2.1.2.1 hS C.2.2.2.2.2.1 (C.2.2.2.2.2.2.1 _ f) (fun _ h => h) d (k z p l e s m args below meth c C H locs ls hS hP hl)
theorem Stt.back {z : Zc} {g : Geo} {I : Mem} {J : Mel} {U V : State} {H : Heap} (h : Stt z g I J U H) (hv : U.vm.Alike V.vm) : Stt z g I J V H := ⟨h.1, h.2.1, h.2.2.1, va_K.moved hv h.2.2.2⟩
theorem wp_iret {Q : Option Value → Geo → Mem → Mel → Prop} {mc ms : Nat} {x : Int32} {ty : FieldType} (d : decode mi.2.1 pc = .ok (.ireturn, 1)) (hr : mi.2.2.2 = some ty) (hn : narrow ty (.int x) = .int x) (h1 : cs ≤ mc) (h2 : ss ≤ ms) (hQ : Q (some (.int x)) g I J) : Wp mi R sc (finM mc ms Q) cs ss g I J pc Ls [.int x] := by
  intro z p l e s m args below meth c C H locs ls hS hP hl
  refine W.widen h1 h2 ?_
  exact W.zret C.1 C.2.1 (C.2.2.2.1.trans hr) hn (fun t ht hw => ⟨⟨some (.int x), g, I, J, rfl, hQ, by rw [ht]; exact hP.back hw.alike⟩, hS.F ht⟩) (fun q hq => hS.2.2 q hq) d C.2.2.2.2.1
theorem wp_lret {Q : Option Value → Geo → Mem → Mel → Prop} {mc ms : Nat} {x : Int64} (d : decode mi.2.1 pc = .ok (.lreturn, 1)) (hr : mi.2.2.2 = some .long) (h1 : cs ≤ mc) (h2 : ss ≤ ms) (hQ : Q (some (.long x)) g I J) : Wp mi R sc (finM mc ms Q) cs ss g I J pc Ls [.long x] := by
  intro z p l e s m args below meth c C H locs ls hS hP hl
  refine W.widen h1 h2 ?_
  exact W.lret C.1 C.2.1 (C.2.2.2.1.trans hr) (fun t ht hw => ⟨⟨some (.long x), g, I, J, rfl, hQ, by rw [ht]; exact hP.back hw.alike⟩, hS.F ht⟩) (fun q hq => hS.2.2 q hq) d C.2.2.2.2.1
theorem wp_vret {Q : Option Value → Geo → Mem → Mel → Prop} {mc ms : Nat} (d : decode mi.2.1 pc = .ok (.return_, 1)) (hr : mi.2.2.2 = none) (h1 : cs ≤ mc) (h2 : ss ≤ ms) (hQ : Q none g I J) : Wp mi R sc (finM mc ms Q) cs ss g I J pc Ls [] := by
  intro z p l e s m args below meth c C H locs ls hS hP hl
  refine W.widen h1 h2 ?_
  exact W.vret C.1 C.2.1 (C.2.2.2.1.trans hr) (fun t ht hw => ⟨⟨none, g, I, J, rfl, hQ, by rw [ht]; exact hP.back hw.alike⟩, hS.F ht⟩) (fun q hq => hS.2.2 q hq) d C.2.2.2.2.1
theorem Ztt.go {z : Zc} {s U : State} {H : Heap} {locs : List Loc} (h : Ztt z s s.heap) (hS : va_S (zA z) s.heap H locs) (hU : U.heap = H) (hW : s.WarmedH U.vm) : Ztt z U U.heap := by
  obtain ⟨⟨h1, h2⟩, h3, h4⟩ := h
  refine ⟨⟨fun q hq => va_Nw.warmM hW (h1 q hq), va_AO.moved hW.alike h2⟩, ?_, ?_⟩
  · rw [hU]; exact va_Z.kept (va_Z.moved hW.alike h3) hS.2.1
  · rw [hU]; exact va_T.kept (va_T.moved hW.alike h4) hS.2.1
theorem mt_blind {z : Zc} {av : List Value} : FrameBlind (va_Pc (av.map (zv z)) (fun U => Stt z g I J U U.heap ∧ Ztt z U U.heap ∧ z.1.2.2 ≤ U.heap.size)) := by
  intro a U gg mk h
  obtain ⟨h1, h2, ⟨⟨h3, h4⟩, h5, h6⟩, h7⟩ := h
  exact ⟨h1, Stt.back (U := U) (V := U.calling gg mk a) h2 (Vm.Alike.refl U.vm), ⟨⟨fun q hq => va_Nw.same rfl rfl (h3 q hq), va_AO.moved (u := U) (U := U.calling gg mk a) (Vm.Alike.refl U.vm) h4⟩, va_Z.moved (u := U) (U := U.calling gg mk a) (Vm.Alike.refl U.vm) h5, va_T.moved (u := U) (U := U.calling gg mk a) (Vm.Alike.refl U.vm) h6⟩, h7⟩
/-- behind a call: what the callee says, and on -/
theorem wp_after {z : Zc} {p : Program} {l : Launch} {e : Env} {s : State} {m : MethodId} {args : Array Value} {below : List Frame} {meth : Method} {c : Code} {H : Heap} {locs : List Loc} {ls : Array Slot} {mc ms : Nat} {st0 : List Value} {a0 : Array Value} {free : Addr → Prop}
    (C : Cx mi sc z p s m args meth c) (hS : va_S (zA z) s.heap H locs) (hl : lv_has ls mi.2.2.1 (lvl z Ls)) (hf : ∀ q, free q → zA z q)
    (hr : va_Run p l e R s m args below meth c H locs cs ss mc ms (F0 m pc ls st0) (st.map (zv z)) (qcM z (fun r g' I' J' => Wp mi R sc Fn (cs + mc) (ss + ms) g' I' J' (pc + 3) Ls (pushR r st)) a0) free) :
    W p l e R s m args below meth c H locs cs ss (Fn z below args s) (F0 m pc ls st0) := by
  intro T hT X
  obtain ⟨v, st₀, t, T', L, h0, X', hL, e1, e2, ⟨⟨r, g', I', J', hv, hQ, hst⟩, hz, hk⟩, step⟩ := hr T hT X
  have hv2 : v = r.map (zv z) := by cases hv; rfl
  subst hv2
  rw [h0] at hz hk
  have hS2 : va_S (zA z) s.heap T'.heap (locs ++ L) := ⟨Nat.le_trans hS.1 (by rw [e1]; exact hz), fun q h1 h2 => by rw [e1, hk q (Nat.lt_of_lt_of_le h1 hS.1) h2]; exact hS.2.1 q h1 h2, fun q hq => by
      rcases List.mem_append.mp hq with h | h
      · exact hS.2.2 q h
      · exact hf _ (hL q h)⟩
  have hal : s.vm.Alike t.vm := by rw [← e2]; exact X'.warmed.alike
  obtain ⟨t2, a1, b1⟩ := hQ z p l e s m args below meth c C T'.heap (locs ++ L) ls hS2 (by rw [e1]; exact hst.back hal.symm) hl T' rfl X'
  refine ⟨t2, step t2 ?_, b1⟩
  cases r <;> exact a1
theorem wp_callV {mj : MI} {rm : Room} {n nn a : Nat} {av stk : List Value} (d : Dc mi.2.1 pc (.invokevirtual idx) 3 q) (lk : Cond.methodLink mi.1.cls idx mj.1 ∈ gtbl) (mk : MokV mj n ci) (hav : av.length = n) (hstk : stk = av.reverse ++ .ref a :: st) (hs : g.2.1 a = (ci, nn)) (hR : rm.frames + 1 ≤ R.frames ∧ 8 + (mj.2.2.1 + 11) + rm.locals ≤ R.locals) (hc : cs + rm.cells ≤ R.cells ∧ ss + rm.slots ≤ R.slots) (hw : (st.map Value.category).sum ≤ 8)
    (hM : Mt mj rm (.ref a :: av) g I J (fun r g' I' J' => Wp mi R sc Fn (cs + rm.cells) (ss + rm.slots) g' I' J' q Ls (pushR r st))) : Wp mi R sc Fn cs ss g I J pc Ls stk := by
  obtain ⟨d, rfl⟩ := d
  obtain ⟨⟨m1, m2, m3, m4, m5, m6⟩, m7, m8, m9, T, N, m10⟩ := mk
  subst hstk
  intro z p l e s m args below meth c C H locs ls hS hP hl
  obtain ⟨g1, g2⟩ := hP.at hs (by omega)
  rw [cel_o hs m9] at g1
  refine wp_after C hS hl (fun _ h => h) (va_runV (As := av.map (zv z)) ⟨C.1, C.2.1, C.2.2.1, C.2.2.2.2.2.1, C.2.2.2.2.2.2.1⟩ (hM l z) ⟨callB_of n C.2.2.2.2.2.2.1 (wsm_good mj m1) rfl rfl rfl (C.2.2.2.2.2.2.1 _ m2) (C.2.2.2.2.2.2.1 _ lk) ⟨m3, m4, m5⟩ hR, C.2.2.2.2.2.2.1 _ m7, C.2.2.2.2.2.2.1 _ m8⟩ ⟨mt_blind, va_recv hP.2.2.2 hP.2.2.1 (ci := ci) m10 g1, fun U hU hW => ⟨rfl, by rw [hU]; exact hP.back hW.alike, C.2.2.2.2.2.2.2.2.2.1.go hS hU hW, by rw [hU]; exact Nat.le_trans C.2.2.2.2.2.2.2.1 hS.1⟩⟩ rfl (by simp [hav]) hl.1 (by show List.map (zv z) _ = _; rw [List.map_append, List.map_reverse]; rfl) (lv_room (by rw [List.map_map]; simpa [Function.comp_def, zv_cat] using hw)) d hc)
theorem wp_callS {mj : MI} {rm : Room} {n : Nat} {av stk : List Value} (d : Dc mi.2.1 pc (.invokestatic idx) 3 q) (lk : Cond.methodLink mi.1.cls idx mj.1 ∈ gtbl) (mk : MokS mj n) (hav : av.length = n) (hstk : stk = av.reverse ++ st) (hR : rm.frames + 1 ≤ R.frames ∧ 8 + (mj.2.2.1 + 11) + rm.locals ≤ R.locals) (hc : cs + rm.cells ≤ R.cells ∧ ss + rm.slots ≤ R.slots) (hw : (st.map Value.category).sum ≤ 8)
    (hM : Mt mj rm av g I J (fun r g' I' J' => Wp mi R sc Fn (cs + rm.cells) (ss + rm.slots) g' I' J' q Ls (pushR r st))) : Wp mi R sc Fn cs ss g I J pc Ls stk := by
  obtain ⟨d, rfl⟩ := d
  obtain ⟨⟨m1, m2, m3, m4, m5, m6⟩, m7⟩ := mk
  subst hstk
  intro z p l e s m args below meth c C H locs ls hS hP hl
  refine wp_after C hS hl (fun _ h => h) (va_runS (As := av.map (zv z)) ⟨C.1, C.2.1, C.2.2.1, C.2.2.2.2.2.1, C.2.2.2.2.2.2.1⟩ (hM l z) ⟨callB_of n C.2.2.2.2.2.2.1 (wsm_good mj m1) rfl rfl rfl (C.2.2.2.2.2.2.1 _ m2) (C.2.2.2.2.2.2.1 _ lk) ⟨m3, m4, m5⟩ hR, C.2.2.2.2.2.2.1 _ m7⟩ ⟨mt_blind, fun U hU hW => ⟨rfl, by rw [hU]; exact hP.back hW.alike, C.2.2.2.2.2.2.2.2.2.1.go hS hU hW, by rw [hU]; exact Nat.le_trans C.2.2.2.2.2.2.2.1 hS.1⟩⟩ rfl (by simp [hav]) hl.1 (by show List.map (zv z) _ = _; rw [List.map_append, List.map_reverse]) (lv_room (by rw [List.map_map]; simpa [Function.comp_def, zv_cat] using hw)) d hc)
theorem wp_callI {mj : MI} {rm : Room} {n a : Nat} {av stk : List Value} (hret : mj.2.2.2 = none) (d : Dc mi.2.1 pc (.invokespecial idx) 3 q) (lk : Cond.methodLink mi.1.cls idx mj.1 ∈ gtbl) (mk : MokI mj n) (hav : av.length = n) (hstk : stk = av.reverse ++ .ref a :: st) (hR : rm.frames + 1 ≤ R.frames ∧ 8 + (mj.2.2.1 + 11) + rm.locals ≤ R.locals) (hc : cs + rm.cells ≤ R.cells ∧ ss + rm.slots ≤ R.slots) (hw : (st.map Value.category).sum ≤ 8)
    (hM : Mt mj rm (.ref a :: av) g I J (fun r g' I' J' => Wp mi R sc Fn (cs + rm.cells) (ss + rm.slots) g' I' J' q Ls (pushR r st))) : Wp mi R sc Fn cs ss g I J pc Ls stk := by
  obtain ⟨d, rfl⟩ := d
  obtain ⟨⟨m1, m2, m3, m4, m5, m6⟩, m7, m8⟩ := mk
  subst hstk
  obtain ⟨y, bb, nL, rt⟩ := mj
  dsimp only at hret
  subst hret
  intro z p l e s m args below meth c C H locs ls hS hP hl
  refine wp_after C hS hl (fun _ h => h) (va_runI (As := av.map (zv z)) ⟨C.1, C.2.1, C.2.2.1, C.2.2.2.2.2.1, C.2.2.2.2.2.2.1⟩ (hM l z) ⟨callB_of n C.2.2.2.2.2.2.1 (wsm_good (y, bb, nL, none) m1) rfl rfl rfl (C.2.2.2.2.2.2.1 _ m2) (C.2.2.2.2.2.2.1 _ lk) ⟨m3, m4, m5⟩ hR, m8, C.2.2.2.2.2.2.1 _ m7⟩ ⟨mt_blind, fun U hU hW => ⟨rfl, by rw [hU]; exact hP.back hW.alike, C.2.2.2.2.2.2.2.2.2.1.go hS hU hW, by rw [hU]; exact Nat.le_trans C.2.2.2.2.2.2.2.1 hS.1⟩⟩ rfl (by simp [hav]) hl.1 (by show List.map (zv z) _ = _; rw [List.map_append, List.map_reverse]; rfl) (lv_room (by rw [List.map_map]; simpa [Function.comp_def, zv_cat] using hw)) d hc)
theorem wp_callN {mj : MI} {rm : Room} {n a : Nat} {av stk : List Value} (hret : mj.2.2.2 = none) (d : Dc mi.2.1 pc (.invokespecial idx) 3 q) (lk : (mi.1.cls, idx, mj.1) ∈ nstl) (mk : MokI mj n) (hav : av.length = n) (hstk : stk = av.reverse ++ .ref a :: st) (hR : rm.frames + 1 ≤ R.frames ∧ 8 + (mj.2.2.1 + 11) + rm.locals ≤ R.locals) (hc : cs + rm.cells ≤ R.cells ∧ ss + rm.slots ≤ R.slots) (hw : (st.map Value.category).sum ≤ 8)
    (hM : Mt mj rm (.ref a :: av) g I J (fun r g' I' J' => Wp mi R sc Fn (cs + rm.cells) (ss + rm.slots) g' I' J' q Ls (pushR r st))) : Wp mi R sc Fn cs ss g I J pc Ls stk := by
  obtain ⟨d, rfl⟩ := d
  obtain ⟨⟨m1, m2, m3, m4, m5, m6⟩, m7, m8⟩ := mk
  subst hstk
  obtain ⟨y, bb, nL, rt⟩ := mj
  dsimp only at hret
  subst hret
  intro z p l e s m args below meth c C H locs ls hS hP hl
  refine wp_after C hS hl (fun _ h => h) (va_runIN (As := av.map (zv z)) ⟨C.1, C.2.1, C.2.2.1, C.2.2.2.2.2.1, C.2.2.2.2.2.2.1⟩ (hM l z) ⟨va_cnB n C.2.2.2.2.2.2.1 (wsm_good (y, bb, nL, none) m1) rfl rfl rfl (C.2.2.2.2.2.2.2.2.2.1.1.1 _ lk) (C.2.2.2.2.2.2.1 _ m2) ⟨m3, m4, m5⟩ hR, m8, C.2.2.2.2.2.2.1 _ m7⟩ ⟨mt_blind, fun U hU hW => ⟨rfl, by rw [hU]; exact hP.back hW.alike, C.2.2.2.2.2.2.2.2.2.1.go hS hU hW, by rw [hU]; exact Nat.le_trans C.2.2.2.2.2.2.2.1 hS.1⟩⟩ rfl (by simp [hav]) hl.1 (by show List.map (zv z) _ = _; rw [List.map_append, List.map_reverse]; rfl) (lv_room (by rw [List.map_map]; simpa [Function.comp_def, zv_cat] using hw)) d hc)
theorem wp_objInit {a : Nat} (d : Dc mi.2.1 pc (.invokespecial idx) 3 q) (lk : Cond.methodLink mi.1.cls idx objectInit ∈ gtbl) (h1 : Cond.instanceMethod objectInit ∈ gtbl) (h2 : Cond.code objectInit ⟨#[0xb1]⟩ 1 none ∈ gtbl) (hR : 1 ≤ R.frames ∧ 20 ≤ R.locals) (hw : (st.map Value.category).sum ≤ 8) (k : Wp mi R sc Fn cs ss g I J q Ls st) : Wp mi R sc Fn cs ss g I J pc Ls (.ref a :: st) := by
  obtain ⟨d, rfl⟩ := d
  intro z p l e s m args below meth c C H locs ls hS hP hl
  have hw2 : 2 * (F0 m pc ls (st.map (zv z))).monitorRoom + ((st.map (zv z)).map fun v => v.category).sum ≤ 8 := lv_room (by rw [List.map_map]; simpa [Function.comp_def, zv_cat] using hw)
  exact W.objInit C.1 C.2.1 C.2.2.2.2.2.1 (C.2.2.2.2.2.2.1 _ lk) (C.2.2.2.2.2.2.1 _ h1) (C.2.2.2.2.2.2.1 _ h2) rfl (hl.1.trans C.2.2.1.symm) rfl d hR.1 (by have := hw2; simp only [F0] at this ⊢; omega) (k z p l e s m args below meth c C H locs ls hS hP hl)
end RULES2
theorem entL_mem {z : Zc} {vs : List Value} : ∀ (n i0 i : Nat) (v : Value), (entL n vs)[i]? = some v → v ≠ dum → (i0 + i, zv z v) ∈ lv_args i0 (vs.map (zv z)) := by
  induction vs with
  | nil => intro n i0 i v h; simp [entL] at h
  | cons u us ih =>
    intro n i0 i v h hd
    cases n with
    | zero => simp [entL] at h
    | succ n =>
      simp only [entL] at h
      simp only [List.map_cons, lv_args, zv_cat]
      by_cases hc : u.category = 2
      · rw [if_pos hc] at h ⊢
        match i, h with
        | 0, h => simp at h; subst h; exact List.mem_cons_self
        | 1, h => simp at h; exact absurd h.symm hd
        | i + 2, h =>
          simp at h
          have := ih (n - 1) (i0 + 2) i v h hd
          rw [show i0 + (i + 2) = i0 + 2 + i by omega]
          exact List.mem_cons_of_mem _ this
      · rw [if_neg hc] at h ⊢
        match i, h with
        | 0, h => simp at h; subst h; exact List.mem_cons_self
        | i + 1, h =>
          simp at h
          have := ih n (i0 + 1) i v h hd
          rw [show i0 + (i + 1) = i0 + 1 + i by omega]
          exact List.mem_cons_of_mem _ this
theorem lvl_entry {z : Zc} {av Ls : List Value} {n : Nat} (hs : (lg_sl (av.map (zv z))).length ≤ n) (hL : ∀ (i : Nat) (v : Value), Ls[i]? = some v → v ≠ dum → (entL n av)[i]? = some v) : lv_has ((lg_sl (av.map (zv z)) ++ List.replicate (n - (lg_sl (av.map (zv z))).length) Slot.unset).toArray) n (lvl z Ls) := by
  have h := lv_entry (av.map (zv z)) hs
  refine ⟨h.1, h.2.1, fun q hq => h.2.2 q ?_⟩
  obtain ⟨i, w⟩ := q
  obtain ⟨v, h1, h2, rfl⟩ := lvl_mem.mp hq
  have := entL_mem (z := z) n 0 i v (hL i v h1 h2) h2
  simpa using this
def padL (n : Nat) (Ls : List Value) : List Value := Ls ++ List.replicate (n - Ls.length) dum
theorem padL_ok {n : Nat} {av : List Value} : ∀ (i : Nat) (v : Value), (padL n (entL n av))[i]? = some v → v ≠ dum → (entL n av)[i]? = some v := by
  intro i v h hd
  unfold padL at h
  by_cases hl : i < (entL n av).length
  · rwa [List.getElem?_append_left hl] at h
  · rw [List.getElem?_append_right (by omega)] at h
    have h2 := List.mem_of_getElem? h
    exact absurd (List.eq_of_mem_replicate h2) hd
def slN (av : List Value) : Nat := (av.map Value.category).sum
theorem slN_eq {z : Zc} {av : List Value} : (lg_sl (av.map (zv z))).length = slN av := by
  induction av with
  | nil => rfl
  | cons v vs ih =>
    simp only [lg_sl, slN, List.map_cons, List.flatMap_cons, List.length_append, List.sum_cons] at ih ⊢
    rw [ih, zv_cat]
    rcases lv_cat v with h | h <;> simp [h]
/-- a method's contract out of the walk of its body -/
theorem mt_of {mi : MI} {rm : Room} {av Ls : List Value} {g : Geo} {I : Mem} {J : Mel} {Q : Option Value → Geo → Mem → Mel → Prop} {n : Nat} (mk : Mok mi n) (hs : slN av ≤ mi.2.2.1) (hL : padL mi.2.2.1 (entL mi.2.2.1 av) = Ls) (k : Wp mi rm none (finM rm.cells rm.slots Q) 0 0 g I J 0 Ls []) : Mt mi rm av g I J Q := by
  intro l z
  refine Met.ofW (cc := mi.2.1) (maxL := mi.2.2.1) (ret := mi.2.2.2) mk.2.2.2.2.2 rfl ?_
  intro p e s m args below meth c s₁ B hml hv
  obtain ⟨rfl, hst, hz, hbs⟩ := hv
  have hts := atoms_spec (ws := wsm mi) B.pre
  have hown : s.vm.findClass mi.1.cls = some m.cls := findClass_of_methodNamed B.named
  rw [lg_entry_eq]
  subst hL
  exact k z p l e s m _ below meth c ⟨B.exec, B.bytes, hml, B.returns, B.notSynchronized, hown, fun w hw => hts w (List.mem_cons_of_mem _ hw), hbs, fun hn => by rw [(name_of_methodNamed B.named B.method).1]; exact hn, hz, fun q hq => by cases hq⟩ s.heap [] _ va_S.rf hst (lvl_entry (by rw [slN_eq]; exact hs) padL_ok)
section RULES3
variable {mi : MI} {R : Room} {sc : Option (Nat × (Nat → Int32))} {Fn : FinT} {cs ss : Nat} {g : Geo} {I : Mem} {J : Mel} {pc q a idx ci fk : Nat} {Ls st : List Value}
/-- a new cell behind all -/
def gN (g : Geo) (x : Nat × Nat) : Geo := (g.1 + 1, uS g.2.1 (g.1 + 2) x, rR g.2.2 (g.1 + 2))
theorem cel_new {z : Zc} {x : Nat × Nat} {b : Nat} (h : b < g.1 + 2) : cel z (gN g x) (rI I (g.1 + 2)) (rJ J (g.1 + 2)) b = cel z g I J b := by
  have hb : b ≠ g.1 + 2 := Nat.ne_of_lt h
  refine cel_congr ?_ ?_ ?_ ?_
  · show uS g.2.1 (g.1 + 2) x b = _; simp [uS, hb]
  · show rR g.2.2 (g.1 + 2) b = _; funext j; simp [rR, hb]
  · funext j; simp [rI, hb]
  · funext j; simp [rJ, hb]
theorem Stt.push {z : Zc} {U : State} {H H' : Heap} {x : Nat × Nat} (h : Stt z g I J U H) (hn : H.size = z.1.2.2 + g.1) (hn2 : H'.size = H.size + 1) (hk : ∀ q, q < H.size → H'[q]? = H[q]?) (ha : va_at z.2.1 cls12 (z.1.2.2 + g.1, cel z (gN g x) (rI I (g.1 + 2)) (rJ J (g.1 + 2)) (g.1 + 2)) H') : Stt z (gN g x) (rI I (g.1 + 2)) (rJ J (g.1 + 2)) U H' := by
  refine ⟨fun _ => by show H'.size = z.1.2.2 + (g.1 + 1); omega, fun b hb => ?_, ?_, h.2.2.2⟩
  · show 2 ≤ b ∧ b < g.1 + 1 + 2
    by_cases hbe : b = g.1 + 2
    · omega
    · have := h.2.1 b (by have h2 : (uS g.2.1 (g.1 + 2) x b).1 ≠ 999 := hb; simpa [uS, hbe] using h2)
      omega
  · rw [← zws_push z (g := g) (g' := gN g x) (I := I) (J := J) rfl (fun b hb => cel_new hb)]
    refine (h.2.2.1.kept (fun k q hq => hk q.1 ((h.2.2.1 k q hq).lt))).app (fun k q hq => ?_)
    have hz : k < 1 := (List.getElem?_eq_some_iff.mp hq).1
    rw [show k = 0 by omega] at hq
    cases hq
    exact ha
theorem va_S.push {A : Nat → Prop} {H0 H H' : Heap} {locs : List Loc} (hS : va_S A H0 H locs) (hn2 : H'.size = H.size + 1) (hk : ∀ q, q < H.size → H'[q]? = H[q]?) : va_S A H0 H' locs := ⟨Nat.le_trans hS.1 (by omega), fun x h1 h2 => (hk x (Nat.lt_of_lt_of_le h1 hS.1)).trans (hS.2.1 x h1 h2), hS.2.2⟩
theorem wp_new {C' : String} {T : u_T} {N : Nat} {ty : Nat → FieldType} (d : Dc mi.2.1 pc (.new idx) 3 q) (ck : Ck ci C' T N ty) (h1 : Cond.classLink mi.1.cls idx C' ∈ gtbl) (h2 : Cond.instantiable C' N ∈ gtbl) (h3 : Cond.initialized C' ∈ gtbl) (hg : g.1 < 171) (hc : cs + 1 ≤ R.cells ∧ ss + N ≤ R.slots)
    (k : Wp mi R sc Fn (cs + 1) (ss + N) (gN g (ci, 0)) (rI I (g.1 + 2)) (rJ J (g.1 + 2)) q Ls (.ref (g.1 + 2) :: st)) : Wp mi R sc Fn cs ss g I J pc Ls st := by
  obtain ⟨d, rfl⟩ := d
  obtain ⟨k1, k2, k3, k4, k5, k6, k7⟩ := ck
  intro z p l e s m args below meth c C H locs ls hS hP hl
  have hKn := hP.2.2.2.1 ci _ k1
  have hts := C.2.2.2.2.2.2.1
  have hsz := hP.1 hg
  refine W.newcK C.1 C.2.1 C.2.2.2.2.2.1 (hts _ h1) (hts _ h2) (hts _ h3) rfl d hc.1 hc.2 hKn.2.1 rfl fun H1 kC hkC e1 z1 o1 => ?_
  have hst : Stt z (gN g (ci, 0)) (rI I (g.1 + 2)) (rJ J (g.1 + 2)) s H1 := by
    refine hP.push hsz z1 o1 ?_
    rw [cel_o (c := ci) (n := 0) (by show uS g.2.1 (g.1 + 2) (ci, 0) (g.1 + 2) = _; simp [uS]) k7]
    rw [hsz] at e1
    refine ⟨_, k1, (u_born ty hts k3 hKn hkC e1 k4).to (fun j hj => ?_)⟩
    unfold vp_V
    rw [List.getD_eq_getElem?_getD, fvs_get _ _ _ _ _ _ (by rw [k2]; exact hj)]
    obtain ⟨h6, h9⟩ := k6 j hj
    simp only [Option.getD_some]
    unfold fva
    cases h : ty j <;> rw [h] at h6 <;> simp [fkT] at h6 <;> rw [← h6] <;> first | (simp [defaultValue, gN, rR, rI, rJ, va_rf]; done) | skip
    all_goals (exact absurd h6.symm h9)
  have := k z p l e s m args below meth c C H1 locs ls (hS.push z1 o1) hst hl
  rw [hsz]
  exact this
theorem wp_newa {at' : ArrayType} {tag n ti : Nat} {x : Int32} (d : Dc mi.2.1 pc (.newarray at') 2 q) (hw : Cond.arrayClass (newarray.typeOf at') ∈ gtbl) (hx : x = nI n) (hn : n < 10000) (hk : (at' = .int ∧ tag = 100) ∨ (at' = .byte ∧ tag = 101) ∨ (at' = .long ∧ tag = 102)) (hg : g.1 < 171) (hc : cs + 1 ≤ R.cells ∧ ss + n ≤ R.slots)
    (k : Wp mi R sc Fn (cs + 1) (ss + n) (gN g (tag, n)) (rI I (g.1 + 2)) (rJ J (g.1 + 2)) q Ls (.ref (g.1 + 2) :: st)) : Wp mi R sc Fn cs ss g I J pc Ls (.int x :: st) := by
  obtain ⟨d, rfl⟩ := d
  subst hx
  intro z p l e s m args below meth c C H locs ls hS hP hl
  have hts := C.2.2.2.2.2.2.1
  have hsz := hP.1 hg
  have hnn : n < 2 ^ 31 := Nat.lt_trans hn (by decide)
  refine va_newaK C.1 C.2.1 (hts _ hw) rfl d rfl (nI_pos hnn) (nI_clamp hnn) (by rcases hk with ⟨rfl, -⟩ | ⟨rfl, -⟩ | ⟨rfl, -⟩ <;> simp [newarray.typeOf, componentBytes] <;> omega) hc.1 hc.2 rfl fun H1 cA e1 z1 o1 hAr hNm => ?_
  have hst : Stt z (gN g (tag, n)) (rI I (g.1 + 2)) (rJ J (g.1 + 2)) s H1 := by
    refine hP.push hsz z1 o1 ?_
    have hu : (gN g (tag, n)).2.1 (g.1 + 2) = (tag, n) := by show uS g.2.1 (g.1 + 2) (tag, n) (g.1 + 2) = _; simp [uS]
    have e0 : rI I (g.1 + 2) (g.1 + 2) = fun _ => 0 := by funext j; simp [rI]
    have e00 : rJ J (g.1 + 2) (g.1 + 2) = fun _ => 0 := by funext j; simp [rJ]
    rw [hsz] at e1
    rcases hk with ⟨rfl, rfl⟩ | ⟨rfl, rfl⟩ | ⟨rfl, rfl⟩
    · rw [cel_i hu, e0]
      have hcA : cA = z.2.2.1 := Option.some.inj (hNm.symm.trans (hP.2.2.2.2 0 _ rfl).2)
      subst hcA
      exact e1
    · rw [cel_b hu, e0]
      have hcA : cA = z.2.2.2.1 := Option.some.inj (hNm.symm.trans (hP.2.2.2.2 1 _ rfl).2)
      subst hcA
      exact e1
    · rw [cel_l hu, e00]
      have hcA : cA = z.2.2.2.2.1 := Option.some.inj (hNm.symm.trans (hP.2.2.2.2 2 _ rfl).2)
      subst hcA
      exact e1
  have := k z p l e s m args below meth c C H1 locs ls (hS.push z1 o1) hst hl
  rw [hsz]
  exact this
theorem wp_anew {n : Nat} {x : Int32} (d : Dc mi.2.1 pc (.anewarray idx) 3 q) (h1 : Cond.classLink mi.1.cls idx "LetterCrew$Actor" ∈ gtbl) (hx : x = nI n) (hn : n < 10000) (hg : g.1 < 171) (hc : cs + 1 ≤ R.cells ∧ ss + n ≤ R.slots)
    (k : Wp mi R sc Fn (cs + 1) (ss + n) (gN g (103, n)) (rI I (g.1 + 2)) (rJ J (g.1 + 2)) q Ls (.ref (g.1 + 2) :: st)) : Wp mi R sc Fn cs ss g I J pc Ls (.int x :: st) := by
  obtain ⟨d, rfl⟩ := d
  subst hx
  intro z p l e s m args below meth c C H locs ls hS hP hl
  have hts := C.2.2.2.2.2.2.1
  have hsz := hP.1 hg
  have hnn : n < 2 ^ 31 := Nat.lt_trans hn (by decide)
  have hcl : (nI n).toNatClampNeg = n := nI_clamp hnn
  refine W.anew C.1 C.2.1 C.2.2.2.2.2.1 (hts _ h1) (va_AO.use C.2.2.2.2.2.2.2.2.2.1.1.2) rfl d rfl (nI_pos hnn) (by rw [hcl]; omega) hc.1 (by rw [hcl]; exact hc.2) fun cA kA comp f1 f2 f3 f4 => ?_
  rw [hcl]
  generalize hH1 : H.push ({ cls := cA, slots := Array.replicate n .null, vm := .none } : Cell) = H1
  have z1 : H1.size = H.size + 1 := by rw [← hH1, Array.size_push]
  have e1 : H1[H.size]? = some (arrV cA n (fun _ => .null)) := by rw [← hH1, Array.getElem?_push_size, ← arrV_new]
  have o1 : ∀ q : Nat, q < H.size → H1[q]? = H[q]? := fun q hq => by rw [← hH1, Array.getElem?_push, if_neg (Nat.ne_of_lt hq)]
  have hst : Stt z (gN g (103, n)) (rI I (g.1 + 2)) (rJ J (g.1 + 2)) s H1 := by
    refine hP.push hsz z1 o1 ?_
    have hu : (gN g (103, n)).2.1 (g.1 + 2) = (103, n) := by show uS g.2.1 (g.1 + 2) (103, n) (g.1 + 2) = _; simp [uS]
    have e0 : (fun j => ((gN g (103, n)).2.2 (g.1 + 2) j).map (zad z)) = fun _ => none := by funext j; simp [gN, rR]
    rw [hsz] at e1
    rw [cel_a hu, e0]
    obtain ⟨kA', comp', k1, k2, k3, k4⟩ := (hP.2.2.2.2 3 _ rfl).2
    have hcA : cA = z.2.2.2.2.2 := Option.some.inj (f1.symm.trans k4)
    subst hcA
    exact e1
  have := k z p l e s m args below meth c C H1 locs ls (hS.push z1 o1) hst hl
  rw [hsz]
  exact this
/-- a final reference field in a constructor -/
theorem wp_putA {n b : Nat} (d : Dc mi.2.1 pc (.putfield idx) 3 q) (f : FlA mi.1.cls idx ci fk) (hs : g.2.1 a = (ci, n)) (hown : ∃ (T : u_T) (N : Nat), cls12[ci]? = some (mi.1.cls, T, N)) (hinit : mi.1.name = "<init>") (k : Wp mi R sc Fn cs ss (g.1, g.2.1, uR g.2.2 a fk (some b)) I J q Ls st) : Wp mi R sc Fn cs ss g I J pc Ls (.ref b :: .ref a :: st) := by
  obtain ⟨d, rfl⟩ := d
  obtain ⟨⟨C', T, N, ty, ⟨k1, k2, k3, k4, k5, k6, k7⟩, f1, f2, f3, f4⟩, f5⟩ := f
  intro z p l e s m args below meth c C H locs ls hS hP hl
  obtain ⟨g1, g2⟩ := hP.at hs (by omega)
  rw [cel_o hs k7] at g1
  have hk6 := (k6 fk f1).1
  rw [f5] at hk6
  have hts := C.2.2.2.2.2.2.1
  have hty : narrow (ty fk) (.ref (zad z b)) = .ref (zad z b) ∧ fits (ty fk) (.ref (zad z b)) = true := by
    cases h : ty fk <;> rw [h] at hk6 <;> simp [fkT] at hk6 <;> exact ⟨rfl, rfl⟩
  have hCo : C' = mi.1.cls := by
    obtain ⟨T2, N2, h2⟩ := hown
    have := k1.symm.trans h2
    simp at this
    exact this.1
  have hap := va_apart (own := mi.1.cls) hts k3 ty k4 k5 hP.2.2.2 k1
  obtain ⟨r, h1, cell, q1, q2, q3, q4⟩ := hP.2.2.1 (a - 2) _ g1
  have hr : r = (C', T, N) := Option.some.inj (h1.symm.trans k1)
  subst hr
  obtain ⟨hSl, hfc, kC, hkC, hkind⟩ := hP.2.2.2.1 ci _ k1
  obtain ⟨cf, kf, fi, fld, hi, hsl⟩ := hSl fk f1
  have hlay := hts _ (k3 _ (u_in_lay f1))
  unfold u_lay at hlay
  rw [if_pos f3] at hlay
  have hst := (u_facts hfc hkC (u_lays hts k3 f1) hi).1
  have hcf : m.cls = cf := by
    obtain ⟨_, _, c', _, _, _, -, -, hf', -, -, -, hown2, -⟩ := Cond.laysFinal_spec hlay
    have e1 : c' = cf := by have := hi.symm.trans hf'; simp at this; exact this.1.symm
    rw [f4, hCo] at hown2
    rw [← e1]; exact Option.some.inj (C.2.2.2.2.2.1.symm.trans hown2)
  have h6 := u_fits hfc hkC hkind (Or.inr hlay) hi (k4 fk f1) hty.1 hty.2
  refine W.putFinK C.1 C.2.1 C.2.2.2.2.2.1 (hts _ f2) hi hst hcf (C.2.2.2.2.2.2.2.2.1 hinit) (by rw [q2]; exact h6) q1 q3 (by rw [hsl]; exact k2_hasslot (q4 fk f1)) rfl rfl d fun H' e1 e2 e3 => ?_
  rw [hsl] at e1 ⊢
  have hlen : fk < (fvs z g I J a ci).length := by simp [fvs]; omega
  have hP1 : va_P z.2.1 cls12 ((zws z g I J).set (a - 2) (zad z a, .inr (ci, (fvs z g I J a ci).set fk (.ref (zad z b))))) H' := hP.2.2.1.set (zws_D z g I J) g1 ⟨_, k1, t_OB.to (V := updV (vp_V (fvs z g I J a ci)) fk (.ref (zad z b))) ⟨_, e1, q2, q3, t_set q4 hap f1 _⟩ (fun j _ => vp_updV_set hlen _ j)⟩ e3
  rw [fvs_set z (g' := (g.1, g.2.1, uR g.2.2 a fk (some b))) (I' := I) (J' := J) (by omega) (by unfold fva; rw [f5]; simp [uR, va_rf]) (fun j hj => by unfold fva; simp [uR, hj]), zws_set z (g := g) (I := I) (J := J) (g' := (g.1, g.2.1, uR g.2.2 a fk (some b))) (I' := I) (J' := J) g2 rfl (cel_o hs k7) (fun b' hb => cel_congr rfl (uR_ne hb) rfl rfl)] at hP1
  exact k z p l e s m args below meth c C H' _ ls (hS.put e2 e3 ((zws_D z g I J).2 (a - 2) _ g1)) ⟨fun hh => by rw [e2]; exact hP.1 hh, hP.2.1, hP1, hP.2.2.2⟩ hl
theorem wp_aast {n i b nb : Nat} {x : Int32} (d : Dc mi.2.1 pc .aastore 1 q) (hs : g.2.1 a = (103, n)) (hb : g.2.1 b = (0, nb)) (hx : x = nI i) (hi : i < n) (hn : n < 2 ^ 31) (k : Wp mi R sc Fn cs ss (g.1, g.2.1, uR g.2.2 a i (some b)) I J q Ls st) : Wp mi R sc Fn cs ss g I J pc Ls (.ref b :: .int x :: .ref a :: st) := by
  obtain ⟨d, rfl⟩ := d
  subst hx
  intro z p l e s m args below meth c C H locs ls hS hP hl
  obtain ⟨g1, g2⟩ := hP.at hs (by omega)
  rw [cel_a hs] at g1
  obtain ⟨v1, v2⟩ := hP.at hb (by omega)
  rw [cel_o hb (by omega)] at v1
  have hc0 : cls12[0]? = some (RX0, TX0, 8) := rfl
  have hlt : (nI i).toNatClampNeg < n := by rw [nI_clamp (Nat.lt_trans hi hn)]; exact hi
  have h0 : ¬ nI i < 0 := nI_pos (Nat.lt_trans hi hn)
  obtain ⟨r', hr', cellV, w1, w2, w3, -⟩ := hP.2.2.1 (b - 2) _ v1
  have hcls := (hP.2.2.2.1 0 _ hc0).2
  obtain ⟨kA, comp, k1, k2, k3, -⟩ := (hP.2.2.2.2 3 _ rfl).2
  have hcomp : comp = z.2.1.1 0 := Option.some.inj (k3.symm.trans hcls.1)
  subst hcomp
  obtain ⟨kC, hkC, -⟩ := hcls.2
  refine W.aast C.1 C.2.1 (hP.2.2.1 (a - 2) _ g1) (fun q h => by cases h) (fun h => by cases h) k1 k2 rfl hkC ⟨h0, by show _ < (arrV _ _ _).slots.size; rw [arrV_size]; exact hlt⟩ w1 (fun q h => by rw [w3] at h; cases h) (by rw [w2]; exact hkC) (by rw [w2]; exact va_assign hcls) rfl rfl d fun H1 e' zs oq => ?_
  have hP1 : va_P z.2.1 cls12 ((zws z g I J).set (a - 2) (zad z a, cel z (g.1, g.2.1, uR g.2.2 a i (some b)) I J a)) H1 := by
    refine hP.2.2.1.set (zws_D z g I J) g1 ?_ oq
    rw [cel_a (g := (g.1, g.2.1, uR g.2.2 a i (some b))) hs]
    show H1[zad z a]? = some (vp_cell _ _)
    rw [e', vp_cell_q, vp_cell_q, arrV_store, nI_clamp (Nat.lt_trans hi hn)]
    congr 2
    funext j
    by_cases hj : j = i
    · subst hj
      simp [updV, uR, va_rf]
    · simp [updV, uR, hj]
  rw [zws_set z (g := g) (I := I) (J := J) (g' := (g.1, g.2.1, uR g.2.2 a i (some b))) (I' := I) (J' := J) g2 rfl rfl (fun b' hb' => cel_congr rfl (uR_ne hb') rfl rfl)] at hP1
  exact k z p l e s m args below meth c C H1 _ ls (hS.put zs oq ((zws_D z g I J).2 (a - 2) _ g1)) ⟨fun hh => by rw [zs]; exact hP.1 hh, hP.2.1, hP1, hP.2.2.2⟩ hl
def cpy (I : Mem) (src dst n : Nat) : Mem := fun b k => if b = dst then (if k < n then I src k else I b k) else I b k
theorem wp_copy {n a0 n0 n1 : Nat} {x sp dp : Int32} (d : Dc mi.2.1 pc (.invokestatic idx) 3 q) (lk : Cond.methodLink mi.1.cls idx arraycopyName ∈ gtbl) (h1 : Cond.native arraycopyName ∈ gtbl) (h2 : Cond.static arraycopyName ∈ gtbl) (h3 : Cond.initialized "java/lang/System" ∈ gtbl) (hs0 : g.2.1 a0 = (100, n0)) (hs1 : g.2.1 a = (100, n1)) (hsp : sp = nI 0) (hdp : dp = nI 0) (hx : x = nI n) (hn : n ≤ n0 ∧ n ≤ n1 ∧ n < 10000) (hg : ¬ g.1 < 171) (hR : 1 ≤ R.frames ∧ nativeFrameWords "java/lang/System" "arraycopy" 5 + 19 ≤ R.locals) (hw : (st.map Value.category).sum ≤ 8)
    (k : Wp mi R sc Fn cs ss g (cpy I a0 a n) J q Ls st) : Wp mi R sc Fn cs ss g I J pc Ls (.int x :: .int dp :: .ref a :: .int sp :: .ref a0 :: st) := by
  obtain ⟨d, rfl⟩ := d
  subst hx; subst hsp; subst hdp
  intro z p l e s m args below meth c C H locs ls hS hP hl
  have hts := C.2.2.2.2.2.2.1
  obtain ⟨g1, g2⟩ := hP.at hs0 (by omega)
  rw [cel_i hs0] at g1
  obtain ⟨v1, v2⟩ := hP.at hs1 (by omega)
  rw [cel_i hs1] at v1
  have hnn : n < 2 ^ 31 := Nat.lt_trans hn.2.2 (by decide)
  have c0 : (nI 0).toNatClampNeg = 0 := nI_clamp (by decide)
  have cn : (nI n).toNatClampNeg = n := nI_clamp hnn
  have hws : ((st.map (zv z)).map fun v => v.category).sum ≤ 8 := by rw [List.map_map]; simpa [Function.comp_def, zv_cat] using hw
  have p0 : ¬ nI 0 < 0 := nI_pos (by decide)
  have pn : ¬ nI n < 0 := nI_pos hnn
  have hlo : ((st.map (zv z)).map fun v => v.category).sum + (nativeFrameWords "java/lang/System" "arraycopy" 5 + 11) ≤ R.locals := by
    have := hR.2
    omega
  refine va_copyi C.1 C.2.1 (C.2.2.1.trans hl.1.symm) C.2.2.2.2.2.1 (hts _ lk) (hts _ h1) (hts _ h2) (hts _ h3) hP.2.2.2 hP.2.2.1 (zws_D z g I J) hS (a0 - 2) (a - 2) 0 0 g1 v1 rfl rfl rfl p0 p0 pn (by rw [c0, cn]; omega) (by rw [c0, cn]; omega) (fun i _ => rfl) hR.1 hlo d (fun H1 locs1 hP1 _ hS1 => ?_)
  rw [c0, cn, zws_set z (g' := g) (I' := cpy I a0 a n) (J' := J) v2 rfl (by rw [cel_i hs1]; congr 4; funext j; simp [cpy, va_cpy]) (fun b hb => cel_congr rfl rfl (by funext j; simp [cpy, hb]) rfl)] at hP1
  exact k z p l e s m args below meth c C H1 locs1 ls hS1 (hP.mem (Or.inl hg) hP1) hl
end RULES3
