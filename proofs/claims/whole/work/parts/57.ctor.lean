/-! the constructors: cells are laid one behind the other -/
def gL (sl : List (Nat × Nat)) (rl : List (List (Option Nat))) : Geo := (sl.length, fun a => match a with
  | 0 => (999, 0)
  | 1 => (999, 0)
  | k + 2 => sl.getD k (999, 0), fun a j => match a with
  | 0 => none
  | 1 => none
  | k + 2 => (rl.getD k []).getD j none)
def zM : Mem := fun _ _ => 0
def zJ : Mel := fun _ _ => 0
theorem rI_z (a : Nat) : rI zM a = zM := by funext b k; simp [rI, zM]
theorem rJ_z (a : Nat) : rJ zJ a = zJ := by funext b k; simp [rJ, zJ]
theorem gd_app {α : Type} (l : List α) (x d : α) (t : List α) (k : Nat) : (l ++ x :: t).getD k d = if k < l.length then l.getD k d else if k = l.length then x else t.getD (k - l.length - 1) d := by
  rw [List.getD_eq_getElem?_getD, List.getElem?_append]
  by_cases h : k < l.length
  · rw [if_pos h, if_pos h, List.getD_eq_getElem?_getD]
  · rw [if_neg h, if_neg h]
    by_cases h2 : k = l.length
    · rw [if_pos h2, h2, Nat.sub_self]; rfl
    · rw [if_neg h2, show k - l.length = (k - l.length - 1) + 1 by omega, List.getElem?_cons_succ, List.getD_eq_getElem?_getD, Nat.add_sub_cancel]
theorem gn_eq {sl : List (Nat × Nat)} {rl : List (List (Option Nat))} (h : rl.length = sl.length) (x : Nat × Nat) : gN (gL sl rl) x = gL (sl ++ [x]) (rl ++ [[]]) := by
  unfold gN gL
  refine Prod.ext (by simp) (Prod.ext ?_ ?_)
  · funext a
    match a with
    | 0 => show (if 0 = sl.length + 2 then x else ((999 : Nat), (0 : Nat))) = (999, 0); rw [if_neg (by omega)]
    | 1 => show (if 1 = sl.length + 2 then x else ((999 : Nat), (0 : Nat))) = (999, 0); rw [if_neg (by omega)]
    | k + 2 =>
      show (if k + 2 = sl.length + 2 then x else sl.getD k (999, 0)) = (sl ++ [x]).getD k (999, 0)
      rw [gd_app]
      by_cases e : k = sl.length
      · rw [if_pos (by omega), if_neg (by omega), if_pos e]
      · rw [if_neg (by omega)]
        by_cases e2 : k < sl.length
        · rw [if_pos e2]
        · rw [if_neg e2, if_neg e, List.getD_eq_getElem?_getD, List.getElem?_eq_none (by omega)]; rfl
  · funext a j
    match a with
    | 0 => show (if 0 = sl.length + 2 then none else (none : Option Nat)) = none; rw [if_neg (by omega)]
    | 1 => show (if 1 = sl.length + 2 then none else (none : Option Nat)) = none; rw [if_neg (by omega)]
    | k + 2 =>
      show (if k + 2 = sl.length + 2 then none else (rl.getD k []).getD j none) = ((rl ++ [[]]).getD k []).getD j none
      rw [gd_app]
      by_cases e : k = sl.length
      · rw [if_pos (by omega), if_neg (by omega), if_pos (by omega)]; rfl
      · rw [if_neg (by omega)]
        by_cases e2 : k < rl.length
        · rw [if_pos e2]
        · rw [if_neg e2, if_neg (by omega), show rl.getD k [] = [] by rw [List.getD_eq_getElem?_getD, List.getElem?_eq_none (by omega)]; rfl]; rfl
def setp (l : List (Option Nat)) (j : Nat) (v : Option Nat) : List (Option Nat) := match l, j with
  | [], 0 => [v]
  | [], j + 1 => none :: setp [] j v
  | _ :: t, 0 => v :: t
  | h :: t, j + 1 => h :: setp t j v
theorem setp_get (v : Option Nat) : ∀ (l : List (Option Nat)) (j k : Nat), (setp l j v).getD k none = if k = j then v else l.getD k none
  | [], 0, 0 => rfl
  | [], 0, k + 1 => by simp [setp]
  | [], j + 1, 0 => by simp [setp]
  | [], j + 1, k + 1 => by
    have := setp_get v [] j k
    simp only [setp, List.getD_cons_succ]
    rw [this]
    simp
  | _ :: t, 0, 0 => rfl
  | _ :: t, 0, k + 1 => by simp [setp]
  | h :: t, j + 1, 0 => by simp [setp]
  | h :: t, j + 1, k + 1 => by
    have := setp_get v t j k
    simp only [setp, List.getD_cons_succ]
    rw [this]
    simp
theorem gu0 {sl s1 : List (Nat × Nat)} {rl r1 : List (List (Option Nat))} {x0 : Nat × Nat} {row0 : List (Option Nat)} {L j b : Nat} (h : rl.length = L) : ((gL (sl ++ x0 :: s1) (rl ++ row0 :: r1)).1, (gL (sl ++ x0 :: s1) (rl ++ row0 :: r1)).2.1, uR (gL (sl ++ x0 :: s1) (rl ++ row0 :: r1)).2.2 (L + 2) j (some b)) = gL (sl ++ x0 :: s1) (rl ++ setp row0 j (some b) :: r1) := by
  unfold gL
  refine Prod.ext rfl (Prod.ext rfl ?_)
  funext a q
  match a with
  | 0 => show (if 0 = L + 2 then (if q = j then some b else (none : Option Nat)) else none) = none; rw [if_neg (by omega)]
  | 1 => show (if 1 = L + 2 then (if q = j then some b else (none : Option Nat)) else none) = none; rw [if_neg (by omega)]
  | k + 2 =>
    show (if k + 2 = L + 2 then (if q = j then some b else ((rl ++ row0 :: r1).getD k []).getD q none) else ((rl ++ row0 :: r1).getD k []).getD q none) = ((rl ++ setp row0 j (some b) :: r1).getD k []).getD q none
    rw [gd_app, gd_app]
    by_cases e : k = L
    · rw [if_pos (show k + 2 = L + 2 by omega), if_neg (show ¬ k < rl.length by omega), if_pos (show k = rl.length by omega), if_neg (show ¬ k < rl.length by omega), if_pos (show k = rl.length by omega), setp_get]
    · rw [if_neg (by omega)]
      by_cases e2 : k < rl.length
      · rw [if_pos e2, if_pos e2]
      · rw [if_neg e2, if_neg e2, if_neg (by omega), if_neg (by omega)]
theorem gu1 {sl s1 : List (Nat × Nat)} {rl r1 : List (List (Option Nat))} {x0 x1 : Nat × Nat} {row0 row1 : List (Option Nat)} {L j b : Nat} (h : rl.length = L) : ((gL (sl ++ x0 :: x1 :: s1) (rl ++ row0 :: row1 :: r1)).1, (gL (sl ++ x0 :: x1 :: s1) (rl ++ row0 :: row1 :: r1)).2.1, uR (gL (sl ++ x0 :: x1 :: s1) (rl ++ row0 :: row1 :: r1)).2.2 (L + 3) j (some b)) = gL (sl ++ x0 :: x1 :: s1) (rl ++ row0 :: setp row1 j (some b) :: r1) := by
  have := gu0 (sl := sl ++ [x0]) (rl := rl ++ [row0]) (x0 := x1) (row0 := row1) (s1 := s1) (r1 := r1) (L := L + 1) (j := j) (b := b) (by simp [h])
  simpa using this
theorem gl_s {sl s : List (Nat × Nat)} {rr : List (List (Option Nat))} {L i : Nat} {x : Nat × Nat} (h : sl.length = L) (hx : s[i]? = some x) : (gL (sl ++ s) rr).2.1 (L + (i + 2)) = x := by
  show (sl ++ s).getD (L + i) (999, 0) = x
  rw [List.getD_eq_getElem?_getD, List.getElem?_append, if_neg (by omega), show L + i - sl.length = i by omega, hx]; rfl
theorem gl_r {ss : List (Nat × Nat)} {rl r : List (List (Option Nat))} {L i j b : Nat} {row : List (Option Nat)} (h : rl.length = L) (hx : r[i]? = some row) (hj : row.getD j none = some b) : (gL ss (rl ++ r)).2.2 (L + (i + 2)) j = some b := by
  show ((rl ++ r).getD (L + i) []).getD j none = some b
  have e : (rl ++ r).getD (L + i) [] = row := by rw [List.getD_eq_getElem?_getD, List.getElem?_append, if_neg (by omega), show L + i - rl.length = i by omega, hx]; rfl
  rw [e]; exact hj
section KR
variable {mi : MI} {R : Room} {sc : Option (Nat × (Nat → Int32))} {Fn : FinT} {cs ss : Nat} {pc q idx ci fk : Nat} {Ls st : List Value} {sl s1 : List (Nat × Nat)} {rl r1 : List (List (Option Nat))} {x0 : Nat × Nat} {row0 : List (Option Nat)} {L m : Nat}
theorem k_new (hl : sl.length = L) (hr : rl.length = L) (hm1 : s1.length = m) (hm2 : r1.length = m) (hg : L + 1 + m < 171) {C' : String} {T : u_T} {N : Nat} {ty : Nat → FieldType} (d : Dc mi.2.1 pc (.new idx) 3 q) (ck : Ck ci C' T N ty) (h1 : Cond.classLink mi.1.cls idx C' ∈ gtbl) (h2 : Cond.instantiable C' N ∈ gtbl) (h3 : Cond.initialized C' ∈ gtbl) (hc : cs + 1 ≤ R.cells ∧ ss + N ≤ R.slots)
    (k : Wp mi R sc Fn (cs + 1) (ss + N) (gL (sl ++ x0 :: (s1 ++ [(ci, 0)])) (rl ++ row0 :: (r1 ++ [[]]))) zM zJ q Ls (.ref (L + (m + 3)) :: st)) : Wp mi R sc Fn cs ss (gL (sl ++ x0 :: s1) (rl ++ row0 :: r1)) zM zJ pc Ls st := by
  have e : (gL (sl ++ x0 :: s1) (rl ++ row0 :: r1)).1 + 2 = L + (m + 3) := by show (sl ++ x0 :: s1).length + 2 = _; simp; omega
  refine wp_new d ck h1 h2 h3 (by show (sl ++ x0 :: s1).length < 171; simp; omega) hc ?_
  rw [gn_eq (by simp; omega), rI_z, rJ_z, e, List.append_assoc, List.append_assoc]
  exact k
theorem k_newa (hl : sl.length = L) (hr : rl.length = L) (hm1 : s1.length = m) (hm2 : r1.length = m) (hg : L + 1 + m < 171) {at' : ArrayType} {tag n : Nat} {x : Int32} (d : Dc mi.2.1 pc (.newarray at') 2 q) (hw : Cond.arrayClass (newarray.typeOf at') ∈ gtbl) (hx : x = nI n) (hn : n < 10000) (hk : (at' = .int ∧ tag = 100) ∨ (at' = .byte ∧ tag = 101) ∨ (at' = .long ∧ tag = 102)) (hc : cs + 1 ≤ R.cells ∧ ss + n ≤ R.slots)
    (k : Wp mi R sc Fn (cs + 1) (ss + n) (gL (sl ++ x0 :: (s1 ++ [(tag, n)])) (rl ++ row0 :: (r1 ++ [[]]))) zM zJ q Ls (.ref (L + (m + 3)) :: st)) : Wp mi R sc Fn cs ss (gL (sl ++ x0 :: s1) (rl ++ row0 :: r1)) zM zJ pc Ls (.int x :: st) := by
  have e : (gL (sl ++ x0 :: s1) (rl ++ row0 :: r1)).1 + 2 = L + (m + 3) := by show (sl ++ x0 :: s1).length + 2 = _; simp; omega
  refine wp_newa (ti := 0) d hw hx hn hk (by show (sl ++ x0 :: s1).length < 171; simp; omega) hc ?_
  rw [gn_eq (by simp; omega), rI_z, rJ_z, e, List.append_assoc, List.append_assoc]
  exact k
theorem k_anew (hl : sl.length = L) (hr : rl.length = L) (hm1 : s1.length = m) (hm2 : r1.length = m) (hg : L + 1 + m < 171) {n : Nat} {x : Int32} (d : Dc mi.2.1 pc (.anewarray idx) 3 q) (h1 : Cond.classLink mi.1.cls idx "LetterCrew$Actor" ∈ gtbl) (hx : x = nI n) (hn : n < 10000) (hc : cs + 1 ≤ R.cells ∧ ss + n ≤ R.slots)
    (k : Wp mi R sc Fn (cs + 1) (ss + n) (gL (sl ++ x0 :: (s1 ++ [(103, n)])) (rl ++ row0 :: (r1 ++ [[]]))) zM zJ q Ls (.ref (L + (m + 3)) :: st)) : Wp mi R sc Fn cs ss (gL (sl ++ x0 :: s1) (rl ++ row0 :: r1)) zM zJ pc Ls (.int x :: st) := by
  have e : (gL (sl ++ x0 :: s1) (rl ++ row0 :: r1)).1 + 2 = L + (m + 3) := by show (sl ++ x0 :: s1).length + 2 = _; simp; omega
  refine wp_anew d h1 hx hn (by show (sl ++ x0 :: s1).length < 171; simp; omega) hc ?_
  rw [gn_eq (by simp; omega), rI_z, rJ_z, e, List.append_assoc, List.append_assoc]
  exact k
theorem k_put (hl : sl.length = L) (hr : rl.length = L) {n b : Nat} (d : Dc mi.2.1 pc (.putfield idx) 3 q) (f : FlA mi.1.cls idx ci fk) (hx0 : x0 = (ci, n)) (hown : ∃ (T : u_T) (N : Nat), cls12[ci]? = some (mi.1.cls, T, N)) (hinit : mi.1.name = "<init>")
    (k : Wp mi R sc Fn cs ss (gL (sl ++ x0 :: s1) (rl ++ setp row0 fk (some b) :: r1)) zM zJ q Ls st) : Wp mi R sc Fn cs ss (gL (sl ++ x0 :: s1) (rl ++ row0 :: r1)) zM zJ pc Ls (.ref b :: .ref (L + 2) :: st) := by
  refine wp_putA (n := n) d f (gl_s (i := 0) hl (by rw [← hx0]; rfl)) hown hinit ?_
  rw [gu0 hr]; exact k
theorem k_aast {x1 : Nat × Nat} {row1 : List (Option Nat)} (hl : sl.length = L) (hr : rl.length = L) {n i b nb : Nat} {x : Int32} (d : Dc mi.2.1 pc .aastore 1 q) (hx1 : x1 = (103, n)) {jb : Nat} (hjb : b = L + (jb + 2)) (hb : (x0 :: x1 :: s1)[jb]? = some (0, nb)) (hx : x = nI i) (hi : i < n) (hn : n < 2 ^ 31)
    (k : Wp mi R sc Fn cs ss (gL (sl ++ x0 :: x1 :: s1) (rl ++ row0 :: setp row1 i (some b) :: r1)) zM zJ q Ls st) : Wp mi R sc Fn cs ss (gL (sl ++ x0 :: x1 :: s1) (rl ++ row0 :: row1 :: r1)) zM zJ pc Ls (.ref b :: .int x :: .ref (L + 3) :: st) := by
  subst hjb
  refine wp_aast (n := n) (nb := nb) d (gl_s (i := 1) hl (by rw [← hx1]; rfl)) (gl_s hl hb) hx hi hn ?_
  rw [gu1 hr]; exact k
/-- a constructor's contract: what it lays behind all that was there -/
def MC (mj : MI) (rm : Room) (av : List Value) (c0 : Nat × Nat) (bS : List (Nat × Nat)) (bR : Nat → List (List (Option Nat))) : Prop := ∀ (sl : List (Nat × Nat)) (rl : List (List (Option Nat))) (L : Nat) (Q : Option Value → Geo → Mem → Mel → Prop), sl.length = L → rl.length = L → L + bS.length ≤ 171 → Q none (gL (sl ++ bS) (rl ++ bR L)) zM zJ → Mt mj rm (.ref (L + 2) :: av) (gL (sl ++ [c0]) (rl ++ [[]])) zM zJ Q
theorem k_call {mj : MI} {rm : Room} {n : Nat} {av : List Value} {c0 : Nat × Nat} {bS : List (Nat × Nat)} {bR : Nat → List (List (Option Nat))} (hl : sl.length = L) (hr : rl.length = L) (hm1 : s1.length = m) (hm2 : r1.length = m) (hM : MC mj rm av c0 bS bR) (hg : L + 1 + m + bS.length ≤ 171) (hret : mj.2.2.2 = none) (d : Dc mi.2.1 pc (.invokespecial idx) 3 q) (lk : (mi.1.cls, idx, mj.1) ∈ nstl) (mk : MokI mj n) (hav : av.length = n) (hR : rm.frames + 1 ≤ R.frames ∧ 8 + (mj.2.2.1 + 11) + rm.locals ≤ R.locals) (hc : cs + rm.cells ≤ R.cells ∧ ss + rm.slots ≤ R.slots) (hw : (st.map Value.category).sum ≤ 8) {stk : List Value} (hstk : stk = av.reverse ++ .ref (L + (m + 3)) :: st)
    (k : Wp mi R sc Fn (cs + rm.cells) (ss + rm.slots) (gL (sl ++ x0 :: (s1 ++ bS)) (rl ++ row0 :: (r1 ++ bR (L + (1 + m))))) zM zJ q Ls st) : Wp mi R sc Fn cs ss (gL (sl ++ x0 :: (s1 ++ [c0])) (rl ++ row0 :: (r1 ++ [[]]))) zM zJ pc Ls stk := by
  refine wp_callN (a := L + (m + 3)) hret d lk mk hav hstk hR hc hw ?_
  have := hM (sl ++ x0 :: s1) (rl ++ row0 :: r1) (L + (1 + m)) (fun r g' I' J' => Wp mi R sc Fn (cs + rm.cells) (ss + rm.slots) g' I' J' q Ls (pushR r st)) (by simp; omega) (by simp; omega) (by omega) (by rw [List.append_assoc, List.append_assoc]; exact k)
  rw [List.append_assoc, List.append_assoc, show L + (1 + m) + 2 = L + (m + 3) by omega] at this
  exact this
theorem k_calI {mj : MI} {rm : Room} {n : Nat} {av : List Value} {c0 : Nat × Nat} {bS : List (Nat × Nat)} {bR : Nat → List (List (Option Nat))} (hl : sl.length = L) (hr : rl.length = L) (hm1 : s1.length = m) (hm2 : r1.length = m) (hM : MC mj rm av c0 bS bR) (hg : L + 1 + m + bS.length ≤ 171) (hret : mj.2.2.2 = none) (d : Dc mi.2.1 pc (.invokespecial idx) 3 q) (lk : Cond.methodLink mi.1.cls idx mj.1 ∈ gtbl) (mk : MokI mj n) (hav : av.length = n) (hR : rm.frames + 1 ≤ R.frames ∧ 8 + (mj.2.2.1 + 11) + rm.locals ≤ R.locals) (hc : cs + rm.cells ≤ R.cells ∧ ss + rm.slots ≤ R.slots) (hw : (st.map Value.category).sum ≤ 8) {stk : List Value} (hstk : stk = av.reverse ++ .ref (L + (m + 3)) :: st)
    (k : Wp mi R sc Fn (cs + rm.cells) (ss + rm.slots) (gL (sl ++ x0 :: (s1 ++ bS)) (rl ++ row0 :: (r1 ++ bR (L + (1 + m))))) zM zJ q Ls st) : Wp mi R sc Fn cs ss (gL (sl ++ x0 :: (s1 ++ [c0])) (rl ++ row0 :: (r1 ++ [[]]))) zM zJ pc Ls stk := by
  refine wp_callI (a := L + (m + 3)) hret d lk mk hav hstk hR hc hw ?_
  have := hM (sl ++ x0 :: s1) (rl ++ row0 :: r1) (L + (1 + m)) (fun r g' I' J' => Wp mi R sc Fn (cs + rm.cells) (ss + rm.slots) g' I' J' q Ls (pushR r st)) (by simp; omega) (by simp; omega) (by omega) (by rw [List.append_assoc, List.append_assoc]; exact k)
  rw [List.append_assoc, List.append_assoc, show L + (1 + m) + 2 = L + (m + 3) by omega] at this
  exact this
end KR
abbrev rmc (d c s : Nat) : Room := { frames := d, cells := c, slots := s, locals := 36 * d }
def bS_X5_init : List (Nat × Nat) := [(5, 0), (100, 84)]
def bR_X5_init (L : Nat) : List (List (Option Nat)) := [[some (L + 3)], []]
set_option maxHeartbeats 4000000 in
theorem mc_X5_init : MC mX5_init (rmc 1 1 84) [] (5, 0) bS_X5_init bR_X5_init := by
  intro sl rl L Q hl_q hr_q hb_q k_q
  have hb2_q : L + 2 ≤ 171 := hb_q
  refine mt_of (Ls := [.ref (L + 2)]) moX5_init (Nat.le_of_ble_eq_true rfl) rfl ?_
  refine wp_aload_n dX5_init_0 rfl ?_
  refine wp_objInit dX5_init_1 lkRX5_3 objI1 objI2 (by decide) (Nat.le_of_ble_eq_true rfl) ?_
  refine wp_aload_n dX5_init_4 rfl ?_
  refine wp_bipush 84 dX5_init_5 (by decide) ?_
  refine k_newa (m := 0) (n := 84) (tag := 100) hl_q hr_q rfl rfl (by omega) dX5_init_7 arrc_int rfl (by decide) (Or.inl ⟨rfl, rfl⟩) (by decide) ?_
  refine k_put (n := 0) hl_q hr_q dX5_init_9 flRX5_9 rfl ⟨_, _, rfl⟩ rfl ?_
  exact wp_vret dX5_init_12 rfl (Nat.le_of_ble_eq_true rfl) (Nat.le_of_ble_eq_true rfl) k_q
def bS_X4_init : List (Nat × Nat) := [(4, 0), (100, 6), (100, 6)]
def bR_X4_init (L : Nat) : List (List (Option Nat)) := [[some (L + 3), some (L + 4)], [], []]
set_option maxHeartbeats 4000000 in
theorem mc_X4_init : MC mX4_init (rmc 1 2 12) [] (4, 0) bS_X4_init bR_X4_init := by
  intro sl rl L Q hl_q hr_q hb_q k_q
  have hb2_q : L + 3 ≤ 171 := hb_q
  refine mt_of (Ls := [.ref (L + 2)]) moX4_init (Nat.le_of_ble_eq_true rfl) rfl ?_
  refine wp_aload_n dX4_init_0 rfl ?_
  refine wp_objInit dX4_init_1 lkRX4_3 objI1 objI2 (by decide) (Nat.le_of_ble_eq_true rfl) ?_
  refine wp_aload_n dX4_init_4 rfl ?_
  refine wp_bipush 6 dX4_init_5 (by decide) ?_
  refine k_newa (m := 0) (n := 6) (tag := 100) hl_q hr_q rfl rfl (by omega) dX4_init_7 arrc_int rfl (by decide) (Or.inl ⟨rfl, rfl⟩) (by decide) ?_
  refine k_put (n := 0) hl_q hr_q dX4_init_9 flRX4_9 rfl ⟨_, _, rfl⟩ rfl ?_
  refine wp_aload_n dX4_init_12 rfl ?_
  refine wp_bipush 6 dX4_init_13 (by decide) ?_
  refine k_newa (m := 1) (n := 6) (tag := 100) hl_q hr_q rfl rfl (by omega) dX4_init_15 arrc_int rfl (by decide) (Or.inl ⟨rfl, rfl⟩) (by decide) ?_
  refine k_put (n := 0) hl_q hr_q dX4_init_17 flRX4_15 rfl ⟨_, _, rfl⟩ rfl ?_
  exact wp_vret dX4_init_20 rfl (Nat.le_of_ble_eq_true rfl) (Nat.le_of_ble_eq_true rfl) k_q
def bS_X1_init : List (Nat × Nat) := [(1, 0), (100, 5), (100, 5)]
def bR_X1_init (L : Nat) : List (List (Option Nat)) := [[some (L + 3), some (L + 4)], [], []]
set_option maxHeartbeats 4000000 in
theorem mc_X1_init : MC mX1_init (rmc 1 2 10) [] (1, 0) bS_X1_init bR_X1_init := by
  intro sl rl L Q hl_q hr_q hb_q k_q
  have hb2_q : L + 3 ≤ 171 := hb_q
  refine mt_of (Ls := [.ref (L + 2)]) moX1_init (Nat.le_of_ble_eq_true rfl) rfl ?_
  refine wp_aload_n dX1_init_0 rfl ?_
  refine wp_objInit dX1_init_1 lkRX1_3 objI1 objI2 (by decide) (Nat.le_of_ble_eq_true rfl) ?_
  refine wp_aload_n dX1_init_4 rfl ?_
  refine wp_iconst 5 dX1_init_5 (by decide) ?_
  refine k_newa (m := 0) (n := 5) (tag := 100) hl_q hr_q rfl rfl (by omega) dX1_init_6 arrc_int rfl (by decide) (Or.inl ⟨rfl, rfl⟩) (by decide) ?_
  refine k_put (n := 0) hl_q hr_q dX1_init_8 flRX1_9 rfl ⟨_, _, rfl⟩ rfl ?_
  refine wp_aload_n dX1_init_11 rfl ?_
  refine wp_iconst 5 dX1_init_12 (by decide) ?_
  refine k_newa (m := 1) (n := 5) (tag := 100) hl_q hr_q rfl rfl (by omega) dX1_init_13 arrc_int rfl (by decide) (Or.inl ⟨rfl, rfl⟩) (by decide) ?_
  refine k_put (n := 0) hl_q hr_q dX1_init_15 flRX1_15 rfl ⟨_, _, rfl⟩ rfl ?_
  exact wp_vret dX1_init_18 rfl (Nat.le_of_ble_eq_true rfl) (Nat.le_of_ble_eq_true rfl) k_q
def bS_X8_init : List (Nat × Nat) := [(8, 0), (100, 6), (100, 6)]
def bR_X8_init (L : Nat) : List (List (Option Nat)) := [[some (L + 3), some (L + 4)], [], []]
set_option maxHeartbeats 4000000 in
theorem mc_X8_init : MC mX8_init (rmc 1 2 12) [] (8, 0) bS_X8_init bR_X8_init := by
  intro sl rl L Q hl_q hr_q hb_q k_q
  have hb2_q : L + 3 ≤ 171 := hb_q
  refine mt_of (Ls := [.ref (L + 2)]) moX8_init (Nat.le_of_ble_eq_true rfl) rfl ?_
  refine wp_aload_n dX8_init_0 rfl ?_
  refine wp_objInit dX8_init_1 lkRX8_3 objI1 objI2 (by decide) (Nat.le_of_ble_eq_true rfl) ?_
  refine wp_aload_n dX8_init_4 rfl ?_
  refine wp_bipush 6 dX8_init_5 (by decide) ?_
  refine k_newa (m := 0) (n := 6) (tag := 100) hl_q hr_q rfl rfl (by omega) dX8_init_7 arrc_int rfl (by decide) (Or.inl ⟨rfl, rfl⟩) (by decide) ?_
  refine k_put (n := 0) hl_q hr_q dX8_init_9 flRX8_9 rfl ⟨_, _, rfl⟩ rfl ?_
  refine wp_aload_n dX8_init_12 rfl ?_
  refine wp_bipush 6 dX8_init_13 (by decide) ?_
  refine k_newa (m := 1) (n := 6) (tag := 100) hl_q hr_q rfl rfl (by omega) dX8_init_15 arrc_int rfl (by decide) (Or.inl ⟨rfl, rfl⟩) (by decide) ?_
  refine k_put (n := 0) hl_q hr_q dX8_init_17 flRX8_15 rfl ⟨_, _, rfl⟩ rfl ?_
  exact wp_vret dX8_init_20 rfl (Nat.le_of_ble_eq_true rfl) (Nat.le_of_ble_eq_true rfl) k_q
def bS_X9_init : List (Nat × Nat) := [(9, 0), (102, 366)]
def bR_X9_init (L : Nat) : List (List (Option Nat)) := [[some (L + 3)], []]
set_option maxHeartbeats 4000000 in
theorem mc_X9_init : MC mX9_init (rmc 1 1 366) [] (9, 0) bS_X9_init bR_X9_init := by
  intro sl rl L Q hl_q hr_q hb_q k_q
  have hb2_q : L + 2 ≤ 171 := hb_q
  refine mt_of (Ls := [.ref (L + 2)]) moX9_init (Nat.le_of_ble_eq_true rfl) rfl ?_
  refine wp_aload_n dX9_init_0 rfl ?_
  refine wp_objInit dX9_init_1 lkRX9_3 objI1 objI2 (by decide) (Nat.le_of_ble_eq_true rfl) ?_
  refine wp_aload_n dX9_init_4 rfl ?_
  refine wp_sipush 366 dX9_init_5 (by decide) ?_
  refine k_newa (m := 0) (n := 366) (tag := 102) hl_q hr_q rfl rfl (by omega) dX9_init_8 arrc_long rfl (by decide) (Or.inr (Or.inr ⟨rfl, rfl⟩)) (by decide) ?_
  refine k_put (n := 0) hl_q hr_q dX9_init_10 flRX9_9 rfl ⟨_, _, rfl⟩ rfl ?_
  exact wp_vret dX9_init_13 rfl (Nat.le_of_ble_eq_true rfl) (Nat.le_of_ble_eq_true rfl) k_q
def bS_X3_init : List (Nat × Nat) := [(3, 0)]
def bR_X3_init (L : Nat) : List (List (Option Nat)) := [[]]
set_option maxHeartbeats 4000000 in
theorem mc_X3_init : MC mX3_init (rmc 1 0 0) [] (3, 0) bS_X3_init bR_X3_init := by
  intro sl rl L Q hl_q hr_q hb_q k_q
  have hb2_q : L + 1 ≤ 171 := hb_q
  refine mt_of (Ls := [.ref (L + 2)]) moX3_init (Nat.le_of_ble_eq_true rfl) rfl ?_
  refine wp_aload_n dX3_init_0 rfl ?_
  refine wp_objInit dX3_init_1 lkRX3_1 objI1 objI2 (by decide) (Nat.le_of_ble_eq_true rfl) ?_
  exact wp_vret dX3_init_4 rfl (Nat.le_of_ble_eq_true rfl) (Nat.le_of_ble_eq_true rfl) k_q
def bS_X6_init : List (Nat × Nat) := [(6, 0), (100, 6), (100, 6), (100, 18), (100, 18), (100, 18), (4, 0), (100, 6), (100, 6)]
def bR_X6_init (L : Nat) : List (List (Option Nat)) := [[some (L + 3), some (L + 4), some (L + 5), some (L + 6), some (L + 7), some (L + 8)], [], [], [], [], [], [some (L + 9), some (L + 10)], [], []]
set_option maxHeartbeats 4000000 in
theorem mc_X6_init : MC mX6_init (rmc 2 8 81) [] (6, 0) bS_X6_init bR_X6_init := by
  intro sl rl L Q hl_q hr_q hb_q k_q
  have hb2_q : L + 9 ≤ 171 := hb_q
  refine mt_of (Ls := [.ref (L + 2)]) moX6_init (Nat.le_of_ble_eq_true rfl) rfl ?_
  refine wp_aload_n dX6_init_0 rfl ?_
  refine wp_objInit dX6_init_1 lkRX6_3 objI1 objI2 (by decide) (Nat.le_of_ble_eq_true rfl) ?_
  refine wp_aload_n dX6_init_4 rfl ?_
  refine wp_bipush 6 dX6_init_5 (by decide) ?_
  refine k_newa (m := 0) (n := 6) (tag := 100) hl_q hr_q rfl rfl (by omega) dX6_init_7 arrc_int rfl (by decide) (Or.inl ⟨rfl, rfl⟩) (by decide) ?_
  refine k_put (n := 0) hl_q hr_q dX6_init_9 flRX6_9 rfl ⟨_, _, rfl⟩ rfl ?_
  refine wp_aload_n dX6_init_12 rfl ?_
  refine wp_bipush 6 dX6_init_13 (by decide) ?_
  refine k_newa (m := 1) (n := 6) (tag := 100) hl_q hr_q rfl rfl (by omega) dX6_init_15 arrc_int rfl (by decide) (Or.inl ⟨rfl, rfl⟩) (by decide) ?_
  refine k_put (n := 0) hl_q hr_q dX6_init_17 flRX6_15 rfl ⟨_, _, rfl⟩ rfl ?_
  refine wp_aload_n dX6_init_20 rfl ?_
  refine wp_bipush 18 dX6_init_21 (by decide) ?_
  refine k_newa (m := 2) (n := 18) (tag := 100) hl_q hr_q rfl rfl (by omega) dX6_init_23 arrc_int rfl (by decide) (Or.inl ⟨rfl, rfl⟩) (by decide) ?_
  refine k_put (n := 0) hl_q hr_q dX6_init_25 flRX6_18 rfl ⟨_, _, rfl⟩ rfl ?_
  refine wp_aload_n dX6_init_28 rfl ?_
  refine wp_bipush 18 dX6_init_29 (by decide) ?_
  refine k_newa (m := 3) (n := 18) (tag := 100) hl_q hr_q rfl rfl (by omega) dX6_init_31 arrc_int rfl (by decide) (Or.inl ⟨rfl, rfl⟩) (by decide) ?_
  refine k_put (n := 0) hl_q hr_q dX6_init_33 flRX6_21 rfl ⟨_, _, rfl⟩ rfl ?_
  refine wp_aload_n dX6_init_36 rfl ?_
  refine wp_bipush 18 dX6_init_37 (by decide) ?_
  refine k_newa (m := 4) (n := 18) (tag := 100) hl_q hr_q rfl rfl (by omega) dX6_init_39 arrc_int rfl (by decide) (Or.inl ⟨rfl, rfl⟩) (by decide) ?_
  refine k_put (n := 0) hl_q hr_q dX6_init_41 flRX6_24 rfl ⟨_, _, rfl⟩ rfl ?_
  refine wp_aload_n dX6_init_44 rfl ?_
  refine k_new (m := 5) hl_q hr_q rfl rfl (by omega) dX6_init_45 ckX4 klRX6_27 inst4 init4 (by decide) ?_
  refine wp_dup dX6_init_48 rfl ?_
  refine k_call (m := 5) (R := rmc 2 8 81) hl_q hr_q rfl rfl mc_X4_init (by simp [bS_X4_init]; omega) rfl dX6_init_49 lnRX6_29 mkX4_init rfl (by decide) (by decide) (Nat.le_of_ble_eq_true rfl) rfl ?_
  refine k_put (n := 0) hl_q hr_q dX6_init_52 flRX6_30 rfl ⟨_, _, rfl⟩ rfl ?_
  exact wp_vret dX6_init_55 rfl (Nat.le_of_ble_eq_true rfl) (Nat.le_of_ble_eq_true rfl) k_q
def bS_X7_init : List (Nat × Nat) := [(7, 0), (6, 0), (100, 6), (100, 6), (100, 18), (100, 18), (100, 18), (4, 0), (100, 6), (100, 6)]
def bR_X7_init (L : Nat) : List (List (Option Nat)) := [[some (L + 3)], [some (L + 4), some (L + 5), some (L + 6), some (L + 7), some (L + 8), some (L + 9)], [], [], [], [], [], [some (L + 10), some (L + 11)], [], []]
set_option maxHeartbeats 4000000 in
theorem mc_X7_init : MC mX7_init (rmc 3 9 88) [] (7, 0) bS_X7_init bR_X7_init := by
  intro sl rl L Q hl_q hr_q hb_q k_q
  have hb2_q : L + 10 ≤ 171 := hb_q
  refine mt_of (Ls := [.ref (L + 2)]) moX7_init (Nat.le_of_ble_eq_true rfl) rfl ?_
  refine wp_aload_n dX7_init_0 rfl ?_
  refine wp_objInit dX7_init_1 lkRX7_3 objI1 objI2 (by decide) (Nat.le_of_ble_eq_true rfl) ?_
  refine wp_aload_n dX7_init_4 rfl ?_
  refine k_new (m := 0) hl_q hr_q rfl rfl (by omega) dX7_init_5 ckX6 klRX7_9 inst6 init6 (by decide) ?_
  refine wp_dup dX7_init_8 rfl ?_
  refine k_call (m := 0) (R := rmc 3 9 88) hl_q hr_q rfl rfl mc_X6_init (by simp [bS_X6_init]; omega) rfl dX7_init_9 lnRX7_11 mkX6_init rfl (by decide) (by decide) (Nat.le_of_ble_eq_true rfl) rfl ?_
  refine k_put (n := 0) hl_q hr_q dX7_init_12 flRX7_12 rfl ⟨_, _, rfl⟩ rfl ?_
  exact wp_vret dX7_init_15 rfl (Nat.le_of_ble_eq_true rfl) (Nat.le_of_ble_eq_true rfl) k_q
def bS_X0_init : List (Nat × Nat) := [(0, 0), (1, 0), (100, 5), (100, 5)]
def bR_X0_init (L : Nat) : List (List (Option Nat)) := [[some (L + 3)], [some (L + 4), some (L + 5)], [], []]
set_option maxHeartbeats 4000000 in
theorem mc_X0_init : MC mX0_init (rmc 2 3 13) [] (0, 0) bS_X0_init bR_X0_init := by
  intro sl rl L Q hl_q hr_q hb_q k_q
  have hb2_q : L + 4 ≤ 171 := hb_q
  refine mt_of (Ls := [.ref (L + 2)]) moX0_init (Nat.le_of_ble_eq_true rfl) rfl ?_
  refine wp_aload_n dX0_init_0 rfl ?_
  refine wp_objInit dX0_init_1 lkRX0_3 objI1 objI2 (by decide) (Nat.le_of_ble_eq_true rfl) ?_
  refine wp_aload_n dX0_init_4 rfl ?_
  refine k_new (m := 0) hl_q hr_q rfl rfl (by omega) dX0_init_5 ckX1 klRX0_9 inst1 init1 (by decide) ?_
  refine wp_dup dX0_init_8 rfl ?_
  refine k_call (m := 0) (R := rmc 2 3 13) hl_q hr_q rfl rfl mc_X1_init (by simp [bS_X1_init]; omega) rfl dX0_init_9 lnRX0_11 mkX1_init rfl (by decide) (by decide) (Nat.le_of_ble_eq_true rfl) rfl ?_
  refine k_put (n := 0) hl_q hr_q dX0_init_12 flRX0_12 rfl ⟨_, _, rfl⟩ rfl ?_
  exact wp_vret dX0_init_15 rfl (Nat.le_of_ble_eq_true rfl) (Nat.le_of_ble_eq_true rfl) k_q
def bS_X2_init : List (Nat × Nat) := [(2, 0), (103, 6), (4, 0), (100, 6), (100, 6), (8, 0), (100, 6), (100, 6), (100, 128), (0, 0), (1, 0), (100, 5), (100, 5), (0, 0), (1, 0), (100, 5), (100, 5), (0, 0), (1, 0), (100, 5), (100, 5), (0, 0), (1, 0), (100, 5), (100, 5), (0, 0), (1, 0), (100, 5), (100, 5), (0, 0), (1, 0), (100, 5), (100, 5)]
def bR_X2_init (P : Nat) (L : Nat) : List (List (Option Nat)) := [[some P, some (L + 3), some (L + 4), some (L + 7), some (L + 10)], [some (L + 11), some (L + 15), some (L + 19), some (L + 23), some (L + 27), some (L + 31)], [some (L + 5), some (L + 6)], [], [], [some (L + 8), some (L + 9)], [], [], [], [some (L + 12)], [some (L + 13), some (L + 14)], [], [], [some (L + 16)], [some (L + 17), some (L + 18)], [], [], [some (L + 20)], [some (L + 21), some (L + 22)], [], [], [some (L + 24)], [some (L + 25), some (L + 26)], [], [], [some (L + 28)], [some (L + 29), some (L + 30)], [], [], [some (L + 32)], [some (L + 33), some (L + 34)], [], []]
set_option maxHeartbeats 4000000 in
theorem mc_X2_init (P : Nat) : MC mX2_init (rmc 3 32 290) [.ref P] (2, 0) bS_X2_init (bR_X2_init P) := by
  intro sl rl L Q hl_q hr_q hb_q k_q
  have hb2_q : L + 33 ≤ 171 := hb_q
  refine mt_of (Ls := [.ref (L + 2), .ref P, dum]) moX2_init (Nat.le_of_ble_eq_true rfl) rfl ?_
  refine wp_aload_n dX2_init_0 rfl ?_
  refine wp_objInit dX2_init_1 lkRX2_3 objI1 objI2 (by decide) (Nat.le_of_ble_eq_true rfl) ?_
  refine wp_aload_n dX2_init_4 rfl ?_
  refine wp_bipush 6 dX2_init_5 (by decide) ?_
  refine k_anew (m := 0) (n := 6) hl_q hr_q rfl rfl (by omega) dX2_init_7 klRX2_9 rfl (by decide) (by decide) ?_
  refine k_put (n := 0) hl_q hr_q dX2_init_10 flRX2_11 rfl ⟨_, _, rfl⟩ rfl ?_
  refine wp_aload_n dX2_init_13 rfl ?_
  refine k_new (m := 1) hl_q hr_q rfl rfl (by omega) dX2_init_14 ckX4 klRX2_17 inst4 init4 (by decide) ?_
  refine wp_dup dX2_init_17 rfl ?_
  refine k_call (m := 1) (R := rmc 3 32 290) hl_q hr_q rfl rfl mc_X4_init (by simp [bS_X4_init]; omega) rfl dX2_init_18 lnRX2_19 mkX4_init rfl (by decide) (by decide) (Nat.le_of_ble_eq_true rfl) rfl ?_
  refine k_put (n := 0) hl_q hr_q dX2_init_21 flRX2_20 rfl ⟨_, _, rfl⟩ rfl ?_
  refine wp_aload_n dX2_init_24 rfl ?_
  refine k_new (m := 4) hl_q hr_q rfl rfl (by omega) dX2_init_25 ckX8 klRX2_24 inst8 init8 (by decide) ?_
  refine wp_dup dX2_init_28 rfl ?_
  refine k_call (m := 4) (R := rmc 3 32 290) hl_q hr_q rfl rfl mc_X8_init (by simp [bS_X8_init]; omega) rfl dX2_init_29 lnRX2_26 mkX8_init rfl (by decide) (by decide) (Nat.le_of_ble_eq_true rfl) rfl ?_
  refine k_put (n := 0) hl_q hr_q dX2_init_32 flRX2_27 rfl ⟨_, _, rfl⟩ rfl ?_
  refine wp_aload_n dX2_init_35 rfl ?_
  refine wp_sipush 128 dX2_init_36 (by decide) ?_
  refine k_newa (m := 7) (n := 128) (tag := 100) hl_q hr_q rfl rfl (by omega) dX2_init_39 arrc_int rfl (by decide) (Or.inl ⟨rfl, rfl⟩) (by decide) ?_
  refine k_put (n := 0) hl_q hr_q dX2_init_41 flRX2_31 rfl ⟨_, _, rfl⟩ rfl ?_
  refine wp_aload_n dX2_init_44 rfl ?_
  refine wp_aload_n dX2_init_45 rfl ?_
  refine k_put (n := 0) hl_q hr_q dX2_init_46 flRX2_35 rfl ⟨_, _, rfl⟩ rfl ?_
  refine wp_iconst 0 dX2_init_49 (by decide) ?_
  refine st_i_3_2 dX2_init_50 (by decide) rfl ?_
  refine wp_iload_n dX2_init_51 rfl ?_
  refine wp_bipush 6 dX2_init_52 (by decide) ?_
  refine wp_icmp_ge dX2_init_54 (fun h_q => absurd h_q (by decide)) (fun h_q => ?_)
  refine wp_aload_n dX2_init_57 rfl ?_
  refine wp_getA (b := L + 3) (gl_r (i := 0) hr_q rfl rfl) dX2_init_58 flRX2_11 (n := 0) (gl_s (i := 0) hl_q rfl) ?_
  refine wp_iload_n dX2_init_61 rfl ?_
  refine k_new (m := 8) hl_q hr_q rfl rfl (by omega) dX2_init_62 ckX0 klRX2_9 inst0 init0 (by decide) ?_
  refine wp_dup dX2_init_65 rfl ?_
  refine k_call (m := 8) (R := rmc 3 32 290) hl_q hr_q rfl rfl mc_X0_init (by simp [bS_X0_init]; omega) rfl dX2_init_66 lnRX2_39 mkX0_init rfl (by decide) (by decide) (Nat.le_of_ble_eq_true rfl) rfl ?_
  refine k_aast (i := 0) (n := 6) (nb := 0) (jb := 9) hl_q hr_q dX2_init_69 rfl rfl rfl rfl (by decide) (by decide) ?_
  refine ic_3_2 (1) dX2_init_70 (by decide) (by decide) rfl ?_
  refine wp_goto dX2_init_73 ?_
  refine wp_iload_n dX2_init_51 rfl ?_
  refine wp_bipush 6 dX2_init_52 (by decide) ?_
  refine wp_icmp_ge dX2_init_54 (fun h_q => absurd h_q (by decide)) (fun h_q => ?_)
  refine wp_aload_n dX2_init_57 rfl ?_
  refine wp_getA (b := L + 3) (gl_r (i := 0) hr_q rfl rfl) dX2_init_58 flRX2_11 (n := 0) (gl_s (i := 0) hl_q rfl) ?_
  refine wp_iload_n dX2_init_61 rfl ?_
  refine k_new (m := 12) hl_q hr_q rfl rfl (by omega) dX2_init_62 ckX0 klRX2_9 inst0 init0 (by decide) ?_
  refine wp_dup dX2_init_65 rfl ?_
  refine k_call (m := 12) (R := rmc 3 32 290) hl_q hr_q rfl rfl mc_X0_init (by simp [bS_X0_init]; omega) rfl dX2_init_66 lnRX2_39 mkX0_init rfl (by decide) (by decide) (Nat.le_of_ble_eq_true rfl) rfl ?_
  refine k_aast (i := 1) (n := 6) (nb := 0) (jb := 13) hl_q hr_q dX2_init_69 rfl rfl rfl rfl (by decide) (by decide) ?_
  refine ic_3_2 (2) dX2_init_70 (by decide) (by decide) rfl ?_
  refine wp_goto dX2_init_73 ?_
  refine wp_iload_n dX2_init_51 rfl ?_
  refine wp_bipush 6 dX2_init_52 (by decide) ?_
  refine wp_icmp_ge dX2_init_54 (fun h_q => absurd h_q (by decide)) (fun h_q => ?_)
  refine wp_aload_n dX2_init_57 rfl ?_
  refine wp_getA (b := L + 3) (gl_r (i := 0) hr_q rfl rfl) dX2_init_58 flRX2_11 (n := 0) (gl_s (i := 0) hl_q rfl) ?_
  refine wp_iload_n dX2_init_61 rfl ?_
  refine k_new (m := 16) hl_q hr_q rfl rfl (by omega) dX2_init_62 ckX0 klRX2_9 inst0 init0 (by decide) ?_
  refine wp_dup dX2_init_65 rfl ?_
  refine k_call (m := 16) (R := rmc 3 32 290) hl_q hr_q rfl rfl mc_X0_init (by simp [bS_X0_init]; omega) rfl dX2_init_66 lnRX2_39 mkX0_init rfl (by decide) (by decide) (Nat.le_of_ble_eq_true rfl) rfl ?_
  refine k_aast (i := 2) (n := 6) (nb := 0) (jb := 17) hl_q hr_q dX2_init_69 rfl rfl rfl rfl (by decide) (by decide) ?_
  refine ic_3_2 (3) dX2_init_70 (by decide) (by decide) rfl ?_
  refine wp_goto dX2_init_73 ?_
  refine wp_iload_n dX2_init_51 rfl ?_
  refine wp_bipush 6 dX2_init_52 (by decide) ?_
  refine wp_icmp_ge dX2_init_54 (fun h_q => absurd h_q (by decide)) (fun h_q => ?_)
  refine wp_aload_n dX2_init_57 rfl ?_
  refine wp_getA (b := L + 3) (gl_r (i := 0) hr_q rfl rfl) dX2_init_58 flRX2_11 (n := 0) (gl_s (i := 0) hl_q rfl) ?_
  refine wp_iload_n dX2_init_61 rfl ?_
  refine k_new (m := 20) hl_q hr_q rfl rfl (by omega) dX2_init_62 ckX0 klRX2_9 inst0 init0 (by decide) ?_
  refine wp_dup dX2_init_65 rfl ?_
  refine k_call (m := 20) (R := rmc 3 32 290) hl_q hr_q rfl rfl mc_X0_init (by simp [bS_X0_init]; omega) rfl dX2_init_66 lnRX2_39 mkX0_init rfl (by decide) (by decide) (Nat.le_of_ble_eq_true rfl) rfl ?_
  refine k_aast (i := 3) (n := 6) (nb := 0) (jb := 21) hl_q hr_q dX2_init_69 rfl rfl rfl rfl (by decide) (by decide) ?_
  refine ic_3_2 (4) dX2_init_70 (by decide) (by decide) rfl ?_
  refine wp_goto dX2_init_73 ?_
  refine wp_iload_n dX2_init_51 rfl ?_
  refine wp_bipush 6 dX2_init_52 (by decide) ?_
  refine wp_icmp_ge dX2_init_54 (fun h_q => absurd h_q (by decide)) (fun h_q => ?_)
  refine wp_aload_n dX2_init_57 rfl ?_
  refine wp_getA (b := L + 3) (gl_r (i := 0) hr_q rfl rfl) dX2_init_58 flRX2_11 (n := 0) (gl_s (i := 0) hl_q rfl) ?_
  refine wp_iload_n dX2_init_61 rfl ?_
  refine k_new (m := 24) hl_q hr_q rfl rfl (by omega) dX2_init_62 ckX0 klRX2_9 inst0 init0 (by decide) ?_
  refine wp_dup dX2_init_65 rfl ?_
  refine k_call (m := 24) (R := rmc 3 32 290) hl_q hr_q rfl rfl mc_X0_init (by simp [bS_X0_init]; omega) rfl dX2_init_66 lnRX2_39 mkX0_init rfl (by decide) (by decide) (Nat.le_of_ble_eq_true rfl) rfl ?_
  refine k_aast (i := 4) (n := 6) (nb := 0) (jb := 25) hl_q hr_q dX2_init_69 rfl rfl rfl rfl (by decide) (by decide) ?_
  refine ic_3_2 (5) dX2_init_70 (by decide) (by decide) rfl ?_
  refine wp_goto dX2_init_73 ?_
  refine wp_iload_n dX2_init_51 rfl ?_
  refine wp_bipush 6 dX2_init_52 (by decide) ?_
  refine wp_icmp_ge dX2_init_54 (fun h_q => absurd h_q (by decide)) (fun h_q => ?_)
  refine wp_aload_n dX2_init_57 rfl ?_
  refine wp_getA (b := L + 3) (gl_r (i := 0) hr_q rfl rfl) dX2_init_58 flRX2_11 (n := 0) (gl_s (i := 0) hl_q rfl) ?_
  refine wp_iload_n dX2_init_61 rfl ?_
  refine k_new (m := 28) hl_q hr_q rfl rfl (by omega) dX2_init_62 ckX0 klRX2_9 inst0 init0 (by decide) ?_
  refine wp_dup dX2_init_65 rfl ?_
  refine k_call (m := 28) (R := rmc 3 32 290) hl_q hr_q rfl rfl mc_X0_init (by simp [bS_X0_init]; omega) rfl dX2_init_66 lnRX2_39 mkX0_init rfl (by decide) (by decide) (Nat.le_of_ble_eq_true rfl) rfl ?_
  refine k_aast (i := 5) (n := 6) (nb := 0) (jb := 29) hl_q hr_q dX2_init_69 rfl rfl rfl rfl (by decide) (by decide) ?_
  refine ic_3_2 (6) dX2_init_70 (by decide) (by decide) rfl ?_
  refine wp_goto dX2_init_73 ?_
  refine wp_iload_n dX2_init_51 rfl ?_
  refine wp_bipush 6 dX2_init_52 (by decide) ?_
  refine wp_icmp_ge dX2_init_54 (fun h_q => ?_) (fun h_q => absurd (by decide) h_q)
  exact wp_vret dX2_init_76 rfl (Nat.le_of_ble_eq_true rfl) (Nat.le_of_ble_eq_true rfl) k_q
def bS_X10_init : List (Nat × Nat) := [(10, 0), (5, 0), (100, 84), (7, 0), (6, 0), (100, 6), (100, 6), (100, 18), (100, 18), (100, 18), (4, 0), (100, 6), (100, 6), (6, 0), (100, 6), (100, 6), (100, 18), (100, 18), (100, 18), (4, 0), (100, 6), (100, 6), (2, 0), (103, 6), (4, 0), (100, 6), (100, 6), (8, 0), (100, 6), (100, 6), (100, 128), (0, 0), (1, 0), (100, 5), (100, 5), (0, 0), (1, 0), (100, 5), (100, 5), (0, 0), (1, 0), (100, 5), (100, 5), (0, 0), (1, 0), (100, 5), (100, 5), (0, 0), (1, 0), (100, 5), (100, 5), (0, 0), (1, 0), (100, 5), (100, 5), (2, 0), (103, 6), (4, 0), (100, 6), (100, 6), (8, 0), (100, 6), (100, 6), (100, 128), (0, 0), (1, 0), (100, 5), (100, 5), (0, 0), (1, 0), (100, 5), (100, 5), (0, 0), (1, 0), (100, 5), (100, 5), (0, 0), (1, 0), (100, 5), (100, 5), (0, 0), (1, 0), (100, 5), (100, 5), (0, 0), (1, 0), (100, 5), (100, 5), (2, 0), (103, 6), (4, 0), (100, 6), (100, 6), (8, 0), (100, 6), (100, 6), (100, 128), (0, 0), (1, 0), (100, 5), (100, 5), (0, 0), (1, 0), (100, 5), (100, 5), (0, 0), (1, 0), (100, 5), (100, 5), (0, 0), (1, 0), (100, 5), (100, 5), (0, 0), (1, 0), (100, 5), (100, 5), (0, 0), (1, 0), (100, 5), (100, 5), (9, 0), (102, 366), (3, 0)]
def bR_X10_init (L : Nat) : List (List (Option Nat)) := [[some (L + 3), some (L + 5), some (L + 15), some (L + 24), some (L + 57), some (L + 90), some (L + 123), some (L + 125)], [some (L + 4)], [], [some (L + 6)], [some (L + 7), some (L + 8), some (L + 9), some (L + 10), some (L + 11), some (L + 12)], [], [], [], [], [], [some (L + 13), some (L + 14)], [], [], [some (L + 16), some (L + 17), some (L + 18), some (L + 19), some (L + 20), some (L + 21)], [], [], [], [], [], [some (L + 22), some (L + 23)], [], [], [some (L + 15), some (L + 25), some (L + 26), some (L + 29), some (L + 32)], [some (L + 33), some (L + 37), some (L + 41), some (L + 45), some (L + 49), some (L + 53)], [some (L + 27), some (L + 28)], [], [], [some (L + 30), some (L + 31)], [], [], [], [some (L + 34)], [some (L + 35), some (L + 36)], [], [], [some (L + 38)], [some (L + 39), some (L + 40)], [], [], [some (L + 42)], [some (L + 43), some (L + 44)], [], [], [some (L + 46)], [some (L + 47), some (L + 48)], [], [], [some (L + 50)], [some (L + 51), some (L + 52)], [], [], [some (L + 54)], [some (L + 55), some (L + 56)], [], [], [some (L + 15), some (L + 58), some (L + 59), some (L + 62), some (L + 65)], [some (L + 66), some (L + 70), some (L + 74), some (L + 78), some (L + 82), some (L + 86)], [some (L + 60), some (L + 61)], [], [], [some (L + 63), some (L + 64)], [], [], [], [some (L + 67)], [some (L + 68), some (L + 69)], [], [], [some (L + 71)], [some (L + 72), some (L + 73)], [], [], [some (L + 75)], [some (L + 76), some (L + 77)], [], [], [some (L + 79)], [some (L + 80), some (L + 81)], [], [], [some (L + 83)], [some (L + 84), some (L + 85)], [], [], [some (L + 87)], [some (L + 88), some (L + 89)], [], [], [some (L + 15), some (L + 91), some (L + 92), some (L + 95), some (L + 98)], [some (L + 99), some (L + 103), some (L + 107), some (L + 111), some (L + 115), some (L + 119)], [some (L + 93), some (L + 94)], [], [], [some (L + 96), some (L + 97)], [], [], [], [some (L + 100)], [some (L + 101), some (L + 102)], [], [], [some (L + 104)], [some (L + 105), some (L + 106)], [], [], [some (L + 108)], [some (L + 109), some (L + 110)], [], [], [some (L + 112)], [some (L + 113), some (L + 114)], [], [], [some (L + 116)], [some (L + 117), some (L + 118)], [], [], [some (L + 120)], [some (L + 121), some (L + 122)], [], [], [some (L + 124)], [], []]
set_option maxHeartbeats 4000000 in
theorem mc_X10_init : MC mX10_init (rmc 4 123 1529) [] (10, 0) bS_X10_init bR_X10_init := by
  intro sl rl L Q hl_q hr_q hb_q k_q
  have hb2_q : L + 124 ≤ 171 := hb_q
  refine mt_of (Ls := [.ref (L + 2)]) moX10_init (Nat.le_of_ble_eq_true rfl) rfl ?_
  refine wp_aload_n dX10_init_0 rfl ?_
  refine wp_objInit dX10_init_1 lkRX10_1 objI1 objI2 (by decide) (Nat.le_of_ble_eq_true rfl) ?_
  refine wp_aload_n dX10_init_4 rfl ?_
  refine k_new (m := 0) hl_q hr_q rfl rfl (by omega) dX10_init_5 ckX5 klRX10_7 inst5 init5 (by decide) ?_
  refine wp_dup dX10_init_8 rfl ?_
  refine k_call (m := 0) (R := rmc 4 123 1529) hl_q hr_q rfl rfl mc_X5_init (by simp [bS_X5_init]; omega) rfl dX10_init_9 lnRX10_9 mkX5_init rfl (by decide) (by decide) (Nat.le_of_ble_eq_true rfl) rfl ?_
  refine k_put (n := 0) hl_q hr_q dX10_init_12 flRX10_10 rfl ⟨_, _, rfl⟩ rfl ?_
  refine wp_aload_n dX10_init_15 rfl ?_
  refine k_new (m := 2) hl_q hr_q rfl rfl (by omega) dX10_init_16 ckX7 klRX10_16 inst7 init7 (by decide) ?_
  refine wp_dup dX10_init_19 rfl ?_
  refine k_call (m := 2) (R := rmc 4 123 1529) hl_q hr_q rfl rfl mc_X7_init (by simp [bS_X7_init]; omega) rfl dX10_init_20 lnRX10_18 mkX7_init rfl (by decide) (by decide) (Nat.le_of_ble_eq_true rfl) rfl ?_
  refine k_put (n := 0) hl_q hr_q dX10_init_23 flRX10_19 rfl ⟨_, _, rfl⟩ rfl ?_
  refine wp_aload_n dX10_init_26 rfl ?_
  refine k_new (m := 12) hl_q hr_q rfl rfl (by omega) dX10_init_27 ckX6 klRX10_23 inst6 init6 (by decide) ?_
  refine wp_dup dX10_init_30 rfl ?_
  refine k_call (m := 12) (R := rmc 4 123 1529) hl_q hr_q rfl rfl mc_X6_init (by simp [bS_X6_init]; omega) rfl dX10_init_31 lnRX10_25 mkX6_init rfl (by decide) (by decide) (Nat.le_of_ble_eq_true rfl) rfl ?_
  refine k_put (n := 0) hl_q hr_q dX10_init_34 flRX10_26 rfl ⟨_, _, rfl⟩ rfl ?_
  refine wp_aload_n dX10_init_37 rfl ?_
  refine k_new (m := 21) hl_q hr_q rfl rfl (by omega) dX10_init_38 ckX2 klRX10_30 inst2 init2 (by decide) ?_
  refine wp_dup dX10_init_41 rfl ?_
  refine wp_aload_n dX10_init_42 rfl ?_
  refine wp_getA (b := L + 15) (gl_r (i := 0) hr_q rfl rfl) dX10_init_43 flRX10_26 (n := 0) (gl_s (i := 0) hl_q rfl) ?_
  refine k_calI (m := 21) (R := rmc 4 123 1529) hl_q hr_q rfl rfl (mc_X2_init _) (by simp [bS_X2_init]; omega) rfl dX10_init_46 lkRX10_32 mkX2_init rfl (by decide) (by decide) (Nat.le_of_ble_eq_true rfl) rfl ?_
  refine k_put (n := 0) hl_q hr_q dX10_init_49 flRX10_35 rfl ⟨_, _, rfl⟩ rfl ?_
  refine wp_aload_n dX10_init_52 rfl ?_
  refine k_new (m := 54) hl_q hr_q rfl rfl (by omega) dX10_init_53 ckX2 klRX10_30 inst2 init2 (by decide) ?_
  refine wp_dup dX10_init_56 rfl ?_
  refine wp_aload_n dX10_init_57 rfl ?_
  refine wp_getA (b := L + 15) (gl_r (i := 0) hr_q rfl rfl) dX10_init_58 flRX10_26 (n := 0) (gl_s (i := 0) hl_q rfl) ?_
  refine k_calI (m := 54) (R := rmc 4 123 1529) hl_q hr_q rfl rfl (mc_X2_init _) (by simp [bS_X2_init]; omega) rfl dX10_init_61 lkRX10_32 mkX2_init rfl (by decide) (by decide) (Nat.le_of_ble_eq_true rfl) rfl ?_
  refine k_put (n := 0) hl_q hr_q dX10_init_64 flRX10_39 rfl ⟨_, _, rfl⟩ rfl ?_
  refine wp_aload_n dX10_init_67 rfl ?_
  refine k_new (m := 87) hl_q hr_q rfl rfl (by omega) dX10_init_68 ckX2 klRX10_30 inst2 init2 (by decide) ?_
  refine wp_dup dX10_init_71 rfl ?_
  refine wp_aload_n dX10_init_72 rfl ?_
  refine wp_getA (b := L + 15) (gl_r (i := 0) hr_q rfl rfl) dX10_init_73 flRX10_26 (n := 0) (gl_s (i := 0) hl_q rfl) ?_
  refine k_calI (m := 87) (R := rmc 4 123 1529) hl_q hr_q rfl rfl (mc_X2_init _) (by simp [bS_X2_init]; omega) rfl dX10_init_76 lkRX10_32 mkX2_init rfl (by decide) (by decide) (Nat.le_of_ble_eq_true rfl) rfl ?_
  refine k_put (n := 0) hl_q hr_q dX10_init_79 flRX10_42 rfl ⟨_, _, rfl⟩ rfl ?_
  refine wp_aload_n dX10_init_82 rfl ?_
  refine k_new (m := 120) hl_q hr_q rfl rfl (by omega) dX10_init_83 ckX9 klRX10_45 inst9 init9 (by decide) ?_
  refine wp_dup dX10_init_86 rfl ?_
  refine k_call (m := 120) (R := rmc 4 123 1529) hl_q hr_q rfl rfl mc_X9_init (by simp [bS_X9_init]; omega) rfl dX10_init_87 lnRX10_47 mkX9_init rfl (by decide) (by decide) (Nat.le_of_ble_eq_true rfl) rfl ?_
  refine k_put (n := 0) hl_q hr_q dX10_init_90 flRX10_48 rfl ⟨_, _, rfl⟩ rfl ?_
  refine wp_aload_n dX10_init_93 rfl ?_
  refine k_new (m := 122) hl_q hr_q rfl rfl (by omega) dX10_init_94 ckX3 klRX10_52 inst3 init3 (by decide) ?_
  refine wp_dup dX10_init_97 rfl ?_
  refine k_call (m := 122) (R := rmc 4 123 1529) hl_q hr_q rfl rfl mc_X3_init (by simp [bS_X3_init]; omega) rfl dX10_init_98 lnRX10_54 mkX3_init rfl (by decide) (by decide) (Nat.le_of_ble_eq_true rfl) rfl ?_
  refine k_put (n := 0) hl_q hr_q dX10_init_101 flRX10_55 rfl ⟨_, _, rfl⟩ rfl ?_
  exact wp_vret dX10_init_104 rfl (Nat.le_of_ble_eq_true rfl) (Nat.le_of_ble_eq_true rfl) k_q
def bS_X11_init : List (Nat × Nat) := [(11, 0), (100, 6), (100, 6), (100, 18), (100, 6), (100, 6), (100, 6), (100, 6), (100, 30), (100, 30), (100, 6), (100, 12), (100, 6), (100, 6), (100, 6), (100, 6), (100, 6), (101, 84), (100, 6), (100, 6), (100, 18), (100, 6), (100, 6), (100, 256), (100, 6), (100, 6), (100, 6), (100, 6), (100, 30), (100, 30), (100, 6), (100, 12), (100, 5856), (100, 6), (100, 6), (100, 6), (100, 6), (100, 6), (100, 30), (100, 30), (100, 6), (100, 12), (100, 6), (100, 6), (100, 6), (100, 6), (100, 6)]
def bR_X11_init (L : Nat) : List (List (Option Nat)) := [[none, none, some (L + 3), some (L + 4), some (L + 5), some (L + 6), some (L + 7), some (L + 8), some (L + 9), some (L + 10), some (L + 11), some (L + 12), some (L + 13), none, some (L + 14), some (L + 15), none, none, none, none, some (L + 16), some (L + 17), some (L + 18), none, some (L + 19), none, none, none, none, none, some (L + 20), some (L + 21), some (L + 22), some (L + 23), some (L + 24), none, none, none, none, some (L + 25), none, none, some (L + 26), some (L + 27), some (L + 28), some (L + 29), some (L + 30), some (L + 31), some (L + 32), some (L + 33), some (L + 34), none, none, none, none, none, none, none, some (L + 35), some (L + 36), some (L + 37), some (L + 38), some (L + 39), some (L + 40), some (L + 41), some (L + 42), some (L + 43), some (L + 44), some (L + 45), some (L + 46), some (L + 47), some (L + 48)], [], [], [], [], [], [], [], [], [], [], [], [], [], [], [], [], [], [], [], [], [], [], [], [], [], [], [], [], [], [], [], [], [], [], [], [], [], [], [], [], [], [], [], [], [], []]
set_option maxHeartbeats 4000000 in
theorem mc_X11_init : MC mX11_init (rmc 1 46 6640) [] (11, 0) bS_X11_init bR_X11_init := by
  intro sl rl L Q hl_q hr_q hb_q k_q
  have hb2_q : L + 47 ≤ 171 := hb_q
  refine mt_of (Ls := [.ref (L + 2)]) moX11_init (Nat.le_of_ble_eq_true rfl) rfl ?_
  refine wp_aload_n dX11_init_0 rfl ?_
  refine wp_objInit dX11_init_1 lkRX11_1 objI1 objI2 (by decide) (Nat.le_of_ble_eq_true rfl) ?_
  refine wp_aload_n dX11_init_4 rfl ?_
  refine wp_bipush 6 dX11_init_5 (by decide) ?_
  refine k_newa (m := 0) (n := 6) (tag := 100) hl_q hr_q rfl rfl (by omega) dX11_init_7 arrc_int rfl (by decide) (Or.inl ⟨rfl, rfl⟩) (by decide) ?_
  refine k_put (n := 0) hl_q hr_q dX11_init_9 flRX11_7 rfl ⟨_, _, rfl⟩ rfl ?_
  refine wp_aload_n dX11_init_12 rfl ?_
  refine wp_bipush 6 dX11_init_13 (by decide) ?_
  refine k_newa (m := 1) (n := 6) (tag := 100) hl_q hr_q rfl rfl (by omega) dX11_init_15 arrc_int rfl (by decide) (Or.inl ⟨rfl, rfl⟩) (by decide) ?_
  refine k_put (n := 0) hl_q hr_q dX11_init_17 flRX11_13 rfl ⟨_, _, rfl⟩ rfl ?_
  refine wp_aload_n dX11_init_20 rfl ?_
  refine wp_bipush 18 dX11_init_21 (by decide) ?_
  refine k_newa (m := 2) (n := 18) (tag := 100) hl_q hr_q rfl rfl (by omega) dX11_init_23 arrc_int rfl (by decide) (Or.inl ⟨rfl, rfl⟩) (by decide) ?_
  refine k_put (n := 0) hl_q hr_q dX11_init_25 flRX11_16 rfl ⟨_, _, rfl⟩ rfl ?_
  refine wp_aload_n dX11_init_28 rfl ?_
  refine wp_bipush 6 dX11_init_29 (by decide) ?_
  refine k_newa (m := 3) (n := 6) (tag := 100) hl_q hr_q rfl rfl (by omega) dX11_init_31 arrc_int rfl (by decide) (Or.inl ⟨rfl, rfl⟩) (by decide) ?_
  refine k_put (n := 0) hl_q hr_q dX11_init_33 flRX11_19 rfl ⟨_, _, rfl⟩ rfl ?_
  refine wp_aload_n dX11_init_36 rfl ?_
  refine wp_bipush 6 dX11_init_37 (by decide) ?_
  refine k_newa (m := 4) (n := 6) (tag := 100) hl_q hr_q rfl rfl (by omega) dX11_init_39 arrc_int rfl (by decide) (Or.inl ⟨rfl, rfl⟩) (by decide) ?_
  refine k_put (n := 0) hl_q hr_q dX11_init_41 flRX11_22 rfl ⟨_, _, rfl⟩ rfl ?_
  refine wp_aload_n dX11_init_44 rfl ?_
  refine wp_bipush 6 dX11_init_45 (by decide) ?_
  refine k_newa (m := 5) (n := 6) (tag := 100) hl_q hr_q rfl rfl (by omega) dX11_init_47 arrc_int rfl (by decide) (Or.inl ⟨rfl, rfl⟩) (by decide) ?_
  refine k_put (n := 0) hl_q hr_q dX11_init_49 flRX11_25 rfl ⟨_, _, rfl⟩ rfl ?_
  refine wp_aload_n dX11_init_52 rfl ?_
  refine wp_bipush 6 dX11_init_53 (by decide) ?_
  refine k_newa (m := 6) (n := 6) (tag := 100) hl_q hr_q rfl rfl (by omega) dX11_init_55 arrc_int rfl (by decide) (Or.inl ⟨rfl, rfl⟩) (by decide) ?_
  refine k_put (n := 0) hl_q hr_q dX11_init_57 flRX11_28 rfl ⟨_, _, rfl⟩ rfl ?_
  refine wp_aload_n dX11_init_60 rfl ?_
  refine wp_bipush 30 dX11_init_61 (by decide) ?_
  refine k_newa (m := 7) (n := 30) (tag := 100) hl_q hr_q rfl rfl (by omega) dX11_init_63 arrc_int rfl (by decide) (Or.inl ⟨rfl, rfl⟩) (by decide) ?_
  refine k_put (n := 0) hl_q hr_q dX11_init_65 flRX11_31 rfl ⟨_, _, rfl⟩ rfl ?_
  refine wp_aload_n dX11_init_68 rfl ?_
  refine wp_bipush 30 dX11_init_69 (by decide) ?_
  refine k_newa (m := 8) (n := 30) (tag := 100) hl_q hr_q rfl rfl (by omega) dX11_init_71 arrc_int rfl (by decide) (Or.inl ⟨rfl, rfl⟩) (by decide) ?_
  refine k_put (n := 0) hl_q hr_q dX11_init_73 flRX11_34 rfl ⟨_, _, rfl⟩ rfl ?_
  refine wp_aload_n dX11_init_76 rfl ?_
  refine wp_bipush 6 dX11_init_77 (by decide) ?_
  refine k_newa (m := 9) (n := 6) (tag := 100) hl_q hr_q rfl rfl (by omega) dX11_init_79 arrc_int rfl (by decide) (Or.inl ⟨rfl, rfl⟩) (by decide) ?_
  refine k_put (n := 0) hl_q hr_q dX11_init_81 flRX11_37 rfl ⟨_, _, rfl⟩ rfl ?_
  refine wp_aload_n dX11_init_84 rfl ?_
  refine wp_bipush 12 dX11_init_85 (by decide) ?_
  refine k_newa (m := 10) (n := 12) (tag := 100) hl_q hr_q rfl rfl (by omega) dX11_init_87 arrc_int rfl (by decide) (Or.inl ⟨rfl, rfl⟩) (by decide) ?_
  refine k_put (n := 0) hl_q hr_q dX11_init_89 flRX11_40 rfl ⟨_, _, rfl⟩ rfl ?_
  refine wp_aload_n dX11_init_92 rfl ?_
  refine wp_bipush 6 dX11_init_93 (by decide) ?_
  refine k_newa (m := 11) (n := 6) (tag := 100) hl_q hr_q rfl rfl (by omega) dX11_init_95 arrc_int rfl (by decide) (Or.inl ⟨rfl, rfl⟩) (by decide) ?_
  refine k_put (n := 0) hl_q hr_q dX11_init_97 flRX11_43 rfl ⟨_, _, rfl⟩ rfl ?_
  refine wp_aload_n dX11_init_100 rfl ?_
  refine wp_bipush 6 dX11_init_101 (by decide) ?_
  refine k_newa (m := 12) (n := 6) (tag := 100) hl_q hr_q rfl rfl (by omega) dX11_init_103 arrc_int rfl (by decide) (Or.inl ⟨rfl, rfl⟩) (by decide) ?_
  refine k_put (n := 0) hl_q hr_q dX11_init_105 flRX11_46 rfl ⟨_, _, rfl⟩ rfl ?_
  refine wp_aload_n dX11_init_108 rfl ?_
  refine wp_bipush 6 dX11_init_109 (by decide) ?_
  refine k_newa (m := 13) (n := 6) (tag := 100) hl_q hr_q rfl rfl (by omega) dX11_init_111 arrc_int rfl (by decide) (Or.inl ⟨rfl, rfl⟩) (by decide) ?_
  refine k_put (n := 0) hl_q hr_q dX11_init_113 flRX11_49 rfl ⟨_, _, rfl⟩ rfl ?_
  refine wp_aload_n dX11_init_116 rfl ?_
  refine wp_bipush 6 dX11_init_117 (by decide) ?_
  refine k_newa (m := 14) (n := 6) (tag := 100) hl_q hr_q rfl rfl (by omega) dX11_init_119 arrc_int rfl (by decide) (Or.inl ⟨rfl, rfl⟩) (by decide) ?_
  refine k_put (n := 0) hl_q hr_q dX11_init_121 flRX11_52 rfl ⟨_, _, rfl⟩ rfl ?_
  refine wp_aload_n dX11_init_124 rfl ?_
  refine wp_bipush 6 dX11_init_125 (by decide) ?_
  refine k_newa (m := 15) (n := 6) (tag := 100) hl_q hr_q rfl rfl (by omega) dX11_init_127 arrc_int rfl (by decide) (Or.inl ⟨rfl, rfl⟩) (by decide) ?_
  refine k_put (n := 0) hl_q hr_q dX11_init_129 flRX11_55 rfl ⟨_, _, rfl⟩ rfl ?_
  refine wp_aload_n dX11_init_132 rfl ?_
  refine wp_bipush 84 dX11_init_133 (by decide) ?_
  refine k_newa (m := 16) (n := 84) (tag := 101) hl_q hr_q rfl rfl (by omega) dX11_init_135 arrc_byte rfl (by decide) (Or.inr (Or.inl ⟨rfl, rfl⟩)) (by decide) ?_
  refine k_put (n := 0) hl_q hr_q dX11_init_137 flRX11_58 rfl ⟨_, _, rfl⟩ rfl ?_
  refine wp_aload_n dX11_init_140 rfl ?_
  refine wp_bipush 6 dX11_init_141 (by decide) ?_
  refine k_newa (m := 17) (n := 6) (tag := 100) hl_q hr_q rfl rfl (by omega) dX11_init_143 arrc_int rfl (by decide) (Or.inl ⟨rfl, rfl⟩) (by decide) ?_
  refine k_put (n := 0) hl_q hr_q dX11_init_145 flRX11_62 rfl ⟨_, _, rfl⟩ rfl ?_
  refine wp_aload_n dX11_init_148 rfl ?_
  refine wp_bipush 6 dX11_init_149 (by decide) ?_
  refine k_newa (m := 18) (n := 6) (tag := 100) hl_q hr_q rfl rfl (by omega) dX11_init_151 arrc_int rfl (by decide) (Or.inl ⟨rfl, rfl⟩) (by decide) ?_
  refine k_put (n := 0) hl_q hr_q dX11_init_153 flRX11_65 rfl ⟨_, _, rfl⟩ rfl ?_
  refine wp_aload_n dX11_init_156 rfl ?_
  refine wp_bipush 18 dX11_init_157 (by decide) ?_
  refine k_newa (m := 19) (n := 18) (tag := 100) hl_q hr_q rfl rfl (by omega) dX11_init_159 arrc_int rfl (by decide) (Or.inl ⟨rfl, rfl⟩) (by decide) ?_
  refine k_put (n := 0) hl_q hr_q dX11_init_161 flRX11_68 rfl ⟨_, _, rfl⟩ rfl ?_
  refine wp_aload_n dX11_init_164 rfl ?_
  refine wp_bipush 6 dX11_init_165 (by decide) ?_
  refine k_newa (m := 20) (n := 6) (tag := 100) hl_q hr_q rfl rfl (by omega) dX11_init_167 arrc_int rfl (by decide) (Or.inl ⟨rfl, rfl⟩) (by decide) ?_
  refine k_put (n := 0) hl_q hr_q dX11_init_169 flRX11_71 rfl ⟨_, _, rfl⟩ rfl ?_
  refine wp_aload_n dX11_init_172 rfl ?_
  refine wp_bipush 6 dX11_init_173 (by decide) ?_
  refine k_newa (m := 21) (n := 6) (tag := 100) hl_q hr_q rfl rfl (by omega) dX11_init_175 arrc_int rfl (by decide) (Or.inl ⟨rfl, rfl⟩) (by decide) ?_
  refine k_put (n := 0) hl_q hr_q dX11_init_177 flRX11_74 rfl ⟨_, _, rfl⟩ rfl ?_
  refine wp_aload_n dX11_init_180 rfl ?_
  refine wp_sipush 256 dX11_init_181 (by decide) ?_
  refine k_newa (m := 22) (n := 256) (tag := 100) hl_q hr_q rfl rfl (by omega) dX11_init_184 arrc_int rfl (by decide) (Or.inl ⟨rfl, rfl⟩) (by decide) ?_
  refine k_put (n := 0) hl_q hr_q dX11_init_186 flRX11_77 rfl ⟨_, _, rfl⟩ rfl ?_
  refine wp_aload_n dX11_init_189 rfl ?_
  refine wp_bipush 6 dX11_init_190 (by decide) ?_
  refine k_newa (m := 23) (n := 6) (tag := 100) hl_q hr_q rfl rfl (by omega) dX11_init_192 arrc_int rfl (by decide) (Or.inl ⟨rfl, rfl⟩) (by decide) ?_
  refine k_put (n := 0) hl_q hr_q dX11_init_194 flRX11_80 rfl ⟨_, _, rfl⟩ rfl ?_
  refine wp_aload_n dX11_init_197 rfl ?_
  refine wp_bipush 6 dX11_init_198 (by decide) ?_
  refine k_newa (m := 24) (n := 6) (tag := 100) hl_q hr_q rfl rfl (by omega) dX11_init_200 arrc_int rfl (by decide) (Or.inl ⟨rfl, rfl⟩) (by decide) ?_
  refine k_put (n := 0) hl_q hr_q dX11_init_202 flRX11_83 rfl ⟨_, _, rfl⟩ rfl ?_
  refine wp_aload_n dX11_init_205 rfl ?_
  refine wp_bipush 6 dX11_init_206 (by decide) ?_
  refine k_newa (m := 25) (n := 6) (tag := 100) hl_q hr_q rfl rfl (by omega) dX11_init_208 arrc_int rfl (by decide) (Or.inl ⟨rfl, rfl⟩) (by decide) ?_
  refine k_put (n := 0) hl_q hr_q dX11_init_210 flRX11_86 rfl ⟨_, _, rfl⟩ rfl ?_
  refine wp_aload_n dX11_init_213 rfl ?_
  refine wp_bipush 6 dX11_init_214 (by decide) ?_
  refine k_newa (m := 26) (n := 6) (tag := 100) hl_q hr_q rfl rfl (by omega) dX11_init_216 arrc_int rfl (by decide) (Or.inl ⟨rfl, rfl⟩) (by decide) ?_
  refine k_put (n := 0) hl_q hr_q dX11_init_218 flRX11_89 rfl ⟨_, _, rfl⟩ rfl ?_
  refine wp_aload_n dX11_init_221 rfl ?_
  refine wp_bipush 30 dX11_init_222 (by decide) ?_
  refine k_newa (m := 27) (n := 30) (tag := 100) hl_q hr_q rfl rfl (by omega) dX11_init_224 arrc_int rfl (by decide) (Or.inl ⟨rfl, rfl⟩) (by decide) ?_
  refine k_put (n := 0) hl_q hr_q dX11_init_226 flRX11_92 rfl ⟨_, _, rfl⟩ rfl ?_
  refine wp_aload_n dX11_init_229 rfl ?_
  refine wp_bipush 30 dX11_init_230 (by decide) ?_
  refine k_newa (m := 28) (n := 30) (tag := 100) hl_q hr_q rfl rfl (by omega) dX11_init_232 arrc_int rfl (by decide) (Or.inl ⟨rfl, rfl⟩) (by decide) ?_
  refine k_put (n := 0) hl_q hr_q dX11_init_234 flRX11_95 rfl ⟨_, _, rfl⟩ rfl ?_
  refine wp_aload_n dX11_init_237 rfl ?_
  refine wp_bipush 6 dX11_init_238 (by decide) ?_
  refine k_newa (m := 29) (n := 6) (tag := 100) hl_q hr_q rfl rfl (by omega) dX11_init_240 arrc_int rfl (by decide) (Or.inl ⟨rfl, rfl⟩) (by decide) ?_
  refine k_put (n := 0) hl_q hr_q dX11_init_242 flRX11_98 rfl ⟨_, _, rfl⟩ rfl ?_
  refine wp_aload_n dX11_init_245 rfl ?_
  refine wp_bipush 12 dX11_init_246 (by decide) ?_
  refine k_newa (m := 30) (n := 12) (tag := 100) hl_q hr_q rfl rfl (by omega) dX11_init_248 arrc_int rfl (by decide) (Or.inl ⟨rfl, rfl⟩) (by decide) ?_
  refine k_put (n := 0) hl_q hr_q dX11_init_250 flRX11_101 rfl ⟨_, _, rfl⟩ rfl ?_
  refine wp_aload_n dX11_init_253 rfl ?_
  refine wp_sipush 5856 dX11_init_254 (by decide) ?_
  refine k_newa (m := 31) (n := 5856) (tag := 100) hl_q hr_q rfl rfl (by omega) dX11_init_257 arrc_int rfl (by decide) (Or.inl ⟨rfl, rfl⟩) (by decide) ?_
  refine k_put (n := 0) hl_q hr_q dX11_init_259 flRX11_104 rfl ⟨_, _, rfl⟩ rfl ?_
  refine wp_aload_n dX11_init_262 rfl ?_
  refine wp_bipush 6 dX11_init_263 (by decide) ?_
  refine k_newa (m := 32) (n := 6) (tag := 100) hl_q hr_q rfl rfl (by omega) dX11_init_265 arrc_int rfl (by decide) (Or.inl ⟨rfl, rfl⟩) (by decide) ?_
  refine k_put (n := 0) hl_q hr_q dX11_init_267 flRX11_107 rfl ⟨_, _, rfl⟩ rfl ?_
  refine wp_aload_n dX11_init_270 rfl ?_
  refine wp_bipush 6 dX11_init_271 (by decide) ?_
  refine k_newa (m := 33) (n := 6) (tag := 100) hl_q hr_q rfl rfl (by omega) dX11_init_273 arrc_int rfl (by decide) (Or.inl ⟨rfl, rfl⟩) (by decide) ?_
  refine k_put (n := 0) hl_q hr_q dX11_init_275 flRX11_110 rfl ⟨_, _, rfl⟩ rfl ?_
  refine wp_aload_n dX11_init_278 rfl ?_
  refine wp_bipush 6 dX11_init_279 (by decide) ?_
  refine k_newa (m := 34) (n := 6) (tag := 100) hl_q hr_q rfl rfl (by omega) dX11_init_281 arrc_int rfl (by decide) (Or.inl ⟨rfl, rfl⟩) (by decide) ?_
  refine k_put (n := 0) hl_q hr_q dX11_init_283 flRX11_113 rfl ⟨_, _, rfl⟩ rfl ?_
  refine wp_aload_n dX11_init_286 rfl ?_
  refine wp_bipush 6 dX11_init_287 (by decide) ?_
  refine k_newa (m := 35) (n := 6) (tag := 100) hl_q hr_q rfl rfl (by omega) dX11_init_289 arrc_int rfl (by decide) (Or.inl ⟨rfl, rfl⟩) (by decide) ?_
  refine k_put (n := 0) hl_q hr_q dX11_init_291 flRX11_116 rfl ⟨_, _, rfl⟩ rfl ?_
  refine wp_aload_n dX11_init_294 rfl ?_
  refine wp_bipush 6 dX11_init_295 (by decide) ?_
  refine k_newa (m := 36) (n := 6) (tag := 100) hl_q hr_q rfl rfl (by omega) dX11_init_297 arrc_int rfl (by decide) (Or.inl ⟨rfl, rfl⟩) (by decide) ?_
  refine k_put (n := 0) hl_q hr_q dX11_init_299 flRX11_119 rfl ⟨_, _, rfl⟩ rfl ?_
  refine wp_aload_n dX11_init_302 rfl ?_
  refine wp_bipush 30 dX11_init_303 (by decide) ?_
  refine k_newa (m := 37) (n := 30) (tag := 100) hl_q hr_q rfl rfl (by omega) dX11_init_305 arrc_int rfl (by decide) (Or.inl ⟨rfl, rfl⟩) (by decide) ?_
  refine k_put (n := 0) hl_q hr_q dX11_init_307 flRX11_122 rfl ⟨_, _, rfl⟩ rfl ?_
  refine wp_aload_n dX11_init_310 rfl ?_
  refine wp_bipush 30 dX11_init_311 (by decide) ?_
  refine k_newa (m := 38) (n := 30) (tag := 100) hl_q hr_q rfl rfl (by omega) dX11_init_313 arrc_int rfl (by decide) (Or.inl ⟨rfl, rfl⟩) (by decide) ?_
  refine k_put (n := 0) hl_q hr_q dX11_init_315 flRX11_125 rfl ⟨_, _, rfl⟩ rfl ?_
  refine wp_aload_n dX11_init_318 rfl ?_
  refine wp_bipush 6 dX11_init_319 (by decide) ?_
  refine k_newa (m := 39) (n := 6) (tag := 100) hl_q hr_q rfl rfl (by omega) dX11_init_321 arrc_int rfl (by decide) (Or.inl ⟨rfl, rfl⟩) (by decide) ?_
  refine k_put (n := 0) hl_q hr_q dX11_init_323 flRX11_128 rfl ⟨_, _, rfl⟩ rfl ?_
  refine wp_aload_n dX11_init_326 rfl ?_
  refine wp_bipush 12 dX11_init_327 (by decide) ?_
  refine k_newa (m := 40) (n := 12) (tag := 100) hl_q hr_q rfl rfl (by omega) dX11_init_329 arrc_int rfl (by decide) (Or.inl ⟨rfl, rfl⟩) (by decide) ?_
  refine k_put (n := 0) hl_q hr_q dX11_init_331 flRX11_131 rfl ⟨_, _, rfl⟩ rfl ?_
  refine wp_aload_n dX11_init_334 rfl ?_
  refine wp_bipush 6 dX11_init_335 (by decide) ?_
  refine k_newa (m := 41) (n := 6) (tag := 100) hl_q hr_q rfl rfl (by omega) dX11_init_337 arrc_int rfl (by decide) (Or.inl ⟨rfl, rfl⟩) (by decide) ?_
  refine k_put (n := 0) hl_q hr_q dX11_init_339 flRX11_134 rfl ⟨_, _, rfl⟩ rfl ?_
  refine wp_aload_n dX11_init_342 rfl ?_
  refine wp_bipush 6 dX11_init_343 (by decide) ?_
  refine k_newa (m := 42) (n := 6) (tag := 100) hl_q hr_q rfl rfl (by omega) dX11_init_345 arrc_int rfl (by decide) (Or.inl ⟨rfl, rfl⟩) (by decide) ?_
  refine k_put (n := 0) hl_q hr_q dX11_init_347 flRX11_137 rfl ⟨_, _, rfl⟩ rfl ?_
  refine wp_aload_n dX11_init_350 rfl ?_
  refine wp_bipush 6 dX11_init_351 (by decide) ?_
  refine k_newa (m := 43) (n := 6) (tag := 100) hl_q hr_q rfl rfl (by omega) dX11_init_353 arrc_int rfl (by decide) (Or.inl ⟨rfl, rfl⟩) (by decide) ?_
  refine k_put (n := 0) hl_q hr_q dX11_init_355 flRX11_140 rfl ⟨_, _, rfl⟩ rfl ?_
  refine wp_aload_n dX11_init_358 rfl ?_
  refine wp_bipush 6 dX11_init_359 (by decide) ?_
  refine k_newa (m := 44) (n := 6) (tag := 100) hl_q hr_q rfl rfl (by omega) dX11_init_361 arrc_int rfl (by decide) (Or.inl ⟨rfl, rfl⟩) (by decide) ?_
  refine k_put (n := 0) hl_q hr_q dX11_init_363 flRX11_143 rfl ⟨_, _, rfl⟩ rfl ?_
  refine wp_aload_n dX11_init_366 rfl ?_
  refine wp_bipush 6 dX11_init_367 (by decide) ?_
  refine k_newa (m := 45) (n := 6) (tag := 100) hl_q hr_q rfl rfl (by omega) dX11_init_369 arrc_int rfl (by decide) (Or.inl ⟨rfl, rfl⟩) (by decide) ?_
  refine k_put (n := 0) hl_q hr_q dX11_init_371 flRX11_146 rfl ⟨_, _, rfl⟩ rfl ?_
  exact wp_vret dX11_init_374 rfl (Nat.le_of_ble_eq_true rfl) (Nat.le_of_ble_eq_true rfl) k_q
