/-- the tables' words that a call keeps -/
def gWd : List Cond := lw_tbl.filter goodWord
theorem gw_at {w : Cond} (i : Nat) (h : lw_tbl[i]? = some w) (hg : goodWord w = true) : w ∈ gWd := List.mem_filter.mpr ⟨List.mem_of_getElem? h, hg⟩
/-! THE JUDGEMENT G: the whole world of both objects as one flat memory of ints (object, place), its shape fixed -/
abbrev Mm : Type := Nat → Nat → Int32
abbrev gT : Type := va_G × (Nat → Nat) × (ClassId × ClassId × ClassId) × Nat
abbrev gSh : Type := (Nat × List (Option Nat)) ⊕ (Nat ⊕ (Nat × List Nat))
/-- a Plan and its rows from b on -/
def sPl (b : Nat) : List gSh := [.inl (0, [none, some (b + 1), some (b + 2), some (b + 3), some (b + 4), some (b + 5), some (b + 8), some (b + 11), some (b + 12), some (b + 13), none, none]), .inr (.inl 6), .inr (.inl 6), .inr (.inl 6), .inr (.inl 6), .inr (.inr (1, [b + 6, b + 7])), .inr (.inl 6), .inr (.inl 6), .inr (.inr (1, [b + 9, b + 10])), .inr (.inl 6), .inr (.inl 6), .inr (.inl 6), .inr (.inl 6), .inr (.inl 6)]
def sShp (b : Nat) : List gSh := [.inl (2, [none, none, none, some (b + 1)]), .inr (.inl 60)]
def sTb : List gSh := [.inl (3, [some 1, some 15, some 29, some 45, some 54, some 55, some 56, none, none, none])] ++ sPl 1 ++ sPl 15 ++ [.inl (1, [some 30, some 44, none, none, none])] ++ sPl 30 ++ [.inr (.inl 60), .inr (.inr (0, [46, 48, 50, 52]))] ++ sShp 46 ++ sShp 48 ++ sShp 50 ++ sShp 52 ++ [.inr (.inl 6), .inr (.inl 8), .inr (.inl 8),
  .inl (4, [none, none, some 58, some 59, some 60, none, none, some 61, some 62, some 63, some 64, some 65, none, none, some 66, some 67, some 68, some 69, some 70, some 71, some 72, some 73, none, none, some 74, some 75, some 76, some 77, none, none, none, none, some 78, some 79]),
  .inr (.inl 4), .inr (.inl 4), .inr (.inl 240), .inr (.inl 6), .inr (.inl 6), .inr (.inl 6), .inr (.inl 6), .inr (.inl 12), .inr (.inl 6), .inr (.inl 6), .inr (.inl 6), .inr (.inl 6), .inr (.inl 12), .inr (.inl 6), .inr (.inl 6), .inr (.inl 6), .inr (.inl 6), .inr (.inl 24), .inr (.inl 6), .inr (.inl 6), .inr (.inl 8), .inr (.inl 8)]
theorem sTb_len : sTb.length = 80 := by decide +kernel
def gFd (al : Nat → Nat) (r : Nat → Int32) (j : Nat) (f : Option Nat) : Value := match f with
  | none => .int (r j)
  | some t => .ref (al t)
def gX (E : gT) (r : Nat → Int32) (x : gSh) : va_E := match x with
  | .inl (ci, fs) => .inr (ci, fs.mapIdx (gFd E.2.1 r))
  | .inr (.inl n) => .inl (E.2.2.1.1, n, .inl r)
  | .inr (.inr (z, ts)) => .inl (if z = 0 then E.2.2.1.2.1 else E.2.2.1.2.2, ts.length, .inr (.inr (.inr (.inr (fun i => (ts[i]?).map E.2.1)))))
def gW (E : gT) (m : Mm) : va_W := (List.range 80).map (fun k => (E.2.1 k, gX E (m k) (sTb.getD k (.inr (.inl 0)))))
def gY (E : gT) : List (ClassId × FieldType) := [(E.2.2.1.1, .int), (E.2.2.1.2.1, .object RX2), (E.2.2.1.2.2, .array .int)]
def gA (E : gT) (sz : Nat) : Nat → Prop := fun q => (∃ k, k < 80 ∧ q = E.2.1 k) ∨ sz ≤ q
theorem sTb_lt {k : Nat} {x : gSh} (h : sTb[k]? = some x) : k < 80 := by
  have := (List.getElem?_eq_some_iff.mp h).1
  rw [sTb_len] at this
  exact this
theorem gW_get {E : gT} {m : Mm} {k : Nat} {x : gSh} (h : sTb[k]? = some x) : (gW E m)[k]? = some (E.2.1 k, gX E (m k) x) := by
  have hk := sTb_lt h
  have hd : sTb.getD k (.inr (.inl 0)) = x := by rw [List.getD_eq_getElem?_getD, h]; rfl
  unfold gW
  rw [List.getElem?_map, List.getElem?_range hk]
  simp only [Option.map_some, hd]
theorem gW_out {E : gT} {m : Mm} {k : Nat} (h : ¬ k < 80) : (gW E m)[k]? = none := by
  unfold gW
  rw [List.getElem?_map, List.getElem?_eq_none (by rw [List.length_range]; omega)]
  rfl
theorem gW_in {E : gT} {m : Mm} {k : Nat} {q : Nat × va_E} (h : (gW E m)[k]? = some q) : k < 80 ∧ q.1 = E.2.1 k := by
  by_cases hk : k < 80
  · unfold gW at h
    rw [List.getElem?_map, List.getElem?_range hk] at h
    cases h
    exact ⟨hk, rfl⟩
  · rw [gW_out hk] at h
    cases h
theorem gW_set {E : gT} {m m' : Mm} {k : Nat} {x : gSh} {w : va_E} (h : sTb[k]? = some x) (h1 : gX E (m' k) x = w) (h2 : ∀ j, j ≠ k → m' j = m j) : (gW E m).set k (E.2.1 k, w) = gW E m' := by
  apply List.ext_getElem?
  intro j
  by_cases hj : j = k
  · subst hj
    rw [gW_get h, h1, List.getElem?_set_self]
    have : (gW E m).length = 80 := by unfold gW; rw [List.length_map, List.length_range]
    rw [this]
    exact sTb_lt h
  · rw [List.getElem?_set_ne (fun e => hj e.symm)]
    unfold gW
    rw [List.getElem?_map, List.getElem?_map]
    by_cases hl : j < 80
    · rw [List.getElem?_range hl]
      simp only [Option.map_some, h2 j hj]
    · rw [List.getElem?_eq_none (by rw [List.length_range]; omega)]
      rfl
/-- one place written -/
def s2 (m : Mm) (k j : Nat) (v : Int32) : Mm := fun a => if a = k then upd (m k) j v else m a
/-- one row written -/
def sR (m : Mm) (k : Nat) (r : Nat → Int32) : Mm := fun a => if a = k then r else m a
theorem s2_at (m : Mm) (k j : Nat) (v : Int32) : s2 m k j v k = upd (m k) j v := if_pos rfl
theorem s2_row {m : Mm} {k j a : Nat} {v : Int32} (h : a ≠ k) : s2 m k j v a = m a := if_neg h
theorem sR_at (m : Mm) (k : Nat) (r : Nat → Int32) : sR m k r k = r := if_pos rfl
theorem sR_row {m : Mm} {k a : Nat} {r : Nat → Int32} (h : a ≠ k) : sR m k r a = m a := if_neg h
theorem gFd_set (al : Nat → Nat) (r : Nat → Int32) (fs : List (Option Nat)) {j : Nat} (v : Int32) (h : fs[j]? = some none) : (fs.mapIdx (gFd al r)).set j (.int v) = fs.mapIdx (gFd al (upd r j v)) := by
  apply List.ext_getElem?
  intro i
  by_cases hi : i = j
  · subst hi
    have hl : i < fs.length := (List.getElem?_eq_some_iff.mp h).1
    rw [List.getElem?_set_self (by rw [List.length_mapIdx]; exact hl), List.getElem?_mapIdx, h]
    simp [gFd, upd]
  · rw [List.getElem?_set_ne (fun e => hi e.symm), List.getElem?_mapIdx, List.getElem?_mapIdx]
    cases fs[i]? with
    | none => rfl
    | some f =>
      cases f with
      | none => simp [gFd, upd, hi]
      | some t => rfl
/-- the orders' counts, the class's own static row -/
def hmo (j : Nat) : Int32 := ([1, 1, 2, 6, 24, 120, 720] : List Int32).getD j 0
def gZ (E : gT) (sz : Nat) (U : State) : Prop := va_Z "AreaOrders" "HOW_MANY_ORDERS" "[I" (.ref E.2.2.2) (gA E sz) U U.heap ∧ va_T .int E.2.2.2 7 (fun j => .int (hmo j)) (gA E sz) U U.heap
def gQ (E : gT) (K : Option Value → Mm → Prop) (sz : Nat) : Array Value → State → Outcome → State → Prop := fun _ st oc t => (∃ (v : Option Value) (u : Mm), oc = .returned v ∧ K v u ∧ va_P E.1 vwCl (gW E u) t.heap ∧ va_K E.1 vwCl (gY E) t ∧ va_D (gA E sz) (gW E u)) ∧ va_F (gA E sz) st t
def gV (ls : Array Slot) (nL : Nat) (lv : List (Option Value)) : Prop := ls.size = nL ∧ lv_wf ls ∧ ∀ (i : Nat) (v : Value), lv[i]? = some (some v) → ls[i]? = some (.val v)
def gC (E : gT) (cc : ByteArray) (nL : Nat) (own : String) (ret : Option FieldType) (p : Program) (s : State) (m : MethodId) (args : Array Value) (meth : Method) (c : Code) : Prop :=
  p.tables.exec = Jvm.exec ∧ c.code = cc ∧ c.maxLocals = nL ∧ s.vm.findClass own = some m.cls ∧ (∀ w ∈ gWd, w.before args s = true) ∧ meth.sig.returnType = ret ∧ meth.locks = false ∧ va_K E.1 vwCl (gY E) s ∧ gZ E s.heap.size s
def gR (E : gT) (u : Mm) (nL : Nat) (lv : List (Option Value)) (s : State) (H : Heap) (locs : List Loc) (ls : Array Slot) : Prop :=
  va_P E.1 vwCl (gW E u) H ∧ va_D (gA E s.heap.size) (gW E u) ∧ va_S (gA E s.heap.size) s.heap H locs ∧ gV ls nL lv
abbrev gRm (d : Nat) : Room := { frames := d, cells := 0, slots := 0, locals := 35 * d }
/-- from pc, with these locals, this stack and this memory, the method comes to its end with K -/
def G (E : gT) (cc : ByteArray) (nL : Nat) (own : String) (ret : Option FieldType) (d : Nat) (K : Option Value → Mm → Prop) (pc : Nat) (lv : List (Option Value)) (st : List Value) (u : Mm) : Prop :=
  ∀ (p : Program) (l : Launch) (e : Env) (s : State) (m : MethodId) (args : Array Value) (below : List Frame) (meth : Method) (c : Code) (H : Heap) (locs : List Loc) (ls : Array Slot), gC E cc nL own ret p s m args meth c → gR E u nL lv s H locs ls →
    W p l e (gRm d) s m args below meth c H locs 0 0 (MQ below (gQ E K s.heap.size) args s 0 0 (gA E s.heap.size)) (F0 m pc ls st)
def Con (E : gT) (y : MethodName) (cc : ByteArray) (nL : Nat) (ret : Option FieldType) (d : Nat) (As : List Value) (u : Mm) (K : Option Value → Mm → Prop) : Prop :=
  ∀ (l : Launch) (sz : Nat), Met l y (.code y cc nL ret :: gWd) (gRm d) (va_Pc As (fun U => U.heap.size = sz ∧ va_P E.1 vwCl (gW E u) U.heap ∧ va_K E.1 vwCl (gY E) U ∧ va_D (fun _ => True) (gW E u) ∧ gZ E sz U)) (gQ E K sz) 0 0 (gA E sz)
/-! locals -/
def gTo (lv : List (Option Value)) : List (Nat × Value) := (List.range lv.length).filterMap (fun i => (lv.getD i none).map (fun v => (i, v)))
theorem gTo_mem {lv : List (Option Value)} {i : Nat} {v : Value} : (i, v) ∈ gTo lv ↔ lv[i]? = some (some v) := by
  unfold gTo
  rw [List.mem_filterMap]
  constructor
  · rintro ⟨a, ha, h⟩
    rw [List.mem_range] at ha
    rw [List.getD_eq_getElem?_getD, List.getElem?_eq_getElem ha] at h
    simp only [Option.getD_some, Option.map_eq_some_iff] at h
    obtain ⟨w, hw, e⟩ := h
    cases e
    rw [List.getElem?_eq_getElem ha, hw]
  · intro h
    have hl := (List.getElem?_eq_some_iff.mp h).1
    refine ⟨i, List.mem_range.mpr hl, ?_⟩
    rw [List.getD_eq_getElem?_getD, h]
    rfl
theorem gV.has {ls : Array Slot} {nL : Nat} {lv : List (Option Value)} (h : gV ls nL lv) : lv_has ls nL (gTo lv) := ⟨h.1, h.2.1, fun q hq => h.2.2 q.1 q.2 (gTo_mem.mp hq)⟩
def gOk (lv : List (Option Value)) (i : Nat) : Bool := i == 0 || (match lv.getD (i - 1) none with
    | some v => v.category == 1
    | none => true)
theorem gOk_of {lv : List (Option Value)} {i j : Nat} {v : Value} (h : gOk lv i = true) (hj : j + 1 = i) (hv : lv[j]? = some (some v)) : v.category = 1 := by
  subst hj
  unfold gOk at h
  rw [Nat.add_sub_cancel, List.getD_eq_getElem?_getD, hv] at h
  simpa using h
theorem gV_set {ls : Array Slot} {nL i : Nat} {lv : List (Option Value)} {v : Value} (ho : gOk lv i = true) (h : lv_has ls nL ((i, v) :: (gTo lv).filter (fun q => !(q.1 == i) && !(q.1 + 1 == i && q.2.category == 2)))) : gV ls nL (lv.set i (some v)) := by
  refine ⟨h.1, h.2.1, fun j w hj => ?_⟩
  by_cases e : j = i
  · subst e
    have hl : j < lv.length := by
      have := (List.getElem?_eq_some_iff.mp hj).1
      rwa [List.length_set] at this
    rw [List.getElem?_set_self hl] at hj
    cases hj
    exact h.2.2 (j, v) List.mem_cons_self
  · rw [List.getElem?_set_ne (fun q => e q.symm)] at hj
    refine h.2.2 (j, w) (List.mem_cons_of_mem _ (List.mem_filter.mpr ⟨gTo_mem.mpr hj, ?_⟩))
    by_cases e2 : j + 1 = i
    · have hc := gOk_of ho e2 hj
      simp [e, hc]
    · simp [e, e2]
theorem gV_set2 {ls : Array Slot} {nL i : Nat} {lv : List (Option Value)} {v : Value} (ho : gOk lv i = true) (h : lv_has ls nL ((i, v) :: (gTo lv).filter (fun q => !(q.1 == i) && (!(q.1 == i + 1) && !(q.1 + 1 == i && q.2.category == 2))))) : gV ls nL ((lv.set i (some v)).set (i + 1) none) := by
  refine ⟨h.1, h.2.1, fun j w hj => ?_⟩
  by_cases e1 : j = i + 1
  · subst e1
    rw [List.getElem?_set] at hj
    simp only [if_true] at hj
    split at hj
    · cases hj
    · cases hj
  · rw [List.getElem?_set_ne (fun q => e1 q.symm)] at hj
    by_cases e : j = i
    · subst e
      have hl : j < lv.length := by
        have := (List.getElem?_eq_some_iff.mp hj).1
        rwa [List.length_set] at this
      rw [List.getElem?_set_self hl] at hj
      cases hj
      exact h.2.2 (j, v) List.mem_cons_self
    · rw [List.getElem?_set_ne (fun q => e q.symm)] at hj
      refine h.2.2 (j, w) (List.mem_cons_of_mem _ (List.mem_filter.mpr ⟨gTo_mem.mpr hj, ?_⟩))
      by_cases e2 : j + 1 = i
      · have hc := gOk_of ho e2 hj
        simp [e, e1, hc]
      · simp [e, e1, e2]
/-- the locals with which a method begins -/
def gEn (nL : Nat) (As : List Value) : List (Option Value) := (List.range nL).map (fun i => ((lv_args 0 As).find? (fun q => q.1 == i)).map (fun q => q.2))
theorem gEn_of {ls : Array Slot} {nL : Nat} {As : List Value} (h : lv_has ls nL (lv_args 0 As)) : gV ls nL (gEn nL As) := by
  refine ⟨h.1, h.2.1, fun i v hi => ?_⟩
  unfold gEn at hi
  rw [List.getElem?_map] at hi
  by_cases hl : i < nL
  · rw [List.getElem?_range hl] at hi
    simp only [Option.map_some, Option.some.injEq, Option.map_eq_some_iff] at hi
    obtain ⟨q, hq, rfl⟩ := hi
    have h1 := List.mem_of_find?_eq_some hq
    have h2 := List.find?_some hq
    have h3 : q.1 = i := by simpa using h2
    rw [← h3]
    exact h.2.2 q h1
  · rw [List.getElem?_eq_none (by rw [List.length_range]; omega)] at hi
    cases hi
/-- fewer known locals -/
def gLe (lw lv : List (Option Value)) : Prop := ∀ (i : Nat) (v : Value), lw[i]? = some (some v) → lv[i]? = some (some v)
theorem gLe_nil {lv : List (Option Value)} : gLe [] lv := fun i v h => by simp at h
theorem gLe_n {o : Option Value} {lw lv : List (Option Value)} (h : gLe lw lv) : gLe (none :: lw) (o :: lv) := fun i v hi => by
  cases i with
  | zero => simp at hi
  | succ i => simpa using h i v (by simpa using hi)
theorem gLe_s {o : Option Value} {lw lv : List (Option Value)} (h : gLe lw lv) : gLe (o :: lw) (o :: lv) := fun i v hi => by
  cases i with
  | zero => simpa using hi
  | succ i => simpa using h i v (by simpa using hi)
/-! the static row and the frame's own set -/
theorem gA_mono {E : gT} {a b : Nat} (h : a ≤ b) (q : Nat) (hq : gA E b q) : gA E a q := hq.imp id (fun z => Nat.le_trans h z)
theorem gZ.at {E : gT} {s U : State} {H : Heap} {locs : List Loc} (h : gZ E s.heap.size s) (hS : va_S (gA E s.heap.size) s.heap H locs) (hU : U.heap = H) (hvm : s.vm.Alike U.vm) : gZ E H.size U := by
  refine ⟨?_, ?_⟩
  · rw [hU]
    exact va_Z.moved hvm ((h.1.kept hS.2.1).narrow (gA_mono hS.1))
  · rw [hU]
    exact va_T.moved hvm ((h.2.kept hS.2.1).narrow (gA_mono hS.1))
theorem gZ.moved {E : gT} {sz : Nat} {u U : State} (h : gZ E sz u) (hh : U.heap = u.heap) (hvm : u.vm.Alike U.vm) : gZ E sz U := by
  refine ⟨?_, ?_⟩
  · rw [hh]
    exact va_Z.moved hvm h.1
  · rw [hh]
    exact va_T.moved hvm h.2
theorem gD_self {E : gT} {u : Mm} {A : Nat → Prop} {sz : Nat} (h : va_D A (gW E u)) : va_D (gA E sz) (gW E u) := ⟨h.1, fun k q hk => by
  obtain ⟨h1, h2⟩ := gW_in hk
  exact Or.inl ⟨k, h1, h2⟩⟩
/-- a contract out of the walk of its body -/
theorem Con.of {E : gT} {y : MethodName} {cc : ByteArray} {nL : Nat} {ret : Option FieldType} {d : Nat} {As : List Value} {u : Mm} {K : Option Value → Mm → Prop} {lv : List (Option Value)} (hy : plainName y.cls = true) (hlen : (lg_sl As).length ≤ nL) (hlv : gEn nL As = lv) (h : G E cc nL y.cls ret d K 0 lv [] u) : Con E y cc nL ret d As u K := by
  intro l sz
  refine Met.ofW (cc := cc) (maxL := nL) (ret := ret) hy rfl ?_
  intro p e s m args below meth c s₁ B hml hv
  obtain ⟨rfl, hsz, hP, hK, hD0, hZ⟩ := hv
  subst hsz
  subst hlv
  rw [lg_entry_eq]
  refine h p l e s m _ below meth c s.heap [] _ ⟨B.exec, B.bytes, hml, findClass_of_methodNamed B.named, fun w hw => atoms_spec (ws := .code y cc nL ret :: gWd) B.pre w (List.mem_cons_of_mem _ hw), B.returns, B.notSynchronized, hK, hZ⟩ ⟨hP, gD_self hD0, va_S.rf, gEn_of (lv_entry As hlen)⟩
theorem Con.mono {E : gT} {y : MethodName} {cc : ByteArray} {nL : Nat} {ret : Option FieldType} {d : Nat} {As : List Value} {u : Mm} {K : Option Value → Mm → Prop} {As' : List Value} {u' : Mm} (h : Con E y cc nL ret d As u K) (h1 : As = As') (h2 : u = u') : Con E y cc nL ret d As' u' K := by
  subst h1; subst h2; exact h
