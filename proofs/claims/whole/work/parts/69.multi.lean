/-- the tables know the arrays over arrays of a kind -/
def va_AOA (ty : FieldType) (U : State) : Prop := (Cond.arrayOver (.array ty)).before #[] U = true
/-! new int[2][6], made piece by piece: the outer array, its first row, that row set, its second row, that row set -/
theorem mn_over {s : State} (h : va_AOA .int s) : ∃ (ci co : ClassId) (k : Class), s.vm.findClass "[I" = some ci ∧ s.vm.findClass "[[I" = some co ∧ s.vm.classes[co]? = some k ∧ k.kind = .array ci (.array .int) := by
  unfold va_AOA Cond.before Cond.holds at h
  simp only [Cond.value, beq_iff_eq, Option.bind_eq_some_iff, Option.map_eq_some_iff] at h
  obtain ⟨ci, hci, co, hco, k, hk, hb⟩ := h
  obtain ⟨hlt, hp, -⟩ := Array.findIdx?_eq_some_iff_getElem.mp hco
  have hkk : s.vm.classes[co] = k := (Array.getElem?_eq_some_iff.mp hk).2
  rw [hkk] at hp
  cases hkind : k.kind with
  | array c1 t1 =>
    rw [hkind] at hp hb
    simp only [Bool.and_eq_true, decide_eq_true_eq] at hb
    have e1 : c1 = ci := by simpa using hp
    exact ⟨ci, co, k, hci, hb.2, hk, by rw [hkind, e1, hb.1]⟩
  | _ => rw [hkind] at hp; simp at hp
/-- a row of six zeros; the array of two, still empty -/
def mn_r (ci : ClassId) : Cell := { cls := ci, slots := Array.replicate 6 (.int 0), vm := .none }
def mn_b (co : ClassId) : Cell := { cls := co, slots := Array.replicate 2 .null, vm := .none }
def mn_b1 (co : ClassId) (a : Nat) : Cell := (mn_b co).setSlot 0 (.ref (a + 1))
def mn_b2 (co : ClassId) (a : Nat) : Cell := (mn_b1 co a).setSlot 1 (.ref (a + 2))
def mn_1 (U : State) (ci co : ClassId) : State := (U.pushCell (mn_b co)).pushCell (mn_r ci)
def mn_2 (U : State) (ci co : ClassId) : State := ((mn_1 U ci co).setCell U.heap.size (mn_b1 co U.heap.size)).pushCell (mn_r ci)
def mn_3 (U : State) (ci co : ClassId) : State := (mn_2 U ci co).setCell U.heap.size (mn_b2 co U.heap.size)
theorem mn_1_h (U : State) (ci co : ClassId) : (mn_1 U ci co).heap = (U.heap.push (mn_b co)).push (mn_r ci) := rfl
theorem mn_2_h (U : State) (ci co : ClassId) : (mn_2 U ci co).heap = (((U.heap.push (mn_b co)).push (mn_r ci)).setIfInBounds U.heap.size (mn_b1 co U.heap.size)).push (mn_r ci) := rfl
theorem mn_3_h (U : State) (ci co : ClassId) : (mn_3 U ci co).heap = ((((U.heap.push (mn_b co)).push (mn_r ci)).setIfInBounds U.heap.size (mn_b1 co U.heap.size)).push (mn_r ci)).setIfInBounds U.heap.size (mn_b2 co U.heap.size) := rfl
theorem mn_size (U : State) (ci co : ClassId) : (mn_3 U ci co).heap.size = U.heap.size + 3 := by
  rw [mn_3_h]
  simp
theorem mn_old (U : State) (ci co : ClassId) {x : Nat} (h : x < U.heap.size) : (mn_3 U ci co).heap[x]? = U.heap[x]? := by
  rw [mn_3_h]
  simp only [Array.getElem?_setIfInBounds, Array.getElem?_push, Array.size_setIfInBounds, Array.size_push]
  rw [if_neg (by omega), if_neg (by omega), if_neg (by omega), if_neg (by omega), if_neg (by omega)]
theorem mn_at0 (U : State) (ci co : ClassId) : (mn_3 U ci co).heap[U.heap.size]? = some (mn_b2 co U.heap.size) := by
  rw [mn_3_h]
  simp only [Array.getElem?_setIfInBounds, Array.size_setIfInBounds, Array.size_push]
  rw [if_pos trivial, if_pos (by omega)]
theorem mn_at1 (U : State) (ci co : ClassId) : (mn_3 U ci co).heap[U.heap.size + 1]? = some (mn_r ci) := by
  rw [mn_3_h]
  simp only [Array.getElem?_setIfInBounds, Array.getElem?_push, Array.size_setIfInBounds, Array.size_push]
  rw [if_neg (by omega), if_neg (by omega), if_neg (by omega), if_pos trivial]
theorem mn_at2 (U : State) (ci co : ClassId) : (mn_3 U ci co).heap[U.heap.size + 2]? = some (mn_r ci) := by
  rw [mn_3_h]
  simp only [Array.getElem?_setIfInBounds, Array.getElem?_push, Array.size_setIfInBounds, Array.size_push]
  rw [if_neg (by omega), if_pos trivial]
section MNW
variable {E : CtlPost} {e : Env} {d : Bool} {acts : List Action} {s : State} {ci co cx : ClassId} {ki ko : Class}
theorem mn_row (hk : s.vm.classes[ci]? = some ki) (hkind : ki.kind = .array cx .int) (hl : 6 ≤ e.platform.arrayLengthLimit) (hh : 24 ≤ e.platform.maxHeapBytes) (h1 : s.heap.size < e.platform.maxCells) (h2 : s.slotsUsed + 6 ≤ e.platform.maxSlots) {Q : Addr → Pre} (hq : ∀ acts', Q s.heap.size d acts' (s.pushCell (mn_r ci))) : wp (Jvm.Op.multianewarray.make ci [6]) Q E e d acts s := by
  rw [Jvm.Op.multianewarray.make]
  simp only [wp_bind', Jvm.W.ite, show ¬ ((6 : Int32) < 0) by decide, if_false, wp_pure', Jvm.W.theClass, hk, hkind, Option.some.injEq, exists_eq_left']
  exact Jvm.W.newArray_of (howMany := 6) hk hkind (by omega) (by show ¬ 6 * 4 > _; omega) h1 h2 rfl hq
theorem mn_make (hko : s.vm.classes[co]? = some ko) (hkindo : ko.kind = .array ci (.array .int)) (hki : s.vm.classes[ci]? = some ki) (hkindi : ki.kind = .array cx .int) (hl : 6 ≤ e.platform.arrayLengthLimit) (hh : 24 ≤ e.platform.maxHeapBytes) (h1 : s.heap.size + 3 ≤ e.platform.maxCells) (h2 : s.slotsUsed + 14 ≤ e.platform.maxSlots) {Q : Addr → Pre} (hq : ∀ d' acts', Q s.heap.size d' acts' (mn_3 s ci co)) : wp (Jvm.Op.multianewarray.make co [2, 6]) Q E e d acts s := by
  have hf : ∀ (u : State) (i a : Nat), u.vm = s.vm → u.fitsSlot co .none i (.ref a) = true := fun u i a hu => by
    simp only [State.fitsSlot, State.slotType?, hu, hko, Option.bind_eq_bind, Option.bind_some, hkindo]
    rfl
  rw [Jvm.Op.multianewarray.make]
  simp only [wp_bind', Jvm.W.ite, show ¬ ((2 : Int32) < 0) by decide, if_false, wp_pure', Jvm.W.theClass, hko, hkindo, Option.some.injEq, exists_eq_left']
  refine Jvm.W.newArray_of (howMany := 2) hko hkindo (by omega) (by show ¬ 2 * 4 > _; omega) (by omega) (by omega) rfl (fun acts1 => ?_)
  rw [Std.Legacy.Range.forIn_eq_forIn_range', show (List.range' ([:(2 : Int32).toNatClampNeg] : Std.Legacy.Range).start ([:(2 : Int32).toNatClampNeg] : Std.Legacy.Range).size ([:(2 : Int32).toNatClampNeg] : Std.Legacy.Range).step) = [0, 1] by decide]
  simp only [List.forIn_cons, List.forIn_nil, wp_bind', wp_pure']
  rw [if_neg (by decide)]
  simp only [wp_bind', wp_pure']
  refine mn_row (s := s.pushCell (mn_b co)) hki hkindi hl hh (by show (s.heap.push _).size < _; rw [Array.size_push]; omega) (by show s.slotsUsed + (Array.replicate 2 Value.null).size + 6 ≤ _; rw [Array.size_replicate]; omega) (fun acts2 => ?_)
  have g1 : (mn_1 s ci co).heap[s.heap.size]? = some (mn_b co) := by
    rw [mn_1_h, Array.getElem?_push, Array.size_push, if_neg (by omega), Array.getElem?_push, if_pos rfl]
  have g2 : (mn_2 s ci co).heap[s.heap.size]? = some (mn_b1 co s.heap.size) := by
    rw [mn_2_h, Array.getElem?_push, Array.size_setIfInBounds, Array.size_push, Array.size_push, if_neg (by omega), Array.getElem?_setIfInBounds, if_pos rfl, Array.size_push, Array.size_push, if_pos (by omega)]
  simp only [wp_bind', wp_pure', Jvm.W.writeLoc]
  have e1 : (s.pushCell (mn_b co)).heap.size = s.heap.size + 1 := Array.size_push _
  rw [e1]
  refine ⟨mn_b co, g1, (fun h => by cases h), (by simp [mn_b]), hf _ 0 _ rfl, ?_⟩
  refine mn_row (s := (mn_1 s ci co).setCell s.heap.size (mn_b1 co s.heap.size)) hki hkindi hl hh ?_ ?_ (fun acts3 => ?_)
  · show (((s.heap.push _).push _).setIfInBounds _ _).size < _
    rw [Array.size_setIfInBounds, Array.size_push, Array.size_push]
    omega
  · show s.slotsUsed + (Array.replicate 2 Value.null).size + (Array.replicate 6 (Value.int 0)).size + 6 ≤ _
    rw [Array.size_replicate, Array.size_replicate]
    omega
  simp only [wp_bind', wp_pure', Jvm.W.writeLoc]
  have e2 : ((mn_1 s ci co).setCell s.heap.size (mn_b1 co s.heap.size)).heap.size = s.heap.size + 2 := by
    show (((s.heap.push _).push _).setIfInBounds _ _).size = _
    rw [Array.size_setIfInBounds, Array.size_push, Array.size_push]
  rw [e2]
  exact ⟨mn_b1 co s.heap.size, g2, (fun h => by cases h), (by simp [mn_b1, mn_b, Cell.setSlot]), hf _ 1 _ rfl, hq _ _⟩
/-- the instruction over tables that know its class -/
theorem mn_sem {f : JFrame} {index : Nat} {rest : List Value} {vm1 : Vm} (hs : s.topJava?.isSome) (hg : (Jvm.resolveClass f.method.cls index).Gives e.toSetting s.vm (.ok co) vm1) (hr : vm1.classReady f.method.cls index co) (hsz : vm1.classes.size ≤ s.vm.classes.size) (hst : f.stack = .int 6 :: .int 2 :: rest) (hko : vm1.classes[co]? = some ko) (hkindo : ko.kind = .array ci (.array .int)) (hki : vm1.classes[ci]? = some ki) (hkindi : ki.kind = .array cx .int) (hl : 6 ≤ e.platform.arrayLengthLimit) (hh : 24 ≤ e.platform.maxHeapBytes) (h1 : s.heap.size + 3 ≤ e.platform.maxCells) (h2 : s.slotsUsed + 14 ≤ e.platform.maxSlots) {Q : Unit → Pre} (hq : ∀ d' acts', Q () d' acts' ((mn_3 (s.setVm vm1) ci co).setTop { f with stack := .ref s.heap.size :: rest })) : wp (Jvm.Op.multianewarray.sem index 2) Q E e d acts (s.setTop f) := by
  unfold Jvm.Op.multianewarray.sem
  rw [wp_bind', Jvm.W.resolveClassAt_transfer (s := s.setTop f) (State.method?_setTop f hs) hg hr hsz, Jvm.W.resolveClassAt_ready (s := (s.setTop f).setVm vm1) (State.method?_setTop f hs) hr, wp_bind']
  refine (Jvm.Op.popN_top (s := s.setVm vm1) (args := [.int 2, .int 6]) (rest := rest) hs hst).mpr ?_
  simp only [List.mapM_cons, List.mapM_nil, wp_bind', wp_pure', Jvm.W.mark, Jvm.W.pushRef]
  refine mn_make (s := (s.setVm vm1).setTop { f with stack := rest }) hko hkindo hki hkindi hl hh h1 h2 (fun d' acts' => ?_)
  refine ⟨{ f with stack := rest }, State.topJava?_setTop' (s := mn_3 (s.setVm vm1) ci co) _ hs, ?_⟩
  have e9 : ∀ g : JFrame, (mn_3 ((s.setVm vm1).setTop { f with stack := rest }) ci co).setTop g = (mn_3 (s.setVm vm1) ci co).setTop g := fun g => by
    show ((mn_3 (s.setVm vm1) ci co).setTop { f with stack := rest }).setTop g = _
    rw [State.setTop_setTop]
  rw [e9]
  exact hq true acts'
end MNW
section MNS
variable {p : Program} {l : Launch} {e : Env} {R : Room} {s : State} {m : MethodId} {args : Array Value} {below : List Frame} {meth : Method} {c : Code} {T : State} {locs : List Loc} {cells slots : Nat}
/-- the instruction in a walk -/
theorem mn_step (X : Stand p l e R s m args below meth c T locs cells slots) (hexec : p.tables.exec = Jvm.exec) {own : String} {index : Nat} (hown : s.vm.findClass own = some m.cls) (hclink : (Cond.classLink own index "[[I").before args s = true) (hover : va_AOA .int s) (harr : (Cond.arrayClass .int).before args s = true) {pc : Nat} {ls : Array Slot} {rest : List Value} (hdg : decode c.code pc = .ok (.multianewarray index 2, 4)) (hcells : cells + 3 ≤ R.cells) (hslots : slots + 14 ≤ R.slots) :
    ∃ (vm1 : Vm) (ci co : ClassId), s.vm.findClass "[I" = some ci ∧ s.vm.findClass "[[I" = some co ∧ Stand p l e R s m args below meth c (mn_3 (T.setVm vm1) ci co) locs (cells + 3) (slots + 14) ∧
      ∀ t, Steps p.tables e below ((mn_3 (T.setVm vm1) ci co).setTop (F0 m (pc + 4) ls (.ref T.heap.size :: rest))) t → Steps p.tables e below (T.setTop (F0 m pc ls (.int 6 :: .int 2 :: rest))) t := by
  have hpl : e.platform.magicAccessors = ({} : Platform).magicAccessors := by rw [X.admits.platform]
  obtain ⟨ci, co, ko, hci, hco, hko, hkindo⟩ := mn_over hover
  obtain ⟨c1, ki, cx, hc1, hki, hkindi⟩ := Cond.arrayClass_spec harr
  have ec : some ci = some c1 := hci.symm.trans hc1
  cases ec
  obtain ⟨c2, hc2, hcl⟩ := Cond.classLink_spec hown hclink e.platform hpl
  have ec2 : some co = some c2 := hco.symm.trans hc2
  cases ec2
  obtain ⟨hg, hwarm, hready⟩ := State.classEntry (e := e) X.warmed hcl
  have hsz : (T.vm.noted m.cls index (.cls co)).classes.size ≤ T.vm.classes.size := by no_record
  generalize T.vm.noted m.cls index (.cls co) = vm1 at hg hwarm hready hsz
  have hal : s.vm.Alike vm1 := hwarm.alike
  obtain ⟨ko1, hko1, eo⟩ := hal.2.2 _ _ hko
  obtain ⟨ki1, hki1, ei⟩ := hal.2.2 _ _ hki
  have hkindo1 : ko1.kind = .array ci (.array .int) := by rw [eo]; exact hkindo
  have hkindi1 : ki1.kind = .array cx .int := by rw [ei]; exact hkindi
  obtain ⟨hr1, hr2⟩ := X.roomAbove hcells hslots
  have hl : 6 ≤ e.platform.arrayLengthLimit := by rw [Launch.admits_arrayLengthLimit X.admits]; omega
  have hh : 24 ≤ e.platform.maxHeapBytes := by rw [Launch.admits_maxHeapBytes X.admits]; omega
  have hgr : s.heap.size ≤ T.heap.size := X.heapGrown
  have X1 := ((X.noted hwarm).pushed (mn_b co)).pushed (mn_r ci)
  have g1 : (mn_1 (T.setVm vm1) ci co).heap[(T.setVm vm1).heap.size]? = some (mn_b co) := by
    rw [mn_1_h, Array.getElem?_push, Array.size_push, if_neg (by omega), Array.getElem?_push, if_pos rfl]
  have g2 : (mn_2 (T.setVm vm1) ci co).heap[(T.setVm vm1).heap.size]? = some (mn_b1 co (T.setVm vm1).heap.size) := by
    rw [mn_2_h, Array.getElem?_push, Array.size_setIfInBounds, Array.size_push, Array.size_push, if_neg (by omega), Array.getElem?_setIfInBounds, if_pos rfl, Array.size_push, Array.size_push, if_pos (by omega)]
  have X2 := (X1.stored g1 0 (.ref ((T.setVm vm1).heap.size + 1))).pushed (mn_r ci)
  have X3 := X2.stored g2 1 (.ref ((T.setVm vm1).heap.size + 2))
  have X4 := (X3.dropFresh (fun x hx => by cases List.mem_singleton.mp hx; exact hgr)).dropFresh (fun x hx => by cases List.mem_singleton.mp hx; exact hgr)
  refine ⟨vm1, ci, co, hci, hco, ?_, fun t ht => ?_⟩
  · have es : slots + (mn_b co).slots.size + (mn_r ci).slots.size + (mn_r ci).slots.size = slots + 14 := by simp [mn_b, mn_r]
    rw [es] at X4
    exact X4
  · refine Steps.instr (c := c) (f := F0 m pc ls (.int 6 :: .int 2 :: rest)) X.here ?_
    rw [show decode c.code (F0 m pc ls (.int 6 :: .int 2 :: rest)).pc = .ok (.multianewarray index 2, 4) from hdg]
    show wpRun (p.tables.exec (.multianewarray index 2)) _ _ e _
    rw [hexec]
    refine mn_sem (s := T) (f := F0 m pc ls (.int 6 :: .int 2 :: rest)) X.here.top hg hready hsz rfl hko1 hkindo1 hki1 hkindi1 hl hh (by omega) hr2 (fun d' acts' acts'' => ?_)
    rw [afterInstr_ok]
    exact ht
end MNS
theorem mn_r_cell (ci : ClassId) : mn_r ci = vp_cell ci (6, .inl (fun _ => 0)) := arrV_new ci 6 (.int 0)
theorem mn_b_cell (co : ClassId) (a : Nat) : mn_b2 co a = vp_cell co (2, .inr (.inr (.inr (.inr (fun i => ([a + 1, a + 2] : List Nat)[i]?))))) := by
  rw [vp_cell_q]
  show (({ cls := co, slots := Array.replicate 2 .null, vm := .none } : Cell).setSlot 0 (.ref (a + 1))).setSlot 1 (.ref (a + 2)) = _
  rw [arrV_new, arrV_store, arrV_store]
  refine congrArg (arrV co 2) (funext fun j => ?_)
  match j with
  | 0 => rfl
  | 1 => rfl
  | j + 2 => simp [updV, va_rf]
/-- one more address, above all others -/
theorem mn_D1 {A : Nat → Prop} {ws : va_W} {n : Nat} {x : va_E} (hD : va_D A ws) (hb : ∀ (k : Nat) (q : Nat × va_E), ws[k]? = some q → q.1 < n) (hA : A n) : va_D A (ws ++ [(n, x)]) ∧ ∀ (k : Nat) (q : Nat × va_E), (ws ++ [(n, x)])[k]? = some q → q.1 < n + 1 := by
  have hc : ∀ (k : Nat) (q : Nat × va_E), (ws ++ [(n, x)])[k]? = some q → (k < ws.length ∧ ws[k]? = some q) ∨ (k = ws.length ∧ q = (n, x)) := fun k q h => by
    by_cases hk : k < ws.length
    · rw [List.getElem?_append_left hk] at h
      exact .inl ⟨hk, h⟩
    · rw [List.getElem?_append_right (by omega)] at h
      have h0 : k - ws.length < 1 := (List.getElem?_eq_some_iff.mp h).1
      rw [show k - ws.length = 0 by omega] at h
      cases h
      exact .inr ⟨by omega, rfl⟩
  refine ⟨⟨fun i j y z hi hj e => ?_, fun k q h => ?_⟩, fun k q h => ?_⟩
  · rcases hc i y hi with ⟨-, h1⟩ | ⟨h1, rfl⟩ <;> rcases hc j z hj with ⟨-, h2⟩ | ⟨h2, rfl⟩
    · exact hD.1 i j y z h1 h2 e
    · exact absurd e (Nat.ne_of_lt (hb i y h1))
    · exact absurd e.symm (Nat.ne_of_lt (hb j z h2))
    · omega
  · rcases hc k q h with ⟨-, h1⟩ | ⟨-, rfl⟩
    · exact hD.2 k q h1
    · exact hA
  · rcases hc k q h with ⟨-, h1⟩ | ⟨-, rfl⟩
    · exact Nat.lt_succ_of_lt (hb k q h1)
    · exact Nat.lt_succ_self n
section MNV
variable {p : Program} {l : Launch} {e : Env} {R : Room} {s : State} {m : MethodId} {args : Array Value} {below : List Frame} {meth : Method} {c : Code} {H : Heap} {locs : List Loc} {cells slots : Nat} {Q : State → Prop}
theorem mn_W {cc : ByteArray} {pc : Nat} {ls : Array Slot} {rest : List Value} {D : va_G} {cl : List vw_C} {A : Nat → Prop} {ws : va_W} {H0 : Heap} {own : String} {index : Nat} {ci co : ClassId} (hexec : p.tables.exec = Jvm.exec) (hb : c.code = cc) (hown : s.vm.findClass own = some m.cls) (hclink : (Cond.classLink own index "[[I").before args s = true) (hover : va_AOA .int s) (harr : (Cond.arrayClass .int).before args s = true) (hci : s.vm.findClass "[I" = some ci) (hco : s.vm.findClass "[[I" = some co)
    (hP : va_P D cl ws H) (hD : va_D A ws) (hS : va_S A H0 H locs) (hA : ∀ q, H0.size ≤ q → A q) (hcells : cells + 3 ≤ R.cells) (hslots : slots + 14 ≤ R.slots) (hdg : decode cc pc = .ok (.multianewarray index 2, 4))
    (kk : ∀ (q q1 q2 : Nat) (H1 : Heap), va_P D cl (ws ++ [(q, .inl (co, 2, .inr (.inr (.inr (.inr (fun i => ([q1, q2] : List Nat)[i]?)))))), (q1, .inl (ci, 6, .inl (fun _ => 0))), (q2, .inl (ci, 6, .inl (fun _ => 0)))]) H1 → va_D A (ws ++ [(q, .inl (co, 2, .inr (.inr (.inr (.inr (fun i => ([q1, q2] : List Nat)[i]?)))))), (q1, .inl (ci, 6, .inl (fun _ => 0))), (q2, .inl (ci, 6, .inl (fun _ => 0)))]) → va_S A H0 H1 locs →
      W p l e R s m args below meth c H1 locs (cells + 3) (slots + 14) Q (F0 m (pc + 4) ls (.ref q :: rest))) : W p l e R s m args below meth c H locs cells slots Q (F0 m pc ls (.int 6 :: .int 2 :: rest)) := by
  intro T hT X
  subst hT
  obtain ⟨vm1, c1, c2, h1, h2, X1, step⟩ := mn_step X hexec hown hclink hover harr (pc := pc) (ls := ls) (rest := rest) (by rw [hb]; exact hdg) hcells hslots
  have e1 : some ci = some c1 := hci.symm.trans h1
  cases e1
  have e2 : some co = some c2 := hco.symm.trans h2
  cases e2
  have hb0 : ∀ (k : Nat) (q : Nat × va_E), ws[k]? = some q → q.1 < T.heap.size := fun k q h => (hP k q h).lt
  have hold : ∀ x : Nat, x < T.heap.size → (mn_3 (T.setVm vm1) ci co).heap[x]? = T.heap[x]? := fun x hx => mn_old (T.setVm vm1) ci co hx
  have hP1 : va_P D cl ws (mn_3 (T.setVm vm1) ci co).heap := hP.kept (fun k q h => hold q.1 (hb0 k q h))
  have hP2 : va_P D cl (ws ++ [(T.heap.size, .inl (co, 2, .inr (.inr (.inr (.inr (fun i => ([T.heap.size + 1, T.heap.size + 2] : List Nat)[i]?)))))), (T.heap.size + 1, .inl (ci, 6, .inl (fun _ => 0))), (T.heap.size + 2, .inl (ci, 6, .inl (fun _ => 0)))]) (mn_3 (T.setVm vm1) ci co).heap := hP1.app (fun k q h => by
    match k, h with
    | 0, h =>
      cases h
      exact (mn_at0 (T.setVm vm1) ci co).trans (congrArg some (mn_b_cell co _))
    | 1, h =>
      cases h
      exact (mn_at1 (T.setVm vm1) ci co).trans (congrArg some (mn_r_cell ci))
    | 2, h =>
      cases h
      exact (mn_at2 (T.setVm vm1) ci co).trans (congrArg some (mn_r_cell ci))
    | k + 3, h => cases h)
  have hle : H0.size ≤ T.heap.size := hS.1
  obtain ⟨d1, b1⟩ := mn_D1 (x := .inl (co, 2, .inr (.inr (.inr (.inr (fun i => ([T.heap.size + 1, T.heap.size + 2] : List Nat)[i]?)))))) hD hb0 (hA _ hle)
  obtain ⟨d2, b2⟩ := mn_D1 (x := .inl (ci, 6, .inl (fun _ => 0))) d1 b1 (hA _ (by omega))
  obtain ⟨d3, -⟩ := mn_D1 (x := .inl (ci, 6, .inl (fun _ => 0))) d2 b2 (hA _ (by omega))
  rw [List.append_assoc, List.append_assoc] at d3
  obtain ⟨t, a3, b3⟩ := kk T.heap.size (T.heap.size + 1) (T.heap.size + 2) _ hP2 d3 ⟨by rw [mn_size]; show _ ≤ T.heap.size + 3; omega, fun x hx hn => (hold x (by omega)).trans (hS.2.1 x hx hn), hS.2.2⟩ _ rfl X1
  exact ⟨t, step t a3, b3⟩
end MNV
