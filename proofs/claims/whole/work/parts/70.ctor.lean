/-! CONSTRUCTORS: worlds that grow; the object itself stands first -/
abbrev C3 : Type := ClassId × ClassId × ClassId
def y3 (c3 : C3) : List (ClassId × FieldType) := [(c3.1, .int), (c3.2.1, .object RX2), (c3.2.2, .array .int)]
def iN (U : State) : Prop := (va_Nw (.methodLinkNest RX3 13 yX0_init RX3) U ∧ va_Nw (.methodLinkNest RX3 23 yX1_init RX3) U ∧ va_Nw (.methodLinkNest RX1 11 yX0_init RX3) U ∧ va_Nw (.methodLinkNest RX3 44 yX2_init RX3) U) ∧ va_AOA .int U ∧ va_AO RX2 U
theorem va_AOA.moved {ty : FieldType} {s U : State} (hvm : s.vm.Alike U.vm) (h : va_AOA ty s) : va_AOA ty U := by
  have h2 : (Cond.arrayOver (.array ty)).before #[] (s.setVm U.vm) = true := (Cond.arrayOver_setVmC hvm _).trans h
  unfold va_AOA Cond.before Cond.holds
  unfold Cond.before Cond.holds at h2
  simp only [Cond.value] at h2 ⊢
  exact h2
theorem iN.warm {s U : State} (hW : s.WarmedH U.vm) (h : iN s) : iN U := ⟨⟨va_Nw.warmM hW h.1.1, va_Nw.warmM hW h.1.2.1, va_Nw.warmM hW h.1.2.2.1, va_Nw.warmM hW h.1.2.2.2⟩, h.2.1.moved hW.alike, h.2.2.moved hW.alike⟩
theorem iN.same {s U : State} (e : s.vm = U.vm) (h : iN s) : iN U := ⟨⟨va_Nw.same rfl e h.1.1, va_Nw.same rfl e h.1.2.1, va_Nw.same rfl e h.1.2.2.1, va_Nw.same rfl e h.1.2.2.2⟩, h.2.1.moved (by rw [e]; exact Vm.Alike.refl _), h.2.2.moved (by rw [e]; exact Vm.Alike.refl _)⟩
def iB (D : va_G) (c3 : C3) (w0 : va_W) (sz : Nat) (ws : va_W) (t : State) : Prop := va_P D vwCl ws t.heap ∧ va_K D vwCl (y3 c3) t ∧ va_D (va_A w0 sz) ws
abbrev iQ (D : va_G) (c3 : C3) (w0 : va_W) (K : va_W → Prop) (sz : Nat) : Array Value → State → Outcome → State → Prop := va_Qv K (iB D c3 w0 sz) (va_A w0 sz)
def iC (D : va_G) (c3 : C3) (cc : ByteArray) (nL : Nat) (own : String) (p : Program) (s : State) (m : MethodId) (args : Array Value) (meth : Method) (c : Code) : Prop :=
  p.tables.exec = Jvm.exec ∧ c.code = cc ∧ c.maxLocals = nL ∧ s.vm.findClass own = some m.cls ∧ (∀ w ∈ gWd, w.before args s = true) ∧ meth.sig.returnType = none ∧ meth.locks = false ∧ meth.name = "<init>" ∧ va_K D vwCl (y3 c3) s ∧ iN s
def iR (D : va_G) (w0 ws : va_W) (nL : Nat) (lv : List (Option Value)) (s : State) (H : Heap) (locs : List Loc) (ls : Array Slot) : Prop :=
  va_P D vwCl ws H ∧ va_D (va_A w0 s.heap.size) ws ∧ va_S (va_A w0 s.heap.size) s.heap H locs ∧ gV ls nL lv
def GI (D : va_G) (c3 : C3) (cc : ByteArray) (nL : Nat) (own : String) (w0 : va_W) (R : Room) (K : va_W → Prop) (pc : Nat) (lv : List (Option Value)) (st : List Value) (k n : Nat) (ws : va_W) : Prop :=
  ∀ (p : Program) (l : Launch) (e : Env) (s : State) (m : MethodId) (args : Array Value) (below : List Frame) (meth : Method) (c : Code) (H : Heap) (locs : List Loc) (ls : Array Slot), iC D c3 cc nL own p s m args meth c → iR D w0 ws nL lv s H locs ls →
    W p l e R s m args below meth c H locs k n (MQ below (iQ D c3 w0 K s.heap.size) args s R.cells R.slots (va_A w0 s.heap.size)) (F0 m pc ls st)
def iPre (D : va_G) (c3 : C3) (w0 : va_W) (sz : Nat) (U : State) : Prop := U.heap.size = sz ∧ va_P D vwCl w0 U.heap ∧ va_K D vwCl (y3 c3) U ∧ va_D (fun _ => True) w0 ∧ iN U
def ICon (D : va_G) (c3 : C3) (y : MethodName) (cc : ByteArray) (nL : Nat) (rm : Room) (w0 : va_W) (b : Nat) (K : va_W → Prop) : Prop :=
  ∀ (l : Launch) (sz : Nat), Met l y (.code y cc nL none :: gWd) rm (va_Pc [.ref b] (iPre D c3 w0 sz)) (iQ D c3 w0 K sz) rm.cells rm.slots (va_A w0 sz)
theorem ICon.of {D : va_G} {c3 : C3} {y : MethodName} {cc : ByteArray} {nL : Nat} {rm : Room} {w0 : va_W} {b : Nat} {K : va_W → Prop} {lv : List (Option Value)} (hy : plainName y.cls = true) (hi : y.name = "<init>") (hlen : (lg_sl [.ref b]).length ≤ nL) (hlv : gEn nL [.ref b] = lv) (h : GI D c3 cc nL y.cls w0 rm K 0 lv [] 0 0 w0) : ICon D c3 y cc nL rm w0 b K := by
  intro l sz
  refine Met.ofW (cc := cc) (maxL := nL) (ret := none) hy rfl ?_
  intro p e s m args below meth c s₁ B hml hv
  obtain ⟨rfl, hsz, hP, hK, hD0, hN⟩ := hv
  subst hsz
  subst hlv
  rw [lg_entry_eq]
  refine h p l e s m _ below meth c s.heap [] _ ⟨B.exec, B.bytes, hml, findClass_of_methodNamed B.named, fun w hw => atoms_spec (ws := .code y cc nL none :: gWd) B.pre w (List.mem_cons_of_mem _ hw), B.returns, B.notSynchronized, (name_of_methodNamed B.named B.method).1.trans hi, hK, hN⟩ ⟨hP, hD0.self, va_S.rf, gEn_of (lv_entry [.ref b] hlen)⟩
section JI
variable {D : va_G} {c3 : C3} {cc : ByteArray} {nL : Nat} {own : String} {w0 : va_W} {R : Room} {K : va_W → Prop} {pc : Nat} {lv : List (Option Value)} {st : List Value} {k n : Nat} {ws : va_W}
theorem ji_aload_n {i0 : Fin 4} {i x : Nat} (hd : decode cc pc = .ok (.aload_n i0, 1)) (hi : (i0 : Nat) = i) (hl : lv[i]? = some (some (.ref x))) (kk : GI D c3 cc nL own w0 R K (pc + 1) lv (.ref x :: st) k n ws) : GI D c3 cc nL own w0 R K pc lv st k n ws := by
  intro p l e s m args below meth c H locs ls hC hR
  exact lv_aload_n hC.1 hC.2.1 hd hi (hR.2.2.2.2.2 _ _ hl) (kk p l e s m args below meth c H locs ls hC hR)
theorem ji_iload_n {i0 : Fin 4} {i : Nat} {x : Int32} (hd : decode cc pc = .ok (.iload_n i0, 1)) (hi : (i0 : Nat) = i) (hl : lv[i]? = some (some (.int x))) (kk : GI D c3 cc nL own w0 R K (pc + 1) lv (.int x :: st) k n ws) : GI D c3 cc nL own w0 R K pc lv st k n ws := by
  intro p l e s m args below meth c H locs ls hC hR
  exact lv_iload_n hC.1 hC.2.1 hd hi (hR.2.2.2.2.2 _ _ hl) (kk p l e s m args below meth c H locs ls hC hR)
theorem ji_iconst {a : Int} {v : Int32} (hd : decode cc pc = .ok (.iconst a, 1)) (hv : Int32.ofInt a = v) (kk : GI D c3 cc nL own w0 R K (pc + 1) lv (.int v :: st) k n ws) : GI D c3 cc nL own w0 R K pc lv st k n ws := by
  intro p l e s m args below meth c H locs ls hC hR
  exact lv_iconst hC.1 hC.2.1 hd hv (kk p l e s m args below meth c H locs ls hC hR)
theorem ji_bipush {a : Int} {v : Int32} (hd : decode cc pc = .ok (.bipush a, 2)) (hv : (Int8.ofInt a).toInt32 = v) (kk : GI D c3 cc nL own w0 R K (pc + 2) lv (.int v :: st) k n ws) : GI D c3 cc nL own w0 R K pc lv st k n ws := by
  intro p l e s m args below meth c H locs ls hC hR
  exact lv_bipush hC.1 hC.2.1 hd hv (kk p l e s m args below meth c H locs ls hC hR)
theorem ji_sipush {a : Int} {v : Int32} (hd : decode cc pc = .ok (.sipush a, 3)) (hv : (Int16.ofInt a).toInt32 = v) (kk : GI D c3 cc nL own w0 R K (pc + 3) lv (.int v :: st) k n ws) : GI D c3 cc nL own w0 R K pc lv st k n ws := by
  intro p l e s m args below meth c H locs ls hC hR
  exact lv_sipush hC.1 hC.2.1 hd hv (kk p l e s m args below meth c H locs ls hC hR)
theorem ji_dup {x : Value} (hd : decode cc pc = .ok (.dup, 1)) (hx : x.category = 1) (kk : GI D c3 cc nL own w0 R K (pc + 1) lv (x :: x :: st) k n ws) : GI D c3 cc nL own w0 R K pc lv (x :: st) k n ws := by
  intro p l e s m args below meth c H locs ls hC hR
  exact lv_dup hC.1 hC.2.1 hd hx (kk p l e s m args below meth c H locs ls hC hR)
theorem ji_goto {off : Int} (tgt : Nat) (hd : decode cc pc = .ok (.goto off, 3)) (ht : (pc : Int) + off = (tgt : Int)) (kk : GI D c3 cc nL own w0 R K tgt lv st k n ws) : GI D c3 cc nL own w0 R K pc lv st k n ws := by
  intro p l e s m args below meth c H locs ls hC hR
  exact lv_goto hC.1 hC.2.1 hd ht (kk p l e s m args below meth c H locs ls hC hR)
theorem ji_ge_y {x y : Int32} {off : Int} (tgt : Nat) (h : y ≤ x) (hd : decode cc pc = .ok (.if_icmp .ge off, 3)) (ht : (pc : Int) + off = (tgt : Int)) (kk : GI D c3 cc nL own w0 R K tgt lv st k n ws) : GI D c3 cc nL own w0 R K pc lv (.int y :: .int x :: st) k n ws := by
  intro p l e s m args below meth c H locs ls hC hR
  exact lv_icmp_ge hC.1 hC.2.1 hd ht (fun _ => kk p l e s m args below meth c H locs ls hC hR) (fun z => absurd h z)
theorem ji_ge_n {x y : Int32} {off : Int} (tgt : Nat) (h : ¬ y ≤ x) (hd : decode cc pc = .ok (.if_icmp .ge off, 3)) (ht : (pc : Int) + off = (tgt : Int)) (kk : GI D c3 cc nL own w0 R K (pc + 3) lv st k n ws) : GI D c3 cc nL own w0 R K pc lv (.int y :: .int x :: st) k n ws := by
  intro p l e s m args below meth c H locs ls hC hR
  exact lv_icmp_ge hC.1 hC.2.1 hd ht (fun z => absurd z h) (fun _ => kk p l e s m args below meth c H locs ls hC hR)
theorem ji_istore_n {i0 : Fin 4} {i : Nat} {x : Int32} (hd : decode cc pc = .ok (.istore_n i0, 1)) (hi : (i0 : Nat) = i) (hn : i < nL) (ho : gOk lv i = true) (kk : GI D c3 cc nL own w0 R K (pc + 1) (lv.set i (some (.int x))) st k n ws) : GI D c3 cc nL own w0 R K pc lv (.int x :: st) k n ws := by
  intro p l e s m args below meth c H locs ls hC hR
  exact lv_istore_n hC.1 hC.2.1 hd hi hR.2.2.2.has hn rfl (fun ls' h' => kk p l e s m args below meth c H locs ls' hC ⟨hR.1, hR.2.1, hR.2.2.1, gV_set ho h'⟩)
theorem ji_iinc {i : Nat} {a : Int} {x v : Int32} (hd : decode cc pc = .ok (.iinc i a, 3)) (hl : lv[i]? = some (some (.int x))) (hv : x + Int32.ofInt a = v) (hn : i < nL) (ho : gOk lv i = true) (kk : GI D c3 cc nL own w0 R K (pc + 3) (lv.set i (some (.int v))) st k n ws) : GI D c3 cc nL own w0 R K pc lv st k n ws := by
  intro p l e s m args below meth c H locs ls hC hR
  obtain ⟨j, hj⟩ := List.getElem?_of_mem (gTo_mem.mpr hl)
  exact lv_iinc hC.1 hC.2.1 hd hR.2.2.2.has hj hv hn rfl (fun ls' h' => kk p l e s m args below meth c H locs ls' hC ⟨hR.1, hR.2.1, hR.2.2.1, gV_set ho h'⟩)
theorem ji_obj {idx a : Nat} (hl : Cond.methodLink own idx objectInit ∈ gWd) (hw : Cond.instanceMethod objectInit ∈ gWd ∧ Cond.code objectInit ⟨#[0xb1]⟩ 1 none ∈ gWd) (hf : 1 ≤ R.frames) (hlo : 12 ≤ R.locals) (hd : decode cc pc = .ok (.invokespecial idx, 3)) (kk : GI D c3 cc nL own w0 R K (pc + 3) lv [] k n ws) : GI D c3 cc nL own w0 R K pc lv [.ref a] k n ws := by
  intro p l e s m args below meth c H locs ls hC hR
  refine W.objInit hC.1 hC.2.1 hC.2.2.2.1 (hC.2.2.2.2.1 _ hl) (hC.2.2.2.2.1 _ hw.1) (hC.2.2.2.2.1 _ hw.2) rfl (by rw [hC.2.2.1]; exact hR.2.2.2.1) rfl hd hf (by show 2 * 0 + 0 + 12 ≤ R.locals; omega) ?_
  exact W.eq (g2 := F0 m (pc + 3) ls []) rfl (kk p l e s m args below meth c H locs ls hC hR)
theorem ji_newi {N : Nat} {v : Int32} (hv : ¬ v < 0) (hN : v.toNatClampNeg = N) (hw : Cond.arrayClass .int ∈ gWd) (hb4 : N * 4 ≤ 536870912) (hk : k + 1 ≤ R.cells) (hs : n + N ≤ R.slots) (hd : decode cc pc = .ok (.newarray .int, 2)) {o : Nat × va_E} {r : va_W} (kk : ∀ q, GI D c3 cc nL own w0 R K (pc + 2) lv (.ref q :: st) (k + 1) (n + N) (o :: (r ++ [(q, .inl (c3.1, N, .inl (fun _ => 0)))]))) : GI D c3 cc nL own w0 R K pc lv (.int v :: st) k n (o :: r) := by
  intro p l e s m args below meth c H locs ls hC hR
  have hK := hC.2.2.2.2.2.2.2.2.1
  refine va_newa (atype := .int) (ty := .int) (a0 := (N, .inl (fun _ => 0))) hC.1 hC.2.1 (hC.2.2.2.2.1 _ hw) rfl hK hR.1 hR.2.1 hR.2.2.1 (fun q h => Or.inr h) (fun _ => rfl) hv hN hb4 hk hs hd (fun q cA H1 hK1 hP1 hD1 hS1 => ?_)
  have e1 : cA = c3.1 := Option.some.inj (((hK1.2 3 (cA, .int) rfl).2 : s.vm.findClass _ = some cA).symm.trans ((hK.2 0 (c3.1, .int) rfl).2 : s.vm.findClass _ = some c3.1))
  rw [e1] at hP1 hD1
  exact kk q p l e s m args below meth c H1 locs ls hC ⟨hP1, hD1, hS1, hR.2.2.2⟩
theorem ji_mna {idx : Nat} (hcl : Cond.classLink own idx "[[I" ∈ gWd) (hw : Cond.arrayClass .int ∈ gWd) (hk : k + 3 ≤ R.cells) (hs : n + 14 ≤ R.slots) (hd : decode cc pc = .ok (.multianewarray idx 2, 4)) {o : Nat × va_E} {r : va_W} (kk : ∀ q q1 q2, GI D c3 cc nL own w0 R K (pc + 4) lv (.ref q :: st) (k + 3) (n + 14) (o :: (r ++ [(q, .inl (c3.2.2, 2, .inr (.inr (.inr (.inr (fun i => ([q1, q2] : List Nat)[i]?)))))), (q1, .inl (c3.1, 6, .inl (fun _ => 0))), (q2, .inl (c3.1, 6, .inl (fun _ => 0)))]))) : GI D c3 cc nL own w0 R K pc lv (.int 6 :: .int 2 :: st) k n (o :: r) := by
  intro p l e s m args below meth c H locs ls hC hR
  have hK := hC.2.2.2.2.2.2.2.2.1
  exact mn_W (ci := c3.1) (co := c3.2.2) hC.1 hC.2.1 hC.2.2.2.1 (hC.2.2.2.2.1 _ hcl) hC.2.2.2.2.2.2.2.2.2.2.1 (hC.2.2.2.2.1 _ hw) (hK.2 0 (c3.1, .int) rfl).2 (hK.2 2 (c3.2.2, .array .int) rfl).2 hR.1 hR.2.1 hR.2.2.1 (fun q h => Or.inr h) hk hs hd (fun q q1 q2 H1 hP1 hD1 hS1 => kk q q1 q2 p l e s m args below meth c H1 locs ls hC ⟨hP1, hD1, hS1, hR.2.2.2⟩)
/-- a final field of the object itself -/
def gPF (own : String) (idx ci j : Nat) (ty : FieldType) : Prop := ∃ q : vw_C, vwCl[ci]? = some q ∧ j < q.2.2 ∧ Cond.fieldLink own idx (q.2.1 j).1 (q.2.1 j).2.1 (q.2.1 j).2.2.1 ∈ gWd ∧ (∀ w ∈ u_ws q.1 q.2.1 q.2.2, w ∈ gWd) ∧ (∃ ty0 : Nat → FieldType, ∀ k, k < q.2.2 → parseFieldDescriptor (q.2.1 k).2.2.1 = some (ty0 k)) ∧ (∀ a, a < q.2.2 → ∀ b, b < q.2.2 → a ≠ b → (q.2.1 a).2.1 ≠ (q.2.1 b).2.1) ∧ (q.2.1 j).2.2.2 = true ∧ (q.2.1 j).1 = own ∧ parseFieldDescriptor (q.2.1 j).2.2.1 = some ty
theorem ji_put {idx ci j a x : Nat} {ty : FieldType} {fs fs' : List Value} {r : va_W} (hf : gPF own idx ci j ty) (hna : narrow ty (.ref x) = .ref x) (hfi : fits ty (.ref x) = true) (hlen : j < fs.length) (hset : fs.set j (.ref x) = fs') (hd : decode cc pc = .ok (.putfield idx, 3)) (kk : GI D c3 cc nL own w0 R K (pc + 3) lv st k n ((a, .inr (ci, fs')) :: r)) : GI D c3 cc nL own w0 R K pc lv (.ref x :: .ref a :: st) k n ((a, .inr (ci, fs)) :: r) := by
  intro p l e s m args below meth c H locs ls hC hR
  obtain ⟨q, hq, hn, hw, hin, ⟨ty0, hty⟩, hnm, hfin, hown, hpd⟩ := hf
  subst hset
  refine va_putF (D := D) (cl := vwCl) (C := q.1) (T := q.2.1) (N := q.2.2) (ref := (q.2.1 j).1) hC.1 hC.2.1 hC.2.2.2.2.1 hin ty0 hty hnm hC.2.2.2.1 hC.2.2.2.2.2.2.2.2.1 hR.1 hR.2.1 hR.2.2.1 0 rfl hq j hn (hC.2.2.2.2.1 _ hw) (fun _ h => h) hfin hC.2.2.2.2.2.2.2.1 hown hpd hna hfi hlen hd (fun H1 locs1 hP hD hS => ?_)
  exact kk p l e s m args below meth c H1 locs1 ls hC ⟨hP, hD, hS, hR.2.2.2⟩
theorem ji_get {idx ci j a : Nat} {v : Value} {fs : List Value} {r : va_W} (hf : gF own idx ci j) (hv : fs[j]? = some v) (hd : decode cc pc = .ok (.getfield idx, 3)) (kk : GI D c3 cc nL own w0 R K (pc + 3) lv (v :: st) k n ((a, .inr (ci, fs)) :: r)) : GI D c3 cc nL own w0 R K pc lv (.ref a :: st) k n ((a, .inr (ci, fs)) :: r) := by
  intro p l e s m args below meth c H locs ls hC hR
  obtain ⟨q, hq, hn, hw, hin⟩ := hf
  exact va_get (D := D) (cl := vwCl) (C := q.1) (T := q.2.1) (N := q.2.2) (ref := (q.2.1 j).1) hC.1 hC.2.1 hC.2.2.2.2.1 hin hC.2.2.2.1 hC.2.2.2.2.2.2.2.2.1 hR.1 0 rfl hq j hn (hC.2.2.2.2.1 _ hw) (fun _ h => h) hv hd (kk p l e s m args below meth c H locs ls hC hR)
/-- an object that is made -/
def gNw (own : String) (idx ci N : Nat) (fs : List Value) : Prop := ∃ q : vw_C, vwCl[ci]? = some q ∧ q.2.2 = N ∧ Cond.classLink own idx q.1 ∈ gWd ∧ Cond.instantiable q.1 q.2.2 ∈ gWd ∧ Cond.initialized q.1 ∈ gWd ∧ (∀ w ∈ u_ws q.1 q.2.1 q.2.2, w ∈ gWd) ∧ ∃ ty0 : Nat → FieldType, (∀ k, k < q.2.2 → parseFieldDescriptor (q.2.1 k).2.2.1 = some (ty0 k)) ∧ ∀ j, j < q.2.2 → defaultValue (ty0 j) = vp_V fs j
theorem ji_new {idx ci N : Nat} {fs : List Value} {o : Nat × va_E} {r : va_W} (hf : gNw own idx ci N fs) (hk : k + 1 ≤ R.cells) (hs : n + N ≤ R.slots) (hd : decode cc pc = .ok (.new idx, 3)) (kk : ∀ q, GI D c3 cc nL own w0 R K (pc + 3) lv (.ref q :: st) (k + 1) (n + N) (o :: (r ++ [(q, .inr (ci, fs))]))) : GI D c3 cc nL own w0 R K pc lv st k n (o :: r) := by
  intro p l e s m args below meth c H locs ls hC hR
  obtain ⟨q, hq, rfl, h1, h2, h3, hin, ty0, hty, hdf⟩ := hf
  exact va_new (D := D) (cl := vwCl) (ci := ci) (C := q.1) (T := q.2.1) (N := q.2.2) (fs := fs) hC.1 hC.2.1 hC.2.2.2.2.1 hin ty0 hty hC.2.2.2.1 (hC.2.2.2.2.1 _ h1) (hC.2.2.2.2.1 _ h2) (hC.2.2.2.2.1 _ h3) hC.2.2.2.2.2.2.2.2.1 hR.1 hR.2.1 hR.2.2.1 (fun q h => Or.inr h) hq hdf hk hs hd (fun a H1 hP hD hS => kk a p l e s m args below meth c H1 locs ls hC ⟨hP, hD, hS, hR.2.2.2⟩)
theorem ji_anew {idx N : Nat} {v : Int32} {o : Nat × va_E} {r : va_W} (hcl : Cond.classLink own idx RX2 ∈ gWd) (hv : ¬ v < 0) (hN : v.toNatClampNeg = N) (hb4 : N * 4 ≤ 536870912) (hk : k + 1 ≤ R.cells) (hs : n + N ≤ R.slots) (hd : decode cc pc = .ok (.anewarray idx, 3)) (kk : ∀ q, GI D c3 cc nL own w0 R K (pc + 3) lv (.ref q :: st) (k + 1) (n + N) (o :: (q, .inl (c3.2.1, N, .inr (.inr (.inr (.inr (fun _ => none)))))) :: r)) : GI D c3 cc nL own w0 R K pc lv (.int v :: st) k n (o :: r) := by
  intro p l e s m args below meth c H locs ls hC hR
  have hK := hC.2.2.2.2.2.2.2.2.1
  refine va_newq (C := RX2) hC.1 hC.2.1 hC.2.2.2.1 (hC.2.2.2.2.1 _ hcl) hC.2.2.2.2.2.2.2.2.2.2.2 hK hR.1 hR.2.1 hR.2.2.1 (fun q h => Or.inr h) hv hN hb4 hk hs hd (fun q cA H1 hK1 hP1 hD1 hS1 => ?_)
  obtain ⟨_, _, -, -, -, z1⟩ := (hK1.2 3 (cA, .object RX2) rfl).2
  obtain ⟨_, _, -, -, -, z2⟩ := (hK.2 1 (c3.2.1, .object RX2) rfl).2
  have e1 : cA = c3.2.1 := Option.some.inj (z1.symm.trans z2)
  rw [e1] at hP1 hD1
  exact kk q p l e s m args below meth c H1 locs ls hC ⟨va_P.swap (a := [o]) (b := r) hP1, va_D.swap (a := [o]) (b := r) hD1, hS1, hR.2.2.2⟩
theorem ji_iast {a N : Nat} {i x : Int32} {f : Nat → Int32} (q0 : Nat) (ha : ws[q0]? = some (a, .inl (c3.1, N, .inl f))) (hin : vp_in i N) {ws' : va_W} (hs : ws.set q0 (a, .inl (c3.1, N, .inl (upd f i.toNatClampNeg x))) = ws') (hd : decode cc pc = .ok (.iastore, 1)) (kk : GI D c3 cc nL own w0 R K (pc + 1) lv st k n ws') : GI D c3 cc nL own w0 R K pc lv (.int x :: .int i :: .ref a :: st) k n ws := by
  intro p l e s m args below meth c H locs ls hC hR
  subst hs
  exact va_iast hC.1 hC.2.1 hC.2.2.2.2.2.2.2.2.1 hR.1 hR.2.1 hR.2.2.1 q0 0 ha rfl hin hd (fun H1 locs1 hP hD hS => kk p l e s m args below meth c H1 locs1 ls hC ⟨hP, hD, hS, hR.2.2.2⟩)
theorem ji_aast {a N v : Nat} {i : Int32} {f : Nat → Option Nat} {vs : List Value} (q0 qk : Nat) (ha : ws[q0]? = some (a, .inl (c3.2.1, N, .inr (.inr (.inr (.inr f)))))) (hv : ws[qk]? = some (v, .inr (2, vs))) (hin : vp_in i N) {ws' : va_W} (hs : ws.set q0 (a, .inl (c3.2.1, N, .inr (.inr (.inr (.inr (va_up f i.toNatClampNeg (some v))))))) = ws') (hd : decode cc pc = .ok (.aastore, 1)) (kk : GI D c3 cc nL own w0 R K (pc + 1) lv st k n ws') : GI D c3 cc nL own w0 R K pc lv (.ref v :: .int i :: .ref a :: st) k n ws := by
  intro p l e s m args below meth c H locs ls hC hR
  subst hs
  exact va_astq hC.1 hC.2.1 hC.2.2.2.2.2.2.2.2.1 hR.1 hR.2.1 hR.2.2.1 q0 1 qk 2 (r := (RX2, TX2, 4)) ha rfl hv rfl hin hd (fun H1 locs1 hP hD hS => kk p l e s m args below meth c H1 locs1 ls hC ⟨hP, hD, hS, hR.2.2.2⟩)
theorem ji_w {ws' : va_W} (h : ws = ws') (kk : GI D c3 cc nL own w0 R K pc lv st k n ws') : GI D c3 cc nL own w0 R K pc lv st k n ws := by
  subst h; exact kk
theorem ji_rot {o x : Nat × va_E} {r w : va_W} (kk : GI D c3 cc nL own w0 R K pc lv st k n (o :: x :: (w ++ r))) : GI D c3 cc nL own w0 R K pc lv st k n (o :: ((x :: r) ++ w)) := by
  intro p l e s m args below meth c H locs ls hC hR
  exact kk p l e s m args below meth c H locs ls hC ⟨va_P.swap (a := [o, x]) (b := r) hR.1, va_D.swap (a := [o, x]) (b := r) hR.2.1, hR.2.2.1, hR.2.2.2⟩
theorem ji_ret (hd : decode cc pc = .ok (.return_, 1)) (hk : k = R.cells) (hn : n = R.slots) (hK : K ws) : GI D c3 cc nL own w0 R K pc lv [] k n ws := by
  intro p l e s m args below meth c H locs ls hC hR
  subst hk
  subst hn
  exact W.vret hC.1 hC.2.1 hC.2.2.2.2.2.1 (fun t ht hW => ⟨⟨ws, rfl, hK, by rw [ht]; exact hR.1, va_K.moved hW.alike hC.2.2.2.2.2.2.2.2.1, hR.2.1⟩, hR.2.2.1.F ht⟩) hR.2.2.1.2.2 hd hC.2.2.2.2.2.2.1
end JI
/-- behind a call whose world is the last cell -/
theorem i_join {A0 : Nat → Prop} {D : va_G} {cl : List vw_C} {W0 w1 : va_W} {x : Nat × va_E} {H H1 : Heap} (hP : va_P D cl (W0 ++ [x]) H) (hD : va_D A0 (W0 ++ [x])) (hk : ∀ q : Nat, q < H.size → ¬ va_A [x] H.size q → H1[q]? = H[q]?) (hF : ∀ q, va_A [x] H.size q → A0 q) (hP1 : va_P D cl w1 H1) (hD1 : va_D (va_A [x] H.size) w1) : va_P D cl (W0 ++ w1) H1 ∧ va_D A0 (W0 ++ w1) := by
  have h0 : ∀ (j : Nat) (q : Nat × va_E), W0[j]? = some q → (W0 ++ [x])[j]? = some q := fun j q h => by rw [List.getElem?_append_left (List.getElem?_eq_some_iff.mp h).1]; exact h
  have hx : (W0 ++ [x])[W0.length]? = some x := by simp
  have hap : ∀ (j : Nat) (q : Nat × va_E), W0[j]? = some q → q.1 < H.size ∧ ¬ va_A [x] H.size q.1 := fun j q h => by
    have hl := (hP j q (h0 j q h)).lt
    refine ⟨hl, fun z => ?_⟩
    rcases z with ⟨i, e, z⟩ | z
    · have hi : i = 0 := by
        have := (List.getElem?_eq_some_iff.mp z).1
        simp at this; exact this
      subst hi
      simp at z
      have := hD.1 j W0.length q x (h0 j q h) hx (by rw [z])
      have := (List.getElem?_eq_some_iff.mp h).1
      omega
    · omega
  refine ⟨va_P.app (fun j q h => (hP j q (h0 j q h)).kept (hk q.1 (hap j q h).1 (hap j q h).2)) hP1, ?_⟩
  refine ⟨fun i j a b ha hb e => ?_, fun j q h => ?_⟩
  · by_cases hi : i < W0.length <;> by_cases hj : j < W0.length
    · rw [List.getElem?_append_left hi] at ha
      rw [List.getElem?_append_left hj] at hb
      exact hD.1 i j a b (h0 i a ha) (h0 j b hb) e
    · rw [List.getElem?_append_left hi] at ha
      rw [List.getElem?_append_right (by omega)] at hb
      exact absurd (by rw [e]; exact hD1.2 _ b hb) (hap i a ha).2
    · rw [List.getElem?_append_right (by omega)] at ha
      rw [List.getElem?_append_left hj] at hb
      exact absurd (by rw [← e]; exact hD1.2 _ a ha) (hap j b hb).2
    · rw [List.getElem?_append_right (by omega)] at ha hb
      have := hD1.1 _ _ a b ha hb e
      omega
  · by_cases hj : j < W0.length
    · rw [List.getElem?_append_left hj] at h
      exact hD.2 j q (h0 j q h)
    · rw [List.getElem?_append_right (by omega)] at h
      exact hF _ (hD1.2 _ q h)
theorem i_good {y : MethodName} {bytes : ByteArray} {maxL : Nat} {rt : Option FieldType} (h : Cond.code y bytes maxL rt ∈ gWd) : GoodIn gWd (.code y bytes maxL rt :: gWd) := fun w hw => by
  rcases List.mem_cons.mp hw with e | e
  · subst e; exact ⟨h, good_of_word (List.mem_filter.mp h).2⟩
  · exact ⟨e, good_of_word (List.mem_filter.mp e).2⟩
theorem i_free {D : va_G} {w0 W0 : va_W} {x : Nat × va_E} {s : State} {H : Heap} {locs : List Loc} (hD : va_D (va_A w0 s.heap.size) (W0 ++ [x])) (hS : va_S (va_A w0 s.heap.size) s.heap H locs) : ∀ q, va_A [x] H.size q → va_A w0 s.heap.size q := fun q h => by
  rcases h with ⟨i, e, z⟩ | z
  · have hi : i = 0 := by
      have := (List.getElem?_eq_some_iff.mp z).1
      simp at this; exact this
    subst hi
    simp at z
    have := hD.2 W0.length x (by simp)
    rw [z] at this; exact this
  · exact Or.inr (Nat.le_trans hS.1 z)
theorem i_blind {D : va_G} {c3 : C3} {w0 : va_W} {sz b : Nat} : FrameBlind (va_Pc [.ref b] (iPre D c3 w0 sz)) := by
  intro a U g mk q
  obtain ⟨q0, q1, qP, qK, qD, qN⟩ := q
  exact ⟨q0, q1, qP, va_K.moved (u := U) (U := U.calling g mk a) (Vm.Alike.refl U.vm) qK, qD, iN.same (s := U) (U := U.calling g mk a) rfl qN⟩
theorem ji_call {D : va_G} {c3 : C3} {cc : ByteArray} {nL : Nat} {own : String} {w0 : va_W} {R : Room} {K : va_W → Prop} {pc : Nat} {lv : List (Option Value)} {st : List Value} {k n : Nat} {idx q maxL : Nat} {e0 : va_E} {y : MethodName} {bytes : ByteArray} {rm : Room} {K2 : va_W → Prop} {o : Nat × va_E} {r : va_W} (hc : ICon D c3 y bytes maxL rm [(q, e0)] q K2) (hy : mE y bytes maxL none 0) (hyn : y.name = "<init>") (hyi : Cond.instanceMethod y ∈ gWd) (hnw : ∀ U, iN U → va_Nw (.methodLinkNest own idx y RX3) U) (hfr : rm.frames + 1 ≤ R.frames ∧ 8 + (maxL + 11) + rm.locals ≤ R.locals) (hce : k + rm.cells ≤ R.cells ∧ n + rm.slots ≤ R.slots) (hcat : (st.map fun v => v.category).sum ≤ 8) (hd : decode cc pc = .ok (.invokespecial idx, 3)) (kk : ∀ w1, K2 w1 → GI D c3 cc nL own w0 R K (pc + 3) lv st (k + rm.cells) (n + rm.slots) (o :: (r ++ w1))) : GI D c3 cc nL own w0 R K pc lv (.ref q :: st) k n (o :: (r ++ [(q, e0)])) := by
  intro p l e s m args below meth c H locs ls hC hR
  obtain ⟨hP, hD, hS, hV⟩ := hR
  have hP : va_P D vwCl ((o :: r) ++ [(q, e0)]) H := hP
  have hD : va_D (va_A w0 s.heap.size) ((o :: r) ++ [(q, e0)]) := hD
  have hF := i_free (D := D) hD hS
  have hPc : va_P D vwCl [(q, e0)] H := fun i x hx => by
    have hi : i = 0 := by
      have := (List.getElem?_eq_some_iff.mp hx).1
      simp at this; exact this
    subst hi
    exact hP (o :: r).length x (by rw [List.getElem?_append_right (Nat.le_refl _), Nat.sub_self]; exact hx)
  have hDc : va_D (fun _ => True) [(q, e0)] := ⟨fun i j a b ha hb _ => by
    have h1 := (List.getElem?_eq_some_iff.mp ha).1
    have h2 := (List.getElem?_eq_some_iff.mp hb).1
    simp at h1 h2; omega, fun _ _ _ => trivial⟩
  refine va_callv (va_runIN (As := []) (rest := st) (b := q) ⟨hC.1, hC.2.1, hC.2.2.1, hC.2.2.2.1, hC.2.2.2.2.1⟩ (hc l H.size) ⟨va_cnB 0 hC.2.2.2.2.1 (i_good hy.2.1) rfl rfl rfl (hnw s hC.2.2.2.2.2.2.2.2.2) (hC.2.2.2.2.1 _ hy.1) hy.2.2 hfr, hyn, hC.2.2.2.2.1 _ hyi⟩ ⟨i_blind, fun U hU hW => ⟨rfl, by rw [hU], by rw [hU]; exact hPc, va_K.moved hW.alike hC.2.2.2.2.2.2.2.2.1, hDc, iN.warm hW hC.2.2.2.2.2.2.2.2.2⟩⟩ rfl rfl hV.1 rfl (lv_room hcat) hd hce) hS (fun z _ h => hF z h) hF (fun w1 t H1 locs1 ht hvm hw hB hz1 hk1 hS1 => ?_)
  obtain ⟨hP1, hK1, hD1⟩ := hB
  rw [ht] at hP1
  obtain ⟨hP2, hD2⟩ := i_join hP hD hk1 hF hP1 hD1
  exact kk w1 hw p l e s m args below meth c H1 locs1 ls hC ⟨hP2, hD2, hS1, hV⟩
