/-! THE LAW: its own judgement over the flat memory -/
def lC (E : gT) (b L : Nat) (xs : Nat → Int32) (p : Program) (s : State) (m : MethodId) (meth : Method) (c : Code) : Prop := gC E code 4 RL ret p s m #[.ref b] meth c ∧ va_X b L xs s s.heap ∧ b < s.heap.size ∧ ∀ k, k < 80 → s.heap.size ≤ E.2.1 k
def GL (E : gT) (b L : Nat) (xs : Nat → Int32) (pc : Nat) (lv : List (Option Value)) (st : List Value) (u : Mm) : Prop :=
  ∀ (p : Program) (l : Launch) (e : Env) (s : State) (m : MethodId) (below : List Frame) (meth : Method) (c : Code) (H : Heap) (locs : List Loc) (ls : Array Slot), lC E b L xs p s m meth c → gR E u 4 lv s H locs ls →
    W p l e room_1 s m #[Value.ref b] below meth c H locs 80 1033 (lw_Z below #[Value.ref b] s) (F0 m pc ls st)
abbrev LV (E : gT) (b i : Nat) : List (Option Value) := [some (.ref b), some (.ref (E.2.1 0)), some (.ref (E.2.1 57)), some (.int (nI i))]
section LW
variable {E : gT} {b L : Nat} {xs : Nat → Int32} {pc : Nat} {lv : List (Option Value)} {st : List Value} {u : Mm}
theorem l_old {s : State} (h : ∀ k, k < 80 → s.heap.size ≤ E.2.1 k) {q : Nat} (hq : gA E s.heap.size q) : s.heap.size ≤ q := by
  rcases hq with ⟨k, hk, rfl⟩ | hq
  · exact h k hk
  · exact hq
theorem gl_aload_n {k : Fin 4} {i x : Nat} (hd : decode code pc = .ok (.aload_n k, 1)) (hi : (k : Nat) = i) (hl : lv[i]? = some (some (.ref x))) (kk : GL E b L xs (pc + 1) lv (.ref x :: st) u) : GL E b L xs pc lv st u := by
  intro p l e s m below meth c H locs ls hC hR
  exact lv_aload_n hC.1.1 hC.1.2.1 hd hi (hR.2.2.2.2.2 _ _ hl) (kk p l e s m below meth c H locs ls hC hR)
theorem gl_iload_n {k : Fin 4} {i : Nat} {x : Int32} (hd : decode code pc = .ok (.iload_n k, 1)) (hi : (k : Nat) = i) (hl : lv[i]? = some (some (.int x))) (kk : GL E b L xs (pc + 1) lv (.int x :: st) u) : GL E b L xs pc lv st u := by
  intro p l e s m below meth c H locs ls hC hR
  exact lv_iload_n hC.1.1 hC.1.2.1 hd hi (hR.2.2.2.2.2 _ _ hl) (kk p l e s m below meth c H locs ls hC hR)
theorem gl_iconst {n : Int} {v : Int32} (hd : decode code pc = .ok (.iconst n, 1)) (hv : Int32.ofInt n = v) (kk : GL E b L xs (pc + 1) lv (.int v :: st) u) : GL E b L xs pc lv st u := by
  intro p l e s m below meth c H locs ls hC hR
  exact lv_iconst hC.1.1 hC.1.2.1 hd hv (kk p l e s m below meth c H locs ls hC hR)
theorem gl_bipush {n : Int} {v : Int32} (hd : decode code pc = .ok (.bipush n, 2)) (hv : (Int8.ofInt n).toInt32 = v) (kk : GL E b L xs (pc + 2) lv (.int v :: st) u) : GL E b L xs pc lv st u := by
  intro p l e s m below meth c H locs ls hC hR
  exact lv_bipush hC.1.1 hC.1.2.1 hd hv (kk p l e s m below meth c H locs ls hC hR)
theorem gl_iadd {x y z : Int32} (hd : decode code pc = .ok (.iadd, 1)) (hz : x + y = z) (kk : GL E b L xs (pc + 1) lv (.int z :: st) u) : GL E b L xs pc lv (.int y :: .int x :: st) u := by
  subst hz
  intro p l e s m below meth c H locs ls hC hR
  exact lv_iadd hC.1.1 hC.1.2.1 hd (kk p l e s m below meth c H locs ls hC hR)
theorem gl_isub {x y : Int32} (hd : decode code pc = .ok (.isub, 1)) (kk : GL E b L xs (pc + 1) lv (.int (x - y) :: st) u) : GL E b L xs pc lv (.int y :: .int x :: st) u := by
  intro p l e s m below meth c H locs ls hC hR
  exact lv_isub hC.1.1 hC.1.2.1 hd (kk p l e s m below meth c H locs ls hC hR)
theorem gl_iand {x y z : Int32} (hd : decode code pc = .ok (.iand, 1)) (hz : x &&& y = z) (kk : GL E b L xs (pc + 1) lv (.int z :: st) u) : GL E b L xs pc lv (.int y :: .int x :: st) u := by
  subst hz
  intro p l e s m below meth c H locs ls hC hR
  exact lv_iand hC.1.1 hC.1.2.1 hd (kk p l e s m below meth c H locs ls hC hR)
theorem gl_lcmp {x y : Int64} (hd : decode code pc = .ok (.lcmp, 1)) (kk : GL E b L xs (pc + 1) lv (.int (lg_cmp x y) :: st) u) : GL E b L xs pc lv (.long y :: .long x :: st) u := by
  intro p l e s m below meth c H locs ls hC hR
  exact W.lcmp hC.1.1 hC.1.2.1 hd (kk p l e s m below meth c H locs ls hC hR)
theorem gl_if_eq {x : Int32} {off : Int} (tgt : Nat) (h : x = 0) (hd : decode code pc = .ok (.ifCond .eq off, 3)) (ht : (pc : Int) + off = (tgt : Int)) (kk : GL E b L xs tgt lv st u) : GL E b L xs pc lv (.int x :: st) u := by
  intro p l e s m below meth c H locs ls hC hR
  exact lv_if_eq hC.1.1 hC.1.2.1 hd ht (fun _ => kk p l e s m below meth c H locs ls hC hR) (fun z => absurd h z)
theorem gl_icmp_eq {x y : Int32} {off : Int} (tgt : Nat) (h : x = y) (hd : decode code pc = .ok (.if_icmp .eq off, 3)) (ht : (pc : Int) + off = (tgt : Int)) (kk : GL E b L xs tgt lv st u) : GL E b L xs pc lv (.int y :: .int x :: st) u := by
  intro p l e s m below meth c H locs ls hC hR
  exact lv_icmp_eq hC.1.1 hC.1.2.1 hd ht (fun _ => kk p l e s m below meth c H locs ls hC hR) (fun z => absurd h z)
theorem gl_icmp_gt {x y : Int32} {off : Int} (tgt : Nat) (hd : decode code pc = .ok (.if_icmp .gt off, 3)) (ht : (pc : Int) + off = (tgt : Int)) (kt : y < x → GL E b L xs tgt lv st u) (kf : ¬ y < x → GL E b L xs (pc + 3) lv st u) : GL E b L xs pc lv (.int y :: .int x :: st) u := by
  intro p l e s m below meth c H locs ls hC hR
  exact lv_icmp_gt hC.1.1 hC.1.2.1 hd ht (fun h => kt h p l e s m below meth c H locs ls hC hR) (fun h => kf h p l e s m below meth c H locs ls hC hR)
theorem gl_goto {off : Int} (tgt : Nat) (hd : decode code pc = .ok (.goto off, 3)) (ht : (pc : Int) + off = (tgt : Int)) (kk : GL E b L xs tgt lv st u) : GL E b L xs pc lv st u := by
  intro p l e s m below meth c H locs ls hC hR
  exact lv_goto hC.1.1 hC.1.2.1 hd ht (kk p l e s m below meth c H locs ls hC hR)
theorem gl_tableIn {dflt lo hi : Int} {offs : Array Int} {len : Nat} {x : Int32} {off : Int} (tgt : Nat) (hd : decode code pc = .ok (.tableswitch dflt lo hi offs, len)) (h1 : ¬ x.toInt < lo) (h2 : ¬ hi < x.toInt) (ho : offs[(x.toInt - lo).toNat]? = some off) (ht : (pc : Int) + off = (tgt : Int)) (kk : GL E b L xs tgt lv st u) : GL E b L xs pc lv (.int x :: st) u := by
  intro p l e s m below meth c H locs ls hC hR
  exact lv_tableIn hC.1.1 hC.1.2.1 hd h1 h2 ho ht (kk p l e s m below meth c H locs ls hC hR)
theorem gl_tableOut {dflt lo hi : Int} {offs : Array Int} {len : Nat} {x : Int32} (tgt : Nat) (hd : decode code pc = .ok (.tableswitch dflt lo hi offs, len)) (h : x.toInt < lo ∨ hi < x.toInt) (ht : (pc : Int) + dflt = (tgt : Int)) (kk : GL E b L xs tgt lv st u) : GL E b L xs pc lv (.int x :: st) u := by
  intro p l e s m below meth c H locs ls hC hR
  exact lv_tableOut hC.1.1 hC.1.2.1 hd h ht (kk p l e s m below meth c H locs ls hC hR)
theorem gl_istore_n {k : Fin 4} {i : Nat} {x : Int32} (hd : decode code pc = .ok (.istore_n k, 1)) (hi : (k : Nat) = i) (hn : i < 4) (ho : gOk lv i = true) (kk : GL E b L xs (pc + 1) (lv.set i (some (.int x))) st u) : GL E b L xs pc lv (.int x :: st) u := by
  intro p l e s m below meth c H locs ls hC hR
  exact lv_istore_n hC.1.1 hC.1.2.1 hd hi hR.2.2.2.has hn rfl (fun ls' h' => kk p l e s m below meth c H locs ls' hC ⟨hR.1, hR.2.1, hR.2.2.1, gV_set ho h'⟩)
theorem gl_iinc {i : Nat} {n : Int} {x v : Int32} (hd : decode code pc = .ok (.iinc i n, 3)) (hl : lv[i]? = some (some (.int x))) (hv : x + Int32.ofInt n = v) (hn : i < 4) (ho : gOk lv i = true) (kk : GL E b L xs (pc + 3) (lv.set i (some (.int v))) st u) : GL E b L xs pc lv st u := by
  intro p l e s m below meth c H locs ls hC hR
  obtain ⟨k, hk⟩ := List.getElem?_of_mem (gTo_mem.mpr hl)
  exact lv_iinc hC.1.1 hC.1.2.1 hd hR.2.2.2.has hk hv hn rfl (fun ls' h' => kk p l e s m below meth c H locs ls' hC ⟨hR.1, hR.2.1, hR.2.2.1, gV_set ho h'⟩)
theorem gl_len (hd : decode code pc = .ok (.arraylength, 1)) (kk : GL E b L xs (pc + 1) lv (.int (nI L) :: st) u) : GL E b L xs pc lv (.ref b :: st) u := by
  intro p l e s m below meth c H locs ls hC hR
  exact va_slen hC.1.1 hC.1.2.1 hC.2.1 hC.2.2.1 (fun z => by have := l_old hC.2.2.2 z; have := hC.2.2.1; omega) hR.2.2.1 hd (kk p l e s m below meth c H locs ls hC hR)
theorem gl_sld {j : Nat} (hj : j < L) (hL : L ≤ 3072) (hd : decode code pc = .ok (.iaload, 1)) (kk : GL E b L xs (pc + 1) lv (.int (xs j) :: st) u) : GL E b L xs pc lv (.int (nI j) :: .ref b :: st) u := by
  intro p l e s m below meth c H locs ls hC hR
  have hin : vp_in (nI j) L := fun z => by
    rcases z with z | z
    · exact nI_pos (by omega) z
    · rw [nI_clamp (by omega)] at z; omega
  have h2 := kk p l e s m below meth c H locs ls hC hR
  exact va_sld hC.1.1 hC.1.2.1 hC.2.1 hC.2.2.1 (fun z => by have := l_old hC.2.2.2 z; have := hC.2.2.1; omega) hR.2.2.1 hin hd (by rw [nI_clamp (by omega)]; exact h2)
/-- script[i + k] -/
theorem gl_arg (k : Nat) {n : Int} {i : Nat} (hL : L ≤ 3072) (hi : i + 6 ≤ L) (hk : k < 6) (d0 : decode code pc = .ok (.aload_n 0, 1)) (d1 : decode code (pc + 1) = .ok (.iload_n 3, 1)) (d2 : decode code (pc + 1 + 1) = .ok (.iconst n, 1)) (hn : Int32.ofInt n = nI k) (d3 : decode code (pc + 1 + 1 + 1) = .ok (.iadd, 1)) (d4 : decode code (pc + 1 + 1 + 1 + 1) = .ok (.iaload, 1)) (kk : GL E b L xs (pc + 5) (LV E b i) (.int (xs (i + k)) :: st) u) : GL E b L xs pc (LV E b i) st u := by
  refine gl_aload_n d0 rfl rfl ?_
  refine gl_iload_n d1 rfl rfl ?_
  refine gl_iconst d2 hn ?_
  refine gl_iadd d3 (nI_add i k) ?_
  exact gl_sld (by omega) hL d4 kk
theorem gl_call {idx k ci : Nat} {y : MethodName} {bytes : ByteArray} {maxL n d2 : Nat} {rt : Option FieldType} {As : List Value} {fs : List (Option Nat)} {K2 : Option Value → Mm → Prop} (hc : Con E y bytes maxL rt d2 (.ref (E.2.1 k) :: As) u K2) (hy : mEV y bytes maxL rt n) (hl : Cond.methodLink RL idx y ∈ gWd) (hs : sTb[k]? = some (.inl (ci, fs))) (hci : (vwCl[ci]?).map (fun q => q.1) = some y.cls) (hn : As.length = n) (hdd : d2 + 1 ≤ 9 ∧ 8 + (maxL + 11) + 35 * d2 ≤ 318) {st0 : List Value} (hst : st0 = As.reverse ++ .ref (E.2.1 k) :: st) (hcat : (st.map fun v => v.category).sum ≤ 8) (hd : decode code pc = .ok (.invokevirtual idx, 3)) (kk : ∀ (v : Option Value) (u2 : Mm), K2 v u2 → GL E b L xs (pc + 3) lv (v.toList ++ st) u2) : GL E b L xs pc lv st0 u := by
  intro p l e s m below meth c H locs ls hC hR
  obtain ⟨q, hq, hq1⟩ := Option.map_eq_some_iff.mp hci
  have hC1 := hC.1
  have hb := gCallB (R := room_1) (own := RL) (idx := idx) (d2 := d2) hC1.2.2.2.2.1 hy.1 hl hdd
  have h9 := va_recv hC1.2.2.2.2.2.2.2.1 hR.1 hq (gW_get hs)
  rw [hq1] at h9
  have hr := va_runV (p := p) (l := l) (e := e) (R := room_1) (below := below) (meth := meth) (locs := locs) (cells := 80) (slots := 1033) (g := F0 m pc ls st0) (index := idx) (Ts := gWd) (C := y.cls) (As := As) (rest := st) (b := E.2.1 k) ⟨hC1.1, hC1.2.1, hC1.2.2.1, hC1.2.2.2.1, hC1.2.2.2.2.1⟩ (hc l H.size) ⟨hb, hC1.2.2.2.2.1 _ hy.2.1, hC1.2.2.2.2.1 _ hy.2.2⟩ ⟨gBlind, h9, fun U hU hW => ⟨rfl, by rw [hU], by rw [hU]; exact hR.1, va_K.moved hW.alike hC1.2.2.2.2.2.2.2.1, hR.2.1.weaken (fun _ _ _ _ => trivial), gZ.at hC1.2.2.2.2.2.2.2.2 hR.2.2.1 hU hW.alike⟩⟩ rfl hn hR.2.2.2.1 hst (lv_room hcat) hd ⟨Nat.le_of_ble_eq_true rfl, Nat.le_of_ble_eq_true rfl⟩
  intro T hT X
  obtain ⟨v, st₀, t, T', Lo, h0, X', hL, e1, e2, ⟨⟨v', u2, hv, hp, hP1, hK1, hD1⟩, hz, hk⟩, step⟩ := hr T hT X
  cases hv
  rw [h0] at hz hk
  have hS := hR.2.2.1
  have hS1 : va_S (gA E s.heap.size) s.heap T'.heap (locs ++ Lo) := ⟨Nat.le_trans hS.1 (by rw [e1]; exact hz), fun q h1 h2 => by
      rw [e1, hk q (Nat.lt_of_lt_of_le h1 hS.1) (fun z => h2 (gA_mono hS.1 q z))]
      exact hS.2.1 q h1 h2, fun q hq => by
      rcases List.mem_append.mp hq with h | h
      · exact hS.2.2 q h
      · exact gA_mono hS.1 _ (hL q h)⟩
  obtain ⟨t2, a1, b1⟩ := kk v u2 hp p l e s m below meth c T'.heap (locs ++ Lo) ls hC ⟨by rw [e1]; exact hP1, gD_self hD1, hS1, hR.2.2.2⟩ T' rfl X'
  exact ⟨t2, step t2 a1, b1⟩
theorem gl_I {P : Int32 → Mm → Prop} (kk : ∀ (r : Int32) (u2 : Mm), P r u2 → GL E b L xs (pc + 3) lv (.int r :: st) u2) : ∀ (v : Option Value) (u2 : Mm), kI P v u2 → GL E b L xs (pc + 3) lv (v.toList ++ st) u2 := by
  rintro v u2 ⟨r, rfl, h⟩
  exact kk r u2 h
theorem gl_L {P : Int64 → Mm → Prop} (kk : ∀ (r : Int64) (u2 : Mm), P r u2 → GL E b L xs (pc + 3) lv (.long r :: st) u2) : ∀ (v : Option Value) (u2 : Mm), kL P v u2 → GL E b L xs (pc + 3) lv (v.toList ++ st) u2 := by
  rintro v u2 ⟨r, rfl, h⟩
  exact kk r u2 h
theorem gl_end (hd : decode code pc = .ok (.ireturn, 1)) : GL E b L xs pc lv [.int 1] u := by
  intro p l e s m below meth c H locs ls hC hR
  refine va_forget (fun q hq => l_old hC.2.2.2 (hR.2.2.1.2.2 q hq)) ?_
  refine W.widen (k := 600000) (n := 7302250) (by omega) (by omega) ?_
  exact lw_ret hC.1.1 hC.1.2.1 hC.1.2.2.2.2.2.1 hC.1.2.2.2.2.2.2.1 hd
end LW
theorem and31 (x : Int32) : ∃ j : Nat, j < 32 ∧ x &&& 31 = nI j := by
  have h0 : ¬ (x &&& 31) < 0 := by
    rw [Int32.lt_iff_toInt_lt]
    have e : (x &&& 31).toBitVec = x.toBitVec &&& 31#32 := rfl
    show ¬ (x &&& 31).toBitVec.toInt < 0
    rw [e]
    have h1 : (x.toBitVec &&& 31#32).toNat ≤ 31 := by rw [BitVec.toNat_and]; exact Nat.and_le_right
    rw [BitVec.toInt_eq_toNat_of_lt (by omega)]
    omega
  obtain ⟨j, hj, e⟩ := nI_of h0
  refine ⟨j, ?_, e⟩
  have e2 : (x &&& 31).toBitVec = x.toBitVec &&& 31#32 := rfl
  have h1 : (x.toBitVec &&& 31#32).toNat ≤ 31 := by rw [BitVec.toNat_and]; exact Nat.and_le_right
  rw [← e2, e] at h1
  have e3 : (nI j).toBitVec.toNat = j % 2 ^ 32 := by simp [nI]
  rw [e3, Nat.mod_eq_of_lt (by omega)] at h1
  omega
