/-! from the law's entry to its loop -/
theorem law_make {p : Program} {l : Launch} {e : Env} {s : State} {m : MethodId} {below : List Frame} {meth : Method} {c : Code} {b : Nat} {Q : State → Prop} {D : va_G} {c3 : C3} (hx : p.tables.exec = Jvm.exec) (hb : c.code = code) (hml : c.maxLocals = 4) (hown : s.vm.findClass RL = some m.cls) (hg : ∀ w ∈ gWd, w.before #[Value.ref b] s = true) (hK : va_K D vwCl (y3 c3) s) (hN : iN s) {W0 : va_W} {H : Heap} {locs : List Loc} {k n pc : Nat} {ls : Array Slot} {st : List Value} (hP : va_P D vwCl W0 H) (hD : va_D (fun q => s.heap.size ≤ q) W0) (hS : va_S (fun q => s.heap.size ≤ q) s.heap H locs) (hsz : ls.size = 4) {idxN idxI ci N maxL : Nat} {fs : List Value} {y : MethodName} {bytes : ByteArray} {rm : Room} {K2 : Nat → va_W → Prop} (hnw : gNw RL idxN ci N fs) (hc : ∀ q, ICon D c3 y bytes maxL rm [(q, .inr (ci, fs))] q (K2 q)) (hy : mE y bytes maxL none 0) (hyn : y.name = "<init>") (hyi : Cond.instanceMethod y ∈ gWd) (hl : Cond.methodLink RL idxI y ∈ gWd) (hfr : rm.frames + 1 ≤ room_1.frames ∧ 8 + (maxL + 11) + rm.locals ≤ room_1.locals) (hce : k + 1 + rm.cells ≤ room_1.cells ∧ n + N + rm.slots ≤ room_1.slots) (hcat : ((Value.ref 0 :: st).map fun v => v.category).sum ≤ 8) (d0 : decode code pc = .ok (.new idxN, 3)) (d1 : decode code (pc + 3) = .ok (.dup, 1)) (d2 : decode code (pc + 3 + 1) = .ok (.invokespecial idxI, 3))
    (kk : ∀ (q : Nat) (w1 : va_W) (H1 : Heap) (locs1 : List Loc), K2 q w1 → va_P D vwCl (W0 ++ w1) H1 → va_D (fun q => s.heap.size ≤ q) (W0 ++ w1) → va_S (fun q => s.heap.size ≤ q) s.heap H1 locs1 → W p l e room_1 s m #[Value.ref b] below meth c H1 locs1 (k + 1 + rm.cells) (n + N + rm.slots) Q (F0 m (pc + 3 + 1 + 3) ls (.ref q :: st))) : W p l e room_1 s m #[Value.ref b] below meth c H locs k n Q (F0 m pc ls st) := by
  obtain ⟨q0, hq, rfl, h1, h2, h3, hin, ty0, hty, hdf⟩ := hnw
  refine va_new (D := D) (cl := vwCl) (ci := ci) (C := q0.1) (T := q0.2.1) (N := q0.2.2) (fs := fs) hx hb hg hin ty0 hty hown (hg _ h1) (hg _ h2) (hg _ h3) hK hP hD hS (fun q h => h) hq hdf (by omega) (by omega) d0 (fun q H1 hP hD hS => ?_)
  refine lv_dup hx hb d1 rfl ?_
  have hF : ∀ x, va_A [(q, (.inr (ci, fs) : va_E))] H1.size x → s.heap.size ≤ x := fun x hx9 => by
    rcases hx9 with ⟨i, e9, z⟩ | z
    · have hi : i = 0 := by
        have := (List.getElem?_eq_some_iff.mp z).1
        simp at this; exact this
      subst hi
      simp at z
      have := hD.2 W0.length (q, .inr (ci, fs)) (by simp)
      rw [← z.1]; exact this
    · exact Nat.le_trans hS.1 z
  have hPc : va_P D vwCl [(q, .inr (ci, fs))] H1 := fun i x hx9 => by
    have hi : i = 0 := by
      have := (List.getElem?_eq_some_iff.mp hx9).1
      simp at this; exact this
    subst hi
    exact hP W0.length x (by rw [List.getElem?_append_right (Nat.le_refl _), Nat.sub_self]; exact hx9)
  have hDc : va_D (fun _ => True) [(q, (.inr (ci, fs) : va_E))] := ⟨fun i j a b ha hb _ => by
    have h1 := (List.getElem?_eq_some_iff.mp ha).1
    have h2 := (List.getElem?_eq_some_iff.mp hb).1
    simp at h1 h2; omega, fun _ _ _ => trivial⟩
  refine va_callv (va_runI (As := []) (rest := .ref q :: st) (b := q) ⟨hx, hb, hml, hown, hg⟩ (hc q l H1.size) ⟨callB_of 0 hg (i_good hy.2.1) rfl rfl rfl (hg _ hy.1) (hg _ hl) hy.2.2 hfr, hyn, hg _ hyi⟩ ⟨i_blind, fun U hU hW => ⟨rfl, by rw [hU], by rw [hU]; exact hPc, va_K.moved hW.alike hK, hDc, iN.warm hW hN⟩⟩ rfl rfl hsz rfl (lv_room hcat) d2 hce) hS (fun x _ h => hF x h) hF (fun w1 t H2 locs2 ht hvm hw hB hz1 hk1 hS1 => ?_)
  obtain ⟨hP1, hK1, hD1⟩ := hB
  rw [ht] at hP1
  obtain ⟨hP2, hD2⟩ := i_join hP hD hk1 hF hP1 hD1
  exact kk q w1 H2 locs2 hw hP2 hD2 hS1
theorem ml_L_9 : Cond.methodLink RL 9 yX3_init ∈ gWd := gw_at 73 (by decide +kernel) rfl
theorem ml_L_12 : Cond.methodLink RL 12 yX4_init ∈ gWd := gw_at 586 (by decide +kernel) rfl
set_option maxHeartbeats 4000000 in
/-- from the entry, for every script of at most 3072 ints, the law comes to its end with true -/
theorem whole_start {p : Program} {e : Env} {s : State} {m : MethodId} {below : List Frame} {meth : Method} {c : Code} (l : Launch) {b L : Nat} {xs : Nat → Int32} (hL : L ≤ 3072) (C0 : lw_At p s m meth c b L xs) : W p l e room_1 s m #[Value.ref b] below meth c s.heap [] 0 0 (lw_Z below #[Value.ref b] s) (entryFrame m ([Value.ref b] : List Value).toArray 4) := by
  obtain ⟨D, c3, z, hK, hN, hZ, hT⟩ := law_facts C0
  obtain ⟨hx, hb, hr, hml, hown, hts, hX, hbl, hlocks, hgv⟩ := C0
  have hg : ∀ w ∈ gWd, w.before #[Value.ref b] s = true := fun w hw => hts w (List.mem_filter.mp hw).1
  have hV := gEn_of (lv_entry [.ref b] (n := 4) (Nat.le_of_ble_eq_true rfl))
  rw [lg_entry_eq]
  generalize (lg_sl [Value.ref b] ++ List.replicate (4 - (lg_sl [Value.ref b]).length) Slot.unset).toArray = ls at hV ⊢
  have hV : gV ls 4 [some (.ref b), none, none, none] := hV
  refine law_make (W0 := []) hx hb hml hown hg hK hN (fun k q h => by simp at h) ⟨fun i j a b h => by simp at h, fun k q h => by simp at h⟩ va_S.rf hV.1 nw_L_7 (fun q => c_X3_init D c3 q) mi_X3 rfl mj_X3 ml_L_9 ⟨Nat.le_of_ble_eq_true rfl, Nat.le_of_ble_eq_true rfl⟩ ⟨Nat.le_of_ble_eq_true rfl, Nat.le_of_ble_eq_true rfl⟩ (Nat.le_of_ble_eq_true rfl) dL_law_0 dL_law_3 dL_law_4 (fun q1 w1 H1 locs1 k1 hP1 hD1 hS1 => ?_)
  obtain ⟨a1, rfl, rfl⟩ := k1
  refine lv_astore_n hx hb dL_law_7 rfl hV.has (by decide) rfl (fun ls1 hl1 => ?_)
  have hV1 : gV ls1 4 [some (.ref b), some (.ref (a1 0)), none, none] := gV_set (lv := [some (.ref b), none, none, none]) (i := 1) rfl hl1
  refine law_make (W0 := wAO c3 a1) hx hb hml hown hg hK hN hP1 hD1 hS1 hV1.1 nw_L_10 (fun q => c_X4_init D c3 q) mi_X4 rfl mj_X4 ml_L_12 ⟨Nat.le_of_ble_eq_true rfl, Nat.le_of_ble_eq_true rfl⟩ ⟨Nat.le_of_ble_eq_true rfl, Nat.le_of_ble_eq_true rfl⟩ (Nat.le_of_ble_eq_true rfl) dL_law_8 dL_law_11 dL_law_12 (fun q2 w2 H2 locs2 k2 hP2 hD2 hS2 => ?_)
  obtain ⟨a2, rfl, rfl⟩ := k2
  refine lv_astore_n hx hb dL_law_15 rfl hV1.has (by decide) rfl (fun ls2 hl2 => ?_)
  have hV2 : gV ls2 4 [some (.ref b), some (.ref (a1 0)), some (.ref (a2 57)), none] := gV_set (lv := [some (.ref b), some (.ref (a1 0)), none, none]) (i := 2) rfl hl2
  have hold : ∀ k, k < 80 → s.heap.size ≤ alC a1 a2 k := fun k hk => by
    obtain ⟨j, -, hj⟩ := law_in D c3 a1 a2 z hk
    exact hD2.2 j _ hj
  have hAg : ∀ q, gA (D, alC a1 a2, c3, z) s.heap.size q → s.heap.size ≤ q := fun q hq => by
    rcases hq with ⟨k, hk, rfl⟩ | hq
    · exact hold k hk
    · exact hq
  have hGL : GL (D, alC a1 a2, c3, z) b L xs 16 [some (.ref b), some (.ref (a1 0)), some (.ref (a2 57)), none] [] u0 := by
    refine gl_iconst (v := 0) dL_law_16 (by decide) ?_
    refine gl_istore_n dL_law_17 rfl (by decide) rfl ?_
    exact law_loop hL (L + 1) 0 u0 g0 (by omega) (by omega) g0_ok g0_C g0_M
  refine hGL p l e s m below meth c H2 locs2 ls2 ⟨⟨hx, hb, hml, hown, hg, hr, hlocks, hK, hZ.narrow hAg, hT.narrow hAg⟩, hX, hbl, hold⟩ ⟨law_P D c3 a1 a2 z hP2, (law_D D c3 a1 a2 z hD2).weaken (fun _ _ _ h => Or.inr h), ⟨hS2.1, fun q h1 h2 => hS2.2.1 q h1 (fun z => h2 (Or.inr z)), fun q hq => Or.inr (hS2.2.2 q hq)⟩, hV2⟩
