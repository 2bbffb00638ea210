/-! what the law finds at its entry -/
theorem law_facts {p : Program} {s : State} {m : MethodId} {meth : Method} {c : Code} {b L : Nat} {xs : Nat → Int32} (C0 : lw_At p s m meth c b L xs) : ∃ (D : va_G) (c3 : C3) (z : Nat), va_K D vwCl (y3 c3) s ∧ iN s ∧ va_Z "AreaOrders" "HOW_MANY_ORDERS" "[I" (.ref z) (fun q => s.heap.size ≤ q) s s.heap ∧ va_T .int z 7 (fun j => .int (hmo j)) (fun q => s.heap.size ≤ q) s s.heap := by
  have hts := C0.2.2.2.2.2.1
  have hg : ∀ w ∈ gWd, w.before #[Value.ref b] s = true := fun w hw => hts w (List.mem_filter.mp hw).1
  obtain ⟨c0, i0, k0⟩ := u_known (n := 12) hg uwX0 (hts (.instantiable RX0 12) (List.mem_of_getElem? (i := 80) (by decide +kernel)))
  obtain ⟨c1, i1, k1⟩ := u_known (n := 5) hg uwX1 (hts (.instantiable RX1 5) (List.mem_of_getElem? (i := 144) (by decide +kernel)))
  obtain ⟨c2, i2, k2⟩ := u_known (n := 4) hg uwX2 (hts (.instantiable RX2 4) (List.mem_of_getElem? (i := 172) (by decide +kernel)))
  obtain ⟨c4, i4, k4⟩ := u_known (n := 10) hg uwX3 (hts (.instantiable RX3 10) (List.mem_of_getElem? (i := 72) (by decide +kernel)))
  obtain ⟨c5, i5, k5⟩ := u_known (n := 34) hg uwX4 (hts (.instantiable RX4 34) (List.mem_of_getElem? (i := 585) (by decide +kernel)))
  have hAO : va_AO RX2 s := hts (.arrayOver (.object RX2)) (List.mem_of_getElem? (i := 171) (by decide +kernel))
  have hAA : va_AOA .int s := hts (.arrayOver (.array .int)) (List.mem_of_getElem? (i := 86) (by decide +kernel))
  obtain ⟨a1, ka1, ca1, e1, e2, e3⟩ := Cond.arrayClass_spec (hg _ ai_w)
  obtain ⟨co2, a2, ka2, g1, -, g3, g4, g5⟩ := Cond.arrayOver_spec hAO
  obtain ⟨co3, a3, ka3, f1, -, f3, f4, f5⟩ := arrayOverA_spec hAA
  have hgv := flat_of_before _ C0.2.2.2.2.2.2.2.2.2
  have hel : ∀ j : Nat, j < 7 → (Term.elem (.static "AreaOrders" "HOW_MANY_ORDERS" "[I") (.int (Int32.ofNat j))).eval #[Value.ref b] s none [] s = some (.int (hmo j)) := fun j hj => by
    rcases (show j = 0 ∨ j = 1 ∨ j = 2 ∨ j = 3 ∨ j = 4 ∨ j = 5 ∨ j = 6 by omega) with rfl | rfl | rfl | rfl | rfl | rfl | rfl
    · exact va_eqt (z := 1) (hgv (.eq (.elem (.static "AreaOrders" "HOW_MANY_ORDERS" "[I") (.int 0)) (.int 1)) (by decide +kernel))
    · exact va_eqt (z := 1) (hgv (.eq (.elem (.static "AreaOrders" "HOW_MANY_ORDERS" "[I") (.int 1)) (.int 1)) (by decide +kernel))
    · exact va_eqt (z := 2) (hgv (.eq (.elem (.static "AreaOrders" "HOW_MANY_ORDERS" "[I") (.int 2)) (.int 2)) (by decide +kernel))
    · exact va_eqt (z := 6) (hgv (.eq (.elem (.static "AreaOrders" "HOW_MANY_ORDERS" "[I") (.int 3)) (.int 6)) (by decide +kernel))
    · exact va_eqt (z := 24) (hgv (.eq (.elem (.static "AreaOrders" "HOW_MANY_ORDERS" "[I") (.int 4)) (.int 24)) (by decide +kernel))
    · exact va_eqt (z := 120) (hgv (.eq (.elem (.static "AreaOrders" "HOW_MANY_ORDERS" "[I") (.int 5)) (.int 120)) (by decide +kernel))
    · exact va_eqt (z := 720) (hgv (.eq (.elem (.static "AreaOrders" "HOW_MANY_ORDERS" "[I") (.int 6)) (.int 720)) (by decide +kernel))
  obtain ⟨z, hz, hT⟩ := va_Tof (N := 7) (f := fun j => .int (hmo j)) (A := fun q => s.heap.size ≤ q) (by decide) (hgv (.arrayOf (.static "AreaOrders" "HOW_MANY_ORDERS" "[I") .int) (by decide +kernel)) (va_eqt (z := 7) (hgv (.eq (.length (.static "AreaOrders" "HOW_MANY_ORDERS" "[I")) (.int 7)) (by decide +kernel))) hel (fun a h1 h2 => by omega)
  refine ⟨(fun c => [c0, c1, c2, c4, c5].getD c c0, fun c => [i0, i1, i2, i4, i5].getD c i0), (a1, a2, a3), z, ⟨fun k q hq => ?_, fun k q hq => ?_⟩, ⟨⟨va_Nw.of rfl (hts (.methodLinkNest RX3 13 yX0_init RX3) (List.mem_of_getElem? (i := 81) (by decide +kernel))), va_Nw.of rfl (hts (.methodLinkNest RX3 23 yX1_init RX3) (List.mem_of_getElem? (i := 145) (by decide +kernel))), va_Nw.of rfl (hts (.methodLinkNest RX1 11 yX0_init RX3) (List.mem_of_getElem? (i := 150) (by decide +kernel))), va_Nw.of rfl (hts (.methodLinkNest RX3 44 yX2_init RX3) (List.mem_of_getElem? (i := 173) (by decide +kernel)))⟩, hAA, hAO⟩, va_Zref (hts (.laysStatic "AreaOrders" "HOW_MANY_ORDERS" "[I") (List.mem_of_getElem? (i := 454) (by decide +kernel))) (hts (.initialized "AreaOrders") (List.mem_of_getElem? (i := 63) (by decide +kernel))) hz (fun a h1 h2 => by omega), hT⟩
  · rcases k with _ | _ | _ | _ | _ | k
    · cases hq; exact k0
    · cases hq; exact k1
    · cases hq; exact k2
    · cases hq; exact k4
    · cases hq; exact k5
    · cases hq
  · rcases k with _ | _ | _ | k
    · cases hq; exact ⟨fun n z => ⟨fun k h => (by cases h), ka1, e2, ca1, e3⟩, e1⟩
    · cases hq; exact ⟨fun n z => ⟨fun k h => (by cases h), ka2, g3, co2, g4⟩, ka2, co2, g3, g4, g1, g5⟩
    · cases hq; exact ⟨fun n z => ⟨fun k h => (by cases h), ka3, f3, co3, f4⟩, f5⟩
    · cases hq
