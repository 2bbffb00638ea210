/-! what each call answers and leaves -/
def fWidth (g : Gh) (a v : Int32) : Int32 × Gh := if inN a (nI (pn g.1)) = true then (if inR v 1 9 = true then (nI (g.1 3 (cl a)), wPc g (upP g.1 3 (cl a) (cl v))) else (-2, g)) else (-1, g)
def fPlot (g : Gh) (a v : Int32) : Int32 × Gh := if inN a (nI (pn g.1)) = true then (if inR v 1 9 = true then (nI (g.1 2 (cl a)), wPc g (upP g.1 2 (cl a) (cl v))) else (-2, g)) else (-1, g)
/-- a picture with two places of an order changed about -/
def swP (p : Pic) (w k : Nat) : Pic := fun j => if j = 6 + w then swF (p (6 + w)) k (k + 1) else p j
def fTurn (g : Gh) (w k : Int32) : Int32 × Gh := if (decide (w = 0) || decide (w = 1)) = true then (if inN k (nI (pn g.1) - 1) = true then (nI (g.1 (6 + cl w) (cl k + 1)), wPc g (swP g.1 (cl w) (cl k))) else (-1, g)) else (-2, g)
def fReading (g : Gh) (a v : Int32) : Int32 × Gh := if inN a (nI (pn g.1)) = true then (if inR v 0 120 = true then (if g.2.2.2.2.1.1 < 8 then (nI g.2.2.2.2.1.1, wRd g (g.2.2.2.2.1.1 + 1, (fun i => if i = g.2.2.2.2.1.1 then cl a else g.2.2.2.2.1.2.1 i), fun i => if i = g.2.2.2.2.1.1 then v else g.2.2.2.2.1.2.2 i)) else (-4, g)) else (-2, g)) else (-1, g)
def fBack (g : Gh) (n : Int32) : Int32 × Gh := if inR n 0 (nI g.2.2.2.2.1.1) = true then (nI (g.2.2.2.2.1.1 - cl n), wRd g (g.2.2.2.2.1.1 - cl n, g.2.2.2.2.1.2)) else (-2, g)
def fMany (g : Gh) (w : Int32) : Int32 × Gh := (if w = 0 then nI (pn g.1) else if w = 1 then nI (brP g.1) else if w = 2 then nI (dpP g.1) else if w = 3 then nI g.2.2.2.2.1.1 else -2, g)
def nTr (t : Int32) (k : Int32) : Int32 := 31 * t + k
def fTell (g : Gh) (a : Int32) : Int32 × Gh := if inN a (nI (pn g.1)) = true then (if g.1 1 (cl a) = 2 then (nI (2 * g.1 2 (cl a) + 100), wTr g (nTr (nTr (nTr (nTr g.2.2.2.2.2.1 3) 2) 1) 1)) else if g.1 1 (cl a) = 1 then (nI (g.1 2 (cl a) + 100), wTr g (nTr (nTr g.2.2.2.2.2.1 2) 1)) else (nI (g.1 2 (cl a)), wTr g (nTr g.2.2.2.2.2.1 1))) else (-1, g)
def fSurvey (g : Gh) (a : Int32) : Int32 × Gh := if inN a (nI (pn g.1)) = true then (if g.1 1 (cl a) = 2 then (nI (g.1 3 (cl a) + 30), wTr g (nTr (nTr g.2.2.2.2.2.1 5) 4)) else (nI (g.1 3 (cl a)), wTr g (nTr g.2.2.2.2.2.1 4))) else (-1, g)
def fAs (g : Gh) (a k : Int32) : Int32 × Gh := if inN a (nI (pn g.1)) = true then (if inR k 0 2 = true then (if g.1 1 (cl a) < cl k then (-12, wFt g 2) else (1, wFt g 0)) else (-2, wFt g 0)) else (-1, wFt g 0)
theorem InvC.pc {u v : Mm} {g : Gh} {p : Pic} (h : InvC u g) (hL : PlL 1 v p) (hn : pn p = pn g.1) (f : PF 1 u v) (f5 : v 5 = u 5) : InvC v (wPc g p) := by
  obtain ⟨-, h2, h3, h4, h5, h6, h7⟩ := h
  have f0 := f 0 (by omega)
  exact ⟨hL, fun i hi => by rw [f5]; exact h2 i (by rw [← hn]; exact hi), by rw [f 29 (by omega)]; exact h3, fun k hk => (h4 k hk).rows (f _ (by omega)) (f _ (by omega)), ⟨by rw [f0]; exact h5.1, fun i hi => by rw [f 55 (by omega), f 56 (by omega)]; exact h5.2 i hi⟩, by rw [f0]; exact h6, by rw [f0]; exact h7⟩
theorem InvM.pc {u v : Mm} {g : Gh} {p : Pic} (h : InvM u g) (hL : MdB v p) (hn : pn p = pn g.1) (f : ∀ k, k ≠ 61 → k ≠ 62 → k ≠ 63 → k ≠ 65 → k ≠ 71 → k ≠ 72 → k ≠ 73 → k ≠ 57 → v k = u k) (f0 : ∀ j, j ≠ 22 → j ≠ 23 → v 57 j = u 57 j) : InvM v (wPc g p) := by
  obtain ⟨-, h2, h3, h4, h5, h6, h7⟩ := h
  have f9 : ∀ k, k = 58 ∨ k = 59 ∨ k = 60 ∨ k = 64 ∨ k = 78 ∨ k = 79 → v k = u k := fun k hk => f k (by omega) (by omega) (by omega) (by omega) (by omega) (by omega) (by omega) (by omega)
  exact ⟨hL, fun i hi => by rw [f9 64 (by omega)]; exact h2 i (by rw [← hn]; exact hi), (f0 6 (by decide) (by decide)).trans h3, fun k hk => (h4 k hk).rows (f9 _ (by omega)) (f9 _ (by omega)) (f9 _ (by omega)), ⟨(f0 31 (by decide) (by decide)).trans h5.1, fun i hi => by rw [f9 78 (by omega), f9 79 (by omega)]; exact h5.2 i hi⟩, (f0 1 (by decide) (by decide)).trans h6, (f0 0 (by decide) (by decide)).trans h7⟩
theorem nI_m1 {n : Nat} (h : n ≤ 6) {k : Int32} (h2 : inN k (nI n - 1) = true) : ∃ i, i + 1 < n ∧ k = nI i := by
  rcases n with _ | n
  · exfalso
    unfold inN at h2
    simp only [Bool.and_eq_true, Bool.not_eq_true', decide_eq_false_iff_not] at h2
    have h3 : nI 0 - 1 ≤ k := by
      rw [Int32.le_iff_toInt_le]
      have h4 := h2.1
      rw [Int32.lt_iff_toInt_lt] at h4
      have h5 : (nI 0 - 1).toInt = -1 := by decide
      have h6 : ((0 : Int32)).toInt = 0 := by decide
      omega
    exact h2.2 h3
  · rw [nI_pred] at h2
    obtain ⟨i, hi, rfl⟩ := inN_nat (by omega) h2
    exact ⟨i, by omega, rfl⟩
theorem sw_pl {p : Pic} (h : PicOk p) {w k : Nat} (hw : w < 2) (hk : k + 1 < pn p) : PicOk (swP p w k) := by
  have h0 : pn (swP p w k) = pn p := congrFun (show swP p w k 0 = p 0 from if_neg (by omega)) 0
  refine ⟨by rw [h0]; exact h.1, fun i hi => ?_, ?_, ?_⟩
  · rw [h0] at hi
    have h9 := h.2.1 i hi
    have e1 : swP p w k 1 = p 1 := if_neg (by omega)
    have e2 : swP p w k 2 = p 2 := if_neg (by omega)
    have e3 : swP p w k 3 = p 3 := if_neg (by omega)
    rw [e1, e2, e3]
    exact h9
  · rw [h0]
    by_cases e : w = 0
    · subst e
      have e6 : swP p 0 k 6 = swF (p 6) k (k + 1) := if_pos rfl
      rw [e6]
      exact isPm_sw h.2.2.1 (by omega) hk
    · have e6 : swP p w k 6 = p 6 := if_neg (by omega)
      rw [e6]
      exact h.2.2.1
  · rw [h0]
    by_cases e : w = 1
    · subst e
      have e6 : swP p 1 k 7 = swF (p 7) k (k + 1) := if_pos rfl
      rw [e6]
      exact isPm_sw h.2.2.2 (by omega) hk
    · have e6 : swP p w k 7 = p 7 := if_neg (by omega)
      rw [e6]
      exact h.2.2.2
theorem sw_PlB {b : Nat} {u : Mm} {p : Pic} (h : PlB b u p) {w k : Nat} (hw : w < 2) (hk : k + 1 < pn p) : PlB b (s2 (s2 u (b + 6 + w) k (u (b + 6 + w) (k + 1))) (b + 6 + w) (k + 1) (u (b + 6 + w) k)) (swP p w k) := by
  have h0 : pn (swP p w k) = pn p := congrFun (show swP p w k 0 = p 0 from if_neg (by omega)) 0
  refine ⟨by rw [h0, sw_out (by omega)]; exact h.1, fun i hi => ?_⟩
  rw [h0] at hi
  obtain ⟨h1, h2, h3, h4, h5⟩ := h.2 i hi
  have e1 : swP p w k 1 = p 1 := if_neg (by omega)
  have e2 : swP p w k 2 = p 2 := if_neg (by omega)
  have e3 : swP p w k 3 = p 3 := if_neg (by omega)
  rw [e1, e2, e3, sw_out (a := b + 1) (by omega), sw_out (a := b + 2) (by omega), sw_out (a := b + 3) (by omega)]
  refine ⟨h1, h2, h3, ?_, ?_⟩
  · rcases (show w = 0 ∨ w = 1 by omega) with rfl | rfl
    · have e6 : swP p 0 k 6 = swF (p 6) k (k + 1) := if_pos rfl
      rw [e6]
      exact sw_row (o := p 6) (n := pn p) (fun x hx => (h.2 x hx).2.2.2.1) (by omega) hk i hi
    · have e6 : swP p 1 k 6 = p 6 := if_neg (by omega)
      rw [e6, sw_out (by omega)]
      exact h4
  · rcases (show w = 0 ∨ w = 1 by omega) with rfl | rfl
    · have e6 : swP p 0 k 7 = p 7 := if_neg (by omega)
      rw [e6, sw_out (by omega)]
      exact h5
    · have e6 : swP p 1 k 7 = swF (p 7) k (k + 1) := if_pos rfl
      rw [e6]
      exact sw_row (k := b + 7) (o := p 7) (n := pn p) (fun x hx => (h.2 x hx).2.2.2.2) (by omega) hk i hi
theorem sw_MdB {u : Mm} {p : Pic} (h : MdB u p) {w k : Nat} (hw : w < 2) (hk : k + 1 < pn p) (hn : pn p ≤ 6) : MdB (s2 (s2 u 65 (6 * w + k) (u 65 (6 * w + k + 1))) 65 (6 * w + k + 1) (u 65 (6 * w + k))) (swP p w k) := by
  have h0 : pn (swP p w k) = pn p := congrFun (show swP p w k 0 = p 0 from if_neg (by omega)) 0
  refine ⟨by rw [h0, sw_out (by decide)]; exact h.1, fun i hi => ?_⟩
  rw [h0] at hi
  obtain ⟨h1, h2, h3, h4, h5⟩ := h.2 i hi
  have e1 : swP p w k 1 = p 1 := if_neg (by omega)
  have e2 : swP p w k 2 = p 2 := if_neg (by omega)
  have e3 : swP p w k 3 = p 3 := if_neg (by omega)
  rw [e1, e2, e3, sw_out (a := 61) (by decide), sw_out (a := 62) (by decide), sw_out (a := 63) (by decide)]
  refine ⟨h1, h2, h3, ?_, ?_⟩
  · rcases (show w = 0 ∨ w = 1 by omega) with rfl | rfl
    · have e6 : swP p 0 k 6 = swF (p 6) k (k + 1) := if_pos rfl
      rw [e6, show 6 * 0 + k = k by omega]
      exact sw_row (k := 65) (o := p 6) (n := pn p) (fun x hx => (h.2 x hx).2.2.2.1) (by omega) hk i hi
    · have e6 : swP p 1 k 6 = p 6 := if_neg (by omega)
      rw [e6, s2_ne (by omega), s2_ne (by omega)]
      exact h4
  · rcases (show w = 0 ∨ w = 1 by omega) with rfl | rfl
    · have e6 : swP p 0 k 7 = p 7 := if_neg (by omega)
      rw [e6, s2_ne (by omega), s2_ne (by omega)]
      exact h5
    · have e6 : swP p 1 k 7 = swF (p 7) k (k + 1) := if_pos rfl
      rw [e6, show 6 * 1 + k = 6 + k by omega, show 6 + k + 1 = 6 + (k + 1) by omega]
      exact sw_row6 (o := p 7) (n := pn p) (fun x hx => (h.2 x hx).2.2.2.2) (by omega) hk i hi
theorem m2_m1 {n : Nat} (hn : n ≤ 6) {k : Int32} (h0 : ¬ k < 0) : nI n - 2 < k ↔ nI n - 1 ≤ k := by
  obtain ⟨j, hj, rfl⟩ := nI_of h0
  rw [Int32.lt_iff_toInt_lt, Int32.le_iff_toInt_le]
  rw [show (2 : Int32) = nI 2 from rfl, show (1 : Int32) = nI 1 from rfl, pk_sub_toInt (by omega) (by omega), pk_sub_toInt (by omega) (by omega), nI_toInt hj]
  omega
theorem cl_nI {i : Nat} (h : i < 2 ^ 31) : cl (nI i) = i := nI_clamp h
