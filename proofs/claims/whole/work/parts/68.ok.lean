/-! what both hold stays as it must be -/
theorem Ok.pc {g : Gh} {p : Pic} (h : Ok g) (hp : PicOk p) (hP : PicP p) (hn : pn p = pn g.1) : Ok (wPc g p) := ⟨hp, hP, h.2.2.1, h.2.2.2.1, fun i hi => by show _ < pn p; rw [hn]; exact h.2.2.2.2 i hi⟩
theorem Ok.ft {g : Gh} (h : Ok g) (x : Int32) : Ok (wFt g x) := h
theorem Ok.tr {g : Gh} (h : Ok g) (x : Int32) : Ok (wTr g x) := h
theorem Ok.sh {g : Gh} (h : Ok g) {k : Nat} {s : Shd} (hs : inR s.2.1 0 2 = true) (hl : s.2.2.1 ≤ 60) : Ok (wSh g (upS g.2.2.2.1 k s)) := by
  refine ⟨h.1, h.2.1, fun j hj => ?_, h.2.2.2⟩
  show inR (upS g.2.2.2.1 k s j).2.1 0 2 = true ∧ (upS g.2.2.2.1 k s j).2.2.1 ≤ 60
  by_cases e : j = k
  · subst e; rw [upS_at]; exact ⟨hs, hl⟩
  · rw [upS_ne e]; exact h.2.2.1 j hj
theorem ok_width {g : Gh} (h : Ok g) (a v : Int32) : Ok (fWidth g a v).2 := by
  unfold fWidth
  by_cases h1 : inN a (nI (pn g.1)) = true
  · rw [if_pos h1]
    by_cases h2 : inR v 1 9 = true
    · rw [if_pos h2]
      obtain ⟨z1, z2, z3⟩ := ac_ok (s := 0) (w := a) (v := v) h.1 h.2.1 (by unfold acF; rw [if_neg (by decide), if_pos ⟨h1, h2⟩, if_pos rfl])
      exact h.pc z1 z2 z3
    · rw [if_neg h2]; exact h
  · rw [if_neg h1]; exact h
theorem ok_plot {g : Gh} (h : Ok g) (a v : Int32) : Ok (fPlot g a v).2 := by
  unfold fPlot
  by_cases h1 : inN a (nI (pn g.1)) = true
  · rw [if_pos h1]
    by_cases h2 : inR v 1 9 = true
    · rw [if_pos h2]
      obtain ⟨z1, z2, z3⟩ := ac_ok (s := 1) (w := a) (v := v) h.1 h.2.1 (by unfold acF; rw [if_neg (by decide), if_pos ⟨h1, h2⟩, if_neg (by decide)])
      exact h.pc z1 z2 z3
    · rw [if_neg h2]; exact h
  · rw [if_neg h1]; exact h
theorem ok_turn {g : Gh} (h : Ok g) (w k : Int32) : Ok (fTurn g w k).2 := by
  unfold fTurn
  by_cases h1 : (decide (w = 0) || decide (w = 1)) = true
  · rw [if_pos h1]
    by_cases h2 : inN k (nI (pn g.1) - 1) = true
    · rw [if_pos h2]
      obtain ⟨z1, z2, z3⟩ := ac_ok (s := 2) (w := w) (v := k) h.1 h.2.1 (by unfold acF; rw [if_pos rfl, if_pos ⟨h1, h2⟩])
      exact h.pc z1 z2 z3
    · rw [if_neg h2]; exact h
  · rw [if_neg h1]; exact h
theorem ok_reading {g : Gh} (h : Ok g) (a v : Int32) : Ok (fReading g a v).2 := by
  unfold fReading
  by_cases h1 : inN a (nI (pn g.1)) = true
  · rw [if_pos h1]
    by_cases h2 : inR v 0 120 = true
    · rw [if_pos h2]
      by_cases h3 : g.2.2.2.2.1.1 < 8
      · rw [if_pos h3]
        obtain ⟨i, hi, rfl⟩ := inN_nat (by have := h.1.1; omega) h1
        have hn := h.1.1
        refine ⟨h.1, h.2.1, h.2.2.1, show g.2.2.2.2.1.1 + 1 ≤ 8 by omega, fun j hj => ?_⟩
        show (if j = g.2.2.2.2.1.1 then cl (nI i) else g.2.2.2.2.1.2.1 j) < pn g.1
        have hj2 : j < g.2.2.2.2.1.1 + 1 := hj
        by_cases e : j = g.2.2.2.2.1.1
        · rw [if_pos e, cl_nI (by omega)]; exact hi
        · rw [if_neg e]; exact h.2.2.2.2 j (by omega)
      · rw [if_neg h3]; exact h
    · rw [if_neg h2]; exact h
  · rw [if_neg h1]; exact h
theorem ok_back {g : Gh} (h : Ok g) (n : Int32) : Ok (fBack g n).2 := by
  unfold fBack
  by_cases h1 : inR n 0 (nI g.2.2.2.2.1.1) = true
  · rw [if_pos h1]
    have h8 := h.2.2.2.1
    exact ⟨h.1, h.2.1, h.2.2.1, show g.2.2.2.2.1.1 - cl n ≤ 8 by omega, fun j hj => h.2.2.2.2 j (by have : j < g.2.2.2.2.1.1 - cl n := hj; omega)⟩
  · rw [if_neg h1]; exact h
theorem ok_many {g : Gh} (h : Ok g) (w : Int32) : Ok (fMany g w).2 := h
theorem ok_tell {g : Gh} (h : Ok g) (a : Int32) : Ok (fTell g a).2 := by unfold fTell; (repeat' split) <;> exact h
theorem ok_survey {g : Gh} (h : Ok g) (a : Int32) : Ok (fSurvey g a).2 := by unfold fSurvey; (repeat' split) <;> exact h
theorem ok_as {g : Gh} (h : Ok g) (a k : Int32) : Ok (fAs g a k).2 := by unfold fAs; (repeat' split) <;> exact h
theorem ok_ofArea {g : Gh} (h : Ok g) (a w : Int32) : Ok (fOf g a w).2 := by unfold fOf; split <;> exact h
theorem ok_whole {g : Gh} (h : Ok g) (w : Int32) : Ok (fWhole g w).2 := h
theorem ok_kinds {g : Gh} (h : Ok g) (a : Int32) : Ok (fKinds g a).2 := by unfold fKinds; split <;> exact h
theorem ok_widths {g : Gh} (h : Ok g) (a : Int32) : Ok (fWidths g a).2 := by unfold fWidths; split <;> exact h
theorem ok_squeeze {g : Gh} (h : Ok g) (v : Int32) : Ok (fSq g v).2 := by
  unfold fSq
  by_cases h1 : inR v 1 60 = true
  · rw [if_pos h1]
    by_cases h2 : pn g.1 = 0
    · rw [if_pos h2]; exact h
    · rw [if_neg h2]
      cases e : sqR (cl v) 48 g.1 0 with
      | none => exact h
      | some q => obtain ⟨z1, z2, z3⟩ := sq_ok 48 g.1 0 h.1 h.2.1 q e; exact h.pc z1 z2 z3
  · rw [if_neg h1]; exact h
theorem ok_sheet {g : Gh} (h : Ok g) (k l n : Int32) : Ok (fSheet g k l n).2 := by
  unfold fSheet
  by_cases h1 : inN k 4 = true
  · rw [if_pos h1]
    by_cases h2 : inR l 0 2 = true ∧ n ≤ 60
    · rw [if_pos h2]
      by_cases h3 : n < 0
      · rw [if_pos h3]; exact h
      · rw [if_neg h3]
        obtain ⟨w, hw, rfl⟩ := nI_of2 (M := 60) (n := 60) (by decide) h3 h2.2
        exact (h.ft 0).sh (s := (true, l, cl (nI w), fun _ => 0)) h2.1 (by show cl (nI w) ≤ 60; rw [cl_nI (by omega)]; omega)
    · rw [if_neg h2]; exact h
  · rw [if_neg h1]; exact h
theorem ok_lose {g : Gh} (h : Ok g) (k : Int32) : Ok (fLose g k).2 := by
  unfold fLose
  by_cases h1 : inN k 4 = true
  · rw [if_pos h1]
    obtain ⟨j, hj, rfl⟩ := in4 h1
    have z := h.2.2.1 j hj
    refine h.sh (s := (false, (shk g (nI j)).2)) ?_ ?_
    · unfold shk; rw [cl_nI (by omega)]; exact z.1
    · unfold shk; rw [cl_nI (by omega)]; exact z.2
  · rw [if_neg h1]; exact h
theorem ok_put {g : Gh} (h : Ok g) (k i v : Int32) : Ok (fPut g k i v).2 := by
  unfold fPut
  by_cases h1 : inN k 4 = true
  · rw [if_pos h1]
    by_cases h2 : (shk g k).1 = true
    · rw [if_pos h2]
      by_cases h3 : inN i (nI (shk g k).2.2.1) = true
      · rw [if_pos h3]
        obtain ⟨j, hj, rfl⟩ := in4 h1
        have z := h.2.2.1 j hj
        refine (h.ft 0).sh ?_ ?_
        · unfold shk; rw [cl_nI (show j < 2 ^ 31 by omega)]; exact z.1
        · unfold shk; rw [cl_nI (show j < 2 ^ 31 by omega)]; exact z.2
      · rw [if_neg h3]; exact h
    · rw [if_neg h2]; exact h
  · rw [if_neg h1]; exact h
theorem ok_cell {g : Gh} (h : Ok g) (k i l : Int32) : Ok (fCell g k i l).2 := by unfold fCell; (repeat' split) <;> exact h
theorem ok_copy {g : Gh} (h : Ok g) (k i o j n : Int32) : Ok (fCopy g k i o j n).2 := by
  unfold fCopy
  by_cases h1 : inN k 4 = true ∧ inN o 4 = true
  · rw [if_pos h1]
    obtain ⟨y, hy, rfl⟩ := in4 h1.2
    have z := h.2.2.1 y hy
    (repeat' split) <;> first | exact h | skip
    refine (h.ft 0).sh ?_ ?_
    · unfold shk; rw [cl_nI (show y < 2 ^ 31 by omega)]; exact z.1
    · unfold shk; rw [cl_nI (show y < 2 ^ 31 by omega)]; exact z.2
  · rw [if_neg h1]; exact h
theorem ok_wishes {g : Gh} (h : Ok g) (k l i n : Int32) : Ok (fWish g k l i n).2 := by unfold fWish; (repeat' split) <;> exact h
theorem ok_day {g : Gh} (h : Ok g) (k l i n w : Int32) : Ok (fDay g k l i n w).2 := by unfold fDay; (repeat' split) <;> exact h
theorem ok_least {g : Gh} (h : Ok g) (k : Int32) : Ok (fLeast g k).2 := h
theorem ok_odds {g : Gh} (h : Ok g) (v w : Int32) : Ok (fOdds g v w).2 := h
theorem ok_map {g : Gh} (h : Ok g) (k l i n : Int32) : Ok (fMap g k l i n).2 := by
  unfold fMap
  by_cases h1 : inN k 4 = true
  · rw [if_pos h1]
    by_cases h2 : inR l 0 2 = true
    · rw [if_pos h2]
      by_cases h3 : agF (shk g k) l i n = 0
      · rw [if_pos h3]
        unfold mapG
        by_cases h4 : (pF (tX (shk g k) i) (cl n)).1 = true
        · rw [if_pos h4]
          obtain ⟨z1, z2⟩ := picT_ok h4
          exact ⟨z1, z2, h.2.2.1, Nat.zero_le 8, fun j hj => absurd (show j < 0 from hj) (by omega)⟩
        · rw [if_neg h4]; exact h
      · rw [if_neg h3]; exact h
    · rw [if_neg h2]; exact h
  · rw [if_neg h1]; exact h
