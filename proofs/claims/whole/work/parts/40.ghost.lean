/-! what both objects hold: one value for both -/
abbrev Shd : Type := Bool × Int32 × Nat × (Nat → Int32)
abbrev Rds : Type := Nat × (Nat → Nat) × (Nat → Int32)
abbrev Gh : Type := Pic × (Nat → Int32) × Int32 × (Nat → Shd) × Rds × Int32 × Int32
def ShC (u : Mm) (b : Nat) (s : Shd) : Prop := u b 0 = bI s.1 ∧ u b 1 = s.2.1 ∧ u b 2 = nI s.2.2.1 ∧ ∀ i, i < 60 → u (b + 1) i = s.2.2.2 i
def RdC (u : Mm) (r : Rds) : Prop := u 0 7 = nI r.1 ∧ ∀ i, i < r.1 → u 55 i = nI (r.2.1 i) ∧ u 56 i = r.2.2 i
def InvC (u : Mm) (g : Gh) : Prop := PlL 1 u g.1 ∧ (∀ i, i < pn g.1 → u 5 i = g.2.1 i) ∧ u 29 4 = g.2.2.1 ∧ (∀ k, k < 4 → ShC u (46 + 2 * k) (g.2.2.2.1 k)) ∧ RdC u g.2.2.2.2.1 ∧ u 0 8 = g.2.2.2.2.2.1 ∧ u 0 9 = g.2.2.2.2.2.2
def ShM (u : Mm) (k : Nat) (s : Shd) : Prop := u 58 k = (if s.1 then s.2.1 else -9) ∧ u 59 k = nI s.2.2.1 ∧ ∀ i, i < 60 → u 60 (60 * k + i) = s.2.2.2 i
def RdM (u : Mm) (r : Rds) : Prop := u 57 31 = nI r.1 ∧ ∀ i, i < r.1 → u 78 i = nI (r.2.1 i) ∧ u 79 i = r.2.2 i
def InvM (u : Mm) (g : Gh) : Prop := MdB u g.1 ∧ (∀ i, i < pn g.1 → u 64 i = g.2.1 i) ∧ u 57 6 = g.2.2.1 ∧ (∀ k, k < 4 → ShM u k (g.2.2.2.1 k)) ∧ RdM u g.2.2.2.2.1 ∧ u 57 1 = g.2.2.2.2.2.1 ∧ u 57 0 = g.2.2.2.2.2.2
def Ok (g : Gh) : Prop := PicOk g.1 ∧ PicP g.1 ∧ (∀ k, k < 4 → inR (g.2.2.2.1 k).2.1 0 2 = true ∧ (g.2.2.2.1 k).2.2.1 ≤ 60) ∧ g.2.2.2.2.1.1 ≤ 8 ∧ ∀ i, i < g.2.2.2.2.1.1 → g.2.2.2.2.1.2.1 i < pn g.1
/-- the class leaves the reference's rows, and the reference the class's -/
def CF (u v : Mm) : Prop := ∀ k, 57 ≤ k → v k = u k
def RF (u v : Mm) : Prop := ∀ k, k < 57 → v k = u k
theorem CF.rf {u : Mm} : CF u u := fun _ _ => rfl
theorem RF.rf {u : Mm} : RF u u := fun _ _ => rfl
theorem CF.tr {u v w : Mm} (h : CF u v) (h2 : CF v w) : CF u w := fun k hk => (h2 k hk).trans (h k hk)
theorem RF.tr {u v w : Mm} (h : RF u v) (h2 : RF v w) : RF u w := fun k hk => (h2 k hk).trans (h k hk)
theorem CF.put {u v : Mm} {k j : Nat} {x : Int32} (h : CF u v) (hk : k < 57) : CF u (s2 v k j x) := fun a ha => by rw [s2_row (by omega)]; exact h a ha
theorem RF.put {u v : Mm} {k j : Nat} {x : Int32} (h : RF u v) (hk : 57 ≤ k) : RF u (s2 v k j x) := fun a ha => by rw [s2_row (by omega)]; exact h a ha
theorem PlL.rows {u v : Mm} {p : Pic} (h : PlL 1 u p) (f : ∀ k, 1 ≤ k → k ≤ 14 → v k = u k) : PlL 1 v p := by
  obtain ⟨⟨h1, h2⟩, h3, h4, h5⟩ := h
  have f1 := f 1 (by decide) (by decide)
  refine ⟨⟨by rw [f1]; exact h1, fun i hi => ?_⟩, fun a ha => ?_, by rw [f1]; exact h4, by rw [f1]; exact h5⟩
  · rw [f (1 + 1) (by decide) (by decide), f (1 + 2) (by decide) (by decide), f (1 + 3) (by decide) (by decide), f (1 + 6) (by decide) (by decide), f (1 + 7) (by decide) (by decide)]
    exact h2 i hi
  · rw [f (1 + 9) (by decide) (by decide), f (1 + 10) (by decide) (by decide), f (1 + 11) (by decide) (by decide), f (1 + 12) (by decide) (by decide), f (1 + 13) (by decide) (by decide)]
    exact h3 a ha
theorem ShC.rows {u v : Mm} {b : Nat} {s : Shd} (h : ShC u b s) (f : v b = u b) (f2 : v (b + 1) = u (b + 1)) : ShC v b s := by
  obtain ⟨h1, h2, h3, h4⟩ := h
  exact ⟨by rw [f]; exact h1, by rw [f]; exact h2, by rw [f]; exact h3, fun i hi => by rw [f2]; exact h4 i hi⟩
/-- the class's rows that count are as they were -/
theorem InvC.eq {u v : Mm} {g : Gh} (h : InvC u g) (f : ∀ k, k < 15 ∨ (46 ≤ k ∧ k < 54) ∨ k = 55 ∨ k = 56 → v k = u k) (f2 : v 29 4 = u 29 4) : InvC v g := by
  obtain ⟨h1, h2, h3, h4, h5, h6, h7⟩ := h
  have f0 := f 0 (by omega)
  refine ⟨h1.rows (fun k _ hk => f k (by omega)), fun i hi => by rw [f 5 (by omega)]; exact h2 i hi, f2.trans h3, fun k hk => (h4 k hk).rows (f _ (by omega)) (f _ (by omega)), ⟨by rw [f0]; exact h5.1, fun i hi => by rw [f 55 (by omega), f 56 (by omega)]; exact h5.2 i hi⟩, by rw [f0]; exact h6, by rw [f0]; exact h7⟩
theorem InvC.r0 {u v : Mm} {g : Gh} (h : InvC u g) (hr : ∀ k, k ≠ 0 → k ≠ 55 → k ≠ 56 → v k = u k) {rd : Rds} (h5 : RdC v rd) {t f : Int32} (h6 : v 0 8 = t) (h7 : v 0 9 = f) : InvC v (g.1, g.2.1, g.2.2.1, g.2.2.2.1, rd, t, f) := by
  obtain ⟨h1, h2, h3, h4, -, -, -⟩ := h
  exact ⟨h1.rows (fun k _ hk => hr k (by omega) (by omega) (by omega)), fun i hi => by rw [hr 5 (by omega) (by omega) (by omega)]; exact h2 i hi, by rw [hr 29 (by omega) (by omega) (by omega)]; exact h3, fun k hk => (h4 k hk).rows (hr _ (by omega) (by omega) (by omega)) (hr _ (by omega) (by omega) (by omega)), h5, h6, h7⟩
abbrev wFt (g : Gh) (x : Int32) : Gh := (g.1, g.2.1, g.2.2.1, g.2.2.2.1, g.2.2.2.2.1, g.2.2.2.2.2.1, x)
abbrev wTr (g : Gh) (x : Int32) : Gh := (g.1, g.2.1, g.2.2.1, g.2.2.2.1, g.2.2.2.2.1, x, g.2.2.2.2.2.2)
abbrev wRd (g : Gh) (x : Rds) : Gh := (g.1, g.2.1, g.2.2.1, g.2.2.2.1, x, g.2.2.2.2.2.1, g.2.2.2.2.2.2)
abbrev wPc (g : Gh) (p : Pic) : Gh := (p, g.2)
abbrev wSh (g : Gh) (f : Nat → Shd) : Gh := (g.1, g.2.1, g.2.2.1, f, g.2.2.2.2)
theorem InvC.ft {u : Mm} {g : Gh} (h : InvC u g) (x : Int32) : InvC (s2 u 0 9 x) (wFt g x) :=
  h.r0 (v := s2 u 0 9 x) (fun k h0 _ _ => s2_row h0) ⟨by rw [s2_ne (by decide)]; exact h.2.2.2.2.1.1, fun i hi => by rw [s2_row (by decide), s2_row (by decide)]; exact h.2.2.2.2.1.2 i hi⟩ (by rw [s2_ne (by decide)]; exact h.2.2.2.2.2.1) (s2_self _ _ _ _)
theorem InvC.tr {u : Mm} {g : Gh} (h : InvC u g) (x : Int32) : InvC (s2 u 0 8 x) (wTr g x) :=
  h.r0 (v := s2 u 0 8 x) (fun k h0 _ _ => s2_row h0) ⟨by rw [s2_ne (by decide)]; exact h.2.2.2.2.1.1, fun i hi => by rw [s2_row (by decide), s2_row (by decide)]; exact h.2.2.2.2.1.2 i hi⟩ (s2_self _ _ _ _) (by rw [s2_ne (by decide)]; exact h.2.2.2.2.2.2)
theorem MdB.rows {u v : Mm} {p : Pic} (h : MdB u p) (f0 : v 57 5 = u 57 5) (f : ∀ k, k = 61 ∨ k = 62 ∨ k = 63 ∨ k = 65 → v k = u k) : MdB v p := by
  refine ⟨f0.trans h.1, fun i hi => ?_⟩
  rw [f 61 (by omega), f 62 (by omega), f 63 (by omega), f 65 (by omega)]
  exact h.2 i hi
theorem ShM.rows {u v : Mm} {k : Nat} {s : Shd} (h : ShM u k s) (f1 : v 58 = u 58) (f2 : v 59 = u 59) (f3 : v 60 = u 60) : ShM v k s := by
  obtain ⟨h1, h2, h3⟩ := h
  exact ⟨by rw [f1]; exact h1, by rw [f2]; exact h2, fun i hi => by rw [f3]; exact h3 i hi⟩
theorem InvM.eq {u v : Mm} {g : Gh} (h : InvM u g) (f : ∀ k, k = 58 ∨ k = 59 ∨ k = 60 ∨ k = 61 ∨ k = 62 ∨ k = 63 ∨ k = 64 ∨ k = 65 ∨ k = 78 ∨ k = 79 → v k = u k) (f2 : ∀ j, j = 0 ∨ j = 1 ∨ j = 5 ∨ j = 6 ∨ j = 31 → v 57 j = u 57 j) : InvM v g := by
  obtain ⟨h1, h2, h3, h4, h5, h6, h7⟩ := h
  exact ⟨h1.rows (f2 5 (by omega)) (fun k hk => f k (by omega)), fun i hi => by rw [f 64 (by omega)]; exact h2 i hi, (f2 6 (by omega)).trans h3, fun k hk => (h4 k hk).rows (f _ (by omega)) (f _ (by omega)) (f _ (by omega)), ⟨(f2 31 (by omega)).trans h5.1, fun i hi => by rw [f 78 (by omega), f 79 (by omega)]; exact h5.2 i hi⟩, (f2 1 (by omega)).trans h6, (f2 0 (by omega)).trans h7⟩
theorem InvM.mf {u v : Mm} {g : Gh} (h : InvM u g) (f : MF u v) : InvM v g := h.eq (fun k hk => f.1 k (by omega) (by omega) (by omega) (by omega)) (fun j hj => f.2 j (by omega) (by omega))
theorem MF.rf2 {u v : Mm} (f : MF u v) : RF u v := fun k hk => f.1 k (by omega) (by omega) (by omega) (by omega)
theorem InvM.r57 {u v : Mm} {g : Gh} (h : InvM u g) (hr : ∀ k, k ≠ 57 → k ≠ 78 → k ≠ 79 → v k = u k) (h0 : ∀ j, j = 5 ∨ j = 6 → v 57 j = u 57 j) {rd : Rds} (h5 : RdM v rd) {t f : Int32} (h6 : v 57 1 = t) (h7 : v 57 0 = f) : InvM v (g.1, g.2.1, g.2.2.1, g.2.2.2.1, rd, t, f) := by
  obtain ⟨h1, h2, h3, h4, -, -, -⟩ := h
  exact ⟨h1.rows (h0 5 (by omega)) (fun k hk => hr k (by omega) (by omega) (by omega)), fun i hi => by rw [hr 64 (by omega) (by omega) (by omega)]; exact h2 i hi, (h0 6 (by omega)).trans h3, fun k hk => (h4 k hk).rows (hr _ (by omega) (by omega) (by omega)) (hr _ (by omega) (by omega) (by omega)) (hr _ (by omega) (by omega) (by omega)), h5, h6, h7⟩
theorem InvM.ft {u : Mm} {g : Gh} (h : InvM u g) (x : Int32) : InvM (s2 u 57 0 x) (wFt g x) :=
  h.r57 (v := s2 u 57 0 x) (fun k h0 _ _ => s2_row h0) (fun j hj => s2_ne (by omega)) ⟨by rw [s2_ne (by decide)]; exact h.2.2.2.2.1.1, fun i hi => by rw [s2_row (by decide), s2_row (by decide)]; exact h.2.2.2.2.1.2 i hi⟩ (by rw [s2_ne (by decide)]; exact h.2.2.2.2.2.1) (s2_self _ _ _ _)
theorem InvM.tr {u : Mm} {g : Gh} (h : InvM u g) (x : Int32) : InvM (s2 u 57 1 x) (wTr g x) :=
  h.r57 (v := s2 u 57 1 x) (fun k h0 _ _ => s2_row h0) (fun j hj => s2_ne (by omega)) ⟨by rw [s2_ne (by decide)]; exact h.2.2.2.2.1.1, fun i hi => by rw [s2_row (by decide), s2_row (by decide)]; exact h.2.2.2.2.1.2 i hi⟩ (s2_self _ _ _ _) (by rw [s2_ne (by decide)]; exact h.2.2.2.2.2.2)
theorem inN_nat {a : Int32} {n : Nat} (hn : n < 2 ^ 31) (h : inN a (nI n) = true) : ∃ i, i < n ∧ a = nI i := by
  unfold inN at h
  simp only [Bool.and_eq_true, Bool.not_eq_true', decide_eq_false_iff_not] at h
  rcases pk_ix a hn with h1 | h1 | h1
  · exact absurd h1 h.1
  · exact absurd h1 h.2
  · exact h1
theorem inN_of {i n : Nat} (h : i < n) (hn : n < 2 ^ 31) : inN (nI i) (nI n) = true := by
  unfold inN
  simp only [Bool.and_eq_true, Bool.not_eq_true', decide_eq_false_iff_not]
  exact ⟨nI_pos (by omega), nI_ge h hn⟩
theorem inR_nat {a : Int32} {lo hi : Nat} (hh : hi < 2 ^ 30) (h : inR a (nI lo) (nI hi) = true) (hl : lo ≤ hi) : ∃ i, lo ≤ i ∧ i ≤ hi ∧ a = nI i := by
  unfold inR at h
  simp only [Bool.and_eq_true, Bool.not_eq_true', decide_eq_false_iff_not] at h
  have h0 : ¬ a < 0 := fun z => h.1 (by rw [Int32.lt_iff_toInt_lt] at z ⊢; rw [nI_toInt (by omega)]; have : ((0 : Int32)).toInt = 0 := by decide
                                        omega)
  obtain ⟨j, hj, rfl⟩ := nI_of h0
  refine ⟨j, ?_, ?_, rfl⟩
  · exact Nat.not_lt.mp (fun z => h.1 ((nI_ltI hj (by omega)).mpr z))
  · exact Nat.not_lt.mp (fun z => h.2 ((nI_ltI (by omega) hj).mpr z))
/-- a number of an argument -/
abbrev cl (x : Int32) : Nat := x.toNatClampNeg
theorem sh_ok {k : Nat} (h : k < 4) : isSh (46 + 2 * k) := by unfold isSh; omega
theorem sh_at {k : Nat} (h : k < 4) : [46, 48, 50, 52][k]? = some (46 + 2 * k) := by
  rcases (show k = 0 ∨ k = 1 ∨ k = 2 ∨ k = 3 by omega) with rfl | rfl | rfl | rfl <;> rfl
