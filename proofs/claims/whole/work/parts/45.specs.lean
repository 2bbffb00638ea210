def lfF (p : Pic) (a : Nat) : Nat → Bool := fun b => decide (p0F p b < p0F p a) && decide (p1F p b < p1F p a)
def abF (p : Pic) (a : Nat) : Nat → Bool := fun b => decide (p0F p b < p0F p a) && decide (p1F p a < p1F p b)
def ofF (g : Gh) (i : Nat) (w : Int32) : Int32 := if w = 0 then nI (g.1 1 i) else if w = 1 then nI (g.1 2 i) else if w = 2 then nI (g.1 3 i) else if w = 3 then nI (hgF g.1 i) else if w = 4 then nI (xF g.1 i) else if w = 5 then nI (yF g.1 i) else if w = 6 then nI (setF (lfF g.1 i) (pn g.1)) else if w = 7 then nI (setF (abF g.1 i) (pn g.1)) else if w = 8 then nI (setF (tchF g.1 i) (pn g.1)) else if w = 9 then bI (crF g.1 i) else if w = 10 then g.2.1 i else if w = 11 then nI (p0F g.1 i) else if w = 12 then nI (p1F g.1 i) else -2
def fOf (g : Gh) (a w : Int32) : Int32 × Gh := if inN a (nI (pn g.1)) = true then (ofF g (cl a) w, g) else (-1, g)
def fWhole (g : Gh) (w : Int32) : Int32 × Gh := (if inR w 0 5 = true then (if w = 5 then g.2.2.1 else if pn g.1 = 0 then -3 else if w = 0 then nI (brP g.1) else if w = 1 then nI (dpP g.1) else if w = 2 then nI (brP g.1 * dpP g.1) - nI (usedF g.1 (pn g.1)) else if w = 3 then nI (twosF g.1 (pn g.1) / 2) else nI (setF (crF g.1) (pn g.1))) else -2, g)
/-! squeezing -/
def sqR (v : Nat) : Nat → Pic → Nat → Option (Nat × Pic)
  | 0, p, r => if brP p ≤ v then some (r, p) else none
  | m + 1, p, r => if brP p ≤ v then some (r, p) else match nxO p with
    | none => none
    | some a => sqR v m (dcP p a) (r + 1)
def fSq (g : Gh) (v : Int32) : Int32 × Gh := if inR v 1 60 = true then (if pn g.1 = 0 then (-3, g) else match sqR (cl v) 48 g.1 0 with
  | some r => (nI r.1, wPc g r.2)
  | none => (-9, g)) else (-2, g)
theorem sq_yes {v m r : Nat} {p : Pic} (h : brP p ≤ v) : sqR v m p r = some (r, p) := by
  cases m with
  | zero => exact if_pos h
  | succ m => exact if_pos h
theorem sq_no {v m r : Nat} {p : Pic} (h : ¬ brP p ≤ v) (hx : nxO p = none) : sqR v m p r = none := by
  cases m with
  | zero => exact if_neg h
  | succ m =>
    show (if brP p ≤ v then some (r, p) else match nxO p with | none => none | some a => sqR v m (dcP p a) (r + 1)) = none
    rw [if_neg h, hx]
theorem sq_go {v m r a : Nat} {p : Pic} (h : ¬ brP p ≤ v) (hx : nxO p = some a) : sqR v (m + 1) p r = sqR v m (dcP p a) (r + 1) := by
  show (if brP p ≤ v then some (r, p) else match nxO p with | none => none | some a => sqR v m (dcP p a) (r + 1)) = _
  rw [if_neg h, hx]
def muF (p : Pic) : Nat → Nat
  | 0 => 0
  | k + 1 => muF p k + (p 3 k - 1)
theorem muF_out {p : Pic} {a : Nat} : ∀ k, k ≤ a → muF (dcP p a) k = muF p k := by
  intro k
  induction k with
  | zero => intro _; rfl
  | succ k ih =>
    intro h
    show muF (dcP p a) k + (dcP p a 3 k - 1) = muF p k + (p 3 k - 1)
    rw [ih (by omega)]
    unfold dcP
    rw [upP_ne (by omega)]
theorem muF_dc {p : Pic} {a : Nat} (h : 1 < p 3 a) : ∀ k, a < k → muF (dcP p a) k + 1 = muF p k := by
  intro k
  induction k with
  | zero => intro h; omega
  | succ k ih =>
    intro hk
    show muF (dcP p a) k + (dcP p a 3 k - 1) + 1 = muF p k + (p 3 k - 1)
    by_cases e : k = a
    · subst e
      rw [muF_out k (Nat.le_refl _)]
      unfold dcP
      rw [upP_self]
      omega
    · have := ih (by omega)
      unfold dcP at this ⊢
      rw [upP_ne e]
      omega
theorem muF_le {p : Pic} {n : Nat} (h : ∀ i, i < n → p 3 i ≤ 9) : ∀ k, k ≤ n → muF p k ≤ 8 * k := by
  intro k
  induction k with
  | zero => intro _; exact Nat.le_refl _
  | succ k ih =>
    intro hk
    show muF p k + (p 3 k - 1) ≤ 8 * (k + 1)
    have := ih (by omega)
    have := h k (by omega)
    omega
theorem nxO_in {p : Pic} {a : Nat} (h : nxO p = some a) : a < pn p ∧ 1 < p 3 a := by
  unfold nxO at h
  cases e : wsO (crF p) (p 3) (pn p) with
  | some b => rw [e] at h; cases h; exact ⟨(wsO_lt e).1, (wsO_lt e).2.1⟩
  | none => rw [e] at h; exact ⟨(wsO_lt h).1, (wsO_lt h).2.1⟩
theorem nxO_mu {p : Pic} {a : Nat} (h : nxO p = some a) : muF (dcP p a) (pn p) + 1 = muF p (pn p) := muF_dc (nxO_in h).2 _ (nxO_in h).1
theorem dc_ok {p : Pic} (h : PicOk p) {a : Nat} (ha : a < pn p) : PicOk (dcP p a) := h.wd (by have := (h.2.1 a ha).2.2; omega)
theorem dc_p {p : Pic} (h : PicP p) {a : Nat} (ha : 1 < p 3 a) : PicP (dcP p a) := by
  intro i hi
  have h1 := h i hi
  refine ⟨h1.1, ?_⟩
  by_cases e : i = a
  · subst e; unfold dcP; rw [upP_self]; omega
  · unfold dcP; rw [upP_ne e]; exact h1.2
/-- what squeezing comes to has as many, and is as it must be -/
theorem sq_ok {v : Nat} : ∀ m (p : Pic) r, PicOk p → PicP p → ∀ q, sqR v m p r = some q → PicOk q.2 ∧ PicP q.2 ∧ pn q.2 = pn p := by
  intro m
  induction m with
  | zero =>
    intro p r h1 h2 q hq
    by_cases c : brP p ≤ v
    · rw [sq_yes c] at hq; cases hq; exact ⟨h1, h2, rfl⟩
    · exact absurd (show none = some q from (if_neg c).symm.trans hq) (by simp)
  | succ m ih =>
    intro p r h1 h2 q hq
    by_cases c : brP p ≤ v
    · rw [sq_yes c] at hq; cases hq; exact ⟨h1, h2, rfl⟩
    · cases e : nxO p with
      | none => rw [sq_no c e] at hq; cases hq
      | some a =>
        rw [sq_go c e] at hq
        obtain ⟨z1, z2⟩ := nxO_in e
        exact ih _ _ (dc_ok h1 z1) (dc_p h2 z2) q hq
/-! the readings -/
def hdF (p : Pic) (rd : Rds) : Nat → Bool
  | 0 => true
  | k + 1 => hdF p rd k && decide (nI (yF p (rd.2.1 k)) = rd.2.2 k)
theorem hd_no {p : Pic} {rd : Rds} {k : Nat} (h : ¬ nI (yF p (rd.2.1 k)) = rd.2.2 k) : ∀ n, k < n → hdF p rd n = false := by
  intro n
  induction n with
  | zero => intro z; omega
  | succ n ih =>
    intro hk
    show (hdF p rd n && decide (nI (yF p (rd.2.1 n)) = rd.2.2 n)) = false
    by_cases e : k = n
    · subst e; simp [h]
    · rw [ih (by omega)]; rfl
def kdF (g : Gh) (i : Nat) : Nat → Bool := fun k => hdF (upP g.1 1 i k) g.2.2.2.2.1 g.2.2.2.2.1.1
def wdF (g : Gh) (i : Nat) : Nat → Bool := fun k => decide (1 ≤ k) && hdF (upP g.1 3 i k) g.2.2.2.2.1 g.2.2.2.2.1.1
def fKinds (g : Gh) (a : Int32) : Int32 × Gh := if inN a (nI (pn g.1)) = true then (nI (setF (kdF g (cl a)) 3), g) else (-1, g)
def fWidths (g : Gh) (a : Int32) : Int32 × Gh := if inN a (nI (pn g.1)) = true then (nI (setF (wdF g (cl a)) 10), g) else (-1, g)
theorem PlB.apart {b c : Nat} {u v : Mm} {p : Pic} (h : PlB c u p) (f : PF b u v) (ha : b + 13 < c ∨ c + 13 < b) : PlB c v p := by
  refine ⟨by rw [f c (by omega)]; exact h.1, fun i hi => ?_⟩
  rw [f (c + 1) (by omega), f (c + 2) (by omega), f (c + 3) (by omega), f (c + 6) (by omega), f (c + 7) (by omega)]
  exact h.2 i hi
/-- the trial's rows are written: the class stays -/
theorem InvC.tl {u v : Mm} {g : Gh} (h : InvC u g) (f : PF 15 u v) : InvC v g := h.eq (fun k hk => f k (by omega)) (by rw [f 29 (by omega)])
theorem PF.cf15 {u v : Mm} (f : PF 15 u v) : CF u v := fun k hk => f k (by omega)
theorem InvC.pc6 {u v : Mm} {g : Gh} {p : Pic} (h : InvC u g) (hL : PlL 1 v p) (hn : pn p = pn g.1) (f : PF 1 u v) (f5 : ∀ i, i < pn p → v 5 i = u 5 i) : InvC v (wPc g p) := by
  obtain ⟨-, h2, h3, h4, h5, h6, h7⟩ := h
  have f0 := f 0 (by omega)
  exact ⟨hL, fun i hi => by rw [f5 i hi]; exact h2 i (by rw [← hn]; exact hi), by rw [f 29 (by omega)]; exact h3, fun k hk => (h4 k hk).rows (f _ (by omega)) (f _ (by omega)), ⟨by rw [f0]; exact h5.1, fun i hi => by rw [f 55 (by omega), f 56 (by omega)]; exact h5.2 i hi⟩, by rw [f0]; exact h6, by rw [f0]; exact h7⟩
theorem allS : ∀ n, n < 7 → ∀ a, a < n → ((((1 : Int32) <<< (nI n &&& 31)) - 1) >>> (nI a &&& 31)) &&& 1 = 1 := by decide +kernel
theorem oI_isn {e : Int32} {r : Option Nat} {n : Nat} (he : e < 0) (hn : n ≤ 6) (hr : ∀ a, r = some a → a < n) (h : oI e r = e) : r = none := by
  cases r with
  | none => rfl
  | some a => exact absurd h (oI_ne he (by have := hr a rfl; omega))
theorem oI_iss {e : Int32} {r : Option Nat} (h : ¬ oI e r = e) : ∃ a, r = some a := by
  cases r with
  | none => exact absurd rfl h
  | some a => exact ⟨a, rfl⟩
/-- the reference's rows that squeezing may change -/
def SF (u v : Mm) : Prop := (∀ k, k ≠ 57 → k ≠ 63 → k ≠ 71 → k ≠ 72 → k ≠ 73 → k ≠ 74 → v k = u k) ∧ ∀ j, j ≠ 22 → j ≠ 23 → v 57 j = u 57 j
theorem SF.mf {u v w : Mm} (h : SF u v) (h2 : MF v w) : SF u w := ⟨fun k a b c d e f => (h2.1 k a c d e).trans (h.1 k a b c d e f), fun j a b => (h2.2 j a b).trans (h.2 j a b)⟩
theorem SF.put {u v : Mm} {k j : Nat} {x : Int32} (h : SF u v) (hk : k = 63 ∨ k = 74) : SF u (s2 v k j x) := ⟨fun a h1 h2 h3 h4 h5 h6 => by rw [s2_row (by omega)]; exact h.1 a h1 h2 h3 h4 h5 h6, fun i a b => by rw [s2_row (by omega)]; exact h.2 i a b⟩
theorem SF.rf2 {u v : Mm} (h : SF u v) : RF u v := fun k hk => h.1 k (by omega) (by omega) (by omega) (by omega) (by omega) (by omega)
theorem InvM.sf {u v : Mm} {g : Gh} {p : Pic} (h : InvM u g) (f : SF u v) (hL : MdB v p) (hn : pn p = pn g.1) : InvM v (wPc g p) := by
  obtain ⟨-, h2, h3, h4, h5, h6, h7⟩ := h
  have f9 : ∀ k, k = 58 ∨ k = 59 ∨ k = 60 ∨ k = 64 ∨ k = 78 ∨ k = 79 → v k = u k := fun k hk => f.1 k (by omega) (by omega) (by omega) (by omega) (by omega) (by omega)
  exact ⟨hL, fun i hi => by rw [f9 64 (by omega)]; exact h2 i (by rw [← hn]; exact hi), (f.2 6 (by decide) (by decide)).trans h3, fun k hk => (h4 k hk).rows (f9 _ (by omega)) (f9 _ (by omega)) (f9 _ (by omega)), ⟨(f.2 31 (by decide) (by decide)).trans h5.1, fun i hi => by rw [f9 78 (by omega), f9 79 (by omega)]; exact h5.2 i hi⟩, (f.2 1 (by decide) (by decide)).trans h6, (f.2 0 (by decide) (by decide)).trans h7⟩
theorem MdB.back {u v : Mm} {p : Pic} (h : MdB u p) (f : SF u v) (hw : ∀ i, i < pn p → v 63 i = nI (p 3 i)) : MdB v p := by
  refine ⟨(f.2 5 (by decide) (by decide)).trans h.1, fun i hi => ?_⟩
  obtain ⟨h1, h2, h3, h4, h5⟩ := h.2 i hi
  rw [f.1 61 (by decide) (by decide) (by decide) (by decide) (by decide) (by decide), f.1 62 (by decide) (by decide) (by decide) (by decide) (by decide) (by decide), f.1 65 (by decide) (by decide) (by decide) (by decide) (by decide) (by decide)]
  exact ⟨h1, h2, hw i hi, h4, h5⟩
