theorem s2_self (m : Mm) (k j : Nat) (v : Int32) : s2 m k j v k j = v := by rw [s2_at]; exact pk_us
theorem s2_ne {m : Mm} {k j i : Nat} {v : Int32} (h : i ≠ j) : s2 m k j v k i = m k i := by rw [s2_at]; exact pk_un h
/-- the plan at b holds the picture p -/
def PlB (b : Nat) (u : Mm) (p : Pic) : Prop := u b 0 = nI (pn p) ∧ ∀ i, i < pn p → u (b + 1) i = nI (p 1 i) ∧ u (b + 2) i = nI (p 2 i) ∧ u (b + 3) i = nI (p 3 i) ∧ u (b + 6) i = nI (p 6 i) ∧ u (b + 7) i = nI (p 7 i)
/-- .. and is laid -/
def PlL (b : Nat) (u : Mm) (p : Pic) : Prop := PlB b u p ∧ (∀ a, a < pn p → u (b + 9) a = nI (p0F p a) ∧ u (b + 10) a = nI (p1F p a) ∧ u (b + 11) a = nI (hgF p a) ∧ u (b + 12) a = nI (xF p a) ∧ u (b + 13) a = nI (yF p a)) ∧ u b 10 = nI (brP p) ∧ u b 11 = nI (dpP p)
/-- what laying may change -/
def LF (b : Nat) (u v : Mm) : Prop := (∀ k, k ≠ b → (k < b + 9 ∨ b + 13 < k) → v k = u k) ∧ ∀ j, j ≠ 10 → j ≠ 11 → v b j = u b j
theorem LF.rf {b : Nat} {u : Mm} : LF b u u := ⟨fun _ _ _ => rfl, fun _ _ _ => rfl⟩
theorem LF.tr {b : Nat} {u v w : Mm} (h : LF b u v) (h2 : LF b v w) : LF b u w := ⟨fun k h1 h3 => (h2.1 k h1 h3).trans (h.1 k h1 h3), fun j h1 h3 => (h2.2 j h1 h3).trans (h.2 j h1 h3)⟩
theorem LF.row {b k j : Nat} {u v : Mm} {x : Int32} (h : LF b u v) (h1 : b + 9 ≤ k) (h2 : k ≤ b + 13) : LF b u (s2 v k j x) := ⟨fun a ha hb => by rw [s2_row (by omega)]; exact h.1 a ha hb, fun i hi hi2 => by rw [s2_row (by omega)]; exact h.2 i hi hi2⟩
theorem LF.fld {b j : Nat} {u v : Mm} {x : Int32} (h : LF b u v) (h1 : j = 10 ∨ j = 11) : LF b u (s2 v b j x) := ⟨fun a ha hb => by rw [s2_row (by omega)]; exact h.1 a ha hb, fun i hi hi2 => by rw [s2_ne (by omega)]; exact h.2 i hi hi2⟩
theorem PlB.fr {b : Nat} {u v : Mm} {p : Pic} (h : PlB b u p) (f : LF b u v) : PlB b v p := by
  refine ⟨(f.2 0 (by omega) (by omega)).trans h.1, fun i hi => ?_⟩
  rw [f.1 (b + 1) (by omega) (by omega), f.1 (b + 2) (by omega) (by omega), f.1 (b + 3) (by omega) (by omega), f.1 (b + 6) (by omega) (by omega), f.1 (b + 7) (by omega) (by omega)]
  exact h.2 i hi
theorem upd_run {f : Nat → Int32} {o : Nat → Nat} {n i : Nat} (hj : injOn o n) (hi : i < n) (h : ∀ q, q < i → f (o q) = nI q) : ∀ q, q < i + 1 → upd f (o i) (nI i) (o q) = nI q := by
  intro q hq
  by_cases e : q = i
  · subst e; exact pk_us
  · rw [pk_un (fun z => e (hj q i (by omega) hi z))]
    exact h q (by omega)
theorem xF_eq {p : Pic} (h : PicOk p) {k : Nat} (hk : k < pn p) : xF p (p 6 k) = mF (cX p) (p 3) (p 6) (xF p) (p 6 k) k := tT_eq h.2.2.1.2.1 hk
theorem yF_eq {p : Pic} (h : PicOk p) {k : Nat} (hk : k < pn p) : yF p (p 6 k) = mF (cY p) (hgF p) (p 6) (yF p) (p 6 k) k := tT_eq h.2.2.1.2.1 hk
