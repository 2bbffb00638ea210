theorem oI_some (e : Int32) (a : Nat) : oI e (some a) = nI a := rfl
theorem oI_ne {e : Int32} {a : Nat} (he : e < 0) (ha : a < 2 ^ 31) : ¬ nI a = e := fun z => nI_pos ha (by rw [z]; exact he)
theorem MdB.wd {u : Mm} {p : Pic} (h : MdB u p) (a v : Nat) : MdB (s2 u 63 a (nI v)) (upP p 3 a v) := by
  refine ⟨by rw [s2_row (by decide)]; exact h.1, fun i hi => ?_⟩
  obtain ⟨h1, h2, h3, h4, h5⟩ := h.2 i hi
  rw [s2_row (a := 61) (by decide), s2_row (a := 62) (by decide), s2_row (a := 65) (by decide)]
  refine ⟨h1, h2, ?_, h4, h5⟩
  by_cases e : i = a
  · subst e; rw [s2_self, upP_self]
  · rw [s2_ne e, upP_ne e]; exact h3
theorem MdB.pt {u : Mm} {p : Pic} (h : MdB u p) (a v : Nat) : MdB (s2 u 62 a (nI v)) (upP p 2 a v) := by
  refine ⟨by rw [s2_row (by decide)]; exact h.1, fun i hi => ?_⟩
  obtain ⟨h1, h2, h3, h4, h5⟩ := h.2 i hi
  rw [s2_row (a := 61) (by decide), s2_row (a := 63) (by decide), s2_row (a := 65) (by decide)]
  refine ⟨h1, ?_, h3, h4, h5⟩
  by_cases e : i = a
  · subst e; rw [s2_self, upP_self]
  · rw [s2_ne e, upP_ne e]; exact h2
theorem MdB.kn {u : Mm} {p : Pic} (h : MdB u p) (a v : Nat) : MdB (s2 u 61 a (nI v)) (upP p 1 a v) := by
  refine ⟨by rw [s2_row (by decide)]; exact h.1, fun i hi => ?_⟩
  obtain ⟨h1, h2, h3, h4, h5⟩ := h.2 i hi
  rw [s2_row (a := 62) (by decide), s2_row (a := 63) (by decide), s2_row (a := 65) (by decide)]
  refine ⟨?_, h2, h3, h4, h5⟩
  by_cases e : i = a
  · subst e; rw [s2_self, upP_self]
  · rw [s2_ne e, upP_ne e]; exact h1
theorem sw_row6 {u : Mm} {i j n : Nat} {o : Nat → Nat} (h : ∀ x, x < n → u 65 (6 + x) = nI (o x)) (hi : i < n) (hj : j < n) : ∀ x, x < n → s2 (s2 u 65 (6 + i) (u 65 (6 + j))) 65 (6 + j) (u 65 (6 + i)) 65 (6 + x) = nI (swF o i j x) := by
  intro x hx
  unfold swF
  by_cases e1 : x = j
  · subst e1; rw [s2_self, if_pos rfl]; exact h i hi
  · rw [s2_ne (by omega), if_neg e1]
    by_cases e2 : x = i
    · subst e2; rw [s2_self, if_pos rfl]; exact h j hj
    · rw [s2_ne (by omega), if_neg e2]; exact h x hx
theorem sw_low6 {u : Mm} {i j x : Nat} (hx : x < 6) : s2 (s2 u 65 (6 + i) (u 65 (6 + j))) 65 (6 + j) (u 65 (6 + i)) 65 x = u 65 x := by
  rw [s2_ne (by omega), s2_ne (by omega)]
theorem sw_out {u : Mm} {k i j a : Nat} {x y : Int32} (h : a ≠ k) : s2 (s2 u k i x) k j y a = u a := by
  rw [s2_row h, s2_row h]
