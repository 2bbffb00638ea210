theorem pl_apart {b c : Nat} (hb : isPl b) (hc : isPl c) (h : b ≠ c) : b + 13 < c ∨ c + 13 < b := by
  unfold isPl at hb hc
  omega
theorem pl_w {b w : Nat} (hb : isPl b) (hw : w < 2) : sTb[b + 6 + w]? = some (.inr (.inl 6)) := by
  rcases (show w = 0 ∨ w = 1 by omega) with rfl | rfl
  · exact pl_6 hb
  · exact pl_7 hb
theorem at_w {b w : Nat} (hw : w < 2) : [b + 6, b + 7][w]? = some (b + 6 + w) := by
  rcases (show w = 0 ∨ w = 1 by omega) with rfl | rfl <;> rfl
def cpR (u : Mm) (k0 k1 : Nat) : Mm := sR u k1 (va_cpy (u k0) (u k1) 0 0 6)
theorem cpR_row {u : Mm} {k0 k1 k : Nat} (h : k ≠ k1) : cpR u k0 k1 k = u k := sR_row h
theorem cpR_at {u : Mm} {k0 k1 i : Nat} (h : i < 6) : cpR u k0 k1 k1 i = u k0 i := by
  unfold cpR
  rw [sR_at, pk_cpy_in (Nat.zero_le _) (by omega)]
  congr 1
  omega
def cpP (u : Mm) (c b : Nat) : Mm := cpR (cpR (cpR (cpR (cpR (cpR (s2 u b 0 (u c 0)) (c + 1) (b + 1)) (c + 2) (b + 2)) (c + 3) (b + 3)) (c + 4) (b + 4)) (c + 6) (b + 6)) (c + 7) (b + 7)
theorem cpP_out {u : Mm} {c b k : Nat} (h : k < b ∨ b + 7 < k) : cpP u c b k = u k := by
  unfold cpP
  rw [cpR_row (by omega), cpR_row (by omega), cpR_row (by omega), cpR_row (by omega), cpR_row (by omega), cpR_row (by omega), s2_row (by omega)]
theorem cpP_self {u : Mm} {c b j : Nat} (h : j ≠ 0) : cpP u c b b j = u b j := by
  unfold cpP
  rw [cpR_row (by omega), cpR_row (by omega), cpR_row (by omega), cpR_row (by omega), cpR_row (by omega), cpR_row (by omega), s2_ne h]
theorem cpP_n {u : Mm} {c b : Nat} : cpP u c b b 0 = u c 0 := by
  unfold cpP
  rw [cpR_row (by omega), cpR_row (by omega), cpR_row (by omega), cpR_row (by omega), cpR_row (by omega), cpR_row (by omega), s2_self]
theorem cpP_1 {u : Mm} {c b i : Nat} (h : b + 13 < c ∨ c + 13 < b) (hi : i < 6) : cpP u c b (b + 1) i = u (c + 1) i := by
  unfold cpP
  rw [cpR_row (by omega), cpR_row (by omega), cpR_row (by omega), cpR_row (by omega), cpR_row (by omega), cpR_at hi, s2_row (by omega)]
theorem cpP_2 {u : Mm} {c b i : Nat} (h : b + 13 < c ∨ c + 13 < b) (hi : i < 6) : cpP u c b (b + 2) i = u (c + 2) i := by
  unfold cpP
  rw [cpR_row (by omega), cpR_row (by omega), cpR_row (by omega), cpR_row (by omega), cpR_at hi, cpR_row (by omega), s2_row (by omega)]
theorem cpP_3 {u : Mm} {c b i : Nat} (h : b + 13 < c ∨ c + 13 < b) (hi : i < 6) : cpP u c b (b + 3) i = u (c + 3) i := by
  unfold cpP
  rw [cpR_row (by omega), cpR_row (by omega), cpR_row (by omega), cpR_at hi, cpR_row (by omega), cpR_row (by omega), s2_row (by omega)]
theorem cpP_4 {u : Mm} {c b i : Nat} (h : b + 13 < c ∨ c + 13 < b) (hi : i < 6) : cpP u c b (b + 4) i = u (c + 4) i := by
  unfold cpP
  rw [cpR_row (by omega), cpR_row (by omega), cpR_at hi, cpR_row (by omega), cpR_row (by omega), cpR_row (by omega), s2_row (by omega)]
theorem cpP_6 {u : Mm} {c b i : Nat} (h : b + 13 < c ∨ c + 13 < b) (hi : i < 6) : cpP u c b (b + 6) i = u (c + 6) i := by
  unfold cpP
  rw [cpR_row (by omega), cpR_at hi, cpR_row (by omega), cpR_row (by omega), cpR_row (by omega), cpR_row (by omega), s2_row (by omega)]
theorem cpP_7 {u : Mm} {c b i : Nat} (h : b + 13 < c ∨ c + 13 < b) (hi : i < 6) : cpP u c b (b + 7) i = u (c + 7) i := by
  unfold cpP
  rw [cpR_at hi, cpR_row (by omega), cpR_row (by omega), cpR_row (by omega), cpR_row (by omega), cpR_row (by omega), s2_row (by omega)]
theorem cpP_pl {u : Mm} {c b : Nat} {p : Pic} (hp : PicOk p) (h : b + 13 < c ∨ c + 13 < b) (hP : PlB c u p) : PlB b (cpP u c b) p := by
  have hn := hp.1
  refine ⟨cpP_n.trans hP.1, fun i hi => ?_⟩
  rw [cpP_1 h (by omega), cpP_2 h (by omega), cpP_3 h (by omega), cpP_6 h (by omega), cpP_7 h (by omega)]
  exact hP.2 i hi
/-- a plan's rows are written, none else -/
def PF (b : Nat) (u v : Mm) : Prop := ∀ k, (k < b ∨ b + 13 < k) → v k = u k
theorem PF.rf {b : Nat} {u : Mm} : PF b u u := fun _ _ => rfl
theorem PF.tr {b : Nat} {u v w : Mm} (h : PF b u v) (h2 : PF b v w) : PF b u w := fun k hk => (h2 k hk).trans (h k hk)
theorem LF.pf {b : Nat} {u v : Mm} (h : LF b u v) : PF b u v := fun k hk => h.1 k (by omega) (by omega)
theorem PF.put {b k j : Nat} {u v : Mm} {x : Int32} (h : PF b u v) (h1 : b ≤ k) (h2 : k ≤ b + 13) : PF b u (s2 v k j x) := fun a ha => by rw [s2_row (by omega)]; exact h a ha
theorem PlL.apart {b c : Nat} {u v : Mm} {p : Pic} (h : PlL c u p) (f : PF b u v) (ha : b + 13 < c ∨ c + 13 < b) : PlL c v p := by
  obtain ⟨⟨h1, h2⟩, h3, h4, h5⟩ := h
  refine ⟨⟨by rw [f c (by omega)]; exact h1, fun i hi => ?_⟩, fun a h9 => ?_, by rw [f c (by omega)]; exact h4, by rw [f c (by omega)]; exact h5⟩
  · rw [f (c + 1) (by omega), f (c + 2) (by omega), f (c + 3) (by omega), f (c + 6) (by omega), f (c + 7) (by omega)]
    exact h2 i hi
  · rw [f (c + 9) (by omega), f (c + 10) (by omega), f (c + 11) (by omega), f (c + 12) (by omega), f (c + 13) (by omega)]
    exact h3 a h9
/-- writing a width, a plot, a kind into a plan's rows -/
theorem PlB.wd {b : Nat} {u : Mm} {p : Pic} (h : PlB b u p) (a v : Nat) : PlB b (s2 u (b + 3) a (nI v)) (upP p 3 a v) := by
  refine ⟨by rw [s2_row (by omega)]; exact h.1, fun i hi => ?_⟩
  obtain ⟨h1, h2, h3, h4, h5⟩ := h.2 i hi
  rw [s2_row (by omega), s2_row (by omega), s2_row (a := b + 6) (by omega), s2_row (a := b + 7) (by omega)]
  refine ⟨h1, h2, ?_, h4, h5⟩
  by_cases e : i = a
  · subst e; rw [s2_self, upP_self]
  · rw [s2_ne e, upP_ne e]; exact h3
theorem PlB.pt {b : Nat} {u : Mm} {p : Pic} (h : PlB b u p) (a v : Nat) : PlB b (s2 u (b + 2) a (nI v)) (upP p 2 a v) := by
  refine ⟨by rw [s2_row (by omega)]; exact h.1, fun i hi => ?_⟩
  obtain ⟨h1, h2, h3, h4, h5⟩ := h.2 i hi
  rw [s2_row (a := b + 1) (by omega), s2_row (a := b + 3) (by omega), s2_row (a := b + 6) (by omega), s2_row (a := b + 7) (by omega)]
  refine ⟨h1, ?_, h3, h4, h5⟩
  by_cases e : i = a
  · subst e; rw [s2_self, upP_self]
  · rw [s2_ne e, upP_ne e]; exact h2
theorem PlB.kn {b : Nat} {u : Mm} {p : Pic} (h : PlB b u p) (a v : Nat) : PlB b (s2 u (b + 1) a (nI v)) (upP p 1 a v) := by
  refine ⟨by rw [s2_row (by omega)]; exact h.1, fun i hi => ?_⟩
  obtain ⟨h1, h2, h3, h4, h5⟩ := h.2 i hi
  rw [s2_row (a := b + 2) (by omega), s2_row (a := b + 3) (by omega), s2_row (a := b + 6) (by omega), s2_row (a := b + 7) (by omega)]
  refine ⟨?_, h2, h3, h4, h5⟩
  by_cases e : i = a
  · subst e; rw [s2_self, upP_self]
  · rw [s2_ne e, upP_ne e]; exact h1
theorem upP_back (p : Pic) (j a v w : Nat) : upP (upP p j a v) j a w = upP p j a w := by
  funext i k
  unfold upP
  by_cases h : i = j
  · rw [if_pos h, if_pos h, if_pos rfl]
    by_cases h2 : k = a
    · rw [if_pos h2, if_pos h2]
    · rw [if_neg h2, if_neg h2, if_neg h2]
  · rw [if_neg h, if_neg h, if_neg h]
theorem upP_same (p : Pic) (j a : Nat) : upP p j a (p j a) = p := by
  funext i k
  unfold upP
  by_cases h : i = j
  · subst h
    rw [if_pos rfl]
    by_cases h2 : k = a
    · subst h2; rw [if_pos rfl]
    · rw [if_neg h2]
  · rw [if_neg h]
theorem s2_back {u v : Mm} {k j : Nat} {x : Int32} (hv : v k = upd (u k) j x) : s2 v k j (u k j) k = u k := by
  rw [s2_at, hv]
  funext i
  by_cases h : i = j
  · subst h; exact pk_us
  · rw [pk_un h, pk_un h]
theorem popAll : ∀ s, s < 64 → pcN s ≤ 6 := fun s _ => pcN_le s
