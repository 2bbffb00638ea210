/-! the reference's plan -/
def MdB (u : Mm) (p : Pic) : Prop := u 57 5 = nI (pn p) ∧ ∀ i, i < pn p → u 61 i = nI (p 1 i) ∧ u 62 i = nI (p 2 i) ∧ u 63 i = nI (p 3 i) ∧ u 65 i = nI (p 6 i) ∧ u 65 (6 + i) = nI (p 7 i)
/-- nothing is without a length -/
def PicP (p : Pic) : Prop := ∀ a, a < pn p → 1 ≤ p 2 a ∧ 1 ≤ p 3 a
def MdL (u : Mm) (p : Pic) : Prop := (∀ a, a < pn p → u 73 a = nI (p1F p a) ∧ u 71 a = nI (xF p a) ∧ u 72 a = nI (yF p a)) ∧ u 57 22 = nI (brP p) ∧ u 57 23 = nI (dpP p)
/-- what finding places may change -/
def MF (u v : Mm) : Prop := (∀ k, k ≠ 57 → k ≠ 71 → k ≠ 72 → k ≠ 73 → v k = u k) ∧ ∀ j, j ≠ 22 → j ≠ 23 → v 57 j = u 57 j
def BF (u v : Mm) : Prop := (∀ k, k ≠ 57 → k ≠ 71 → v k = u k) ∧ ∀ j, j ≠ 22 → v 57 j = u 57 j
def DF (u v : Mm) : Prop := (∀ k, k ≠ 57 → k ≠ 72 → v k = u k) ∧ ∀ j, j ≠ 23 → v 57 j = u 57 j
theorem MF.rf {u : Mm} : MF u u := ⟨fun _ _ _ _ _ => rfl, fun _ _ _ => rfl⟩
theorem MF.tr {u v w : Mm} (h : MF u v) (h2 : MF v w) : MF u w := ⟨fun k a b c d => (h2.1 k a b c d).trans (h.1 k a b c d), fun j a b => (h2.2 j a b).trans (h.2 j a b)⟩
theorem BF.rf {u : Mm} : BF u u := ⟨fun _ _ _ => rfl, fun _ _ => rfl⟩
theorem DF.rf {u : Mm} : DF u u := ⟨fun _ _ _ => rfl, fun _ _ => rfl⟩
theorem BF.mf {u v : Mm} (h : BF u v) : MF u v := ⟨fun k a b _ _ => h.1 k a b, fun j a _ => h.2 j a⟩
theorem DF.mf {u v : Mm} (h : DF u v) : MF u v := ⟨fun k a _ c _ => h.1 k a c, fun j _ a => h.2 j a⟩
theorem BF.tr {u v w : Mm} (h : BF u v) (h2 : BF v w) : BF u w := ⟨fun k a b => (h2.1 k a b).trans (h.1 k a b), fun j a => (h2.2 j a).trans (h.2 j a)⟩
theorem BF.row {u v : Mm} {j : Nat} {x : Int32} (h : BF u v) : BF u (s2 v 71 j x) := ⟨fun k a b => by rw [s2_row b]; exact h.1 k a b, fun j a => by rw [s2_row (by decide)]; exact h.2 j a⟩
theorem BF.fld {u v : Mm} {x : Int32} (h : BF u v) : BF u (s2 v 57 22 x) := ⟨fun k a b => by rw [s2_row a]; exact h.1 k a b, fun j a => by rw [s2_ne a]; exact h.2 j a⟩
theorem DF.row {u v : Mm} {j : Nat} {x : Int32} (h : DF u v) : DF u (s2 v 72 j x) := ⟨fun k a b => by rw [s2_row b]; exact h.1 k a b, fun j a => by rw [s2_row (by decide)]; exact h.2 j a⟩
theorem DF.fld {u v : Mm} {x : Int32} (h : DF u v) : DF u (s2 v 57 23 x) := ⟨fun k a b => by rw [s2_row a]; exact h.1 k a b, fun j a => by rw [s2_ne a]; exact h.2 j a⟩
theorem MdB.fr {u v : Mm} {p : Pic} (h : MdB u p) (f : MF u v) : MdB v p := by
  refine ⟨(f.2 5 (by decide) (by decide)).trans h.1, fun i hi => ?_⟩
  rw [f.1 61 (by decide) (by decide) (by decide) (by decide), f.1 62 (by decide) (by decide) (by decide) (by decide), f.1 63 (by decide) (by decide) (by decide) (by decide), f.1 65 (by decide) (by decide) (by decide) (by decide)]
  exact h.2 i hi
theorem szF_pos {p : Pic} {a : Nat} (h : 1 ≤ p 2 a) : 1 ≤ szF p a := by
  unfold szF
  split <;> (try split) <;> omega
theorem hgF_pos {p : Pic} {a : Nat} (h : 1 ≤ p 2 a) (h2 : 1 ≤ p 3 a) : 1 ≤ hgF p a := by
  have h3 := szF_pos h
  unfold hgF
  exact (Nat.le_div_iff_mul_le h2).mpr (by omega)
theorem tch_self {p : Pic} (h : PicP p) {a : Nat} (ha : a < pn p) : tchF p a a = false := by
  have h1 := h a ha
  have h2 := hgF_pos h1.1 h1.2
  unfold tchF meetN
  have e1 : decide (xF p a + p 3 a = xF p a) = false := by simp; omega
  have e2 : decide (yF p a + hgF p a = yF p a) = false := by simp; omega
  simp only [e1, e2, Bool.or_false, Bool.false_and]
theorem sub2 (x : Int32) (a b : Nat) : x - nI a - nI b = x - nI (a + b) := by
  rw [← nI_add, Int32.sub_eq_add_neg, Int32.sub_eq_add_neg, Int32.sub_eq_add_neg, Int32.neg_add, Int32.add_assoc, Int32.sub_eq_add_neg]
theorem half : ∀ t, t < 64 → nI t >>> ((1 : Int32) &&& 31) = nI (t / 2) := by decide +kernel
theorem low1 : ∀ t, t < 64 → nI t &&& 1 = nI (t % 2) := by decide +kernel
theorem pcN_half {t : Nat} (h : t < 64) : pcN t = t % 2 + pcN (t / 2) := by
  unfold pcN
  omega
theorem dec_inc {a : Nat} (h : 1 ≤ a) : nI (a - 1) + 1 = nI a := by
  rw [nI_1]
  congr 1
  omega
