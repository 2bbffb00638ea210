def alF (c : Nat → Int32) (a n : Nat) : Nat → Bool
  | 0 => true
  | q + 1 => alF c a n q && inN (c (a + q)) (nI n)
theorem al_no {c : Nat → Int32} {a n q : Nat} (h : inN (c (a + q)) (nI n) = false) : ∀ m, q < m → alF c a n m = false := by
  intro m
  induction m with
  | zero => intro z; omega
  | succ m ih =>
    intro hq
    show (alF c a n m && inN (c (a + m)) (nI n)) = false
    by_cases e : q = m
    · subst e; rw [h, Bool.and_false]
    · rw [ih (by omega), Bool.false_and]
theorem al_at {c : Nat → Int32} {a n : Nat} : ∀ m, alF c a n m = true → ∀ q, q < m → inN (c (a + q)) (nI n) = true := by
  intro m
  induction m with
  | zero => intro _ q h; omega
  | succ m ih =>
    intro h q hq
    have h2 : (alF c a n m && inN (c (a + m)) (nI n)) = true := h
    rw [Bool.and_eq_true] at h2
    by_cases e : q = m
    · subst e; exact h2.2
    · exact ih h2.1 q (by omega)
def wiF (p : Pic) (c : Nat → Int32) (a : Nat) : Nat → Nat
  | 0 => 0
  | w + 1 => wiF p c a w + (if tchF p (cl (c (a + 2 * w))) (cl (c (a + 2 * w + 1))) = true then 1 else 0)
theorem wi_le (p : Pic) (c : Nat → Int32) (a : Nat) (w : Nat) : wiF p c a w ≤ w := by
  induction w with
  | zero => exact Nat.le_refl _
  | succ w ih => show wiF p c a w + (if _ then 1 else 0) ≤ w + 1; split <;> omega
def fWish (g : Gh) (k l i n : Int32) : Int32 × Gh := if inN k 4 = true then (if inR l 0 2 = true ∧ inR n 0 20 = true then (if agF (shk g k) l i (2 * n) = 0 then (if pn g.1 = 0 then (-3, wFt g 0) else if alF (shk g k).2.2.2 (cl i) (pn g.1) (2 * cl n) = true then (nI (wiF g.1 (shk g k).2.2.2 (cl i) (cl n)), wFt g 0) else (-1, wFt g 0)) else (-10 - agF (shk g k) l i (2 * n), wFt g (agF (shk g k) l i (2 * n)))) else (-2, wFt g 0)) else (-1, wFt g 0)
theorem hc_n {m : Nat} {i : Int32} {b : Nat} (hm : m ≤ 60) (hb : b < 2 ^ 31) (h : hcF m i (nI b) = true) : ∃ a, a + b ≤ m ∧ i = nI a := by
  obtain ⟨a, b2, h1, h2, h3⟩ := hc_nat hm h
  have : b = b2 := (nI_eq hb (by omega)).mp h3
  exact ⟨a, by omega, h2⟩
