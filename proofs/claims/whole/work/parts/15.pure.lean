/-! rows of numbers: orders, places, the longest ways -/
def injOn (o : Nat → Nat) (n : Nat) : Prop := ∀ i j, i < n → j < n → o i = o j → i = j
def isPm (o : Nat → Nat) (n : Nat) : Prop := (∀ i, i < n → o i < n) ∧ injOn o n ∧ ∀ a, a < n → ∃ k, k < n ∧ o k = a
def inv (o : Nat → Nat) (n a : Nat) : Nat := ((List.range n).find? (fun k => o k == a)).getD 0
theorem inv_at {o : Nat → Nat} {n k : Nat} (h : injOn o n) (hk : k < n) : inv o n (o k) = k := by
  unfold inv
  cases hf : (List.range n).find? (fun j => o j == o k) with
  | none =>
    have := List.find?_eq_none.mp hf k (List.mem_range.mpr hk)
    simp at this
  | some j =>
    have h1 := List.find?_some hf
    have h2 := List.mem_of_find?_eq_some hf
    rw [List.mem_range] at h2
    have h3 : o j = o k := by simpa using h1
    exact h j k h2 hk h3
theorem inv_lt {o : Nat → Nat} {n a : Nat} (h : isPm o n) (ha : a < n) : inv o n a < n := by
  obtain ⟨k, hk, rfl⟩ := h.2.2 a ha
  rw [inv_at h.2.1 hk]
  exact hk
theorem inv_o {o : Nat → Nat} {n a : Nat} (h : isPm o n) (ha : a < n) : o (inv o n a) = a := by
  obtain ⟨k, hk, rfl⟩ := h.2.2 a ha
  rw [inv_at h.2.1 hk]
theorem inv_inj {o : Nat → Nat} {n a b : Nat} (h : isPm o n) (ha : a < n) (hb : b < n) (e : inv o n a = inv o n b) : a = b := by
  rw [← inv_o h ha, e, inv_o h hb]
theorem find_congr {l : List Nat} {p q : Nat → Bool} (h : ∀ a ∈ l, p a = q a) : l.find? p = l.find? q := by
  induction l with
  | nil => rfl
  | cons a l ih => simp only [List.find?_cons, h a List.mem_cons_self, ih (fun b hb => h b (List.mem_cons_of_mem _ hb))]
theorem inv_congr {o o' : Nat → Nat} {n : Nat} (a : Nat) (h : ∀ i, i < n → o i = o' i) : inv o n a = inv o' n a := by
  unfold inv
  congr 1
  apply find_congr
  intro k hk
  rw [List.mem_range] at hk
  rw [h k hk]
/-- the greatest of what those ahead reach -/
def mF (c : Nat → Nat → Bool) (w o x : Nat → Nat) (a : Nat) : Nat → Nat
  | 0 => 0
  | q + 1 => if c (o q) a then max (mF c w o x a q) (x (o q) + w (o q)) else mF c w o x a q
/-- where each begins, when k of the order are laid -/
def tT (c : Nat → Nat → Bool) (w o : Nat → Nat) : Nat → Nat → Nat
  | 0 => fun _ => 0
  | k + 1 => fun a => if a = o k then mF c w o (tT c w o k) (o k) k else tT c w o k a
def brF (w o x : Nat → Nat) : Nat → Nat
  | 0 => 0
  | k + 1 => max (brF w o x k) (x (o k) + w (o k))
theorem mF_congr {c c' : Nat → Nat → Bool} {w w' o o' x x' : Nat → Nat} {a a' : Nat} (k : Nat) (hc : ∀ q, q < k → c (o q) a = c' (o' q) a') (hx : ∀ q, q < k → x (o q) + w (o q) = x' (o' q) + w' (o' q)) : mF c w o x a k = mF c' w' o' x' a' k := by
  induction k with
  | zero => rfl
  | succ k ih =>
    unfold mF
    rw [ih (fun q hq => hc q (by omega)) (fun q hq => hx q (by omega)), hc k (by omega), hx k (by omega)]
theorem tT_step {c : Nat → Nat → Bool} {w o : Nat → Nat} {n : Nat} (h : injOn o n) {k : Nat} (hk : k < n) : ∀ m, k < m → m ≤ n → tT c w o m (o k) = mF c w o (tT c w o k) (o k) k := by
  intro m
  induction m with
  | zero => intro h1; omega
  | succ m ih =>
    intro h1 h2
    show (if o k = o m then mF c w o (tT c w o m) (o m) m else tT c w o m (o k)) = _
    by_cases e : k = m
    · subst e
      rw [if_pos rfl]
    · rw [if_neg (fun q => e (h k m hk (by omega) q)), ih (by omega) (by omega)]
/-- what is laid stays: the row at its end -/
theorem tT_eq {c : Nat → Nat → Bool} {w o : Nat → Nat} {n : Nat} (h : injOn o n) {k : Nat} (hk : k < n) : tT c w o n (o k) = mF c w o (tT c w o n) (o k) k := by
  rw [tT_step h hk n hk (Nat.le_refl n)]
  apply mF_congr
  · intro q hq; rfl
  · intro q hq
    rw [tT_step h (k := q) (by omega) n (by omega) (Nat.le_refl n), tT_step h (k := q) (by omega) k hq (by omega)]
theorem mF_le {c : Nat → Nat → Bool} {w o x : Nat → Nat} {a B : Nat} (k : Nat) (hx : ∀ q, q < k → x (o q) + w (o q) ≤ B) : mF c w o x a k ≤ B := by
  induction k with
  | zero => exact Nat.zero_le _
  | succ k ih =>
    unfold mF
    have h1 := ih (fun q hq => hx q (by omega))
    have h2 := hx k (by omega)
    split
    · exact Nat.max_le.mpr ⟨h1, h2⟩
    · exact h1
theorem tT_le {c : Nat → Nat → Bool} {w o : Nat → Nat} {n B : Nat} (h : injOn o n) (hw : ∀ q, q < n → w (o q) ≤ B) : ∀ k, k < n → tT c w o n (o k) ≤ k * B := by
  intro k
  induction k using Nat.strongRecOn with
  | ind k ih =>
    intro hk
    rw [tT_eq h hk]
    refine mF_le k (fun q hq => ?_)
    have h1 := ih q hq (by omega)
    have h2 := hw q (by omega)
    have h3 : (q + 1) * B ≤ k * B := Nat.mul_le_mul_right B (by omega)
    have h4 : (q + 1) * B = q * B + B := by rw [Nat.add_mul, Nat.one_mul]
    omega
theorem brF_congr {w w' o o' x x' : Nat → Nat} (k : Nat) (hx : ∀ q, q < k → x (o q) + w (o q) = x' (o' q) + w' (o' q)) : brF w o x k = brF w' o' x' k := by
  induction k with
  | zero => rfl
  | succ k ih =>
    unfold brF
    rw [ih (fun q hq => hx q (by omega)), hx k (by omega)]
theorem brF_le {w o x : Nat → Nat} {B : Nat} (k : Nat) (hx : ∀ q, q < k → x (o q) + w (o q) ≤ B) : brF w o x k ≤ B := by
  induction k with
  | zero => exact Nat.zero_le _
  | succ k ih =>
    unfold brF
    exact Nat.max_le.mpr ⟨ih (fun q hq => hx q (by omega)), hx k (by omega)⟩
/-! a picture: p 0 0 areas; p 1 kinds, p 2 plots, p 3 widths, p 6 and p 7 the orders -/
abbrev Pic : Type := Nat → Nat → Nat
abbrev pn (p : Pic) : Nat := p 0 0
def szF (p : Pic) (a : Nat) : Nat := if p 1 a = 2 then 2 * p 2 a else if p 1 a = 1 then p 2 a + 1 else p 2 a
def hgF (p : Pic) (a : Nat) : Nat := (szF p a + p 3 a - 1) / p 3 a
/-- a's place in order 0, 1 -/
def p0F (p : Pic) (a : Nat) : Nat := inv (p 6) (pn p) a
def p1F (p : Pic) (a : Nat) : Nat := inv (p 7) (pn p) a
def cX (p : Pic) : Nat → Nat → Bool := fun b a => decide (p1F p b < p1F p a)
def cY (p : Pic) : Nat → Nat → Bool := fun b a => decide (p1F p a < p1F p b)
def xF (p : Pic) : Nat → Nat := tT (cX p) (p 3) (p 6) (pn p)
def yF (p : Pic) : Nat → Nat := tT (cY p) (hgF p) (p 6) (pn p)
def brP (p : Pic) : Nat := brF (p 3) (p 6) (xF p) (pn p)
def dpP (p : Pic) : Nat := brF (hgF p) (p 6) (yF p) (pn p)
/-- the numbers are as they must be -/
def PicOk (p : Pic) : Prop := pn p ≤ 6 ∧ (∀ i, i < pn p → p 1 i < 3 ∧ p 2 i ≤ 9 ∧ p 3 i ≤ 9) ∧ isPm (p 6) (pn p) ∧ isPm (p 7) (pn p)
theorem hgF_le {p : Pic} (h : PicOk p) {a : Nat} (ha : a < pn p) : hgF p a ≤ 18 := by
  obtain ⟨h1, h2, h3⟩ := h.2.1 a ha
  have hs : szF p a ≤ 18 := by unfold szF; split <;> (try split) <;> omega
  unfold hgF
  rcases Nat.eq_zero_or_pos (p 3 a) with e | e
  · rw [e, Nat.div_zero]; omega
  · apply Nat.div_le_of_le_mul
    have : 18 * 1 ≤ 18 * p 3 a := Nat.mul_le_mul_left 18 e
    have h9 : p 3 a * 18 = 17 * p 3 a + p 3 a := by omega
    omega
theorem xF_le {p : Pic} (h : PicOk p) {a : Nat} (ha : a < pn p) : xF p a ≤ 54 := by
  obtain ⟨k, hk, rfl⟩ := h.2.2.1.2.2 a ha
  have h1 := tT_le (c := cX p) (w := p 3) (o := p 6) (B := 9) h.2.2.1.2.1 (fun q hq => (h.2.1 _ (h.2.2.1.1 q hq)).2.2) k hk
  have h2 := h.1
  unfold xF
  omega
theorem yF_le {p : Pic} (h : PicOk p) {a : Nat} (ha : a < pn p) : yF p a ≤ 108 := by
  obtain ⟨k, hk, rfl⟩ := h.2.2.1.2.2 a ha
  have h1 := tT_le (c := cY p) (w := hgF p) (o := p 6) (B := 18) h.2.2.1.2.1 (fun q hq => hgF_le h (h.2.2.1.1 q hq)) k hk
  have h2 := h.1
  unfold yF
  omega
theorem brP_le {p : Pic} (h : PicOk p) : brP p ≤ 63 := brF_le _ (fun q hq => by
  have h0 := h.2.2.1.1 q hq
  have h1 := xF_le h h0
  have h2 := (h.2.1 _ h0).2.2
  omega)
theorem dpP_le {p : Pic} (h : PicOk p) : dpP p ≤ 126 := brF_le _ (fun q hq => by
  have h0 := h.2.2.1.1 q hq
  have h1 := yF_le h h0
  have h2 := hgF_le h h0
  omega)
theorem mxN {a b : Nat} (ha : a < 2 ^ 31) (hb : b < 2 ^ 31) : (if nI a < nI b then nI b else nI a) = nI (max a b) := by
  by_cases h : a < b
  · rw [if_pos ((nI_ltI ha hb).mpr h), Nat.max_eq_right (by omega)]
  · rw [if_neg (fun q => h ((nI_ltI ha hb).mp q)), Nat.max_eq_left (by omega)]
