/-! the next order -/
def swF (o : Nat → Nat) (i j : Nat) : Nat → Nat := fun x => if x = j then o i else if x = i then o j else o x
def kf (o : Nat → Nat) : Nat → Option Nat
  | 0 => none
  | k + 1 => if o (k + 1) < o k then kf o k else some k
def jf (o : Nat → Nat) (k : Nat) : Nat → Nat
  | 0 => 0
  | j + 1 => if k + 1 < j + 1 ∧ o (j + 1) < o k then jf o k j else j + 1
def rvF : Nat → (Nat → Nat) → Nat → Nat → Nat → Nat
  | 0, o, _, _ => o
  | m + 1, o, f, l => if f < l then rvF m (swF o f l) (f + 1) (l - 1) else o
def nextP (n : Nat) (o : Nat → Nat) : Nat → Nat := match kf o (n - 1) with
  | none => o
  | some k => rvF n (swF o k (jf o k (n - 1))) (k + 1) (n - 1)
theorem swF_lt {o : Nat → Nat} {i j n x B : Nat} (h : ∀ y, y < n → o y < B) (hi : i < n) (hj : j < n) (hx : x < n) : swF o i j x < B := by
  unfold swF
  split
  · exact h i hi
  · split
    · exact h j hj
    · exact h x hx
theorem isPm_sw {o : Nat → Nat} {n i j : Nat} (h : isPm o n) (hi : i < n) (hj : j < n) : isPm (swF o i j) n := by
  obtain ⟨h1, h2, h3⟩ := h
  refine ⟨fun x hx => swF_lt h1 hi hj hx, fun a b ha hb e => ?_, fun a ha => ?_⟩
  · unfold swF at e
    split at e <;> split at e <;> (try split at e) <;> (try split at e) <;> rename_i hh <;> first | omega | (have z := h2 _ _ (by assumption) (by assumption) e; omega)
  · obtain ⟨k, hk, rfl⟩ := h3 a ha
    by_cases e1 : k = i
    · refine ⟨j, hj, ?_⟩; unfold swF; rw [if_pos rfl, e1]
    · by_cases e2 : k = j
      · refine ⟨i, hi, ?_⟩; unfold swF
        by_cases e3 : i = j
        · omega
        · rw [if_neg e3, if_pos rfl, e2]
      · refine ⟨k, hk, ?_⟩; unfold swF; rw [if_neg e2, if_neg e1]
theorem kf_lt {o : Nat → Nat} {t k : Nat} (h : kf o t = some k) : k < t := by
  induction t with
  | zero => cases h
  | succ t ih =>
    unfold kf at h
    split at h
    · have := ih h; omega
    · cases h; omega
theorem kf_up {o : Nat → Nat} {t k : Nat} (h : kf o t = some k) : ¬ o (k + 1) < o k := by
  induction t with
  | zero => cases h
  | succ t ih =>
    unfold kf at h
    split at h
    · exact ih h
    · cases h; assumption
theorem jf_stop {o : Nat → Nat} {k j : Nat} (h0 : 1 ≤ j) (h : j ≤ k + 1 ∨ o k ≤ o j) : jf o k j = j := by
  obtain ⟨i, rfl⟩ : ∃ i, j = i + 1 := ⟨j - 1, by omega⟩
  show (if _ then _ else _) = _
  rw [if_neg (by omega)]
theorem jf_go {o : Nat → Nat} {k j : Nat} (h1 : k + 1 < j) (h2 : o j < o k) : jf o k j = jf o k (j - 1) := by
  obtain ⟨i, rfl⟩ : ∃ i, j = i + 1 := ⟨j - 1, by omega⟩
  show (if _ then _ else _) = _
  rw [if_pos ⟨h1, h2⟩]
  rfl
theorem jf_in {o : Nat → Nat} {k : Nat} : ∀ j, k + 1 ≤ j → k + 1 ≤ jf o k j ∧ jf o k j ≤ j := by
  intro j
  induction j with
  | zero => intro h; omega
  | succ j ih =>
    intro h
    by_cases c : k + 1 < j + 1 ∧ o (j + 1) < o k
    · rw [jf_go c.1 c.2]
      have := ih (by omega)
      rw [Nat.add_sub_cancel]
      omega
    · rw [jf_stop (by omega) (by omega)]
      omega
theorem rv_stop {m : Nat} {o : Nat → Nat} {f l : Nat} (h : ¬ f < l) : rvF m o f l = o := by
  cases m with
  | zero => rfl
  | succ m => show (if _ then _ else _) = _; rw [if_neg h]
theorem rv_go {m : Nat} {o : Nat → Nat} {f l : Nat} (h : f < l) : rvF (m + 1) o f l = rvF m (swF o f l) (f + 1) (l - 1) := by
  show (if _ then _ else _) = _
  rw [if_pos h]
theorem isPm_rv {n : Nat} : ∀ m (o : Nat → Nat) f l, isPm o n → l < n → isPm (rvF m o f l) n := by
  intro m
  induction m with
  | zero => intro o f l h _; exact h
  | succ m ih =>
    intro o f l h hl
    by_cases c : f < l
    · rw [rv_go c]
      exact ih _ _ _ (isPm_sw h (by omega) hl) (by omega)
    · rw [rv_stop c]; exact h
theorem isPm_next {n : Nat} {o : Nat → Nat} (h : isPm o n) : isPm (nextP n o) n := by
  unfold nextP
  cases e : kf o (n - 1) with
  | none => exact h
  | some k =>
    have h1 := kf_lt e
    have h2 := jf_in (o := o) (k := k) (n - 1) (by omega)
    exact isPm_rv _ _ _ _ (isPm_sw h (by omega) (by omega)) (by omega)
/-- a number less 1 -/
def dI (t : Nat) : Int32 := nI t - 1
theorem dI_0 : dI 0 < 0 := by decide
theorem dI_s (s : Nat) : dI (s + 1) = nI s := nI_pred s
theorem dI_m (s : Nat) : nI s + Int32.ofInt (-1) = dI s := by unfold dI; rw [Int32.sub_eq_add_neg]; rfl
theorem dI_2 {n : Nat} (h : 1 ≤ n) : nI n - 2 = dI (n - 1) := by
  obtain ⟨k, rfl⟩ : ∃ k, n = k + 1 := ⟨n - 1, by omega⟩
  rw [Nat.add_sub_cancel]
  unfold dI
  rw [nI_succ, show (2 : Int32) = 1 + 1 from rfl, Int32.sub_eq_add_neg, Int32.sub_eq_add_neg, Int32.neg_add, Int32.add_assoc]
  congr 1
/-- two places of a row changed about -/
theorem sw_row {u : Mm} {k i j n : Nat} {o : Nat → Nat} (h : ∀ x, x < n → u k x = nI (o x)) (hi : i < n) (hj : j < n) : ∀ x, x < n → s2 (s2 u k i (u k j)) k j (u k i) k x = nI (swF o i j x) := by
  intro x hx
  unfold swF
  by_cases e1 : x = j
  · subst e1; rw [s2_self, if_pos rfl]; exact h i hi
  · rw [s2_ne e1, if_neg e1]
    by_cases e2 : x = i
    · subst e2; rw [s2_self, if_pos rfl]; exact h j hj
    · rw [s2_ne e2, if_neg e2]; exact h x hx
