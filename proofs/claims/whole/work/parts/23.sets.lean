/-! sets as numbers -/
def setF (c : Nat → Bool) : Nat → Nat
  | 0 => 0
  | k + 1 => setF c k + (if c k then 2 ^ k else 0)
theorem setF_lt (c : Nat → Bool) (k : Nat) : setF c k < 2 ^ k := by
  induction k with
  | zero => exact Nat.one_pos
  | succ k ih =>
    show setF c k + (if c k then 2 ^ k else 0) < 2 ^ (k + 1)
    rw [Nat.pow_succ]
    split <;> omega
theorem setF_congr {c c' : Nat → Bool} {k : Nat} (h : ∀ i, i < k → c i = c' i) : setF c k = setF c' k := by
  induction k with
  | zero => rfl
  | succ k ih =>
    show setF c k + (if c k then 2 ^ k else 0) = setF c' k + (if c' k then 2 ^ k else 0)
    rw [ih (fun i hi => h i (by omega)), h k (by omega)]
theorem setF_64 (c : Nat → Bool) {k : Nat} (h : k ≤ 6) : setF c k < 64 := by
  have h1 := setF_lt c k
  have h2 : 2 ^ k ≤ 2 ^ 6 := Nat.pow_le_pow_right (by decide) h
  omega
theorem orSh : ∀ b, b < 10 → ∀ s, s < 2 ^ b → nI s ||| ((1 : Int32) <<< (nI b &&& 31)) = nI (s + 2 ^ b) := by decide +kernel
theorem or0 (s : Nat) : nI s ||| (0 : Int32) = nI s := Int32.or_zero
theorem orC (c : Nat → Bool) {b : Nat} (hb : b < 10) (h : c b = true) : nI (setF c b) ||| ((1 : Int32) <<< (nI b &&& 31)) = nI (setF c (b + 1)) := by
  rw [orSh b hb _ (setF_lt c b)]
  show _ = nI (setF c b + (if c b then 2 ^ b else 0))
  rw [if_pos h]
theorem setF_no {c : Nat → Bool} {b : Nat} (h : c b = false) : setF c (b + 1) = setF c b := by
  show setF c b + (if c b then 2 ^ b else 0) = _
  rw [h]
  rfl
theorem setF_yes {c : Nat → Bool} {b : Nat} (h : c b = true) : setF c (b + 1) = setF c b + 2 ^ b := by
  show setF c b + (if c b then 2 ^ b else 0) = _
  rw [h]
  rfl
theorem bitAt : ∀ s, s < 64 → ∀ a, a < 6 → (nI s >>> (nI a &&& 31)) &&& 1 = nI (s / 2 ^ a % 2) := by decide +kernel
theorem bitAll : ∀ a, a < 6 → ((-1 : Int32) >>> (nI a &&& 31)) &&& 1 = 1 := by decide +kernel
theorem setF_bit (c : Nat → Bool) : ∀ k a, a < k → setF c k / 2 ^ a % 2 = if c a then 1 else 0 := by
  intro k
  induction k with
  | zero => intro a h; omega
  | succ k ih =>
    intro a ha
    have hlt := setF_lt c k
    show (setF c k + (if c k then 2 ^ k else 0)) / 2 ^ a % 2 = _
    by_cases e : a = k
    · subst e
      by_cases h : c a = true
      · rw [if_pos h, if_pos h, Nat.add_div_right _ (Nat.two_pow_pos a), Nat.div_eq_of_lt hlt]
      · rw [if_neg h, if_neg h, Nat.add_zero, Nat.div_eq_of_lt hlt]
    · by_cases h : c k = true
      · rw [if_pos h]
        have e2 : 2 ^ k = 2 ^ a * (2 * 2 ^ (k - a - 1)) := by
          rw [← Nat.pow_succ', ← Nat.pow_add]
          congr 1
          omega
        rw [e2, Nat.add_mul_div_left _ _ (Nat.two_pow_pos a), Nat.add_mul_mod_self_left]
        exact ih a (by omega)
      · rw [if_neg h, Nat.add_zero]
        exact ih a (by omega)
theorem setF_at (c : Nat → Bool) {n a : Nat} (hn : n ≤ 6) (ha : a < n) : (nI (setF c n) >>> (nI a &&& 31)) &&& 1 = bI (c a) := by
  rw [bitAt _ (setF_64 c hn) a (by omega), setF_bit c n a ha]
  cases c a <;> rfl
/-- how many are in a set of at most six -/
def pcN (s : Nat) : Nat := s % 2 + s / 2 % 2 + s / 4 % 2 + s / 8 % 2 + s / 16 % 2 + s / 32 % 2
theorem pcN_le (s : Nat) : pcN s ≤ 6 := by unfold pcN; omega
/-! two that meet -/
def meetN (a la b lb : Nat) : Bool := decide (a + la = b) || decide (b + lb = a)
def shareN (a la b lb : Nat) : Bool := decide (a < b + lb) && decide (b < a + la)
def tchF (p : Pic) (a b : Nat) : Bool := meetN (xF p a) (p 3 a) (xF p b) (p 3 b) && shareN (yF p a) (hgF p a) (yF p b) (hgF p b) || meetN (yF p a) (hgF p a) (yF p b) (hgF p b) && shareN (xF p a) (p 3 a) (xF p b) (p 3 b)
def twosF (p : Pic) : Nat → Nat
  | 0 => 0
  | k + 1 => twosF p k + pcN (setF (tchF p k) (pn p))
theorem twosF_le (p : Pic) (k : Nat) : twosF p k ≤ 6 * k := by
  induction k with
  | zero => exact Nat.le_refl _
  | succ k ih =>
    show twosF p k + pcN (setF (tchF p k) (pn p)) ≤ _
    have := pcN_le (setF (tchF p k) (pn p))
    omega
def usedF (p : Pic) : Nat → Nat
  | 0 => 0
  | k + 1 => usedF p k + p 3 k * hgF p k
/-- one place of a picture written -/
def upP (p : Pic) (j a v : Nat) : Pic := fun i => if i = j then (fun k => if k = a then v else p j k) else p i
theorem upP_row {p : Pic} {j a v i : Nat} (h : i ≠ j) : upP p j a v i = p i := if_neg h
theorem upP_self (p : Pic) (j a v : Nat) : upP p j a v j a = v := by unfold upP; rw [if_pos rfl]; exact if_pos rfl
theorem upP_ne {p : Pic} {j a v k : Nat} (h : k ≠ a) : upP p j a v j k = p j k := by unfold upP; rw [if_pos rfl]; exact if_neg h
def dcP (p : Pic) (a : Nat) : Pic := upP p 3 a (p 3 a - 1)
def crF (p : Pic) (a : Nat) : Bool := decide (brP (dcP p a) < brP p)
/-- the widest of a set, above 1, of several the least number -/
def wsb (w : Nat → Nat) (k : Nat) (r : Option Nat) : Bool := match r with
  | none => true
  | some a => decide (w a < w k)
def wsO (c : Nat → Bool) (w : Nat → Nat) : Nat → Option Nat
  | 0 => none
  | k + 1 => if (c k && decide (1 < w k) && wsb w k (wsO c w k)) = true then some k else wsO c w k
theorem wsO_yes {c : Nat → Bool} {w : Nat → Nat} {k : Nat} (h1 : c k = true) (h2 : 1 < w k) (h3 : wsb w k (wsO c w k) = true) : wsO c w (k + 1) = some k := if_pos (by simp [h1, h2, h3])
theorem wsO_no {c : Nat → Bool} {w : Nat → Nat} {k : Nat} (h : ¬ (c k = true ∧ 1 < w k ∧ wsb w k (wsO c w k) = true)) : wsO c w (k + 1) = wsO c w k := if_neg (by simp only [Bool.and_eq_true, decide_eq_true_eq]; exact fun q => h ⟨q.1.1, q.1.2, q.2⟩)
/-- as a number: none is e -/
def oI (e : Int32) (r : Option Nat) : Int32 := match r with
  | none => e
  | some a => nI a
theorem wsO_lt {c : Nat → Bool} {w : Nat → Nat} {k a : Nat} (h : wsO c w k = some a) : a < k ∧ 1 < w a ∧ c a = true := by
  induction k with
  | zero => cases h
  | succ k ih =>
    by_cases hc : c k = true ∧ 1 < w k ∧ wsb w k (wsO c w k) = true
    · rw [wsO_yes hc.1 hc.2.1 hc.2.2] at h
      cases h
      exact ⟨by omega, hc.2.1, hc.1⟩
    · rw [wsO_no hc] at h
      obtain ⟨h1, h2⟩ := ih h
      exact ⟨by omega, h2⟩
def nxO (p : Pic) : Option Nat := match wsO (crF p) (p 3) (pn p) with
  | some a => some a
  | none => wsO (fun _ => true) (p 3) (pn p)
theorem PicOk.wd {p : Pic} (h : PicOk p) {a v : Nat} (hv : v ≤ 9) : PicOk (upP p 3 a v) := by
  refine ⟨h.1, fun i hi => ⟨(h.2.1 i hi).1, (h.2.1 i hi).2.1, ?_⟩, h.2.2⟩
  by_cases e : i = a
  · subst e; rw [upP_self]; exact hv
  · rw [upP_ne e]; exact (h.2.1 i hi).2.2
theorem PicOk.pl {p : Pic} (h : PicOk p) {a v : Nat} (hv : v ≤ 9) : PicOk (upP p 2 a v) := by
  refine ⟨h.1, fun i hi => ⟨(h.2.1 i hi).1, ?_, (h.2.1 i hi).2.2⟩, h.2.2⟩
  by_cases e : i = a
  · subst e; rw [upP_self]; exact hv
  · rw [upP_ne e]; exact (h.2.1 i hi).2.1
theorem PicOk.kd {p : Pic} (h : PicOk p) {a v : Nat} (hv : v < 3) : PicOk (upP p 1 a v) := by
  refine ⟨h.1, fun i hi => ⟨?_, (h.2.1 i hi).2⟩, h.2.2⟩
  by_cases e : i = a
  · subst e; rw [upP_self]; exact hv
  · rw [upP_ne e]; exact (h.2.1 i hi).1
