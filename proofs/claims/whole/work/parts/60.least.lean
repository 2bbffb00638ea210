/-! all second orders, one behind another -/
theorem kf_congr {o o' : Nat → Nat} {n : Nat} (h : ∀ i, i < n → o i = o' i) : ∀ t, t < n → kf o t = kf o' t := by
  intro t
  induction t with
  | zero => intro _; rfl
  | succ t ih =>
    intro ht
    show (if o (t + 1) < o t then kf o t else some t) = (if o' (t + 1) < o' t then kf o' t else some t)
    rw [h (t + 1) ht, h t (by omega), ih (by omega)]
theorem jf_congr {o o' : Nat → Nat} {n k : Nat} (h : ∀ i, i < n → o i = o' i) (hk : k < n) : ∀ j, j < n → jf o k j = jf o' k j := by
  intro j
  induction j with
  | zero => intro _; rfl
  | succ j ih =>
    intro hj
    show (if k + 1 < j + 1 ∧ o (j + 1) < o k then jf o k j else j + 1) = (if k + 1 < j + 1 ∧ o' (j + 1) < o' k then jf o' k j else j + 1)
    rw [h (j + 1) hj, h k hk, ih (by omega)]
theorem sw_congr {o o' : Nat → Nat} {n i j : Nat} (h : ∀ i, i < n → o i = o' i) (hi : i < n) (hj : j < n) : ∀ x, x < n → swF o i j x = swF o' i j x := by
  intro x hx
  unfold swF
  rw [h i hi, h j hj, h x hx]
theorem rv_congr {n : Nat} : ∀ m (o o' : Nat → Nat) f l, (∀ i, i < n → o i = o' i) → l < n → ∀ x, x < n → rvF m o f l x = rvF m o' f l x := by
  intro m
  induction m with
  | zero => intro o o' f l h _ x hx; exact h x hx
  | succ m ih =>
    intro o o' f l h hl x hx
    by_cases c : f < l
    · rw [rv_go c, rv_go c]
      exact ih _ _ _ _ (sw_congr h (by omega) hl) (by omega) x hx
    · rw [rv_stop c, rv_stop c]; exact h x hx
theorem next_congr {o o' : Nat → Nat} {n : Nat} (hn : 1 ≤ n) (h : ∀ i, i < n → o i = o' i) : ∀ x, x < n → nextP n o x = nextP n o' x := by
  intro x hx
  unfold nextP
  rw [kf_congr h (n - 1) (by omega)]
  cases e : kf o' (n - 1) with
  | none => exact h x hx
  | some k =>
    have h1 := kf_lt e
    have h2 := jf_in (o := o') (k := k) (n - 1) (by omega)
    show rvF n (swF o k (jf o k (n - 1))) (k + 1) (n - 1) x = rvF n (swF o' k (jf o' k (n - 1))) (k + 1) (n - 1) x
    rw [jf_congr h (by omega) (n - 1) (by omega)]
    exact rv_congr n _ _ _ _ (sw_congr h (by omega) (by omega)) (by omega) x hx
def od (n : Nat) : Nat → Nat → Nat
  | 0 => fun i => i
  | t + 1 => nextP n (od n t)
theorem isPm_id (n : Nat) : isPm (fun i => i) n := ⟨fun _ h => h, fun _ _ _ _ e => e, fun a h => ⟨a, h, rfl⟩⟩
theorem od_pm (n : Nat) : ∀ t, isPm (od n t) n := by
  intro t
  induction t with
  | zero => exact isPm_id n
  | succ t ih => exact isPm_next ih
def dcN (c i : Nat) : Nat := c / 8 ^ i % 8
def enN (o : Nat → Nat) : Nat → Nat
  | 0 => 0
  | n + 1 => enN o n + o n * 8 ^ n
theorem enN_lt {o : Nat → Nat} {n : Nat} (h : ∀ i, i < n → o i < 8) : ∀ k, k ≤ n → enN o k < 8 ^ k := by
  intro k
  induction k with
  | zero => intro _; exact Nat.one_pos
  | succ k ih =>
    intro hk
    have h1 := ih (by omega)
    have h2 := h k (by omega)
    show enN o k + o k * 8 ^ k < 8 ^ (k + 1)
    have h3 : o k * 8 ^ k ≤ 7 * 8 ^ k := Nat.mul_le_mul_right _ (by omega)
    rw [Nat.pow_succ]
    omega
theorem dc_en {o : Nat → Nat} {n : Nat} (h : ∀ i, i < n → o i < 8) : ∀ k, k ≤ n → ∀ i, i < k → dcN (enN o k) i = o i := by
  intro k
  induction k with
  | zero => intro _ i hi; omega
  | succ k ih =>
    intro hk i hi
    have hlt := enN_lt h k (by omega)
    show (enN o k + o k * 8 ^ k) / 8 ^ i % 8 = o i
    have hpos : 0 < 8 ^ i := Nat.pow_pos (by decide)
    by_cases e : i = k
    · subst e
      rw [Nat.add_mul_div_right _ _ hpos, Nat.div_eq_of_lt hlt, Nat.zero_add]
      exact Nat.mod_eq_of_lt (h i (by omega))
    · have e2 : o k * 8 ^ k = 8 ^ i * (8 * (o k * 8 ^ (k - i - 1))) := by
        have e3 : 8 ^ k = 8 ^ i * (8 * 8 ^ (k - i - 1)) := by
          rw [← Nat.pow_succ', ← Nat.pow_add]
          congr 1
          omega
        rw [e3, Nat.mul_left_comm (o k), Nat.mul_left_comm (o k)]
      rw [e2, Nat.add_mul_div_left _ _ hpos, Nat.add_mul_mod_self_left]
      exact ih (by omega) i (by omega)
def chk (n : Nat) : Nat → Nat → Bool
  | 0, c => (kf (dcN c) (n - 1)).isNone
  | m + 1, c => (kf (dcN c) (n - 1)).isSome && (match enN (nextP n (dcN c)) n with
    | 0 => chk n m 0
    | k + 1 => chk n m (k + 1))
theorem chk_s (n m c : Nat) : chk n (m + 1) c = ((kf (dcN c) (n - 1)).isSome && chk n m (enN (nextP n (dcN c)) n)) := by
  show ((kf (dcN c) (n - 1)).isSome && (match enN (nextP n (dcN c)) n with | 0 => chk n m 0 | k + 1 => chk n m (k + 1))) = _
  congr 1
  cases enN (nextP n (dcN c)) n <;> rfl
theorem chk_spec {n : Nat} (hn : 1 ≤ n) (h8 : n ≤ 8) : ∀ m c s, (∀ i, i < n → dcN c i = od n s i) → chk n m c = true → (∀ t, t < m → (kf (od n (s + t)) (n - 1)).isSome = true) ∧ kf (od n (s + m)) (n - 1) = none := by
  intro m
  induction m with
  | zero =>
    intro c s h hc
    refine ⟨fun t ht => by omega, ?_⟩
    have h1 : (kf (dcN c) (n - 1)).isNone = true := hc
    rw [kf_congr h (n - 1) (by omega)] at h1
    exact Option.isNone_iff_eq_none.mp h1
  | succ m ih =>
    intro c s h hc
    rw [chk_s, Bool.and_eq_true] at hc
    obtain ⟨h1, h2⟩ := hc
    rw [kf_congr h (n - 1) (by omega)] at h1
    have hpm := od_pm n (s + 1)
    have hnx : ∀ i, i < n → nextP n (dcN c) i = od n (s + 1) i := next_congr hn h
    have hen : ∀ i, i < n → dcN (enN (nextP n (dcN c)) n) i = od n (s + 1) i := fun i hi => by
      rw [dc_en (n := n) (fun j hj => by rw [hnx j hj]; have := hpm.1 j hj; omega) n (Nat.le_refl _) i hi]
      exact hnx i hi
    obtain ⟨k1, k2⟩ := ih _ (s + 1) hen h2
    refine ⟨fun t ht => ?_, ?_⟩
    · rcases t with _ | t
      · exact h1
      · have := k1 t (by omega)
        rw [show s + (t + 1) = s + 1 + t by omega]
        exact this
    · rw [show s + (m + 1) = s + 1 + m by omega]
      exact k2
def fcN (n : Nat) : Nat := [1, 1, 2, 6, 24, 120, 720].getD n 0
set_option maxRecDepth 100000 in
theorem chk_all : ∀ n, n < 7 → 1 ≤ n → chk n (fcN n - 1) (enN (fun i => i) n) = true := by decide +kernel
theorem od_last {n : Nat} (h1 : 1 ≤ n) (h6 : n ≤ 6) : ∀ t, t < fcN n → ((kf (od n t) (n - 1)).isSome = decide (t + 1 < fcN n)) := by
  have h0 : ∀ i, i < n → dcN (enN (fun i => i) n) i = od n 0 i := fun i hi => dc_en (n := n) (fun j hj => by omega) n (Nat.le_refl _) i hi
  obtain ⟨k1, k2⟩ := chk_spec h1 (by omega) (fcN n - 1) _ 0 h0 (chk_all n (by omega) h1)
  intro t ht
  by_cases e : t + 1 < fcN n
  · have := k1 t (by omega)
    rw [Nat.zero_add] at this
    rw [this]
    simp [e]
  · have e2 : t = fcN n - 1 := by omega
    rw [Nat.zero_add] at k2
    rw [e2, k2]
    simp
    omega
theorem fc_hmo : ∀ n, n < 7 → hmo n = nI (fcN n) := by decide +kernel
theorem fc_pos : ∀ n, n < 7 → 1 ≤ fcN n ∧ fcN n ≤ 720 := by decide +kernel
/-- a picture with another second order -/
def wO (p : Pic) (o : Nat → Nat) : Pic := fun j => if j = 7 then o else p j
theorem wO_7 (p : Pic) (o : Nat → Nat) : wO p o 7 = o := if_pos rfl
theorem wO_ne {p : Pic} {o : Nat → Nat} {j : Nat} (h : j ≠ 7) : wO p o j = p j := if_neg h
theorem wO_ok {p : Pic} {o : Nat → Nat} (h : PicOk p) (ho : isPm o (pn p)) : PicOk (wO p o) := ⟨h.1, h.2.1, h.2.2.1, ho⟩
/-- breadth times depth with the t-th second order -/
def arF (p : Pic) (t : Nat) : Nat := brP (wO p (od (pn p) t)) * dpP (wO p (od (pn p) t))
theorem arF_le {p : Pic} (h : PicOk p) (t : Nat) : arF p t ≤ 7938 := by
  have hk := wO_ok h (od_pm (pn p) t)
  have h1 := brP_le hk
  have h2 := dpP_le hk
  have h3 := Nat.mul_le_mul h1 h2
  exact h3
def biF (p : Pic) : Nat → Nat
  | 0 => 0
  | t + 1 => if t = 0 ∨ arF p t < arF p (biF p t) then t else biF p t
def smF (p : Pic) (v : Nat) : Nat → Nat
  | 0 => 0
  | t + 1 => smF p v t + (if arF p t ≤ v then 1 else 0)
theorem sm_le (p : Pic) (v t : Nat) : smF p v t ≤ t := by
  induction t with
  | zero => exact Nat.le_refl _
  | succ t ih => show smF p v t + (if _ then 1 else 0) ≤ t + 1; split <;> omega
/-- what is found behind t of them -/
def fdF (p : Pic) : Nat → Nat
  | 0 => 0
  | t + 1 => arF p (biF p (t + 1))
def lsI (p : Pic) : Nat → Int32
  | 0 => -9
  | t + 1 => nI (arF p (biF p (t + 1)))
def fLeast (g : Gh) (k : Int32) : Int32 × Gh := (if inR k (-1) 5 = true then (if pn g.1 = 0 then -3 else if k = -1 then nI (arF g.1 (biF g.1 (fcN (pn g.1)))) else if inN k (nI (pn g.1)) = true then nI (od (pn g.1) (biF g.1 (fcN (pn g.1))) (cl k)) else -9) else -2, g)
def fOdds (g : Gh) (v w : Int32) : Int64 × Gh := (if inR v 0 9999 = true ∧ inR w 0 1 = true then (if pn g.1 = 0 then -9223372036854775808 else if w = 0 then lN (smF g.1 (cl v) (fcN (pn g.1)) / Nat.gcd (fcN (pn g.1)) (smF g.1 (cl v) (fcN (pn g.1)))) else lN (fcN (pn g.1) / Nat.gcd (fcN (pn g.1)) (smF g.1 (cl v) (fcN (pn g.1))))) else -9223372036854775808, g)
theorem PlB.od7 {b : Nat} {u v : Mm} {p : Pic} {o : Nat → Nat} (h : PlB b u p) (hr : ∀ k, k ≠ b + 7 → v k = u k) (ho : ∀ x, x < pn p → v (b + 7) x = nI (o x)) : PlB b v (wO p o) := by
  refine ⟨by rw [hr b (by omega)]; exact h.1, fun i hi => ?_⟩
  obtain ⟨h1, h2, h3, h4, h5⟩ := h.2 i hi
  rw [hr (b + 1) (by omega), hr (b + 2) (by omega), hr (b + 3) (by omega), hr (b + 6) (by omega)]
  exact ⟨h1, h2, h3, h4, ho i hi⟩
theorem MdB.od7 {u v : Mm} {p : Pic} {o : Nat → Nat} (h : MdB u p) (h0 : v 57 5 = u 57 5) (hr : ∀ k, k = 61 ∨ k = 62 ∨ k = 63 → v k = u k) (h6 : ∀ x, x < 6 → v 65 x = u 65 x) (hn : pn p ≤ 6) (ho : ∀ x, x < pn p → v 65 (6 + x) = nI (o x)) : MdB v (wO p o) := by
  refine ⟨h0.trans h.1, fun i hi => ?_⟩
  have hi : i < pn p := hi
  obtain ⟨h1, h2, h3, h4, h5⟩ := h.2 i hi
  rw [hr 61 (by omega), hr 62 (by omega), hr 63 (by omega), h6 i (by omega)]
  exact ⟨h1, h2, h3, h4, ho i hi⟩
