/-! the text of a map -/
def sg (t : Nat → Int32) (b q : Nat) (c : Int32) : Bool := decide (q < b) && decide (t q = c)
def dg (t : Nat → Int32) (b q lo hi : Nat) : Bool := decide (q < b) && inR (t q) (nI (48 + lo)) (nI (48 + hi))
def dv (t : Nat → Int32) (q : Nat) : Nat := cl (t q - 48)
def kg (t : Nat → Int32) (b q : Nat) : Bool := decide (q < b) && (decide (t q = 112) || decide (t q = 98) || decide (t q = 100))
def kv (t : Nat → Int32) (q : Nat) : Nat := if t q = 112 then 0 else if t q = 98 then 1 else 2
theorem sg_n1 {t : Nat → Int32} {b q : Nat} {c : Int32} (h : ¬ q < b) : sg t b q c = false := by simp [sg, h]
theorem sg_n2 {t : Nat → Int32} {b q : Nat} {c : Int32} (h : ¬ t q = c) : sg t b q c = false := by simp [sg, h]
theorem sg_y {t : Nat → Int32} {b q : Nat} {c : Int32} (h : q < b) (h2 : t q = c) : sg t b q c = true := by simp [sg, h, h2]
theorem sg_u {t : Nat → Int32} {b q : Nat} {c : Int32} (h : sg t b q c = true) : q < b ∧ t q = c := by simpa [sg] using h
theorem dg_n1 {t : Nat → Int32} {b q lo hi : Nat} (h : ¬ q < b) : dg t b q lo hi = false := by simp [dg, h]
theorem dg_n2 {t : Nat → Int32} {b q lo hi : Nat} (h : t q < nI (48 + lo)) : dg t b q lo hi = false := by simp [dg, inR, h]
theorem dg_n3 {t : Nat → Int32} {b q lo hi : Nat} (h : ¬ t q ≤ nI (48 + hi)) : dg t b q lo hi = false := by simp [dg, inR, Int32.not_le.mp h]
theorem dg_y {t : Nat → Int32} {b q lo hi : Nat} (h : q < b) (h2 : ¬ t q < nI (48 + lo)) (h3 : t q ≤ nI (48 + hi)) : dg t b q lo hi = true := by simp [dg, inR, h, h2, Int32.not_lt.mpr h3]
theorem dg_at {t : Nat → Int32} {b q lo hi : Nat} (h : dg t b q lo hi = true) (h9 : hi ≤ 9) (hl : lo ≤ hi) : q < b ∧ ∃ v, lo ≤ v ∧ v ≤ hi ∧ t q = nI (48 + v) ∧ dv t q = v ∧ t q - 48 = nI v := by
  unfold dg at h
  simp only [Bool.and_eq_true, decide_eq_true_eq] at h
  obtain ⟨i, h1, h2, h3⟩ := inR_nat (by omega) h.2 (by omega)
  refine ⟨h.1, i - 48, by omega, by omega, by rw [h3]; congr 1; omega, ?_, ?_⟩
  · unfold dv; rw [h3, show (48 : Int32) = nI 48 from rfl, pk_sub (by omega), cl_nI (by omega)]
  · rw [h3, show (48 : Int32) = nI 48 from rfl, pk_sub (by omega)]
theorem kg_0 {t : Nat → Int32} {b q : Nat} (h : sg t b q 112 = true) : kg t b q = true ∧ kv t q = 0 := by have z := sg_u h; simp [kg, kv, z.1, z.2]
theorem kg_1 {t : Nat → Int32} {b q : Nat} (h : sg t b q 98 = true) : kg t b q = true ∧ kv t q = 1 := by have z := sg_u h; simp [kg, kv, z.1, z.2]
theorem kg_2 {t : Nat → Int32} {b q : Nat} (h : sg t b q 100 = true) : kg t b q = true ∧ kv t q = 2 := by have z := sg_u h; simp [kg, kv, z.1, z.2]
theorem kg_n {t : Nat → Int32} {b q : Nat} (h : sg t b q 112 = false) (h1 : sg t b q 98 = false) (h2 : sg t b q 100 = false) : kg t b q = false := by
  by_cases hq : q < b
  · simp only [sg, hq, decide_true, Bool.true_and] at h h1 h2; simp [kg, h, h1, h2, of_decide_eq_false h, of_decide_eq_false h1, of_decide_eq_false h2]
  · simp [kg, hq]
theorem kv_lt (t : Nat → Int32) (q : Nat) : kv t q < 3 := by unfold kv; split <;> (try split) <;> omega
/-- the first of m that isn't so; m: all are -/
def cntF (c : Nat → Bool) : Nat → Nat → Nat
  | 0, i => i
  | f + 1, i => if c i then cntF c f (i + 1) else i
def fsF (c : Nat → Bool) (m : Nat) : Nat := cntF c m 0
theorem cntF_sp (c : Nat → Bool) : ∀ f i, i ≤ cntF c f i ∧ cntF c f i ≤ i + f ∧ (∀ j, i ≤ j → j < cntF c f i → c j = true) ∧ (cntF c f i < i + f → c (cntF c f i) = false) := by
  intro f
  induction f with
  | zero => intro i; exact ⟨Nat.le_refl _, Nat.le_refl _, fun j h1 h2 => by simp only [cntF] at h2; omega, fun h => by simp only [cntF] at h; omega⟩
  | succ f ih =>
    intro i
    unfold cntF
    by_cases h : c i = true
    · rw [if_pos h]
      obtain ⟨h1, h2, h3, h4⟩ := ih (i + 1)
      refine ⟨by omega, by omega, fun j a1 a2 => ?_, fun z => h4 (by omega)⟩
      by_cases e : j = i
      · subst e; exact h
      · exact h3 j (by omega) a2
    · rw [if_neg h]
      exact ⟨Nat.le_refl _, by omega, fun j h1 h2 => by omega, fun _ => by simpa using h⟩
theorem fsF_sp (c : Nat → Bool) (m : Nat) : fsF c m ≤ m ∧ (∀ j, j < fsF c m → c j = true) ∧ (fsF c m < m → c (fsF c m) = false) := by
  obtain ⟨h1, h2, h3, h4⟩ := cntF_sp c m 0
  exact ⟨by unfold fsF; omega, fun j hj => h3 j (by omega) hj, fun h => h4 (by unfold fsF at h; omega)⟩
theorem fsF_eq {c : Nat → Bool} {m n : Nat} (h : n ≤ m) (h2 : ∀ j, j < n → c j = true) (h3 : n < m → c n = false) : fsF c m = n := by
  obtain ⟨h4, h5, h6⟩ := fsF_sp c m
  rcases Nat.lt_trichotomy (fsF c m) n with z | z | z
  · have a1 := h2 _ z; rw [h6 (by omega)] at a1; exact absurd a1 (by decide)
  · exact z
  · have a1 := h5 _ z; rw [h3 (by omega)] at a1; exact absurd a1 (by decide)
/-- an area from its kind on; where it stops -/
def aG (t : Nat → Int32) (b q : Nat) : Bool := kg t b q && (dg t b (q + 1) 1 9 && dg t b (q + 2) 1 9)
def aS (t : Nat → Int32) (b q : Nat) : Nat := if kg t b q = true then (if dg t b (q + 1) 1 9 = true then q + 2 else q + 1) else q
def aOk (t : Nat → Int32) (b i : Nat) : Bool := sg t b (1 + 4 * i) 59 && aG t b (2 + 4 * i)
def nA (t : Nat → Int32) (b : Nat) : Nat := fsF (aOk t b) 6
def aGo (t : Nat → Int32) (b : Nat) : Bool := decide (0 < nA t b) && (decide (nA t b = 6) || !sg t b (1 + 4 * nA t b) 59)
def aAt (t : Nat → Int32) (b : Nat) : Nat := if (decide (nA t b < 6) && sg t b (1 + 4 * nA t b) 59) = true then aS t b (2 + 4 * nA t b) else 1 + 4 * nA t b
/-- the areas of k places from q on -/
def sn (t : Nat → Int32) (q k a : Nat) : Bool := (List.range k).any (fun j => dv t (q + j) == a)
def oG (t : Nat → Int32) (b n q k : Nat) : Bool := dg t b (q + k) 0 (n - 1) && !sn t q k (dv t (q + k))
def oN (t : Nat → Int32) (b n q : Nat) : Nat := fsF (oG t b n (q + 1)) n
def oK (t : Nat → Int32) (b n q : Nat) : Bool := sg t b q 44 && decide (oN t b n q = n)
def oAt (t : Nat → Int32) (b n q : Nat) : Nat := if sg t b q 44 = true then q + 1 + oN t b n q else q
def pF (t : Nat → Int32) (b : Nat) : Bool × Nat := if sg t b 0 109 = true then (if aGo t b = true then (if oK t b (nA t b) (1 + 4 * nA t b) = true then (if oK t b (nA t b) (2 + 5 * nA t b) = true then (decide (3 + 6 * nA t b = b), 3 + 6 * nA t b) else (false, oAt t b (nA t b) (2 + 5 * nA t b))) else (false, oAt t b (nA t b) (1 + 4 * nA t b))) else (false, aAt t b)) else (false, 0)
def pE (t : Nat → Int32) (b : Nat) : Nat := if sg t b 0 109 = true then nA t b else 0
def picT (t : Nat → Int32) (n : Nat) : Pic := fun r i => if r = 0 then n else if r = 1 then kv t (2 + 4 * i) else if r = 2 then dv t (3 + 4 * i) else if r = 3 then dv t (4 + 4 * i) else if r = 6 then dv t (2 + 4 * n + i) else dv t (3 + 5 * n + i)
theorem nA_le (t : Nat → Int32) (b : Nat) : nA t b ≤ 6 := (fsF_sp _ 6).1
theorem oN_le (t : Nat → Int32) (b n q : Nat) : oN t b n q ≤ n := (fsF_sp _ n).1
theorem nA_at {t : Nat → Int32} {b n : Nat} (h : n ≤ 6) (h2 : ∀ j, j < n → aOk t b j = true) (h3 : n < 6 → aOk t b n = false) : nA t b = n := fsF_eq h h2 h3
theorem aG_u {t : Nat → Int32} {b q : Nat} (h : aG t b q = true) : kg t b q = true ∧ dg t b (q + 1) 1 9 = true ∧ dg t b (q + 2) 1 9 = true := by simpa [aG] using h
theorem aOk_u {t : Nat → Int32} {b i : Nat} (h : aOk t b i = true) : sg t b (1 + 4 * i) 59 = true ∧ aG t b (2 + 4 * i) = true := by simpa [aOk] using h
theorem aS_le (t : Nat → Int32) (b q : Nat) : aS t b q ≤ q + 2 := by unfold aS; split <;> (try split) <;> omega
theorem sn_s (t : Nat → Int32) (q k a : Nat) : sn t q (k + 1) a = (sn t q k a || dv t (q + k) == a) := by simp [sn, List.range_succ]
theorem sn_y {t : Nat → Int32} {q k j : Nat} (h : j < k) : sn t q k (dv t (q + j)) = true := List.any_eq_true.mpr ⟨j, List.mem_range.mpr h, by simp⟩
/-- bits of a set -/
def SN (s : Nat) (c : Nat → Bool) : Prop := s < 64 ∧ ∀ a, a < 6 → s / 2 ^ a % 2 = if c a = true then 1 else 0
theorem orB : ∀ s, s < 64 → ∀ a, a < 6 → (nI s ||| ((1 : Int32) <<< (nI a &&& 31)) = nI (s ||| 2 ^ a)) ∧ (s ||| 2 ^ a) < 64 ∧ ∀ x, x < 6 → (s ||| 2 ^ a) / 2 ^ x % 2 = if x = a then 1 else s / 2 ^ x % 2 := by decide +kernel
theorem SN.at {s : Nat} {c : Nat → Bool} (h : SN s c) {a : Nat} (ha : a < 6) : (nI s >>> (nI a &&& 31)) &&& 1 = bI (c a) := by
  rw [bitAt s h.1 a ha, h.2 a ha]; cases c a <;> rfl
theorem SN.z : SN 0 (fun _ => false) := ⟨by decide, fun a ha => by simp⟩
theorem SN.s {s : Nat} {t : Nat → Int32} {q k : Nat} (h : SN s (sn t q k)) (ha : dv t (q + k) < 6) : SN (s ||| 2 ^ dv t (q + k)) (sn t q (k + 1)) := by
  obtain ⟨h1, h2, h3⟩ := orB s h.1 _ ha
  refine ⟨h2, fun a h4 => ?_⟩
  rw [h3 a h4, sn_s, h.2 a h4]
  by_cases e : a = dv t (q + k)
  · subst e; simp
  · rw [if_neg e]; simp [show ¬ dv t (q + k) = a from fun z => e z.symm]
/-- as many into fewer -/
theorem php : ∀ (n : Nat) (o : Nat → Nat), (∀ i, i < n + 1 → o i < n) → injOn o (n + 1) → False := by
  intro n
  induction n with
  | zero => intro o h _; exact absurd (h 0 (by omega)) (by omega)
  | succ n ih =>
    intro o h hj
    have hl := h (n + 1) (by omega)
    refine ih (fun i => if o i = n then o (n + 1) else o i) (fun i hi => ?_) (fun i j hi hj2 e => ?_)
    · have h1 := h i (by omega)
      by_cases e : o i = n
      · rw [if_pos e]
        have : o (n + 1) ≠ n := fun z => by have := hj i (n + 1) (by omega) (by omega) (e.trans z.symm); omega
        omega
      · rw [if_neg e]; omega
    · by_cases e1 : o i = n <;> by_cases e2 : o j = n
      · exact hj i j (by omega) (by omega) (e1.trans e2.symm)
      · simp only [e1, e2, if_true, if_false] at e; have := hj (n + 1) j (by omega) (by omega) e; omega
      · simp only [e1, e2, if_true, if_false] at e; have := hj i (n + 1) (by omega) (by omega) e; omega
      · simp only [e1, e2, if_false] at e; exact hj i j (by omega) (by omega) e
theorem pm_of {o : Nat → Nat} {n : Nat} (h : ∀ i, i < n → o i < n) (hj : injOn o n) : isPm o n := by
  refine ⟨h, hj, fun a ha => Classical.byContradiction fun z => ?_⟩
  refine php n (fun i => if i = n then a else o i) (fun i hi => ?_) (fun i j hi hj2 e => ?_)
  · by_cases e : i = n
    · rw [if_pos e]; exact ha
    · rw [if_neg e]; exact h i (by omega)
  · by_cases e1 : i = n <;> by_cases e2 : j = n
    · omega
    · simp only [e1, e2, if_true, if_false] at e; exact absurd ⟨j, by omega, e.symm⟩ z
    · simp only [e1, e2, if_true, if_false] at e; exact absurd ⟨i, by omega, e⟩ z
    · simp only [e1, e2, if_false] at e; exact hj i j (by omega) (by omega) e
theorem oK_pm {t : Nat → Int32} {b n q : Nat} (h : oK t b n q = true) (h1 : 1 ≤ n) (h6 : n ≤ 6) : (∀ k, k < n → q + 1 + k < b ∧ dv t (q + 1 + k) < n ∧ t (q + 1 + k) = nI (48 + dv t (q + 1 + k))) ∧ isPm (fun k => dv t (q + 1 + k)) n := by
  have h2 : oN t b n q = n := by simp [oK] at h; exact h.2
  have h3 : ∀ k, k < n → oG t b n (q + 1) k = true := fun k hk => (fsF_sp (oG t b n (q + 1)) n).2.1 k (by rw [show fsF (oG t b n (q + 1)) n = n from h2]; exact hk)
  have h4 : ∀ k, k < n → q + 1 + k < b ∧ dv t (q + 1 + k) < n ∧ t (q + 1 + k) = nI (48 + dv t (q + 1 + k)) := fun k hk => by
    have z := h3 k hk
    simp only [oG, Bool.and_eq_true] at z
    obtain ⟨z1, v, -, z2, z3, z4, -⟩ := dg_at z.1 (by omega) (by omega)
    exact ⟨z1, by omega, by rw [z4]; exact z3⟩
  have h5 : ∀ i j, i < j → j < n → dv t (q + 1 + i) ≠ dv t (q + 1 + j) := fun i j hi hj e => by
    have z := h3 j hj
    simp only [oG, Bool.and_eq_true] at z
    rw [← e, sn_y hi] at z
    exact absurd z.2 (by decide)
  refine ⟨h4, pm_of (fun k hk => (h4 k hk).2.1) (fun i j hi hj e => ?_)⟩
  rcases Nat.lt_trichotomy i j with z | z | z
  · exact absurd e (h5 i j z hj)
  · exact z
  · exact absurd e.symm (h5 j i z hi)
theorem pF_ok {t : Nat → Int32} {b : Nat} (h : (pF t b).1 = true) : sg t b 0 109 = true ∧ aGo t b = true ∧ oK t b (nA t b) (1 + 4 * nA t b) = true ∧ oK t b (nA t b) (2 + 5 * nA t b) = true ∧ 3 + 6 * nA t b = b := by
  unfold pF at h
  by_cases h1 : sg t b 0 109 = true
  · rw [if_pos h1] at h
    by_cases h2 : aGo t b = true
    · rw [if_pos h2] at h
      by_cases h3 : oK t b (nA t b) (1 + 4 * nA t b) = true
      · rw [if_pos h3] at h
        by_cases h4 : oK t b (nA t b) (2 + 5 * nA t b) = true
        · rw [if_pos h4] at h; exact ⟨h1, h2, h3, h4, of_decide_eq_true h⟩
        · rw [if_neg h4] at h; exact absurd (show false = true from h) (by decide)
      · rw [if_neg h3] at h; exact absurd (show false = true from h) (by decide)
    · rw [if_neg h2] at h; exact absurd (show false = true from h) (by decide)
  · rw [if_neg h1] at h; exact absurd (show false = true from h) (by decide)
theorem aGo_1 {t : Nat → Int32} {b : Nat} (h : aGo t b = true) : 1 ≤ nA t b := by
  unfold aGo at h; simp only [Bool.and_eq_true, decide_eq_true_eq] at h; omega
theorem picT_ok {t : Nat → Int32} {b : Nat} (h : (pF t b).1 = true) : PicOk (picT t (nA t b)) ∧ PicP (picT t (nA t b)) := by
  obtain ⟨-, h2, h3, h4, -⟩ := pF_ok h
  have h6 := nA_le t b
  have h1 := aGo_1 h2
  have ha : ∀ i, i < nA t b → (∃ v, 1 ≤ v ∧ v ≤ 9 ∧ dv t (3 + 4 * i) = v) ∧ ∃ v, 1 ≤ v ∧ v ≤ 9 ∧ dv t (4 + 4 * i) = v := fun i hi => by
    obtain ⟨-, z2, z3⟩ := aG_u (aOk_u ((fsF_sp (aOk t b) 6).2.1 i hi)).2
    obtain ⟨-, v, y1, y2, -, y4, -⟩ := dg_at z2 (by omega) (by omega)
    obtain ⟨-, w, x1, x2, -, x4, -⟩ := dg_at z3 (by omega) (by omega)
    exact ⟨⟨v, y1, y2, by rw [← y4]; congr 1; omega⟩, ⟨w, x1, x2, by rw [← x4]; congr 1; omega⟩⟩
  refine ⟨⟨h6, fun i hi => ?_, ?_, ?_⟩, fun i hi => ?_⟩
  · obtain ⟨⟨v, y1, y2, y3⟩, ⟨w, x1, x2, x3⟩⟩ := ha i hi
    exact ⟨kv_lt _ _, show dv t (3 + 4 * i) ≤ 9 by omega, show dv t (4 + 4 * i) ≤ 9 by omega⟩
  · have z := (oK_pm h3 h1 h6).2
    have e : (fun k => dv t (1 + 4 * nA t b + 1 + k)) = picT t (nA t b) 6 := funext fun k => by show dv t (1 + 4 * nA t b + 1 + k) = dv t (2 + 4 * nA t b + k); congr 1; omega
    rw [e] at z; exact z
  · have z := (oK_pm h4 h1 h6).2
    have e : (fun k => dv t (2 + 5 * nA t b + 1 + k)) = picT t (nA t b) 7 := funext fun k => by show dv t (2 + 5 * nA t b + 1 + k) = dv t (3 + 5 * nA t b + k); congr 1; omega
    rw [e] at z; exact z
  · obtain ⟨⟨v, y1, y2, y3⟩, ⟨w, x1, x2, x3⟩⟩ := ha i hi
    exact ⟨show 1 ≤ dv t (3 + 4 * i) by omega, show 1 ≤ dv t (4 + 4 * i) by omega⟩
/-- the call -/
def tX (s : Shd) (i : Int32) : Nat → Int32 := fun j => s.2.2.2 (cl i + j)
def mapG (g : Gh) (t : Nat → Int32) (b : Nat) : Int32 × Gh := if (pF t b).1 = true then (nI (nA t b), (picT t (nA t b), (fun i => g.2.2.1 + nI (i + 1)), g.2.2.1 + nI (pE t b), g.2.2.2.1, (0, g.2.2.2.2.1.2), g.2.2.2.2.2.1, 0)) else (-100 - nI (pF t b).2, (g.1, g.2.1, g.2.2.1 + nI (pE t b), g.2.2.2.1, g.2.2.2.2.1, g.2.2.2.2.2.1, 0))
def fMap (g : Gh) (k l i n : Int32) : Int32 × Gh := if inN k 4 = true then (if inR l 0 2 = true then (if agF (shk g k) l i n = 0 then mapG g (tX (shk g k) i) (cl n) else (-10 - agF (shk g k) l i n, wFt g (agF (shk g k) l i n))) else (-2, wFt g 0)) else (-1, wFt g 0)
