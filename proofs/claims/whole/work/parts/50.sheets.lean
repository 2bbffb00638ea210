/-! sheets -/
def upS (f : Nat → Shd) (k : Nat) (s : Shd) : Nat → Shd := fun j => if j = k then s else f j
theorem upS_at (f : Nat → Shd) (k : Nat) (s : Shd) : upS f k s k = s := if_pos rfl
theorem upS_ne {f : Nat → Shd} {k j : Nat} {s : Shd} (h : j ≠ k) : upS f k s j = f j := if_neg h
theorem InvC.sh {u v : Mm} {g : Gh} {k : Nat} {s : Shd} (h : InvC u g) (hk : k < 4) (hr : ∀ r, r ≠ 46 + 2 * k → r ≠ 46 + 2 * k + 1 → v r = u r) (hs : ShC v (46 + 2 * k) s) : InvC v (wSh g (upS g.2.2.2.1 k s)) := by
  obtain ⟨h1, h2, h3, h4, h5, h6, h7⟩ := h
  have f0 := hr 0 (by omega) (by omega)
  refine ⟨h1.rows (fun r _ _ => hr r (by omega) (by omega)), fun i hi => by rw [hr 5 (by omega) (by omega)]; exact h2 i hi, by rw [hr 29 (by omega) (by omega)]; exact h3, fun j hj => ?_, ⟨by rw [f0]; exact h5.1, fun i hi => by rw [hr 55 (by omega) (by omega), hr 56 (by omega) (by omega)]; exact h5.2 i hi⟩, by rw [f0]; exact h6, by rw [f0]; exact h7⟩
  show ShC v (46 + 2 * j) (upS g.2.2.2.1 k s j)
  by_cases e : j = k
  · subst e; rw [upS_at]; exact hs
  · rw [upS_ne e]; exact (h4 j hj).rows (hr _ (by omega) (by omega)) (hr _ (by omega) (by omega))
theorem InvM.sh {u v : Mm} {g : Gh} {k : Nat} {s : Shd} (h : InvM u g) (hr : ∀ r, r ≠ 58 → r ≠ 59 → r ≠ 60 → v r = u r) (ho : ∀ j, j < 4 → j ≠ k → v 58 j = u 58 j ∧ v 59 j = u 59 j ∧ ∀ i, i < 60 → v 60 (60 * j + i) = u 60 (60 * j + i)) (hs : ShM v k s) : InvM v (wSh g (upS g.2.2.2.1 k s)) := by
  obtain ⟨h1, h2, h3, h4, h5, h6, h7⟩ := h
  have f0 := hr 57 (by omega) (by omega) (by omega)
  refine ⟨h1.rows (by rw [f0]) (fun r _ => hr r (by omega) (by omega) (by omega)), fun i hi => by rw [hr 64 (by omega) (by omega) (by omega)]; exact h2 i hi, by rw [f0]; exact h3, fun j hj => ?_, ⟨by rw [f0]; exact h5.1, fun i hi => by rw [hr 78 (by omega) (by omega) (by omega), hr 79 (by omega) (by omega) (by omega)]; exact h5.2 i hi⟩, by rw [f0]; exact h6, by rw [f0]; exact h7⟩
  show ShM v j (upS g.2.2.2.1 k s j)
  by_cases e : j = k
  · subst e; rw [upS_at]; exact hs
  · rw [upS_ne e]
    obtain ⟨z1, z2, z3⟩ := ho j hj e
    obtain ⟨y1, y2, y3⟩ := h4 j hj
    exact ⟨z1.trans y1, z2.trans y2, fun i hi => (z3 i hi).trans (y3 i hi)⟩
def cutF (l v : Int32) : Int32 := if l = 0 then v.toInt8.toInt32 else if l = 1 then v.toInt16.toInt32 else v
def shk (g : Gh) (k : Int32) : Shd := g.2.2.2.1 (cl k)
def fSheet (g : Gh) (k l n : Int32) : Int32 × Gh := if inN k 4 = true then (if inR l 0 2 = true ∧ n ≤ 60 then (if n < 0 then (-14, wFt g 4) else (1, wSh (wFt g 0) (upS g.2.2.2.1 (cl k) (true, l, cl n, fun _ => 0)))) else (-2, wFt g 0)) else (-1, wFt g 0)
def fLose (g : Gh) (k : Int32) : Int32 × Gh := if inN k 4 = true then (bI (shk g k).1, wSh g (upS g.2.2.2.1 (cl k) (false, (shk g k).2))) else (-1, g)
def fPut (g : Gh) (k i v : Int32) : Int32 × Gh := if inN k 4 = true then (if (shk g k).1 = true then (if inN i (nI (shk g k).2.2.1) = true then (1, wSh (wFt g 0) (upS g.2.2.2.1 (cl k) (true, (shk g k).2.1, (shk g k).2.2.1, upd (shk g k).2.2.2 (cl i) (cutF (shk g k).2.1 v)))) else (-13, wFt g 3)) else (-11, wFt g 1)) else (-1, wFt g 0)
/-- the fault of taking it as a row of a lane; 0: none -/
def faF (s : Shd) (l : Int32) : Int32 := if s.1 = true then (if s.2.1 = l then 0 else 2) else 1
theorem faF_0 {s : Shd} {l : Int32} (h : faF s l = 0) : s.1 = true ∧ s.2.1 = l := by
  unfold faF at h
  by_cases h1 : s.1 = true
  · rw [if_pos h1] at h
    by_cases h2 : s.2.1 = l
    · exact ⟨h1, h2⟩
    · rw [if_neg h2] at h; exact absurd h (by decide)
  · rw [if_neg h1] at h; exact absurd h (by decide)
theorem faF_C {u : Mm} {b : Nat} {s : Shd} {l : Int32} (h : ShC u b s) : (if u b 0 = 0 then (1 : Int32) else if u b 1 = l then 0 else 2) = faF s l := by
  obtain ⟨h1, h2, -⟩ := h
  unfold faF
  rw [h1, h2]
  cases h3 : s.1
  · rfl
  · rw [if_neg (by decide), if_pos rfl]
def hcF (m : Nat) (i n : Int32) : Bool := !decide (i < 0) && !decide (nI m < i) && !decide (n < 0) && !decide (nI m - i < n)
def fCell (g : Gh) (k i l : Int32) : Int64 × Gh := if inN k 4 = true ∧ inR l 0 2 = true then (if faF (shk g k) l = 0 then (if inN i (nI (shk g k).2.2.1) = true then (((shk g k).2.2.2 (cl i)).toInt64, wFt g 0) else (-9223372036854775808, wFt g 3)) else (-9223372036854775808, wFt g (faF (shk g k) l))) else (-9223372036854775808, wFt g 0)
/-- what is against taking cells; 0: nothing -/
def agF (s : Shd) (l i n : Int32) : Int32 := if faF s l = 0 then (if n < 0 then 4 else if hcF s.2.2.1 i n = true then 0 else 3) else faF s l
def fCopy (g : Gh) (k i o j n : Int32) : Int32 × Gh := if inN k 4 = true ∧ inN o 4 = true then (if (shk g k).1 = true ∧ (shk g o).1 = true then (if (shk g k).2.1 = (shk g o).2.1 then (if hcF (shk g k).2.2.1 i n = true ∧ hcF (shk g o).2.2.1 j n = true then (n, wSh (wFt g 0) (upS g.2.2.2.1 (cl o) (true, (shk g o).2.1, (shk g o).2.2.1, va_cpy (shk g k).2.2.2 (shk g o).2.2.2 (cl i) (cl j) (cl n)))) else (-13, wFt g 3)) else (-12, wFt g 2)) else (-11, wFt g 1)) else (-1, wFt g 0)
theorem inN_inR {i : Int32} {n : Nat} (hn : n ≤ 60) : inR i 0 (nI n - 1) = inN i (nI n) := by
  unfold inR inN
  by_cases h0 : i < 0
  · simp [h0]
  · obtain ⟨j, hj, rfl⟩ := nI_of h0
    have : (nI n - 1 < nI j) ↔ (nI n ≤ nI j) := by
      rw [Int32.lt_iff_toInt_lt, nI_leI (by omega) hj, show (1 : Int32) = nI 1 from rfl, pk_sub_toInt (by omega) (by omega), nI_toInt hj]
      omega
    simp [this]
theorem hc_nat {m : Nat} {i n : Int32} (hm : m ≤ 60) (h : hcF m i n = true) : ∃ a b, a + b ≤ m ∧ i = nI a ∧ n = nI b := by
  unfold hcF at h
  simp only [Bool.and_eq_true, Bool.not_eq_true', decide_eq_false_iff_not] at h
  obtain ⟨⟨⟨h1, h2⟩, h3⟩, h4⟩ := h
  obtain ⟨a, ha, rfl⟩ := nI_of h1
  obtain ⟨b, hb, rfl⟩ := nI_of h3
  have ha2 : a ≤ m := Nat.not_lt.mp (fun z => h2 ((nI_ltI (by omega) ha).mpr z))
  rw [pk_sub ha2] at h4
  have hb2 : b ≤ m - a := Nat.not_lt.mp (fun z => h4 ((nI_ltI (by omega) hb).mpr z))
  exact ⟨a, b, by omega, rfl, rfl⟩
theorem inR_9 {l : Int32} (h : inR l 0 2 = true) : ¬ l = -9 := fun e => by subst e; exact absurd h (by decide)
theorem ShM.v {u : Mm} {k : Nat} {s : Shd} (h : ShM u k s) (ht : s.1 = true) : u 58 k = s.2.1 := by rw [h.1, ht]; rfl
theorem ShM.n {u : Mm} {k : Nat} {s : Shd} (h : ShM u k s) (ht : s.1 = false) : u 58 k = -9 := by rw [h.1, ht]; rfl
theorem agF_hc {s : Shd} {l i n : Int32} (h : agF s l i n = 0) : s.1 = true ∧ s.2.1 = l ∧ hcF s.2.2.1 i n = true := by
  unfold agF at h
  by_cases h1 : faF s l = 0
  · rw [if_pos h1] at h
    by_cases h2 : n < 0
    · rw [if_pos h2] at h; exact absurd h (by decide)
    · rw [if_neg h2] at h
      by_cases h3 : hcF s.2.2.1 i n = true
      · exact ⟨(faF_0 h1).1, (faF_0 h1).2, h3⟩
      · rw [if_neg h3] at h; exact absurd h (by decide)
  · rw [if_neg h1] at h; exact absurd h h1
theorem in4 {k : Int32} (h : inN k 4 = true) : ∃ j, j < 4 ∧ k = nI j := inN_nat (n := 4) (by decide) h
