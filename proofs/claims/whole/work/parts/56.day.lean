/-! days -/
def acF (p : Pic) (s w v : Int32) : Option Pic := if s = 2 then (if (decide (w = 0) || decide (w = 1)) = true ∧ inN v (nI (pn p) - 1) = true then some (swP p (cl w) (cl v)) else none) else (if inN w (nI (pn p)) = true ∧ inR v 1 9 = true then some (upP p (if s = 0 then 3 else 2) (cl w) (cl v)) else none)
def dyS (p : Pic) (c : Nat → Int32) (a : Nat) : Nat → Option Pic
  | 0 => some p
  | t + 1 => match dyS p c a t with
    | none => none
    | some q => acF q (c (a + 3 * t)) (c (a + 3 * t + 1)) (c (a + 3 * t + 2))
def dyN (p : Pic) (c : Nat → Int32) (a : Nat) : Nat → Option Nat
  | 0 => none
  | t + 1 => match dyN p c a t with
    | some x => some x
    | none => match dyS p c a (t + 1) with
      | none => some t
      | some _ => none
def skF (c : Nat → Int32) (a : Nat) : Nat → Bool
  | 0 => true
  | t + 1 => skF c a t && inR (c (a + 3 * t)) 0 2
theorem sk_no {c : Nat → Int32} {a q : Nat} (h : inR (c (a + 3 * q)) 0 2 = false) : ∀ m, q < m → skF c a m = false := by
  intro m
  induction m with
  | zero => intro z; omega
  | succ m ih =>
    intro hq
    show (skF c a m && inR (c (a + 3 * m)) 0 2) = false
    by_cases e : q = m
    · subst e; rw [h, Bool.and_false]
    · rw [ih (by omega), Bool.false_and]
theorem sk_at {c : Nat → Int32} {a : Nat} : ∀ m, skF c a m = true → ∀ q, q < m → inR (c (a + 3 * q)) 0 2 = true := by
  intro m
  induction m with
  | zero => intro _ q h; omega
  | succ m ih =>
    intro h q hq
    have h2 : (skF c a m && inR (c (a + 3 * m)) 0 2) = true := h
    rw [Bool.and_eq_true] at h2
    by_cases e : q = m
    · subst e; exact h2.2
    · exact ih h2.1 q (by omega)
theorem dy_some {p q : Pic} {c : Nat → Int32} {a : Nat} : ∀ t, dyS p c a t = some q → dyN p c a t = none := by
  intro t
  induction t generalizing q with
  | zero => intro _; rfl
  | succ t ih =>
    intro h
    have h0 : dyS p c a (t + 1) = (match dyS p c a t with | none => none | some q => acF q (c (a + 3 * t)) (c (a + 3 * t + 1)) (c (a + 3 * t + 2))) := rfl
    cases e : dyS p c a t with
    | none => rw [h0, e] at h; cases h
    | some r =>
      show (match dyN p c a t with | some x => some x | none => match dyS p c a (t + 1) with | none => some t | some _ => none) = none
      rw [ih e, h]
theorem dy_stop {p q : Pic} {c : Nat → Int32} {a t : Nat} (h : dyS p c a t = some q) (hn : acF q (c (a + 3 * t)) (c (a + 3 * t + 1)) (c (a + 3 * t + 2)) = none) : ∀ m, t < m → dyN p c a m = some t ∧ dyS p c a m = none := by
  have h1 : dyS p c a (t + 1) = none := by
    show (match dyS p c a t with | none => none | some q => acF q (c (a + 3 * t)) (c (a + 3 * t + 1)) (c (a + 3 * t + 2))) = none
    rw [h]; exact hn
  intro m
  induction m with
  | zero => intro z; omega
  | succ m ih =>
    intro hm
    by_cases e : t = m
    · subst e
      refine ⟨?_, h1⟩
      show (match dyN p c a t with | some x => some x | none => match dyS p c a (t + 1) with | none => some t | some _ => none) = some t
      rw [dy_some t h, h1]
    · obtain ⟨z1, z2⟩ := ih (by omega)
      refine ⟨?_, ?_⟩
      · show (match dyN p c a m with | some x => some x | none => _) = some t
        rw [z1]
      · show (match dyS p c a m with | none => none | some q => _) = none
        rw [z2]
theorem dy_go {p q r : Pic} {c : Nat → Int32} {a t : Nat} (h : dyS p c a t = some q) (hn : acF q (c (a + 3 * t)) (c (a + 3 * t + 1)) (c (a + 3 * t + 2)) = some r) : dyS p c a (t + 1) = some r := by
  show (match dyS p c a t with | none => none | some q => acF q (c (a + 3 * t)) (c (a + 3 * t + 1)) (c (a + 3 * t + 2))) = some r
  rw [h]; exact hn
/-- what is told of a picture -/
def tdF (p : Pic) (w : Int32) : Int32 := if w = 0 then nI (brP p) else if w = 2 then nI (dpP p) else if w = 3 then nI (brP p * dpP p) - nI (usedF p (pn p)) else if w = 4 then nI (twosF p (pn p) / 2) else if inN (w - 10) (nI (pn p)) = true then nI (xF p (cl (w - 10))) else -9
def dyF (p : Pic) (c : Nat → Int32) (a b : Nat) (w : Int32) : Int32 := if w = 1 then oI (-9) (dyN p c a b) else match dyS p c a b with
  | some q => tdF q w
  | none => -100 - oI (-9) (dyN p c a b)
def fDay (g : Gh) (k l i n w : Int32) : Int32 × Gh := if inN k 4 = true then (if inR l 0 2 = true ∧ inR n 0 20 = true ∧ (inR w 0 4 || inR w 10 15) = true then (if agF (shk g k) l i (3 * n) = 0 then (if pn g.1 = 0 then (-3, wFt g 0) else if skF (shk g k).2.2.2 (cl i) (cl n) = true then (dyF g.1 (shk g k).2.2.2 (cl i) (cl n) w, wFt g 0) else (-2, wFt g 0)) else (-10 - agF (shk g k) l i (3 * n), wFt g (agF (shk g k) l i (3 * n)))) else (-2, wFt g 0)) else (-1, wFt g 0)
/-- an act keeps a picture as it must be -/
theorem ac_ok {p q : Pic} {s w v : Int32} (h : PicOk p) (hp : PicP p) (e : acF p s w v = some q) : PicOk q ∧ PicP q ∧ pn q = pn p := by
  have hn := h.1
  unfold acF at e
  by_cases h1 : s = 2
  · rw [if_pos h1] at e
    by_cases h2 : (decide (w = 0) || decide (w = 1)) = true ∧ inN v (nI (pn p) - 1) = true
    · rw [if_pos h2] at e
      cases e
      obtain ⟨i, hi, rfl⟩ := nI_m1 h.1 h2.2
      have hw : cl w < 2 := by
        have z := h2.1
        simp only [Bool.or_eq_true, decide_eq_true_eq] at z
        rcases z with rfl | rfl <;> decide
      rw [cl_nI (by omega)]
      refine ⟨sw_pl h hw hi, fun a ha => ?_, congrFun (show swP p (cl w) i 0 = p 0 from if_neg (by omega)) 0⟩
      have e0 : pn (swP p (cl w) i) = pn p := congrFun (show swP p (cl w) i 0 = p 0 from if_neg (by omega)) 0
      have e2 : swP p (cl w) i 2 = p 2 := if_neg (by omega)
      have e3 : swP p (cl w) i 3 = p 3 := if_neg (by omega)
      rw [e2, e3]
      exact hp a (by rw [← e0]; exact ha)
    · rw [if_neg h2] at e; cases e
  · rw [if_neg h1] at e
    by_cases h2 : inN w (nI (pn p)) = true ∧ inR v 1 9 = true
    · rw [if_pos h2] at e
      cases e
      obtain ⟨i, hi, rfl⟩ := inN_nat (by omega) h2.1
      obtain ⟨x, hx1, hx2, rfl⟩ := inR_nat (lo := 1) (hi := 9) (by omega) h2.2 (by omega)
      rw [cl_nI (by omega), cl_nI (by omega)]
      by_cases h3 : s = 0
      · rw [if_pos h3]
        refine ⟨h.wd hx2, fun a ha => ⟨(hp a ha).1, ?_⟩, rfl⟩
        by_cases e9 : a = i
        · subst e9; rw [upP_self]; exact hx1
        · rw [upP_ne e9]; exact (hp a ha).2
      · rw [if_neg h3]
        refine ⟨h.pl hx2, fun a ha => ⟨?_, (hp a ha).2⟩, rfl⟩
        by_cases e9 : a = i
        · subst e9; rw [upP_self]; exact hx1
        · rw [upP_ne e9]; exact (hp a ha).1
    · rw [if_neg h2] at e; cases e
theorem ordI {w : Int32} (h : (decide (w = 0) || decide (w = 1)) = true) : ∃ x, x < 2 ∧ w = nI x := by
  simp only [Bool.or_eq_true, decide_eq_true_eq] at h
  rcases h with z | z
  · exact ⟨0, by omega, z⟩
  · exact ⟨1, by omega, z⟩
