/-! both objects, as they are born, are the flat memory -/
def u0 : Mm := fun k => if k = 58 then srt else fun _ => 0
def gX2 (E : gT) (r : Nat → Int32) (x : gSh) : va_E := match x with
  | .inl (ci, fs) => .inr (ci, fs.mapIdx (gFd E.2.1 r))
  | .inr (.inl n) => .inl (E.2.2.1.1, n, .inl r)
  | .inr (.inr (z, ts)) => .inl (if z = 0 then E.2.2.1.2.1 else E.2.2.1.2.2, ts.length, .inr (.inr (.inr (.inr (fun i => (ts.map E.2.1)[i]?)))))
theorem gX_2 (E : gT) (r : Nat → Int32) (x : gSh) : gX E r x = gX2 E r x := by
  match x with
  | .inl (ci, fs) => rfl
  | .inr (.inl n) => rfl
  | .inr (.inr (z, ts)) =>
    show (Sum.inl (if z = 0 then E.2.2.1.2.1 else E.2.2.1.2.2, ts.length, .inr (.inr (.inr (.inr (fun i => (ts[i]?).map E.2.1))))) : va_E) = Sum.inl (if z = 0 then E.2.2.1.2.1 else E.2.2.1.2.2, ts.length, .inr (.inr (.inr (.inr (fun i => (ts.map E.2.1)[i]?)))))
    rw [show (fun i => (ts[i]?).map E.2.1) = (fun i => (ts.map E.2.1)[i]?) from funext fun i => (List.getElem?_map).symm]
def gCe (E : gT) (m : Mm) (k : Nat) : Nat × va_E := (E.2.1 k, gX2 E (m k) (sTb.getD k (.inr (.inl 0))))
theorem gW_ce (E : gT) (m : Mm) : gW E m = (List.range 80).map (gCe E m) := by
  unfold gW
  exact List.map_congr_left (fun k _ => by rw [gX_2]; rfl)
def alC (a1 a2 : Nat → Nat) : Nat → Nat := fun k => if k < 57 then a1 k else a2 k
def posA : List Nat := 0 :: 45 :: ([52, 53] ++ ([50, 51] ++ ([48, 49] ++ ([46, 47] ++ (((((([] ++ [1, 2, 3, 4, 5, 6, 7, 8, 9, 10, 11, 12, 13, 14]) ++ [15, 16, 17, 18, 19, 20, 21, 22, 23, 24, 25, 26, 27, 28]) ++ [29, 30, 31, 32, 33, 34, 35, 36, 37, 38, 39, 40, 41, 42, 43, 44]) ++ [54]) ++ [55]) ++ [56])))))
def posM : List Nat := 57 :: (((((((((((((((((((((([] ++ [58]) ++ [59]) ++ [60]) ++ [61]) ++ [62]) ++ [63]) ++ [64]) ++ [65]) ++ [66]) ++ [67]) ++ [68]) ++ [69]) ++ [70]) ++ [71]) ++ [72]) ++ [73]) ++ [74]) ++ [75]) ++ [76]) ++ [77]) ++ [78]) ++ [79])
def posL : List Nat := posA ++ posM
theorem pos_all : ∀ k, k < 80 → ∃ j, j < 80 ∧ posL[j]? = some k := by decide +kernel
section FL
variable (D : va_G) (c3 : C3) (a1 a2 : Nat → Nat) (z : Nat)
theorem seg_p1 : wPl c3 (a1 1) (fun k => a1 (1 + k)) = ([1, 2, 3, 4, 5, 6, 7, 8, 9, 10, 11, 12, 13, 14] : List Nat).map (gCe (D, alC a1 a2, c3, z) u0) := rfl
theorem seg_p15 : wPl c3 (a1 15) (fun k => a1 (15 + k)) = ([15, 16, 17, 18, 19, 20, 21, 22, 23, 24, 25, 26, 27, 28] : List Nat).map (gCe (D, alC a1 a2, c3, z) u0) := rfl
theorem seg_rd : wRdr c3 (a1 29) (a1 30) (fun k => a1 (30 + k)) (a1 44) = ([29, 30, 31, 32, 33, 34, 35, 36, 37, 38, 39, 40, 41, 42, 43, 44] : List Nat).map (gCe (D, alC a1 a2, c3, z) u0) := rfl
theorem seg_46 : wSt c3 (a1 46) (a1 47) = ([46, 47] : List Nat).map (gCe (D, alC a1 a2, c3, z) u0) := rfl
theorem seg_48 : wSt c3 (a1 48) (a1 49) = ([48, 49] : List Nat).map (gCe (D, alC a1 a2, c3, z) u0) := rfl
theorem seg_50 : wSt c3 (a1 50) (a1 51) = ([50, 51] : List Nat).map (gCe (D, alC a1 a2, c3, z) u0) := rfl
theorem seg_52 : wSt c3 (a1 52) (a1 53) = ([52, 53] : List Nat).map (gCe (D, alC a1 a2, c3, z) u0) := rfl
theorem ce_57 : gCe (D, alC a1 a2, c3, z) u0 57 = (a2 57, .inr (4, [.int 0, .int 0, .ref (a2 58), .ref (a2 59), .ref (a2 60), .int 0, .int 0, .ref (a2 61), .ref (a2 62), .ref (a2 63), .ref (a2 64), .ref (a2 65), .int 0, .int 0, .ref (a2 66), .ref (a2 67), .ref (a2 68), .ref (a2 69), .ref (a2 70), .ref (a2 71), .ref (a2 72), .ref (a2 73), .int 0, .int 0, .ref (a2 74), .ref (a2 75), .ref (a2 76), .ref (a2 77), .int 0, .int 0, .int 0, .int 0, .ref (a2 78), .ref (a2 79)])) := by
  show (alC a1 a2 57, (.inr (4, ([none, none, some 58, some 59, some 60, none, none, some 61, some 62, some 63, some 64, some 65, none, none, some 66, some 67, some 68, some 69, some 70, some 71, some 72, some 73, none, none, some 74, some 75, some 76, some 77, none, none, none, none, some 78, some 79] : List (Option Nat)).mapIdx (gFd (alC a1 a2) (u0 57))) : va_E)) = _
  simp only [List.mapIdx_cons, List.mapIdx_nil, gFd]
  rfl
theorem ce_58 : gCe (D, alC a1 a2, c3, z) u0 58 = (a2 58, .inl (c3.1, 4, .inl (srt))) := rfl
theorem ce_59 : gCe (D, alC a1 a2, c3, z) u0 59 = (a2 59, .inl (c3.1, 4, .inl (fun _ => 0))) := rfl
theorem ce_60 : gCe (D, alC a1 a2, c3, z) u0 60 = (a2 60, .inl (c3.1, 240, .inl (fun _ => 0))) := rfl
theorem ce_61 : gCe (D, alC a1 a2, c3, z) u0 61 = (a2 61, .inl (c3.1, 6, .inl (fun _ => 0))) := rfl
theorem ce_62 : gCe (D, alC a1 a2, c3, z) u0 62 = (a2 62, .inl (c3.1, 6, .inl (fun _ => 0))) := rfl
theorem ce_63 : gCe (D, alC a1 a2, c3, z) u0 63 = (a2 63, .inl (c3.1, 6, .inl (fun _ => 0))) := rfl
theorem ce_64 : gCe (D, alC a1 a2, c3, z) u0 64 = (a2 64, .inl (c3.1, 6, .inl (fun _ => 0))) := rfl
theorem ce_65 : gCe (D, alC a1 a2, c3, z) u0 65 = (a2 65, .inl (c3.1, 12, .inl (fun _ => 0))) := rfl
theorem ce_66 : gCe (D, alC a1 a2, c3, z) u0 66 = (a2 66, .inl (c3.1, 6, .inl (fun _ => 0))) := rfl
theorem ce_67 : gCe (D, alC a1 a2, c3, z) u0 67 = (a2 67, .inl (c3.1, 6, .inl (fun _ => 0))) := rfl
theorem ce_68 : gCe (D, alC a1 a2, c3, z) u0 68 = (a2 68, .inl (c3.1, 6, .inl (fun _ => 0))) := rfl
theorem ce_69 : gCe (D, alC a1 a2, c3, z) u0 69 = (a2 69, .inl (c3.1, 6, .inl (fun _ => 0))) := rfl
theorem ce_70 : gCe (D, alC a1 a2, c3, z) u0 70 = (a2 70, .inl (c3.1, 12, .inl (fun _ => 0))) := rfl
theorem ce_71 : gCe (D, alC a1 a2, c3, z) u0 71 = (a2 71, .inl (c3.1, 6, .inl (fun _ => 0))) := rfl
theorem ce_72 : gCe (D, alC a1 a2, c3, z) u0 72 = (a2 72, .inl (c3.1, 6, .inl (fun _ => 0))) := rfl
theorem ce_73 : gCe (D, alC a1 a2, c3, z) u0 73 = (a2 73, .inl (c3.1, 6, .inl (fun _ => 0))) := rfl
theorem ce_74 : gCe (D, alC a1 a2, c3, z) u0 74 = (a2 74, .inl (c3.1, 6, .inl (fun _ => 0))) := rfl
theorem ce_75 : gCe (D, alC a1 a2, c3, z) u0 75 = (a2 75, .inl (c3.1, 24, .inl (fun _ => 0))) := rfl
theorem ce_76 : gCe (D, alC a1 a2, c3, z) u0 76 = (a2 76, .inl (c3.1, 6, .inl (fun _ => 0))) := rfl
theorem ce_77 : gCe (D, alC a1 a2, c3, z) u0 77 = (a2 77, .inl (c3.1, 6, .inl (fun _ => 0))) := rfl
theorem ce_78 : gCe (D, alC a1 a2, c3, z) u0 78 = (a2 78, .inl (c3.1, 8, .inl (fun _ => 0))) := rfl
theorem ce_79 : gCe (D, alC a1 a2, c3, z) u0 79 = (a2 79, .inl (c3.1, 8, .inl (fun _ => 0))) := rfl
theorem ce_54 : gCe (D, alC a1 a2, c3, z) u0 54 = (a1 54, .inl (c3.1, 6, .inl (fun _ => 0))) := rfl
theorem ce_55 : gCe (D, alC a1 a2, c3, z) u0 55 = (a1 55, .inl (c3.1, 8, .inl (fun _ => 0))) := rfl
theorem ce_56 : gCe (D, alC a1 a2, c3, z) u0 56 = (a1 56, .inl (c3.1, 8, .inl (fun _ => 0))) := rfl
theorem ce_45 : gCe (D, alC a1 a2, c3, z) u0 45 = (a1 45, .inl (c3.2.1, 4, .inr (.inr (.inr (.inr (fun i => ([a1 46, a1 48, a1 50, a1 52] : List Nat)[i]?)))))) := rfl
theorem ce_0 : gCe (D, alC a1 a2, c3, z) u0 0 = (a1 0, .inr (3, [.ref (a1 1), .ref (a1 15), .ref (a1 29), .ref (a1 45), .ref (a1 54), .ref (a1 55), .ref (a1 56), .int 0, .int 0, .int 0])) := rfl
theorem seg_A : wAO c3 a1 = posA.map (gCe (D, alC a1 a2, c3, z) u0) := by
  unfold wAO posA
  rw [seg_p1 D c3 a1 a2 z, seg_p15 D c3 a1 a2 z, seg_rd D c3 a1 a2 z, seg_46 D c3 a1 a2 z, seg_48 D c3 a1 a2 z, seg_50 D c3 a1 a2 z, seg_52 D c3 a1 a2 z]
  simp only [List.map_cons, List.map_append, List.map_nil, List.nil_append]
  rw [ce_0 D c3 a1 a2 z, ce_45 D c3 a1 a2 z, ce_54 D c3 a1 a2 z, ce_55 D c3 a1 a2 z, ce_56 D c3 a1 a2 z]
theorem seg_M : wMd c3 a2 = posM.map (gCe (D, alC a1 a2, c3, z) u0) := by
  unfold wMd posM
  simp only [List.map_cons, List.map_append, List.map_nil, List.nil_append]
  rw [ce_57 D c3 a1 a2 z, ce_58 D c3 a1 a2 z, ce_59 D c3 a1 a2 z, ce_60 D c3 a1 a2 z, ce_61 D c3 a1 a2 z, ce_62 D c3 a1 a2 z, ce_63 D c3 a1 a2 z, ce_64 D c3 a1 a2 z, ce_65 D c3 a1 a2 z, ce_66 D c3 a1 a2 z, ce_67 D c3 a1 a2 z, ce_68 D c3 a1 a2 z, ce_69 D c3 a1 a2 z, ce_70 D c3 a1 a2 z, ce_71 D c3 a1 a2 z, ce_72 D c3 a1 a2 z, ce_73 D c3 a1 a2 z, ce_74 D c3 a1 a2 z, ce_75 D c3 a1 a2 z, ce_76 D c3 a1 a2 z, ce_77 D c3 a1 a2 z, ce_78 D c3 a1 a2 z, ce_79 D c3 a1 a2 z]
theorem law_ws : wAO c3 a1 ++ wMd c3 a2 = posL.map (gCe (D, alC a1 a2, c3, z) u0) := by
  unfold posL
  rw [List.map_append, ← seg_A, ← seg_M]
theorem law_in {k : Nat} (hk : k < 80) : ∃ j : Nat, posL[j]? = some k ∧ (wAO c3 a1 ++ wMd c3 a2)[j]? = some (gCe (D, alC a1 a2, c3, z) u0 k) := by
  obtain ⟨j, -, hj⟩ := pos_all k hk
  exact ⟨j, hj, by rw [law_ws D c3 a1 a2 z, List.getElem?_map, hj]; rfl⟩
theorem law_at {k : Nat} {q : Nat × va_E} (h : (gW (D, alC a1 a2, c3, z) u0)[k]? = some q) : k < 80 ∧ q = gCe (D, alC a1 a2, c3, z) u0 k := by
  obtain ⟨hk, -⟩ := gW_in h
  rw [gW_ce, List.getElem?_map, List.getElem?_range hk] at h
  exact ⟨hk, (Option.some.inj h).symm⟩
theorem law_P {H : Heap} (h : va_P D vwCl (wAO c3 a1 ++ wMd c3 a2) H) : va_P D vwCl (gW (D, alC a1 a2, c3, z) u0) H := fun k q hq => by
  obtain ⟨hk, rfl⟩ := law_at D c3 a1 a2 z hq
  obtain ⟨j, -, hj⟩ := law_in D c3 a1 a2 z hk
  exact h j _ hj
theorem law_D {A : Nat → Prop} (h : va_D A (wAO c3 a1 ++ wMd c3 a2)) : va_D A (gW (D, alC a1 a2, c3, z) u0) := by
  refine ⟨fun i j a b ha hb e => ?_, fun k q hq => ?_⟩
  · obtain ⟨hi, rfl⟩ := law_at D c3 a1 a2 z ha
    obtain ⟨hj, rfl⟩ := law_at D c3 a1 a2 z hb
    obtain ⟨x, px, hx⟩ := law_in D c3 a1 a2 z hi
    obtain ⟨y, py, hy⟩ := law_in D c3 a1 a2 z hj
    have exy := h.1 x y _ _ hx hy e
    subst exy
    exact Option.some.inj (px.symm.trans py)
  · obtain ⟨hk, rfl⟩ := law_at D c3 a1 a2 z hq
    obtain ⟨j, -, hj⟩ := law_in D c3 a1 a2 z hk
    exact h.2 j _ hj
end FL
/-- what both hold at the start -/
def g0 : Gh := (fun _ _ => 0, fun _ => 0, 0, fun _ => (false, 0, 0, fun _ => 0), (0, fun _ => 0, fun _ => 0), 0, 0)
theorem g0_ok : Ok g0 := ⟨⟨by decide, fun i hi => absurd (show i < 0 from hi) (by omega), ⟨fun i hi => absurd (show i < 0 from hi) (by omega), fun i j hi => absurd (show i < 0 from hi) (by omega), fun a ha => absurd (show a < 0 from ha) (by omega)⟩, ⟨fun i hi => absurd (show i < 0 from hi) (by omega), fun i j hi => absurd (show i < 0 from hi) (by omega), fun a ha => absurd (show a < 0 from ha) (by omega)⟩⟩, fun i hi => absurd (show i < 0 from hi) (by omega), fun k hk => ⟨show inR 0 0 2 = true by decide, show (0 : Nat) ≤ 60 by decide⟩, by decide, fun i hi => absurd (show i < 0 from hi) (by omega)⟩
theorem u0_row {k : Nat} (h : k ≠ 58) (i : Nat) : u0 k i = 0 := by unfold u0; rw [if_neg h]
theorem g0_C : InvC u0 g0 := by
  refine ⟨⟨⟨rfl, fun i hi => absurd (show i < 0 from hi) (by omega)⟩, fun a ha => absurd (show a < 0 from ha) (by omega), rfl, rfl⟩, fun i hi => absurd (show i < 0 from hi) (by omega), rfl, fun k hk => ?_, ⟨rfl, fun i hi => absurd (show i < 0 from hi) (by omega)⟩, rfl, rfl⟩
  exact ⟨u0_row (by omega) 0, u0_row (by omega) 1, u0_row (by omega) 2, fun i _ => u0_row (by omega) i⟩
theorem g0_M : InvM u0 g0 := by
  refine ⟨⟨rfl, fun i hi => absurd (show i < 0 from hi) (by omega)⟩, fun i hi => absurd (show i < 0 from hi) (by omega), rfl, fun k hk => ?_, ⟨rfl, fun i hi => absurd (show i < 0 from hi) (by omega)⟩, rfl, rfl⟩
  refine ⟨?_, u0_row (by omega) k, fun i _ => u0_row (by omega) _⟩
  rcases (show k = 0 ∨ k = 1 ∨ k = 2 ∨ k = 3 by omega) with rfl | rfl | rfl | rfl <;> decide +kernel
theorem InvM.cf {u v : Mm} {g : Gh} (h : InvM u g) (f : CF u v) : InvM v g := h.eq (fun k hk => f k (by omega)) (fun j _ => by rw [f 57 (by omega)])
theorem InvC.rf {u v : Mm} {g : Gh} (h : InvC u g) (f : RF u v) : InvC v g := h.eq (fun k hk => f k (by omega)) (by rw [f 29 (by omega)])
