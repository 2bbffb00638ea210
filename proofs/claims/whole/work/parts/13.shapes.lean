/-! shapes by their places -/
abbrev plF (b : Nat) : List (Option Nat) := [none, some (b + 1), some (b + 2), some (b + 3), some (b + 4), some (b + 5), some (b + 8), some (b + 11), some (b + 12), some (b + 13), none, none]
abbrev aoF : List (Option Nat) := [some 1, some 15, some 29, some 45, some 54, some 55, some 56, none, none, none]
abbrev rdF : List (Option Nat) := [some 30, some 44, none, none, none]
abbrev shF (b : Nat) : List (Option Nat) := [none, none, none, some (b + 1)]
abbrev mdF : List (Option Nat) := [none, none, some 58, some 59, some 60, none, none, some 61, some 62, some 63, some 64, some 65, none, none, some 66, some 67, some 68, some 69, some 70, some 71, some 72, some 73, none, none, some 74, some 75, some 76, some 77, none, none, none, none, some 78, some 79]
def isPl (b : Nat) : Prop := b = 1 ∨ b = 15 ∨ b = 30
def isSh (b : Nat) : Prop := b = 46 ∨ b = 48 ∨ b = 50 ∨ b = 52
theorem sh_0 : sTb[0]? = some (.inl (3, aoF)) := by decide +kernel
theorem sh_29 : sTb[29]? = some (.inl (1, rdF)) := by decide +kernel
theorem sh_57 : sTb[57]? = some (.inl (4, mdF)) := by decide +kernel
theorem sh_45 : sTb[45]? = some (.inr (.inr (0, [46, 48, 50, 52]))) := by decide +kernel
theorem sh_44 : sTb[44]? = some (.inr (.inl 60)) := by decide +kernel
theorem sh_54 : sTb[54]? = some (.inr (.inl 6)) := by decide +kernel
theorem sh_55 : sTb[55]? = some (.inr (.inl 8)) := by decide +kernel
theorem sh_56 : sTb[56]? = some (.inr (.inl 8)) := by decide +kernel
theorem sh_58 : sTb[58]? = some (.inr (.inl 4)) := by decide +kernel
theorem sh_59 : sTb[59]? = some (.inr (.inl 4)) := by decide +kernel
theorem sh_60 : sTb[60]? = some (.inr (.inl 240)) := by decide +kernel
theorem sh_61 : sTb[61]? = some (.inr (.inl 6)) := by decide +kernel
theorem sh_62 : sTb[62]? = some (.inr (.inl 6)) := by decide +kernel
theorem sh_63 : sTb[63]? = some (.inr (.inl 6)) := by decide +kernel
theorem sh_64 : sTb[64]? = some (.inr (.inl 6)) := by decide +kernel
theorem sh_65 : sTb[65]? = some (.inr (.inl 12)) := by decide +kernel
theorem sh_66 : sTb[66]? = some (.inr (.inl 6)) := by decide +kernel
theorem sh_67 : sTb[67]? = some (.inr (.inl 6)) := by decide +kernel
theorem sh_68 : sTb[68]? = some (.inr (.inl 6)) := by decide +kernel
theorem sh_69 : sTb[69]? = some (.inr (.inl 6)) := by decide +kernel
theorem sh_70 : sTb[70]? = some (.inr (.inl 12)) := by decide +kernel
theorem sh_71 : sTb[71]? = some (.inr (.inl 6)) := by decide +kernel
theorem sh_72 : sTb[72]? = some (.inr (.inl 6)) := by decide +kernel
theorem sh_73 : sTb[73]? = some (.inr (.inl 6)) := by decide +kernel
theorem sh_74 : sTb[74]? = some (.inr (.inl 6)) := by decide +kernel
theorem sh_75 : sTb[75]? = some (.inr (.inl 24)) := by decide +kernel
theorem sh_76 : sTb[76]? = some (.inr (.inl 6)) := by decide +kernel
theorem sh_77 : sTb[77]? = some (.inr (.inl 6)) := by decide +kernel
theorem sh_78 : sTb[78]? = some (.inr (.inl 8)) := by decide +kernel
theorem sh_79 : sTb[79]? = some (.inr (.inl 8)) := by decide +kernel
theorem pl_0 {b : Nat} (h : isPl b) : sTb[b]? = some (.inl (0, plF b)) := by
  rcases h with rfl | rfl | rfl <;> decide +kernel
theorem pl_1 {b : Nat} (h : isPl b) : sTb[b + 1]? = some (.inr (.inl 6)) := by
  rcases h with rfl | rfl | rfl <;> decide +kernel
theorem pl_2 {b : Nat} (h : isPl b) : sTb[b + 2]? = some (.inr (.inl 6)) := by
  rcases h with rfl | rfl | rfl <;> decide +kernel
theorem pl_3 {b : Nat} (h : isPl b) : sTb[b + 3]? = some (.inr (.inl 6)) := by
  rcases h with rfl | rfl | rfl <;> decide +kernel
theorem pl_4 {b : Nat} (h : isPl b) : sTb[b + 4]? = some (.inr (.inl 6)) := by
  rcases h with rfl | rfl | rfl <;> decide +kernel
theorem pl_5 {b : Nat} (h : isPl b) : sTb[b + 5]? = some (.inr (.inr (1, [b + 6, b + 7]))) := by
  rcases h with rfl | rfl | rfl <;> decide +kernel
theorem pl_6 {b : Nat} (h : isPl b) : sTb[b + 6]? = some (.inr (.inl 6)) := by
  rcases h with rfl | rfl | rfl <;> decide +kernel
theorem pl_7 {b : Nat} (h : isPl b) : sTb[b + 7]? = some (.inr (.inl 6)) := by
  rcases h with rfl | rfl | rfl <;> decide +kernel
theorem pl_8 {b : Nat} (h : isPl b) : sTb[b + 8]? = some (.inr (.inr (1, [b + 9, b + 10]))) := by
  rcases h with rfl | rfl | rfl <;> decide +kernel
theorem pl_9 {b : Nat} (h : isPl b) : sTb[b + 9]? = some (.inr (.inl 6)) := by
  rcases h with rfl | rfl | rfl <;> decide +kernel
theorem pl_10 {b : Nat} (h : isPl b) : sTb[b + 10]? = some (.inr (.inl 6)) := by
  rcases h with rfl | rfl | rfl <;> decide +kernel
theorem pl_11 {b : Nat} (h : isPl b) : sTb[b + 11]? = some (.inr (.inl 6)) := by
  rcases h with rfl | rfl | rfl <;> decide +kernel
theorem pl_12 {b : Nat} (h : isPl b) : sTb[b + 12]? = some (.inr (.inl 6)) := by
  rcases h with rfl | rfl | rfl <;> decide +kernel
theorem pl_13 {b : Nat} (h : isPl b) : sTb[b + 13]? = some (.inr (.inl 6)) := by
  rcases h with rfl | rfl | rfl <;> decide +kernel
theorem pg_0 {b : Nat} (h : isSh b) : sTb[b]? = some (.inl (2, shF b)) := by
  rcases h with rfl | rfl | rfl | rfl <;> decide +kernel
theorem pg_1 {b : Nat} (h : isSh b) : sTb[b + 1]? = some (.inr (.inl 60)) := by
  rcases h with rfl | rfl | rfl | rfl <;> decide +kernel
theorem ipl_1 : isPl 1 := Or.inl rfl
theorem ipl_15 : isPl 15 := Or.inr (Or.inl rfl)
theorem ipl_30 : isPl 30 := Or.inr (Or.inr rfl)
/-! answers yes or no -/
def bI (c : Bool) : Int32 := if c then 1 else 0
theorem bI_t : bI true = 1 := rfl
theorem bI_f : bI false = 0 := rfl
theorem bI_nar (c : Bool) : narrow .boolean (.int (bI c)) = .int (bI c) := by cases c <;> rfl
theorem nar_1 : narrow .boolean (.int 1) = .int 1 := rfl
theorem nar_0 : narrow .boolean (.int 0) = .int 0 := rfl
section JN
variable {E : gT} {cc : ByteArray} {nL : Nat} {own : String} {ret : Option FieldType} {d : Nat} {K : Option Value → Mm → Prop} {pc : Nat} {lv : List (Option Value)} {st : List Value} {u : Mm}
theorem jb_if_eq {x : Bool} {off : Int} (tgt : Nat) (hd : decode cc pc = .ok (.ifCond .eq off, 3)) (ht : (pc : Int) + off = (tgt : Int)) (kt : x = false → G E cc nL own ret d K tgt lv st u) (kf : x = true → G E cc nL own ret d K (pc + 3) lv st u) : G E cc nL own ret d K pc lv (.int (bI x) :: st) u :=
  jg_if_eq tgt hd ht (fun h => kt (by cases x; rfl; exact absurd h (by decide))) (fun h => kf (by cases x; exact absurd rfl h; rfl))
theorem jb_if_ne {x : Bool} {off : Int} (tgt : Nat) (hd : decode cc pc = .ok (.ifCond .ne off, 3)) (ht : (pc : Int) + off = (tgt : Int)) (kt : x = true → G E cc nL own ret d K tgt lv st u) (kf : x = false → G E cc nL own ret d K (pc + 3) lv st u) : G E cc nL own ret d K pc lv (.int (bI x) :: st) u :=
  jg_if_ne tgt hd ht (fun h => kt (by cases x; exact absurd rfl h; rfl)) (fun h => kf (by cases x; rfl; exact absurd h (by decide)))
theorem jn_icmp_eq (a b : Nat) {x y : Int32} (hx : x = nI a) (hy : y = nI b) (ha : a < 2 ^ 31) (hb : b < 2 ^ 31) {off : Int} (tgt : Nat) (hd : decode cc pc = .ok (.if_icmp .eq off, 3)) (ht : (pc : Int) + off = (tgt : Int)) (kt : a = b → G E cc nL own ret d K tgt lv st u) (kf : ¬ a = b → G E cc nL own ret d K (pc + 3) lv st u) : G E cc nL own ret d K pc lv (.int y :: .int x :: st) u := by
  subst hx; subst hy
  exact jg_icmp_eq tgt hd ht (fun h => kt ((nI_eq ha hb).mp h)) (fun h => kf (fun q => h ((nI_eq ha hb).mpr q)))
theorem jn_icmp_ne (a b : Nat) {x y : Int32} (hx : x = nI a) (hy : y = nI b) (ha : a < 2 ^ 31) (hb : b < 2 ^ 31) {off : Int} (tgt : Nat) (hd : decode cc pc = .ok (.if_icmp .ne off, 3)) (ht : (pc : Int) + off = (tgt : Int)) (kt : ¬ a = b → G E cc nL own ret d K tgt lv st u) (kf : a = b → G E cc nL own ret d K (pc + 3) lv st u) : G E cc nL own ret d K pc lv (.int y :: .int x :: st) u := by
  subst hx; subst hy
  exact jg_icmp_ne tgt hd ht (fun h => kt (fun q => h ((nI_eq ha hb).mpr q))) (fun h => kf ((nI_eq ha hb).mp h))
theorem jn_icmp_lt (a b : Nat) {x y : Int32} (hx : x = nI a) (hy : y = nI b) (ha : a < 2 ^ 31) (hb : b < 2 ^ 31) {off : Int} (tgt : Nat) (hd : decode cc pc = .ok (.if_icmp .lt off, 3)) (ht : (pc : Int) + off = (tgt : Int)) (kt : a < b → G E cc nL own ret d K tgt lv st u) (kf : b ≤ a → G E cc nL own ret d K (pc + 3) lv st u) : G E cc nL own ret d K pc lv (.int y :: .int x :: st) u := by
  subst hx; subst hy
  exact jg_icmp_lt tgt hd ht (fun h => kt ((nI_ltI ha hb).mp h)) (fun h => kf (Nat.not_lt.mp fun q => h ((nI_ltI ha hb).mpr q)))
theorem jn_icmp_ge (a b : Nat) {x y : Int32} (hx : x = nI a) (hy : y = nI b) (ha : a < 2 ^ 31) (hb : b < 2 ^ 31) {off : Int} (tgt : Nat) (hd : decode cc pc = .ok (.if_icmp .ge off, 3)) (ht : (pc : Int) + off = (tgt : Int)) (kt : b ≤ a → G E cc nL own ret d K tgt lv st u) (kf : a < b → G E cc nL own ret d K (pc + 3) lv st u) : G E cc nL own ret d K pc lv (.int y :: .int x :: st) u := by
  subst hx; subst hy
  exact jg_icmp_ge tgt hd ht (fun h => kt ((nI_leI hb ha).mp h)) (fun h => kf (Nat.not_le.mp fun q => h ((nI_leI hb ha).mpr q)))
theorem jn_icmp_gt (a b : Nat) {x y : Int32} (hx : x = nI a) (hy : y = nI b) (ha : a < 2 ^ 31) (hb : b < 2 ^ 31) {off : Int} (tgt : Nat) (hd : decode cc pc = .ok (.if_icmp .gt off, 3)) (ht : (pc : Int) + off = (tgt : Int)) (kt : b < a → G E cc nL own ret d K tgt lv st u) (kf : a ≤ b → G E cc nL own ret d K (pc + 3) lv st u) : G E cc nL own ret d K pc lv (.int y :: .int x :: st) u := by
  subst hx; subst hy
  exact jg_icmp_gt tgt hd ht (fun h => kt ((nI_ltI hb ha).mp h)) (fun h => kf (Nat.not_lt.mp fun q => h ((nI_ltI hb ha).mpr q)))
theorem jn_icmp_le (a b : Nat) {x y : Int32} (hx : x = nI a) (hy : y = nI b) (ha : a < 2 ^ 31) (hb : b < 2 ^ 31) {off : Int} (tgt : Nat) (hd : decode cc pc = .ok (.if_icmp .le off, 3)) (ht : (pc : Int) + off = (tgt : Int)) (kt : a ≤ b → G E cc nL own ret d K tgt lv st u) (kf : b < a → G E cc nL own ret d K (pc + 3) lv st u) : G E cc nL own ret d K pc lv (.int y :: .int x :: st) u := by
  subst hx; subst hy
  exact jg_icmp_le tgt hd ht (fun h => kt ((nI_leI ha hb).mp h)) (fun h => kf (Nat.not_le.mp fun q => h ((nI_leI ha hb).mpr q)))
theorem jn_if_eq (a : Nat) {x : Int32} (hx : x = nI a) (ha : a < 2 ^ 31) {off : Int} (tgt : Nat) (hd : decode cc pc = .ok (.ifCond .eq off, 3)) (ht : (pc : Int) + off = (tgt : Int)) (kt : a = 0 → G E cc nL own ret d K tgt lv st u) (kf : ¬ a = 0 → G E cc nL own ret d K (pc + 3) lv st u) : G E cc nL own ret d K pc lv (.int x :: st) u := by
  subst hx
  exact jg_if_eq tgt hd ht (fun h => kt ((nI_eq ha (by decide)).mp h)) (fun h => kf (fun q => h ((nI_eq ha (by decide)).mpr q)))
theorem jn_if_ne (a : Nat) {x : Int32} (hx : x = nI a) (ha : a < 2 ^ 31) {off : Int} (tgt : Nat) (hd : decode cc pc = .ok (.ifCond .ne off, 3)) (ht : (pc : Int) + off = (tgt : Int)) (kt : ¬ a = 0 → G E cc nL own ret d K tgt lv st u) (kf : a = 0 → G E cc nL own ret d K (pc + 3) lv st u) : G E cc nL own ret d K pc lv (.int x :: st) u := by
  subst hx
  exact jg_if_ne tgt hd ht (fun h => kt (fun q => h ((nI_eq ha (by decide)).mpr q))) (fun h => kf ((nI_eq ha (by decide)).mp h))
end JN
