def RY (u : Mm) (t : Nat → Int32) (a b q : Nat) : Prop := u 57 12 = nI (a + q) ∧ ∀ i, i < b → u 60 (a + i) = t i
def AtM (u v : Mm) (a q : Nat) : Prop := (∀ k, k ≠ 57 → v k = u k) ∧ (∀ j, j ≠ 12 → v 57 j = u 57 j) ∧ v 57 12 = nI (a + q)
theorem AtM.rf {u : Mm} {a q : Nat} (h : u 57 12 = nI (a + q)) : AtM u u a q := ⟨fun _ _ => rfl, fun _ _ => rfl, h⟩
theorem AtM.mv {u : Mm} {a q : Nat} : AtM u (s2 u 57 12 (nI (a + q + 1))) a (q + 1) := ⟨fun _ h => s2_row h, fun _ h => s2_ne h, s2_self _ _ _ _⟩
theorem AtM.tr {u v w : Mm} {a q p : Nat} (h : AtM u v a q) (h2 : AtM v w a p) : AtM u w a p := ⟨fun k hk => (h2.1 k hk).trans (h.1 k hk), fun k hk => (h2.2.1 k hk).trans (h.2.1 k hk), h2.2.2⟩
theorem RY.af {u v : Mm} {t : Nat → Int32} {a b q p : Nat} (h : RY u t a b q) (h2 : AtM u v a p) : RY v t a b p := ⟨h2.2.2, fun i hi => by rw [h2.1 60 (by decide)]; exact h.2 i hi⟩
theorem nI_n9 {a : Nat} (h : a < 2 ^ 31) : ¬ nI a = -9 := fun e => by have z := nI_pos h; rw [e] at z; exact z (by decide)
theorem in48 (x : Int32) {m : Nat} (hm : m ≤ 9) : inR (x - 48) 0 (nI m) = inR x (nI (48 + 0)) (nI (48 + m)) := by
  rw [Bool.eq_iff_iff]
  constructor
  · intro h
    obtain ⟨i, -, h2, h3⟩ := inR_nat (lo := 0) (by omega) h (by omega)
    have e : x = nI (48 + i) := by have z := congrArg (· + 48) h3; simp only [Int32.sub_add_cancel] at z; rw [z, Nat.add_comm]; exact nI_add i 48
    rw [e]
    simp only [inR, Bool.and_eq_true, Bool.not_eq_true', decide_eq_false_iff_not]
    exact ⟨fun z => by have := (nI_ltI (by omega) (by omega)).mp z; omega, fun z => by have := (nI_ltI (by omega) (by omega)).mp z; omega⟩
  · intro h
    obtain ⟨i, h1, h2, h3⟩ := inR_nat (by omega) h (by omega)
    rw [h3, show (48 : Int32) = nI 48 from rfl, pk_sub (by omega)]
    simp only [inR, Bool.and_eq_true, Bool.not_eq_true', decide_eq_false_iff_not]
    exact ⟨nI_pos (by omega), fun z => by have := (nI_ltI (by omega) (by omega)).mp z; omega⟩
set_option maxHeartbeats 4000000 in
set_option maxRecDepth 20000 in
theorem c4_isSign (E : gT) (u : Mm) (t : Nat → Int32) (a b q : Nat) (hb : a + b ≤ 240) (hq : q ≤ 99) (hx : RY u t a b q) (w : Int32) : Con E yX4_isSign cX4_isSign 3 (some .boolean) 0 [.ref (E.2.1 57), .int (nI (a + b)), .int w] u (kI (fun r u2 => r = bI (sg t b q w) ∧ AtM u u2 a (if sg t b q w = true then q + 1 else q))) := by
  refine Con.of (lv := [some (.ref (E.2.1 57)), some (.int (nI (a + b))), some (.int w)]) (by decide +kernel) (Nat.le_of_ble_eq_true rfl) rfl ?_
  refine jg_aload_n dX4_isSign_0 rfl rfl ?_
  refine jg_geti fk_X4_89 sh_57 rfl dX4_isSign_1 ?_
  refine jg_top (y := nI (a + q)) (hx.1) ?_
  refine jg_iload_n dX4_isSign_4 rfl rfl ?_
  refine jn_icmp_ge (a + q) (a + b) rfl rfl (by omega) (by omega) 21 dX4_isSign_5 (by decide) (fun h_5 => ?_) (fun h_5 => ?_)
  · have e9 : sg t b q w = false := sg_n1 (by omega)
    refine jg_iconst (v := 0) dX4_isSign_21 (by decide) ?_
    exact jg_iret (rfl) dX4_isSign_22 ⟨_, rfl, ⟨by rw [e9]; rfl, by rw [if_neg (by rw [e9]; decide)]; exact AtM.rf hx.1⟩⟩
  · have hqb : q < b := by omega
    refine jg_aload_n dX4_isSign_8 rfl rfl ?_
    refine jg_getr fk_X4_16 sh_57 rfl dX4_isSign_9 ?_
    refine jg_aload_n dX4_isSign_12 rfl rfl ?_
    refine jg_geti fk_X4_89 sh_57 rfl dX4_isSign_13 ?_
    refine jg_top (y := nI (a + q)) (hx.1) ?_
    refine jg_ld (a + q) sh_60 (by omega) (rfl) dX4_isSign_16 ?_
    refine jg_top (y := t q) (hx.2 q hqb) ?_
    refine jg_iload_n dX4_isSign_17 rfl rfl ?_
    refine jg_icmp_eq 23 dX4_isSign_18 (by decide) (fun h_18 => ?_) (fun h_18 => ?_)
    · have e9 : sg t b q w = true := sg_y hqb h_18
      refine jg_aload_n dX4_isSign_23 rfl rfl ?_
      refine jg_dup dX4_isSign_24 rfl ?_
      refine jg_geti fk_X4_89 sh_57 rfl dX4_isSign_25 ?_
      refine jg_top (y := nI (a + q)) (hx.1) ?_
      refine jg_iconst (v := 1) dX4_isSign_28 (by decide) ?_
      refine jg_iaddE (z := nI ((a + q) + 1)) dX4_isSign_29 (nI_add (a + q) 1) ?_
      refine jg_puti fp_X4_89 sh_57 rfl dX4_isSign_30 ?_
      refine jg_iconst (v := 1) dX4_isSign_33 (by decide) ?_
      exact jg_iret (rfl) dX4_isSign_34 ⟨_, rfl, ⟨by rw [e9]; rfl, by rw [if_pos e9]; exact AtM.mv⟩⟩
    · have e9 : sg t b q w = false := sg_n2 h_18
      refine jg_iconst (v := 0) dX4_isSign_21 (by decide) ?_
      exact jg_iret (rfl) dX4_isSign_22 ⟨_, rfl, ⟨by rw [e9]; rfl, by rw [if_neg (by rw [e9]; decide)]; exact AtM.rf hx.1⟩⟩
set_option maxHeartbeats 4000000 in
set_option maxRecDepth 20000 in
theorem c4_digit (E : gT) (u : Mm) (t : Nat → Int32) (a b q : Nat) (hb : a + b ≤ 240) (hq : q ≤ 99) (hx : RY u t a b q) (lo hi : Nat) (h9 : hi ≤ 9) (hl : lo ≤ hi) : Con E yX4_digit cX4_digit 4 (some .int) 1 [.ref (E.2.1 57), .int (nI (a + b)), .int (nI lo), .int (nI hi)] u (kI (fun r u2 => r = (if dg t b q lo hi = true then nI (dv t q) else -9) ∧ AtM u u2 a (if dg t b q lo hi = true then q + 1 else q))) := by
  refine Con.of (lv := [some (.ref (E.2.1 57)), some (.int (nI (a + b))), some (.int (nI lo)), some (.int (nI hi))]) (by decide +kernel) (Nat.le_of_ble_eq_true rfl) rfl ?_
  refine jg_aload_n dX4_digit_0 rfl rfl ?_
  refine jg_geti fk_X4_89 sh_57 rfl dX4_digit_1 ?_
  refine jg_top (y := nI (a + q)) (hx.1) ?_
  refine jg_iload_n dX4_digit_4 rfl rfl ?_
  refine jn_icmp_ge (a + q) (a + b) rfl rfl (by omega) (by omega) 31 dX4_digit_5 (by decide) (fun h_5 => ?_) (fun h_5 => ?_)
  · have e9 : dg t b q lo hi = false := dg_n1 (by omega)
    refine jg_bipush (v := -9) dX4_digit_31 (by decide) ?_
    exact jg_iret (rfl) dX4_digit_33 ⟨_, rfl, ⟨by rw [if_neg (by rw [e9]; decide)], by rw [if_neg (by rw [e9]; decide)]; exact AtM.rf hx.1⟩⟩
  · have hqb : q < b := by omega
    refine jg_aload_n dX4_digit_8 rfl rfl ?_
    refine jg_getr fk_X4_16 sh_57 rfl dX4_digit_9 ?_
    refine jg_aload_n dX4_digit_12 rfl rfl ?_
    refine jg_geti fk_X4_89 sh_57 rfl dX4_digit_13 ?_
    refine jg_top (y := nI (a + q)) (hx.1) ?_
    refine jg_ld (a + q) sh_60 (by omega) (rfl) dX4_digit_16 ?_
    refine jg_top (y := t q) (hx.2 q hqb) ?_
    refine jg_bipush (v := 48) dX4_digit_17 (by decide) ?_
    refine jg_iload_n dX4_digit_19 rfl rfl ?_
    refine jg_iaddE (z := nI (48 + lo)) dX4_digit_20 (nI_add 48 lo) ?_
    refine jg_bipush (v := 48) dX4_digit_21 (by decide) ?_
    refine jg_iload_n dX4_digit_23 rfl rfl ?_
    refine jg_iaddE (z := nI (48 + hi)) dX4_digit_24 (nI_add 48 hi) ?_
    refine jg_callS (c4_within E u (t q) (nI (48 + lo)) (nI (48 + hi))) me_X4_within ml_X4_82 rfl (by decide) (by decide) rfl (Nat.le_of_ble_eq_true rfl) dX4_digit_25 (kk_I (fun r_25 u_25 h_25 => ?_))
    obtain ⟨rfl, rfl⟩ := h_25
    refine jb_if_ne 34 dX4_digit_28 (by decide) (fun h_28 => ?_) (fun h_28 => ?_)
    · have e9 : dg t b q lo hi = true := by simp [dg, h_28, hqb]
      obtain ⟨-, v, hv1, hv2, hv3, hv4, hv5⟩ := dg_at e9 h9 hl
      refine jg_aload_n dX4_digit_34 rfl rfl ?_
      refine jg_dup dX4_digit_35 rfl ?_
      refine jg_geti fk_X4_89 sh_57 rfl dX4_digit_36 ?_
      refine jg_top (y := nI (a + q)) (hx.1) ?_
      refine jg_iconst (v := 1) dX4_digit_39 (by decide) ?_
      refine jg_iaddE (z := nI ((a + q) + 1)) dX4_digit_40 (nI_add (a + q) 1) ?_
      refine jg_puti fp_X4_89 sh_57 rfl dX4_digit_41 ?_
      refine jg_aload_n dX4_digit_44 rfl rfl ?_
      refine jg_getr fk_X4_16 sh_57 rfl dX4_digit_45 ?_
      refine jg_aload_n dX4_digit_48 rfl rfl ?_
      refine jg_geti fk_X4_89 sh_57 rfl dX4_digit_49 ?_
      refine jg_top (y := nI (a + q + 1)) (s2_self _ _ _ _) ?_
      refine jg_iconst (v := 1) dX4_digit_52 (by decide) ?_
      refine jg_isubE (z := nI (a + q)) dX4_digit_53 (nI_pred _) ?_
      refine jg_ld (a + q) sh_60 (by omega) (rfl) dX4_digit_54 ?_
      refine jg_top (y := t q) (by rw [s2_row (by decide)]; exact hx.2 q hqb) ?_
      refine jg_bipush (v := 48) dX4_digit_55 (by decide) ?_
      refine jg_isubE (z := nI v) dX4_digit_57 (hv5) ?_
      exact jg_iret (rfl) dX4_digit_58 ⟨_, rfl, ⟨by rw [if_pos e9, hv4], by rw [if_pos e9]; exact AtM.mv⟩⟩
    · have e9 : dg t b q lo hi = false := by simp [dg, h_28]
      refine jg_bipush (v := -9) dX4_digit_31 (by decide) ?_
      exact jg_iret (rfl) dX4_digit_33 ⟨_, rfl, ⟨by rw [if_neg (by rw [e9]; decide)], by rw [if_neg (by rw [e9]; decide)]; exact AtM.rf hx.1⟩⟩
/-- what reading an area may change -/
def BRf (u v : Mm) (i : Nat) : Prop := (∀ k, k ≠ 57 → k < 66 ∨ 69 < k → v k = u k) ∧ (∀ j, j ≠ 6 → j ≠ 12 → j ≠ 13 → v 57 j = u 57 j) ∧ ∀ r, 66 ≤ r → r ≤ 69 → ∀ j, j ≠ i → v r j = u r j
theorem BRf.rf {u : Mm} {i : Nat} : BRf u u i := ⟨fun _ _ _ => rfl, fun _ _ _ _ => rfl, fun _ _ _ _ _ => rfl⟩
theorem BRf.row {u v : Mm} {i r : Nat} {x : Int32} (h : BRf u v i) (h1 : 66 ≤ r) (h2 : r ≤ 69) : BRf u (s2 v r i x) i := by
  refine ⟨fun k a b => by rw [s2_row (by omega)]; exact h.1 k a b, fun j a b c => by rw [s2_row (by omega)]; exact h.2.1 j a b c, fun k a b j hj => ?_⟩
  by_cases e : k = r
  · subst e; rw [s2_ne hj]; exact h.2.2 k a b j hj
  · rw [s2_row e]; exact h.2.2 k a b j hj
theorem BRf.fld {u v : Mm} {i r : Nat} {x : Int32} (h : BRf u v i) (h1 : r = 6 ∨ r = 12 ∨ r = 13) : BRf u (s2 v 57 r x) i :=
  ⟨fun k a b => by rw [s2_row a]; exact h.1 k a b, fun j a b c => by rw [s2_ne (by omega)]; exact h.2.1 j a b c, fun k a b j hj => by rw [s2_row (by omega)]; exact h.2.2 k a b j hj⟩
theorem BRf.at {u v w : Mm} {i a q : Nat} (h : BRf u v i) (f : AtM v w a q) : BRf u w i :=
  ⟨fun k a b => by rw [f.1 k a]; exact h.1 k a b, fun j a b c => by rw [f.2.1 j b]; exact h.2.1 j a b c, fun k a b j hj => by rw [f.1 k (by omega)]; exact h.2.2 k a b j hj⟩
def BRg (u v : Mm) (t : Nat → Int32) (a q i : Nat) : Prop := v 57 12 = nI (a + (q + 3)) ∧ v 57 6 = u 57 6 + 1 ∧ v 57 13 = nI (i + 1) ∧ v 66 i = nI (kv t q) ∧ v 67 i = nI (dv t (q + 1)) ∧ v 68 i = nI (dv t (q + 2)) ∧ v 69 i = u 57 6 + 1
def BRb (u v : Mm) (a p : Nat) : Prop := v 57 12 = nI (a + p) ∧ v 57 6 = u 57 6 ∧ v 57 13 = u 57 13
set_option maxHeartbeats 4000000 in
set_option maxRecDepth 20000 in
theorem c4_readArea (E : gT) (u : Mm) (t : Nat → Int32) (a b q : Nat) (hb : a + b ≤ 240) (hq : q ≤ 90) (hx : RY u t a b q) (i : Nat) (hi : i < 6) (hi13 : u 57 13 = nI i) : Con E yX4_readArea cX4_readArea 3 (some .boolean) 2 [.ref (E.2.1 57), .int (nI (a + b))] u (kI (fun r u2 => r = bI (aG t b q) ∧ BRf u u2 i ∧ (aG t b q = true → BRg u u2 t a q i) ∧ (aG t b q = false → BRb u u2 a (aS t b q)))) := by
  refine Con.of (lv := [some (.ref (E.2.1 57)), some (.int (nI (a + b))), none]) (by decide +kernel) (Nat.le_of_ble_eq_true rfl) rfl ?_
  refine jg_aload_n dX4_readArea_0 rfl rfl ?_
  refine jg_geti fk_X4_89 sh_57 rfl dX4_readArea_1 ?_
  refine jg_top (y := nI (a + q)) (hx.1) ?_
  refine jg_iload_n dX4_readArea_4 rfl rfl ?_
  refine jn_icmp_ge (a + q) (a + b) rfl rfl (by omega) (by omega) 20 dX4_readArea_5 (by decide) (fun h_5 => ?_) (fun h_5 => ?_)
  · have hnb : ¬ q < b := by omega
    refine jg_iconst (v := 0) dX4_readArea_20 (by decide) ?_
    refine jg_istore_n dX4_readArea_21 rfl (by decide) rfl ?_
    refine jg_aload_n dX4_readArea_22 rfl rfl ?_
    refine jg_getr fk_X4_34 sh_57 rfl dX4_readArea_23 ?_
    refine jg_aload_n dX4_readArea_26 rfl rfl ?_
    refine jg_geti fk_X4_110 sh_57 rfl dX4_readArea_27 ?_
    refine jg_top (y := nI i) (hi13) ?_
    refine jg_iload_n dX4_readArea_30 rfl rfl ?_
    refine jg_bipush (v := 112) dX4_readArea_31 (by decide) ?_
    refine jn_icmp_ne 0 112 rfl rfl (by omega) (by omega) 40 dX4_readArea_33 (by decide) (fun h_33 => ?_) (fun h_33 => absurd h_33 (by decide))
    refine jg_iload_n dX4_readArea_40 rfl rfl ?_
    refine jg_bipush (v := 98) dX4_readArea_41 (by decide) ?_
    refine jn_icmp_ne 0 98 rfl rfl (by omega) (by omega) 50 dX4_readArea_43 (by decide) (fun h_43 => ?_) (fun h_43 => absurd h_43 (by decide))
    refine jg_iload_n dX4_readArea_50 rfl rfl ?_
    refine jg_bipush (v := 100) dX4_readArea_51 (by decide) ?_
    refine jn_icmp_ne 0 100 rfl rfl (by omega) (by omega) 60 dX4_readArea_53 (by decide) (fun h_53 => ?_) (fun h_53 => absurd h_53 (by decide))
    have e1 : kg t b q = false := by simp [kg, hnb]
    have e9 : aG t b q = false := by simp [aG, e1]
    have e8 : aS t b q = q := by simp [aS, e1]
    refine jg_bipush (v := -9) dX4_readArea_60 (by decide) ?_
    refine jg_st i sh_66 (by omega) (rfl) dX4_readArea_62 ?_
    refine jg_aload_n dX4_readArea_63 rfl rfl ?_
    refine jg_getr fk_X4_34 sh_57 rfl dX4_readArea_64 ?_
    refine jg_aload_n dX4_readArea_67 rfl rfl ?_
    refine jg_geti fk_X4_110 sh_57 rfl dX4_readArea_68 ?_
    refine jg_top (y := nI i) (by rw [s2_row (by decide)]; exact hi13) ?_
    refine jg_ld i sh_66 (by omega) (rfl) dX4_readArea_71 ?_
    refine jg_top (s2_self _ _ _ _) ?_
    refine jg_bipush (v := -9) dX4_readArea_72 (by decide) ?_
    refine jg_icmp_ne 79 dX4_readArea_74 (by decide) (fun h_74 => absurd h_74 (not_not_intro rfl)) (fun h_74 => ?_)
    refine jg_iconst (v := 0) dX4_readArea_77 (by decide) ?_
    exact jg_iret (rfl) dX4_readArea_78 ⟨_, rfl, ⟨by rw [e9]; rfl, BRf.rf.row (by omega) (by omega), fun z => by rw [e9] at z; exact absurd z (by decide), fun _ => by rw [e8]; exact ⟨by rw [s2_row (by decide)]; exact hx.1, by rw [s2_row (by decide)], by rw [s2_row (by decide)]⟩⟩⟩
  · have hqb : q < b := by omega
    refine jg_aload_n dX4_readArea_8 rfl rfl ?_
    refine jg_getr fk_X4_16 sh_57 rfl dX4_readArea_9 ?_
    refine jg_aload_n dX4_readArea_12 rfl rfl ?_
    refine jg_geti fk_X4_89 sh_57 rfl dX4_readArea_13 ?_
    refine jg_top (y := nI (a + q)) (hx.1) ?_
    refine jg_ld (a + q) sh_60 (by omega) (rfl) dX4_readArea_16 ?_
    refine jg_top (y := t q) (hx.2 q hqb) ?_
    refine jg_goto 21 dX4_readArea_17 (by decide) ?_
    refine jg_istore_n dX4_readArea_21 rfl (by decide) rfl ?_
    refine jg_aload_n dX4_readArea_22 rfl rfl ?_
    refine jg_getr fk_X4_34 sh_57 rfl dX4_readArea_23 ?_
    refine jg_aload_n dX4_readArea_26 rfl rfl ?_
    refine jg_geti fk_X4_110 sh_57 rfl dX4_readArea_27 ?_
    refine jg_top (y := nI i) (hi13) ?_
    refine jg_iload_n dX4_readArea_30 rfl rfl ?_
    refine jg_bipush (v := 112) dX4_readArea_31 (by decide) ?_
    refine jg_icmp_ne 40 dX4_readArea_33 (by decide) (fun h_33 => ?_) (fun h_33 => ?_)
    · refine jg_iload_n dX4_readArea_40 rfl rfl ?_
      refine jg_bipush (v := 98) dX4_readArea_41 (by decide) ?_
      refine jg_icmp_ne 50 dX4_readArea_43 (by decide) (fun h_43 => ?_) (fun h_43 => ?_)
      · refine jg_iload_n dX4_readArea_50 rfl rfl ?_
        refine jg_bipush (v := 100) dX4_readArea_51 (by decide) ?_
        refine jg_icmp_ne 60 dX4_readArea_53 (by decide) (fun h_53 => ?_) (fun h_53 => ?_)
        · have e1 := kg_n (sg_n2 h_33) (sg_n2 h_43) (sg_n2 h_53 (b := b))
          have e9 : aG t b q = false := by simp [aG, e1]
          have e8 : aS t b q = q := by simp [aS, e1]
          refine jg_bipush (v := -9) dX4_readArea_60 (by decide) ?_
          refine jg_st i sh_66 (by omega) (rfl) dX4_readArea_62 ?_
          refine jg_aload_n dX4_readArea_63 rfl rfl ?_
          refine jg_getr fk_X4_34 sh_57 rfl dX4_readArea_64 ?_
          refine jg_aload_n dX4_readArea_67 rfl rfl ?_
          refine jg_geti fk_X4_110 sh_57 rfl dX4_readArea_68 ?_
          refine jg_top (y := nI i) (by rw [s2_row (by decide)]; exact hi13) ?_
          refine jg_ld i sh_66 (by omega) (rfl) dX4_readArea_71 ?_
          refine jg_top (s2_self _ _ _ _) ?_
          refine jg_bipush (v := -9) dX4_readArea_72 (by decide) ?_
          refine jg_icmp_ne 79 dX4_readArea_74 (by decide) (fun h_74 => absurd h_74 (not_not_intro rfl)) (fun h_74 => ?_)
          refine jg_iconst (v := 0) dX4_readArea_77 (by decide) ?_
          exact jg_iret (rfl) dX4_readArea_78 ⟨_, rfl, ⟨by rw [e9]; rfl, BRf.rf.row (by omega) (by omega), fun z => by rw [e9] at z; exact absurd z (by decide), fun _ => by rw [e8]; exact ⟨by rw [s2_row (by decide)]; exact hx.1, by rw [s2_row (by decide)], by rw [s2_row (by decide)]⟩⟩⟩
        · have e1 := kg_2 (sg_y hqb h_53)
          refine jg_iconst (v := 2) dX4_readArea_56 (by decide) ?_
          refine jg_top (y := nI (kv t q)) (by rw [e1.2]; rfl) ?_
          refine jg_goto 62 dX4_readArea_57 (by decide) ?_
          refine jg_st i sh_66 (by omega) (rfl) dX4_readArea_62 ?_
          refine jg_aload_n dX4_readArea_63 rfl rfl ?_
          refine jg_getr fk_X4_34 sh_57 rfl dX4_readArea_64 ?_
          refine jg_aload_n dX4_readArea_67 rfl rfl ?_
          refine jg_geti fk_X4_110 sh_57 rfl dX4_readArea_68 ?_
          refine jg_top (y := nI i) (by rw [s2_row (by decide)]; exact hi13) ?_
          refine jg_ld i sh_66 (by omega) (rfl) dX4_readArea_71 ?_
          refine jg_top (y := nI (kv t q)) (s2_self _ _ _ _) ?_
          refine jg_bipush (v := -9) dX4_readArea_72 (by decide) ?_
          refine jg_icmp_ne 79 dX4_readArea_74 (by decide) (fun h_74 => ?_) (fun h_74 => absurd h_74 (nI_n9 (by have := kv_lt t q; omega)))
          refine jg_aload_n dX4_readArea_79 rfl rfl ?_
          refine jg_dup dX4_readArea_80 rfl ?_
          refine jg_geti fk_X4_89 sh_57 rfl dX4_readArea_81 ?_
          refine jg_top (y := nI (a + q)) (by rw [s2_row (by decide)]; exact hx.1) ?_
          refine jg_iconst (v := 1) dX4_readArea_84 (by decide) ?_
          refine jg_iaddE (z := nI ((a + q) + 1)) dX4_readArea_85 (nI_add (a + q) 1) ?_
          refine jg_puti fp_X4_89 sh_57 rfl dX4_readArea_86 ?_
          have hy1 : RY (s2 (s2 u 66 i (nI (kv t q))) 57 12 (nI (a + q + 1))) t a b (q + 1) := ⟨s2_self _ _ _ _, fun j hj => by rw [s2_row (by decide), s2_row (by decide)]; exact hx.2 j hj⟩
          have B1 : BRf u (s2 (s2 u 66 i (nI (kv t q))) 57 12 (nI (a + q + 1))) i := (BRf.rf.row (by omega) (by omega)).fld (by omega)
          refine jg_aload_n dX4_readArea_89 rfl rfl ?_
          refine jg_getr fk_X4_37 sh_57 rfl dX4_readArea_90 ?_
          refine jg_aload_n dX4_readArea_93 rfl rfl ?_
          refine jg_geti fk_X4_110 sh_57 rfl dX4_readArea_94 ?_
          refine jg_top (y := nI i) (by rw [s2_ne (by decide), s2_row (by decide)]; exact hi13) ?_
          refine jg_aload_n dX4_readArea_97 rfl rfl ?_
          refine jg_iload_n dX4_readArea_98 rfl rfl ?_
          refine jg_iconst (v := 1) dX4_readArea_99 (by decide) ?_
          refine jg_bipush (v := 9) dX4_readArea_100 (by decide) ?_
          refine jg_callV (c4_digit E (s2 (s2 u 66 i (nI (kv t q))) 57 12 (nI (a + q + 1))) t a b (q + 1) hb (by omega) hy1 1 9 (by omega) (by omega)) me_X4_digit ml_X4_125 sh_57 rfl rfl (by decide) (by decide) rfl (Nat.le_of_ble_eq_true rfl) dX4_readArea_102 (kk_I (fun r_102 u_102 h_102 => ?_))
          obtain ⟨hr_102, a2⟩ := h_102
          have i2 : u_102 57 13 = nI i := by rw [a2.2.1 13 (by decide), s2_ne (by decide), s2_row (by decide)]; exact hi13
          have g2 : u_102 57 6 = u 57 6 := by rw [a2.2.1 6 (by decide), s2_ne (by decide), s2_row (by decide)]
          have k2 : u_102 66 i = nI (kv t q) := by rw [a2.1 66 (by decide), s2_row (by decide), s2_self]
          refine jg_st i sh_67 (by omega) (rfl) dX4_readArea_105 ?_
          refine jg_aload_n dX4_readArea_106 rfl rfl ?_
          refine jg_getr fk_X4_37 sh_57 rfl dX4_readArea_107 ?_
          refine jg_aload_n dX4_readArea_110 rfl rfl ?_
          refine jg_geti fk_X4_110 sh_57 rfl dX4_readArea_111 ?_
          refine jg_top (y := nI i) (by rw [s2_row (by decide)]; exact i2) ?_
          refine jg_ld i sh_67 (by omega) (rfl) dX4_readArea_114 ?_
          refine jg_top (y := r_102) (s2_self _ _ _ _) ?_
          refine jg_bipush (v := -9) dX4_readArea_115 (by decide) ?_
          refine jg_icmp_ne 122 dX4_readArea_117 (by decide) (fun h_117 => ?_) (fun h_117 => ?_)
          · have hp_117 : dg t b (q + 1) 1 9 = true := Classical.byContradiction fun z => by rw [hr_102, if_neg z] at h_117; exact h_117 rfl
            rw [if_pos hp_117] at hr_102 a2
            subst hr_102
            obtain ⟨m2, hm2⟩ : ∃ z, z = s2 u_102 67 i (nI (dv t (q + 1))) := ⟨_, rfl⟩
            rw [← hm2]
            have B2 : BRf u m2 i := by rw [hm2]; exact (B1.at a2).row (by omega) (by omega)
            have hy2 : RY m2 t a b (q + 2) := by rw [hm2]; exact ⟨by rw [s2_row (by decide)]; exact a2.2.2, fun j hj => by rw [s2_row (by decide)]; exact (hy1.af a2).2 j hj⟩
            have i3 : m2 57 13 = nI i := by rw [hm2, s2_row (by decide)]; exact i2
            have g3 : m2 57 6 = u 57 6 := by rw [hm2, s2_row (by decide)]; exact g2
            have k3 : m2 66 i = nI (kv t q) := by rw [hm2, s2_row (by decide)]; exact k2
            have l3 : m2 67 i = nI (dv t (q + 1)) := by rw [hm2, s2_self]
            refine jg_aload_n dX4_readArea_122 rfl rfl ?_
            refine jg_getr fk_X4_40 sh_57 rfl dX4_readArea_123 ?_
            refine jg_aload_n dX4_readArea_126 rfl rfl ?_
            refine jg_geti fk_X4_110 sh_57 rfl dX4_readArea_127 ?_
            refine jg_top (y := nI i) (i3) ?_
            refine jg_aload_n dX4_readArea_130 rfl rfl ?_
            refine jg_iload_n dX4_readArea_131 rfl rfl ?_
            refine jg_iconst (v := 1) dX4_readArea_132 (by decide) ?_
            refine jg_bipush (v := 9) dX4_readArea_133 (by decide) ?_
            refine jg_callV (c4_digit E m2 t a b (q + 2) hb (by omega) hy2 1 9 (by omega) (by omega)) me_X4_digit ml_X4_125 sh_57 rfl rfl (by decide) (by decide) rfl (Nat.le_of_ble_eq_true rfl) dX4_readArea_135 (kk_I (fun r_135 u_135 h_135 => ?_))
            obtain ⟨hr_135, a3⟩ := h_135
            refine jg_st i sh_68 (by omega) (rfl) dX4_readArea_138 ?_
            refine jg_aload_n dX4_readArea_139 rfl rfl ?_
            refine jg_getr fk_X4_40 sh_57 rfl dX4_readArea_140 ?_
            refine jg_aload_n dX4_readArea_143 rfl rfl ?_
            refine jg_geti fk_X4_110 sh_57 rfl dX4_readArea_144 ?_
            refine jg_top (y := nI i) (by rw [s2_row (by decide), a3.2.1 13 (by decide)]; exact i3) ?_
            refine jg_ld i sh_68 (by omega) (rfl) dX4_readArea_147 ?_
            refine jg_top (y := r_135) (s2_self _ _ _ _) ?_
            refine jg_bipush (v := -9) dX4_readArea_148 (by decide) ?_
            refine jg_icmp_ne 155 dX4_readArea_150 (by decide) (fun h_150 => ?_) (fun h_150 => ?_)
            · have hp_150 : dg t b (q + 2) 1 9 = true := Classical.byContradiction fun z => by rw [hr_135, if_neg z] at h_150; exact h_150 rfl
              rw [if_pos hp_150] at hr_135 a3
              subst hr_135
              have e9 : aG t b q = true := by simp [aG, e1.1, hp_117, hp_150]
              refine jg_aload_n dX4_readArea_155 rfl rfl ?_
              refine jg_dup dX4_readArea_156 rfl ?_
              refine jg_geti fk_X4_129 sh_57 rfl dX4_readArea_157 ?_
              refine jg_top (y := u 57 6) (by rw [s2_row (by decide), a3.2.1 6 (by decide)]; exact g3) ?_
              refine jg_iconst (v := 1) dX4_readArea_160 (by decide) ?_
              refine jg_iadd dX4_readArea_161 ?_
              refine jg_puti fp_X4_129 sh_57 rfl dX4_readArea_162 ?_
              refine jg_aload_n dX4_readArea_165 rfl rfl ?_
              refine jg_getr fk_X4_43 sh_57 rfl dX4_readArea_166 ?_
              refine jg_aload_n dX4_readArea_169 rfl rfl ?_
              refine jg_geti fk_X4_110 sh_57 rfl dX4_readArea_170 ?_
              refine jg_top (y := nI i) (by rw [s2_ne (by decide), s2_row (by decide), a3.2.1 13 (by decide)]; exact i3) ?_
              refine jg_aload_n dX4_readArea_173 rfl rfl ?_
              refine jg_geti fk_X4_129 sh_57 rfl dX4_readArea_174 ?_
              refine jg_top (y := u 57 6 + 1) (s2_self _ _ _ _) ?_
              refine jg_st i sh_69 (by omega) (rfl) dX4_readArea_177 ?_
              refine jg_aload_n dX4_readArea_178 rfl rfl ?_
              refine jg_dup dX4_readArea_179 rfl ?_
              refine jg_geti fk_X4_110 sh_57 rfl dX4_readArea_180 ?_
              refine jg_top (y := nI i) (by rw [s2_row (by decide), s2_ne (by decide), s2_row (by decide), a3.2.1 13 (by decide)]; exact i3) ?_
              refine jg_iconst (v := 1) dX4_readArea_183 (by decide) ?_
              refine jg_iaddE (z := nI (i + 1)) dX4_readArea_184 (nI_add i 1) ?_
              refine jg_puti fp_X4_110 sh_57 rfl dX4_readArea_185 ?_
              refine jg_iconst (v := 1) dX4_readArea_188 (by decide) ?_
              exact jg_iret (rfl) dX4_readArea_189 ⟨_, rfl, ⟨by rw [e9]; rfl, ((((B2.at a3).row (by omega) (by omega)).fld (by omega)).row (by omega) (by omega)).fld (by omega), fun _ => ⟨by rw [s2_ne (by decide), s2_row (by decide), s2_ne (by decide), s2_row (by decide)]; exact a3.2.2, by rw [s2_ne (by decide), s2_row (by decide), s2_self], s2_self _ _ _ _, by rw [s2_row (by decide), s2_row (by decide), s2_row (by decide), s2_row (by decide), a3.1 66 (by decide)]; exact k3, by rw [s2_row (by decide), s2_row (by decide), s2_row (by decide), s2_row (by decide), a3.1 67 (by decide)]; exact l3, by rw [s2_row (by decide), s2_row (by decide), s2_row (by decide), s2_self], by rw [s2_row (by decide), s2_self]⟩, fun z => by rw [e9] at z; exact absurd z (by decide)⟩⟩
            · have hp_150 : dg t b (q + 2) 1 9 = false := Bool.eq_false_iff.mpr fun z => by rw [hr_135, if_pos z] at h_150; exact nI_n9 (by have := (dv_9 z (by omega) (by omega)).2; omega) h_150
              rw [if_neg (by rw [hp_150]; decide)] at a3
              have e9 : aG t b q = false := by simp [aG, hp_150]
              have e8 : aS t b q = q + 2 := by simp [aS, e1.1, hp_117]
              refine jg_iconst (v := 0) dX4_readArea_153 (by decide) ?_
              exact jg_iret (rfl) dX4_readArea_154 ⟨_, rfl, ⟨by rw [e9]; rfl, (B2.at a3).row (by omega) (by omega), fun z => by rw [e9] at z; exact absurd z (by decide), fun _ => by rw [e8]; exact ⟨by rw [s2_row (by decide)]; exact a3.2.2, by rw [s2_row (by decide), a3.2.1 6 (by decide)]; exact g3, by rw [s2_row (by decide), a3.2.1 13 (by decide)]; exact i3.trans hi13.symm⟩⟩⟩
          · have hp_117 : dg t b (q + 1) 1 9 = false := Bool.eq_false_iff.mpr fun z => by rw [hr_102, if_pos z] at h_117; exact nI_n9 (by have := (dv_9 z (by omega) (by omega)).2; omega) h_117
            rw [if_neg (by rw [hp_117]; decide)] at a2
            have e9 : aG t b q = false := by simp [aG, hp_117]
            have e8 : aS t b q = q + 1 := by simp [aS, e1.1, hp_117]
            refine jg_iconst (v := 0) dX4_readArea_120 (by decide) ?_
            exact jg_iret (rfl) dX4_readArea_121 ⟨_, rfl, ⟨by rw [e9]; rfl, (B1.at a2).row (by omega) (by omega), fun z => by rw [e9] at z; exact absurd z (by decide), fun _ => by rw [e8]; exact ⟨by rw [s2_row (by decide)]; exact a2.2.2, by rw [s2_row (by decide)]; exact g2, by rw [s2_row (by decide)]; exact i2.trans hi13.symm⟩⟩⟩
      · have e1 := kg_1 (sg_y hqb h_43)
        refine jg_iconst (v := 1) dX4_readArea_46 (by decide) ?_
        refine jg_top (y := nI (kv t q)) (by rw [e1.2]; rfl) ?_
        refine jg_goto 62 dX4_readArea_47 (by decide) ?_
        refine jg_st i sh_66 (by omega) (rfl) dX4_readArea_62 ?_
        refine jg_aload_n dX4_readArea_63 rfl rfl ?_
        refine jg_getr fk_X4_34 sh_57 rfl dX4_readArea_64 ?_
        refine jg_aload_n dX4_readArea_67 rfl rfl ?_
        refine jg_geti fk_X4_110 sh_57 rfl dX4_readArea_68 ?_
        refine jg_top (y := nI i) (by rw [s2_row (by decide)]; exact hi13) ?_
        refine jg_ld i sh_66 (by omega) (rfl) dX4_readArea_71 ?_
        refine jg_top (y := nI (kv t q)) (s2_self _ _ _ _) ?_
        refine jg_bipush (v := -9) dX4_readArea_72 (by decide) ?_
        refine jg_icmp_ne 79 dX4_readArea_74 (by decide) (fun h_74 => ?_) (fun h_74 => absurd h_74 (nI_n9 (by have := kv_lt t q; omega)))
        refine jg_aload_n dX4_readArea_79 rfl rfl ?_
        refine jg_dup dX4_readArea_80 rfl ?_
        refine jg_geti fk_X4_89 sh_57 rfl dX4_readArea_81 ?_
        refine jg_top (y := nI (a + q)) (by rw [s2_row (by decide)]; exact hx.1) ?_
        refine jg_iconst (v := 1) dX4_readArea_84 (by decide) ?_
        refine jg_iaddE (z := nI ((a + q) + 1)) dX4_readArea_85 (nI_add (a + q) 1) ?_
        refine jg_puti fp_X4_89 sh_57 rfl dX4_readArea_86 ?_
        have hy1 : RY (s2 (s2 u 66 i (nI (kv t q))) 57 12 (nI (a + q + 1))) t a b (q + 1) := ⟨s2_self _ _ _ _, fun j hj => by rw [s2_row (by decide), s2_row (by decide)]; exact hx.2 j hj⟩
        have B1 : BRf u (s2 (s2 u 66 i (nI (kv t q))) 57 12 (nI (a + q + 1))) i := (BRf.rf.row (by omega) (by omega)).fld (by omega)
        refine jg_aload_n dX4_readArea_89 rfl rfl ?_
        refine jg_getr fk_X4_37 sh_57 rfl dX4_readArea_90 ?_
        refine jg_aload_n dX4_readArea_93 rfl rfl ?_
        refine jg_geti fk_X4_110 sh_57 rfl dX4_readArea_94 ?_
        refine jg_top (y := nI i) (by rw [s2_ne (by decide), s2_row (by decide)]; exact hi13) ?_
        refine jg_aload_n dX4_readArea_97 rfl rfl ?_
        refine jg_iload_n dX4_readArea_98 rfl rfl ?_
        refine jg_iconst (v := 1) dX4_readArea_99 (by decide) ?_
        refine jg_bipush (v := 9) dX4_readArea_100 (by decide) ?_
        refine jg_callV (c4_digit E (s2 (s2 u 66 i (nI (kv t q))) 57 12 (nI (a + q + 1))) t a b (q + 1) hb (by omega) hy1 1 9 (by omega) (by omega)) me_X4_digit ml_X4_125 sh_57 rfl rfl (by decide) (by decide) rfl (Nat.le_of_ble_eq_true rfl) dX4_readArea_102 (kk_I (fun r_102 u_102 h_102 => ?_))
        obtain ⟨hr_102, a2⟩ := h_102
        have i2 : u_102 57 13 = nI i := by rw [a2.2.1 13 (by decide), s2_ne (by decide), s2_row (by decide)]; exact hi13
        have g2 : u_102 57 6 = u 57 6 := by rw [a2.2.1 6 (by decide), s2_ne (by decide), s2_row (by decide)]
        have k2 : u_102 66 i = nI (kv t q) := by rw [a2.1 66 (by decide), s2_row (by decide), s2_self]
        refine jg_st i sh_67 (by omega) (rfl) dX4_readArea_105 ?_
        refine jg_aload_n dX4_readArea_106 rfl rfl ?_
        refine jg_getr fk_X4_37 sh_57 rfl dX4_readArea_107 ?_
        refine jg_aload_n dX4_readArea_110 rfl rfl ?_
        refine jg_geti fk_X4_110 sh_57 rfl dX4_readArea_111 ?_
        refine jg_top (y := nI i) (by rw [s2_row (by decide)]; exact i2) ?_
        refine jg_ld i sh_67 (by omega) (rfl) dX4_readArea_114 ?_
        refine jg_top (y := r_102) (s2_self _ _ _ _) ?_
        refine jg_bipush (v := -9) dX4_readArea_115 (by decide) ?_
        refine jg_icmp_ne 122 dX4_readArea_117 (by decide) (fun h_117 => ?_) (fun h_117 => ?_)
        · have hp_117 : dg t b (q + 1) 1 9 = true := Classical.byContradiction fun z => by rw [hr_102, if_neg z] at h_117; exact h_117 rfl
          rw [if_pos hp_117] at hr_102 a2
          subst hr_102
          obtain ⟨m2, hm2⟩ : ∃ z, z = s2 u_102 67 i (nI (dv t (q + 1))) := ⟨_, rfl⟩
          rw [← hm2]
          have B2 : BRf u m2 i := by rw [hm2]; exact (B1.at a2).row (by omega) (by omega)
          have hy2 : RY m2 t a b (q + 2) := by rw [hm2]; exact ⟨by rw [s2_row (by decide)]; exact a2.2.2, fun j hj => by rw [s2_row (by decide)]; exact (hy1.af a2).2 j hj⟩
          have i3 : m2 57 13 = nI i := by rw [hm2, s2_row (by decide)]; exact i2
          have g3 : m2 57 6 = u 57 6 := by rw [hm2, s2_row (by decide)]; exact g2
          have k3 : m2 66 i = nI (kv t q) := by rw [hm2, s2_row (by decide)]; exact k2
          have l3 : m2 67 i = nI (dv t (q + 1)) := by rw [hm2, s2_self]
          refine jg_aload_n dX4_readArea_122 rfl rfl ?_
          refine jg_getr fk_X4_40 sh_57 rfl dX4_readArea_123 ?_
          refine jg_aload_n dX4_readArea_126 rfl rfl ?_
          refine jg_geti fk_X4_110 sh_57 rfl dX4_readArea_127 ?_
          refine jg_top (y := nI i) (i3) ?_
          refine jg_aload_n dX4_readArea_130 rfl rfl ?_
          refine jg_iload_n dX4_readArea_131 rfl rfl ?_
          refine jg_iconst (v := 1) dX4_readArea_132 (by decide) ?_
          refine jg_bipush (v := 9) dX4_readArea_133 (by decide) ?_
          refine jg_callV (c4_digit E m2 t a b (q + 2) hb (by omega) hy2 1 9 (by omega) (by omega)) me_X4_digit ml_X4_125 sh_57 rfl rfl (by decide) (by decide) rfl (Nat.le_of_ble_eq_true rfl) dX4_readArea_135 (kk_I (fun r_135 u_135 h_135 => ?_))
          obtain ⟨hr_135, a3⟩ := h_135
          refine jg_st i sh_68 (by omega) (rfl) dX4_readArea_138 ?_
          refine jg_aload_n dX4_readArea_139 rfl rfl ?_
          refine jg_getr fk_X4_40 sh_57 rfl dX4_readArea_140 ?_
          refine jg_aload_n dX4_readArea_143 rfl rfl ?_
          refine jg_geti fk_X4_110 sh_57 rfl dX4_readArea_144 ?_
          refine jg_top (y := nI i) (by rw [s2_row (by decide), a3.2.1 13 (by decide)]; exact i3) ?_
          refine jg_ld i sh_68 (by omega) (rfl) dX4_readArea_147 ?_
          refine jg_top (y := r_135) (s2_self _ _ _ _) ?_
          refine jg_bipush (v := -9) dX4_readArea_148 (by decide) ?_
          refine jg_icmp_ne 155 dX4_readArea_150 (by decide) (fun h_150 => ?_) (fun h_150 => ?_)
          · have hp_150 : dg t b (q + 2) 1 9 = true := Classical.byContradiction fun z => by rw [hr_135, if_neg z] at h_150; exact h_150 rfl
            rw [if_pos hp_150] at hr_135 a3
            subst hr_135
            have e9 : aG t b q = true := by simp [aG, e1.1, hp_117, hp_150]
            refine jg_aload_n dX4_readArea_155 rfl rfl ?_
            refine jg_dup dX4_readArea_156 rfl ?_
            refine jg_geti fk_X4_129 sh_57 rfl dX4_readArea_157 ?_
            refine jg_top (y := u 57 6) (by rw [s2_row (by decide), a3.2.1 6 (by decide)]; exact g3) ?_
            refine jg_iconst (v := 1) dX4_readArea_160 (by decide) ?_
            refine jg_iadd dX4_readArea_161 ?_
            refine jg_puti fp_X4_129 sh_57 rfl dX4_readArea_162 ?_
            refine jg_aload_n dX4_readArea_165 rfl rfl ?_
            refine jg_getr fk_X4_43 sh_57 rfl dX4_readArea_166 ?_
            refine jg_aload_n dX4_readArea_169 rfl rfl ?_
            refine jg_geti fk_X4_110 sh_57 rfl dX4_readArea_170 ?_
            refine jg_top (y := nI i) (by rw [s2_ne (by decide), s2_row (by decide), a3.2.1 13 (by decide)]; exact i3) ?_
            refine jg_aload_n dX4_readArea_173 rfl rfl ?_
            refine jg_geti fk_X4_129 sh_57 rfl dX4_readArea_174 ?_
            refine jg_top (y := u 57 6 + 1) (s2_self _ _ _ _) ?_
            refine jg_st i sh_69 (by omega) (rfl) dX4_readArea_177 ?_
            refine jg_aload_n dX4_readArea_178 rfl rfl ?_
            refine jg_dup dX4_readArea_179 rfl ?_
            refine jg_geti fk_X4_110 sh_57 rfl dX4_readArea_180 ?_
            refine jg_top (y := nI i) (by rw [s2_row (by decide), s2_ne (by decide), s2_row (by decide), a3.2.1 13 (by decide)]; exact i3) ?_
            refine jg_iconst (v := 1) dX4_readArea_183 (by decide) ?_
            refine jg_iaddE (z := nI (i + 1)) dX4_readArea_184 (nI_add i 1) ?_
            refine jg_puti fp_X4_110 sh_57 rfl dX4_readArea_185 ?_
            refine jg_iconst (v := 1) dX4_readArea_188 (by decide) ?_
            exact jg_iret (rfl) dX4_readArea_189 ⟨_, rfl, ⟨by rw [e9]; rfl, ((((B2.at a3).row (by omega) (by omega)).fld (by omega)).row (by omega) (by omega)).fld (by omega), fun _ => ⟨by rw [s2_ne (by decide), s2_row (by decide), s2_ne (by decide), s2_row (by decide)]; exact a3.2.2, by rw [s2_ne (by decide), s2_row (by decide), s2_self], s2_self _ _ _ _, by rw [s2_row (by decide), s2_row (by decide), s2_row (by decide), s2_row (by decide), a3.1 66 (by decide)]; exact k3, by rw [s2_row (by decide), s2_row (by decide), s2_row (by decide), s2_row (by decide), a3.1 67 (by decide)]; exact l3, by rw [s2_row (by decide), s2_row (by decide), s2_row (by decide), s2_self], by rw [s2_row (by decide), s2_self]⟩, fun z => by rw [e9] at z; exact absurd z (by decide)⟩⟩
          · have hp_150 : dg t b (q + 2) 1 9 = false := Bool.eq_false_iff.mpr fun z => by rw [hr_135, if_pos z] at h_150; exact nI_n9 (by have := (dv_9 z (by omega) (by omega)).2; omega) h_150
            rw [if_neg (by rw [hp_150]; decide)] at a3
            have e9 : aG t b q = false := by simp [aG, hp_150]
            have e8 : aS t b q = q + 2 := by simp [aS, e1.1, hp_117]
            refine jg_iconst (v := 0) dX4_readArea_153 (by decide) ?_
            exact jg_iret (rfl) dX4_readArea_154 ⟨_, rfl, ⟨by rw [e9]; rfl, (B2.at a3).row (by omega) (by omega), fun z => by rw [e9] at z; exact absurd z (by decide), fun _ => by rw [e8]; exact ⟨by rw [s2_row (by decide)]; exact a3.2.2, by rw [s2_row (by decide), a3.2.1 6 (by decide)]; exact g3, by rw [s2_row (by decide), a3.2.1 13 (by decide)]; exact i3.trans hi13.symm⟩⟩⟩
        · have hp_117 : dg t b (q + 1) 1 9 = false := Bool.eq_false_iff.mpr fun z => by rw [hr_102, if_pos z] at h_117; exact nI_n9 (by have := (dv_9 z (by omega) (by omega)).2; omega) h_117
          rw [if_neg (by rw [hp_117]; decide)] at a2
          have e9 : aG t b q = false := by simp [aG, hp_117]
          have e8 : aS t b q = q + 1 := by simp [aS, e1.1, hp_117]
          refine jg_iconst (v := 0) dX4_readArea_120 (by decide) ?_
          exact jg_iret (rfl) dX4_readArea_121 ⟨_, rfl, ⟨by rw [e9]; rfl, (B1.at a2).row (by omega) (by omega), fun z => by rw [e9] at z; exact absurd z (by decide), fun _ => by rw [e8]; exact ⟨by rw [s2_row (by decide)]; exact a2.2.2, by rw [s2_row (by decide)]; exact g2, by rw [s2_row (by decide)]; exact i2.trans hi13.symm⟩⟩⟩
    · have e1 := kg_0 (sg_y hqb h_33)
      refine jg_iconst (v := 0) dX4_readArea_36 (by decide) ?_
      refine jg_top (y := nI (kv t q)) (by rw [e1.2]; rfl) ?_
      refine jg_goto 62 dX4_readArea_37 (by decide) ?_
      refine jg_st i sh_66 (by omega) (rfl) dX4_readArea_62 ?_
      refine jg_aload_n dX4_readArea_63 rfl rfl ?_
      refine jg_getr fk_X4_34 sh_57 rfl dX4_readArea_64 ?_
      refine jg_aload_n dX4_readArea_67 rfl rfl ?_
      refine jg_geti fk_X4_110 sh_57 rfl dX4_readArea_68 ?_
      refine jg_top (y := nI i) (by rw [s2_row (by decide)]; exact hi13) ?_
      refine jg_ld i sh_66 (by omega) (rfl) dX4_readArea_71 ?_
      refine jg_top (y := nI (kv t q)) (s2_self _ _ _ _) ?_
      refine jg_bipush (v := -9) dX4_readArea_72 (by decide) ?_
      refine jg_icmp_ne 79 dX4_readArea_74 (by decide) (fun h_74 => ?_) (fun h_74 => absurd h_74 (nI_n9 (by have := kv_lt t q; omega)))
      refine jg_aload_n dX4_readArea_79 rfl rfl ?_
      refine jg_dup dX4_readArea_80 rfl ?_
      refine jg_geti fk_X4_89 sh_57 rfl dX4_readArea_81 ?_
      refine jg_top (y := nI (a + q)) (by rw [s2_row (by decide)]; exact hx.1) ?_
      refine jg_iconst (v := 1) dX4_readArea_84 (by decide) ?_
      refine jg_iaddE (z := nI ((a + q) + 1)) dX4_readArea_85 (nI_add (a + q) 1) ?_
      refine jg_puti fp_X4_89 sh_57 rfl dX4_readArea_86 ?_
      have hy1 : RY (s2 (s2 u 66 i (nI (kv t q))) 57 12 (nI (a + q + 1))) t a b (q + 1) := ⟨s2_self _ _ _ _, fun j hj => by rw [s2_row (by decide), s2_row (by decide)]; exact hx.2 j hj⟩
      have B1 : BRf u (s2 (s2 u 66 i (nI (kv t q))) 57 12 (nI (a + q + 1))) i := (BRf.rf.row (by omega) (by omega)).fld (by omega)
      refine jg_aload_n dX4_readArea_89 rfl rfl ?_
      refine jg_getr fk_X4_37 sh_57 rfl dX4_readArea_90 ?_
      refine jg_aload_n dX4_readArea_93 rfl rfl ?_
      refine jg_geti fk_X4_110 sh_57 rfl dX4_readArea_94 ?_
      refine jg_top (y := nI i) (by rw [s2_ne (by decide), s2_row (by decide)]; exact hi13) ?_
      refine jg_aload_n dX4_readArea_97 rfl rfl ?_
      refine jg_iload_n dX4_readArea_98 rfl rfl ?_
      refine jg_iconst (v := 1) dX4_readArea_99 (by decide) ?_
      refine jg_bipush (v := 9) dX4_readArea_100 (by decide) ?_
      refine jg_callV (c4_digit E (s2 (s2 u 66 i (nI (kv t q))) 57 12 (nI (a + q + 1))) t a b (q + 1) hb (by omega) hy1 1 9 (by omega) (by omega)) me_X4_digit ml_X4_125 sh_57 rfl rfl (by decide) (by decide) rfl (Nat.le_of_ble_eq_true rfl) dX4_readArea_102 (kk_I (fun r_102 u_102 h_102 => ?_))
      obtain ⟨hr_102, a2⟩ := h_102
      have i2 : u_102 57 13 = nI i := by rw [a2.2.1 13 (by decide), s2_ne (by decide), s2_row (by decide)]; exact hi13
      have g2 : u_102 57 6 = u 57 6 := by rw [a2.2.1 6 (by decide), s2_ne (by decide), s2_row (by decide)]
      have k2 : u_102 66 i = nI (kv t q) := by rw [a2.1 66 (by decide), s2_row (by decide), s2_self]
      refine jg_st i sh_67 (by omega) (rfl) dX4_readArea_105 ?_
      refine jg_aload_n dX4_readArea_106 rfl rfl ?_
      refine jg_getr fk_X4_37 sh_57 rfl dX4_readArea_107 ?_
      refine jg_aload_n dX4_readArea_110 rfl rfl ?_
      refine jg_geti fk_X4_110 sh_57 rfl dX4_readArea_111 ?_
      refine jg_top (y := nI i) (by rw [s2_row (by decide)]; exact i2) ?_
      refine jg_ld i sh_67 (by omega) (rfl) dX4_readArea_114 ?_
      refine jg_top (y := r_102) (s2_self _ _ _ _) ?_
      refine jg_bipush (v := -9) dX4_readArea_115 (by decide) ?_
      refine jg_icmp_ne 122 dX4_readArea_117 (by decide) (fun h_117 => ?_) (fun h_117 => ?_)
      · have hp_117 : dg t b (q + 1) 1 9 = true := Classical.byContradiction fun z => by rw [hr_102, if_neg z] at h_117; exact h_117 rfl
        rw [if_pos hp_117] at hr_102 a2
        subst hr_102
        obtain ⟨m2, hm2⟩ : ∃ z, z = s2 u_102 67 i (nI (dv t (q + 1))) := ⟨_, rfl⟩
        rw [← hm2]
        have B2 : BRf u m2 i := by rw [hm2]; exact (B1.at a2).row (by omega) (by omega)
        have hy2 : RY m2 t a b (q + 2) := by rw [hm2]; exact ⟨by rw [s2_row (by decide)]; exact a2.2.2, fun j hj => by rw [s2_row (by decide)]; exact (hy1.af a2).2 j hj⟩
        have i3 : m2 57 13 = nI i := by rw [hm2, s2_row (by decide)]; exact i2
        have g3 : m2 57 6 = u 57 6 := by rw [hm2, s2_row (by decide)]; exact g2
        have k3 : m2 66 i = nI (kv t q) := by rw [hm2, s2_row (by decide)]; exact k2
        have l3 : m2 67 i = nI (dv t (q + 1)) := by rw [hm2, s2_self]
        refine jg_aload_n dX4_readArea_122 rfl rfl ?_
        refine jg_getr fk_X4_40 sh_57 rfl dX4_readArea_123 ?_
        refine jg_aload_n dX4_readArea_126 rfl rfl ?_
        refine jg_geti fk_X4_110 sh_57 rfl dX4_readArea_127 ?_
        refine jg_top (y := nI i) (i3) ?_
        refine jg_aload_n dX4_readArea_130 rfl rfl ?_
        refine jg_iload_n dX4_readArea_131 rfl rfl ?_
        refine jg_iconst (v := 1) dX4_readArea_132 (by decide) ?_
        refine jg_bipush (v := 9) dX4_readArea_133 (by decide) ?_
        refine jg_callV (c4_digit E m2 t a b (q + 2) hb (by omega) hy2 1 9 (by omega) (by omega)) me_X4_digit ml_X4_125 sh_57 rfl rfl (by decide) (by decide) rfl (Nat.le_of_ble_eq_true rfl) dX4_readArea_135 (kk_I (fun r_135 u_135 h_135 => ?_))
        obtain ⟨hr_135, a3⟩ := h_135
        refine jg_st i sh_68 (by omega) (rfl) dX4_readArea_138 ?_
        refine jg_aload_n dX4_readArea_139 rfl rfl ?_
        refine jg_getr fk_X4_40 sh_57 rfl dX4_readArea_140 ?_
        refine jg_aload_n dX4_readArea_143 rfl rfl ?_
        refine jg_geti fk_X4_110 sh_57 rfl dX4_readArea_144 ?_
        refine jg_top (y := nI i) (by rw [s2_row (by decide), a3.2.1 13 (by decide)]; exact i3) ?_
        refine jg_ld i sh_68 (by omega) (rfl) dX4_readArea_147 ?_
        refine jg_top (y := r_135) (s2_self _ _ _ _) ?_
        refine jg_bipush (v := -9) dX4_readArea_148 (by decide) ?_
        refine jg_icmp_ne 155 dX4_readArea_150 (by decide) (fun h_150 => ?_) (fun h_150 => ?_)
        · have hp_150 : dg t b (q + 2) 1 9 = true := Classical.byContradiction fun z => by rw [hr_135, if_neg z] at h_150; exact h_150 rfl
          rw [if_pos hp_150] at hr_135 a3
          subst hr_135
          have e9 : aG t b q = true := by simp [aG, e1.1, hp_117, hp_150]
          refine jg_aload_n dX4_readArea_155 rfl rfl ?_
          refine jg_dup dX4_readArea_156 rfl ?_
          refine jg_geti fk_X4_129 sh_57 rfl dX4_readArea_157 ?_
          refine jg_top (y := u 57 6) (by rw [s2_row (by decide), a3.2.1 6 (by decide)]; exact g3) ?_
          refine jg_iconst (v := 1) dX4_readArea_160 (by decide) ?_
          refine jg_iadd dX4_readArea_161 ?_
          refine jg_puti fp_X4_129 sh_57 rfl dX4_readArea_162 ?_
          refine jg_aload_n dX4_readArea_165 rfl rfl ?_
          refine jg_getr fk_X4_43 sh_57 rfl dX4_readArea_166 ?_
          refine jg_aload_n dX4_readArea_169 rfl rfl ?_
          refine jg_geti fk_X4_110 sh_57 rfl dX4_readArea_170 ?_
          refine jg_top (y := nI i) (by rw [s2_ne (by decide), s2_row (by decide), a3.2.1 13 (by decide)]; exact i3) ?_
          refine jg_aload_n dX4_readArea_173 rfl rfl ?_
          refine jg_geti fk_X4_129 sh_57 rfl dX4_readArea_174 ?_
          refine jg_top (y := u 57 6 + 1) (s2_self _ _ _ _) ?_
          refine jg_st i sh_69 (by omega) (rfl) dX4_readArea_177 ?_
          refine jg_aload_n dX4_readArea_178 rfl rfl ?_
          refine jg_dup dX4_readArea_179 rfl ?_
          refine jg_geti fk_X4_110 sh_57 rfl dX4_readArea_180 ?_
          refine jg_top (y := nI i) (by rw [s2_row (by decide), s2_ne (by decide), s2_row (by decide), a3.2.1 13 (by decide)]; exact i3) ?_
          refine jg_iconst (v := 1) dX4_readArea_183 (by decide) ?_
          refine jg_iaddE (z := nI (i + 1)) dX4_readArea_184 (nI_add i 1) ?_
          refine jg_puti fp_X4_110 sh_57 rfl dX4_readArea_185 ?_
          refine jg_iconst (v := 1) dX4_readArea_188 (by decide) ?_
          exact jg_iret (rfl) dX4_readArea_189 ⟨_, rfl, ⟨by rw [e9]; rfl, ((((B2.at a3).row (by omega) (by omega)).fld (by omega)).row (by omega) (by omega)).fld (by omega), fun _ => ⟨by rw [s2_ne (by decide), s2_row (by decide), s2_ne (by decide), s2_row (by decide)]; exact a3.2.2, by rw [s2_ne (by decide), s2_row (by decide), s2_self], s2_self _ _ _ _, by rw [s2_row (by decide), s2_row (by decide), s2_row (by decide), s2_row (by decide), a3.1 66 (by decide)]; exact k3, by rw [s2_row (by decide), s2_row (by decide), s2_row (by decide), s2_row (by decide), a3.1 67 (by decide)]; exact l3, by rw [s2_row (by decide), s2_row (by decide), s2_row (by decide), s2_self], by rw [s2_row (by decide), s2_self]⟩, fun z => by rw [e9] at z; exact absurd z (by decide)⟩⟩
        · have hp_150 : dg t b (q + 2) 1 9 = false := Bool.eq_false_iff.mpr fun z => by rw [hr_135, if_pos z] at h_150; exact nI_n9 (by have := (dv_9 z (by omega) (by omega)).2; omega) h_150
          rw [if_neg (by rw [hp_150]; decide)] at a3
          have e9 : aG t b q = false := by simp [aG, hp_150]
          have e8 : aS t b q = q + 2 := by simp [aS, e1.1, hp_117]
          refine jg_iconst (v := 0) dX4_readArea_153 (by decide) ?_
          exact jg_iret (rfl) dX4_readArea_154 ⟨_, rfl, ⟨by rw [e9]; rfl, (B2.at a3).row (by omega) (by omega), fun z => by rw [e9] at z; exact absurd z (by decide), fun _ => by rw [e8]; exact ⟨by rw [s2_row (by decide)]; exact a3.2.2, by rw [s2_row (by decide), a3.2.1 6 (by decide)]; exact g3, by rw [s2_row (by decide), a3.2.1 13 (by decide)]; exact i3.trans hi13.symm⟩⟩⟩
      · have hp_117 : dg t b (q + 1) 1 9 = false := Bool.eq_false_iff.mpr fun z => by rw [hr_102, if_pos z] at h_117; exact nI_n9 (by have := (dv_9 z (by omega) (by omega)).2; omega) h_117
        rw [if_neg (by rw [hp_117]; decide)] at a2
        have e9 : aG t b q = false := by simp [aG, hp_117]
        have e8 : aS t b q = q + 1 := by simp [aS, e1.1, hp_117]
        refine jg_iconst (v := 0) dX4_readArea_120 (by decide) ?_
        exact jg_iret (rfl) dX4_readArea_121 ⟨_, rfl, ⟨by rw [e9]; rfl, (B1.at a2).row (by omega) (by omega), fun z => by rw [e9] at z; exact absurd z (by decide), fun _ => by rw [e8]; exact ⟨by rw [s2_row (by decide)]; exact a2.2.2, by rw [s2_row (by decide)]; exact g2, by rw [s2_row (by decide)]; exact i2.trans hi13.symm⟩⟩⟩
set_option maxHeartbeats 4000000 in
set_option maxRecDepth 20000 in
theorem c4_readOrderNext (E : gT) (u : Mm) (t : Nat → Int32) (a b q : Nat) (hb : a + b ≤ 240) (hq : q ≤ 80) (hx : RY u t a b q) (n f : Nat) (hf : f ≤ 6) (h1 : 1 ≤ n) (hn : n ≤ 6) (h13 : u 57 13 = nI n) : Con E yX4_readOrderNext cX4_readOrderNext 6 (some .boolean) 1 [.ref (E.2.1 57), .int (nI (a + b)), .int (nI f)] u (kI (fun r u2 => r = bI (oK t b n q) ∧ u2 57 12 = nI (a + oAt t b n q) ∧ (∀ k, k ≠ 57 → k ≠ 70 → u2 k = u k) ∧ (∀ j, j ≠ 12 → u2 57 j = u 57 j) ∧ (∀ j, j < f ∨ f + n ≤ j → u2 70 j = u 70 j) ∧ (oK t b n q = true → ∀ k, k < n → u2 70 (f + k) = nI (dv t (q + 1 + k))))) := by
  refine Con.of (lv := [some (.ref (E.2.1 57)), some (.int (nI (a + b))), some (.int (nI f)), none, none, none]) (by decide +kernel) (Nat.le_of_ble_eq_true rfl) rfl ?_
  refine jg_aload_n dX4_readOrderNext_0 rfl rfl ?_
  refine jg_iload_n dX4_readOrderNext_1 rfl rfl ?_
  refine jg_bipush (v := 44) dX4_readOrderNext_2 (by decide) ?_
  refine jg_callV (c4_isSign E u t a b q hb (by omega) hx 44) me_X4_isSign ml_X4_116 sh_57 rfl rfl (by decide) (by decide) rfl (Nat.le_of_ble_eq_true rfl) dX4_readOrderNext_4 (kk_I (fun r_4 u_4 h_4 => ?_))
  obtain ⟨rfl, a1⟩ := h_4
  refine jb_if_ne 12 dX4_readOrderNext_7 (by decide) (fun h_7 => ?_) (fun h_7 => ?_)
  · rw [if_pos h_7] at a1
    have e8 : oAt t b n q = q + 1 + oN t b n q := by simp [oAt, h_7]
    refine jg_iconst (v := 0) dX4_readOrderNext_12 (by decide) ?_
    refine jg_istore_n dX4_readOrderNext_13 rfl (by decide) rfl ?_
    refine jg_iconst (v := 0) dX4_readOrderNext_14 (by decide) ?_
    refine jg_istore dX4_readOrderNext_15 (by decide) rfl ?_
    have cut_17 : ∀ (m k s : Nat) (x : Mm), k ≤ n → n < k + m → (∀ j, j < k → oG t b n (q + 1) j = true) → SN s (sn t (q + 1) k) → RY x t a b (q + 1 + k) → (∀ r, r ≠ 57 → r ≠ 70 → x r = u r) → (∀ j, j ≠ 12 → x 57 j = u 57 j) → (∀ j, j < f ∨ f + n ≤ j → x 70 j = u 70 j) → (∀ i, i < k → x 70 (f + i) = nI (dv t (q + 1 + i))) → G E cX4_readOrderNext 6 (yX4_readOrderNext).cls (some .boolean) 1 (kI (fun r u2 => r = bI (oK t b n q) ∧ u2 57 12 = nI (a + oAt t b n q) ∧ (∀ k, k ≠ 57 → k ≠ 70 → u2 k = u k) ∧ (∀ j, j ≠ 12 → u2 57 j = u 57 j) ∧ (∀ j, j < f ∨ f + n ≤ j → u2 70 j = u 70 j) ∧ (oK t b n q = true → ∀ k, k < n → u2 70 (f + k) = nI (dv t (q + 1 + k))))) 17 [some (.ref (E.2.1 57)), some (.int (nI (a + b))), some (.int (nI f)), some (.int (nI s)), some (.int (nI k)), none] [] x := by
      intro m
      induction m with
      | zero => intro k s x h1 h2; omega
      | succ m ih =>
        intro k s x hk hm hok hS hxx hr hj ho hd
        refine jg_iload dX4_readOrderNext_17 rfl ?_
        refine jg_aload_n dX4_readOrderNext_19 rfl rfl ?_
        refine jg_geti fk_X4_110 sh_57 rfl dX4_readOrderNext_20 ?_
        refine jg_top (y := nI n) (by rw [hj 13 (by decide)]; exact h13) ?_
        refine jn_icmp_ge k n rfl rfl (by omega) (by omega) 114 dX4_readOrderNext_23 (by decide) (fun h_23 => ?_) (fun h_23 => ?_)
        · obtain rfl : k = n := by omega
          have en : oN t b k q = k := fsF_eq (by omega) hok (by omega)
          have e9 : oK t b k q = true := by simp [oK, h_7, en]
          refine jg_iconst (v := 1) dX4_readOrderNext_114 (by decide) ?_
          exact jg_iret (rfl) dX4_readOrderNext_115 ⟨_, rfl, ⟨by rw [e9]; rfl, by rw [e8, en]; exact hxx.1, hr, hj, fun j z => ho j (by omega), fun _ i hi => hd i hi⟩⟩
        · have hkn : k < n := by omega
          refine jg_aload_n dX4_readOrderNext_26 rfl rfl ?_
          refine jg_geti fk_X4_89 sh_57 rfl dX4_readOrderNext_27 ?_
          refine jg_top (y := nI (a + (q + 1 + k))) (hxx.1) ?_
          refine jg_iload_n dX4_readOrderNext_30 rfl rfl ?_
          refine jn_icmp_ge (a + (q + 1 + k)) (a + b) rfl rfl (by omega) (by omega) 49 dX4_readOrderNext_31 (by decide) (fun h_31 => ?_) (fun h_31 => ?_)
          · have hnb : ¬ q + 1 + k < b := by omega
            refine jg_bipush (v := -9) dX4_readOrderNext_49 (by decide) ?_
            refine jg_istore dX4_readOrderNext_51 (by decide) rfl ?_
            refine jg_iload dX4_readOrderNext_53 rfl ?_
            refine jg_iconst (v := 0) dX4_readOrderNext_55 (by decide) ?_
            refine jg_aload_n dX4_readOrderNext_56 rfl rfl ?_
            refine jg_geti fk_X4_110 sh_57 rfl dX4_readOrderNext_57 ?_
            refine jg_top (y := nI n) (by rw [hj 13 (by decide)]; exact h13) ?_
            refine jg_iconst (v := 1) dX4_readOrderNext_60 (by decide) ?_
            refine jg_isubE (z := nI (n - 1)) dX4_readOrderNext_61 (pk_sub (b := 1) (by omega)) ?_
            refine jg_callS (c4_within E x (-9) 0 (nI (n - 1))) me_X4_within ml_X4_82 rfl (by decide) (by decide) rfl (Nat.le_of_ble_eq_true rfl) dX4_readOrderNext_62 (kk_I (fun r_62 u_62 h_62 => ?_))
            obtain ⟨rfl, rfl⟩ := h_62
            refine jb_if_eq 78 dX4_readOrderNext_65 (by decide) (fun h_65 => ?_) (fun h_65 => absurd h_65 (by simp [inR]))
            have hp : dg t b (q + 1 + k) 0 (n - 1) = false := dg_n1 hnb
            have en : oN t b n q = k := fsF_eq (by omega) hok (fun _ => by simp [oG, hp])
            have e9 : oK t b n q = false := by simp [oK, en]; omega
            refine jg_iconst (v := 0) dX4_readOrderNext_78 (by decide) ?_
            exact jg_iret (rfl) dX4_readOrderNext_79 ⟨_, rfl, ⟨by rw [e9]; rfl, by rw [e8, en]; exact hxx.1, hr, hj, fun j z => ho j (by omega), fun z => by rw [e9] at z; exact absurd z (by decide)⟩⟩
          · have hqb : q + 1 + k < b := by omega
            refine jg_aload_n dX4_readOrderNext_34 rfl rfl ?_
            refine jg_getr fk_X4_16 sh_57 rfl dX4_readOrderNext_35 ?_
            refine jg_aload_n dX4_readOrderNext_38 rfl rfl ?_
            refine jg_geti fk_X4_89 sh_57 rfl dX4_readOrderNext_39 ?_
            refine jg_top (y := nI (a + (q + 1 + k))) (hxx.1) ?_
            refine jg_ld (a + (q + 1 + k)) sh_60 (by omega) (rfl) dX4_readOrderNext_42 ?_
            refine jg_top (y := t (q + 1 + k)) (hxx.2 _ hqb) ?_
            refine jg_bipush (v := 48) dX4_readOrderNext_43 (by decide) ?_
            refine jg_isub dX4_readOrderNext_45 ?_
            refine jg_goto 51 dX4_readOrderNext_46 (by decide) ?_
            refine jg_istore dX4_readOrderNext_51 (by decide) rfl ?_
            refine jg_iload dX4_readOrderNext_53 rfl ?_
            refine jg_iconst (v := 0) dX4_readOrderNext_55 (by decide) ?_
            refine jg_aload_n dX4_readOrderNext_56 rfl rfl ?_
            refine jg_geti fk_X4_110 sh_57 rfl dX4_readOrderNext_57 ?_
            refine jg_top (y := nI n) (by rw [hj 13 (by decide)]; exact h13) ?_
            refine jg_iconst (v := 1) dX4_readOrderNext_60 (by decide) ?_
            refine jg_isubE (z := nI (n - 1)) dX4_readOrderNext_61 (pk_sub (b := 1) (by omega)) ?_
            refine jg_callS (c4_within E x (t (q + 1 + k) - 48) 0 (nI (n - 1))) me_X4_within ml_X4_82 rfl (by decide) (by decide) rfl (Nat.le_of_ble_eq_true rfl) dX4_readOrderNext_62 (kk_I (fun r_62 u_62 h_62 => ?_))
            obtain ⟨rfl, rfl⟩ := h_62
            refine jg_top (y := bI (inR (t (q + 1 + k)) (nI (48 + 0)) (nI (48 + (n - 1))))) (congrArg bI (in48 _ (by omega))) ?_
            refine jb_if_eq 78 dX4_readOrderNext_65 (by decide) (fun h_65 => ?_) (fun h_65 => ?_)
            · have hp : dg t b (q + 1 + k) 0 (n - 1) = false := by simp [dg, h_65]
              have en : oN t b n q = k := fsF_eq (by omega) hok (fun _ => by simp [oG, hp])
              have e9 : oK t b n q = false := by simp [oK, en]; omega
              refine jg_iconst (v := 0) dX4_readOrderNext_78 (by decide) ?_
              exact jg_iret (rfl) dX4_readOrderNext_79 ⟨_, rfl, ⟨by rw [e9]; rfl, by rw [e8, en]; exact hxx.1, hr, hj, fun j z => ho j (by omega), fun z => by rw [e9] at z; exact absurd z (by decide)⟩⟩
            · have hp : dg t b (q + 1 + k) 0 (n - 1) = true := by simp [dg, hqb, h_65]
              obtain ⟨-, v, hv1, hv2, hv3, hv4, hv5⟩ := dg_at hp (by omega) (by omega)
              rw [hv5]
              refine jg_iload_n dX4_readOrderNext_68 rfl rfl ?_
              refine jg_iload dX4_readOrderNext_69 rfl ?_
              refine jg_ishr dX4_readOrderNext_71 ?_
              refine jg_iconst (v := 1) dX4_readOrderNext_72 (by decide) ?_
              refine jg_iand dX4_readOrderNext_73 ?_
              refine jg_top (y := bI (sn t (q + 1) k v)) (hS.at (by omega)) ?_
              refine jg_iconst (v := 1) dX4_readOrderNext_74 (by decide) ?_
              refine jg_icmp_ne 80 dX4_readOrderNext_75 (by decide) (fun h_75 => ?_) (fun h_75 => ?_)
              · have hns : sn t (q + 1) k v = false := by cases z : sn t (q + 1) k v; rfl; (rw [z] at h_75; exact absurd rfl h_75)
                have hgk : oG t b n (q + 1) k = true := by simp [oG, hp, hv4, hns]
                refine jg_iload_n dX4_readOrderNext_80 rfl rfl ?_
                refine jg_iconst (v := 1) dX4_readOrderNext_81 (by decide) ?_
                refine jg_iload dX4_readOrderNext_82 rfl ?_
                refine jg_ishl dX4_readOrderNext_84 ?_
                refine jg_iorE (z := nI (s ||| 2 ^ v)) dX4_readOrderNext_85 ((orB s hS.1 _ (by omega)).1) ?_
                refine jg_istore_n dX4_readOrderNext_86 rfl (by decide) rfl ?_
                refine jg_aload_n dX4_readOrderNext_87 rfl rfl ?_
                refine jg_getr fk_X4_46 sh_57 rfl dX4_readOrderNext_88 ?_
                refine jg_iload_n dX4_readOrderNext_91 rfl rfl ?_
                refine jg_iload dX4_readOrderNext_92 rfl ?_
                refine jg_iaddE (z := nI (f + k)) dX4_readOrderNext_94 (nI_add f k) ?_
                refine jg_iload dX4_readOrderNext_95 rfl ?_
                refine jg_st (f + k) sh_70 (by omega) (rfl) dX4_readOrderNext_97 ?_
                refine jg_aload_n dX4_readOrderNext_98 rfl rfl ?_
                refine jg_dup dX4_readOrderNext_99 rfl ?_
                refine jg_geti fk_X4_89 sh_57 rfl dX4_readOrderNext_100 ?_
                refine jg_top (y := nI (a + (q + 1 + k))) (by rw [s2_row (by decide)]; exact hxx.1) ?_
                refine jg_iconst (v := 1) dX4_readOrderNext_103 (by decide) ?_
                refine jg_iaddE (z := nI ((a + (q + 1 + k)) + 1)) dX4_readOrderNext_104 (nI_add (a + (q + 1 + k)) 1) ?_
                refine jg_puti fp_X4_89 sh_57 rfl dX4_readOrderNext_105 ?_
                refine jg_iinc (v := nI (k + 1)) dX4_readOrderNext_108 rfl (nI_1 k) (by decide) rfl ?_
                refine jg_goto 17 dX4_readOrderNext_111 (by decide) ?_
                have hS2 := hS.s (show dv t (q + 1 + k) < 6 by omega)
                rw [hv4] at hS2
                exact jg_weak (gLe_s (gLe_s (gLe_s (gLe_s (gLe_s (gLe_n gLe_nil)))))) (ih (k + 1) _ _ (by omega) (by omega) (fun j h => by by_cases e : j = k; (subst e; exact hgk); exact hok j (by omega)) hS2 ⟨s2_self _ _ _ _, fun i hi => by rw [s2_row (by decide), s2_row (by decide)]; exact hxx.2 i hi⟩ (fun r z1 z2 => by rw [s2_row z1, s2_row z2]; exact hr r z1 z2) (fun j z => by rw [s2_ne z, s2_row (by decide)]; exact hj j z) (fun j z => by rw [s2_row (by decide), s2_ne (by omega)]; exact ho j z) (fun i h => by rw [s2_row (by decide)]; by_cases e : i = k; (subst e; rw [s2_self, hv4]); (rw [s2_ne (by omega)]; exact hd i (by omega))))
              · have hns : sn t (q + 1) k v = true := by cases z : sn t (q + 1) k v; (rw [z] at h_75; exact absurd h_75 (by decide)); rfl
                have en : oN t b n q = k := fsF_eq (by omega) hok (fun _ => by simp [oG, hv4, hns])
                have e9 : oK t b n q = false := by simp [oK, en]; omega
                refine jg_iconst (v := 0) dX4_readOrderNext_78 (by decide) ?_
                exact jg_iret (rfl) dX4_readOrderNext_79 ⟨_, rfl, ⟨by rw [e9]; rfl, by rw [e8, en]; exact hxx.1, hr, hj, fun j z => ho j (by omega), fun z => by rw [e9] at z; exact absurd z (by decide)⟩⟩
    exact cut_17 (n + 1) 0 0 _ (by omega) (by omega) (fun j h => by omega) SN.z (hx.af a1) (fun r z _ => a1.1 r z) a1.2.1 (fun j _ => by rw [a1.1 70 (by decide)]) (fun i h => by omega)
  · rw [if_neg (by rw [h_7]; decide)] at a1
    have e9 : oK t b n q = false := by simp [oK, h_7]
    have e8 : oAt t b n q = q := by simp [oAt, h_7]
    refine jg_iconst (v := 0) dX4_readOrderNext_10 (by decide) ?_
    exact jg_iret (rfl) dX4_readOrderNext_11 ⟨_, rfl, ⟨by rw [e9]; rfl, by rw [e8]; exact a1.2.2, fun k h _ => a1.1 k h, a1.2.1, fun j _ => by rw [a1.1 70 (by decide)], fun z => by rw [e9] at z; exact absurd z (by decide)⟩⟩
