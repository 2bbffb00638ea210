def RX (u : Mm) (t : Nat → Int32) (b q : Nat) : Prop := u 29 3 = nI q ∧ u 29 2 = nI b ∧ ∀ i, i < b → u 44 i = t i
/-- only the place of what comes next is another -/
def AtF (u v : Mm) (q : Nat) : Prop := (∀ k, k ≠ 29 → v k = u k) ∧ (∀ j, j ≠ 3 → v 29 j = u 29 j) ∧ v 29 3 = nI q
theorem AtF.rf {u : Mm} {q : Nat} (h : u 29 3 = nI q) : AtF u u q := ⟨fun _ _ => rfl, fun _ _ => rfl, h⟩
theorem AtF.mv {u : Mm} {q : Nat} : AtF u (s2 u 29 3 (nI q)) q := ⟨fun _ h => s2_row h, fun _ h => s2_ne h, s2_self _ _ _ _⟩
theorem AtF.tr {u v w : Mm} {q p : Nat} (h : AtF u v q) (h2 : AtF v w p) : AtF u w p := ⟨fun k hk => (h2.1 k hk).trans (h.1 k hk), fun k hk => (h2.2.1 k hk).trans (h.2.1 k hk), h2.2.2⟩
theorem RX.af {u v : Mm} {t : Nat → Int32} {b q p : Nat} (h : RX u t b q) (h2 : AtF u v p) : RX v t b p := ⟨h2.2.2, (h2.2.1 2 (by decide)).trans h.2.1, fun i hi => by rw [h2.1 44 (by decide)]; exact h.2.2 i hi⟩
set_option maxHeartbeats 4000000 in
set_option maxRecDepth 20000 in
theorem c1_takesCode (E : gT) (u : Mm) (t : Nat → Int32) (b q : Nat) (hb : b ≤ 60) (hq : q ≤ 99) (hx : RX u t b q) (w : Int32) : Con E yX1_takesCode cX1_takesCode 2 (some .boolean) 0 [.ref (E.2.1 29), .int w] u (kI (fun r u2 => r = bI (sg t b q w) ∧ AtF u u2 (if sg t b q w = true then q + 1 else q))) := by
  refine Con.of (lv := [some (.ref (E.2.1 29)), some (.int w)]) (by decide +kernel) (Nat.le_of_ble_eq_true rfl) rfl ?_
  refine jg_aload_n dX1_takesCode_0 rfl rfl ?_
  refine jg_geti fk_X1_32 sh_29 rfl dX1_takesCode_1 ?_
  refine jg_top (y := nI q) (hx.1) ?_
  refine jg_aload_n dX1_takesCode_4 rfl rfl ?_
  refine jg_geti fk_X1_28 sh_29 rfl dX1_takesCode_5 ?_
  refine jg_top (y := nI b) (hx.2.1) ?_
  refine jn_icmp_ge q b rfl rfl (by omega) (by omega) 24 dX1_takesCode_8 (by decide) (fun h_8 => ?_) (fun h_8 => ?_)
  · have e9 : sg t b q w = false := sg_n1 (by omega)
    refine jg_iconst (v := 0) dX1_takesCode_24 (by decide) ?_
    exact jg_iret (rfl) dX1_takesCode_25 ⟨_, rfl, ⟨by rw [e9]; rfl, by rw [if_neg (by rw [e9]; decide)]; exact AtF.rf hx.1⟩⟩
  · have hqb : q < b := by omega
    refine jg_aload_n dX1_takesCode_11 rfl rfl ?_
    refine jg_getr fk_X1_18 sh_29 rfl dX1_takesCode_12 ?_
    refine jg_aload_n dX1_takesCode_15 rfl rfl ?_
    refine jg_geti fk_X1_32 sh_29 rfl dX1_takesCode_16 ?_
    refine jg_top (y := nI q) (hx.1) ?_
    refine jg_ld q sh_44 (by omega) (rfl) dX1_takesCode_19 ?_
    refine jg_top (y := t q) (hx.2.2 q hqb) ?_
    refine jg_iload_n dX1_takesCode_20 rfl rfl ?_
    refine jg_icmp_eq 26 dX1_takesCode_21 (by decide) (fun h_21 => ?_) (fun h_21 => ?_)
    · have e9 : sg t b q w = true := sg_y hqb h_21
      refine jg_aload_n dX1_takesCode_26 rfl rfl ?_
      refine jg_dup dX1_takesCode_27 rfl ?_
      refine jg_geti fk_X1_32 sh_29 rfl dX1_takesCode_28 ?_
      refine jg_top (y := nI q) (hx.1) ?_
      refine jg_iconst (v := 1) dX1_takesCode_31 (by decide) ?_
      refine jg_iaddE (z := nI (q + 1)) dX1_takesCode_32 (nI_add q 1) ?_
      refine jg_puti fp_X1_32 sh_29 rfl dX1_takesCode_33 ?_
      refine jg_iconst (v := 1) dX1_takesCode_36 (by decide) ?_
      exact jg_iret (rfl) dX1_takesCode_37 ⟨_, rfl, ⟨by rw [e9]; rfl, by rw [if_pos e9]; exact AtF.mv⟩⟩
    · have e9 : sg t b q w = false := sg_n2 h_21
      refine jg_iconst (v := 0) dX1_takesCode_24 (by decide) ?_
      exact jg_iret (rfl) dX1_takesCode_25 ⟨_, rfl, ⟨by rw [e9]; rfl, by rw [if_neg (by rw [e9]; decide)]; exact AtF.rf hx.1⟩⟩
set_option maxHeartbeats 4000000 in
set_option maxRecDepth 20000 in
theorem c1_takeDigit (E : gT) (u : Mm) (t : Nat → Int32) (b q : Nat) (hb : b ≤ 60) (hq : q ≤ 99) (hx : RX u t b q) (lo hi : Nat) (h9 : hi ≤ 9) (hl : lo ≤ hi) : Con E yX1_takeDigit cX1_takeDigit 3 (some .int) 0 [.ref (E.2.1 29), .int (nI lo), .int (nI hi)] u (kI (fun r u2 => r = (if dg t b q lo hi = true then nI (dv t q) else -1) ∧ AtF u u2 (if dg t b q lo hi = true then q + 1 else q))) := by
  refine Con.of (lv := [some (.ref (E.2.1 29)), some (.int (nI lo)), some (.int (nI hi))]) (by decide +kernel) (Nat.le_of_ble_eq_true rfl) rfl ?_
  refine jg_aload_n dX1_takeDigit_0 rfl rfl ?_
  refine jg_geti fk_X1_32 sh_29 rfl dX1_takeDigit_1 ?_
  refine jg_top (y := nI q) (hx.1) ?_
  refine jg_aload_n dX1_takeDigit_4 rfl rfl ?_
  refine jg_geti fk_X1_28 sh_29 rfl dX1_takeDigit_5 ?_
  refine jg_top (y := nI b) (hx.2.1) ?_
  refine jn_icmp_ge q b rfl rfl (by omega) (by omega) 43 dX1_takeDigit_8 (by decide) (fun h_8 => ?_) (fun h_8 => ?_)
  · have e9 : dg t b q lo hi = false := dg_n1 (by omega)
    refine jg_iconst (v := -1) dX1_takeDigit_43 (by decide) ?_
    exact jg_iret (rfl) dX1_takeDigit_44 ⟨_, rfl, ⟨by rw [if_neg (by rw [e9]; decide)], by rw [if_neg (by rw [e9]; decide)]; exact AtF.rf hx.1⟩⟩
  · have hqb : q < b := by omega
    refine jg_aload_n dX1_takeDigit_11 rfl rfl ?_
    refine jg_getr fk_X1_18 sh_29 rfl dX1_takeDigit_12 ?_
    refine jg_aload_n dX1_takeDigit_15 rfl rfl ?_
    refine jg_geti fk_X1_32 sh_29 rfl dX1_takeDigit_16 ?_
    refine jg_top (y := nI q) (hx.1) ?_
    refine jg_ld q sh_44 (by omega) (rfl) dX1_takeDigit_19 ?_
    refine jg_top (y := t q) (hx.2.2 q hqb) ?_
    refine jg_bipush (v := 48) dX1_takeDigit_20 (by decide) ?_
    refine jg_iload_n dX1_takeDigit_22 rfl rfl ?_
    refine jg_iaddE (z := nI (48 + lo)) dX1_takeDigit_23 (nI_add 48 lo) ?_
    refine jg_icmp_lt 43 dX1_takeDigit_24 (by decide) (fun h_24 => ?_) (fun h_24 => ?_)
    · have e9 : dg t b q lo hi = false := dg_n2 h_24
      refine jg_iconst (v := -1) dX1_takeDigit_43 (by decide) ?_
      exact jg_iret (rfl) dX1_takeDigit_44 ⟨_, rfl, ⟨by rw [if_neg (by rw [e9]; decide)], by rw [if_neg (by rw [e9]; decide)]; exact AtF.rf hx.1⟩⟩
    · refine jg_aload_n dX1_takeDigit_27 rfl rfl ?_
      refine jg_getr fk_X1_18 sh_29 rfl dX1_takeDigit_28 ?_
      refine jg_aload_n dX1_takeDigit_31 rfl rfl ?_
      refine jg_geti fk_X1_32 sh_29 rfl dX1_takeDigit_32 ?_
      refine jg_top (y := nI q) (hx.1) ?_
      refine jg_ld q sh_44 (by omega) (rfl) dX1_takeDigit_35 ?_
      refine jg_top (y := t q) (hx.2.2 q hqb) ?_
      refine jg_bipush (v := 48) dX1_takeDigit_36 (by decide) ?_
      refine jg_iload_n dX1_takeDigit_38 rfl rfl ?_
      refine jg_iaddE (z := nI (48 + hi)) dX1_takeDigit_39 (nI_add 48 hi) ?_
      refine jg_icmp_le 45 dX1_takeDigit_40 (by decide) (fun h_40 => ?_) (fun h_40 => ?_)
      · have e9 : dg t b q lo hi = true := dg_y hqb h_24 h_40
        obtain ⟨-, v, hv1, hv2, hv3, hv4, hv5⟩ := dg_at e9 h9 hl
        refine jg_aload_n dX1_takeDigit_45 rfl rfl ?_
        refine jg_dup dX1_takeDigit_46 rfl ?_
        refine jg_geti fk_X1_32 sh_29 rfl dX1_takeDigit_47 ?_
        refine jg_top (y := nI q) (hx.1) ?_
        refine jg_iconst (v := 1) dX1_takeDigit_50 (by decide) ?_
        refine jg_iaddE (z := nI (q + 1)) dX1_takeDigit_51 (nI_add q 1) ?_
        refine jg_puti fp_X1_32 sh_29 rfl dX1_takeDigit_52 ?_
        refine jg_aload_n dX1_takeDigit_55 rfl rfl ?_
        refine jg_getr fk_X1_18 sh_29 rfl dX1_takeDigit_56 ?_
        refine jg_aload_n dX1_takeDigit_59 rfl rfl ?_
        refine jg_geti fk_X1_32 sh_29 rfl dX1_takeDigit_60 ?_
        refine jg_top (y := nI (q + 1)) (s2_self _ _ _ _) ?_
        refine jg_iconst (v := 1) dX1_takeDigit_63 (by decide) ?_
        refine jg_isubE (z := nI q) dX1_takeDigit_64 (nI_pred q) ?_
        refine jg_ld q sh_44 (by omega) (rfl) dX1_takeDigit_65 ?_
        refine jg_top (y := t q) (by rw [s2_row (by decide)]; exact hx.2.2 q hqb) ?_
        refine jg_bipush (v := 48) dX1_takeDigit_66 (by decide) ?_
        refine jg_isubE (z := nI v) dX1_takeDigit_68 (hv5) ?_
        exact jg_iret (rfl) dX1_takeDigit_69 ⟨_, rfl, ⟨by rw [if_pos e9, hv4], by rw [if_pos e9]; exact AtF.mv⟩⟩
      · have e9 : dg t b q lo hi = false := dg_n3 h_40
        refine jg_iconst (v := -1) dX1_takeDigit_43 (by decide) ?_
        exact jg_iret (rfl) dX1_takeDigit_44 ⟨_, rfl, ⟨by rw [if_neg (by rw [e9]; decide)], by rw [if_neg (by rw [e9]; decide)]; exact AtF.rf hx.1⟩⟩
set_option maxHeartbeats 4000000 in
set_option maxRecDepth 20000 in
theorem c1_takeKind (E : gT) (u : Mm) (t : Nat → Int32) (b q : Nat) (hb : b ≤ 60) (hq : q ≤ 99) (hx : RX u t b q) : Con E yX1_takeKind cX1_takeKind 1 (some .int) 1 [.ref (E.2.1 29)] u (kI (fun r u2 => r = (if kg t b q = true then nI (kv t q) else -1) ∧ AtF u u2 (if kg t b q = true then q + 1 else q))) := by
  refine Con.of (lv := [some (.ref (E.2.1 29))]) (by decide +kernel) (Nat.le_of_ble_eq_true rfl) rfl ?_
  refine jg_aload_n dX1_takeKind_0 rfl rfl ?_
  refine jg_bipush (v := 112) dX1_takeKind_1 (by decide) ?_
  refine jg_callV (c1_takesCode E u t b q hb (by omega) hx 112) me_X1_takesCode ml_X1_38 sh_29 rfl rfl (by decide) (by decide) rfl (Nat.le_of_ble_eq_true rfl) dX1_takeKind_3 (kk_I (fun r_3 u_3 h_3 => ?_))
  obtain ⟨rfl, a1⟩ := h_3
  refine jb_if_eq 11 dX1_takeKind_6 (by decide) (fun h_6 => ?_) (fun h_6 => ?_)
  · rw [if_neg (by rw [h_6]; decide)] at a1
    have x1 := hx.af a1
    refine jg_aload_n dX1_takeKind_11 rfl rfl ?_
    refine jg_bipush (v := 98) dX1_takeKind_12 (by decide) ?_
    refine jg_callV (c1_takesCode E _ t b q hb (by omega) x1 98) me_X1_takesCode ml_X1_38 sh_29 rfl rfl (by decide) (by decide) rfl (Nat.le_of_ble_eq_true rfl) dX1_takeKind_14 (kk_I (fun r_14 u_14 h_14 => ?_))
    obtain ⟨rfl, a2⟩ := h_14
    refine jb_if_eq 22 dX1_takeKind_17 (by decide) (fun h_17 => ?_) (fun h_17 => ?_)
    · rw [if_neg (by rw [h_17]; decide)] at a2
      have x2 := x1.af a2
      refine jg_aload_n dX1_takeKind_22 rfl rfl ?_
      refine jg_bipush (v := 100) dX1_takeKind_23 (by decide) ?_
      refine jg_callV (c1_takesCode E _ t b q hb (by omega) x2 100) me_X1_takesCode ml_X1_38 sh_29 rfl rfl (by decide) (by decide) rfl (Nat.le_of_ble_eq_true rfl) dX1_takeKind_25 (kk_I (fun r_25 u_25 h_25 => ?_))
      obtain ⟨rfl, a3⟩ := h_25
      refine jb_if_eq 35 dX1_takeKind_28 (by decide) (fun h_28 => ?_) (fun h_28 => ?_)
      · rw [if_neg (by rw [h_28]; decide)] at a3
        have e9 := kg_n h_6 h_17 h_28
        refine jg_iconst (v := -1) dX1_takeKind_35 (by decide) ?_
        exact jg_iret (rfl) dX1_takeKind_36 ⟨_, rfl, ⟨by rw [if_neg (by rw [e9]; decide)], by rw [if_neg (by rw [e9]; decide)]; exact a1.tr (a2.tr a3)⟩⟩
      · rw [if_pos h_28] at a3
        have e9 := kg_2 h_28
        refine jg_iconst (v := 2) dX1_takeKind_31 (by decide) ?_
        refine jg_goto 36 dX1_takeKind_32 (by decide) ?_
        exact jg_iret (rfl) dX1_takeKind_36 ⟨_, rfl, ⟨by rw [if_pos e9.1, e9.2]; rfl, by rw [if_pos e9.1]; exact a1.tr (a2.tr a3)⟩⟩
    · rw [if_pos h_17] at a2
      have e9 := kg_1 h_17
      refine jg_iconst (v := 1) dX1_takeKind_20 (by decide) ?_
      exact jg_iret (rfl) dX1_takeKind_21 ⟨_, rfl, ⟨by rw [if_pos e9.1, e9.2]; rfl, by rw [if_pos e9.1]; exact a1.tr a2⟩⟩
  · rw [if_pos h_6] at a1
    have e9 := kg_0 h_6
    refine jg_iconst (v := 0) dX1_takeKind_9 (by decide) ?_
    exact jg_iret (rfl) dX1_takeKind_10 ⟨_, rfl, ⟨by rw [if_pos e9.1, e9.2]; rfl, by rw [if_pos e9.1]; exact a1⟩⟩
/-- an area is read -/
def AR (u v : Mm) (t : Nat → Int32) (q i : Nat) : Prop := (∀ k, k < 29 ∨ 34 < k → v k = u k) ∧ (∀ j, j ≠ 3 → j ≠ 4 → v 29 j = u 29 j) ∧ v 29 3 = nI (q + 3) ∧ v 29 4 = u 29 4 + 1 ∧ v 30 0 = nI (i + 1) ∧ v 31 = upd (u 31) i (nI (kv t q)) ∧ v 32 = upd (u 32) i (nI (dv t (q + 1))) ∧ v 33 = upd (u 33) i (nI (dv t (q + 2))) ∧ v 34 = upd (u 34) i (u 29 4 + 1)
theorem AR.of {u w : Mm} {t : Nat → Int32} {q i : Nat} (h : AtF u w (q + 3)) {e : Int32} (he : e = u 29 4 + 1) : AR u (s2 (s2 (s2 (s2 (s2 (s2 w 29 4 e) 31 i (nI (kv t q))) 32 i (nI (dv t (q + 1)))) 33 i (nI (dv t (q + 2)))) 34 i e) 30 0 (nI (i + 1))) t q i := by
  subst he
  refine ⟨fun k hk => ?_, fun j h3 h4 => ?_, ?_, ?_, s2_self _ _ _ _, ?_, ?_, ?_, ?_⟩
  · rw [s2_row (by omega), s2_row (by omega), s2_row (by omega), s2_row (by omega), s2_row (by omega), s2_row (by omega)]; exact h.1 k (by omega)
  · rw [s2_row (by decide), s2_row (by decide), s2_row (by decide), s2_row (by decide), s2_row (by decide), s2_ne h4]; exact h.2.1 j h3
  · rw [s2_row (by decide), s2_row (by decide), s2_row (by decide), s2_row (by decide), s2_row (by decide), s2_ne (by decide)]; exact h.2.2
  · rw [s2_row (by decide), s2_row (by decide), s2_row (by decide), s2_row (by decide), s2_row (by decide), s2_self]
  · rw [s2_row (by decide), s2_row (by decide), s2_row (by decide), s2_row (by decide), s2_at, s2_row (by decide), h.1 31 (by decide)]
  · rw [s2_row (by decide), s2_row (by decide), s2_row (by decide), s2_at, s2_row (by decide), s2_row (by decide), h.1 32 (by decide)]
  · rw [s2_row (by decide), s2_row (by decide), s2_at, s2_row (by decide), s2_row (by decide), s2_row (by decide), h.1 33 (by decide)]
  · rw [s2_row (by decide), s2_at, s2_row (by decide), s2_row (by decide), s2_row (by decide), s2_row (by decide), h.1 34 (by decide)]
theorem nI_nn {a : Nat} (h : a < 2 ^ 31) : (0 : Int32) ≤ nI a := Int32.not_lt.mp (nI_pos h)
theorem dv_9 {t : Nat → Int32} {b q lo hi : Nat} (h : dg t b q lo hi = true) (h9 : hi ≤ 9) (hl : lo ≤ hi) : lo ≤ dv t q ∧ dv t q ≤ hi := by
  obtain ⟨-, v, h1, h2, -, h3, -⟩ := dg_at h h9 hl; omega
set_option maxHeartbeats 4000000 in
set_option maxRecDepth 20000 in
theorem c1_takesArea (E : gT) (u : Mm) (t : Nat → Int32) (b q : Nat) (hb : b ≤ 60) (hq : q ≤ 90) (hx : RX u t b q) (i : Nat) (hi : i < 6) : Con E yX1_takesArea cX1_takesArea 5 (some .boolean) 2 [.ref (E.2.1 29), .int (nI i)] u (kI (fun r u2 => r = bI (aG t b q) ∧ if aG t b q = true then AR u u2 t q i else AtF u u2 (aS t b q))) := by
  refine Con.of (lv := [some (.ref (E.2.1 29)), some (.int (nI i)), none, none, none]) (by decide +kernel) (Nat.le_of_ble_eq_true rfl) rfl ?_
  refine jg_aload_n dX1_takesArea_0 rfl rfl ?_
  refine jg_callV (c1_takeKind E u t b q hb (by omega) hx) me_X1_takeKind ml_X1_52 sh_29 rfl rfl (by decide) (by decide) rfl (Nat.le_of_ble_eq_true rfl) dX1_takesArea_1 (kk_I (fun r_1 u_1 h_1 => ?_))
  obtain ⟨hr_1, a1⟩ := h_1
  refine jg_istore_n dX1_takesArea_4 rfl (by decide) rfl ?_
  refine jg_iload_n dX1_takesArea_5 rfl rfl ?_
  refine jg_if_ge 11 dX1_takesArea_6 (by decide) (fun h_6 => ?_) (fun h_6 => ?_)
  · have hp_6 : kg t b q = true := Classical.byContradiction fun z => by rw [hr_1, if_neg z] at h_6; exact absurd h_6 (by decide)
    rw [if_pos hp_6] at hr_1 a1
    subst hr_1
    have x1 := hx.af a1
    refine jg_aload_n dX1_takesArea_11 rfl rfl ?_
    refine jg_iconst (v := 1) dX1_takesArea_12 (by decide) ?_
    refine jg_bipush (v := 9) dX1_takesArea_13 (by decide) ?_
    refine jg_callV (c1_takeDigit E _ t b (q + 1) hb (by omega) x1 1 9 (by omega) (by omega)) me_X1_takeDigit ml_X1_56 sh_29 rfl rfl (by decide) (by decide) rfl (Nat.le_of_ble_eq_true rfl) dX1_takesArea_15 (kk_I (fun r_15 u_15 h_15 => ?_))
    obtain ⟨hr_15, a2⟩ := h_15
    refine jg_istore_n dX1_takesArea_18 rfl (by decide) rfl ?_
    refine jg_iload_n dX1_takesArea_19 rfl rfl ?_
    refine jg_if_ge 25 dX1_takesArea_20 (by decide) (fun h_20 => ?_) (fun h_20 => ?_)
    · have hp_20 : dg t b (q + 1) 1 9 = true := Classical.byContradiction fun z => by rw [hr_15, if_neg z] at h_20; exact absurd h_20 (by decide)
      rw [if_pos hp_20] at hr_15 a2
      subst hr_15
      have x2 := x1.af a2
      refine jg_aload_n dX1_takesArea_25 rfl rfl ?_
      refine jg_iconst (v := 1) dX1_takesArea_26 (by decide) ?_
      refine jg_bipush (v := 9) dX1_takesArea_27 (by decide) ?_
      refine jg_callV (c1_takeDigit E _ t b (q + 2) hb (by omega) x2 1 9 (by omega) (by omega)) me_X1_takeDigit ml_X1_56 sh_29 rfl rfl (by decide) (by decide) rfl (Nat.le_of_ble_eq_true rfl) dX1_takesArea_29 (kk_I (fun r_29 u_29 h_29 => ?_))
      obtain ⟨hr_29, a3⟩ := h_29
      refine jg_istore dX1_takesArea_32 (by decide) rfl ?_
      refine jg_iload dX1_takesArea_34 rfl ?_
      refine jg_if_ge 41 dX1_takesArea_36 (by decide) (fun h_36 => ?_) (fun h_36 => ?_)
      · have hp_36 : dg t b (q + 2) 1 9 = true := Classical.byContradiction fun z => by rw [hr_29, if_neg z] at h_36; exact absurd h_36 (by decide)
        rw [if_pos hp_36] at hr_29 a3
        subst hr_29
        have e9 : aG t b q = true := by simp [aG, hp_6, hp_20, hp_36]
        have a9 := a1.tr (a2.tr a3)
        refine jg_aload_n dX1_takesArea_41 rfl rfl ?_
        refine jg_dup dX1_takesArea_42 rfl ?_
        refine jg_geti fk_X1_60 sh_29 rfl dX1_takesArea_43 ?_
        refine jg_top (y := u 29 4) (a9.2.1 4 (by decide)) ?_
        refine jg_iconst (v := 1) dX1_takesArea_46 (by decide) ?_
        refine jg_iadd dX1_takesArea_47 ?_
        refine jg_puti fp_X1_60 sh_29 rfl dX1_takesArea_48 ?_
        refine jg_aload_n dX1_takesArea_51 rfl rfl ?_
        refine jg_getr fk_X1_12 sh_29 rfl dX1_takesArea_52 ?_
        refine jg_getr fk_X1_63 (pl_0 ipl_30) rfl dX1_takesArea_55 ?_
        refine jg_iload_n dX1_takesArea_58 rfl rfl ?_
        refine jg_iload_n dX1_takesArea_59 rfl rfl ?_
        refine jg_st i (pl_1 ipl_30) (by omega) (rfl) dX1_takesArea_60 ?_
        refine jg_aload_n dX1_takesArea_61 rfl rfl ?_
        refine jg_getr fk_X1_12 sh_29 rfl dX1_takesArea_62 ?_
        refine jg_getr fk_X1_66 (pl_0 ipl_30) rfl dX1_takesArea_65 ?_
        refine jg_iload_n dX1_takesArea_68 rfl rfl ?_
        refine jg_iload_n dX1_takesArea_69 rfl rfl ?_
        refine jg_st i (pl_2 ipl_30) (by omega) (rfl) dX1_takesArea_70 ?_
        refine jg_aload_n dX1_takesArea_71 rfl rfl ?_
        refine jg_getr fk_X1_12 sh_29 rfl dX1_takesArea_72 ?_
        refine jg_getr fk_X1_69 (pl_0 ipl_30) rfl dX1_takesArea_75 ?_
        refine jg_iload_n dX1_takesArea_78 rfl rfl ?_
        refine jg_iload dX1_takesArea_79 rfl ?_
        refine jg_st i (pl_3 ipl_30) (by omega) (rfl) dX1_takesArea_81 ?_
        refine jg_aload_n dX1_takesArea_82 rfl rfl ?_
        refine jg_getr fk_X1_12 sh_29 rfl dX1_takesArea_83 ?_
        refine jg_getr fk_X1_72 (pl_0 ipl_30) rfl dX1_takesArea_86 ?_
        refine jg_iload_n dX1_takesArea_89 rfl rfl ?_
        refine jg_aload_n dX1_takesArea_90 rfl rfl ?_
        refine jg_geti fk_X1_60 sh_29 rfl dX1_takesArea_91 ?_
        refine jg_top (y := u 29 4 + 1) (by rw [s2_row (by decide), s2_row (by decide), s2_row (by decide), s2_self]) ?_
        refine jg_st i (pl_4 ipl_30) (by omega) (rfl) dX1_takesArea_94 ?_
        refine jg_aload_n dX1_takesArea_95 rfl rfl ?_
        refine jg_getr fk_X1_12 sh_29 rfl dX1_takesArea_96 ?_
        refine jg_iload_n dX1_takesArea_99 rfl rfl ?_
        refine jg_iconst (v := 1) dX1_takesArea_100 (by decide) ?_
        refine jg_iaddE (z := nI (i + 1)) dX1_takesArea_101 (nI_add i 1) ?_
        refine jg_puti fp_X1_35 (pl_0 ipl_30) rfl dX1_takesArea_102 ?_
        refine jg_iconst (v := 1) dX1_takesArea_105 (by decide) ?_
        exact jg_iret (rfl) dX1_takesArea_106 ⟨_, rfl, ⟨by rw [e9]; rfl, by rw [if_pos e9]; exact AR.of a9 rfl⟩⟩
      · have hp_36 : dg t b (q + 2) 1 9 = false := Bool.eq_false_iff.mpr fun z => by rw [hr_29, if_pos z] at h_36; exact h_36 (nI_nn (by have := (dv_9 z (by omega) (by omega)).2; omega))
        rw [if_neg (by rw [hp_36]; decide)] at a3
        have e9 : aG t b q = false := by simp [aG, hp_36]
        have e8 : aS t b q = q + 2 := by simp [aS, hp_6, hp_20]
        refine jg_iconst (v := 0) dX1_takesArea_39 (by decide) ?_
        exact jg_iret (rfl) dX1_takesArea_40 ⟨_, rfl, ⟨by rw [e9]; rfl, by rw [if_neg (by rw [e9]; decide), e8]; exact a1.tr (a2.tr a3)⟩⟩
    · have hp_20 : dg t b (q + 1) 1 9 = false := Bool.eq_false_iff.mpr fun z => by rw [hr_15, if_pos z] at h_20; exact h_20 (nI_nn (by have := (dv_9 z (by omega) (by omega)).2; omega))
      rw [if_neg (by rw [hp_20]; decide)] at a2
      have e9 : aG t b q = false := by simp [aG, hp_20]
      have e8 : aS t b q = q + 1 := by simp [aS, hp_6, hp_20]
      refine jg_iconst (v := 0) dX1_takesArea_23 (by decide) ?_
      exact jg_iret (rfl) dX1_takesArea_24 ⟨_, rfl, ⟨by rw [e9]; rfl, by rw [if_neg (by rw [e9]; decide), e8]; exact a1.tr a2⟩⟩
  · have hp_6 : kg t b q = false := Bool.eq_false_iff.mpr fun z => by rw [hr_1, if_pos z] at h_6; exact h_6 (nI_nn (by have := kv_lt t q; omega))
    rw [if_neg (by rw [hp_6]; decide)] at a1
    have e9 : aG t b q = false := by simp [aG, hp_6]
    have e8 : aS t b q = q := by simp [aS, hp_6]
    refine jg_iconst (v := 0) dX1_takesArea_9 (by decide) ?_
    exact jg_iret (rfl) dX1_takesArea_10 ⟨_, rfl, ⟨by rw [e9]; rfl, by rw [if_neg (by rw [e9]; decide), e8]; exact a1⟩⟩
/-- a areas are read -/
def AM (u v : Mm) (t : Nat → Int32) (a : Nat) : Prop := (∀ k, k < 29 ∨ 34 < k → v k = u k) ∧ (∀ j, j ≠ 3 → j ≠ 4 → v 29 j = u 29 j) ∧ v 29 4 = u 29 4 + nI a ∧ v 30 0 = nI a ∧ ∀ i, i < a → v 31 i = nI (kv t (2 + 4 * i)) ∧ v 32 i = nI (dv t (3 + 4 * i)) ∧ v 33 i = nI (dv t (4 + 4 * i)) ∧ v 34 i = u 29 4 + nI (i + 1)
theorem AM.af {u v w : Mm} {t : Nat → Int32} {a q : Nat} (h : AM u v t a) (f : AtF v w q) : AM u w t a := by
  obtain ⟨h1, h2, h3, h4, h5⟩ := h
  refine ⟨fun k hk => (f.1 k (by omega)).trans (h1 k hk), fun j a1 a2 => (f.2.1 j a1).trans (h2 j a1 a2), (f.2.1 4 (by decide)).trans h3, by rw [f.1 30 (by decide)]; exact h4, fun i hi => ?_⟩
  rw [f.1 31 (by decide), f.1 32 (by decide), f.1 33 (by decide), f.1 34 (by decide)]; exact h5 i hi
theorem nI_as (e : Int32) (a : Nat) : e + nI a + 1 = e + nI (a + 1) := by rw [Int32.add_assoc]; exact congrArg (e + ·) (nI_add a 1)
theorem AM.ar {u v w : Mm} {t : Nat → Int32} {a : Nat} (h : AM u v t a) (f : AR v w t (2 + 4 * a) a) : AM u w t (a + 1) := by
  obtain ⟨h1, h2, h3, h4, h5⟩ := h
  obtain ⟨f1, f2, f3, f4, f5, f6, f7, f8, f9⟩ := f
  refine ⟨fun k hk => (f1 k hk).trans (h1 k hk), fun j a1 a2 => (f2 j a1 a2).trans (h2 j a1 a2), by rw [f4, h3, nI_as], f5, fun i hi => ?_⟩
  rw [f6, f7, f8, f9]
  by_cases e : i = a
  · subst e; exact ⟨pk_us, by rw [pk_us]; congr 2; omega, by rw [pk_us]; congr 2; omega, by rw [pk_us, h3, nI_as]⟩
  · rw [pk_un e, pk_un e, pk_un e, pk_un e]; exact h5 i (by omega)
theorem RX.ar {u v : Mm} {t : Nat → Int32} {b q p i : Nat} (h : RX u t b q) (f : AR u v t p i) : RX v t b (p + 3) := ⟨f.2.2.1, (f.2.1 2 (by decide) (by decide)).trans h.2.1, fun i hi => by rw [f.1 44 (by omega)]; exact h.2.2 i hi⟩
set_option maxHeartbeats 4000000 in
set_option maxRecDepth 20000 in
theorem c1_takesAreas (E : gT) (u : Mm) (t : Nat → Int32) (b : Nat) (hb : b ≤ 60) (hx : RX u t b 1) (hc0 : u 30 0 = 0) : Con E yX1_takesAreas cX1_takesAreas 2 (some .boolean) 3 [.ref (E.2.1 29)] u (kI (fun r u2 => r = bI (aGo t b) ∧ AM u u2 t (nA t b) ∧ u2 29 3 = nI (aAt t b))) := by
  refine Con.of (lv := [some (.ref (E.2.1 29)), none]) (by decide +kernel) (Nat.le_of_ble_eq_true rfl) rfl ?_
  refine jg_iconst (v := 0) dX1_takesAreas_0 (by decide) ?_
  refine jg_istore_n dX1_takesAreas_1 rfl (by decide) rfl ?_
  have cut_2 : ∀ (m a : Nat) (x : Mm), a ≤ 6 → 6 < a + m → (∀ j, j < a → aOk t b j = true) → AM u x t a → RX x t b (1 + 4 * a) → G E cX1_takesAreas 2 (yX1_takesAreas).cls (some .boolean) 3 (kI (fun r u2 => r = bI (aGo t b) ∧ AM u u2 t (nA t b) ∧ u2 29 3 = nI (aAt t b))) 2 [some (.ref (E.2.1 29)), some (.int (nI a))] [] x := by
    intro m
    induction m with
    | zero => intro a x h1 h2; omega
    | succ m ih =>
      intro a x ha hm hok hM hxx
      refine jg_iload_n dX1_takesAreas_2 rfl rfl ?_
      refine jg_bipush (v := 6) dX1_takesAreas_3 (by decide) ?_
      refine jn_icmp_ge a 6 rfl rfl (by omega) (by omega) 33 dX1_takesAreas_5 (by decide) (fun h_5 => ?_) (fun h_5 => ?_)
      · have e6 : a = 6 := by omega
        have en : nA t b = a := nA_at (by omega) hok (fun z => by omega)
        have ha9 : aAt t b = 1 + 4 * nA t b := by simp [aAt, en, e6]
        have hg9 : aGo t b = decide (0 < a) := by simp [aGo, en, e6]
        refine jg_aload_n dX1_takesAreas_33 rfl rfl ?_
        refine jg_getr fk_X1_12 sh_29 rfl dX1_takesAreas_34 ?_
        refine jg_geti fk_X1_35 (pl_0 ipl_30) rfl dX1_takesAreas_37 ?_
        refine jg_top (y := nI a) (hM.2.2.2.1) ?_
        refine jg_if_le 47 dX1_takesAreas_40 (by decide) (fun h_40 => ?_) (fun h_40 => ?_)
        · have h0 : ¬ 0 < a := fun z => absurd ((nI_leI (b := 0) (by omega) (by omega)).mp h_40) (by omega)
          refine jg_iconst (v := 0) dX1_takesAreas_47 (by decide) ?_
          exact jg_iret (rfl) dX1_takesAreas_48 ⟨_, rfl, ⟨by rw [hg9, decide_eq_false h0]; rfl, by rw [en]; exact hM, by rw [ha9, en]; exact hxx.1⟩⟩
        · have h0 : 0 < a := Nat.pos_of_ne_zero fun z => by subst z; exact h_40 (by decide)
          refine jg_iconst (v := 1) dX1_takesAreas_43 (by decide) ?_
          refine jg_goto 48 dX1_takesAreas_44 (by decide) ?_
          exact jg_iret (rfl) dX1_takesAreas_48 ⟨_, rfl, ⟨by rw [hg9, decide_eq_true h0]; rfl, by rw [en]; exact hM, by rw [ha9, en]; exact hxx.1⟩⟩
      · refine jg_aload_n dX1_takesAreas_8 rfl rfl ?_
        refine jg_bipush (v := 59) dX1_takesAreas_9 (by decide) ?_
        refine jg_callV (c1_takesCode E x t b (1 + 4 * a) hb (by omega) hxx 59) me_X1_takesCode ml_X1_38 sh_29 rfl rfl (by decide) (by decide) rfl (Nat.le_of_ble_eq_true rfl) dX1_takesAreas_11 (kk_I (fun r_11 u_11 h_11 => ?_))
        obtain ⟨rfl, a1⟩ := h_11
        refine jb_if_eq 33 dX1_takesAreas_14 (by decide) (fun h_14 => ?_) (fun h_14 => ?_)
        · rw [if_neg (by rw [h_14]; decide)] at a1
          have hM := hM.af a1
          have hxx := hxx.af a1
          have en : nA t b = a := nA_at (by omega) hok (fun _ => by simp [aOk, h_14])
          have ha9 : aAt t b = 1 + 4 * nA t b := by simp [aAt, en, h_14]
          have hg9 : aGo t b = decide (0 < a) := by simp [aGo, en, h_14]
          refine jg_aload_n dX1_takesAreas_33 rfl rfl ?_
          refine jg_getr fk_X1_12 sh_29 rfl dX1_takesAreas_34 ?_
          refine jg_geti fk_X1_35 (pl_0 ipl_30) rfl dX1_takesAreas_37 ?_
          refine jg_top (y := nI a) (hM.2.2.2.1) ?_
          refine jg_if_le 47 dX1_takesAreas_40 (by decide) (fun h_40 => ?_) (fun h_40 => ?_)
          · have h0 : ¬ 0 < a := fun z => absurd ((nI_leI (b := 0) (by omega) (by omega)).mp h_40) (by omega)
            refine jg_iconst (v := 0) dX1_takesAreas_47 (by decide) ?_
            exact jg_iret (rfl) dX1_takesAreas_48 ⟨_, rfl, ⟨by rw [hg9, decide_eq_false h0]; rfl, by rw [en]; exact hM, by rw [ha9, en]; exact hxx.1⟩⟩
          · have h0 : 0 < a := Nat.pos_of_ne_zero fun z => by subst z; exact h_40 (by decide)
            refine jg_iconst (v := 1) dX1_takesAreas_43 (by decide) ?_
            refine jg_goto 48 dX1_takesAreas_44 (by decide) ?_
            exact jg_iret (rfl) dX1_takesAreas_48 ⟨_, rfl, ⟨by rw [hg9, decide_eq_true h0]; rfl, by rw [en]; exact hM, by rw [ha9, en]; exact hxx.1⟩⟩
        · rw [if_pos h_14] at a1
          have hM := hM.af a1
          have hxx := hxx.af a1
          refine jg_aload_n dX1_takesAreas_17 rfl rfl ?_
          refine jg_iload_n dX1_takesAreas_18 rfl rfl ?_
          refine jg_callV (c1_takesArea E _ t b (2 + 4 * a) hb (by omega) (by rw [show 2 + 4 * a = 1 + 4 * a + 1 by omega]; exact hxx) a (by omega)) me_X1_takesArea ml_X1_49 sh_29 rfl rfl (by decide) (by decide) rfl (Nat.le_of_ble_eq_true rfl) dX1_takesAreas_19 (kk_I (fun r_19 u_19 h_19 => ?_))
          obtain ⟨rfl, a2⟩ := h_19
          refine jb_if_ne 27 dX1_takesAreas_22 (by decide) (fun h_22 => ?_) (fun h_22 => ?_)
          · rw [if_pos h_22] at a2
            have hM2 := hM.ar a2
            have hx2 := hxx.ar a2
            refine jg_iinc (v := nI (a + 1)) dX1_takesAreas_27 rfl (nI_1 a) (by decide) rfl ?_
            refine jg_goto 2 dX1_takesAreas_30 (by decide) ?_
            exact ih (a + 1) _ (by omega) (by omega) (fun j h => by by_cases e : j = a; (subst e; simp [aOk, h_14, h_22]); exact hok j (by omega)) hM2 (by rw [show 1 + 4 * (a + 1) = 2 + 4 * a + 3 by omega]; exact hx2)
          · rw [if_neg (by rw [h_22]; decide)] at a2
            have en : nA t b = a := nA_at (by omega) hok (fun _ => by simp [aOk, h_22])
            have ha9 : aAt t b = aS t b (2 + 4 * a) := by simp only [aAt, en]; rw [if_pos (by simp [h_14]; omega)]
            have hg9 : aGo t b = false := by simp [aGo, en, h_14]; omega
            refine jg_iconst (v := 0) dX1_takesAreas_25 (by decide) ?_
            exact jg_iret (rfl) dX1_takesAreas_26 ⟨_, rfl, ⟨by rw [hg9]; rfl, by rw [en]; exact hM.af a2, by rw [ha9]; exact a2.2.2⟩⟩
  exact cut_2 7 0 u (by omega) (by omega) (fun j h => by omega) ⟨fun _ _ => rfl, fun _ _ _ => rfl, (Int32.add_zero _).symm, hc0, fun i h => by omega⟩ hx
set_option maxHeartbeats 4000000 in
set_option maxRecDepth 20000 in
theorem c1_takesOrder (E : gT) (u : Mm) (t : Nat → Int32) (b q : Nat) (hb : b ≤ 60) (hq : q ≤ 80) (hx : RX u t b q) (n w : Nat) (hw : w < 2) (h1 : 1 ≤ n) (hn : n ≤ 6) (h30 : u 30 0 = nI n) : Con E yX1_takesOrder cX1_takesOrder 5 (some .boolean) 1 [.ref (E.2.1 29), .int (nI w)] u (kI (fun r u2 => r = bI (oK t b n q) ∧ u2 29 3 = nI (oAt t b n q) ∧ (∀ k, k ≠ 29 → k ≠ 30 + 6 + w → u2 k = u k) ∧ (∀ j, j ≠ 3 → u2 29 j = u 29 j) ∧ (oK t b n q = true → ∀ k, k < n → u2 (30 + 6 + w) k = nI (dv t (q + 1 + k))))) := by
  refine Con.of (lv := [some (.ref (E.2.1 29)), some (.int (nI w)), none, none, none]) (by decide +kernel) (Nat.le_of_ble_eq_true rfl) rfl ?_
  refine jg_aload_n dX1_takesOrder_0 rfl rfl ?_
  refine jg_bipush (v := 44) dX1_takesOrder_1 (by decide) ?_
  refine jg_callV (c1_takesCode E u t b q hb (by omega) hx 44) me_X1_takesCode ml_X1_38 sh_29 rfl rfl (by decide) (by decide) rfl (Nat.le_of_ble_eq_true rfl) dX1_takesOrder_3 (kk_I (fun r_3 u_3 h_3 => ?_))
  obtain ⟨rfl, a1⟩ := h_3
  refine jb_if_ne 11 dX1_takesOrder_6 (by decide) (fun h_6 => ?_) (fun h_6 => ?_)
  · rw [if_pos h_6] at a1
    have e8 : oAt t b n q = q + 1 + oN t b n q := by simp [oAt, h_6]
    refine jg_iconst (v := 0) dX1_takesOrder_11 (by decide) ?_
    refine jg_istore_n dX1_takesOrder_12 rfl (by decide) rfl ?_
    refine jg_iconst (v := 0) dX1_takesOrder_13 (by decide) ?_
    refine jg_istore_n dX1_takesOrder_14 rfl (by decide) rfl ?_
    have cut_15 : ∀ (m k s : Nat) (x : Mm), k ≤ n → n < k + m → (∀ j, j < k → oG t b n (q + 1) j = true) → SN s (sn t (q + 1) k) → RX x t b (q + 1 + k) → (∀ r, r ≠ 29 → r ≠ 30 + 6 + w → x r = u r) → (∀ j, j ≠ 3 → x 29 j = u 29 j) → (∀ i, i < k → x (30 + 6 + w) i = nI (dv t (q + 1 + i))) → G E cX1_takesOrder 5 (yX1_takesOrder).cls (some .boolean) 1 (kI (fun r u2 => r = bI (oK t b n q) ∧ u2 29 3 = nI (oAt t b n q) ∧ (∀ k, k ≠ 29 → k ≠ 30 + 6 + w → u2 k = u k) ∧ (∀ j, j ≠ 3 → u2 29 j = u 29 j) ∧ (oK t b n q = true → ∀ k, k < n → u2 (30 + 6 + w) k = nI (dv t (q + 1 + k))))) 15 [some (.ref (E.2.1 29)), some (.int (nI w)), some (.int (nI s)), some (.int (nI k)), none] [] x := by
      intro m
      induction m with
      | zero => intro k s x h1 h2; omega
      | succ m ih =>
        intro k s x hk hm hok hS hxx hr hj hd
        refine jg_iload_n dX1_takesOrder_15 rfl rfl ?_
        refine jg_aload_n dX1_takesOrder_16 rfl rfl ?_
        refine jg_getr fk_X1_12 sh_29 rfl dX1_takesOrder_17 ?_
        refine jg_geti fk_X1_35 (pl_0 ipl_30) rfl dX1_takesOrder_20 ?_
        refine jg_top (y := nI n) (by rw [hr 30 (by decide) (by omega)]; exact h30) ?_
        refine jn_icmp_ge k n rfl rfl (by omega) (by omega) 96 dX1_takesOrder_23 (by decide) (fun h_23 => ?_) (fun h_23 => ?_)
        · obtain rfl : k = n := by omega
          have en : oN t b k q = k := fsF_eq (by omega) hok (by omega)
          have e9 : oK t b k q = true := by simp [oK, h_6, en]
          refine jg_iconst (v := 1) dX1_takesOrder_96 (by decide) ?_
          exact jg_iret (rfl) dX1_takesOrder_97 ⟨_, rfl, ⟨by rw [e9]; rfl, by rw [e8, en]; exact hxx.1, hr, hj, fun _ i hi => hd i hi⟩⟩
        · have hkn : k < n := by omega
          refine jg_aload_n dX1_takesOrder_26 rfl rfl ?_
          refine jg_iconst (v := 0) dX1_takesOrder_27 (by decide) ?_
          refine jg_aload_n dX1_takesOrder_28 rfl rfl ?_
          refine jg_getr fk_X1_12 sh_29 rfl dX1_takesOrder_29 ?_
          refine jg_geti fk_X1_35 (pl_0 ipl_30) rfl dX1_takesOrder_32 ?_
          refine jg_top (y := nI n) (by rw [hr 30 (by decide) (by omega)]; exact h30) ?_
          refine jg_iconst (v := 1) dX1_takesOrder_35 (by decide) ?_
          refine jg_isubE (z := nI (n - 1)) dX1_takesOrder_36 (pk_sub (b := 1) (by omega)) ?_
          refine jg_callV (c1_takeDigit E x t b (q + 1 + k) hb (by omega) hxx 0 (n - 1) (by omega) (by omega)) me_X1_takeDigit ml_X1_56 sh_29 rfl rfl (by decide) (by decide) rfl (Nat.le_of_ble_eq_true rfl) dX1_takesOrder_37 (kk_I (fun r_37 u_37 h_37 => ?_))
          obtain ⟨hr_37, a2⟩ := h_37
          refine jg_istore dX1_takesOrder_40 (by decide) rfl ?_
          refine jg_iload dX1_takesOrder_42 rfl ?_
          refine jg_if_ge 49 dX1_takesOrder_44 (by decide) (fun h_44 => ?_) (fun h_44 => ?_)
          · have hp_44 : dg t b (q + 1 + k) 0 (n - 1) = true := Classical.byContradiction fun z => by rw [hr_37, if_neg z] at h_44; exact absurd h_44 (by decide)
            rw [if_pos hp_44] at hr_37 a2
            subst hr_37
            have hv := dv_9 hp_44 (by omega) (by omega)
            refine jg_iload_n dX1_takesOrder_49 rfl rfl ?_
            refine jg_iload dX1_takesOrder_50 rfl ?_
            refine jg_ishr dX1_takesOrder_52 ?_
            refine jg_iconst (v := 1) dX1_takesOrder_53 (by decide) ?_
            refine jg_iand dX1_takesOrder_54 ?_
            refine jg_top (y := bI (sn t (q + 1) k (dv t (q + 1 + k)))) (hS.at (by omega)) ?_
            refine jb_if_eq 70 dX1_takesOrder_55 (by decide) (fun h_55 => ?_) (fun h_55 => ?_)
            · have hgk : oG t b n (q + 1) k = true := by simp [oG, hp_44, h_55]
              refine jg_iload_n dX1_takesOrder_70 rfl rfl ?_
              refine jg_iconst (v := 1) dX1_takesOrder_71 (by decide) ?_
              refine jg_iload dX1_takesOrder_72 rfl ?_
              refine jg_ishl dX1_takesOrder_74 ?_
              refine jg_iorE (z := nI (s ||| 2 ^ dv t (q + 1 + k))) dX1_takesOrder_75 ((orB s hS.1 _ (by omega)).1) ?_
              refine jg_istore_n dX1_takesOrder_76 rfl (by decide) rfl ?_
              refine jg_aload_n dX1_takesOrder_77 rfl rfl ?_
              refine jg_getr fk_X1_12 sh_29 rfl dX1_takesOrder_78 ?_
              refine jg_getr fk_X1_75 (pl_0 ipl_30) rfl dX1_takesOrder_81 ?_
              refine jg_iload_n dX1_takesOrder_84 rfl rfl ?_
              refine jg_aald w (pl_5 ipl_30) (at_w hw) (Nat.le_of_ble_eq_true rfl) (rfl) dX1_takesOrder_85 ?_
              refine jg_iload_n dX1_takesOrder_86 rfl rfl ?_
              refine jg_iload dX1_takesOrder_87 rfl ?_
              refine jg_st k (pl_w ipl_30 hw) (by omega) (rfl) dX1_takesOrder_89 ?_
              refine jg_iinc (v := nI (k + 1)) dX1_takesOrder_90 rfl (nI_1 k) (by decide) rfl ?_
              refine jg_goto 15 dX1_takesOrder_93 (by decide) ?_
              have x2 := hxx.af a2
              exact jg_weak (gLe_s (gLe_s (gLe_s (gLe_s (gLe_n gLe_nil))))) (ih (k + 1) _ _ (by omega) (by omega) (fun j h => by by_cases e : j = k; (subst e; exact hgk); exact hok j (by omega)) (hS.s (by omega)) ⟨by rw [s2_row (by omega)]; exact x2.1, by rw [s2_row (by omega)]; exact x2.2.1, fun i hi => by rw [s2_row (by omega)]; exact x2.2.2 i hi⟩ (fun r z1 z2 => by rw [s2_row z2]; exact (a2.1 r z1).trans (hr r z1 z2)) (fun j z => by rw [s2_row (by omega)]; exact (a2.2.1 j z).trans (hj j z)) (fun i h => by by_cases e : i = k; (subst e; exact s2_self _ _ _ _); (rw [s2_ne e, a2.1 _ (by omega)]; exact hd i (by omega))))
            · have en : oN t b n q = k := fsF_eq (by omega) hok (fun _ => by simp [oG, h_55])
              have e9 : oK t b n q = false := by simp [oK, en]; omega
              refine jg_aload_n dX1_takesOrder_58 rfl rfl ?_
              refine jg_dup dX1_takesOrder_59 rfl ?_
              refine jg_geti fk_X1_32 sh_29 rfl dX1_takesOrder_60 ?_
              refine jg_top (y := nI (q + 1 + k + 1)) (a2.2.2) ?_
              refine jg_iconst (v := 1) dX1_takesOrder_63 (by decide) ?_
              refine jg_isubE (z := nI (q + 1 + k)) dX1_takesOrder_64 (nI_pred _) ?_
              refine jg_puti fp_X1_32 sh_29 rfl dX1_takesOrder_65 ?_
              refine jg_iconst (v := 0) dX1_takesOrder_68 (by decide) ?_
              exact jg_iret (rfl) dX1_takesOrder_69 ⟨_, rfl, ⟨by rw [e9]; rfl, by rw [e8, en, s2_self], fun r z1 z2 => by rw [s2_row z1]; exact (a2.1 r z1).trans (hr r z1 z2), fun j z => by rw [s2_ne z]; exact (a2.2.1 j z).trans (hj j z), fun z => by rw [e9] at z; exact absurd z (by decide)⟩⟩
          · have hp_44 : dg t b (q + 1 + k) 0 (n - 1) = false := Bool.eq_false_iff.mpr fun z => by rw [hr_37, if_pos z] at h_44; exact h_44 (nI_nn (by have := (dv_9 z (by omega) (by omega)).2; omega))
            rw [if_neg (by rw [hp_44]; decide)] at a2
            have en : oN t b n q = k := fsF_eq (by omega) hok (fun _ => by simp [oG, hp_44])
            have e9 : oK t b n q = false := by simp [oK, en]; omega
            refine jg_iconst (v := 0) dX1_takesOrder_47 (by decide) ?_
            exact jg_iret (rfl) dX1_takesOrder_48 ⟨_, rfl, ⟨by rw [e9]; rfl, by rw [e8, en]; exact a2.2.2, fun r z1 z2 => (a2.1 r z1).trans (hr r z1 z2), fun j z => (a2.2.1 j z).trans (hj j z), fun z => by rw [e9] at z; exact absurd z (by decide)⟩⟩
    exact cut_15 (n + 1) 0 0 _ (by omega) (by omega) (fun j h => by omega) SN.z (hx.af a1) (fun r z _ => a1.1 r z) a1.2.1 (fun i h => by omega)
  · rw [if_neg (by rw [h_6]; decide)] at a1
    have e9 : oK t b n q = false := by simp [oK, h_6]
    have e8 : oAt t b n q = q := by simp [oAt, h_6]
    refine jg_iconst (v := 0) dX1_takesOrder_9 (by decide) ?_
    exact jg_iret (rfl) dX1_takesOrder_10 ⟨_, rfl, ⟨by rw [e9]; rfl, by rw [e8]; exact a1.2.2, fun k h _ => a1.1 k h, a1.2.1, fun z => by rw [e9] at z; exact absurd z (by decide)⟩⟩
