set_option maxHeartbeats 4000000 in
set_option maxRecDepth 20000 in
theorem c2_renew (E : gT) {b : Nat} (hb : isSh b) (u : Mm) (l n : Int32) : Con E yX2_renew cX2_renew 4 none 0 [.ref (E.2.1 b), .int l, .int n] u (kV (fun u2 => (∀ r, r ≠ b → r ≠ b + 1 → u2 r = u r) ∧ u2 b 0 = 1 ∧ u2 b 1 = l ∧ u2 b 2 = n ∧ ∀ i, i < 60 → u2 (b + 1) i = 0)) := by
  refine Con.of (lv := [some (.ref (E.2.1 b)), some (.int l), some (.int n), none]) (by decide +kernel) (Nat.le_of_ble_eq_true rfl) rfl ?_
  refine jg_aload_n dX2_renew_0 rfl rfl ?_
  refine jg_iconst (v := 1) dX2_renew_1 (by decide) ?_
  refine jg_putT fp_X2_15 rfl rfl (pg_0 hb) rfl dX2_renew_2 ?_
  refine jg_aload_n dX2_renew_5 rfl rfl ?_
  refine jg_iload_n dX2_renew_6 rfl rfl ?_
  refine jg_puti fp_X2_19 (pg_0 hb) rfl dX2_renew_7 ?_
  refine jg_aload_n dX2_renew_10 rfl rfl ?_
  refine jg_iload_n dX2_renew_11 rfl rfl ?_
  refine jg_puti fp_X2_23 (pg_0 hb) rfl dX2_renew_12 ?_
  refine jg_iconst (v := 0) dX2_renew_15 (by decide) ?_
  refine jg_istore_n dX2_renew_16 rfl (by decide) rfl ?_
  have cut_17 : ∀ (m i : Nat) (x : Mm), i ≤ 60 → 60 < i + m → (∀ r, r ≠ b + 1 → x r = s2 (s2 (s2 u b 0 1) b 1 l) b 2 n r) → (∀ q, q < i → x (b + 1) q = 0) → G E cX2_renew 4 (yX2_renew).cls none 0 (kV (fun u2 => (∀ r, r ≠ b → r ≠ b + 1 → u2 r = u r) ∧ u2 b 0 = 1 ∧ u2 b 1 = l ∧ u2 b 2 = n ∧ ∀ i, i < 60 → u2 (b + 1) i = 0)) 17 [some (.ref (E.2.1 b)), some (.int l), some (.int n), some (.int (nI i))] [] x := by
    intro m
    induction m with
    | zero => intro i x h1 h2; omega
    | succ m ih =>
      intro i x hi hm hr hz
      refine jg_iload_n dX2_renew_17 rfl rfl ?_
      refine jg_bipush (v := 60) dX2_renew_18 (by decide) ?_
      refine jn_icmp_ge i 60 rfl rfl (by omega) (by omega) 36 dX2_renew_20 (by decide) (fun h_20 => ?_) (fun h_20 => ?_)
      · exact jg_vret dX2_renew_36 ⟨rfl, ⟨fun r h1 h2 => by rw [hr r h2, s2_row h1, s2_row h1, s2_row h1], by rw [hr b (by omega), s2_ne (by decide), s2_ne (by decide), s2_self], by rw [hr b (by omega), s2_ne (by decide), s2_self], by rw [hr b (by omega), s2_self], fun q h => hz q (by omega)⟩⟩
      · refine jg_aload_n dX2_renew_23 rfl rfl ?_
        refine jg_getr fk_X2_9 (pg_0 hb) rfl dX2_renew_24 ?_
        refine jg_iload_n dX2_renew_27 rfl rfl ?_
        refine jg_iconst (v := 0) dX2_renew_28 (by decide) ?_
        refine jg_st i (pg_1 hb) (by omega) (rfl) dX2_renew_29 ?_
        refine jg_iinc (v := nI (i + 1)) dX2_renew_30 rfl (nI_1 i) (by decide) rfl ?_
        refine jg_goto 17 dX2_renew_33 (by decide) ?_
        exact ih (i + 1) _ (by omega) (by omega) (fun r h => by rw [s2_row h]; exact hr r h) (fun q h => by by_cases e : q = i; (subst e; exact s2_self _ _ _ _); (rw [s2_ne e]; exact hz q (by omega)))
  exact cut_17 61 0 _ (by omega) (by omega) (fun _ _ => rfl) (fun q h => by omega)
set_option maxHeartbeats 4000000 in
set_option maxRecDepth 20000 in
theorem c3_cutTo (E : gT) (u : Mm) (l v : Int32) (hl : inR l 0 2 = true) : Con E yX3_cutTo cX3_cutTo 2 (some .int) 0 [.int l, .int v] u (kI (fun r u2 => r = cutF l v ∧ u = u2)) := by
  refine Con.of (lv := [some (.int l), some (.int v)]) (by decide +kernel) (Nat.le_of_ble_eq_true rfl) rfl ?_
  refine jg_iload_n dX3_cutTo_0 rfl rfl ?_
  by_cases w0 : l = 0
  · refine jg_lookup (off := 27) 28 dX3_cutTo_1 (by decide +kernel) (by rw [w0]; decide +kernel) (by decide) ?_
    refine jg_iload_n dX3_cutTo_28 rfl rfl ?_
    refine jg_i2b dX3_cutTo_29 rfl ?_
    exact jg_iret (rfl) dX3_cutTo_30 ⟨_, rfl, ⟨by simp [cutF, *], rfl⟩⟩
  by_cases w1 : l = 1
  · refine jg_lookup (off := 30) 31 dX3_cutTo_1 (by decide +kernel) (by rw [w1]; decide +kernel) (by decide) ?_
    refine jg_iload_n dX3_cutTo_31 rfl rfl ?_
    refine jg_i2s dX3_cutTo_32 rfl ?_
    exact jg_iret (rfl) dX3_cutTo_33 ⟨_, rfl, ⟨by simp [cutF, *], rfl⟩⟩
  have w2 : l = 2 := by obtain ⟨j, -, hj, rfl⟩ := inR_nat (lo := 0) (hi := 2) (by omega) hl (by omega); rcases (show j = 0 ∨ j = 1 ∨ j = 2 by omega) with rfl | rfl | rfl; exact absurd rfl w0; exact absurd rfl w1; rfl
  refine jg_lookup (off := 33) 34 dX3_cutTo_1 (by decide +kernel) (by rw [w2]; decide +kernel) (by decide) ?_
  refine jg_iload_n dX3_cutTo_34 rfl rfl ?_
  exact jg_iret (rfl) dX3_cutTo_35 ⟨_, rfl, ⟨by simp [cutF, *], rfl⟩⟩
set_option maxHeartbeats 4000000 in
set_option maxRecDepth 20000 in
theorem c4_isSheet (E : gT) (u : Mm) (a : Int32) : Con E yX4_isSheet cX4_isSheet 1 (some .boolean) 1 [.int a] u (kI (fun r u2 => r = bI (inN a 4) ∧ u = u2)) := by
  refine Con.of (lv := [some (.int a)]) (by decide +kernel) (Nat.le_of_ble_eq_true rfl) rfl ?_
  refine jg_iload_n dX4_isSheet_0 rfl rfl ?_
  refine jg_iconst (v := 0) dX4_isSheet_1 (by decide) ?_
  refine jg_iconst (v := 3) dX4_isSheet_2 (by decide) ?_
  refine jg_callS (c4_within E u a 0 3) me_X4_within ml_X4_82 rfl (by decide) (by decide) rfl (Nat.le_of_ble_eq_true rfl) dX4_isSheet_3 (kk_I (fun r_3 u_3 h_3 => ?_))
  obtain ⟨rfl, rfl⟩ := h_3
  refine jg_top (congrArg bI (inN_inR (n := 4) (by decide))) ?_
  exact jg_iret (bI_nar _) dX4_isSheet_6 ⟨_, rfl, ⟨rfl, rfl⟩⟩
set_option maxHeartbeats 4000000 in
set_option maxRecDepth 20000 in
theorem c4_isSort (E : gT) (u : Mm) (a : Int32) : Con E yX4_isSort cX4_isSort 1 (some .boolean) 1 [.int a] u (kI (fun r u2 => r = bI (inR a 0 2) ∧ u = u2)) := by
  refine Con.of (lv := [some (.int a)]) (by decide +kernel) (Nat.le_of_ble_eq_true rfl) rfl ?_
  refine jg_iload_n dX4_isSort_0 rfl rfl ?_
  refine jg_iconst (v := 0) dX4_isSort_1 (by decide) ?_
  refine jg_iconst (v := 2) dX4_isSort_2 (by decide) ?_
  refine jg_callS (c4_within E u a 0 2) me_X4_within ml_X4_82 rfl (by decide) (by decide) rfl (Nat.le_of_ble_eq_true rfl) dX4_isSort_3 (kk_I (fun r_3 u_3 h_3 => ?_))
  obtain ⟨rfl, rfl⟩ := h_3
  exact jg_iret (bI_nar _) dX4_isSort_6 ⟨_, rfl, ⟨rfl, rfl⟩⟩
theorem shC_z {u : Mm} {g : Gh} (h : InvC u g) {j : Nat} (hj : j < 4) (x : Int32) : ShC (s2 u 0 9 x) (46 + 2 * j) (g.2.2.2.1 j) := (h.2.2.2.1 j hj).rows (s2_row (by omega)) (s2_row (by omega))
theorem shM_z {u : Mm} {g : Gh} (h : InvM u g) {j : Nat} (hj : j < 4) (x : Int32) : ShM (s2 u 57 0 x) j (g.2.2.2.1 j) := (h.2.2.2.1 j hj).rows (s2_row (by decide)) (s2_row (by decide)) (s2_row (by decide))
set_option maxHeartbeats 4000000 in
set_option maxRecDepth 20000 in
theorem d3_sheet (E : gT) (u : Mm) (g : Gh) (hO : Ok g) (hI : InvC u g) (k l n : Int32) : Con E yX3_sheet cX3_sheet 4 (some .int) 1 [.ref (E.2.1 0), .int k, .int l, .int n] u (kI (fun r u2 => r = (fSheet g k l n).1 ∧ InvC u2 (fSheet g k l n).2 ∧ CF u u2)) := by
  refine Con.of (lv := [some (.ref (E.2.1 0)), some (.int k), some (.int l), some (.int n)]) (by decide +kernel) (Nat.le_of_ble_eq_true rfl) rfl ?_
  refine jg_aload_n dX3_sheet_0 rfl rfl ?_
  refine jg_iconst (v := 0) dX3_sheet_1 (by decide) ?_
  refine jg_puti fp_X3_45 sh_0 rfl dX3_sheet_2 ?_
  refine jg_iload_n dX3_sheet_5 rfl rfl ?_
  refine jg_callS (c3_isSheet E (s2 u 0 9 0) k) me_X3_isSheet ml_X3_49 rfl (by decide) (by decide) rfl (Nat.le_of_ble_eq_true rfl) dX3_sheet_6 (kk_I (fun r_6 u_6 h_6 => ?_))
  obtain ⟨rfl, rfl⟩ := h_6
  refine jb_if_ne 14 dX3_sheet_9 (by decide) (fun h_9 => ?_) (fun h_9 => ?_)
  · obtain ⟨j, hj, rfl⟩ := in4 h_9
    refine jg_iload_n dX3_sheet_14 rfl rfl ?_
    refine jg_callS (c3_isLane E (s2 u 0 9 0) l) me_X3_isLane ml_X3_53 rfl (by decide) (by decide) rfl (Nat.le_of_ble_eq_true rfl) dX3_sheet_15 (kk_I (fun r_15 u_15 h_15 => ?_))
    obtain ⟨rfl, rfl⟩ := h_15
    refine jb_if_eq 27 dX3_sheet_18 (by decide) (fun h_18 => ?_) (fun h_18 => ?_)
    · have hc9 : ¬ (inR l 0 2 = true ∧ n ≤ 60) := fun z => by rw [h_18] at z; exact absurd z.1 (by decide)
      refine jg_bipush (v := -2) dX3_sheet_27 (by decide) ?_
      have e9 : fSheet g (nI j) l n = (-2, wFt g 0) := by unfold fSheet; rw [if_pos h_9, if_neg hc9]
      exact jg_iret (rfl) dX3_sheet_29 ⟨_, rfl, ⟨by rw [e9] <;> rfl, by rw [e9]; exact hI.ft 0, CF.rf.put (by omega)⟩⟩
    · refine jg_iload_n dX3_sheet_21 rfl rfl ?_
      refine jg_bipush (v := 60) dX3_sheet_22 (by decide) ?_
      refine jg_icmp_le 30 dX3_sheet_24 (by decide) (fun h_24 => ?_) (fun h_24 => ?_)
      · have hc9 : inR l 0 2 = true ∧ n ≤ 60 := ⟨h_18, h_24⟩
        refine jg_iload_n dX3_sheet_30 rfl rfl ?_
        refine jg_if_ge 40 dX3_sheet_31 (by decide) (fun h_31 => ?_) (fun h_31 => ?_)
        · obtain ⟨w, hw, rfl⟩ := nI_of2 (M := 60) (n := 60) (by decide) (Int32.not_lt.mpr h_31) h_24
          refine jg_aload_n dX3_sheet_40 rfl rfl ?_
          refine jg_getr fk_X3_30 sh_0 rfl dX3_sheet_41 ?_
          refine jg_iload_n dX3_sheet_44 rfl rfl ?_
          refine jg_aald j sh_45 (sh_at hj) (Nat.le_of_ble_eq_true rfl) (rfl) dX3_sheet_45 ?_
          refine jg_iload_n dX3_sheet_46 rfl rfl ?_
          refine jg_iload_n dX3_sheet_47 rfl rfl ?_
          refine jg_callV (c2_renew E (sh_ok hj) (s2 u 0 9 0) l (nI w)) me_X2_renew ml_X3_219 (pg_0 (sh_ok hj)) rfl rfl (by decide) (by decide) rfl (Nat.le_of_ble_eq_true rfl) dX3_sheet_48 (kk_V (fun u_48 h_48 => ?_))
          obtain ⟨hr, h0, h1, h2, h3⟩ := h_48
          refine jg_iconst (v := 1) dX3_sheet_51 (by decide) ?_
          have e9 : fSheet g (nI j) l (nI w) = (1, wSh (wFt g 0) (upS g.2.2.2.1 j (true, l, w, fun _ => 0))) := by unfold fSheet; rw [if_pos h_9, if_pos hc9, if_neg (nI_pos (by omega)), cl_nI (show j < 2 ^ 31 by omega), cl_nI (show w < 2 ^ 31 by omega)]
          exact jg_iret (rfl) dX3_sheet_52 ⟨_, rfl, ⟨by rw [e9] <;> rfl, by rw [e9]; exact (hI.ft 0).sh hj hr ⟨h0, h1, h2, h3⟩, fun r hr9 => by rw [hr r (by omega) (by omega), s2_row (by omega)]⟩⟩
        · refine jg_aload_n dX3_sheet_34 rfl rfl ?_
          refine jg_iconst (v := 4) dX3_sheet_35 (by decide) ?_
          refine jg_callV (c3_failed E (s2 u 0 9 0) 4) me_X3_failed ml_X3_64 sh_0 rfl rfl (by decide) (by decide) rfl (Nat.le_of_ble_eq_true rfl) dX3_sheet_36 (kk_I (fun r_36 u_36 h_36 => ?_))
          obtain ⟨rfl, rfl⟩ := h_36
          rw [s2_s2]
          have e9 : fSheet g (nI j) l n = (-14, wFt g 4) := by unfold fSheet; rw [if_pos h_9, if_pos hc9, if_pos (Int32.not_le.mp h_31)]
          exact jg_iret (rfl) dX3_sheet_39 ⟨_, rfl, ⟨by rw [e9] <;> rfl, by rw [e9]; exact hI.ft 4, CF.rf.put (by omega)⟩⟩
      · have hc9 : ¬ (inR l 0 2 = true ∧ n ≤ 60) := fun z => h_24 z.2
        refine jg_bipush (v := -2) dX3_sheet_27 (by decide) ?_
        have e9 : fSheet g (nI j) l n = (-2, wFt g 0) := by unfold fSheet; rw [if_pos h_9, if_neg hc9]
        exact jg_iret (rfl) dX3_sheet_29 ⟨_, rfl, ⟨by rw [e9] <;> rfl, by rw [e9]; exact hI.ft 0, CF.rf.put (by omega)⟩⟩
  · refine jg_iconst (v := -1) dX3_sheet_12 (by decide) ?_
    have e9 : fSheet g k l n = (-1, wFt g 0) := by unfold fSheet; rw [if_neg (by rw [h_9]; decide)]
    exact jg_iret (rfl) dX3_sheet_13 ⟨_, rfl, ⟨by rw [e9] <;> rfl, by rw [e9]; exact hI.ft 0, CF.rf.put (by omega)⟩⟩
set_option maxHeartbeats 4000000 in
set_option maxRecDepth 20000 in
theorem d4_sheet (E : gT) (u : Mm) (g : Gh) (hO : Ok g) (hI : InvM u g) (k l n : Int32) : Con E yX4_sheet cX4_sheet 5 (some .int) 2 [.ref (E.2.1 57), .int k, .int l, .int n] u (kI (fun r u2 => r = (fSheet g k l n).1 ∧ InvM u2 (fSheet g k l n).2 ∧ RF u u2)) := by
  refine Con.of (lv := [some (.ref (E.2.1 57)), some (.int k), some (.int l), some (.int n), none]) (by decide +kernel) (Nat.le_of_ble_eq_true rfl) rfl ?_
  refine jg_aload_n dX4_sheet_0 rfl rfl ?_
  refine jg_iconst (v := 0) dX4_sheet_1 (by decide) ?_
  refine jg_puti fp_X4_76 sh_57 rfl dX4_sheet_2 ?_
  refine jg_iload_n dX4_sheet_5 rfl rfl ?_
  refine jg_callS (c4_isSheet E (s2 u 57 0 0) k) me_X4_isSheet ml_X4_92 rfl (by decide) (by decide) rfl (Nat.le_of_ble_eq_true rfl) dX4_sheet_6 (kk_I (fun r_6 u_6 h_6 => ?_))
  obtain ⟨rfl, rfl⟩ := h_6
  refine jb_if_ne 14 dX4_sheet_9 (by decide) (fun h_9 => ?_) (fun h_9 => ?_)
  · obtain ⟨j, hj, rfl⟩ := in4 h_9
    refine jg_iload_n dX4_sheet_14 rfl rfl ?_
    refine jg_callS (c4_isSort E (s2 u 57 0 0) l) me_X4_isSort ml_X4_96 rfl (by decide) (by decide) rfl (Nat.le_of_ble_eq_true rfl) dX4_sheet_15 (kk_I (fun r_15 u_15 h_15 => ?_))
    obtain ⟨rfl, rfl⟩ := h_15
    refine jb_if_eq 27 dX4_sheet_18 (by decide) (fun h_18 => ?_) (fun h_18 => ?_)
    · have hc9 : ¬ (inR l 0 2 = true ∧ n ≤ 60) := fun z => by rw [h_18] at z; exact absurd z.1 (by decide)
      refine jg_bipush (v := -2) dX4_sheet_27 (by decide) ?_
      have e9 : fSheet g (nI j) l n = (-2, wFt g 0) := by unfold fSheet; rw [if_pos h_9, if_neg hc9]
      exact jg_iret (rfl) dX4_sheet_29 ⟨_, rfl, ⟨by rw [e9] <;> rfl, by rw [e9]; exact hI.ft 0, RF.rf.put (by omega)⟩⟩
    · refine jg_iload_n dX4_sheet_21 rfl rfl ?_
      refine jg_bipush (v := 60) dX4_sheet_22 (by decide) ?_
      refine jg_icmp_le 30 dX4_sheet_24 (by decide) (fun h_24 => ?_) (fun h_24 => ?_)
      · have hc9 : inR l 0 2 = true ∧ n ≤ 60 := ⟨h_18, h_24⟩
        refine jg_iload_n dX4_sheet_30 rfl rfl ?_
        refine jg_if_ge 40 dX4_sheet_31 (by decide) (fun h_31 => ?_) (fun h_31 => ?_)
        · obtain ⟨w, hw, rfl⟩ := nI_of2 (M := 60) (n := 60) (by decide) (Int32.not_lt.mpr h_31) h_24
          refine jg_aload_n dX4_sheet_40 rfl rfl ?_
          refine jg_getr fk_X4_9 sh_57 rfl dX4_sheet_41 ?_
          refine jg_iload_n dX4_sheet_44 rfl rfl ?_
          refine jg_iload_n dX4_sheet_45 rfl rfl ?_
          refine jg_st j sh_58 (by omega) (rfl) dX4_sheet_46 ?_
          refine jg_aload_n dX4_sheet_47 rfl rfl ?_
          refine jg_getr fk_X4_13 sh_57 rfl dX4_sheet_48 ?_
          refine jg_iload_n dX4_sheet_51 rfl rfl ?_
          refine jg_iload_n dX4_sheet_52 rfl rfl ?_
          refine jg_st j sh_59 (by omega) (rfl) dX4_sheet_53 ?_
          refine jg_iconst (v := 0) dX4_sheet_54 (by decide) ?_
          refine jg_istore dX4_sheet_55 (by decide) rfl ?_
          have cut_57 : ∀ (m i : Nat) (x : Mm), i ≤ 60 → 60 < i + m → (∀ r, r ≠ 60 → x r = s2 (s2 (s2 u 57 0 0) 58 j l) 59 j (nI w) r) → (∀ q, q < i → x 60 (60 * j + q) = 0) → (∀ q, q < 60 * j ∨ 60 * j + 60 ≤ q → x 60 q = (s2 u 57 0 0) 60 q) → G E cX4_sheet 5 (yX4_sheet).cls (some .int) 2 (kI (fun r u2 => r = (fSheet g (nI j) l (nI w)).1 ∧ InvM u2 (fSheet g (nI j) l (nI w)).2 ∧ RF u u2)) 57 [some (.ref (E.2.1 57)), some (.int (nI j)), some (.int l), some (.int (nI w)), some (.int (nI i))] [] x := by
            intro m
            induction m with
            | zero => intro i x h1 h2; omega
            | succ m ih =>
              intro i x hi hm hr hz hz2
              refine jg_iload dX4_sheet_57 rfl ?_
              refine jg_bipush (v := 60) dX4_sheet_59 (by decide) ?_
              refine jn_icmp_ge i 60 rfl rfl (by omega) (by omega) 83 dX4_sheet_61 (by decide) (fun h_61 => ?_) (fun h_61 => ?_)
              · refine jg_iconst (v := 1) dX4_sheet_83 (by decide) ?_
                have e9 : fSheet g (nI j) l (nI w) = (1, wSh (wFt g 0) (upS g.2.2.2.1 j (true, l, w, fun _ => 0))) := by unfold fSheet; rw [if_pos h_9, if_pos hc9, if_neg (nI_pos (by omega)), cl_nI (show j < 2 ^ 31 by omega), cl_nI (show w < 2 ^ 31 by omega)]
                exact jg_iret (rfl) dX4_sheet_84 ⟨_, rfl, ⟨by rw [e9], by rw [e9]; exact (hI.ft 0).sh (fun r h1 h2 h3 => by rw [hr r h3, s2_row h2, s2_row h1]) (fun i hi e => ⟨by rw [hr 58 (by decide), s2_row (by decide), s2_ne e], by rw [hr 59 (by decide), s2_ne e, s2_row (by decide)], fun q hq => hz2 _ (by omega)⟩) ⟨by rw [hr 58 (by decide), s2_row (by decide), s2_self]; rfl, by rw [hr 59 (by decide), s2_self], fun q hq => hz q (by omega)⟩, fun r h => by rw [hr r (by omega), s2_row (by omega), s2_row (by omega), s2_row (by omega)]⟩⟩
              · refine jg_aload_n dX4_sheet_64 rfl rfl ?_
                refine jg_getr fk_X4_16 sh_57 rfl dX4_sheet_65 ?_
                refine jg_bipush (v := 60) dX4_sheet_68 (by decide) ?_
                refine jg_iload_n dX4_sheet_70 rfl rfl ?_
                refine jg_imulE (z := nI (60 * j)) dX4_sheet_71 (pk_mul 60 j) ?_
                refine jg_iload dX4_sheet_72 rfl ?_
                refine jg_iaddE (z := nI ((60 * j) + i)) dX4_sheet_74 (nI_add (60 * j) i) ?_
                refine jg_iconst (v := 0) dX4_sheet_75 (by decide) ?_
                refine jg_st ((60 * j) + i) sh_60 (by omega) (rfl) dX4_sheet_76 ?_
                refine jg_iinc (v := nI (i + 1)) dX4_sheet_77 rfl (nI_1 i) (by decide) rfl ?_
                refine jg_goto 57 dX4_sheet_80 (by decide) ?_
                exact ih (i + 1) _ (by omega) (by omega) (fun r h => by rw [s2_row h]; exact hr r h) (fun q h => by by_cases e : q = i; (subst e; exact s2_self _ _ _ _); (rw [s2_ne (by omega)]; exact hz q (by omega))) (fun q h => by rw [s2_ne (by omega)]; exact hz2 q h)
          exact cut_57 61 0 _ (by omega) (by omega) (fun _ _ => rfl) (fun q h => by omega) (fun q h => by rw [s2_row (by decide), s2_row (by decide)])
        · refine jg_aload_n dX4_sheet_34 rfl rfl ?_
          refine jg_iconst (v := 4) dX4_sheet_35 (by decide) ?_
          refine jg_callV (c4_fails E (s2 u 57 0 0) 4) me_X4_fails ml_X4_103 sh_57 rfl rfl (by decide) (by decide) rfl (Nat.le_of_ble_eq_true rfl) dX4_sheet_36 (kk_I (fun r_36 u_36 h_36 => ?_))
          obtain ⟨rfl, rfl⟩ := h_36
          rw [s2_s2]
          have e9 : fSheet g (nI j) l n = (-14, wFt g 4) := by unfold fSheet; rw [if_pos h_9, if_pos hc9, if_pos (Int32.not_le.mp h_31)]
          exact jg_iret (rfl) dX4_sheet_39 ⟨_, rfl, ⟨by rw [e9] <;> rfl, by rw [e9]; exact hI.ft 4, RF.rf.put (by omega)⟩⟩
      · have hc9 : ¬ (inR l 0 2 = true ∧ n ≤ 60) := fun z => h_24 z.2
        refine jg_bipush (v := -2) dX4_sheet_27 (by decide) ?_
        have e9 : fSheet g (nI j) l n = (-2, wFt g 0) := by unfold fSheet; rw [if_pos h_9, if_neg hc9]
        exact jg_iret (rfl) dX4_sheet_29 ⟨_, rfl, ⟨by rw [e9] <;> rfl, by rw [e9]; exact hI.ft 0, RF.rf.put (by omega)⟩⟩
  · refine jg_iconst (v := -1) dX4_sheet_12 (by decide) ?_
    have e9 : fSheet g k l n = (-1, wFt g 0) := by unfold fSheet; rw [if_neg (by rw [h_9]; decide)]
    exact jg_iret (rfl) dX4_sheet_13 ⟨_, rfl, ⟨by rw [e9] <;> rfl, by rw [e9]; exact hI.ft 0, RF.rf.put (by omega)⟩⟩
set_option maxHeartbeats 4000000 in
set_option maxRecDepth 20000 in
theorem d3_lose (E : gT) (u : Mm) (g : Gh) (hO : Ok g) (hI : InvC u g) (k : Int32) : Con E yX3_lose cX3_lose 3 (some .int) 1 [.ref (E.2.1 0), .int k] u (kI (fun r u2 => r = (fLose g k).1 ∧ InvC u2 (fLose g k).2 ∧ CF u u2)) := by
  refine Con.of (lv := [some (.ref (E.2.1 0)), some (.int k), none]) (by decide +kernel) (Nat.le_of_ble_eq_true rfl) rfl ?_
  refine jg_iload_n dX3_lose_0 rfl rfl ?_
  refine jg_callS (c3_isSheet E u k) me_X3_isSheet ml_X3_49 rfl (by decide) (by decide) rfl (Nat.le_of_ble_eq_true rfl) dX3_lose_1 (kk_I (fun r_1 u_1 h_1 => ?_))
  obtain ⟨rfl, rfl⟩ := h_1
  refine jb_if_ne 9 dX3_lose_4 (by decide) (fun h_4 => ?_) (fun h_4 => ?_)
  · obtain ⟨j, hj, rfl⟩ := in4 h_4
    obtain ⟨z1, z2, z3, z4⟩ := hI.2.2.2.1 j hj
    have e9 : fLose g (nI j) = (bI (g.2.2.2.1 j).1, wSh g (upS g.2.2.2.1 j (false, (g.2.2.2.1 j).2))) := by unfold fLose shk; rw [if_pos h_4, cl_nI (show j < 2 ^ 31 by omega)]
    have hfin : InvC (s2 u (46 + 2 * j) 0 0) (wSh g (upS g.2.2.2.1 j (false, (g.2.2.2.1 j).2))) := hI.sh hj (fun r h1 h2 => s2_row h1) ⟨s2_self _ _ _ _, by rw [s2_ne (by decide)]; exact z2, by rw [s2_ne (by decide)]; exact z3, fun i hi => by rw [s2_row (by omega)]; exact z4 i hi⟩
    refine jg_aload_n dX3_lose_9 rfl rfl ?_
    refine jg_getr fk_X3_30 sh_0 rfl dX3_lose_10 ?_
    refine jg_iload_n dX3_lose_13 rfl rfl ?_
    refine jg_aald j sh_45 (sh_at hj) (Nat.le_of_ble_eq_true rfl) (rfl) dX3_lose_14 ?_
    refine jg_geti fk_X3_222 (pg_0 (sh_ok hj)) rfl dX3_lose_15 ?_
    refine jg_top (y := bI ((g.2.2.2.1 j).1)) (z1) ?_
    refine jg_istore_n dX3_lose_18 rfl (by decide) rfl ?_
    refine jg_aload_n dX3_lose_19 rfl rfl ?_
    refine jg_getr fk_X3_30 sh_0 rfl dX3_lose_20 ?_
    refine jg_iload_n dX3_lose_23 rfl rfl ?_
    refine jg_aald j sh_45 (sh_at hj) (Nat.le_of_ble_eq_true rfl) (rfl) dX3_lose_24 ?_
    refine jg_iconst (v := 0) dX3_lose_25 (by decide) ?_
    refine jg_putT fp_X3_222 rfl rfl (pg_0 (sh_ok hj)) rfl dX3_lose_26 ?_
    refine jg_iload_n dX3_lose_29 rfl rfl ?_
    refine jb_if_eq 37 dX3_lose_30 (by decide) (fun h_30 => ?_) (fun h_30 => ?_)
    · refine jg_iconst (v := 0) dX3_lose_37 (by decide) ?_
      exact jg_iret (rfl) dX3_lose_38 ⟨_, rfl, ⟨by rw [e9]; simp [bI, h_30], by rw [e9]; exact hfin, CF.rf.put (by omega)⟩⟩
    · refine jg_iconst (v := 1) dX3_lose_33 (by decide) ?_
      refine jg_goto 38 dX3_lose_34 (by decide) ?_
      exact jg_iret (rfl) dX3_lose_38 ⟨_, rfl, ⟨by rw [e9]; simp [bI, h_30], by rw [e9]; exact hfin, CF.rf.put (by omega)⟩⟩
  · refine jg_iconst (v := -1) dX3_lose_7 (by decide) ?_
    have e9 : fLose g k = (-1, g) := by unfold fLose; rw [if_neg (by rw [h_4]; decide)]
    exact jg_iret (rfl) dX3_lose_8 ⟨_, rfl, ⟨by rw [e9] <;> rfl, by rw [e9]; exact hI, CF.rf⟩⟩
set_option maxHeartbeats 4000000 in
set_option maxRecDepth 20000 in
theorem d4_lose (E : gT) (u : Mm) (g : Gh) (hO : Ok g) (hI : InvM u g) (k : Int32) : Con E yX4_lose cX4_lose 3 (some .int) 2 [.ref (E.2.1 57), .int k] u (kI (fun r u2 => r = (fLose g k).1 ∧ InvM u2 (fLose g k).2 ∧ RF u u2)) := by
  refine Con.of (lv := [some (.ref (E.2.1 57)), some (.int k), none]) (by decide +kernel) (Nat.le_of_ble_eq_true rfl) rfl ?_
  refine jg_iload_n dX4_lose_0 rfl rfl ?_
  refine jg_callS (c4_isSheet E u k) me_X4_isSheet ml_X4_92 rfl (by decide) (by decide) rfl (Nat.le_of_ble_eq_true rfl) dX4_lose_1 (kk_I (fun r_1 u_1 h_1 => ?_))
  obtain ⟨rfl, rfl⟩ := h_1
  refine jb_if_ne 9 dX4_lose_4 (by decide) (fun h_4 => ?_) (fun h_4 => ?_)
  · obtain ⟨j, hj, rfl⟩ := in4 h_4
    have hz := hI.2.2.2.1 j hj
    have e9 : fLose g (nI j) = (bI (g.2.2.2.1 j).1, wSh g (upS g.2.2.2.1 j (false, (g.2.2.2.1 j).2))) := by unfold fLose shk; rw [if_pos h_4, cl_nI (show j < 2 ^ 31 by omega)]
    have hfin : InvM (s2 u 58 j (-9)) (wSh g (upS g.2.2.2.1 j (false, (g.2.2.2.1 j).2))) := hI.sh (fun r h1 _ _ => s2_row h1) (fun i hi e => ⟨s2_ne e, by rw [s2_row (by decide)], fun q hq => by rw [s2_row (by decide)]⟩) ⟨s2_self _ _ _ _, by rw [s2_row (by decide)]; exact hz.2.1, fun i hi => by rw [s2_row (by decide)]; exact hz.2.2 i hi⟩
    refine jg_aload_n dX4_lose_9 rfl rfl ?_
    refine jg_getr fk_X4_9 sh_57 rfl dX4_lose_10 ?_
    refine jg_iload_n dX4_lose_13 rfl rfl ?_
    refine jg_ld j sh_58 (by omega) (rfl) dX4_lose_14 ?_
    refine jg_bipush (v := -9) dX4_lose_15 (by decide) ?_
    refine jg_icmp_ne 24 dX4_lose_17 (by decide) (fun h_17 => ?_) (fun h_17 => ?_)
    · have ht : (g.2.2.2.1 j).1 = true := by cases h9 : (g.2.2.2.1 j).1; exact absurd (hz.n h9) h_17; rfl
      refine jg_iconst (v := 1) dX4_lose_24 (by decide) ?_
      refine jg_istore_n dX4_lose_25 rfl (by decide) rfl ?_
      refine jg_aload_n dX4_lose_26 rfl rfl ?_
      refine jg_getr fk_X4_9 sh_57 rfl dX4_lose_27 ?_
      refine jg_iload_n dX4_lose_30 rfl rfl ?_
      refine jg_bipush (v := -9) dX4_lose_31 (by decide) ?_
      refine jg_st j sh_58 (by omega) (rfl) dX4_lose_33 ?_
      refine jg_iload_n dX4_lose_34 rfl rfl ?_
      exact jg_iret (rfl) dX4_lose_35 ⟨_, rfl, ⟨by rw [e9, ht]; rfl, by rw [e9]; exact hfin, RF.rf.put (by omega)⟩⟩
    · have ht : (g.2.2.2.1 j).1 = false := by cases h9 : (g.2.2.2.1 j).1; rfl; exact absurd ((hz.v h9).symm.trans h_17) (inR_9 (hO.2.2.1 j hj).1)
      refine jg_iconst (v := 0) dX4_lose_20 (by decide) ?_
      refine jg_goto 25 dX4_lose_21 (by decide) ?_
      refine jg_istore_n dX4_lose_25 rfl (by decide) rfl ?_
      refine jg_aload_n dX4_lose_26 rfl rfl ?_
      refine jg_getr fk_X4_9 sh_57 rfl dX4_lose_27 ?_
      refine jg_iload_n dX4_lose_30 rfl rfl ?_
      refine jg_bipush (v := -9) dX4_lose_31 (by decide) ?_
      refine jg_st j sh_58 (by omega) (rfl) dX4_lose_33 ?_
      refine jg_iload_n dX4_lose_34 rfl rfl ?_
      exact jg_iret (rfl) dX4_lose_35 ⟨_, rfl, ⟨by rw [e9, ht]; rfl, by rw [e9]; exact hfin, RF.rf.put (by omega)⟩⟩
  · refine jg_iconst (v := -1) dX4_lose_7 (by decide) ?_
    have e9 : fLose g k = (-1, g) := by unfold fLose; rw [if_neg (by rw [h_4]; decide)]
    exact jg_iret (rfl) dX4_lose_8 ⟨_, rfl, ⟨by rw [e9] <;> rfl, by rw [e9]; exact hI, RF.rf⟩⟩
set_option maxHeartbeats 4000000 in
set_option maxRecDepth 20000 in
theorem d3_put (E : gT) (u : Mm) (g : Gh) (hO : Ok g) (hI : InvC u g) (k i v : Int32) : Con E yX3_put cX3_put 5 (some .int) 1 [.ref (E.2.1 0), .int k, .int i, .int v] u (kI (fun r u2 => r = (fPut g k i v).1 ∧ InvC u2 (fPut g k i v).2 ∧ CF u u2)) := by
  refine Con.of (lv := [some (.ref (E.2.1 0)), some (.int k), some (.int i), some (.int v), none]) (by decide +kernel) (Nat.le_of_ble_eq_true rfl) rfl ?_
  refine jg_aload_n dX3_put_0 rfl rfl ?_
  refine jg_iconst (v := 0) dX3_put_1 (by decide) ?_
  refine jg_puti fp_X3_45 sh_0 rfl dX3_put_2 ?_
  refine jg_iload_n dX3_put_5 rfl rfl ?_
  refine jg_callS (c3_isSheet E (s2 u 0 9 0) k) me_X3_isSheet ml_X3_49 rfl (by decide) (by decide) rfl (Nat.le_of_ble_eq_true rfl) dX3_put_6 (kk_I (fun r_6 u_6 h_6 => ?_))
  obtain ⟨rfl, rfl⟩ := h_6
  refine jb_if_ne 14 dX3_put_9 (by decide) (fun h_9 => ?_) (fun h_9 => ?_)
  · obtain ⟨j, hj, rfl⟩ := in4 h_9
    obtain ⟨z1, z2, z3, z4⟩ := shC_z hI hj 0
    have h60 := (hO.2.2.1 j hj).2
    refine jg_aload_n dX3_put_14 rfl rfl ?_
    refine jg_getr fk_X3_30 sh_0 rfl dX3_put_15 ?_
    refine jg_iload_n dX3_put_18 rfl rfl ?_
    refine jg_aald j sh_45 (sh_at hj) (Nat.le_of_ble_eq_true rfl) (rfl) dX3_put_19 ?_
    refine jg_astore dX3_put_20 (by decide) rfl ?_
    refine jg_aload dX3_put_22 rfl ?_
    refine jg_geti fk_X3_222 (pg_0 (sh_ok hj)) rfl dX3_put_24 ?_
    refine jg_top (y := bI ((g.2.2.2.1 j).1)) (z1) ?_
    refine jb_if_ne 36 dX3_put_27 (by decide) (fun h_27 => ?_) (fun h_27 => ?_)
    · refine jg_aload dX3_put_36 rfl ?_
      refine jg_iload_n dX3_put_38 rfl rfl ?_
      refine jg_callV (c2_hasCell E (sh_ok hj) (s2 u 0 9 0) i) me_X2_hasCell ml_X3_226 (pg_0 (sh_ok hj)) rfl rfl (by decide) (by decide) rfl (Nat.le_of_ble_eq_true rfl) dX3_put_39 (kk_I (fun r_39 u_39 h_39 => ?_))
      obtain ⟨rfl, rfl⟩ := h_39
      refine jg_top (y := bI (inN i (nI (g.2.2.2.1 j).2.2.1))) (congrArg (fun z => bI (inN i z)) z3) ?_
      refine jb_if_ne 51 dX3_put_42 (by decide) (fun h_42 => ?_) (fun h_42 => ?_)
      · obtain ⟨w, hw, rfl⟩ := inN_nat (by omega) h_42
        refine jg_aload dX3_put_51 rfl ?_
        refine jg_getr fk_X3_67 (pg_0 (sh_ok hj)) rfl dX3_put_53 ?_
        refine jg_iload_n dX3_put_56 rfl rfl ?_
        refine jg_aload dX3_put_57 rfl ?_
        refine jg_geti fk_X3_229 (pg_0 (sh_ok hj)) rfl dX3_put_59 ?_
        refine jg_top (y := (g.2.2.2.1 j).2.1) (z2) ?_
        refine jg_iload_n dX3_put_62 rfl rfl ?_
        refine jg_callS (c3_cutTo E (s2 u 0 9 0) (g.2.2.2.1 j).2.1 v (hO.2.2.1 j hj).1) me_X3_cutTo ml_X3_232 rfl (by decide) (by decide) rfl (Nat.le_of_ble_eq_true rfl) dX3_put_63 (kk_I (fun r_63 u_63 h_63 => ?_))
        obtain ⟨rfl, rfl⟩ := h_63
        refine jg_st w (pg_1 (sh_ok hj)) (by omega) (rfl) dX3_put_66 ?_
        refine jg_iconst (v := 1) dX3_put_67 (by decide) ?_
        have e9 : fPut g (nI j) (nI w) v = (1, wSh (wFt g 0) (upS g.2.2.2.1 j (true, (g.2.2.2.1 j).2.1, (g.2.2.2.1 j).2.2.1, upd (g.2.2.2.1 j).2.2.2 w (cutF (g.2.2.2.1 j).2.1 v)))) := by unfold fPut shk; rw [if_pos h_9, cl_nI (show j < 2 ^ 31 by omega), if_pos h_27, if_pos h_42, cl_nI (show w < 2 ^ 31 by omega)]
        exact jg_iret (rfl) dX3_put_68 ⟨_, rfl, ⟨by rw [e9] <;> rfl, by rw [e9]; exact (hI.ft 0).sh hj (fun r h1 h2 => s2_row h2) ⟨by rw [s2_row (by omega), z1, h_27], by rw [s2_row (by omega)]; exact z2, by rw [s2_row (by omega)]; exact z3, fun q hq => by rw [s2_at]; by_cases e : q = w; (subst e; rw [pk_us]; exact pk_us.symm); (rw [pk_un e, z4 q hq]; exact (pk_un e).symm)⟩, (CF.rf.put (by omega)).put (by omega)⟩⟩
      · refine jg_aload_n dX3_put_45 rfl rfl ?_
        refine jg_iconst (v := 3) dX3_put_46 (by decide) ?_
        refine jg_callV (c3_failed E (s2 u 0 9 0) 3) me_X3_failed ml_X3_64 sh_0 rfl rfl (by decide) (by decide) rfl (Nat.le_of_ble_eq_true rfl) dX3_put_47 (kk_I (fun r_47 u_47 h_47 => ?_))
        obtain ⟨rfl, rfl⟩ := h_47
        rw [s2_s2]
        have e9 : fPut g (nI j) i v = (-13, wFt g 3) := by unfold fPut shk; rw [if_pos h_9, cl_nI (show j < 2 ^ 31 by omega), if_pos h_27, if_neg (by rw [h_42]; decide)]
        exact jg_iret (rfl) dX3_put_50 ⟨_, rfl, ⟨by rw [e9] <;> rfl, by rw [e9]; exact hI.ft 3, CF.rf.put (by omega)⟩⟩
    · refine jg_aload_n dX3_put_30 rfl rfl ?_
      refine jg_iconst (v := 1) dX3_put_31 (by decide) ?_
      refine jg_callV (c3_failed E (s2 u 0 9 0) 1) me_X3_failed ml_X3_64 sh_0 rfl rfl (by decide) (by decide) rfl (Nat.le_of_ble_eq_true rfl) dX3_put_32 (kk_I (fun r_32 u_32 h_32 => ?_))
      obtain ⟨rfl, rfl⟩ := h_32
      rw [s2_s2]
      have e9 : fPut g (nI j) i v = (-11, wFt g 1) := by unfold fPut shk; rw [if_pos h_9, cl_nI (show j < 2 ^ 31 by omega), if_neg (by rw [h_27]; decide)]
      exact jg_iret (rfl) dX3_put_35 ⟨_, rfl, ⟨by rw [e9] <;> rfl, by rw [e9]; exact hI.ft 1, CF.rf.put (by omega)⟩⟩
  · refine jg_iconst (v := -1) dX3_put_12 (by decide) ?_
    have e9 : fPut g k i v = (-1, wFt g 0) := by unfold fPut; rw [if_neg (by rw [h_9]; decide)]
    exact jg_iret (rfl) dX3_put_13 ⟨_, rfl, ⟨by rw [e9] <;> rfl, by rw [e9]; exact hI.ft 0, CF.rf.put (by omega)⟩⟩
set_option maxHeartbeats 4000000 in
set_option maxRecDepth 20000 in
theorem d4_put (E : gT) (u : Mm) (g : Gh) (hO : Ok g) (hI : InvM u g) (k i v : Int32) : Con E yX4_put cX4_put 4 (some .int) 2 [.ref (E.2.1 57), .int k, .int i, .int v] u (kI (fun r u2 => r = (fPut g k i v).1 ∧ InvM u2 (fPut g k i v).2 ∧ RF u u2)) := by
  refine Con.of (lv := [some (.ref (E.2.1 57)), some (.int k), some (.int i), some (.int v)]) (by decide +kernel) (Nat.le_of_ble_eq_true rfl) rfl ?_
  refine jg_aload_n dX4_put_0 rfl rfl ?_
  refine jg_iconst (v := 0) dX4_put_1 (by decide) ?_
  refine jg_puti fp_X4_76 sh_57 rfl dX4_put_2 ?_
  refine jg_iload_n dX4_put_5 rfl rfl ?_
  refine jg_callS (c4_isSheet E (s2 u 57 0 0) k) me_X4_isSheet ml_X4_92 rfl (by decide) (by decide) rfl (Nat.le_of_ble_eq_true rfl) dX4_put_6 (kk_I (fun r_6 u_6 h_6 => ?_))
  obtain ⟨rfl, rfl⟩ := h_6
  refine jb_if_ne 14 dX4_put_9 (by decide) (fun h_9 => ?_) (fun h_9 => ?_)
  · obtain ⟨j, hj, rfl⟩ := in4 h_9
    have hz := shM_z hI hj 0
    have h60 := (hO.2.2.1 j hj).2
    refine jg_aload_n dX4_put_14 rfl rfl ?_
    refine jg_getr fk_X4_9 sh_57 rfl dX4_put_15 ?_
    refine jg_iload_n dX4_put_18 rfl rfl ?_
    refine jg_ld j sh_58 (by omega) (rfl) dX4_put_19 ?_
    refine jg_bipush (v := -9) dX4_put_20 (by decide) ?_
    refine jg_icmp_ne 31 dX4_put_22 (by decide) (fun h_22 => ?_) (fun h_22 => ?_)
    · have ht : (g.2.2.2.1 j).1 = true := by cases h9 : (g.2.2.2.1 j).1; exact absurd (hz.n h9) h_22; rfl
      have hl := hz.v ht
      refine jg_iload_n dX4_put_31 rfl rfl ?_
      refine jg_iconst (v := 0) dX4_put_32 (by decide) ?_
      refine jg_aload_n dX4_put_33 rfl rfl ?_
      refine jg_getr fk_X4_13 sh_57 rfl dX4_put_34 ?_
      refine jg_iload_n dX4_put_37 rfl rfl ?_
      refine jg_ld j sh_59 (by omega) (rfl) dX4_put_38 ?_
      refine jg_top (y := nI ((g.2.2.2.1 j).2.2.1)) (hz.2.1) ?_
      refine jg_iconst (v := 1) dX4_put_39 (by decide) ?_
      refine jg_isubE (z := nI (g.2.2.2.1 j).2.2.1 - 1) dX4_put_40 (rfl) ?_
      refine jg_callS (c4_within E (s2 u 57 0 0) i 0 (nI (g.2.2.2.1 j).2.2.1 - 1)) me_X4_within ml_X4_82 rfl (by decide) (by decide) rfl (Nat.le_of_ble_eq_true rfl) dX4_put_41 (kk_I (fun r_41 u_41 h_41 => ?_))
      obtain ⟨rfl, rfl⟩ := h_41
      refine jg_top (y := bI (inN i (nI (g.2.2.2.1 j).2.2.1))) (congrArg bI (inN_inR h60)) ?_
      refine jb_if_ne 53 dX4_put_44 (by decide) (fun h_44 => ?_) (fun h_44 => ?_)
      · obtain ⟨w, hw, rfl⟩ := inN_nat (by omega) h_44
        refine jg_aload_n dX4_put_53 rfl rfl ?_
        refine jg_getr fk_X4_16 sh_57 rfl dX4_put_54 ?_
        refine jg_bipush (v := 60) dX4_put_57 (by decide) ?_
        refine jg_iload_n dX4_put_59 rfl rfl ?_
        refine jg_imulE (z := nI (60 * j)) dX4_put_60 (pk_mul 60 j) ?_
        refine jg_iload_n dX4_put_61 rfl rfl ?_
        refine jg_iaddE (z := nI ((60 * j) + w)) dX4_put_62 (nI_add (60 * j) w) ?_
        refine jg_aload_n dX4_put_63 rfl rfl ?_
        refine jg_getr fk_X4_9 sh_57 rfl dX4_put_64 ?_
        refine jg_iload_n dX4_put_67 rfl rfl ?_
        refine jg_ld j sh_58 (by omega) (rfl) dX4_put_68 ?_
        refine jg_top (y := (g.2.2.2.1 j).2.1) (hl) ?_
        refine jg_if_ne 77 dX4_put_69 (by decide) (fun h_69 => ?_) (fun h_69 => ?_)
        · refine jg_aload_n dX4_put_77 rfl rfl ?_
          refine jg_getr fk_X4_9 sh_57 rfl dX4_put_78 ?_
          refine jg_iload_n dX4_put_81 rfl rfl ?_
          refine jg_ld j sh_58 (by omega) (rfl) dX4_put_82 ?_
          refine jg_top (y := (g.2.2.2.1 j).2.1) (hl) ?_
          refine jg_iconst (v := 1) dX4_put_83 (by decide) ?_
          refine jg_icmp_ne 92 dX4_put_84 (by decide) (fun h_84 => ?_) (fun h_84 => ?_)
          · have hcut : v = cutF (g.2.2.2.1 j).2.1 v := by unfold cutF; rw [if_neg h_69, if_neg h_84]
            refine jg_iload_n dX4_put_92 rfl rfl ?_
            refine jg_top (y := cutF (g.2.2.2.1 j).2.1 v) hcut ?_
            refine jg_st ((60 * j) + w) sh_60 (by omega) (rfl) dX4_put_93 ?_
            refine jg_iconst (v := 1) dX4_put_94 (by decide) ?_
            have e9 : fPut g (nI j) (nI w) v = (1, wSh (wFt g 0) (upS g.2.2.2.1 j (true, (g.2.2.2.1 j).2.1, (g.2.2.2.1 j).2.2.1, upd (g.2.2.2.1 j).2.2.2 w (cutF (g.2.2.2.1 j).2.1 v)))) := by unfold fPut shk; rw [if_pos h_9, cl_nI (show j < 2 ^ 31 by omega), if_pos ht, if_pos h_44, cl_nI (show w < 2 ^ 31 by omega)]
            exact jg_iret (rfl) dX4_put_95 ⟨_, rfl, ⟨by rw [e9] <;> rfl, by rw [e9]; exact (hI.ft 0).sh (fun r _ _ h3 => s2_row h3) (fun a ha e => ⟨by rw [s2_row (by decide)], by rw [s2_row (by decide)], fun q hq => s2_ne (by omega)⟩) ⟨by rw [s2_row (by decide)]; exact hl, by rw [s2_row (by decide)]; exact hz.2.1, fun q hq => by by_cases e : q = w; (subst e; rw [s2_self]; exact pk_us.symm); (rw [s2_ne (by omega), hz.2.2 q hq]; exact (pk_un e).symm)⟩, (RF.rf.put (by omega)).put (by omega)⟩⟩
          · have hcut : v.toInt16.toInt32 = cutF (g.2.2.2.1 j).2.1 v := by unfold cutF; rw [if_neg h_69, if_pos h_84]
            refine jg_iload_n dX4_put_87 rfl rfl ?_
            refine jg_i2s dX4_put_88 rfl ?_
            refine jg_goto 93 dX4_put_89 (by decide) ?_
            refine jg_top (y := cutF (g.2.2.2.1 j).2.1 v) hcut ?_
            refine jg_st ((60 * j) + w) sh_60 (by omega) (rfl) dX4_put_93 ?_
            refine jg_iconst (v := 1) dX4_put_94 (by decide) ?_
            have e9 : fPut g (nI j) (nI w) v = (1, wSh (wFt g 0) (upS g.2.2.2.1 j (true, (g.2.2.2.1 j).2.1, (g.2.2.2.1 j).2.2.1, upd (g.2.2.2.1 j).2.2.2 w (cutF (g.2.2.2.1 j).2.1 v)))) := by unfold fPut shk; rw [if_pos h_9, cl_nI (show j < 2 ^ 31 by omega), if_pos ht, if_pos h_44, cl_nI (show w < 2 ^ 31 by omega)]
            exact jg_iret (rfl) dX4_put_95 ⟨_, rfl, ⟨by rw [e9] <;> rfl, by rw [e9]; exact (hI.ft 0).sh (fun r _ _ h3 => s2_row h3) (fun a ha e => ⟨by rw [s2_row (by decide)], by rw [s2_row (by decide)], fun q hq => s2_ne (by omega)⟩) ⟨by rw [s2_row (by decide)]; exact hl, by rw [s2_row (by decide)]; exact hz.2.1, fun q hq => by by_cases e : q = w; (subst e; rw [s2_self]; exact pk_us.symm); (rw [s2_ne (by omega), hz.2.2 q hq]; exact (pk_un e).symm)⟩, (RF.rf.put (by omega)).put (by omega)⟩⟩
        · have hcut : v.toInt8.toInt32 = cutF (g.2.2.2.1 j).2.1 v := by unfold cutF; rw [if_pos h_69]
          refine jg_iload_n dX4_put_72 rfl rfl ?_
          refine jg_i2b dX4_put_73 rfl ?_
          refine jg_goto 93 dX4_put_74 (by decide) ?_
          refine jg_top (y := cutF (g.2.2.2.1 j).2.1 v) hcut ?_
          refine jg_st ((60 * j) + w) sh_60 (by omega) (rfl) dX4_put_93 ?_
          refine jg_iconst (v := 1) dX4_put_94 (by decide) ?_
          have e9 : fPut g (nI j) (nI w) v = (1, wSh (wFt g 0) (upS g.2.2.2.1 j (true, (g.2.2.2.1 j).2.1, (g.2.2.2.1 j).2.2.1, upd (g.2.2.2.1 j).2.2.2 w (cutF (g.2.2.2.1 j).2.1 v)))) := by unfold fPut shk; rw [if_pos h_9, cl_nI (show j < 2 ^ 31 by omega), if_pos ht, if_pos h_44, cl_nI (show w < 2 ^ 31 by omega)]
          exact jg_iret (rfl) dX4_put_95 ⟨_, rfl, ⟨by rw [e9] <;> rfl, by rw [e9]; exact (hI.ft 0).sh (fun r _ _ h3 => s2_row h3) (fun a ha e => ⟨by rw [s2_row (by decide)], by rw [s2_row (by decide)], fun q hq => s2_ne (by omega)⟩) ⟨by rw [s2_row (by decide)]; exact hl, by rw [s2_row (by decide)]; exact hz.2.1, fun q hq => by by_cases e : q = w; (subst e; rw [s2_self]; exact pk_us.symm); (rw [s2_ne (by omega), hz.2.2 q hq]; exact (pk_un e).symm)⟩, (RF.rf.put (by omega)).put (by omega)⟩⟩
      · refine jg_aload_n dX4_put_47 rfl rfl ?_
        refine jg_iconst (v := 3) dX4_put_48 (by decide) ?_
        refine jg_callV (c4_fails E (s2 u 57 0 0) 3) me_X4_fails ml_X4_103 sh_57 rfl rfl (by decide) (by decide) rfl (Nat.le_of_ble_eq_true rfl) dX4_put_49 (kk_I (fun r_49 u_49 h_49 => ?_))
        obtain ⟨rfl, rfl⟩ := h_49
        rw [s2_s2]
        have e9 : fPut g (nI j) i v = (-13, wFt g 3) := by unfold fPut shk; rw [if_pos h_9, cl_nI (show j < 2 ^ 31 by omega), if_pos ht, if_neg (by rw [h_44]; decide)]
        exact jg_iret (rfl) dX4_put_52 ⟨_, rfl, ⟨by rw [e9] <;> rfl, by rw [e9]; exact hI.ft 3, RF.rf.put (by omega)⟩⟩
    · have ht : (g.2.2.2.1 j).1 = false := by cases h9 : (g.2.2.2.1 j).1; rfl; exact absurd ((hz.v h9).symm.trans h_22) (inR_9 (hO.2.2.1 j hj).1)
      refine jg_aload_n dX4_put_25 rfl rfl ?_
      refine jg_iconst (v := 1) dX4_put_26 (by decide) ?_
      refine jg_callV (c4_fails E (s2 u 57 0 0) 1) me_X4_fails ml_X4_103 sh_57 rfl rfl (by decide) (by decide) rfl (Nat.le_of_ble_eq_true rfl) dX4_put_27 (kk_I (fun r_27 u_27 h_27 => ?_))
      obtain ⟨rfl, rfl⟩ := h_27
      rw [s2_s2]
      have e9 : fPut g (nI j) i v = (-11, wFt g 1) := by unfold fPut shk; rw [if_pos h_9, cl_nI (show j < 2 ^ 31 by omega), if_neg (by rw [ht]; decide)]
      exact jg_iret (rfl) dX4_put_30 ⟨_, rfl, ⟨by rw [e9] <;> rfl, by rw [e9]; exact hI.ft 1, RF.rf.put (by omega)⟩⟩
  · refine jg_iconst (v := -1) dX4_put_12 (by decide) ?_
    have e9 : fPut g k i v = (-1, wFt g 0) := by unfold fPut; rw [if_neg (by rw [h_9]; decide)]
    exact jg_iret (rfl) dX4_put_13 ⟨_, rfl, ⟨by rw [e9] <;> rfl, by rw [e9]; exact hI.ft 0, RF.rf.put (by omega)⟩⟩
