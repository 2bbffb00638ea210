set_option maxHeartbeats 4000000 in
set_option maxRecDepth 20000 in
theorem c4_within (E : gT) (u : Mm) (a lo hi : Int32) : Con E yX4_within cX4_within 3 (some .boolean) 0 [.int a, .int lo, .int hi] u (kI (fun r u2 => r = bI (inR a lo hi) ∧ u = u2)) := by
  refine Con.of (lv := [some (.int a), some (.int lo), some (.int hi)]) (by decide +kernel) (Nat.le_of_ble_eq_true rfl) rfl ?_
  refine jg_iload_n dX4_within_0 rfl rfl ?_
  refine jg_iload_n dX4_within_1 rfl rfl ?_
  refine jg_icmp_lt 14 dX4_within_2 (by decide) (fun h_2 => ?_) (fun h_2 => ?_)
  · refine jg_iconst (v := 0) dX4_within_14 (by decide) ?_
    exact jg_iret (rfl) dX4_within_15 ⟨_, rfl, ⟨by simp [bI, inR, *], rfl⟩⟩
  · refine jg_iload_n dX4_within_5 rfl rfl ?_
    refine jg_iload_n dX4_within_6 rfl rfl ?_
    refine jg_icmp_gt 14 dX4_within_7 (by decide) (fun h_7 => ?_) (fun h_7 => ?_)
    · refine jg_iconst (v := 0) dX4_within_14 (by decide) ?_
      exact jg_iret (rfl) dX4_within_15 ⟨_, rfl, ⟨by simp [bI, inR, *], rfl⟩⟩
    · refine jg_iconst (v := 1) dX4_within_10 (by decide) ?_
      refine jg_goto 15 dX4_within_11 (by decide) ?_
      exact jg_iret (rfl) dX4_within_15 ⟨_, rfl, ⟨by simp [bI, inR, *], rfl⟩⟩
set_option maxHeartbeats 4000000 in
set_option maxRecDepth 20000 in
theorem c4_isArea (E : gT) (u : Mm) (a : Int32) : Con E yX4_isArea cX4_isArea 2 (some .boolean) 0 [.ref (E.2.1 57), .int a] u (kI (fun r u2 => r = bI (inN a (u 57 5)) ∧ u = u2)) := by
  refine Con.of (lv := [some (.ref (E.2.1 57)), some (.int a)]) (by decide +kernel) (Nat.le_of_ble_eq_true rfl) rfl ?_
  refine jg_iload_n dX4_isArea_0 rfl rfl ?_
  refine jg_if_lt 16 dX4_isArea_1 (by decide) (fun h_1 => ?_) (fun h_1 => ?_)
  · refine jg_iconst (v := 0) dX4_isArea_16 (by decide) ?_
    exact jg_iret (rfl) dX4_isArea_17 ⟨_, rfl, ⟨by simp [bI, inN, *], rfl⟩⟩
  · refine jg_iload_n dX4_isArea_4 rfl rfl ?_
    refine jg_aload_n dX4_isArea_5 rfl rfl ?_
    refine jg_geti fk_X4_86 sh_57 rfl dX4_isArea_6 ?_
    refine jg_icmp_ge 16 dX4_isArea_9 (by decide) (fun h_9 => ?_) (fun h_9 => ?_)
    · refine jg_iconst (v := 0) dX4_isArea_16 (by decide) ?_
      exact jg_iret (rfl) dX4_isArea_17 ⟨_, rfl, ⟨by simp [bI, inN, *], rfl⟩⟩
    · refine jg_iconst (v := 1) dX4_isArea_12 (by decide) ?_
      refine jg_goto 17 dX4_isArea_13 (by decide) ?_
      exact jg_iret (rfl) dX4_isArea_17 ⟨_, rfl, ⟨by simp [bI, inN, *], rfl⟩⟩
set_option maxHeartbeats 4000000 in
set_option maxRecDepth 20000 in
theorem c4_fails (E : gT) (u : Mm) (a : Int32) : Con E yX4_fails cX4_fails 2 (some .int) 0 [.ref (E.2.1 57), .int a] u (kI (fun r u2 => r = -10 - a ∧ u2 = s2 u 57 0 a)) := by
  refine Con.of (lv := [some (.ref (E.2.1 57)), some (.int a)]) (by decide +kernel) (Nat.le_of_ble_eq_true rfl) rfl ?_
  refine jg_aload_n dX4_fails_0 rfl rfl ?_
  refine jg_iload_n dX4_fails_1 rfl rfl ?_
  refine jg_puti fp_X4_76 sh_57 rfl dX4_fails_2 ?_
  refine jg_bipush (v := -10) dX4_fails_5 (by decide) ?_
  refine jg_iload_n dX4_fails_7 rfl rfl ?_
  refine jg_isub dX4_fails_8 ?_
  exact jg_iret (rfl) dX4_fails_9 ⟨_, rfl, ⟨rfl, rfl⟩⟩
set_option maxHeartbeats 4000000 in
set_option maxRecDepth 20000 in
theorem c4_begins (E : gT) (u : Mm) (a : Int32) : Con E yX4_begins cX4_begins 2 none 0 [.ref (E.2.1 57), .int a] u (kV (fun u2 => u2 = s2 u 57 1 (nTr (u 57 1) a))) := by
  refine Con.of (lv := [some (.ref (E.2.1 57)), some (.int a)]) (by decide +kernel) (Nat.le_of_ble_eq_true rfl) rfl ?_
  refine jg_aload_n dX4_begins_0 rfl rfl ?_
  refine jg_bipush (v := 31) dX4_begins_1 (by decide) ?_
  refine jg_aload_n dX4_begins_3 rfl rfl ?_
  refine jg_geti fk_X4_245 sh_57 rfl dX4_begins_4 ?_
  refine jg_imul dX4_begins_7 ?_
  refine jg_iload_n dX4_begins_8 rfl rfl ?_
  refine jg_iadd dX4_begins_9 ?_
  refine jg_puti fp_X4_245 sh_57 rfl dX4_begins_10 ?_
  exact jg_vret dX4_begins_13 ⟨rfl, rfl⟩
set_option maxHeartbeats 4000000 in
set_option maxRecDepth 20000 in
theorem c4_lost (E : gT) (u : Mm) (a : Int32) : Con E yX4_lost cX4_lost 2 (some .long) 0 [.ref (E.2.1 57), .int a] u (kL (fun r u2 => r = -9223372036854775808 ∧ u2 = s2 u 57 0 a)) := by
  refine Con.of (lv := [some (.ref (E.2.1 57)), some (.int a)]) (by decide +kernel) (Nat.le_of_ble_eq_true rfl) rfl ?_
  refine jg_aload_n dX4_lost_0 rfl rfl ?_
  refine jg_iload_n dX4_lost_1 rfl rfl ?_
  refine jg_puti fp_X4_76 sh_57 rfl dX4_lost_2 ?_
  refine jg_ldc2 kl_X4_80 dX4_lost_5 ?_
  exact jg_lret dX4_lost_8 ⟨_, rfl, ⟨rfl, rfl⟩⟩
set_option maxHeartbeats 4000000 in
set_option maxRecDepth 20000 in
theorem d4_width (E : gT) (u : Mm) (g : Gh) (hO : Ok g) (hI : InvM u g) (a v : Int32) : Con E yX4_width cX4_width 4 (some .int) 1 [.ref (E.2.1 57), .int a, .int v] u (kI (fun r u2 => r = (fWidth g a v).1 ∧ InvM u2 (fWidth g a v).2 ∧ RF u u2)) := by
  have hn := hO.1.1
  refine Con.of (lv := [some (.ref (E.2.1 57)), some (.int a), some (.int v), none]) (by decide +kernel) (Nat.le_of_ble_eq_true rfl) rfl ?_
  refine jg_aload_n dX4_width_0 rfl rfl ?_
  refine jg_iload_n dX4_width_1 rfl rfl ?_
  refine jg_callV (c4_isArea E u a) me_X4_isArea ml_X4_173 sh_57 rfl rfl (by decide) (by decide) rfl (Nat.le_of_ble_eq_true rfl) dX4_width_2 (kk_I (fun r_2 u_2 h_2 => ?_))
  obtain ⟨rfl, rfl⟩ := h_2
  refine jg_top (y := bI (inN a (nI (pn g.1)))) (congrArg (fun z => bI (inN a z)) hI.1.1) ?_
  refine jb_if_ne 10 dX4_width_5 (by decide) (fun h_5 => ?_) (fun h_5 => ?_)
  · obtain ⟨i, hi, rfl⟩ := inN_nat (by omega) h_5
    refine jg_iload_n dX4_width_10 rfl rfl ?_
    refine jg_iconst (v := 1) dX4_width_11 (by decide) ?_
    refine jg_bipush (v := 9) dX4_width_12 (by decide) ?_
    refine jg_callS (c4_within E u v 1 9) me_X4_within ml_X4_82 rfl (by decide) (by decide) rfl (Nat.le_of_ble_eq_true rfl) dX4_width_14 (kk_I (fun r_14 u_14 h_14 => ?_))
    obtain ⟨rfl, rfl⟩ := h_14
    refine jb_if_ne 23 dX4_width_17 (by decide) (fun h_17 => ?_) (fun h_17 => ?_)
    · obtain ⟨w, hw1, hw2, rfl⟩ := inR_nat (lo := 1) (hi := 9) (by omega) h_17 (by omega)
      refine jg_aload_n dX4_width_23 rfl rfl ?_
      refine jg_getr fk_X4_25 sh_57 rfl dX4_width_24 ?_
      refine jg_iload_n dX4_width_27 rfl rfl ?_
      refine jg_ld i sh_63 (by omega) (rfl) dX4_width_28 ?_
      refine jg_top (y := nI (g.1 3 i)) ((hI.1.2 i hi).2.2.1) ?_
      refine jg_istore_n dX4_width_29 rfl (by decide) rfl ?_
      refine jg_aload_n dX4_width_30 rfl rfl ?_
      refine jg_getr fk_X4_25 sh_57 rfl dX4_width_31 ?_
      refine jg_iload_n dX4_width_34 rfl rfl ?_
      refine jg_iload_n dX4_width_35 rfl rfl ?_
      refine jg_st i sh_63 (by omega) (rfl) dX4_width_36 ?_
      refine jg_iload_n dX4_width_37 rfl rfl ?_
      have e9 : fWidth g (nI i) (nI w) = (nI (g.1 3 i), wPc g (upP g.1 3 i w)) := by unfold fWidth; rw [if_pos h_5, if_pos h_17, cl_nI (show i < 2 ^ 31 by omega), cl_nI (show w < 2 ^ 31 by omega)]
      exact jg_iret (rfl) dX4_width_38 ⟨_, rfl, ⟨by rw [e9] <;> rfl, by rw [e9]; exact hI.pc (hI.1.wd i w) rfl (fun k h1 h2 h3 h4 h5 h6 h7 h8 => s2_row (by omega)) (fun j h1 h2 => by rw [s2_row (by decide)]), RF.rf.put (by omega)⟩⟩
    · refine jg_bipush (v := -2) dX4_width_20 (by decide) ?_
      have e9 : fWidth g (nI i) v = (-2, g) := by unfold fWidth; rw [if_pos h_5, if_neg (by rw [h_17]; decide)]
      exact jg_iret (rfl) dX4_width_22 ⟨_, rfl, ⟨by rw [e9] <;> rfl, by rw [e9]; exact hI, RF.rf⟩⟩
  · refine jg_iconst (v := -1) dX4_width_8 (by decide) ?_
    have e9 : fWidth g a v = (-1, g) := by unfold fWidth; rw [if_neg (by rw [h_5]; decide)]
    exact jg_iret (rfl) dX4_width_9 ⟨_, rfl, ⟨by rw [e9] <;> rfl, by rw [e9]; exact hI, RF.rf⟩⟩
set_option maxHeartbeats 4000000 in
set_option maxRecDepth 20000 in
theorem d4_plot (E : gT) (u : Mm) (g : Gh) (hO : Ok g) (hI : InvM u g) (a v : Int32) : Con E yX4_plot cX4_plot 4 (some .int) 1 [.ref (E.2.1 57), .int a, .int v] u (kI (fun r u2 => r = (fPlot g a v).1 ∧ InvM u2 (fPlot g a v).2 ∧ RF u u2)) := by
  have hn := hO.1.1
  refine Con.of (lv := [some (.ref (E.2.1 57)), some (.int a), some (.int v), none]) (by decide +kernel) (Nat.le_of_ble_eq_true rfl) rfl ?_
  refine jg_aload_n dX4_plot_0 rfl rfl ?_
  refine jg_iload_n dX4_plot_1 rfl rfl ?_
  refine jg_callV (c4_isArea E u a) me_X4_isArea ml_X4_173 sh_57 rfl rfl (by decide) (by decide) rfl (Nat.le_of_ble_eq_true rfl) dX4_plot_2 (kk_I (fun r_2 u_2 h_2 => ?_))
  obtain ⟨rfl, rfl⟩ := h_2
  refine jg_top (y := bI (inN a (nI (pn g.1)))) (congrArg (fun z => bI (inN a z)) hI.1.1) ?_
  refine jb_if_ne 10 dX4_plot_5 (by decide) (fun h_5 => ?_) (fun h_5 => ?_)
  · obtain ⟨i, hi, rfl⟩ := inN_nat (by omega) h_5
    refine jg_iload_n dX4_plot_10 rfl rfl ?_
    refine jg_iconst (v := 1) dX4_plot_11 (by decide) ?_
    refine jg_bipush (v := 9) dX4_plot_12 (by decide) ?_
    refine jg_callS (c4_within E u v 1 9) me_X4_within ml_X4_82 rfl (by decide) (by decide) rfl (Nat.le_of_ble_eq_true rfl) dX4_plot_14 (kk_I (fun r_14 u_14 h_14 => ?_))
    obtain ⟨rfl, rfl⟩ := h_14
    refine jb_if_ne 23 dX4_plot_17 (by decide) (fun h_17 => ?_) (fun h_17 => ?_)
    · obtain ⟨w, hw1, hw2, rfl⟩ := inR_nat (lo := 1) (hi := 9) (by omega) h_17 (by omega)
      refine jg_aload_n dX4_plot_23 rfl rfl ?_
      refine jg_getr fk_X4_22 sh_57 rfl dX4_plot_24 ?_
      refine jg_iload_n dX4_plot_27 rfl rfl ?_
      refine jg_ld i sh_62 (by omega) (rfl) dX4_plot_28 ?_
      refine jg_top (y := nI (g.1 2 i)) ((hI.1.2 i hi).2.1) ?_
      refine jg_istore_n dX4_plot_29 rfl (by decide) rfl ?_
      refine jg_aload_n dX4_plot_30 rfl rfl ?_
      refine jg_getr fk_X4_22 sh_57 rfl dX4_plot_31 ?_
      refine jg_iload_n dX4_plot_34 rfl rfl ?_
      refine jg_iload_n dX4_plot_35 rfl rfl ?_
      refine jg_st i sh_62 (by omega) (rfl) dX4_plot_36 ?_
      refine jg_iload_n dX4_plot_37 rfl rfl ?_
      have e9 : fPlot g (nI i) (nI w) = (nI (g.1 2 i), wPc g (upP g.1 2 i w)) := by unfold fPlot; rw [if_pos h_5, if_pos h_17, cl_nI (show i < 2 ^ 31 by omega), cl_nI (show w < 2 ^ 31 by omega)]
      exact jg_iret (rfl) dX4_plot_38 ⟨_, rfl, ⟨by rw [e9] <;> rfl, by rw [e9]; exact hI.pc (hI.1.pt i w) rfl (fun k h1 h2 h3 h4 h5 h6 h7 h8 => s2_row (by omega)) (fun j h1 h2 => by rw [s2_row (by decide)]), RF.rf.put (by omega)⟩⟩
    · refine jg_bipush (v := -2) dX4_plot_20 (by decide) ?_
      have e9 : fPlot g (nI i) v = (-2, g) := by unfold fPlot; rw [if_pos h_5, if_neg (by rw [h_17]; decide)]
      exact jg_iret (rfl) dX4_plot_22 ⟨_, rfl, ⟨by rw [e9] <;> rfl, by rw [e9]; exact hI, RF.rf⟩⟩
  · refine jg_iconst (v := -1) dX4_plot_8 (by decide) ?_
    have e9 : fPlot g a v = (-1, g) := by unfold fPlot; rw [if_neg (by rw [h_5]; decide)]
    exact jg_iret (rfl) dX4_plot_9 ⟨_, rfl, ⟨by rw [e9] <;> rfl, by rw [e9]; exact hI, RF.rf⟩⟩
theorem inR01 {w : Int32} : inR w 0 1 = (decide (w = 0) || decide (w = 1)) := by
  by_cases h : inR w 0 1 = true
  · obtain ⟨i, -, h2, rfl⟩ := inR_nat (lo := 0) (hi := 1) (by omega) h (by omega)
    rw [h]
    rcases (show i = 0 ∨ i = 1 by omega) with rfl | rfl <;> rfl
  · rw [Bool.not_eq_true] at h
    rw [h]
    symm
    simp only [Bool.or_eq_false_iff, decide_eq_false_iff_not]
    exact ⟨fun e => by subst e; exact absurd h (by decide), fun e => by subst e; exact absurd h (by decide)⟩
set_option maxHeartbeats 4000000 in
set_option maxRecDepth 20000 in
theorem d4_turn (E : gT) (u : Mm) (g : Gh) (hO : Ok g) (hI : InvM u g) (w k : Int32) : Con E yX4_turn cX4_turn 3 (some .int) 1 [.ref (E.2.1 57), .int w, .int k] u (kI (fun r u2 => r = (fTurn g w k).1 ∧ InvM u2 (fTurn g w k).2 ∧ RF u u2)) := by
  have hn := hO.1.1
  refine Con.of (lv := [some (.ref (E.2.1 57)), some (.int w), some (.int k)]) (by decide +kernel) (Nat.le_of_ble_eq_true rfl) rfl ?_
  refine jg_iload_n dX4_turn_0 rfl rfl ?_
  refine jg_iconst (v := 0) dX4_turn_1 (by decide) ?_
  refine jg_iconst (v := 1) dX4_turn_2 (by decide) ?_
  refine jg_callS (c4_within E u w 0 1) me_X4_within ml_X4_82 rfl (by decide) (by decide) rfl (Nat.le_of_ble_eq_true rfl) dX4_turn_3 (kk_I (fun r_3 u_3 h_3 => ?_))
  obtain ⟨rfl, rfl⟩ := h_3
  refine jg_top (y := bI (decide (w = 0) || decide (w = 1))) (congrArg bI inR01) ?_
  refine jb_if_ne 12 dX4_turn_6 (by decide) (fun h_6 => ?_) (fun h_6 => ?_)
  · obtain ⟨x, hx, rfl⟩ : ∃ x, x < 2 ∧ w = nI x := by have h_4 := h_6; simp only [Bool.or_eq_true, decide_eq_true_eq] at h_4; rcases h_4 with z | z; exact ⟨0, by omega, z⟩; exact ⟨1, by omega, z⟩
    refine jg_iload_n dX4_turn_12 rfl rfl ?_
    refine jg_if_lt 26 dX4_turn_13 (by decide) (fun h_13 => ?_) (fun h_13 => ?_)
    · have hk9 : inN k (nI (pn g.1) - 1) = false := by simp [inN, h_13]
      refine jg_iconst (v := -1) dX4_turn_26 (by decide) ?_
      have e9 : fTurn g (nI x) k = (-1, g) := by unfold fTurn; rw [if_pos h_6, if_neg (by rw [hk9]; decide)]
      exact jg_iret (rfl) dX4_turn_27 ⟨_, rfl, ⟨by rw [e9] <;> rfl, by rw [e9]; exact hI, RF.rf⟩⟩
    · refine jg_iload_n dX4_turn_16 rfl rfl ?_
      refine jg_aload_n dX4_turn_17 rfl rfl ?_
      refine jg_geti fk_X4_86 sh_57 rfl dX4_turn_18 ?_
      refine jg_top (y := nI (pn g.1)) (hI.1.1) ?_
      refine jg_iconst (v := 2) dX4_turn_21 (by decide) ?_
      refine jg_isubE (z := nI (pn g.1) - 2) dX4_turn_22 (rfl) ?_
      refine jg_icmp_le 28 dX4_turn_23 (by decide) (fun h_23 => ?_) (fun h_23 => ?_)
      · have hk9 : inN k (nI (pn g.1) - 1) = true := by have z := fun q => Int32.not_lt.mpr h_23 ((m2_m1 hn h_13).mpr q); simp only [inN, Bool.and_eq_true, Bool.not_eq_true', decide_eq_false_iff_not]; exact ⟨h_13, z⟩
        obtain ⟨i, hi, rfl⟩ := nI_m1 hn hk9
        refine jg_aload_n dX4_turn_28 rfl rfl ?_
        refine jg_iload_n dX4_turn_29 rfl rfl ?_
        refine jg_iload_n dX4_turn_30 rfl rfl ?_
        refine jg_callV (c4_turns E u x i hx (by omega)) me_X4_turns ml_X4_186 sh_57 rfl rfl (by decide) (by decide) rfl (Nat.le_of_ble_eq_true rfl) dX4_turn_31 (kk_V (fun u_31 h_31 => ?_))
        obtain rfl := h_31
        refine jg_aload_n dX4_turn_34 rfl rfl ?_
        refine jg_getr fk_X4_31 sh_57 rfl dX4_turn_35 ?_
        refine jg_bipush (v := 6) dX4_turn_38 (by decide) ?_
        refine jg_iload_n dX4_turn_40 rfl rfl ?_
        refine jg_imulE (z := nI (6 * x)) dX4_turn_41 (pk_mul 6 x) ?_
        refine jg_iload_n dX4_turn_42 rfl rfl ?_
        refine jg_iaddE (z := nI ((6 * x) + i)) dX4_turn_43 (nI_add (6 * x) i) ?_
        refine jg_ld ((6 * x) + i) sh_65 (by omega) (rfl) dX4_turn_44 ?_
        refine jg_top (y := nI (g.1 (6 + x) (i + 1))) (by rw [s2_ne (by omega), s2_self]; rcases (show x = 0 ∨ x = 1 by omega) with rfl | rfl; (rw [show 6 * 0 + i + 1 = i + 1 by omega]; exact (hI.1.2 (i + 1) (by omega)).2.2.2.1); (rw [show 6 * 1 + i + 1 = 6 + (i + 1) by omega]; exact (hI.1.2 (i + 1) (by omega)).2.2.2.2)) ?_
        have e9 : fTurn g (nI x) (nI i) = (nI (g.1 (6 + x) (i + 1)), wPc g (swP g.1 x i)) := by unfold fTurn; rw [if_pos h_6, if_pos hk9, cl_nI (show i < 2 ^ 31 by omega), cl_nI (show x < 2 ^ 31 by omega)]
        exact jg_iret (rfl) dX4_turn_45 ⟨_, rfl, ⟨by rw [e9] <;> rfl, by rw [e9]; exact hI.pc (sw_MdB hI.1 hx hi hn) (congrFun (show swP g.1 x i 0 = g.1 0 from if_neg (by omega)) 0) (fun k h1 h2 h3 h4 h5 h6 h7 h8 => sw_out (by omega)) (fun j h1 h2 => by rw [sw_out (by decide)]), fun k hk => sw_out (by omega)⟩⟩
      · have hk9 : inN k (nI (pn g.1) - 1) = false := by simp [inN, (m2_m1 hn h_13).mp (Int32.not_le.mp h_23)]
        refine jg_iconst (v := -1) dX4_turn_26 (by decide) ?_
        have e9 : fTurn g (nI x) k = (-1, g) := by unfold fTurn; rw [if_pos h_6, if_neg (by rw [hk9]; decide)]
        exact jg_iret (rfl) dX4_turn_27 ⟨_, rfl, ⟨by rw [e9] <;> rfl, by rw [e9]; exact hI, RF.rf⟩⟩
  · refine jg_bipush (v := -2) dX4_turn_9 (by decide) ?_
    have e9 : fTurn g w k = (-2, g) := by unfold fTurn; rw [if_neg (by rw [h_6]; decide)]
    exact jg_iret (rfl) dX4_turn_11 ⟨_, rfl, ⟨by rw [e9] <;> rfl, by rw [e9]; exact hI, RF.rf⟩⟩
set_option maxHeartbeats 4000000 in
set_option maxRecDepth 20000 in
theorem d4_tell (E : gT) (u : Mm) (g : Gh) (hO : Ok g) (hI : InvM u g) (a : Int32) : Con E yX4_tell cX4_tell 3 (some .int) 1 [.ref (E.2.1 57), .int a] u (kI (fun r u2 => r = (fTell g a).1 ∧ InvM u2 (fTell g a).2 ∧ RF u u2)) := by
  have hn := hO.1.1
  refine Con.of (lv := [some (.ref (E.2.1 57)), some (.int a), none]) (by decide +kernel) (Nat.le_of_ble_eq_true rfl) rfl ?_
  refine jg_aload_n dX4_tell_0 rfl rfl ?_
  refine jg_iload_n dX4_tell_1 rfl rfl ?_
  refine jg_callV (c4_isArea E u a) me_X4_isArea ml_X4_173 sh_57 rfl rfl (by decide) (by decide) rfl (Nat.le_of_ble_eq_true rfl) dX4_tell_2 (kk_I (fun r_2 u_2 h_2 => ?_))
  obtain ⟨rfl, rfl⟩ := h_2
  refine jg_top (y := bI (inN a (nI (pn g.1)))) (congrArg (fun z => bI (inN a z)) hI.1.1) ?_
  refine jb_if_ne 10 dX4_tell_5 (by decide) (fun h_5 => ?_) (fun h_5 => ?_)
  · obtain ⟨i, hi, rfl⟩ := inN_nat (by omega) h_5
    have hk3 := (hO.1.2.1 i hi).1
    refine jg_aload_n dX4_tell_10 rfl rfl ?_
    refine jg_getr fk_X4_22 sh_57 rfl dX4_tell_11 ?_
    refine jg_iload_n dX4_tell_14 rfl rfl ?_
    refine jg_ld i sh_62 (by omega) (rfl) dX4_tell_15 ?_
    refine jg_top (y := nI (g.1 2 i)) ((hI.1.2 i hi).2.1) ?_
    refine jg_istore_n dX4_tell_16 rfl (by decide) rfl ?_
    refine jg_aload_n dX4_tell_17 rfl rfl ?_
    refine jg_getr fk_X4_19 sh_57 rfl dX4_tell_18 ?_
    refine jg_iload_n dX4_tell_21 rfl rfl ?_
    refine jg_ld i sh_61 (by omega) (rfl) dX4_tell_22 ?_
    refine jg_top (y := nI (g.1 1 i)) ((hI.1.2 i hi).1) ?_
    rcases (show g.1 1 i = 1 ∨ g.1 1 i = 2 ∨ g.1 1 i = 0 by omega) with e | e | e
    · refine jg_top (congrArg nI e) ?_
      refine jg_lookup (off := 25) 48 dX4_tell_23 (by decide +kernel) (by decide +kernel) (by decide) ?_
      refine jg_aload_n dX4_tell_48 rfl rfl ?_
      refine jg_iconst (v := 2) dX4_tell_49 (by decide) ?_
      refine jg_callV (c4_begins E _ 2) me_X4_begins ml_X4_248 sh_57 rfl rfl (by decide) (by decide) rfl (Nat.le_of_ble_eq_true rfl) dX4_tell_50 (kk_V (fun u_50 h_50 => ?_))
      obtain rfl := h_50
      refine jg_aload_n dX4_tell_53 rfl rfl ?_
      refine jg_iconst (v := 1) dX4_tell_54 (by decide) ?_
      refine jg_callV (c4_begins E _ 1) me_X4_begins ml_X4_248 sh_57 rfl rfl (by decide) (by decide) rfl (Nat.le_of_ble_eq_true rfl) dX4_tell_55 (kk_V (fun u_55 h_55 => ?_))
      obtain rfl := h_55
      refine jg_iload_n dX4_tell_58 rfl rfl ?_
      refine jg_bipush (v := 100) dX4_tell_59 (by decide) ?_
      refine jg_iaddE (z := nI ((g.1 2 i) + 100)) dX4_tell_61 (nI_add (g.1 2 i) 100) ?_
      simp only [s2_s2, s2_self, hI.2.2.2.2.2.1]
      have e9 : fTell g (nI i) = (nI (g.1 2 i + 100), wTr g (nTr (nTr g.2.2.2.2.2.1 2) 1)) := by unfold fTell; rw [if_pos h_5, cl_nI (show i < 2 ^ 31 by omega), if_neg (by omega), if_pos e]
      exact jg_iret (rfl) dX4_tell_62 ⟨_, rfl, ⟨by rw [e9], by rw [e9]; exact hI.tr _, RF.rf.put (by omega)⟩⟩
    · refine jg_top (congrArg nI e) ?_
      refine jg_lookup (off := 40) 63 dX4_tell_23 (by decide +kernel) (by decide +kernel) (by decide) ?_
      refine jg_aload_n dX4_tell_63 rfl rfl ?_
      refine jg_iconst (v := 3) dX4_tell_64 (by decide) ?_
      refine jg_callV (c4_begins E _ 3) me_X4_begins ml_X4_248 sh_57 rfl rfl (by decide) (by decide) rfl (Nat.le_of_ble_eq_true rfl) dX4_tell_65 (kk_V (fun u_65 h_65 => ?_))
      obtain rfl := h_65
      refine jg_aload_n dX4_tell_68 rfl rfl ?_
      refine jg_iconst (v := 2) dX4_tell_69 (by decide) ?_
      refine jg_callV (c4_begins E _ 2) me_X4_begins ml_X4_248 sh_57 rfl rfl (by decide) (by decide) rfl (Nat.le_of_ble_eq_true rfl) dX4_tell_70 (kk_V (fun u_70 h_70 => ?_))
      obtain rfl := h_70
      refine jg_aload_n dX4_tell_73 rfl rfl ?_
      refine jg_iconst (v := 1) dX4_tell_74 (by decide) ?_
      refine jg_callV (c4_begins E _ 1) me_X4_begins ml_X4_248 sh_57 rfl rfl (by decide) (by decide) rfl (Nat.le_of_ble_eq_true rfl) dX4_tell_75 (kk_V (fun u_75 h_75 => ?_))
      obtain rfl := h_75
      refine jg_aload_n dX4_tell_78 rfl rfl ?_
      refine jg_iconst (v := 1) dX4_tell_79 (by decide) ?_
      refine jg_callV (c4_begins E _ 1) me_X4_begins ml_X4_248 sh_57 rfl rfl (by decide) (by decide) rfl (Nat.le_of_ble_eq_true rfl) dX4_tell_80 (kk_V (fun u_80 h_80 => ?_))
      obtain rfl := h_80
      refine jg_iconst (v := 2) dX4_tell_83 (by decide) ?_
      refine jg_iload_n dX4_tell_84 rfl rfl ?_
      refine jg_imulE (z := nI (2 * (g.1 2 i))) dX4_tell_85 (pk_mul 2 (g.1 2 i)) ?_
      refine jg_bipush (v := 100) dX4_tell_86 (by decide) ?_
      refine jg_iaddE (z := nI ((2 * (g.1 2 i)) + 100)) dX4_tell_88 (nI_add (2 * (g.1 2 i)) 100) ?_
      simp only [s2_s2, s2_self, hI.2.2.2.2.2.1]
      have e9 : fTell g (nI i) = (nI (2 * g.1 2 i + 100), wTr g (nTr (nTr (nTr (nTr g.2.2.2.2.2.1 3) 2) 1) 1)) := by unfold fTell; rw [if_pos h_5, cl_nI (show i < 2 ^ 31 by omega), if_pos e]
      exact jg_iret (rfl) dX4_tell_89 ⟨_, rfl, ⟨by rw [e9], by rw [e9]; exact hI.tr _, RF.rf.put (by omega)⟩⟩
    · refine jg_top (congrArg nI e) ?_
      refine jg_lookup (off := 67) 90 dX4_tell_23 (by decide +kernel) (by decide +kernel) (by decide) ?_
      refine jg_aload_n dX4_tell_90 rfl rfl ?_
      refine jg_iconst (v := 1) dX4_tell_91 (by decide) ?_
      refine jg_callV (c4_begins E _ 1) me_X4_begins ml_X4_248 sh_57 rfl rfl (by decide) (by decide) rfl (Nat.le_of_ble_eq_true rfl) dX4_tell_92 (kk_V (fun u_92 h_92 => ?_))
      obtain rfl := h_92
      refine jg_iload_n dX4_tell_95 rfl rfl ?_
      simp only [s2_s2, s2_self, hI.2.2.2.2.2.1]
      have e9 : fTell g (nI i) = (nI (g.1 2 i), wTr g (nTr g.2.2.2.2.2.1 1)) := by unfold fTell; rw [if_pos h_5, cl_nI (show i < 2 ^ 31 by omega), if_neg (by omega), if_neg (by omega)]
      exact jg_iret (rfl) dX4_tell_96 ⟨_, rfl, ⟨by rw [e9], by rw [e9]; exact hI.tr _, RF.rf.put (by omega)⟩⟩
  · refine jg_iconst (v := -1) dX4_tell_8 (by decide) ?_
    have e9 : fTell g a = (-1, g) := by unfold fTell; rw [if_neg (by rw [h_5]; decide)]
    exact jg_iret (rfl) dX4_tell_9 ⟨_, rfl, ⟨by rw [e9] <;> rfl, by rw [e9]; exact hI, RF.rf⟩⟩
set_option maxHeartbeats 4000000 in
set_option maxRecDepth 20000 in
theorem d4_survey (E : gT) (u : Mm) (g : Gh) (hO : Ok g) (hI : InvM u g) (a : Int32) : Con E yX4_survey cX4_survey 2 (some .int) 1 [.ref (E.2.1 57), .int a] u (kI (fun r u2 => r = (fSurvey g a).1 ∧ InvM u2 (fSurvey g a).2 ∧ RF u u2)) := by
  have hn := hO.1.1
  refine Con.of (lv := [some (.ref (E.2.1 57)), some (.int a)]) (by decide +kernel) (Nat.le_of_ble_eq_true rfl) rfl ?_
  refine jg_aload_n dX4_survey_0 rfl rfl ?_
  refine jg_iload_n dX4_survey_1 rfl rfl ?_
  refine jg_callV (c4_isArea E u a) me_X4_isArea ml_X4_173 sh_57 rfl rfl (by decide) (by decide) rfl (Nat.le_of_ble_eq_true rfl) dX4_survey_2 (kk_I (fun r_2 u_2 h_2 => ?_))
  obtain ⟨rfl, rfl⟩ := h_2
  refine jg_top (y := bI (inN a (nI (pn g.1)))) (congrArg (fun z => bI (inN a z)) hI.1.1) ?_
  refine jb_if_ne 10 dX4_survey_5 (by decide) (fun h_5 => ?_) (fun h_5 => ?_)
  · obtain ⟨i, hi, rfl⟩ := inN_nat (by omega) h_5
    have hk3 := (hO.1.2.1 i hi).1
    refine jg_aload_n dX4_survey_10 rfl rfl ?_
    refine jg_getr fk_X4_19 sh_57 rfl dX4_survey_11 ?_
    refine jg_iload_n dX4_survey_14 rfl rfl ?_
    refine jg_ld i sh_61 (by omega) (rfl) dX4_survey_15 ?_
    refine jg_top (y := nI (g.1 1 i)) ((hI.1.2 i hi).1) ?_
    refine jg_iconst (v := 2) dX4_survey_16 (by decide) ?_
    refine jn_icmp_ne (g.1 1 i) 2 rfl rfl (by omega) (by omega) 25 dX4_survey_17 (by decide) (fun h_17 => ?_) (fun h_17 => ?_)
    · refine jg_aload_n dX4_survey_25 rfl rfl ?_
      refine jg_iconst (v := 4) dX4_survey_26 (by decide) ?_
      refine jg_callV (c4_begins E _ 4) me_X4_begins ml_X4_248 sh_57 rfl rfl (by decide) (by decide) rfl (Nat.le_of_ble_eq_true rfl) dX4_survey_27 (kk_V (fun u_27 h_27 => ?_))
      obtain rfl := h_27
      simp only [s2_s2, s2_self, hI.2.2.2.2.2.1]
      refine jg_aload_n dX4_survey_30 rfl rfl ?_
      refine jg_getr fk_X4_19 sh_57 rfl dX4_survey_31 ?_
      refine jg_iload_n dX4_survey_34 rfl rfl ?_
      refine jg_ld i sh_61 (by omega) (rfl) dX4_survey_35 ?_
      refine jg_top (y := nI (g.1 1 i)) (by rw [s2_row (by decide)]; exact (hI.1.2 i hi).1) ?_
      refine jg_iconst (v := 2) dX4_survey_36 (by decide) ?_
      refine jn_icmp_ne (g.1 1 i) 2 rfl rfl (by omega) (by omega) 52 dX4_survey_37 (by decide) (fun h_37 => ?_) (fun h_37 => ?_)
      · have e9 : fSurvey g (nI i) = (nI (g.1 3 i), wTr g (nTr g.2.2.2.2.2.1 4)) := by unfold fSurvey; rw [if_pos h_5, cl_nI (show i < 2 ^ 31 by omega), if_neg h_37]
        refine jg_aload_n dX4_survey_52 rfl rfl ?_
        refine jg_getr fk_X4_25 sh_57 rfl dX4_survey_53 ?_
        refine jg_iload_n dX4_survey_56 rfl rfl ?_
        refine jg_ld i sh_63 (by omega) (rfl) dX4_survey_57 ?_
        refine jg_top (y := nI (g.1 3 i)) (by rw [s2_row (by decide)]; exact (hI.1.2 i hi).2.2.1) ?_
        exact jg_iret (rfl) dX4_survey_58 ⟨_, rfl, ⟨by first | rw [e9] | omega, by first | (rw [e9]; exact hI.tr _) | omega, RF.rf.put (by omega)⟩⟩
      · have e9 : fSurvey g (nI i) = (nI (g.1 3 i + 30), wTr g (nTr (nTr g.2.2.2.2.2.1 5) 4)) := by unfold fSurvey; rw [if_pos h_5, cl_nI (show i < 2 ^ 31 by omega), if_pos h_37]
        refine jg_aload_n dX4_survey_40 rfl rfl ?_
        refine jg_getr fk_X4_25 sh_57 rfl dX4_survey_41 ?_
        refine jg_iload_n dX4_survey_44 rfl rfl ?_
        refine jg_ld i sh_63 (by omega) (rfl) dX4_survey_45 ?_
        refine jg_top (y := nI (g.1 3 i)) (by rw [s2_row (by decide)]; exact (hI.1.2 i hi).2.2.1) ?_
        refine jg_bipush (v := 30) dX4_survey_46 (by decide) ?_
        refine jg_iaddE (z := nI ((g.1 3 i) + 30)) dX4_survey_48 (nI_add (g.1 3 i) 30) ?_
        refine jg_goto 58 dX4_survey_49 (by decide) ?_
        exact jg_iret (rfl) dX4_survey_58 ⟨_, rfl, ⟨by first | rw [e9] | omega, by first | (rw [e9]; exact hI.tr _) | omega, RF.rf.put (by omega)⟩⟩
    · refine jg_aload_n dX4_survey_20 rfl rfl ?_
      refine jg_iconst (v := 5) dX4_survey_21 (by decide) ?_
      refine jg_callV (c4_begins E _ 5) me_X4_begins ml_X4_248 sh_57 rfl rfl (by decide) (by decide) rfl (Nat.le_of_ble_eq_true rfl) dX4_survey_22 (kk_V (fun u_22 h_22 => ?_))
      obtain rfl := h_22
      refine jg_aload_n dX4_survey_25 rfl rfl ?_
      refine jg_iconst (v := 4) dX4_survey_26 (by decide) ?_
      refine jg_callV (c4_begins E _ 4) me_X4_begins ml_X4_248 sh_57 rfl rfl (by decide) (by decide) rfl (Nat.le_of_ble_eq_true rfl) dX4_survey_27 (kk_V (fun u_27 h_27 => ?_))
      obtain rfl := h_27
      simp only [s2_s2, s2_self, hI.2.2.2.2.2.1]
      refine jg_aload_n dX4_survey_30 rfl rfl ?_
      refine jg_getr fk_X4_19 sh_57 rfl dX4_survey_31 ?_
      refine jg_iload_n dX4_survey_34 rfl rfl ?_
      refine jg_ld i sh_61 (by omega) (rfl) dX4_survey_35 ?_
      refine jg_top (y := nI (g.1 1 i)) (by rw [s2_row (by decide)]; exact (hI.1.2 i hi).1) ?_
      refine jg_iconst (v := 2) dX4_survey_36 (by decide) ?_
      refine jn_icmp_ne (g.1 1 i) 2 rfl rfl (by omega) (by omega) 52 dX4_survey_37 (by decide) (fun h_37 => ?_) (fun h_37 => ?_)
      · have e9 : fSurvey g (nI i) = (nI (g.1 3 i), wTr g (nTr g.2.2.2.2.2.1 4)) := by unfold fSurvey; rw [if_pos h_5, cl_nI (show i < 2 ^ 31 by omega), if_neg h_37]
        refine jg_aload_n dX4_survey_52 rfl rfl ?_
        refine jg_getr fk_X4_25 sh_57 rfl dX4_survey_53 ?_
        refine jg_iload_n dX4_survey_56 rfl rfl ?_
        refine jg_ld i sh_63 (by omega) (rfl) dX4_survey_57 ?_
        refine jg_top (y := nI (g.1 3 i)) (by rw [s2_row (by decide)]; exact (hI.1.2 i hi).2.2.1) ?_
        exact jg_iret (rfl) dX4_survey_58 ⟨_, rfl, ⟨by first | rw [e9] | omega, by first | (rw [e9]; exact hI.tr _) | omega, RF.rf.put (by omega)⟩⟩
      · have e9 : fSurvey g (nI i) = (nI (g.1 3 i + 30), wTr g (nTr (nTr g.2.2.2.2.2.1 5) 4)) := by unfold fSurvey; rw [if_pos h_5, cl_nI (show i < 2 ^ 31 by omega), if_pos h_37]
        refine jg_aload_n dX4_survey_40 rfl rfl ?_
        refine jg_getr fk_X4_25 sh_57 rfl dX4_survey_41 ?_
        refine jg_iload_n dX4_survey_44 rfl rfl ?_
        refine jg_ld i sh_63 (by omega) (rfl) dX4_survey_45 ?_
        refine jg_top (y := nI (g.1 3 i)) (by rw [s2_row (by decide)]; exact (hI.1.2 i hi).2.2.1) ?_
        refine jg_bipush (v := 30) dX4_survey_46 (by decide) ?_
        refine jg_iaddE (z := nI ((g.1 3 i) + 30)) dX4_survey_48 (nI_add (g.1 3 i) 30) ?_
        refine jg_goto 58 dX4_survey_49 (by decide) ?_
        exact jg_iret (rfl) dX4_survey_58 ⟨_, rfl, ⟨by first | rw [e9] | omega, by first | (rw [e9]; exact hI.tr _) | omega, RF.rf.put (by omega)⟩⟩
  · refine jg_iconst (v := -1) dX4_survey_8 (by decide) ?_
    have e9 : fSurvey g a = (-1, g) := by unfold fSurvey; rw [if_neg (by rw [h_5]; decide)]
    exact jg_iret (rfl) dX4_survey_9 ⟨_, rfl, ⟨by rw [e9] <;> rfl, by rw [e9]; exact hI, RF.rf⟩⟩
set_option maxHeartbeats 4000000 in
set_option maxRecDepth 20000 in
theorem d4_as (E : gT) (u : Mm) (g : Gh) (hO : Ok g) (hI : InvM u g) (a k : Int32) : Con E yX4_as cX4_as 3 (some .int) 1 [.ref (E.2.1 57), .int a, .int k] u (kI (fun r u2 => r = (fAs g a k).1 ∧ InvM u2 (fAs g a k).2 ∧ RF u u2)) := by
  have hn := hO.1.1
  refine Con.of (lv := [some (.ref (E.2.1 57)), some (.int a), some (.int k)]) (by decide +kernel) (Nat.le_of_ble_eq_true rfl) rfl ?_
  refine jg_aload_n dX4_as_0 rfl rfl ?_
  refine jg_iconst (v := 0) dX4_as_1 (by decide) ?_
  refine jg_puti fp_X4_76 sh_57 rfl dX4_as_2 ?_
  refine jg_aload_n dX4_as_5 rfl rfl ?_
  refine jg_iload_n dX4_as_6 rfl rfl ?_
  refine jg_callV (c4_isArea E (s2 u 57 0 0) a) me_X4_isArea ml_X4_173 sh_57 rfl rfl (by decide) (by decide) rfl (Nat.le_of_ble_eq_true rfl) dX4_as_7 (kk_I (fun r_7 u_7 h_7 => ?_))
  obtain ⟨rfl, rfl⟩ := h_7
  refine jg_top (y := bI (inN a (nI (pn g.1)))) (congrArg (fun z => bI (inN a z)) (by rw [s2_ne (by decide)]; exact hI.1.1)) ?_
  refine jb_if_ne 15 dX4_as_10 (by decide) (fun h_10 => ?_) (fun h_10 => ?_)
  · obtain ⟨i, hi, rfl⟩ := inN_nat (by omega) h_10
    have hk3 := (hO.1.2.1 i hi).1
    refine jg_iload_n dX4_as_15 rfl rfl ?_
    refine jg_iconst (v := 0) dX4_as_16 (by decide) ?_
    refine jg_iconst (v := 2) dX4_as_17 (by decide) ?_
    refine jg_callS (c4_within E (s2 u 57 0 0) k 0 2) me_X4_within ml_X4_82 rfl (by decide) (by decide) rfl (Nat.le_of_ble_eq_true rfl) dX4_as_18 (kk_I (fun r_18 u_18 h_18 => ?_))
    obtain ⟨rfl, rfl⟩ := h_18
    refine jb_if_ne 27 dX4_as_21 (by decide) (fun h_21 => ?_) (fun h_21 => ?_)
    · obtain ⟨j, -, hj2, rfl⟩ := inR_nat (lo := 0) (hi := 2) (by omega) h_21 (by omega)
      refine jg_aload_n dX4_as_27 rfl rfl ?_
      refine jg_getr fk_X4_19 sh_57 rfl dX4_as_28 ?_
      refine jg_iload_n dX4_as_31 rfl rfl ?_
      refine jg_ld i sh_61 (by omega) (rfl) dX4_as_32 ?_
      refine jg_top (y := nI (g.1 1 i)) (by rw [s2_row (by decide)]; exact (hI.1.2 i hi).1) ?_
      refine jg_iload_n dX4_as_33 rfl rfl ?_
      refine jn_icmp_lt (g.1 1 i) j rfl rfl (by omega) (by omega) 41 dX4_as_34 (by decide) (fun h_34 => ?_) (fun h_34 => ?_)
      · have e9 : fAs g (nI i) (nI j) = (-12, wFt g 2) := by unfold fAs; rw [if_pos h_10, if_pos h_21, cl_nI (show i < 2 ^ 31 by omega), cl_nI (show j < 2 ^ 31 by omega), if_pos h_34]
        refine jg_aload_n dX4_as_41 rfl rfl ?_
        refine jg_iconst (v := 2) dX4_as_42 (by decide) ?_
        refine jg_callV (c4_fails E (s2 u 57 0 0) 2) me_X4_fails ml_X4_103 sh_57 rfl rfl (by decide) (by decide) rfl (Nat.le_of_ble_eq_true rfl) dX4_as_43 (kk_I (fun r_43 u_43 h_43 => ?_))
        obtain ⟨rfl, rfl⟩ := h_43
        rw [s2_s2]
        exact jg_iret (rfl) dX4_as_46 ⟨_, rfl, ⟨by rw [e9] <;> rfl, by rw [e9]; exact hI.ft _, RF.rf.put (by omega)⟩⟩
      · have e9 : fAs g (nI i) (nI j) = (1, wFt g 0) := by unfold fAs; rw [if_pos h_10, if_pos h_21, cl_nI (show i < 2 ^ 31 by omega), cl_nI (show j < 2 ^ 31 by omega), if_neg (by omega)]
        refine jg_iconst (v := 1) dX4_as_37 (by decide) ?_
        refine jg_goto 46 dX4_as_38 (by decide) ?_
        exact jg_iret (rfl) dX4_as_46 ⟨_, rfl, ⟨by rw [e9] <;> rfl, by rw [e9]; exact hI.ft _, RF.rf.put (by omega)⟩⟩
    · refine jg_bipush (v := -2) dX4_as_24 (by decide) ?_
      have e9 : fAs g (nI i) k = (-2, wFt g 0) := by unfold fAs; rw [if_pos h_10, if_neg (by rw [h_21]; decide)]
      exact jg_iret (rfl) dX4_as_26 ⟨_, rfl, ⟨by rw [e9] <;> rfl, by rw [e9]; exact hI.ft 0, RF.rf.put (by omega)⟩⟩
  · refine jg_iconst (v := -1) dX4_as_13 (by decide) ?_
    have e9 : fAs g a k = (-1, wFt g 0) := by unfold fAs; rw [if_neg (by rw [h_10]; decide)]
    exact jg_iret (rfl) dX4_as_14 ⟨_, rfl, ⟨by rw [e9] <;> rfl, by rw [e9]; exact hI.ft 0, RF.rf.put (by omega)⟩⟩
theorem rdC_new {u w : Mm} {r : Rds} {i : Nat} {v : Int32} (h : RdC u r) (h0 : w 0 7 = nI (r.1 + 1)) (h1 : w 55 = upd (u 55) r.1 (nI i)) (h2 : w 56 = upd (u 56) r.1 v) : RdC w (r.1 + 1, (fun j => if j = r.1 then i else r.2.1 j), fun j => if j = r.1 then v else r.2.2 j) := by
  refine ⟨h0, fun j hj => ?_⟩
  rw [h1, h2]
  show upd (u 55) r.1 (nI i) j = nI (if j = r.1 then i else r.2.1 j) ∧ upd (u 56) r.1 v j = (if j = r.1 then v else r.2.2 j)
  by_cases e : j = r.1
  · subst e; rw [pk_us, pk_us, if_pos rfl, if_pos rfl]; exact ⟨rfl, rfl⟩
  · rw [pk_un e, pk_un e, if_neg e, if_neg e]; exact h.2 j (by have : j < r.1 + 1 := hj; omega)
theorem rdM_new {u w : Mm} {r : Rds} {i : Nat} {v : Int32} (h : RdM u r) (h0 : w 57 31 = nI (r.1 + 1)) (h1 : w 78 = upd (u 78) r.1 (nI i)) (h2 : w 79 = upd (u 79) r.1 v) : RdM w (r.1 + 1, (fun j => if j = r.1 then i else r.2.1 j), fun j => if j = r.1 then v else r.2.2 j) := by
  refine ⟨h0, fun j hj => ?_⟩
  rw [h1, h2]
  show upd (u 78) r.1 (nI i) j = nI (if j = r.1 then i else r.2.1 j) ∧ upd (u 79) r.1 v j = (if j = r.1 then v else r.2.2 j)
  by_cases e : j = r.1
  · subst e; rw [pk_us, pk_us, if_pos rfl, if_pos rfl]; exact ⟨rfl, rfl⟩
  · rw [pk_un e, pk_un e, if_neg e, if_neg e]; exact h.2 j (by have : j < r.1 + 1 := hj; omega)
set_option maxHeartbeats 4000000 in
set_option maxRecDepth 20000 in
theorem d3_reading (E : gT) (u : Mm) (g : Gh) (hO : Ok g) (hI : InvC u g) (a v : Int32) : Con E yX3_reading cX3_reading 4 (some .int) 1 [.ref (E.2.1 0), .int a, .int v] u (kI (fun r u2 => r = (fReading g a v).1 ∧ InvC u2 (fReading g a v).2 ∧ CF u u2)) := by
  have hn := hO.1.1
  have hr8 := hO.2.2.2.1
  refine Con.of (lv := [some (.ref (E.2.1 0)), some (.int a), some (.int v), none]) (by decide +kernel) (Nat.le_of_ble_eq_true rfl) rfl ?_
  refine jg_aload_n dX3_reading_0 rfl rfl ?_
  refine jg_getr fk_X3_14 sh_0 rfl dX3_reading_1 ?_
  refine jg_iload_n dX3_reading_4 rfl rfl ?_
  refine jg_callV (c0_hasArea E ipl_1 u a) me_X0_hasArea ml_X3_90 (pl_0 ipl_1) rfl rfl (by decide) (by decide) rfl (Nat.le_of_ble_eq_true rfl) dX3_reading_5 (kk_I (fun r_5 u_5 h_5 => ?_))
  obtain ⟨rfl, rfl⟩ := h_5
  refine jg_top (y := bI (inN a (nI (pn g.1)))) (congrArg (fun z => bI (inN a z)) hI.1.1.1) ?_
  refine jb_if_ne 13 dX3_reading_8 (by decide) (fun h_8 => ?_) (fun h_8 => ?_)
  · obtain ⟨i, hi, rfl⟩ := inN_nat (by omega) h_8
    refine jg_iload_n dX3_reading_13 rfl rfl ?_
    refine jg_if_lt 23 dX3_reading_14 (by decide) (fun h_14 => ?_) (fun h_14 => ?_)
    · have hv9 : inR v 0 120 = false := by simp [inR, h_14]
      refine jg_bipush (v := -2) dX3_reading_23 (by decide) ?_
      have e9 : fReading g (nI i) v = (-2, g) := by unfold fReading; rw [if_pos h_8, if_neg (by rw [hv9]; decide)]
      exact jg_iret (rfl) dX3_reading_25 ⟨_, rfl, ⟨by rw [e9] <;> rfl, by rw [e9]; exact hI, CF.rf⟩⟩
    · refine jg_iload_n dX3_reading_17 rfl rfl ?_
      refine jg_bipush (v := 120) dX3_reading_18 (by decide) ?_
      refine jg_icmp_le 26 dX3_reading_20 (by decide) (fun h_20 => ?_) (fun h_20 => ?_)
      · have hv9 : inR v 0 120 = true := by simp [inR, h_14, Int32.not_lt.mpr h_20]
        refine jg_aload_n dX3_reading_26 rfl rfl ?_
        refine jg_geti fk_X3_84 sh_0 rfl dX3_reading_27 ?_
        refine jg_top (y := nI g.2.2.2.2.1.1) (hI.2.2.2.2.1.1) ?_
        refine jg_bipush (v := 8) dX3_reading_30 (by decide) ?_
        refine jn_icmp_lt g.2.2.2.2.1.1 8 rfl rfl (by omega) (by omega) 38 dX3_reading_32 (by decide) (fun h_32 => ?_) (fun h_32 => ?_)
        · refine jg_aload_n dX3_reading_38 rfl rfl ?_
          refine jg_geti fk_X3_84 sh_0 rfl dX3_reading_39 ?_
          refine jg_top (y := nI g.2.2.2.2.1.1) (hI.2.2.2.2.1.1) ?_
          refine jg_istore_n dX3_reading_42 rfl (by decide) rfl ?_
          refine jg_aload_n dX3_reading_43 rfl rfl ?_
          refine jg_getr fk_X3_38 sh_0 rfl dX3_reading_44 ?_
          refine jg_iload_n dX3_reading_47 rfl rfl ?_
          refine jg_iload_n dX3_reading_48 rfl rfl ?_
          refine jg_st g.2.2.2.2.1.1 sh_55 (by omega) (rfl) dX3_reading_49 ?_
          refine jg_aload_n dX3_reading_50 rfl rfl ?_
          refine jg_getr fk_X3_41 sh_0 rfl dX3_reading_51 ?_
          refine jg_iload_n dX3_reading_54 rfl rfl ?_
          refine jg_iload_n dX3_reading_55 rfl rfl ?_
          refine jg_st g.2.2.2.2.1.1 sh_56 (by omega) (rfl) dX3_reading_56 ?_
          refine jg_aload_n dX3_reading_57 rfl rfl ?_
          refine jg_iload_n dX3_reading_58 rfl rfl ?_
          refine jg_iconst (v := 1) dX3_reading_59 (by decide) ?_
          refine jg_iaddE (z := nI (g.2.2.2.2.1.1 + 1)) dX3_reading_60 (nI_add g.2.2.2.2.1.1 1) ?_
          refine jg_puti fp_X3_84 sh_0 rfl dX3_reading_61 ?_
          refine jg_iload_n dX3_reading_64 rfl rfl ?_
          have e9 : fReading g (nI i) v = (nI g.2.2.2.2.1.1, wRd g (g.2.2.2.2.1.1 + 1, (fun i9 => if i9 = g.2.2.2.2.1.1 then i else g.2.2.2.2.1.2.1 i9), fun i9 => if i9 = g.2.2.2.2.1.1 then v else g.2.2.2.2.1.2.2 i9)) := by unfold fReading; rw [if_pos h_8, if_pos hv9, if_pos h_32, cl_nI (show i < 2 ^ 31 by omega)]
          exact jg_iret (rfl) dX3_reading_65 ⟨_, rfl, ⟨by rw [e9] <;> rfl, by rw [e9]; exact hI.r0 (fun k h0 h1 h2 => by rw [s2_row h0, s2_row h2, s2_row h1]) (rdC_new hI.2.2.2.2.1 (s2_self _ _ _ _) (by rw [s2_row (by decide), s2_row (by decide), s2_at]) (by rw [s2_row (by decide), s2_at, s2_row (by decide)])) (by rw [s2_ne (by decide), s2_row (by decide), s2_row (by decide)]; exact hI.2.2.2.2.2.1) (by rw [s2_ne (by decide), s2_row (by decide), s2_row (by decide)]; exact hI.2.2.2.2.2.2), ((CF.rf.put (by omega)).put (by omega)).put (by omega)⟩⟩
        · refine jg_bipush (v := -4) dX3_reading_35 (by decide) ?_
          have e9 : fReading g (nI i) v = (-4, g) := by unfold fReading; rw [if_pos h_8, if_pos hv9, if_neg (by omega)]
          exact jg_iret (rfl) dX3_reading_37 ⟨_, rfl, ⟨by rw [e9] <;> rfl, by rw [e9]; exact hI, CF.rf⟩⟩
      · have hv9 : inR v 0 120 = false := by simp [inR, Int32.not_le.mp h_20]
        refine jg_bipush (v := -2) dX3_reading_23 (by decide) ?_
        have e9 : fReading g (nI i) v = (-2, g) := by unfold fReading; rw [if_pos h_8, if_neg (by rw [hv9]; decide)]
        exact jg_iret (rfl) dX3_reading_25 ⟨_, rfl, ⟨by rw [e9] <;> rfl, by rw [e9]; exact hI, CF.rf⟩⟩
  · refine jg_iconst (v := -1) dX3_reading_11 (by decide) ?_
    have e9 : fReading g a v = (-1, g) := by unfold fReading; rw [if_neg (by rw [h_8]; decide)]
    exact jg_iret (rfl) dX3_reading_12 ⟨_, rfl, ⟨by rw [e9] <;> rfl, by rw [e9]; exact hI, CF.rf⟩⟩
set_option maxHeartbeats 4000000 in
set_option maxRecDepth 20000 in
theorem d4_reading (E : gT) (u : Mm) (g : Gh) (hO : Ok g) (hI : InvM u g) (a v : Int32) : Con E yX4_reading cX4_reading 3 (some .int) 1 [.ref (E.2.1 57), .int a, .int v] u (kI (fun r u2 => r = (fReading g a v).1 ∧ InvM u2 (fReading g a v).2 ∧ RF u u2)) := by
  have hn := hO.1.1
  have hr8 := hO.2.2.2.1
  refine Con.of (lv := [some (.ref (E.2.1 57)), some (.int a), some (.int v)]) (by decide +kernel) (Nat.le_of_ble_eq_true rfl) rfl ?_
  refine jg_aload_n dX4_reading_0 rfl rfl ?_
  refine jg_iload_n dX4_reading_1 rfl rfl ?_
  refine jg_callV (c4_isArea E u a) me_X4_isArea ml_X4_173 sh_57 rfl rfl (by decide) (by decide) rfl (Nat.le_of_ble_eq_true rfl) dX4_reading_2 (kk_I (fun r_2 u_2 h_2 => ?_))
  obtain ⟨rfl, rfl⟩ := h_2
  refine jg_top (y := bI (inN a (nI (pn g.1)))) (congrArg (fun z => bI (inN a z)) hI.1.1) ?_
  refine jb_if_ne 10 dX4_reading_5 (by decide) (fun h_5 => ?_) (fun h_5 => ?_)
  · obtain ⟨i, hi, rfl⟩ := inN_nat (by omega) h_5
    refine jg_iload_n dX4_reading_10 rfl rfl ?_
    refine jg_iconst (v := 0) dX4_reading_11 (by decide) ?_
    refine jg_bipush (v := 120) dX4_reading_12 (by decide) ?_
    refine jg_callS (c4_within E u v 0 120) me_X4_within ml_X4_82 rfl (by decide) (by decide) rfl (Nat.le_of_ble_eq_true rfl) dX4_reading_14 (kk_I (fun r_14 u_14 h_14 => ?_))
    obtain ⟨rfl, rfl⟩ := h_14
    refine jb_if_ne 23 dX4_reading_17 (by decide) (fun h_17 => ?_) (fun h_17 => ?_)
    · refine jg_aload_n dX4_reading_23 rfl rfl ?_
      refine jg_geti fk_X4_113 sh_57 rfl dX4_reading_24 ?_
      refine jg_top (y := nI g.2.2.2.2.1.1) (hI.2.2.2.2.1.1) ?_
      refine jg_bipush (v := 8) dX4_reading_27 (by decide) ?_
      refine jn_icmp_ne g.2.2.2.2.1.1 8 rfl rfl (by omega) (by omega) 35 dX4_reading_29 (by decide) (fun h_29 => ?_) (fun h_29 => ?_)
      · refine jg_aload_n dX4_reading_35 rfl rfl ?_
        refine jg_getr fk_X4_70 sh_57 rfl dX4_reading_36 ?_
        refine jg_aload_n dX4_reading_39 rfl rfl ?_
        refine jg_geti fk_X4_113 sh_57 rfl dX4_reading_40 ?_
        refine jg_top (y := nI g.2.2.2.2.1.1) (hI.2.2.2.2.1.1) ?_
        refine jg_iload_n dX4_reading_43 rfl rfl ?_
        refine jg_st g.2.2.2.2.1.1 sh_78 (by omega) (rfl) dX4_reading_44 ?_
        refine jg_aload_n dX4_reading_45 rfl rfl ?_
        refine jg_getr fk_X4_73 sh_57 rfl dX4_reading_46 ?_
        refine jg_aload_n dX4_reading_49 rfl rfl ?_
        refine jg_geti fk_X4_113 sh_57 rfl dX4_reading_50 ?_
        refine jg_top (y := nI g.2.2.2.2.1.1) (by rw [s2_row (by decide)]; exact hI.2.2.2.2.1.1) ?_
        refine jg_iload_n dX4_reading_53 rfl rfl ?_
        refine jg_st g.2.2.2.2.1.1 sh_79 (by omega) (rfl) dX4_reading_54 ?_
        refine jg_aload_n dX4_reading_55 rfl rfl ?_
        refine jg_dup dX4_reading_56 rfl ?_
        refine jg_geti fk_X4_113 sh_57 rfl dX4_reading_57 ?_
        refine jg_top (y := nI g.2.2.2.2.1.1) (by rw [s2_row (by decide), s2_row (by decide)]; exact hI.2.2.2.2.1.1) ?_
        refine jg_iconst (v := 1) dX4_reading_60 (by decide) ?_
        refine jg_iaddE (z := nI (g.2.2.2.2.1.1 + 1)) dX4_reading_61 (nI_add g.2.2.2.2.1.1 1) ?_
        refine jg_puti fp_X4_113 sh_57 rfl dX4_reading_62 ?_
        refine jg_aload_n dX4_reading_65 rfl rfl ?_
        refine jg_geti fk_X4_113 sh_57 rfl dX4_reading_66 ?_
        refine jg_top (y := nI (g.2.2.2.2.1.1 + 1)) (s2_self _ _ _ _) ?_
        refine jg_iconst (v := 1) dX4_reading_69 (by decide) ?_
        refine jg_isubE (z := nI g.2.2.2.2.1.1) dX4_reading_70 (nI_pred _) ?_
        have e9 : fReading g (nI i) v = (nI g.2.2.2.2.1.1, wRd g (g.2.2.2.2.1.1 + 1, (fun i9 => if i9 = g.2.2.2.2.1.1 then i else g.2.2.2.2.1.2.1 i9), fun i9 => if i9 = g.2.2.2.2.1.1 then v else g.2.2.2.2.1.2.2 i9)) := by unfold fReading; rw [if_pos h_5, if_pos h_17, if_pos (by omega), cl_nI (show i < 2 ^ 31 by omega)]
        exact jg_iret (rfl) dX4_reading_71 ⟨_, rfl, ⟨by rw [e9] <;> rfl, by rw [e9]; exact hI.r57 (fun k h0 h1 h2 => by rw [s2_row h0, s2_row h2, s2_row h1]) (fun j hj => by rw [s2_ne (by omega), s2_row (by decide), s2_row (by decide)]) (rdM_new hI.2.2.2.2.1 (s2_self _ _ _ _) (by rw [s2_row (by decide), s2_row (by decide), s2_at]) (by rw [s2_row (by decide), s2_at, s2_row (by decide)])) (by rw [s2_ne (by decide), s2_row (by decide), s2_row (by decide)]; exact hI.2.2.2.2.2.1) (by rw [s2_ne (by decide), s2_row (by decide), s2_row (by decide)]; exact hI.2.2.2.2.2.2), ((RF.rf.put (by omega)).put (by omega)).put (by omega)⟩⟩
      · refine jg_bipush (v := -4) dX4_reading_32 (by decide) ?_
        have e9 : fReading g (nI i) v = (-4, g) := by unfold fReading; rw [if_pos h_5, if_pos h_17, if_neg (by omega)]
        exact jg_iret (rfl) dX4_reading_34 ⟨_, rfl, ⟨by rw [e9] <;> rfl, by rw [e9]; exact hI, RF.rf⟩⟩
    · refine jg_bipush (v := -2) dX4_reading_20 (by decide) ?_
      have e9 : fReading g (nI i) v = (-2, g) := by unfold fReading; rw [if_pos h_5, if_neg (by rw [h_17]; decide)]
      exact jg_iret (rfl) dX4_reading_22 ⟨_, rfl, ⟨by rw [e9] <;> rfl, by rw [e9]; exact hI, RF.rf⟩⟩
  · refine jg_iconst (v := -1) dX4_reading_8 (by decide) ?_
    have e9 : fReading g a v = (-1, g) := by unfold fReading; rw [if_neg (by rw [h_5]; decide)]
    exact jg_iret (rfl) dX4_reading_9 ⟨_, rfl, ⟨by rw [e9] <;> rfl, by rw [e9]; exact hI, RF.rf⟩⟩
set_option maxHeartbeats 4000000 in
set_option maxRecDepth 20000 in
theorem d3_back (E : gT) (u : Mm) (g : Gh) (hO : Ok g) (hI : InvC u g) (n : Int32) : Con E yX3_back cX3_back 2 (some .int) 0 [.ref (E.2.1 0), .int n] u (kI (fun r u2 => r = (fBack g n).1 ∧ InvC u2 (fBack g n).2 ∧ CF u u2)) := by
  have hr8 := hO.2.2.2.1
  refine Con.of (lv := [some (.ref (E.2.1 0)), some (.int n)]) (by decide +kernel) (Nat.le_of_ble_eq_true rfl) rfl ?_
  refine jg_iload_n dX3_back_0 rfl rfl ?_
  refine jg_if_lt 12 dX3_back_1 (by decide) (fun h_1 => ?_) (fun h_1 => ?_)
  · have hv9 : inR n 0 (nI g.2.2.2.2.1.1) = false := by simp [inR, h_1]
    refine jg_bipush (v := -2) dX3_back_12 (by decide) ?_
    have e9 : fBack g n = (-2, g) := by unfold fBack; rw [if_neg (by rw [hv9]; decide)]
    exact jg_iret (rfl) dX3_back_14 ⟨_, rfl, ⟨by rw [e9] <;> rfl, by rw [e9]; exact hI, CF.rf⟩⟩
  · refine jg_iload_n dX3_back_4 rfl rfl ?_
    refine jg_aload_n dX3_back_5 rfl rfl ?_
    refine jg_geti fk_X3_84 sh_0 rfl dX3_back_6 ?_
    refine jg_top (y := nI g.2.2.2.2.1.1) (hI.2.2.2.2.1.1) ?_
    refine jg_icmp_le 15 dX3_back_9 (by decide) (fun h_9 => ?_) (fun h_9 => ?_)
    · have hv9 : inR n 0 (nI g.2.2.2.2.1.1) = true := by simp [inR, h_1, Int32.not_lt.mpr h_9]
      obtain ⟨i, -, hi, rfl⟩ := inR_nat (lo := 0) (hi := g.2.2.2.2.1.1) (by omega) hv9 (by omega)
      refine jg_aload_n dX3_back_15 rfl rfl ?_
      refine jg_dup dX3_back_16 rfl ?_
      refine jg_geti fk_X3_84 sh_0 rfl dX3_back_17 ?_
      refine jg_top (y := nI g.2.2.2.2.1.1) (hI.2.2.2.2.1.1) ?_
      refine jg_iload_n dX3_back_20 rfl rfl ?_
      refine jg_isubE (z := nI (g.2.2.2.2.1.1 - i)) dX3_back_21 (pk_sub hi) ?_
      refine jg_puti fp_X3_84 sh_0 rfl dX3_back_22 ?_
      refine jg_aload_n dX3_back_25 rfl rfl ?_
      refine jg_geti fk_X3_84 sh_0 rfl dX3_back_26 ?_
      refine jg_top (y := nI (g.2.2.2.2.1.1 - i)) (s2_self _ _ _ _) ?_
      have e9 : fBack g (nI i) = (nI (g.2.2.2.2.1.1 - i), wRd g (g.2.2.2.2.1.1 - i, g.2.2.2.2.1.2)) := by unfold fBack; rw [if_pos hv9, cl_nI (show i < 2 ^ 31 by omega)]
      exact jg_iret (rfl) dX3_back_29 ⟨_, rfl, ⟨by rw [e9] <;> rfl, by rw [e9]; exact hI.r0 (v := s2 u 0 7 (nI (g.2.2.2.2.1.1 - i))) (fun k h0 _ _ => s2_row h0) ⟨s2_self _ _ _ _, fun j hj => by rw [s2_row (by decide), s2_row (by decide)]; exact hI.2.2.2.2.1.2 j (Nat.lt_of_lt_of_le hj (Nat.sub_le _ _))⟩ (by rw [s2_ne (by decide)]; exact hI.2.2.2.2.2.1) (by rw [s2_ne (by decide)]; exact hI.2.2.2.2.2.2), CF.rf.put (by omega)⟩⟩
    · have hv9 : inR n 0 (nI g.2.2.2.2.1.1) = false := by simp [inR, Int32.not_le.mp h_9]
      refine jg_bipush (v := -2) dX3_back_12 (by decide) ?_
      have e9 : fBack g n = (-2, g) := by unfold fBack; rw [if_neg (by rw [hv9]; decide)]
      exact jg_iret (rfl) dX3_back_14 ⟨_, rfl, ⟨by rw [e9] <;> rfl, by rw [e9]; exact hI, CF.rf⟩⟩
set_option maxHeartbeats 4000000 in
set_option maxRecDepth 20000 in
theorem d4_back (E : gT) (u : Mm) (g : Gh) (hO : Ok g) (hI : InvM u g) (n : Int32) : Con E yX4_back cX4_back 2 (some .int) 1 [.ref (E.2.1 57), .int n] u (kI (fun r u2 => r = (fBack g n).1 ∧ InvM u2 (fBack g n).2 ∧ RF u u2)) := by
  have hr8 := hO.2.2.2.1
  refine Con.of (lv := [some (.ref (E.2.1 57)), some (.int n)]) (by decide +kernel) (Nat.le_of_ble_eq_true rfl) rfl ?_
  refine jg_iload_n dX4_back_0 rfl rfl ?_
  refine jg_iconst (v := 0) dX4_back_1 (by decide) ?_
  refine jg_aload_n dX4_back_2 rfl rfl ?_
  refine jg_geti fk_X4_113 sh_57 rfl dX4_back_3 ?_
  refine jg_top (y := nI g.2.2.2.2.1.1) (hI.2.2.2.2.1.1) ?_
  refine jg_callS (c4_within E u n 0 (nI g.2.2.2.2.1.1)) me_X4_within ml_X4_82 rfl (by decide) (by decide) rfl (Nat.le_of_ble_eq_true rfl) dX4_back_6 (kk_I (fun r_6 u_6 h_6 => ?_))
  obtain ⟨rfl, rfl⟩ := h_6
  refine jb_if_ne 15 dX4_back_9 (by decide) (fun h_9 => ?_) (fun h_9 => ?_)
  · obtain ⟨i, -, hi, rfl⟩ := inR_nat (lo := 0) (hi := g.2.2.2.2.1.1) (by omega) h_9 (by omega)
    refine jg_aload_n dX4_back_15 rfl rfl ?_
    refine jg_dup dX4_back_16 rfl ?_
    refine jg_geti fk_X4_113 sh_57 rfl dX4_back_17 ?_
    refine jg_top (y := nI g.2.2.2.2.1.1) (hI.2.2.2.2.1.1) ?_
    refine jg_iload_n dX4_back_20 rfl rfl ?_
    refine jg_isubE (z := nI (g.2.2.2.2.1.1 - i)) dX4_back_21 (pk_sub hi) ?_
    refine jg_puti fp_X4_113 sh_57 rfl dX4_back_22 ?_
    refine jg_aload_n dX4_back_25 rfl rfl ?_
    refine jg_geti fk_X4_113 sh_57 rfl dX4_back_26 ?_
    refine jg_top (y := nI (g.2.2.2.2.1.1 - i)) (s2_self _ _ _ _) ?_
    have e9 : fBack g (nI i) = (nI (g.2.2.2.2.1.1 - i), wRd g (g.2.2.2.2.1.1 - i, g.2.2.2.2.1.2)) := by unfold fBack; rw [if_pos h_9, cl_nI (show i < 2 ^ 31 by omega)]
    exact jg_iret (rfl) dX4_back_29 ⟨_, rfl, ⟨by rw [e9] <;> rfl, by rw [e9]; exact hI.r57 (v := s2 u 57 31 (nI (g.2.2.2.2.1.1 - i))) (fun k h0 _ _ => s2_row h0) (fun j hj => s2_ne (by omega)) ⟨s2_self _ _ _ _, fun j hj => by rw [s2_row (by decide), s2_row (by decide)]; exact hI.2.2.2.2.1.2 j (Nat.lt_of_lt_of_le hj (Nat.sub_le _ _))⟩ (by rw [s2_ne (by decide)]; exact hI.2.2.2.2.2.1) (by rw [s2_ne (by decide)]; exact hI.2.2.2.2.2.2), RF.rf.put (by omega)⟩⟩
  · refine jg_bipush (v := -2) dX4_back_12 (by decide) ?_
    have e9 : fBack g n = (-2, g) := by unfold fBack; rw [if_neg (by rw [h_9]; decide)]
    exact jg_iret (rfl) dX4_back_14 ⟨_, rfl, ⟨by rw [e9] <;> rfl, by rw [e9]; exact hI, RF.rf⟩⟩
theorem tab_out {x : Int32} {lo : Int} {n : Nat} (h : ∀ k : Nat, k < n → ¬ x = nI k) (hl : lo = 0 := by decide) (hn : n < 2 ^ 31 := by decide) : x.toInt < lo ∨ ((n : Int) - 1) < x.toInt := by
  subst hl
  rcases pk_ix x hn with h1 | h1 | ⟨j, hj, e⟩
  · left
    rw [Int32.lt_iff_toInt_lt] at h1
    have h6 : ((0 : Int32)).toInt = 0 := by decide
    omega
  · right
    rw [Int32.le_iff_toInt_le, nI_toInt hn] at h1
    omega
  · exact absurd e (h j hj)
set_option maxHeartbeats 4000000 in
set_option maxRecDepth 20000 in
theorem d3_many (E : gT) (u : Mm) (g : Gh) (hO : Ok g) (hI : InvC u g) (w : Int32) : Con E yX3_many cX3_many 2 (some .int) 0 [.ref (E.2.1 0), .int w] u (kI (fun r u2 => r = (fMany g w).1 ∧ InvC u2 (fMany g w).2 ∧ CF u u2)) := by
  refine Con.of (lv := [some (.ref (E.2.1 0)), some (.int w)]) (by decide +kernel) (Nat.le_of_ble_eq_true rfl) rfl ?_
  refine jg_iload_n dX3_many_0 rfl rfl ?_
  by_cases w0 : w = 0
  · refine jg_tableIn (off := 31) 32 dX3_many_1 (by rw [w0]; decide) (by rw [w0]; decide) (by rw [w0]; decide +kernel) (by decide) ?_
    refine jg_aload_n dX3_many_32 rfl rfl ?_
    refine jg_getr fk_X3_14 sh_0 rfl dX3_many_33 ?_
    refine jg_geti fk_X3_87 (pl_0 ipl_1) rfl dX3_many_36 ?_
    refine jg_top (y := nI (pn g.1)) (hI.1.1.1) ?_
    exact jg_iret (rfl) dX3_many_39 ⟨_, rfl, ⟨by simp [fMany, *], hI, CF.rf⟩⟩
  by_cases w1 : w = 1
  · refine jg_tableIn (off := 39) 40 dX3_many_1 (by rw [w1]; decide) (by rw [w1]; decide) (by rw [w1]; decide +kernel) (by decide) ?_
    refine jg_aload_n dX3_many_40 rfl rfl ?_
    refine jg_getr fk_X3_14 sh_0 rfl dX3_many_41 ?_
    refine jg_geti fk_X3_155 (pl_0 ipl_1) rfl dX3_many_44 ?_
    refine jg_top (y := nI (brP g.1)) (hI.1.2.2.1) ?_
    exact jg_iret (rfl) dX3_many_47 ⟨_, rfl, ⟨by simp [fMany, *], hI, CF.rf⟩⟩
  by_cases w2 : w = 2
  · refine jg_tableIn (off := 47) 48 dX3_many_1 (by rw [w2]; decide) (by rw [w2]; decide) (by rw [w2]; decide +kernel) (by decide) ?_
    refine jg_aload_n dX3_many_48 rfl rfl ?_
    refine jg_getr fk_X3_14 sh_0 rfl dX3_many_49 ?_
    refine jg_geti fk_X3_158 (pl_0 ipl_1) rfl dX3_many_52 ?_
    refine jg_top (y := nI (dpP g.1)) (hI.1.2.2.2) ?_
    exact jg_iret (rfl) dX3_many_55 ⟨_, rfl, ⟨by simp [fMany, *], hI, CF.rf⟩⟩
  by_cases w3 : w = 3
  · refine jg_tableIn (off := 55) 56 dX3_many_1 (by rw [w3]; decide) (by rw [w3]; decide) (by rw [w3]; decide +kernel) (by decide) ?_
    refine jg_aload_n dX3_many_56 rfl rfl ?_
    refine jg_geti fk_X3_84 sh_0 rfl dX3_many_57 ?_
    refine jg_top (y := nI g.2.2.2.2.1.1) (hI.2.2.2.2.1.1) ?_
    exact jg_iret (rfl) dX3_many_60 ⟨_, rfl, ⟨by simp [fMany, *], hI, CF.rf⟩⟩
  refine jg_tableOut 61 dX3_many_1 (tab_out (lo := 0) (n := 4) (fun k hk => by rcases (show k = 0 ∨ k = 1 ∨ k = 2 ∨ k = 3 by omega) with rfl | rfl | rfl | rfl <;> assumption)) (by decide) ?_
  refine jg_bipush (v := -2) dX3_many_61 (by decide) ?_
  exact jg_iret (rfl) dX3_many_63 ⟨_, rfl, ⟨by simp [fMany, *], hI, CF.rf⟩⟩
set_option maxHeartbeats 4000000 in
set_option maxRecDepth 20000 in
theorem d4_many (E : gT) (u : Mm) (g : Gh) (hO : Ok g) (hI : InvM u g) (w : Int32) : Con E yX4_many cX4_many 2 (some .int) 3 [.ref (E.2.1 57), .int w] u (kI (fun r u2 => r = (fMany g w).1 ∧ InvM u2 (fMany g w).2 ∧ RF u u2)) := by
  refine Con.of (lv := [some (.ref (E.2.1 57)), some (.int w)]) (by decide +kernel) (Nat.le_of_ble_eq_true rfl) rfl ?_
  refine jg_aload_n dX4_many_0 rfl rfl ?_
  refine jg_callV (c4_findPlaces E u g.1 hO.1 hI.1 (fun a ha => (hO.2.1 a ha).2)) me_X4_findPlaces ml_X4_164 sh_57 rfl rfl (by decide) (by decide) rfl (Nat.le_of_ble_eq_true rfl) dX4_many_1 (kk_V (fun u_1 h_1 => ?_))
  obtain ⟨hF, hX⟩ := h_1
  have hJ := hI.mf hF
  refine jg_iload_n dX4_many_4 rfl rfl ?_
  by_cases w0 : w = 0
  · refine jg_tableIn (off := 31) 36 dX4_many_5 (by rw [w0]; decide) (by rw [w0]; decide) (by rw [w0]; decide +kernel) (by decide) ?_
    refine jg_aload_n dX4_many_36 rfl rfl ?_
    refine jg_geti fk_X4_86 sh_57 rfl dX4_many_37 ?_
    refine jg_top (y := nI (pn g.1)) (hJ.1.1) ?_
    exact jg_iret (rfl) dX4_many_40 ⟨_, rfl, ⟨by simp [fMany, *], hJ, hF.rf2⟩⟩
  by_cases w1 : w = 1
  · refine jg_tableIn (off := 36) 41 dX4_many_5 (by rw [w1]; decide) (by rw [w1]; decide) (by rw [w1]; decide +kernel) (by decide) ?_
    refine jg_aload_n dX4_many_41 rfl rfl ?_
    refine jg_geti fk_X4_136 sh_57 rfl dX4_many_42 ?_
    refine jg_top (y := nI (brP g.1)) (hX.2.1) ?_
    exact jg_iret (rfl) dX4_many_45 ⟨_, rfl, ⟨by simp [fMany, *], hJ, hF.rf2⟩⟩
  by_cases w2 : w = 2
  · refine jg_tableIn (off := 41) 46 dX4_many_5 (by rw [w2]; decide) (by rw [w2]; decide) (by rw [w2]; decide +kernel) (by decide) ?_
    refine jg_aload_n dX4_many_46 rfl rfl ?_
    refine jg_geti fk_X4_139 sh_57 rfl dX4_many_47 ?_
    refine jg_top (y := nI (dpP g.1)) (hX.2.2) ?_
    exact jg_iret (rfl) dX4_many_50 ⟨_, rfl, ⟨by simp [fMany, *], hJ, hF.rf2⟩⟩
  by_cases w3 : w = 3
  · refine jg_tableIn (off := 46) 51 dX4_many_5 (by rw [w3]; decide) (by rw [w3]; decide) (by rw [w3]; decide +kernel) (by decide) ?_
    refine jg_aload_n dX4_many_51 rfl rfl ?_
    refine jg_geti fk_X4_113 sh_57 rfl dX4_many_52 ?_
    refine jg_top (y := nI g.2.2.2.2.1.1) (hJ.2.2.2.2.1.1) ?_
    exact jg_iret (rfl) dX4_many_55 ⟨_, rfl, ⟨by simp [fMany, *], hJ, hF.rf2⟩⟩
  refine jg_tableOut 56 dX4_many_5 (tab_out (lo := 0) (n := 4) (fun k hk => by rcases (show k = 0 ∨ k = 1 ∨ k = 2 ∨ k = 3 by omega) with rfl | rfl | rfl | rfl <;> assumption)) (by decide) ?_
  refine jg_bipush (v := -2) dX4_many_56 (by decide) ?_
  exact jg_iret (rfl) dX4_many_58 ⟨_, rfl, ⟨by simp [fMany, *], hJ, hF.rf2⟩⟩
