set_option maxHeartbeats 4000000 in
set_option maxRecDepth 20000 in
theorem d3_width (E : gT) (u : Mm) (g : Gh) (hO : Ok g) (hI : InvC u g) (a v : Int32) : Con E yX3_width cX3_width 4 (some .int) 3 [.ref (E.2.1 0), .int a, .int v] u (kI (fun r u2 => r = (fWidth g a v).1 ∧ InvC u2 (fWidth g a v).2 ∧ CF u u2)) := by
  have hn := hO.1.1
  refine Con.of (lv := [some (.ref (E.2.1 0)), some (.int a), some (.int v), none]) (by decide +kernel) (Nat.le_of_ble_eq_true rfl) rfl ?_
  refine jg_aload_n dX3_width_0 rfl rfl ?_
  refine jg_getr fk_X3_14 sh_0 rfl dX3_width_1 ?_
  refine jg_iload_n dX3_width_4 rfl rfl ?_
  refine jg_callV (c0_hasArea E ipl_1 u a) me_X0_hasArea ml_X3_90 (pl_0 ipl_1) rfl rfl (by decide) (by decide) rfl (Nat.le_of_ble_eq_true rfl) dX3_width_5 (kk_I (fun r_5 u_5 h_5 => ?_))
  obtain ⟨rfl, rfl⟩ := h_5
  refine jg_top (y := bI (inN a (nI (pn g.1)))) (congrArg (fun z => bI (inN a z)) hI.1.1.1) ?_
  refine jb_if_ne 13 dX3_width_8 (by decide) (fun h_8 => ?_) (fun h_8 => ?_)
  · obtain ⟨i, hi, rfl⟩ := inN_nat (by omega) h_8
    refine jg_iload_n dX3_width_13 rfl rfl ?_
    refine jg_callS (c3_isWidth E u v) me_X3_isWidth ml_X3_130 rfl (by decide) (by decide) rfl (Nat.le_of_ble_eq_true rfl) dX3_width_14 (kk_I (fun r_14 u_14 h_14 => ?_))
    obtain ⟨rfl, rfl⟩ := h_14
    refine jb_if_ne 23 dX3_width_17 (by decide) (fun h_17 => ?_) (fun h_17 => ?_)
    · obtain ⟨w, hw1, hw2, rfl⟩ := inR_nat (lo := 1) (hi := 9) (by omega) h_17 (by omega)
      refine jg_aload_n dX3_width_23 rfl rfl ?_
      refine jg_getr fk_X3_14 sh_0 rfl dX3_width_24 ?_
      refine jg_getr fk_X3_99 (pl_0 ipl_1) rfl dX3_width_27 ?_
      refine jg_iload_n dX3_width_30 rfl rfl ?_
      refine jg_ld i (pl_3 ipl_1) (by omega) (rfl) dX3_width_31 ?_
      refine jg_top (y := nI (g.1 3 i)) ((hI.1.1.2 i hi).2.2.1) ?_
      refine jg_istore_n dX3_width_32 rfl (by decide) rfl ?_
      refine jg_aload_n dX3_width_33 rfl rfl ?_
      refine jg_getr fk_X3_14 sh_0 rfl dX3_width_34 ?_
      refine jg_getr fk_X3_99 (pl_0 ipl_1) rfl dX3_width_37 ?_
      refine jg_iload_n dX3_width_40 rfl rfl ?_
      refine jg_iload_n dX3_width_41 rfl rfl ?_
      refine jg_st i (pl_3 ipl_1) (by omega) (rfl) dX3_width_42 ?_
      refine jg_aload_n dX3_width_43 rfl rfl ?_
      refine jg_getr fk_X3_14 sh_0 rfl dX3_width_44 ?_
      refine jg_callV (c0_lay E ipl_1 (s2 u (1 + 3) i (nI w)) (upP g.1 3 i w) (hO.1.wd hw2) (hI.1.1.wd i w)) me_X0_lay ml_X3_133 (pl_0 ipl_1) rfl rfl (by decide) (by decide) rfl (Nat.le_of_ble_eq_true rfl) dX3_width_47 (kk_V (fun u_47 h_47 => ?_))
      obtain ⟨hF, hL2⟩ := h_47
      refine jg_iload_n dX3_width_50 rfl rfl ?_
      have e9 : fWidth g (nI i) (nI w) = (nI (g.1 3 i), wPc g (upP g.1 3 i w)) := by unfold fWidth; rw [if_pos h_8, if_pos h_17, cl_nI (show i < 2 ^ 31 by omega), cl_nI (show w < 2 ^ 31 by omega)]
      exact jg_iret (rfl) dX3_width_51 ⟨_, rfl, ⟨by rw [e9], by rw [e9]; exact hI.pc hL2 rfl ((PF.put (k := 1 + 3) (j := i) (x := nI w) PF.rf (by omega) (by omega)).tr hF.pf) (by rw [hF.1 5 (by omega) (by omega), s2_row (by omega)]), fun k hk => by rw [hF.1 k (by omega) (by omega), s2_row (by omega)]⟩⟩
    · refine jg_bipush (v := -2) dX3_width_20 (by decide) ?_
      have e9 : fWidth g (nI i) v = (-2, g) := by unfold fWidth; rw [if_pos h_8, if_neg (by rw [h_17]; decide)]
      exact jg_iret (rfl) dX3_width_22 ⟨_, rfl, ⟨by rw [e9], by rw [e9]; exact hI, CF.rf⟩⟩
  · refine jg_iconst (v := -1) dX3_width_11 (by decide) ?_
    have e9 : fWidth g a v = (-1, g) := by unfold fWidth; rw [if_neg (by rw [h_8]; decide)]
    exact jg_iret (rfl) dX3_width_12 ⟨_, rfl, ⟨by rw [e9], by rw [e9]; exact hI, CF.rf⟩⟩
set_option maxHeartbeats 4000000 in
set_option maxRecDepth 20000 in
theorem d3_plot (E : gT) (u : Mm) (g : Gh) (hO : Ok g) (hI : InvC u g) (a v : Int32) : Con E yX3_plot cX3_plot 4 (some .int) 3 [.ref (E.2.1 0), .int a, .int v] u (kI (fun r u2 => r = (fPlot g a v).1 ∧ InvC u2 (fPlot g a v).2 ∧ CF u u2)) := by
  have hn := hO.1.1
  refine Con.of (lv := [some (.ref (E.2.1 0)), some (.int a), some (.int v), none]) (by decide +kernel) (Nat.le_of_ble_eq_true rfl) rfl ?_
  refine jg_aload_n dX3_plot_0 rfl rfl ?_
  refine jg_getr fk_X3_14 sh_0 rfl dX3_plot_1 ?_
  refine jg_iload_n dX3_plot_4 rfl rfl ?_
  refine jg_callV (c0_hasArea E ipl_1 u a) me_X0_hasArea ml_X3_90 (pl_0 ipl_1) rfl rfl (by decide) (by decide) rfl (Nat.le_of_ble_eq_true rfl) dX3_plot_5 (kk_I (fun r_5 u_5 h_5 => ?_))
  obtain ⟨rfl, rfl⟩ := h_5
  refine jg_top (y := bI (inN a (nI (pn g.1)))) (congrArg (fun z => bI (inN a z)) hI.1.1.1) ?_
  refine jb_if_ne 13 dX3_plot_8 (by decide) (fun h_8 => ?_) (fun h_8 => ?_)
  · obtain ⟨i, hi, rfl⟩ := inN_nat (by omega) h_8
    refine jg_iload_n dX3_plot_13 rfl rfl ?_
    refine jg_callS (c3_isPlot E u v) me_X3_isPlot ml_X3_136 rfl (by decide) (by decide) rfl (Nat.le_of_ble_eq_true rfl) dX3_plot_14 (kk_I (fun r_14 u_14 h_14 => ?_))
    obtain ⟨rfl, rfl⟩ := h_14
    refine jb_if_ne 23 dX3_plot_17 (by decide) (fun h_17 => ?_) (fun h_17 => ?_)
    · obtain ⟨w, hw1, hw2, rfl⟩ := inR_nat (lo := 1) (hi := 9) (by omega) h_17 (by omega)
      refine jg_aload_n dX3_plot_23 rfl rfl ?_
      refine jg_getr fk_X3_14 sh_0 rfl dX3_plot_24 ?_
      refine jg_getr fk_X3_96 (pl_0 ipl_1) rfl dX3_plot_27 ?_
      refine jg_iload_n dX3_plot_30 rfl rfl ?_
      refine jg_ld i (pl_2 ipl_1) (by omega) (rfl) dX3_plot_31 ?_
      refine jg_top (y := nI (g.1 2 i)) ((hI.1.1.2 i hi).2.1) ?_
      refine jg_istore_n dX3_plot_32 rfl (by decide) rfl ?_
      refine jg_aload_n dX3_plot_33 rfl rfl ?_
      refine jg_getr fk_X3_14 sh_0 rfl dX3_plot_34 ?_
      refine jg_getr fk_X3_96 (pl_0 ipl_1) rfl dX3_plot_37 ?_
      refine jg_iload_n dX3_plot_40 rfl rfl ?_
      refine jg_iload_n dX3_plot_41 rfl rfl ?_
      refine jg_st i (pl_2 ipl_1) (by omega) (rfl) dX3_plot_42 ?_
      refine jg_aload_n dX3_plot_43 rfl rfl ?_
      refine jg_getr fk_X3_14 sh_0 rfl dX3_plot_44 ?_
      refine jg_callV (c0_lay E ipl_1 (s2 u (1 + 2) i (nI w)) (upP g.1 2 i w) (hO.1.pl hw2) (hI.1.1.pt i w)) me_X0_lay ml_X3_133 (pl_0 ipl_1) rfl rfl (by decide) (by decide) rfl (Nat.le_of_ble_eq_true rfl) dX3_plot_47 (kk_V (fun u_47 h_47 => ?_))
      obtain ⟨hF, hL2⟩ := h_47
      refine jg_iload_n dX3_plot_50 rfl rfl ?_
      have e9 : fPlot g (nI i) (nI w) = (nI (g.1 2 i), wPc g (upP g.1 2 i w)) := by unfold fPlot; rw [if_pos h_8, if_pos h_17, cl_nI (show i < 2 ^ 31 by omega), cl_nI (show w < 2 ^ 31 by omega)]
      exact jg_iret (rfl) dX3_plot_51 ⟨_, rfl, ⟨by rw [e9], by rw [e9]; exact hI.pc hL2 rfl ((PF.put (k := 1 + 2) (j := i) (x := nI w) PF.rf (by omega) (by omega)).tr hF.pf) (by rw [hF.1 5 (by omega) (by omega), s2_row (by omega)]), fun k hk => by rw [hF.1 k (by omega) (by omega), s2_row (by omega)]⟩⟩
    · refine jg_bipush (v := -2) dX3_plot_20 (by decide) ?_
      have e9 : fPlot g (nI i) v = (-2, g) := by unfold fPlot; rw [if_pos h_8, if_neg (by rw [h_17]; decide)]
      exact jg_iret (rfl) dX3_plot_22 ⟨_, rfl, ⟨by rw [e9], by rw [e9]; exact hI, CF.rf⟩⟩
  · refine jg_iconst (v := -1) dX3_plot_11 (by decide) ?_
    have e9 : fPlot g a v = (-1, g) := by unfold fPlot; rw [if_neg (by rw [h_8]; decide)]
    exact jg_iret (rfl) dX3_plot_12 ⟨_, rfl, ⟨by rw [e9], by rw [e9]; exact hI, CF.rf⟩⟩
set_option maxHeartbeats 4000000 in
set_option maxRecDepth 20000 in
theorem d3_turn (E : gT) (u : Mm) (g : Gh) (hO : Ok g) (hI : InvC u g) (w k : Int32) : Con E yX3_turn cX3_turn 3 (some .int) 3 [.ref (E.2.1 0), .int w, .int k] u (kI (fun r u2 => r = (fTurn g w k).1 ∧ InvC u2 (fTurn g w k).2 ∧ CF u u2)) := by
  have hn := hO.1.1
  refine Con.of (lv := [some (.ref (E.2.1 0)), some (.int w), some (.int k)]) (by decide +kernel) (Nat.le_of_ble_eq_true rfl) rfl ?_
  refine jg_iload_n dX3_turn_0 rfl rfl ?_
  refine jg_callS (c3_isOrder E u w) me_X3_isOrder ml_X3_139 rfl (by decide) (by decide) rfl (Nat.le_of_ble_eq_true rfl) dX3_turn_1 (kk_I (fun r_1 u_1 h_1 => ?_))
  obtain ⟨rfl, rfl⟩ := h_1
  refine jb_if_ne 10 dX3_turn_4 (by decide) (fun h_4 => ?_) (fun h_4 => ?_)
  · obtain ⟨x, hx, rfl⟩ : ∃ x, x < 2 ∧ w = nI x := by simp only [Bool.or_eq_true, decide_eq_true_eq] at h_4; rcases h_4 with z | z; exact ⟨0, by omega, z⟩; exact ⟨1, by omega, z⟩
    refine jg_aload_n dX3_turn_10 rfl rfl ?_
    refine jg_getr fk_X3_14 sh_0 rfl dX3_turn_11 ?_
    refine jg_iload_n dX3_turn_14 rfl rfl ?_
    refine jg_callV (c0_hasPlaceBehind E ipl_1 u k) me_X0_hasPlaceBehind ml_X3_142 (pl_0 ipl_1) rfl rfl (by decide) (by decide) rfl (Nat.le_of_ble_eq_true rfl) dX3_turn_15 (kk_I (fun r_15 u_15 h_15 => ?_))
    obtain ⟨rfl, rfl⟩ := h_15
    refine jg_top (y := bI (inN k (nI (pn g.1) - 1))) (congrArg (fun z => bI (inN k (z - 1))) hI.1.1.1) ?_
    refine jb_if_ne 23 dX3_turn_18 (by decide) (fun h_18 => ?_) (fun h_18 => ?_)
    · obtain ⟨i, hi, rfl⟩ := nI_m1 hn h_18
      refine jg_aload_n dX3_turn_23 rfl rfl ?_
      refine jg_getr fk_X3_14 sh_0 rfl dX3_turn_24 ?_
      refine jg_iload_n dX3_turn_27 rfl rfl ?_
      refine jg_iload_n dX3_turn_28 rfl rfl ?_
      refine jg_callV (c0_turnPlaces E ipl_1 u x i hx (by omega)) me_X0_turnPlaces ml_X3_145 (pl_0 ipl_1) rfl rfl (by decide) (by decide) rfl (Nat.le_of_ble_eq_true rfl) dX3_turn_29 (kk_V (fun u_29 h_29 => ?_))
      obtain ⟨v, hv⟩ : ∃ z, z = s2 (s2 u (1 + 6 + x) i (u (1 + 6 + x) (i + 1))) (1 + 6 + x) (i + 1) (u (1 + 6 + x) i) := ⟨_, rfl⟩
      rw [← hv] at h_29
      subst h_29
      have hB : PlB 1 u_29 (swP g.1 x i) := by rw [hv]; exact sw_PlB hI.1.1 hx hi
      refine jg_aload_n dX3_turn_32 rfl rfl ?_
      refine jg_getr fk_X3_14 sh_0 rfl dX3_turn_33 ?_
      refine jg_callV (c0_lay E ipl_1 u_29 (swP g.1 x i) (sw_pl hO.1 hx hi) hB) me_X0_lay ml_X3_133 (pl_0 ipl_1) rfl rfl (by decide) (by decide) rfl (Nat.le_of_ble_eq_true rfl) dX3_turn_36 (kk_V (fun u_36 h_36 => ?_))
      obtain ⟨hF, hL2⟩ := h_36
      refine jg_aload_n dX3_turn_39 rfl rfl ?_
      refine jg_getr fk_X3_14 sh_0 rfl dX3_turn_40 ?_
      refine jg_getr fk_X3_149 (pl_0 ipl_1) rfl dX3_turn_43 ?_
      refine jg_iload_n dX3_turn_46 rfl rfl ?_
      refine jg_aald x (pl_5 ipl_1) (at_w hx) (Nat.le_of_ble_eq_true rfl) (rfl) dX3_turn_47 ?_
      refine jg_iload_n dX3_turn_48 rfl rfl ?_
      refine jg_ld i (pl_w ipl_1 hx) (by omega) (rfl) dX3_turn_49 ?_
      refine jg_top (y := nI (g.1 (6 + x) (i + 1))) (by rw [hF.1 (1 + 6 + x) (by omega) (by omega), hv, s2_ne (by omega), s2_self]; rcases (show x = 0 ∨ x = 1 by omega) with rfl | rfl; exact (hI.1.1.2 (i + 1) (by omega)).2.2.2.1; exact (hI.1.1.2 (i + 1) (by omega)).2.2.2.2) ?_
      have e9 : fTurn g (nI x) (nI i) = (nI (g.1 (6 + x) (i + 1)), wPc g (swP g.1 x i)) := by unfold fTurn; rw [if_pos h_4, if_pos h_18, cl_nI (show i < 2 ^ 31 by omega), cl_nI (show x < 2 ^ 31 by omega)]
      exact jg_iret (rfl) dX3_turn_50 ⟨_, rfl, ⟨by rw [e9], by rw [e9]; exact hI.pc hL2 (congrFun (show swP g.1 x i 0 = g.1 0 from if_neg (by omega)) 0) (fun k hk => by rw [hF.1 k (by omega) (by omega), hv, sw_out (by omega)]) (by rw [hF.1 5 (by omega) (by omega), hv, sw_out (by omega)]), fun k hk => by rw [hF.1 k (by omega) (by omega), hv, sw_out (by omega)]⟩⟩
    · refine jg_iconst (v := -1) dX3_turn_21 (by decide) ?_
      have e9 : fTurn g (nI x) k = (-1, g) := by unfold fTurn; rw [if_pos h_4, if_neg (by rw [h_18]; decide)]
      exact jg_iret (rfl) dX3_turn_22 ⟨_, rfl, ⟨by rw [e9], by rw [e9]; exact hI, CF.rf⟩⟩
  · refine jg_bipush (v := -2) dX3_turn_7 (by decide) ?_
    have e9 : fTurn g w k = (-2, g) := by unfold fTurn; rw [if_neg (by rw [h_4]; decide)]
    exact jg_iret (rfl) dX3_turn_9 ⟨_, rfl, ⟨by rw [e9], by rw [e9]; exact hI, CF.rf⟩⟩
set_option maxHeartbeats 4000000 in
set_option maxRecDepth 20000 in
theorem d3_trace (E : gT) (u : Mm) (g : Gh) (hO : Ok g) (hI : InvC u g) : Con E yX3_trace cX3_trace 1 (some .int) 0 [.ref (E.2.1 0)] u (kI (fun r u2 => r = ((g.2.2.2.2.2.1, g)).1 ∧ InvC u2 ((g.2.2.2.2.2.1, g)).2 ∧ CF u u2)) := by
  refine Con.of (lv := [some (.ref (E.2.1 0))]) (by decide +kernel) (Nat.le_of_ble_eq_true rfl) rfl ?_
  refine jg_aload_n dX3_trace_0 rfl rfl ?_
  refine jg_geti fk_X3_256 sh_0 rfl dX3_trace_1 ?_
  exact jg_iret (rfl) dX3_trace_4 ⟨_, rfl, ⟨hI.2.2.2.2.2.1, hI, CF.rf⟩⟩
set_option maxHeartbeats 4000000 in
set_option maxRecDepth 20000 in
theorem d3_fault (E : gT) (u : Mm) (g : Gh) (hO : Ok g) (hI : InvC u g) : Con E yX3_fault cX3_fault 1 (some .int) 0 [.ref (E.2.1 0)] u (kI (fun r u2 => r = ((g.2.2.2.2.2.2, g)).1 ∧ InvC u2 ((g.2.2.2.2.2.2, g)).2 ∧ CF u u2)) := by
  refine Con.of (lv := [some (.ref (E.2.1 0))]) (by decide +kernel) (Nat.le_of_ble_eq_true rfl) rfl ?_
  refine jg_aload_n dX3_fault_0 rfl rfl ?_
  refine jg_geti fk_X3_45 sh_0 rfl dX3_fault_1 ?_
  exact jg_iret (rfl) dX3_fault_4 ⟨_, rfl, ⟨hI.2.2.2.2.2.2, hI, CF.rf⟩⟩
set_option maxHeartbeats 4000000 in
set_option maxRecDepth 20000 in
theorem d4_trace (E : gT) (u : Mm) (g : Gh) (hO : Ok g) (hI : InvM u g) : Con E yX4_trace cX4_trace 1 (some .int) 0 [.ref (E.2.1 57)] u (kI (fun r u2 => r = ((g.2.2.2.2.2.1, g)).1 ∧ InvM u2 ((g.2.2.2.2.2.1, g)).2 ∧ RF u u2)) := by
  refine Con.of (lv := [some (.ref (E.2.1 57))]) (by decide +kernel) (Nat.le_of_ble_eq_true rfl) rfl ?_
  refine jg_aload_n dX4_trace_0 rfl rfl ?_
  refine jg_geti fk_X4_245 sh_57 rfl dX4_trace_1 ?_
  exact jg_iret (rfl) dX4_trace_4 ⟨_, rfl, ⟨hI.2.2.2.2.2.1, hI, RF.rf⟩⟩
set_option maxHeartbeats 4000000 in
set_option maxRecDepth 20000 in
theorem d4_fault (E : gT) (u : Mm) (g : Gh) (hO : Ok g) (hI : InvM u g) : Con E yX4_fault cX4_fault 1 (some .int) 0 [.ref (E.2.1 57)] u (kI (fun r u2 => r = ((g.2.2.2.2.2.2, g)).1 ∧ InvM u2 ((g.2.2.2.2.2.2, g)).2 ∧ RF u u2)) := by
  refine Con.of (lv := [some (.ref (E.2.1 57))]) (by decide +kernel) (Nat.le_of_ble_eq_true rfl) rfl ?_
  refine jg_aload_n dX4_fault_0 rfl rfl ?_
  refine jg_geti fk_X4_76 sh_57 rfl dX4_fault_1 ?_
  exact jg_iret (rfl) dX4_fault_4 ⟨_, rfl, ⟨hI.2.2.2.2.2.2, hI, RF.rf⟩⟩
theorem PlB.r0 {u : Mm} {p : Pic} {j : Nat} {x : Int32} (h : PlB 1 u p) : PlB 1 (s2 u 0 j x) p := by
  refine ⟨by rw [s2_row (by decide)]; exact h.1, fun i hi => ?_⟩
  rw [s2_row (by decide), s2_row (by decide), s2_row (by decide), s2_row (by decide), s2_row (by decide)]
  exact h.2 i hi
set_option maxHeartbeats 4000000 in
set_option maxRecDepth 20000 in
theorem c3_plainBody (E : gT) (u : Mm) (p : Pic) (hp : PicOk p) (hP : PlB 1 u p) (i : Nat) (hi : i < pn p) : Con E yX3_plainBody cX3_plainBody 2 (some .int) 1 [.ref (E.2.1 0), .int (nI i)] u (kI (fun r u2 => r = nI (p 2 i) ∧ u2 = s2 u 0 8 (nTr (u 0 8) 1))) := by
  have hn := hp.1
  refine Con.of (lv := [some (.ref (E.2.1 0)), some (.int (nI i))]) (by decide +kernel) (Nat.le_of_ble_eq_true rfl) rfl ?_
  refine jg_aload_n dX3_plainBody_0 rfl rfl ?_
  refine jg_iconst (v := 1) dX3_plainBody_1 (by decide) ?_
  refine jg_callV (c3_leave E u 1) me_X3_leave ml_X3_269 sh_0 rfl rfl (by decide) (by decide) rfl (Nat.le_of_ble_eq_true rfl) dX3_plainBody_2 (kk_V (fun u_2 h_2 => ?_))
  obtain rfl := h_2
  refine jg_aload_n dX3_plainBody_5 rfl rfl ?_
  refine jg_getr fk_X3_14 sh_0 rfl dX3_plainBody_6 ?_
  refine jg_getr fk_X3_96 (pl_0 ipl_1) rfl dX3_plainBody_9 ?_
  refine jg_iload_n dX3_plainBody_12 rfl rfl ?_
  refine jg_ld i (pl_2 ipl_1) (by omega) (rfl) dX3_plainBody_13 ?_
  refine jg_top (y := nI (p 2 i)) ((hP.r0.2 i hi).2.1) ?_
  exact jg_iret (rfl) dX3_plainBody_14 ⟨_, rfl, ⟨rfl, rfl⟩⟩
set_option maxHeartbeats 4000000 in
set_option maxRecDepth 20000 in
theorem c3_lentBody (E : gT) (u : Mm) (p : Pic) (hp : PicOk p) (hP : PlB 1 u p) (i : Nat) (hi : i < pn p) : Con E yX3_lentBody cX3_lentBody 2 (some .int) 1 [.ref (E.2.1 0), .int (nI i)] u (kI (fun r u2 => r = nI (p 3 i) ∧ u2 = s2 u 0 8 (nTr (u 0 8) 4))) := by
  have hn := hp.1
  refine Con.of (lv := [some (.ref (E.2.1 0)), some (.int (nI i))]) (by decide +kernel) (Nat.le_of_ble_eq_true rfl) rfl ?_
  refine jg_aload_n dX3_lentBody_0 rfl rfl ?_
  refine jg_iconst (v := 4) dX3_lentBody_1 (by decide) ?_
  refine jg_callV (c3_leave E u 4) me_X3_leave ml_X3_269 sh_0 rfl rfl (by decide) (by decide) rfl (Nat.le_of_ble_eq_true rfl) dX3_lentBody_2 (kk_V (fun u_2 h_2 => ?_))
  obtain rfl := h_2
  refine jg_aload_n dX3_lentBody_5 rfl rfl ?_
  refine jg_getr fk_X3_14 sh_0 rfl dX3_lentBody_6 ?_
  refine jg_getr fk_X3_99 (pl_0 ipl_1) rfl dX3_lentBody_9 ?_
  refine jg_iload_n dX3_lentBody_12 rfl rfl ?_
  refine jg_ld i (pl_3 ipl_1) (by omega) (rfl) dX3_lentBody_13 ?_
  refine jg_top (y := nI (p 3 i)) ((hP.r0.2 i hi).2.2.1) ?_
  exact jg_iret (rfl) dX3_lentBody_14 ⟨_, rfl, ⟨rfl, rfl⟩⟩
set_option maxHeartbeats 4000000 in
set_option maxRecDepth 20000 in
theorem c3_broadBody (E : gT) (u : Mm) (p : Pic) (hp : PicOk p) (hP : PlB 1 u p) (i : Nat) (hi : i < pn p) : Con E yX3_broadBody cX3_broadBody 2 (some .int) 2 [.ref (E.2.1 0), .int (nI i)] u (kI (fun r u2 => r = nI (p 2 i + 100) ∧ u2 = s2 (s2 u 0 8 (nTr (u 0 8) 2)) 0 8 (nTr ((s2 u 0 8 (nTr (u 0 8) 2)) 0 8) 1))) := by
  have hn := hp.1
  refine Con.of (lv := [some (.ref (E.2.1 0)), some (.int (nI i))]) (by decide +kernel) (Nat.le_of_ble_eq_true rfl) rfl ?_
  refine jg_aload_n dX3_broadBody_0 rfl rfl ?_
  refine jg_iconst (v := 2) dX3_broadBody_1 (by decide) ?_
  refine jg_callV (c3_leave E u 2) me_X3_leave ml_X3_269 sh_0 rfl rfl (by decide) (by decide) rfl (Nat.le_of_ble_eq_true rfl) dX3_broadBody_2 (kk_V (fun u_2 h_2 => ?_))
  obtain rfl := h_2
  refine jg_aload_n dX3_broadBody_5 rfl rfl ?_
  refine jg_iload_n dX3_broadBody_6 rfl rfl ?_
  refine jg_callV (c3_plainBody E (s2 u 0 8 (nTr (u 0 8) 2)) p hp hP.r0 i hi) me_X3_plainBody ml_X3_247 sh_0 rfl rfl (by decide) (by decide) rfl (Nat.le_of_ble_eq_true rfl) dX3_broadBody_7 (kk_I (fun r_7 u_7 h_7 => ?_))
  obtain ⟨rfl, rfl⟩ := h_7
  refine jg_bipush (v := 100) dX3_broadBody_10 (by decide) ?_
  refine jg_iaddE (z := nI ((p 2 i) + 100)) dX3_broadBody_12 (nI_add (p 2 i) 100) ?_
  exact jg_iret (rfl) dX3_broadBody_13 ⟨_, rfl, ⟨rfl, rfl⟩⟩
set_option maxHeartbeats 4000000 in
set_option maxRecDepth 20000 in
theorem c3_ownBody (E : gT) (u : Mm) (p : Pic) (hp : PicOk p) (hP : PlB 1 u p) (i : Nat) (hi : i < pn p) : Con E yX3_ownBody cX3_ownBody 2 (some .int) 2 [.ref (E.2.1 0), .int (nI i)] u (kI (fun r u2 => r = nI (p 3 i + 30) ∧ u2 = s2 (s2 u 0 8 (nTr (u 0 8) 5)) 0 8 (nTr ((s2 u 0 8 (nTr (u 0 8) 5)) 0 8) 4))) := by
  have hn := hp.1
  refine Con.of (lv := [some (.ref (E.2.1 0)), some (.int (nI i))]) (by decide +kernel) (Nat.le_of_ble_eq_true rfl) rfl ?_
  refine jg_aload_n dX3_ownBody_0 rfl rfl ?_
  refine jg_iconst (v := 5) dX3_ownBody_1 (by decide) ?_
  refine jg_callV (c3_leave E u 5) me_X3_leave ml_X3_269 sh_0 rfl rfl (by decide) (by decide) rfl (Nat.le_of_ble_eq_true rfl) dX3_ownBody_2 (kk_V (fun u_2 h_2 => ?_))
  obtain rfl := h_2
  refine jg_aload_n dX3_ownBody_5 rfl rfl ?_
  refine jg_iload_n dX3_ownBody_6 rfl rfl ?_
  refine jg_callV (c3_lentBody E (s2 u 0 8 (nTr (u 0 8) 5)) p hp hP.r0 i hi) me_X3_lentBody ml_X3_253 sh_0 rfl rfl (by decide) (by decide) rfl (Nat.le_of_ble_eq_true rfl) dX3_ownBody_7 (kk_I (fun r_7 u_7 h_7 => ?_))
  obtain ⟨rfl, rfl⟩ := h_7
  refine jg_bipush (v := 30) dX3_ownBody_10 (by decide) ?_
  refine jg_iaddE (z := nI ((p 3 i) + 30)) dX3_ownBody_12 (nI_add (p 3 i) 30) ?_
  exact jg_iret (rfl) dX3_ownBody_13 ⟨_, rfl, ⟨rfl, rfl⟩⟩
set_option maxHeartbeats 4000000 in
set_option maxRecDepth 20000 in
theorem c3_doubleBody (E : gT) (u : Mm) (p : Pic) (hp : PicOk p) (hP : PlB 1 u p) (i : Nat) (hi : i < pn p) : Con E yX3_doubleBody cX3_doubleBody 3 (some .int) 3 [.ref (E.2.1 0), .int (nI i)] u (kI (fun r u2 => r = nI (2 * p 2 i + 100) ∧ u2 = s2 (s2 (s2 (s2 u 0 8 (nTr (u 0 8) 3)) 0 8 (nTr ((s2 u 0 8 (nTr (u 0 8) 3)) 0 8) 2)) 0 8 (nTr ((s2 (s2 u 0 8 (nTr (u 0 8) 3)) 0 8 (nTr ((s2 u 0 8 (nTr (u 0 8) 3)) 0 8) 2)) 0 8) 1)) 0 8 (nTr ((s2 (s2 (s2 u 0 8 (nTr (u 0 8) 3)) 0 8 (nTr ((s2 u 0 8 (nTr (u 0 8) 3)) 0 8) 2)) 0 8 (nTr ((s2 (s2 u 0 8 (nTr (u 0 8) 3)) 0 8 (nTr ((s2 u 0 8 (nTr (u 0 8) 3)) 0 8) 2)) 0 8) 1)) 0 8) 1))) := by
  have hn := hp.1
  refine Con.of (lv := [some (.ref (E.2.1 0)), some (.int (nI i)), none]) (by decide +kernel) (Nat.le_of_ble_eq_true rfl) rfl ?_
  refine jg_aload_n dX3_doubleBody_0 rfl rfl ?_
  refine jg_iconst (v := 3) dX3_doubleBody_1 (by decide) ?_
  refine jg_callV (c3_leave E u 3) me_X3_leave ml_X3_269 sh_0 rfl rfl (by decide) (by decide) rfl (Nat.le_of_ble_eq_true rfl) dX3_doubleBody_2 (kk_V (fun u_2 h_2 => ?_))
  obtain rfl := h_2
  refine jg_aload_n dX3_doubleBody_5 rfl rfl ?_
  refine jg_iload_n dX3_doubleBody_6 rfl rfl ?_
  refine jg_callV (c3_broadBody E (s2 u 0 8 (nTr (u 0 8) 3)) p hp hP.r0 i hi) me_X3_broadBody ml_X3_244 sh_0 rfl rfl (by decide) (by decide) rfl (Nat.le_of_ble_eq_true rfl) dX3_doubleBody_7 (kk_I (fun r_7 u_7 h_7 => ?_))
  obtain ⟨rfl, rfl⟩ := h_7
  refine jg_istore_n dX3_doubleBody_10 rfl (by decide) rfl ?_
  refine jg_iload_n dX3_doubleBody_11 rfl rfl ?_
  refine jg_aload_n dX3_doubleBody_12 rfl rfl ?_
  refine jg_iload_n dX3_doubleBody_13 rfl rfl ?_
  refine jg_callV (c3_plainBody E (s2 (s2 (s2 u 0 8 (nTr (u 0 8) 3)) 0 8 (nTr ((s2 u 0 8 (nTr (u 0 8) 3)) 0 8) 2)) 0 8 (nTr ((s2 (s2 u 0 8 (nTr (u 0 8) 3)) 0 8 (nTr ((s2 u 0 8 (nTr (u 0 8) 3)) 0 8) 2)) 0 8) 1)) p hp hP.r0.r0.r0 i hi) me_X3_plainBody ml_X3_247 sh_0 rfl rfl (by decide) (by decide) rfl (Nat.le_of_ble_eq_true rfl) dX3_doubleBody_14 (kk_I (fun r_14 u_14 h_14 => ?_))
  obtain ⟨rfl, rfl⟩ := h_14
  refine jg_iaddE (z := nI ((p 2 i + 100) + (p 2 i))) dX3_doubleBody_17 (nI_add (p 2 i + 100) (p 2 i)) ?_
  exact jg_iret (rfl) dX3_doubleBody_18 ⟨_, rfl, ⟨congrArg nI (by omega), rfl⟩⟩
theorem s2_s2 (u : Mm) (k j : Nat) (x y : Int32) : s2 (s2 u k j x) k j y = s2 u k j y := by
  funext a
  by_cases h : a = k
  · subst h
    rw [s2_at, s2_at, s2_at]
    funext i
    by_cases e : i = j
    · subst e; rw [pk_us, pk_us]
    · rw [pk_un e, pk_un e, pk_un e]
  · rw [s2_row h, s2_row h, s2_row h]
set_option maxHeartbeats 4000000 in
set_option maxRecDepth 20000 in
theorem d3_tell (E : gT) (u : Mm) (g : Gh) (hO : Ok g) (hI : InvC u g) (a : Int32) : Con E yX3_tell cX3_tell 2 (some .int) 4 [.ref (E.2.1 0), .int a] u (kI (fun r u2 => r = (fTell g a).1 ∧ InvC u2 (fTell g a).2 ∧ CF u u2)) := by
  have hn := hO.1.1
  refine Con.of (lv := [some (.ref (E.2.1 0)), some (.int a)]) (by decide +kernel) (Nat.le_of_ble_eq_true rfl) rfl ?_
  refine jg_aload_n dX3_tell_0 rfl rfl ?_
  refine jg_getr fk_X3_14 sh_0 rfl dX3_tell_1 ?_
  refine jg_iload_n dX3_tell_4 rfl rfl ?_
  refine jg_callV (c0_hasArea E ipl_1 u a) me_X0_hasArea ml_X3_90 (pl_0 ipl_1) rfl rfl (by decide) (by decide) rfl (Nat.le_of_ble_eq_true rfl) dX3_tell_5 (kk_I (fun r_5 u_5 h_5 => ?_))
  obtain ⟨rfl, rfl⟩ := h_5
  refine jg_top (y := bI (inN a (nI (pn g.1)))) (congrArg (fun z => bI (inN a z)) hI.1.1.1) ?_
  refine jb_if_ne 13 dX3_tell_8 (by decide) (fun h_8 => ?_) (fun h_8 => ?_)
  · obtain ⟨i, hi, rfl⟩ := inN_nat (by omega) h_8
    have hk3 := (hO.1.2.1 i hi).1
    refine jg_aload_n dX3_tell_13 rfl rfl ?_
    refine jg_getr fk_X3_14 sh_0 rfl dX3_tell_14 ?_
    refine jg_getr fk_X3_93 (pl_0 ipl_1) rfl dX3_tell_17 ?_
    refine jg_iload_n dX3_tell_20 rfl rfl ?_
    refine jg_ld i (pl_1 ipl_1) (by omega) (rfl) dX3_tell_21 ?_
    refine jg_top (y := nI (g.1 1 i)) ((hI.1.1.2 i hi).1) ?_
    rcases (show g.1 1 i = 2 ∨ g.1 1 i = 1 ∨ g.1 1 i = 0 by omega) with e | e | e
    · refine jg_top (congrArg nI e) ?_
      refine jg_lookup (off := 26) 48 dX3_tell_22 (by decide +kernel) (by decide +kernel) (by decide) ?_
      refine jg_aload_n dX3_tell_48 rfl rfl ?_
      refine jg_iload_n dX3_tell_49 rfl rfl ?_
      refine jg_callV (c3_doubleBody E u g.1 hO.1 hI.1.1 i hi) me_X3_doubleBody ml_X3_241 sh_0 rfl rfl (by decide) (by decide) rfl (Nat.le_of_ble_eq_true rfl) dX3_tell_50 (kk_I (fun r_50 u_50 h_50 => ?_))
      obtain ⟨rfl, rfl⟩ := h_50
      simp only [s2_s2, s2_self, hI.2.2.2.2.2.1]
      have e9 : fTell g (nI i) = (nI (2 * g.1 2 i + 100), wTr g (nTr (nTr (nTr (nTr g.2.2.2.2.2.1 3) 2) 1) 1)) := by unfold fTell; rw [if_pos h_8, cl_nI (show i < 2 ^ 31 by omega), if_pos e]
      exact jg_iret (rfl) dX3_tell_53 ⟨_, rfl, ⟨by rw [e9], by rw [e9]; exact hI.tr _, CF.rf.put (by omega)⟩⟩
    · refine jg_top (congrArg nI e) ?_
      refine jg_lookup (off := 32) 54 dX3_tell_22 (by decide +kernel) (by decide +kernel) (by decide) ?_
      refine jg_aload_n dX3_tell_54 rfl rfl ?_
      refine jg_iload_n dX3_tell_55 rfl rfl ?_
      refine jg_callV (c3_broadBody E u g.1 hO.1 hI.1.1 i hi) me_X3_broadBody ml_X3_244 sh_0 rfl rfl (by decide) (by decide) rfl (Nat.le_of_ble_eq_true rfl) dX3_tell_56 (kk_I (fun r_56 u_56 h_56 => ?_))
      obtain ⟨rfl, rfl⟩ := h_56
      simp only [s2_s2, s2_self, hI.2.2.2.2.2.1]
      have e9 : fTell g (nI i) = (nI (g.1 2 i + 100), wTr g (nTr (nTr g.2.2.2.2.2.1 2) 1)) := by unfold fTell; rw [if_pos h_8, cl_nI (show i < 2 ^ 31 by omega), if_neg (by omega), if_pos e]
      exact jg_iret (rfl) dX3_tell_59 ⟨_, rfl, ⟨by rw [e9], by rw [e9]; exact hI.tr _, CF.rf.put (by omega)⟩⟩
    · refine jg_top (congrArg nI e) ?_
      refine jg_lookup (off := 38) 60 dX3_tell_22 (by decide +kernel) (by decide +kernel) (by decide) ?_
      refine jg_aload_n dX3_tell_60 rfl rfl ?_
      refine jg_iload_n dX3_tell_61 rfl rfl ?_
      refine jg_callV (c3_plainBody E u g.1 hO.1 hI.1.1 i hi) me_X3_plainBody ml_X3_247 sh_0 rfl rfl (by decide) (by decide) rfl (Nat.le_of_ble_eq_true rfl) dX3_tell_62 (kk_I (fun r_62 u_62 h_62 => ?_))
      obtain ⟨rfl, rfl⟩ := h_62
      simp only [hI.2.2.2.2.2.1]
      have e9 : fTell g (nI i) = (nI (g.1 2 i), wTr g (nTr g.2.2.2.2.2.1 1)) := by unfold fTell; rw [if_pos h_8, cl_nI (show i < 2 ^ 31 by omega), if_neg (by omega), if_neg (by omega)]
      exact jg_iret (rfl) dX3_tell_65 ⟨_, rfl, ⟨by rw [e9], by rw [e9]; exact hI.tr _, CF.rf.put (by omega)⟩⟩
  · refine jg_iconst (v := -1) dX3_tell_11 (by decide) ?_
    have e9 : fTell g a = (-1, g) := by unfold fTell; rw [if_neg (by rw [h_8]; decide)]
    exact jg_iret (rfl) dX3_tell_12 ⟨_, rfl, ⟨by rw [e9], by rw [e9]; exact hI, CF.rf⟩⟩
set_option maxHeartbeats 4000000 in
set_option maxRecDepth 20000 in
theorem d3_survey (E : gT) (u : Mm) (g : Gh) (hO : Ok g) (hI : InvC u g) (a : Int32) : Con E yX3_survey cX3_survey 2 (some .int) 3 [.ref (E.2.1 0), .int a] u (kI (fun r u2 => r = (fSurvey g a).1 ∧ InvC u2 (fSurvey g a).2 ∧ CF u u2)) := by
  have hn := hO.1.1
  refine Con.of (lv := [some (.ref (E.2.1 0)), some (.int a)]) (by decide +kernel) (Nat.le_of_ble_eq_true rfl) rfl ?_
  refine jg_aload_n dX3_survey_0 rfl rfl ?_
  refine jg_getr fk_X3_14 sh_0 rfl dX3_survey_1 ?_
  refine jg_iload_n dX3_survey_4 rfl rfl ?_
  refine jg_callV (c0_hasArea E ipl_1 u a) me_X0_hasArea ml_X3_90 (pl_0 ipl_1) rfl rfl (by decide) (by decide) rfl (Nat.le_of_ble_eq_true rfl) dX3_survey_5 (kk_I (fun r_5 u_5 h_5 => ?_))
  obtain ⟨rfl, rfl⟩ := h_5
  refine jg_top (y := bI (inN a (nI (pn g.1)))) (congrArg (fun z => bI (inN a z)) hI.1.1.1) ?_
  refine jb_if_ne 13 dX3_survey_8 (by decide) (fun h_8 => ?_) (fun h_8 => ?_)
  · obtain ⟨i, hi, rfl⟩ := inN_nat (by omega) h_8
    have hk3 := (hO.1.2.1 i hi).1
    refine jg_aload_n dX3_survey_13 rfl rfl ?_
    refine jg_getr fk_X3_14 sh_0 rfl dX3_survey_14 ?_
    refine jg_getr fk_X3_93 (pl_0 ipl_1) rfl dX3_survey_17 ?_
    refine jg_iload_n dX3_survey_20 rfl rfl ?_
    refine jg_ld i (pl_1 ipl_1) (by omega) (rfl) dX3_survey_21 ?_
    refine jg_top (y := nI (g.1 1 i)) ((hI.1.1.2 i hi).1) ?_
    refine jg_iconst (v := 2) dX3_survey_22 (by decide) ?_
    refine jn_icmp_ne (g.1 1 i) 2 rfl rfl (by omega) (by omega) 34 dX3_survey_23 (by decide) (fun h_23 => ?_) (fun h_23 => ?_)
    · refine jg_aload_n dX3_survey_34 rfl rfl ?_
      refine jg_iload_n dX3_survey_35 rfl rfl ?_
      refine jg_callV (c3_lentBody E u g.1 hO.1 hI.1.1 i hi) me_X3_lentBody ml_X3_253 sh_0 rfl rfl (by decide) (by decide) rfl (Nat.le_of_ble_eq_true rfl) dX3_survey_36 (kk_I (fun r_36 u_36 h_36 => ?_))
      obtain ⟨rfl, rfl⟩ := h_36
      simp only [hI.2.2.2.2.2.1]
      have e9 : fSurvey g (nI i) = (nI (g.1 3 i), wTr g (nTr g.2.2.2.2.2.1 4)) := by unfold fSurvey; rw [if_pos h_8, cl_nI (show i < 2 ^ 31 by omega), if_neg h_23]
      exact jg_iret (rfl) dX3_survey_39 ⟨_, rfl, ⟨by rw [e9], by rw [e9]; exact hI.tr _, CF.rf.put (by omega)⟩⟩
    · refine jg_aload_n dX3_survey_26 rfl rfl ?_
      refine jg_iload_n dX3_survey_27 rfl rfl ?_
      refine jg_callV (c3_ownBody E u g.1 hO.1 hI.1.1 i hi) me_X3_ownBody ml_X3_250 sh_0 rfl rfl (by decide) (by decide) rfl (Nat.le_of_ble_eq_true rfl) dX3_survey_28 (kk_I (fun r_28 u_28 h_28 => ?_))
      obtain ⟨rfl, rfl⟩ := h_28
      simp only [s2_s2, s2_self, hI.2.2.2.2.2.1]
      have e9 : fSurvey g (nI i) = (nI (g.1 3 i + 30), wTr g (nTr (nTr g.2.2.2.2.2.1 5) 4)) := by unfold fSurvey; rw [if_pos h_8, cl_nI (show i < 2 ^ 31 by omega), if_pos h_23]
      refine jg_goto 39 dX3_survey_31 (by decide) ?_
      exact jg_iret (rfl) dX3_survey_39 ⟨_, rfl, ⟨by rw [e9], by rw [e9]; exact hI.tr _, CF.rf.put (by omega)⟩⟩
  · refine jg_iconst (v := -1) dX3_survey_11 (by decide) ?_
    have e9 : fSurvey g a = (-1, g) := by unfold fSurvey; rw [if_neg (by rw [h_8]; decide)]
    exact jg_iret (rfl) dX3_survey_12 ⟨_, rfl, ⟨by rw [e9], by rw [e9]; exact hI, CF.rf⟩⟩
set_option maxHeartbeats 4000000 in
set_option maxRecDepth 20000 in
theorem d3_as (E : gT) (u : Mm) (g : Gh) (hO : Ok g) (hI : InvC u g) (a k : Int32) : Con E yX3_as cX3_as 3 (some .int) 1 [.ref (E.2.1 0), .int a, .int k] u (kI (fun r u2 => r = (fAs g a k).1 ∧ InvC u2 (fAs g a k).2 ∧ CF u u2)) := by
  have hn := hO.1.1
  refine Con.of (lv := [some (.ref (E.2.1 0)), some (.int a), some (.int k)]) (by decide +kernel) (Nat.le_of_ble_eq_true rfl) rfl ?_
  refine jg_aload_n dX3_as_0 rfl rfl ?_
  refine jg_iconst (v := 0) dX3_as_1 (by decide) ?_
  refine jg_puti fp_X3_45 sh_0 rfl dX3_as_2 ?_
  refine jg_aload_n dX3_as_5 rfl rfl ?_
  refine jg_getr fk_X3_14 sh_0 rfl dX3_as_6 ?_
  refine jg_iload_n dX3_as_9 rfl rfl ?_
  refine jg_callV (c0_hasArea E ipl_1 (s2 u 0 9 0) a) me_X0_hasArea ml_X3_90 (pl_0 ipl_1) rfl rfl (by decide) (by decide) rfl (Nat.le_of_ble_eq_true rfl) dX3_as_10 (kk_I (fun r_10 u_10 h_10 => ?_))
  obtain ⟨rfl, rfl⟩ := h_10
  refine jg_top (y := bI (inN a (nI (pn g.1)))) (congrArg (fun z => bI (inN a z)) (by rw [s2_row (by decide)]; exact hI.1.1.1)) ?_
  refine jb_if_ne 18 dX3_as_13 (by decide) (fun h_13 => ?_) (fun h_13 => ?_)
  · obtain ⟨i, hi, rfl⟩ := inN_nat (by omega) h_13
    have hk3 := (hO.1.2.1 i hi).1
    refine jg_iload_n dX3_as_18 rfl rfl ?_
    refine jg_if_lt 27 dX3_as_19 (by decide) (fun h_19 => ?_) (fun h_19 => ?_)
    · have hk9 : inR k 0 2 = false := by simp [inR, h_19]
      refine jg_bipush (v := -2) dX3_as_27 (by decide) ?_
      have e9 : fAs g (nI i) k = (-2, wFt g 0) := by unfold fAs; rw [if_pos h_13, if_neg (by rw [hk9]; decide)]
      exact jg_iret (rfl) dX3_as_29 ⟨_, rfl, ⟨by rw [e9], by rw [e9]; exact hI.ft 0, CF.rf.put (by omega)⟩⟩
    · refine jg_iload_n dX3_as_22 rfl rfl ?_
      refine jg_iconst (v := 2) dX3_as_23 (by decide) ?_
      refine jg_icmp_le 30 dX3_as_24 (by decide) (fun h_24 => ?_) (fun h_24 => ?_)
      · have hk9 : inR k 0 2 = true := by simp [inR, h_19, Int32.not_lt.mpr h_24]
        obtain ⟨j, -, hj2, rfl⟩ := inR_nat (lo := 0) (hi := 2) (by omega) hk9 (by omega)
        refine jg_aload_n dX3_as_30 rfl rfl ?_
        refine jg_getr fk_X3_14 sh_0 rfl dX3_as_31 ?_
        refine jg_getr fk_X3_93 (pl_0 ipl_1) rfl dX3_as_34 ?_
        refine jg_iload_n dX3_as_37 rfl rfl ?_
        refine jg_ld i (pl_1 ipl_1) (by omega) (rfl) dX3_as_38 ?_
        refine jg_top (y := nI (g.1 1 i)) ((hI.1.1.r0.2 i hi).1) ?_
        refine jg_iload_n dX3_as_39 rfl rfl ?_
        refine jn_icmp_ge (g.1 1 i) j rfl rfl (by omega) (by omega) 51 dX3_as_40 (by decide) (fun h_40 => ?_) (fun h_40 => ?_)
        · have e9 : fAs g (nI i) (nI j) = (1, wFt g 0) := by unfold fAs; rw [if_pos h_13, if_pos hk9, cl_nI (show i < 2 ^ 31 by omega), cl_nI (show j < 2 ^ 31 by omega), if_neg (by omega)]
          refine jg_iconst (v := 1) dX3_as_51 (by decide) ?_
          exact jg_iret (rfl) dX3_as_52 ⟨_, rfl, ⟨by rw [e9] <;> rfl, by rw [e9]; exact hI.ft _, CF.rf.put (by omega)⟩⟩
        · have e9 : fAs g (nI i) (nI j) = (-12, wFt g 2) := by unfold fAs; rw [if_pos h_13, if_pos hk9, cl_nI (show i < 2 ^ 31 by omega), cl_nI (show j < 2 ^ 31 by omega), if_pos h_40]
          refine jg_aload_n dX3_as_43 rfl rfl ?_
          refine jg_iconst (v := 2) dX3_as_44 (by decide) ?_
          refine jg_callV (c3_failed E (s2 u 0 9 0) 2) me_X3_failed ml_X3_64 sh_0 rfl rfl (by decide) (by decide) rfl (Nat.le_of_ble_eq_true rfl) dX3_as_45 (kk_I (fun r_45 u_45 h_45 => ?_))
          obtain ⟨rfl, rfl⟩ := h_45
          rw [s2_s2]
          refine jg_goto 52 dX3_as_48 (by decide) ?_
          exact jg_iret (rfl) dX3_as_52 ⟨_, rfl, ⟨by rw [e9] <;> rfl, by rw [e9]; exact hI.ft _, CF.rf.put (by omega)⟩⟩
      · have hk9 : inR k 0 2 = false := by simp [inR, Int32.not_le.mp h_24]
        refine jg_bipush (v := -2) dX3_as_27 (by decide) ?_
        have e9 : fAs g (nI i) k = (-2, wFt g 0) := by unfold fAs; rw [if_pos h_13, if_neg (by rw [hk9]; decide)]
        exact jg_iret (rfl) dX3_as_29 ⟨_, rfl, ⟨by rw [e9], by rw [e9]; exact hI.ft 0, CF.rf.put (by omega)⟩⟩
  · refine jg_iconst (v := -1) dX3_as_16 (by decide) ?_
    have e9 : fAs g a k = (-1, wFt g 0) := by unfold fAs; rw [if_neg (by rw [h_13]; decide)]
    exact jg_iret (rfl) dX3_as_17 ⟨_, rfl, ⟨by rw [e9], by rw [e9]; exact hI.ft 0, CF.rf.put (by omega)⟩⟩
