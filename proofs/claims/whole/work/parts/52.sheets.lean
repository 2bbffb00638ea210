set_option maxHeartbeats 4000000 in
set_option maxRecDepth 20000 in
theorem d3_cell (E : gT) (u : Mm) (g : Gh) (hO : Ok g) (hI : InvC u g) (k i l : Int32) : Con E yX3_cell cX3_cell 6 (some .long) 1 [.ref (E.2.1 0), .int k, .int i, .int l] u (kL (fun r u2 => r = (fCell g k i l).1 ∧ InvC u2 (fCell g k i l).2 ∧ CF u u2)) := by
  refine Con.of (lv := [some (.ref (E.2.1 0)), some (.int k), some (.int i), some (.int l), none, none]) (by decide +kernel) (Nat.le_of_ble_eq_true rfl) rfl ?_
  refine jg_aload_n dX3_cell_0 rfl rfl ?_
  refine jg_iconst (v := 0) dX3_cell_1 (by decide) ?_
  refine jg_puti fp_X3_45 sh_0 rfl dX3_cell_2 ?_
  refine jg_iload_n dX3_cell_5 rfl rfl ?_
  refine jg_callS (c3_isSheet E (s2 u 0 9 0) k) me_X3_isSheet ml_X3_49 rfl (by decide) (by decide) rfl (Nat.le_of_ble_eq_true rfl) dX3_cell_6 (kk_I (fun r_6 u_6 h_6 => ?_))
  obtain ⟨rfl, rfl⟩ := h_6
  refine jb_if_eq 19 dX3_cell_9 (by decide) (fun h_9 => ?_) (fun h_9 => ?_)
  · have e9 : fCell g k i l = (-9223372036854775808, wFt g 0) := by unfold fCell; rw [if_neg (fun z => by rw [h_9] at z; exact absurd z.1 (by decide))]
    refine jg_ldc2 kl_X3_207 dX3_cell_19 ?_
    exact jg_lret dX3_cell_22 ⟨_, rfl, ⟨by rw [e9], by rw [e9]; exact hI.ft 0, CF.rf.put (by omega)⟩⟩
  · obtain ⟨j, hj, rfl⟩ := in4 h_9
    have hsc := shC_z hI hj 0
    have h60 := (hO.2.2.1 j hj).2
    refine jg_iload_n dX3_cell_12 rfl rfl ?_
    refine jg_callS (c3_isLane E (s2 u 0 9 0) l) me_X3_isLane ml_X3_53 rfl (by decide) (by decide) rfl (Nat.le_of_ble_eq_true rfl) dX3_cell_13 (kk_I (fun r_13 u_13 h_13 => ?_))
    obtain ⟨rfl, rfl⟩ := h_13
    refine jb_if_ne 23 dX3_cell_16 (by decide) (fun h_16 => ?_) (fun h_16 => ?_)
    · have hc9 : inN (nI j) 4 = true ∧ inR l 0 2 = true := ⟨h_9, h_16⟩
      refine jg_aload_n dX3_cell_23 rfl rfl ?_
      refine jg_getr fk_X3_30 sh_0 rfl dX3_cell_24 ?_
      refine jg_iload_n dX3_cell_27 rfl rfl ?_
      refine jg_aald j sh_45 (sh_at hj) (Nat.le_of_ble_eq_true rfl) (rfl) dX3_cell_28 ?_
      refine jg_astore dX3_cell_29 (by decide) rfl ?_
      refine jg_aload dX3_cell_31 rfl ?_
      refine jg_iload_n dX3_cell_33 rfl rfl ?_
      refine jg_callV (c2_faultAs E (sh_ok hj) (s2 u 0 9 0) l) me_X2_faultAs ml_X3_56 (pg_0 (sh_ok hj)) rfl rfl (by decide) (by decide) rfl (Nat.le_of_ble_eq_true rfl) dX3_cell_34 (kk_I (fun r_34 u_34 h_34 => ?_))
      obtain ⟨rfl, rfl⟩ := h_34
      refine jg_top (y := faF (g.2.2.2.1 j) l) (faF_C hsc) ?_
      refine jg_istore dX3_cell_37 (by decide) rfl ?_
      refine jg_iload dX3_cell_39 rfl ?_
      refine jg_if_ne 56 dX3_cell_41 (by decide) (fun h_41 => ?_) (fun h_41 => ?_)
      · have e9 : fCell g (nI j) i l = (-9223372036854775808, wFt g (faF (g.2.2.2.1 j) l)) := by unfold fCell shk; rw [if_pos hc9, cl_nI (show j < 2 ^ 31 by omega), if_neg h_41]
        refine jg_iload dX3_cell_56 rfl ?_
        refine jg_if_eq 71 dX3_cell_58 (by decide) (fun h_58 => absurd h_58 (h_41)) (fun h_58 => ?_)
        refine jg_aload_n dX3_cell_61 rfl rfl ?_
        refine jg_iload dX3_cell_62 rfl ?_
        refine jg_puti fp_X3_45 sh_0 rfl dX3_cell_64 ?_
        refine jg_ldc2 kl_X3_207 dX3_cell_67 ?_
        exact jg_lret dX3_cell_70 ⟨_, rfl, ⟨by rw [e9], by rw [e9, s2_s2]; exact hI.ft _, (CF.rf.put (by omega)).put (by omega)⟩⟩
      · refine jg_aload dX3_cell_44 rfl ?_
        refine jg_iload_n dX3_cell_46 rfl rfl ?_
        refine jg_callV (c2_hasCell E (sh_ok hj) (s2 u 0 9 0) i) me_X2_hasCell ml_X3_226 (pg_0 (sh_ok hj)) rfl rfl (by decide) (by decide) rfl (Nat.le_of_ble_eq_true rfl) dX3_cell_47 (kk_I (fun r_47 u_47 h_47 => ?_))
        obtain ⟨rfl, rfl⟩ := h_47
        refine jg_top (y := bI (inN i (nI (g.2.2.2.1 j).2.2.1))) (congrArg (fun z => bI (inN i z)) hsc.2.2.1) ?_
        refine jb_if_ne 56 dX3_cell_50 (by decide) (fun h_50 => ?_) (fun h_50 => ?_)
        · obtain ⟨w, hw, rfl⟩ := inN_nat (by omega) h_50
          refine jg_iload dX3_cell_56 rfl ?_
          refine jg_if_eq 71 dX3_cell_58 (by decide) (fun h_58 => ?_) (fun h_58 => absurd h_58 (fun z => z h_41))
          refine jg_aload dX3_cell_71 rfl ?_
          refine jg_getr fk_X3_67 (pg_0 (sh_ok hj)) rfl dX3_cell_73 ?_
          refine jg_iload_n dX3_cell_76 rfl rfl ?_
          refine jg_ld w (pg_1 (sh_ok hj)) (by omega) (rfl) dX3_cell_77 ?_
          refine jg_top (y := (g.2.2.2.1 j).2.2.2 w) (hsc.2.2.2 w (by omega)) ?_
          refine jg_i2l dX3_cell_78 rfl ?_
          have e9 : fCell g (nI j) (nI w) l = (((g.2.2.2.1 j).2.2.2 w).toInt64, wFt g 0) := by unfold fCell shk; rw [if_pos hc9, cl_nI (show j < 2 ^ 31 by omega), if_pos h_41, if_pos h_50, cl_nI (show w < 2 ^ 31 by omega)]
          exact jg_lret dX3_cell_79 ⟨_, rfl, ⟨by rw [e9], by rw [e9]; exact hI.ft 0, CF.rf.put (by omega)⟩⟩
        · have e9 : fCell g (nI j) i l = (-9223372036854775808, wFt g 3) := by unfold fCell shk; rw [if_pos hc9, cl_nI (show j < 2 ^ 31 by omega), if_pos h_41, if_neg (by rw [h_50]; decide)]
          refine jg_iconst (v := 3) dX3_cell_53 (by decide) ?_
          refine jg_istore dX3_cell_54 (by decide) rfl ?_
          refine jg_iload dX3_cell_56 rfl ?_
          refine jg_if_eq 71 dX3_cell_58 (by decide) (fun h_58 => absurd h_58 (by decide)) (fun h_58 => ?_)
          refine jg_aload_n dX3_cell_61 rfl rfl ?_
          refine jg_iload dX3_cell_62 rfl ?_
          refine jg_puti fp_X3_45 sh_0 rfl dX3_cell_64 ?_
          refine jg_ldc2 kl_X3_207 dX3_cell_67 ?_
          exact jg_lret dX3_cell_70 ⟨_, rfl, ⟨by rw [e9], by rw [e9, s2_s2]; exact hI.ft _, (CF.rf.put (by omega)).put (by omega)⟩⟩
    · have e9 : fCell g (nI j) i l = (-9223372036854775808, wFt g 0) := by unfold fCell; rw [if_neg (fun z => by rw [h_16] at z; exact absurd z.2 (by decide))]
      refine jg_ldc2 kl_X3_207 dX3_cell_19 ?_
      exact jg_lret dX3_cell_22 ⟨_, rfl, ⟨by rw [e9], by rw [e9]; exact hI.ft 0, CF.rf.put (by omega)⟩⟩
set_option maxHeartbeats 4000000 in
set_option maxRecDepth 20000 in
theorem d4_cell (E : gT) (u : Mm) (g : Gh) (hO : Ok g) (hI : InvM u g) (k i l : Int32) : Con E yX4_cell cX4_cell 4 (some .long) 2 [.ref (E.2.1 57), .int k, .int i, .int l] u (kL (fun r u2 => r = (fCell g k i l).1 ∧ InvM u2 (fCell g k i l).2 ∧ RF u u2)) := by
  refine Con.of (lv := [some (.ref (E.2.1 57)), some (.int k), some (.int i), some (.int l)]) (by decide +kernel) (Nat.le_of_ble_eq_true rfl) rfl ?_
  refine jg_aload_n dX4_cell_0 rfl rfl ?_
  refine jg_iconst (v := 0) dX4_cell_1 (by decide) ?_
  refine jg_puti fp_X4_76 sh_57 rfl dX4_cell_2 ?_
  refine jg_iload_n dX4_cell_5 rfl rfl ?_
  refine jg_callS (c4_isSheet E (s2 u 57 0 0) k) me_X4_isSheet ml_X4_92 rfl (by decide) (by decide) rfl (Nat.le_of_ble_eq_true rfl) dX4_cell_6 (kk_I (fun r_6 u_6 h_6 => ?_))
  obtain ⟨rfl, rfl⟩ := h_6
  refine jb_if_eq 19 dX4_cell_9 (by decide) (fun h_9 => ?_) (fun h_9 => ?_)
  · have e9 : fCell g k i l = (-9223372036854775808, wFt g 0) := by unfold fCell; rw [if_neg (fun z => by rw [h_9] at z; exact absurd z.1 (by decide))]
    refine jg_ldc2 kl_X4_80 dX4_cell_19 ?_
    exact jg_lret dX4_cell_22 ⟨_, rfl, ⟨by rw [e9], by rw [e9]; exact hI.ft 0, RF.rf.put (by omega)⟩⟩
  · obtain ⟨j, hj, rfl⟩ := in4 h_9
    have hz := shM_z hI hj 0
    have h60 := (hO.2.2.1 j hj).2
    refine jg_iload_n dX4_cell_12 rfl rfl ?_
    refine jg_callS (c4_isSort E (s2 u 57 0 0) l) me_X4_isSort ml_X4_96 rfl (by decide) (by decide) rfl (Nat.le_of_ble_eq_true rfl) dX4_cell_13 (kk_I (fun r_13 u_13 h_13 => ?_))
    obtain ⟨rfl, rfl⟩ := h_13
    refine jb_if_ne 23 dX4_cell_16 (by decide) (fun h_16 => ?_) (fun h_16 => ?_)
    · have hc9 : inN (nI j) 4 = true ∧ inR l 0 2 = true := ⟨h_9, h_16⟩
      refine jg_aload_n dX4_cell_23 rfl rfl ?_
      refine jg_getr fk_X4_9 sh_57 rfl dX4_cell_24 ?_
      refine jg_iload_n dX4_cell_27 rfl rfl ?_
      refine jg_ld j sh_58 (by omega) (rfl) dX4_cell_28 ?_
      refine jg_bipush (v := -9) dX4_cell_29 (by decide) ?_
      refine jg_icmp_eq 50 dX4_cell_31 (by decide) (fun h_31 => ?_) (fun h_31 => ?_)
      · have ht : (g.2.2.2.1 j).1 = false := by cases h9 : (g.2.2.2.1 j).1; rfl; exact absurd ((hz.v h9).symm.trans h_31) (inR_9 (hO.2.2.1 j hj).1)
        refine jg_aload_n dX4_cell_50 rfl rfl ?_
        refine jg_getr fk_X4_9 sh_57 rfl dX4_cell_51 ?_
        refine jg_iload_n dX4_cell_54 rfl rfl ?_
        refine jg_ld j sh_58 (by omega) (rfl) dX4_cell_55 ?_
        refine jg_bipush (v := -9) dX4_cell_56 (by decide) ?_
        refine jg_icmp_ne 67 dX4_cell_58 (by decide) (fun h_58 => ?_) (fun h_58 => ?_)
        · have ht2 : (g.2.2.2.1 j).1 = true := by cases h9 : (g.2.2.2.1 j).1; exact absurd (hz.n h9) h_58; rfl
          have hfa : faF (g.2.2.2.1 j) l = 0 := by first | exact hfa | (exfalso; rw [ht] at ht2; exact absurd ht2 (by decide))
          refine jg_iload_n dX4_cell_67 rfl rfl ?_
          refine jg_iconst (v := 0) dX4_cell_68 (by decide) ?_
          refine jg_aload_n dX4_cell_69 rfl rfl ?_
          refine jg_getr fk_X4_13 sh_57 rfl dX4_cell_70 ?_
          refine jg_iload_n dX4_cell_73 rfl rfl ?_
          refine jg_ld j sh_59 (by omega) (rfl) dX4_cell_74 ?_
          refine jg_top (y := nI ((g.2.2.2.1 j).2.2.1)) (hz.2.1) ?_
          refine jg_iconst (v := 1) dX4_cell_75 (by decide) ?_
          refine jg_isubE (z := nI (g.2.2.2.1 j).2.2.1 - 1) dX4_cell_76 (rfl) ?_
          refine jg_callS (c4_within E (s2 u 57 0 0) i 0 (nI (g.2.2.2.1 j).2.2.1 - 1)) me_X4_within ml_X4_82 rfl (by decide) (by decide) rfl (Nat.le_of_ble_eq_true rfl) dX4_cell_77 (kk_I (fun r_77 u_77 h_77 => ?_))
          obtain ⟨rfl, rfl⟩ := h_77
          refine jg_top (y := bI (inN i (nI (g.2.2.2.1 j).2.2.1))) (congrArg bI (inN_inR h60)) ?_
          refine jb_if_ne 89 dX4_cell_80 (by decide) (fun h_80 => ?_) (fun h_80 => ?_)
          · obtain ⟨w, hw, rfl⟩ := inN_nat (by omega) h_80
            refine jg_aload_n dX4_cell_89 rfl rfl ?_
            refine jg_getr fk_X4_16 sh_57 rfl dX4_cell_90 ?_
            refine jg_bipush (v := 60) dX4_cell_93 (by decide) ?_
            refine jg_iload_n dX4_cell_95 rfl rfl ?_
            refine jg_imulE (z := nI (60 * j)) dX4_cell_96 (pk_mul 60 j) ?_
            refine jg_iload_n dX4_cell_97 rfl rfl ?_
            refine jg_iaddE (z := nI ((60 * j) + w)) dX4_cell_98 (nI_add (60 * j) w) ?_
            refine jg_ld ((60 * j) + w) sh_60 (by omega) (rfl) dX4_cell_99 ?_
            refine jg_top (y := (g.2.2.2.1 j).2.2.2 w) (hz.2.2 w (by omega)) ?_
            refine jg_i2l dX4_cell_100 rfl ?_
            have e9 : fCell g (nI j) (nI w) l = (((g.2.2.2.1 j).2.2.2 w).toInt64, wFt g 0) := by unfold fCell shk; rw [if_pos hc9, cl_nI (show j < 2 ^ 31 by omega), if_pos hfa, if_pos h_80, cl_nI (show w < 2 ^ 31 by omega)]
            exact jg_lret dX4_cell_101 ⟨_, rfl, ⟨by rw [e9], by rw [e9]; exact hI.ft 0, RF.rf.put (by omega)⟩⟩
          · have e9 : fCell g (nI j) i l = (-9223372036854775808, wFt g 3) := by unfold fCell shk; rw [if_pos hc9, cl_nI (show j < 2 ^ 31 by omega), if_pos hfa, if_neg (by rw [h_80]; decide)]
            refine jg_aload_n dX4_cell_83 rfl rfl ?_
            refine jg_iconst (v := 3) dX4_cell_84 (by decide) ?_
            refine jg_callV (c4_lost E (s2 u 57 0 0) 3) me_X4_lost ml_X4_241 sh_57 rfl rfl (by decide) (by decide) rfl (Nat.le_of_ble_eq_true rfl) dX4_cell_85 (kk_L (fun r_85 u_85 h_85 => ?_))
            obtain ⟨rfl, rfl⟩ := h_85
            rw [s2_s2]
            exact jg_lret dX4_cell_88 ⟨_, rfl, ⟨by rw [e9], by rw [e9]; exact hI.ft _, RF.rf.put (by omega)⟩⟩
        · refine jg_aload_n dX4_cell_61 rfl rfl ?_
          refine jg_iconst (v := 1) dX4_cell_62 (by decide) ?_
          refine jg_callV (c4_lost E (s2 u 57 0 0) 1) me_X4_lost ml_X4_241 sh_57 rfl rfl (by decide) (by decide) rfl (Nat.le_of_ble_eq_true rfl) dX4_cell_63 (kk_L (fun r_63 u_63 h_63 => ?_))
          obtain ⟨rfl, rfl⟩ := h_63
          rw [s2_s2]
          have e9 : fCell g (nI j) i l = (-9223372036854775808, wFt g 1) := by unfold fCell shk; rw [if_pos hc9, cl_nI (show j < 2 ^ 31 by omega), show faF (g.2.2.2.1 j) l = 1 by unfold faF; rw [if_neg (by first | (rw [ht]; decide) | (intro z9; exact inR_9 (hO.2.2.1 j hj).1 ((hz.v z9).symm.trans h_58)))], if_neg (by decide)]
          exact jg_lret dX4_cell_66 ⟨_, rfl, ⟨by rw [e9], by rw [e9]; exact hI.ft _, RF.rf.put (by omega)⟩⟩
      · have ht : (g.2.2.2.1 j).1 = true := by cases h9 : (g.2.2.2.1 j).1; exact absurd (hz.n h9) h_31; rfl
        have hl := hz.v ht
        refine jg_aload_n dX4_cell_34 rfl rfl ?_
        refine jg_getr fk_X4_9 sh_57 rfl dX4_cell_35 ?_
        refine jg_iload_n dX4_cell_38 rfl rfl ?_
        refine jg_ld j sh_58 (by omega) (rfl) dX4_cell_39 ?_
        refine jg_top (y := (g.2.2.2.1 j).2.1) (hl) ?_
        refine jg_iload_n dX4_cell_40 rfl rfl ?_
        refine jg_icmp_eq 50 dX4_cell_41 (by decide) (fun h_41 => ?_) (fun h_41 => ?_)
        · have hfa : faF (g.2.2.2.1 j) l = 0 := by unfold faF; rw [if_pos ht, if_pos h_41]
          refine jg_aload_n dX4_cell_50 rfl rfl ?_
          refine jg_getr fk_X4_9 sh_57 rfl dX4_cell_51 ?_
          refine jg_iload_n dX4_cell_54 rfl rfl ?_
          refine jg_ld j sh_58 (by omega) (rfl) dX4_cell_55 ?_
          refine jg_bipush (v := -9) dX4_cell_56 (by decide) ?_
          refine jg_icmp_ne 67 dX4_cell_58 (by decide) (fun h_58 => ?_) (fun h_58 => ?_)
          · have ht2 : (g.2.2.2.1 j).1 = true := by cases h9 : (g.2.2.2.1 j).1; exact absurd (hz.n h9) h_58; rfl
            have hfa : faF (g.2.2.2.1 j) l = 0 := by first | exact hfa | (exfalso; rw [ht] at ht2; exact absurd ht2 (by decide))
            refine jg_iload_n dX4_cell_67 rfl rfl ?_
            refine jg_iconst (v := 0) dX4_cell_68 (by decide) ?_
            refine jg_aload_n dX4_cell_69 rfl rfl ?_
            refine jg_getr fk_X4_13 sh_57 rfl dX4_cell_70 ?_
            refine jg_iload_n dX4_cell_73 rfl rfl ?_
            refine jg_ld j sh_59 (by omega) (rfl) dX4_cell_74 ?_
            refine jg_top (y := nI ((g.2.2.2.1 j).2.2.1)) (hz.2.1) ?_
            refine jg_iconst (v := 1) dX4_cell_75 (by decide) ?_
            refine jg_isubE (z := nI (g.2.2.2.1 j).2.2.1 - 1) dX4_cell_76 (rfl) ?_
            refine jg_callS (c4_within E (s2 u 57 0 0) i 0 (nI (g.2.2.2.1 j).2.2.1 - 1)) me_X4_within ml_X4_82 rfl (by decide) (by decide) rfl (Nat.le_of_ble_eq_true rfl) dX4_cell_77 (kk_I (fun r_77 u_77 h_77 => ?_))
            obtain ⟨rfl, rfl⟩ := h_77
            refine jg_top (y := bI (inN i (nI (g.2.2.2.1 j).2.2.1))) (congrArg bI (inN_inR h60)) ?_
            refine jb_if_ne 89 dX4_cell_80 (by decide) (fun h_80 => ?_) (fun h_80 => ?_)
            · obtain ⟨w, hw, rfl⟩ := inN_nat (by omega) h_80
              refine jg_aload_n dX4_cell_89 rfl rfl ?_
              refine jg_getr fk_X4_16 sh_57 rfl dX4_cell_90 ?_
              refine jg_bipush (v := 60) dX4_cell_93 (by decide) ?_
              refine jg_iload_n dX4_cell_95 rfl rfl ?_
              refine jg_imulE (z := nI (60 * j)) dX4_cell_96 (pk_mul 60 j) ?_
              refine jg_iload_n dX4_cell_97 rfl rfl ?_
              refine jg_iaddE (z := nI ((60 * j) + w)) dX4_cell_98 (nI_add (60 * j) w) ?_
              refine jg_ld ((60 * j) + w) sh_60 (by omega) (rfl) dX4_cell_99 ?_
              refine jg_top (y := (g.2.2.2.1 j).2.2.2 w) (hz.2.2 w (by omega)) ?_
              refine jg_i2l dX4_cell_100 rfl ?_
              have e9 : fCell g (nI j) (nI w) l = (((g.2.2.2.1 j).2.2.2 w).toInt64, wFt g 0) := by unfold fCell shk; rw [if_pos hc9, cl_nI (show j < 2 ^ 31 by omega), if_pos hfa, if_pos h_80, cl_nI (show w < 2 ^ 31 by omega)]
              exact jg_lret dX4_cell_101 ⟨_, rfl, ⟨by rw [e9], by rw [e9]; exact hI.ft 0, RF.rf.put (by omega)⟩⟩
            · have e9 : fCell g (nI j) i l = (-9223372036854775808, wFt g 3) := by unfold fCell shk; rw [if_pos hc9, cl_nI (show j < 2 ^ 31 by omega), if_pos hfa, if_neg (by rw [h_80]; decide)]
              refine jg_aload_n dX4_cell_83 rfl rfl ?_
              refine jg_iconst (v := 3) dX4_cell_84 (by decide) ?_
              refine jg_callV (c4_lost E (s2 u 57 0 0) 3) me_X4_lost ml_X4_241 sh_57 rfl rfl (by decide) (by decide) rfl (Nat.le_of_ble_eq_true rfl) dX4_cell_85 (kk_L (fun r_85 u_85 h_85 => ?_))
              obtain ⟨rfl, rfl⟩ := h_85
              rw [s2_s2]
              exact jg_lret dX4_cell_88 ⟨_, rfl, ⟨by rw [e9], by rw [e9]; exact hI.ft _, RF.rf.put (by omega)⟩⟩
          · refine jg_aload_n dX4_cell_61 rfl rfl ?_
            refine jg_iconst (v := 1) dX4_cell_62 (by decide) ?_
            refine jg_callV (c4_lost E (s2 u 57 0 0) 1) me_X4_lost ml_X4_241 sh_57 rfl rfl (by decide) (by decide) rfl (Nat.le_of_ble_eq_true rfl) dX4_cell_63 (kk_L (fun r_63 u_63 h_63 => ?_))
            obtain ⟨rfl, rfl⟩ := h_63
            rw [s2_s2]
            have e9 : fCell g (nI j) i l = (-9223372036854775808, wFt g 1) := by unfold fCell shk; rw [if_pos hc9, cl_nI (show j < 2 ^ 31 by omega), show faF (g.2.2.2.1 j) l = 1 by unfold faF; rw [if_neg (by first | (rw [ht]; decide) | (intro z9; exact inR_9 (hO.2.2.1 j hj).1 ((hz.v z9).symm.trans h_58)))], if_neg (by decide)]
            exact jg_lret dX4_cell_66 ⟨_, rfl, ⟨by rw [e9], by rw [e9]; exact hI.ft _, RF.rf.put (by omega)⟩⟩
        · have e9 : fCell g (nI j) i l = (-9223372036854775808, wFt g 2) := by unfold fCell shk; rw [if_pos hc9, cl_nI (show j < 2 ^ 31 by omega), show faF (g.2.2.2.1 j) l = 2 by unfold faF; rw [if_pos ht, if_neg h_41], if_neg (by decide)]
          refine jg_aload_n dX4_cell_44 rfl rfl ?_
          refine jg_iconst (v := 2) dX4_cell_45 (by decide) ?_
          refine jg_callV (c4_lost E (s2 u 57 0 0) 2) me_X4_lost ml_X4_241 sh_57 rfl rfl (by decide) (by decide) rfl (Nat.le_of_ble_eq_true rfl) dX4_cell_46 (kk_L (fun r_46 u_46 h_46 => ?_))
          obtain ⟨rfl, rfl⟩ := h_46
          rw [s2_s2]
          exact jg_lret dX4_cell_49 ⟨_, rfl, ⟨by rw [e9], by rw [e9]; exact hI.ft _, RF.rf.put (by omega)⟩⟩
    · have e9 : fCell g (nI j) i l = (-9223372036854775808, wFt g 0) := by unfold fCell; rw [if_neg (fun z => by rw [h_16] at z; exact absurd z.2 (by decide))]
      refine jg_ldc2 kl_X4_80 dX4_cell_19 ?_
      exact jg_lret dX4_cell_22 ⟨_, rfl, ⟨by rw [e9], by rw [e9]; exact hI.ft 0, RF.rf.put (by omega)⟩⟩
set_option maxHeartbeats 4000000 in
set_option maxRecDepth 20000 in
theorem c3_faultOfRow (E : gT) {b : Nat} (hb : isSh b) (u : Mm) (s : Shd) (hs : ShC u b s) (l i n : Int32) (hn : ¬ n < 0) : Con E yX3_faultOfRow cX3_faultOfRow 5 (some .int) 1 [.ref (E.2.1 b), .int l, .int i, .int n] u (kI (fun r u2 => r = agF s l i n ∧ u = u2)) := by
  refine Con.of (lv := [some (.ref (E.2.1 b)), some (.int l), some (.int i), some (.int n), none]) (by decide +kernel) (Nat.le_of_ble_eq_true rfl) rfl ?_
  refine jg_aload_n dX3_faultOfRow_0 rfl rfl ?_
  refine jg_iload_n dX3_faultOfRow_1 rfl rfl ?_
  refine jg_callV (c2_faultAs E hb u l) me_X2_faultAs ml_X3_56 (pg_0 hb) rfl rfl (by decide) (by decide) rfl (Nat.le_of_ble_eq_true rfl) dX3_faultOfRow_2 (kk_I (fun r_2 u_2 h_2 => ?_))
  obtain ⟨rfl, rfl⟩ := h_2
  refine jg_top (y := faF s l) (faF_C hs) ?_
  refine jg_istore dX3_faultOfRow_5 (by decide) rfl ?_
  refine jg_iload dX3_faultOfRow_7 rfl ?_
  refine jg_if_eq 15 dX3_faultOfRow_9 (by decide) (fun h_9 => ?_) (fun h_9 => ?_)
  · refine jg_aload_n dX3_faultOfRow_15 rfl rfl ?_
    refine jg_iload_n dX3_faultOfRow_16 rfl rfl ?_
    refine jg_iload_n dX3_faultOfRow_17 rfl rfl ?_
    refine jg_callV (c2_hasCells E hb u i n) me_X2_hasCells ml_X3_60 (pg_0 hb) rfl rfl (by decide) (by decide) rfl (Nat.le_of_ble_eq_true rfl) dX3_faultOfRow_18 (kk_I (fun r_18 u_18 h_18 => ?_))
    obtain ⟨rfl, rfl⟩ := h_18
    refine jg_top (y := bI (hcF s.2.2.1 i n)) (by rw [hs.2.2.1]; rfl) ?_
    refine jb_if_eq 28 dX3_faultOfRow_21 (by decide) (fun h_21 => ?_) (fun h_21 => ?_)
    · refine jg_iconst (v := 3) dX3_faultOfRow_28 (by decide) ?_
      exact jg_iret (rfl) dX3_faultOfRow_29 ⟨_, rfl, ⟨by unfold agF; rw [if_pos h_9, if_neg hn]; simp [h_21], rfl⟩⟩
    · refine jg_iconst (v := 0) dX3_faultOfRow_24 (by decide) ?_
      refine jg_goto 29 dX3_faultOfRow_25 (by decide) ?_
      exact jg_iret (rfl) dX3_faultOfRow_29 ⟨_, rfl, ⟨by unfold agF; rw [if_pos h_9, if_neg hn]; simp [h_21], rfl⟩⟩
  · refine jg_iload dX3_faultOfRow_12 rfl ?_
    exact jg_iret (rfl) dX3_faultOfRow_14 ⟨_, rfl, ⟨by unfold agF; rw [if_neg h_9], rfl⟩⟩
set_option maxHeartbeats 4000000 in
set_option maxRecDepth 20000 in
theorem c4_against (E : gT) (u : Mm) (j : Nat) (hj : j < 4) (s : Shd) (hz : ShM u j s) (hl0 : inR s.2.1 0 2 = true) (l i n : Int32) : Con E yX4_against cX4_against 5 (some .int) 0 [.ref (E.2.1 57), .int (nI j), .int l, .int i, .int n] u (kI (fun r u2 => r = agF s l i n ∧ u = u2)) := by
  refine Con.of (lv := [some (.ref (E.2.1 57)), some (.int (nI j)), some (.int l), some (.int i), some (.int n)]) (by decide +kernel) (Nat.le_of_ble_eq_true rfl) rfl ?_
  refine jg_aload_n dX4_against_0 rfl rfl ?_
  refine jg_getr fk_X4_9 sh_57 rfl dX4_against_1 ?_
  refine jg_iload_n dX4_against_4 rfl rfl ?_
  refine jg_ld j sh_58 (by omega) (rfl) dX4_against_5 ?_
  refine jg_bipush (v := -9) dX4_against_6 (by decide) ?_
  refine jg_icmp_eq 23 dX4_against_8 (by decide) (fun h_8 => ?_) (fun h_8 => ?_)
  · have ht : s.1 = false := by cases h9 : s.1; rfl; exact absurd ((hz.v h9).symm.trans h_8) (inR_9 hl0)
    refine jg_aload_n dX4_against_23 rfl rfl ?_
    refine jg_getr fk_X4_9 sh_57 rfl dX4_against_24 ?_
    refine jg_iload_n dX4_against_27 rfl rfl ?_
    refine jg_ld j sh_58 (by omega) (rfl) dX4_against_28 ?_
    refine jg_bipush (v := -9) dX4_against_29 (by decide) ?_
    refine jg_icmp_ne 36 dX4_against_31 (by decide) (fun h_31 => ?_) (fun h_31 => ?_)
    · have hfa : faF s l = 0 := by first | exact hfa | (exfalso; exact h_31 (hz.n ht))
      refine jg_iload dX4_against_36 rfl ?_
      refine jg_if_ge 43 dX4_against_38 (by decide) (fun h_38 => ?_) (fun h_38 => ?_)
      · refine jg_iload_n dX4_against_43 rfl rfl ?_
        refine jg_if_lt 70 dX4_against_44 (by decide) (fun h_44 => ?_) (fun h_44 => ?_)
        · refine jg_iconst (v := 3) dX4_against_70 (by decide) ?_
          refine jg_goto 75 dX4_against_71 (by decide) ?_
          exact jg_iret (rfl) dX4_against_75 ⟨_, rfl, ⟨by unfold agF hcF; rw [if_pos hfa, if_neg (Int32.not_lt.mpr h_38)]; simp [*], rfl⟩⟩
        · refine jg_iload_n dX4_against_47 rfl rfl ?_
          refine jg_aload_n dX4_against_48 rfl rfl ?_
          refine jg_getr fk_X4_13 sh_57 rfl dX4_against_49 ?_
          refine jg_iload_n dX4_against_52 rfl rfl ?_
          refine jg_ld j sh_59 (by omega) (rfl) dX4_against_53 ?_
          refine jg_top (y := nI s.2.2.1) (hz.2.1) ?_
          refine jg_icmp_gt 70 dX4_against_54 (by decide) (fun h_54 => ?_) (fun h_54 => ?_)
          · refine jg_iconst (v := 3) dX4_against_70 (by decide) ?_
            refine jg_goto 75 dX4_against_71 (by decide) ?_
            exact jg_iret (rfl) dX4_against_75 ⟨_, rfl, ⟨by unfold agF hcF; rw [if_pos hfa, if_neg (Int32.not_lt.mpr h_38)]; simp [*], rfl⟩⟩
          · refine jg_iload dX4_against_57 rfl ?_
            refine jg_aload_n dX4_against_59 rfl rfl ?_
            refine jg_getr fk_X4_13 sh_57 rfl dX4_against_60 ?_
            refine jg_iload_n dX4_against_63 rfl rfl ?_
            refine jg_ld j sh_59 (by omega) (rfl) dX4_against_64 ?_
            refine jg_top (y := nI s.2.2.1) (hz.2.1) ?_
            refine jg_iload_n dX4_against_65 rfl rfl ?_
            refine jg_isub dX4_against_66 ?_
            refine jg_icmp_le 74 dX4_against_67 (by decide) (fun h_67 => ?_) (fun h_67 => ?_)
            · refine jg_iconst (v := 0) dX4_against_74 (by decide) ?_
              exact jg_iret (rfl) dX4_against_75 ⟨_, rfl, ⟨by unfold agF hcF; rw [if_pos hfa, if_neg (Int32.not_lt.mpr h_38)]; simp [*], rfl⟩⟩
            · refine jg_iconst (v := 3) dX4_against_70 (by decide) ?_
              refine jg_goto 75 dX4_against_71 (by decide) ?_
              exact jg_iret (rfl) dX4_against_75 ⟨_, rfl, ⟨by unfold agF hcF; rw [if_pos hfa, if_neg (Int32.not_lt.mpr h_38)]; simp [*], rfl⟩⟩
      · refine jg_iconst (v := 4) dX4_against_41 (by decide) ?_
        exact jg_iret (rfl) dX4_against_42 ⟨_, rfl, ⟨by unfold agF; rw [if_pos hfa, if_pos (Int32.not_le.mp h_38)], rfl⟩⟩
    · refine jg_iconst (v := 1) dX4_against_34 (by decide) ?_
      have hfa : faF s l = 1 := by unfold faF; rw [if_neg (by first | (rw [ht]; decide) | (intro z9; exact inR_9 hl0 ((hz.v z9).symm.trans h_31)))]
      exact jg_iret (rfl) dX4_against_35 ⟨_, rfl, ⟨by unfold agF; rw [hfa, if_neg (by decide)], rfl⟩⟩
  · have ht : s.1 = true := by cases h9 : s.1; exact absurd (hz.n h9) h_8; rfl
    have hl := hz.v ht
    refine jg_aload_n dX4_against_11 rfl rfl ?_
    refine jg_getr fk_X4_9 sh_57 rfl dX4_against_12 ?_
    refine jg_iload_n dX4_against_15 rfl rfl ?_
    refine jg_ld j sh_58 (by omega) (rfl) dX4_against_16 ?_
    refine jg_top (y := s.2.1) (hl) ?_
    refine jg_iload_n dX4_against_17 rfl rfl ?_
    refine jg_icmp_eq 23 dX4_against_18 (by decide) (fun h_18 => ?_) (fun h_18 => ?_)
    · have hfa : faF s l = 0 := by unfold faF; rw [if_pos ht, if_pos h_18]
      refine jg_aload_n dX4_against_23 rfl rfl ?_
      refine jg_getr fk_X4_9 sh_57 rfl dX4_against_24 ?_
      refine jg_iload_n dX4_against_27 rfl rfl ?_
      refine jg_ld j sh_58 (by omega) (rfl) dX4_against_28 ?_
      refine jg_bipush (v := -9) dX4_against_29 (by decide) ?_
      refine jg_icmp_ne 36 dX4_against_31 (by decide) (fun h_31 => ?_) (fun h_31 => ?_)
      · have hfa : faF s l = 0 := by first | exact hfa | (exfalso; exact h_31 (hz.n ht))
        refine jg_iload dX4_against_36 rfl ?_
        refine jg_if_ge 43 dX4_against_38 (by decide) (fun h_38 => ?_) (fun h_38 => ?_)
        · refine jg_iload_n dX4_against_43 rfl rfl ?_
          refine jg_if_lt 70 dX4_against_44 (by decide) (fun h_44 => ?_) (fun h_44 => ?_)
          · refine jg_iconst (v := 3) dX4_against_70 (by decide) ?_
            refine jg_goto 75 dX4_against_71 (by decide) ?_
            exact jg_iret (rfl) dX4_against_75 ⟨_, rfl, ⟨by unfold agF hcF; rw [if_pos hfa, if_neg (Int32.not_lt.mpr h_38)]; simp [*], rfl⟩⟩
          · refine jg_iload_n dX4_against_47 rfl rfl ?_
            refine jg_aload_n dX4_against_48 rfl rfl ?_
            refine jg_getr fk_X4_13 sh_57 rfl dX4_against_49 ?_
            refine jg_iload_n dX4_against_52 rfl rfl ?_
            refine jg_ld j sh_59 (by omega) (rfl) dX4_against_53 ?_
            refine jg_top (y := nI s.2.2.1) (hz.2.1) ?_
            refine jg_icmp_gt 70 dX4_against_54 (by decide) (fun h_54 => ?_) (fun h_54 => ?_)
            · refine jg_iconst (v := 3) dX4_against_70 (by decide) ?_
              refine jg_goto 75 dX4_against_71 (by decide) ?_
              exact jg_iret (rfl) dX4_against_75 ⟨_, rfl, ⟨by unfold agF hcF; rw [if_pos hfa, if_neg (Int32.not_lt.mpr h_38)]; simp [*], rfl⟩⟩
            · refine jg_iload dX4_against_57 rfl ?_
              refine jg_aload_n dX4_against_59 rfl rfl ?_
              refine jg_getr fk_X4_13 sh_57 rfl dX4_against_60 ?_
              refine jg_iload_n dX4_against_63 rfl rfl ?_
              refine jg_ld j sh_59 (by omega) (rfl) dX4_against_64 ?_
              refine jg_top (y := nI s.2.2.1) (hz.2.1) ?_
              refine jg_iload_n dX4_against_65 rfl rfl ?_
              refine jg_isub dX4_against_66 ?_
              refine jg_icmp_le 74 dX4_against_67 (by decide) (fun h_67 => ?_) (fun h_67 => ?_)
              · refine jg_iconst (v := 0) dX4_against_74 (by decide) ?_
                exact jg_iret (rfl) dX4_against_75 ⟨_, rfl, ⟨by unfold agF hcF; rw [if_pos hfa, if_neg (Int32.not_lt.mpr h_38)]; simp [*], rfl⟩⟩
              · refine jg_iconst (v := 3) dX4_against_70 (by decide) ?_
                refine jg_goto 75 dX4_against_71 (by decide) ?_
                exact jg_iret (rfl) dX4_against_75 ⟨_, rfl, ⟨by unfold agF hcF; rw [if_pos hfa, if_neg (Int32.not_lt.mpr h_38)]; simp [*], rfl⟩⟩
        · refine jg_iconst (v := 4) dX4_against_41 (by decide) ?_
          exact jg_iret (rfl) dX4_against_42 ⟨_, rfl, ⟨by unfold agF; rw [if_pos hfa, if_pos (Int32.not_le.mp h_38)], rfl⟩⟩
      · refine jg_iconst (v := 1) dX4_against_34 (by decide) ?_
        have hfa : faF s l = 1 := by unfold faF; rw [if_neg (by first | (rw [ht]; decide) | (intro z9; exact inR_9 hl0 ((hz.v z9).symm.trans h_31)))]
        exact jg_iret (rfl) dX4_against_35 ⟨_, rfl, ⟨by unfold agF; rw [hfa, if_neg (by decide)], rfl⟩⟩
    · have hfa : faF s l = 2 := by unfold faF; rw [if_pos ht, if_neg h_18]
      refine jg_iconst (v := 2) dX4_against_21 (by decide) ?_
      exact jg_iret (rfl) dX4_against_22 ⟨_, rfl, ⟨by unfold agF; rw [hfa, if_neg (by decide)], rfl⟩⟩
theorem i15 {a : Int32} : 16 ≤ a ↔ 15 < a := by
  rw [Int32.le_iff_toInt_le, Int32.lt_iff_toInt_lt]
  have h1 : ((16 : Int32)).toInt = 16 := by decide
  have h2 : ((15 : Int32)).toInt = 15 := by decide
  omega
set_option maxHeartbeats 4000000 in
set_option maxRecDepth 20000 in
theorem c3_isAskedOfDay (E : gT) (u : Mm) (a : Int32) : Con E yX3_isAskedOfDay cX3_isAskedOfDay 1 (some .boolean) 0 [.int a] u (kI (fun r u2 => r = bI (inR a 0 4 || inR a 10 15) ∧ u = u2)) := by
  refine Con.of (lv := [some (.int a)]) (by decide +kernel) (Nat.le_of_ble_eq_true rfl) rfl ?_
  refine jg_iload_n dX3_isAskedOfDay_0 rfl rfl ?_
  refine jg_if_lt 9 dX3_isAskedOfDay_1 (by decide) (fun h_1 => ?_) (fun h_1 => ?_)
  · refine jg_iload_n dX3_isAskedOfDay_9 rfl rfl ?_
    refine jg_bipush (v := 10) dX3_isAskedOfDay_10 (by decide) ?_
    refine jg_icmp_lt 25 dX3_isAskedOfDay_12 (by decide) (fun h_12 => ?_) (fun h_12 => ?_)
    · refine jg_iconst (v := 0) dX3_isAskedOfDay_25 (by decide) ?_
      exact jg_iret (rfl) dX3_isAskedOfDay_26 ⟨_, rfl, ⟨by simp [bI, inR, *], rfl⟩⟩
    · refine jg_iload_n dX3_isAskedOfDay_15 rfl rfl ?_
      refine jg_bipush (v := 16) dX3_isAskedOfDay_16 (by decide) ?_
      refine jg_icmp_ge 25 dX3_isAskedOfDay_18 (by decide) (fun h_18 => ?_) (fun h_18 => ?_)
      · have h18 := i15.mp h_18
        refine jg_iconst (v := 0) dX3_isAskedOfDay_25 (by decide) ?_
        exact jg_iret (rfl) dX3_isAskedOfDay_26 ⟨_, rfl, ⟨by simp [bI, inR, *], rfl⟩⟩
      · have h18 : ¬ 15 < a := fun z => h_18 (i15.mpr z)
        refine jg_iconst (v := 1) dX3_isAskedOfDay_21 (by decide) ?_
        refine jg_goto 26 dX3_isAskedOfDay_22 (by decide) ?_
        exact jg_iret (rfl) dX3_isAskedOfDay_26 ⟨_, rfl, ⟨by simp [bI, inR, *], rfl⟩⟩
  · refine jg_iload_n dX3_isAskedOfDay_4 rfl rfl ?_
    refine jg_iconst (v := 4) dX3_isAskedOfDay_5 (by decide) ?_
    refine jg_icmp_le 21 dX3_isAskedOfDay_6 (by decide) (fun h_6 => ?_) (fun h_6 => ?_)
    · refine jg_iconst (v := 1) dX3_isAskedOfDay_21 (by decide) ?_
      refine jg_goto 26 dX3_isAskedOfDay_22 (by decide) ?_
      exact jg_iret (rfl) dX3_isAskedOfDay_26 ⟨_, rfl, ⟨by simp [bI, inR, *], rfl⟩⟩
    · refine jg_iload_n dX3_isAskedOfDay_9 rfl rfl ?_
      refine jg_bipush (v := 10) dX3_isAskedOfDay_10 (by decide) ?_
      refine jg_icmp_lt 25 dX3_isAskedOfDay_12 (by decide) (fun h_12 => ?_) (fun h_12 => ?_)
      · refine jg_iconst (v := 0) dX3_isAskedOfDay_25 (by decide) ?_
        exact jg_iret (rfl) dX3_isAskedOfDay_26 ⟨_, rfl, ⟨by simp [bI, inR, *], rfl⟩⟩
      · refine jg_iload_n dX3_isAskedOfDay_15 rfl rfl ?_
        refine jg_bipush (v := 16) dX3_isAskedOfDay_16 (by decide) ?_
        refine jg_icmp_ge 25 dX3_isAskedOfDay_18 (by decide) (fun h_18 => ?_) (fun h_18 => ?_)
        · have h18 := i15.mp h_18
          refine jg_iconst (v := 0) dX3_isAskedOfDay_25 (by decide) ?_
          exact jg_iret (rfl) dX3_isAskedOfDay_26 ⟨_, rfl, ⟨by simp [bI, inR, *], rfl⟩⟩
        · have h18 : ¬ 15 < a := fun z => h_18 (i15.mpr z)
          refine jg_iconst (v := 1) dX3_isAskedOfDay_21 (by decide) ?_
          refine jg_goto 26 dX3_isAskedOfDay_22 (by decide) ?_
          exact jg_iret (rfl) dX3_isAskedOfDay_26 ⟨_, rfl, ⟨by simp [bI, inR, *], rfl⟩⟩
