set_option maxHeartbeats 4000000 in
set_option maxRecDepth 20000 in
theorem d3_copy (E : gT) (u : Mm) (g : Gh) (hO : Ok g) (hI : InvC u g) (k i o j n : Int32) : Con E yX3_copy cX3_copy 8 (some .int) 1 [.ref (E.2.1 0), .int k, .int i, .int o, .int j, .int n] u (kI (fun r u2 => r = (fCopy g k i o j n).1 ∧ InvC u2 (fCopy g k i o j n).2 ∧ CF u u2)) := by
  refine Con.of (lv := [some (.ref (E.2.1 0)), some (.int k), some (.int i), some (.int o), some (.int j), some (.int n), none, none]) (by decide +kernel) (Nat.le_of_ble_eq_true rfl) rfl ?_
  refine jg_aload_n dX3_copy_0 rfl rfl ?_
  refine jg_iconst (v := 0) dX3_copy_1 (by decide) ?_
  refine jg_puti fp_X3_45 sh_0 rfl dX3_copy_2 ?_
  refine jg_iload_n dX3_copy_5 rfl rfl ?_
  refine jg_callS (c3_isSheet E (s2 u 0 9 0) k) me_X3_isSheet ml_X3_49 rfl (by decide) (by decide) rfl (Nat.le_of_ble_eq_true rfl) dX3_copy_6 (kk_I (fun r_6 u_6 h_6 => ?_))
  obtain ⟨rfl, rfl⟩ := h_6
  refine jb_if_eq 19 dX3_copy_9 (by decide) (fun h_9 => ?_) (fun h_9 => ?_)
  · have e9 : fCopy g k i o j n = (-1, wFt g 0) := by unfold fCopy; rw [if_neg (fun z => by rw [h_9] at z; exact absurd z.1 (by decide))]
    refine jg_iconst (v := -1) dX3_copy_19 (by decide) ?_
    exact jg_iret (rfl) dX3_copy_20 ⟨_, rfl, ⟨by rw [e9], by rw [e9]; exact hI.ft 0, CF.rf.put (by omega)⟩⟩
  · obtain ⟨x, hx, rfl⟩ := in4 h_9
    refine jg_iload_n dX3_copy_12 rfl rfl ?_
    refine jg_callS (c3_isSheet E (s2 u 0 9 0) o) me_X3_isSheet ml_X3_49 rfl (by decide) (by decide) rfl (Nat.le_of_ble_eq_true rfl) dX3_copy_13 (kk_I (fun r_13 u_13 h_13 => ?_))
    obtain ⟨rfl, rfl⟩ := h_13
    refine jb_if_ne 21 dX3_copy_16 (by decide) (fun h_16 => ?_) (fun h_16 => ?_)
    · obtain ⟨y, hy, rfl⟩ := in4 h_16
      have hxy : inN (nI x) 4 = true ∧ inN (nI y) 4 = true := ⟨h_9, h_16⟩
      have hsx := shC_z hI hx 0
      have hsy := shC_z hI hy 0
      have h60x := (hO.2.2.1 x hx).2
      have h60y := (hO.2.2.1 y hy).2
      refine jg_aload_n dX3_copy_21 rfl rfl ?_
      refine jg_getr fk_X3_30 sh_0 rfl dX3_copy_22 ?_
      refine jg_iload_n dX3_copy_25 rfl rfl ?_
      refine jg_aald x sh_45 (sh_at hx) (Nat.le_of_ble_eq_true rfl) (rfl) dX3_copy_26 ?_
      refine jg_astore dX3_copy_27 (by decide) rfl ?_
      refine jg_aload_n dX3_copy_29 rfl rfl ?_
      refine jg_getr fk_X3_30 sh_0 rfl dX3_copy_30 ?_
      refine jg_iload_n dX3_copy_33 rfl rfl ?_
      refine jg_aald y sh_45 (sh_at hy) (Nat.le_of_ble_eq_true rfl) (rfl) dX3_copy_34 ?_
      refine jg_astore dX3_copy_35 (by decide) rfl ?_
      refine jg_aload dX3_copy_37 rfl ?_
      refine jg_geti fk_X3_222 (pg_0 (sh_ok hx)) rfl dX3_copy_39 ?_
      refine jg_top (y := bI ((g.2.2.2.1 x).1)) (hsx.1) ?_
      refine jb_if_eq 53 dX3_copy_42 (by decide) (fun h_42 => ?_) (fun h_42 => ?_)
      · have e9 : fCopy g (nI x) i (nI y) j n = (-11, wFt g 1) := by unfold fCopy shk; rw [if_pos hxy, cl_nI (show x < 2 ^ 31 by omega), cl_nI (show y < 2 ^ 31 by omega), if_neg (fun z => by rw [h_42] at z; exact absurd z.1 (by decide))]
        refine jg_aload_n dX3_copy_53 rfl rfl ?_
        refine jg_iconst (v := 1) dX3_copy_54 (by decide) ?_
        refine jg_callV (c3_failed E (s2 u 0 9 0) 1) me_X3_failed ml_X3_64 sh_0 rfl rfl (by decide) (by decide) rfl (Nat.le_of_ble_eq_true rfl) dX3_copy_55 (kk_I (fun r_55 u_55 h_55 => ?_))
        obtain ⟨rfl, rfl⟩ := h_55
        rw [s2_s2]
        exact jg_iret (rfl) dX3_copy_58 ⟨_, rfl, ⟨by rw [e9] <;> rfl, by rw [e9]; exact hI.ft 1, CF.rf.put (by omega)⟩⟩
      · refine jg_aload dX3_copy_45 rfl ?_
        refine jg_geti fk_X3_222 (pg_0 (sh_ok hy)) rfl dX3_copy_47 ?_
        refine jg_top (y := bI ((g.2.2.2.1 y).1)) (hsy.1) ?_
        refine jb_if_ne 59 dX3_copy_50 (by decide) (fun h_50 => ?_) (fun h_50 => ?_)
        · have htt : (g.2.2.2.1 x).1 = true ∧ (g.2.2.2.1 y).1 = true := ⟨h_42, h_50⟩
          refine jg_aload dX3_copy_59 rfl ?_
          refine jg_geti fk_X3_229 (pg_0 (sh_ok hx)) rfl dX3_copy_61 ?_
          refine jg_top (y := (g.2.2.2.1 x).2.1) (hsx.2.1) ?_
          refine jg_aload dX3_copy_64 rfl ?_
          refine jg_geti fk_X3_229 (pg_0 (sh_ok hy)) rfl dX3_copy_66 ?_
          refine jg_top (y := (g.2.2.2.1 y).2.1) (hsy.2.1) ?_
          refine jg_icmp_eq 78 dX3_copy_69 (by decide) (fun h_69 => ?_) (fun h_69 => ?_)
          · have hll := h_69
            refine jg_aload dX3_copy_78 rfl ?_
            refine jg_iload_n dX3_copy_80 rfl rfl ?_
            refine jg_iload dX3_copy_81 rfl ?_
            refine jg_callV (c2_hasCells E (sh_ok hx) (s2 u 0 9 0) i n) me_X2_hasCells ml_X3_60 (pg_0 (sh_ok hx)) rfl rfl (by decide) (by decide) rfl (Nat.le_of_ble_eq_true rfl) dX3_copy_83 (kk_I (fun r_83 u_83 h_83 => ?_))
            obtain ⟨rfl, rfl⟩ := h_83
            refine jg_top (y := bI (hcF (g.2.2.2.1 x).2.2.1 i n)) (by rw [hsx.2.2.1]; rfl) ?_
            refine jb_if_eq 101 dX3_copy_86 (by decide) (fun h_86 => ?_) (fun h_86 => ?_)
            · have e9 : fCopy g (nI x) i (nI y) j n = (-13, wFt g 3) := by unfold fCopy shk; rw [if_pos hxy, cl_nI (show x < 2 ^ 31 by omega), cl_nI (show y < 2 ^ 31 by omega), if_pos htt, if_pos hll, if_neg (fun z => by rw [h_86] at z; exact absurd z.1 (by decide))]
              refine jg_aload_n dX3_copy_101 rfl rfl ?_
              refine jg_iconst (v := 3) dX3_copy_102 (by decide) ?_
              refine jg_callV (c3_failed E (s2 u 0 9 0) 3) me_X3_failed ml_X3_64 sh_0 rfl rfl (by decide) (by decide) rfl (Nat.le_of_ble_eq_true rfl) dX3_copy_103 (kk_I (fun r_103 u_103 h_103 => ?_))
              obtain ⟨rfl, rfl⟩ := h_103
              rw [s2_s2]
              exact jg_iret (rfl) dX3_copy_106 ⟨_, rfl, ⟨by rw [e9] <;> rfl, by rw [e9]; exact hI.ft 3, CF.rf.put (by omega)⟩⟩
            · have hk1 := h_86
              refine jg_aload dX3_copy_89 rfl ?_
              refine jg_iload dX3_copy_91 rfl ?_
              refine jg_iload dX3_copy_93 rfl ?_
              refine jg_callV (c2_hasCells E (sh_ok hy) (s2 u 0 9 0) j n) me_X2_hasCells ml_X3_60 (pg_0 (sh_ok hy)) rfl rfl (by decide) (by decide) rfl (Nat.le_of_ble_eq_true rfl) dX3_copy_95 (kk_I (fun r_95 u_95 h_95 => ?_))
              obtain ⟨rfl, rfl⟩ := h_95
              refine jg_top (y := bI (hcF (g.2.2.2.1 y).2.2.1 j n)) (by rw [hsy.2.2.1]; rfl) ?_
              refine jb_if_ne 107 dX3_copy_98 (by decide) (fun h_98 => ?_) (fun h_98 => ?_)
              · have hk2 := h_98
                have hc9 : hcF (g.2.2.2.1 x).2.2.1 i n = true ∧ hcF (g.2.2.2.1 y).2.2.1 j n = true := ⟨hk1, hk2⟩
                obtain ⟨a, b, hab, rfl, rfl⟩ := hc_nat h60x hk1
                obtain ⟨c, hcb, rfl⟩ := hc_n h60y (by omega) hk2
                have e9 : fCopy g (nI x) (nI a) (nI y) (nI c) (nI b) = (nI b, wSh (wFt g 0) (upS g.2.2.2.1 y (true, (g.2.2.2.1 y).2.1, (g.2.2.2.1 y).2.2.1, va_cpy (g.2.2.2.1 x).2.2.2 (g.2.2.2.1 y).2.2.2 a c b))) := by unfold fCopy shk; rw [if_pos hxy, cl_nI (show x < 2 ^ 31 by omega), cl_nI (show y < 2 ^ 31 by omega), if_pos htt, if_pos hll, if_pos hc9, cl_nI (show a < 2 ^ 31 by omega), cl_nI (show b < 2 ^ 31 by omega), cl_nI (show c < 2 ^ 31 by omega)]
                refine jg_aload dX3_copy_107 rfl ?_
                refine jg_getr fk_X3_67 (pg_0 (sh_ok hx)) rfl dX3_copy_109 ?_
                refine jg_iload_n dX3_copy_112 rfl rfl ?_
                refine jg_aload dX3_copy_113 rfl ?_
                refine jg_getr fk_X3_67 (pg_0 (sh_ok hy)) rfl dX3_copy_115 ?_
                refine jg_iload dX3_copy_118 rfl ?_
                refine jg_iload dX3_copy_120 rfl ?_
                refine jg_copy a c b cp_X3_235 (pg_1 (sh_ok hx)) (pg_1 (sh_ok hy)) (rfl) (rfl) (rfl) (by omega) (by omega) (by decide) (Nat.le_of_ble_eq_true rfl) dX3_copy_122 ?_
                refine jg_iload dX3_copy_125 rfl ?_
                exact jg_iret (rfl) dX3_copy_127 ⟨_, rfl, ⟨by rw [e9], by rw [e9]; exact (hI.ft 0).sh hy (fun r h1 h2 => sR_row h2) ⟨by rw [sR_row (by omega), hsy.1, htt.2], by rw [sR_row (by omega)]; exact hsy.2.1, by rw [sR_row (by omega)]; exact hsy.2.2.1, fun q hq => by rw [sR_at]; by_cases e : c ≤ q ∧ q < c + b; (rw [pk_cpy_in e.1 e.2, hsx.2.2.2 _ (by omega)]; exact (pk_cpy_in e.1 e.2).symm); (rw [pk_cpy_out (by omega), hsy.2.2.2 q hq]; exact (pk_cpy_out (by omega)).symm)⟩, fun r hr => by rw [sR_row (by omega), s2_row (by omega)]⟩⟩
              · have e9 : fCopy g (nI x) i (nI y) j n = (-13, wFt g 3) := by unfold fCopy shk; rw [if_pos hxy, cl_nI (show x < 2 ^ 31 by omega), cl_nI (show y < 2 ^ 31 by omega), if_pos htt, if_pos hll, if_neg (fun z => by rw [h_98] at z; exact absurd z.2 (by decide))]
                refine jg_aload_n dX3_copy_101 rfl rfl ?_
                refine jg_iconst (v := 3) dX3_copy_102 (by decide) ?_
                refine jg_callV (c3_failed E (s2 u 0 9 0) 3) me_X3_failed ml_X3_64 sh_0 rfl rfl (by decide) (by decide) rfl (Nat.le_of_ble_eq_true rfl) dX3_copy_103 (kk_I (fun r_103 u_103 h_103 => ?_))
                obtain ⟨rfl, rfl⟩ := h_103
                rw [s2_s2]
                exact jg_iret (rfl) dX3_copy_106 ⟨_, rfl, ⟨by rw [e9] <;> rfl, by rw [e9]; exact hI.ft 3, CF.rf.put (by omega)⟩⟩
          · have e9 : fCopy g (nI x) i (nI y) j n = (-12, wFt g 2) := by unfold fCopy shk; rw [if_pos hxy, cl_nI (show x < 2 ^ 31 by omega), cl_nI (show y < 2 ^ 31 by omega), if_pos htt, if_neg h_69]
            refine jg_aload_n dX3_copy_72 rfl rfl ?_
            refine jg_iconst (v := 2) dX3_copy_73 (by decide) ?_
            refine jg_callV (c3_failed E (s2 u 0 9 0) 2) me_X3_failed ml_X3_64 sh_0 rfl rfl (by decide) (by decide) rfl (Nat.le_of_ble_eq_true rfl) dX3_copy_74 (kk_I (fun r_74 u_74 h_74 => ?_))
            obtain ⟨rfl, rfl⟩ := h_74
            rw [s2_s2]
            exact jg_iret (rfl) dX3_copy_77 ⟨_, rfl, ⟨by rw [e9] <;> rfl, by rw [e9]; exact hI.ft 2, CF.rf.put (by omega)⟩⟩
        · have e9 : fCopy g (nI x) i (nI y) j n = (-11, wFt g 1) := by unfold fCopy shk; rw [if_pos hxy, cl_nI (show x < 2 ^ 31 by omega), cl_nI (show y < 2 ^ 31 by omega), if_neg (fun z => by rw [h_50] at z; exact absurd z.2 (by decide))]
          refine jg_aload_n dX3_copy_53 rfl rfl ?_
          refine jg_iconst (v := 1) dX3_copy_54 (by decide) ?_
          refine jg_callV (c3_failed E (s2 u 0 9 0) 1) me_X3_failed ml_X3_64 sh_0 rfl rfl (by decide) (by decide) rfl (Nat.le_of_ble_eq_true rfl) dX3_copy_55 (kk_I (fun r_55 u_55 h_55 => ?_))
          obtain ⟨rfl, rfl⟩ := h_55
          rw [s2_s2]
          exact jg_iret (rfl) dX3_copy_58 ⟨_, rfl, ⟨by rw [e9] <;> rfl, by rw [e9]; exact hI.ft 1, CF.rf.put (by omega)⟩⟩
    · have e9 : fCopy g (nI x) i o j n = (-1, wFt g 0) := by unfold fCopy; rw [if_neg (fun z => by rw [h_16] at z; exact absurd z.2 (by decide))]
      refine jg_iconst (v := -1) dX3_copy_19 (by decide) ?_
      exact jg_iret (rfl) dX3_copy_20 ⟨_, rfl, ⟨by rw [e9], by rw [e9]; exact hI.ft 0, CF.rf.put (by omega)⟩⟩
set_option maxHeartbeats 4000000 in
set_option maxRecDepth 20000 in
theorem d4_copy (E : gT) (u : Mm) (g : Gh) (hO : Ok g) (hI : InvM u g) (k i o j n : Int32) : Con E yX4_copy cX4_copy 10 (some .int) 2 [.ref (E.2.1 57), .int k, .int i, .int o, .int j, .int n] u (kI (fun r u2 => r = (fCopy g k i o j n).1 ∧ InvM u2 (fCopy g k i o j n).2 ∧ RF u u2)) := by
  refine Con.of (lv := [some (.ref (E.2.1 57)), some (.int k), some (.int i), some (.int o), some (.int j), some (.int n), none, none, none, none]) (by decide +kernel) (Nat.le_of_ble_eq_true rfl) rfl ?_
  refine jg_aload_n dX4_copy_0 rfl rfl ?_
  refine jg_iconst (v := 0) dX4_copy_1 (by decide) ?_
  refine jg_puti fp_X4_76 sh_57 rfl dX4_copy_2 ?_
  refine jg_iload_n dX4_copy_5 rfl rfl ?_
  refine jg_callS (c4_isSheet E (s2 u 57 0 0) k) me_X4_isSheet ml_X4_92 rfl (by decide) (by decide) rfl (Nat.le_of_ble_eq_true rfl) dX4_copy_6 (kk_I (fun r_6 u_6 h_6 => ?_))
  obtain ⟨rfl, rfl⟩ := h_6
  refine jb_if_eq 19 dX4_copy_9 (by decide) (fun h_9 => ?_) (fun h_9 => ?_)
  · have e9 : fCopy g k i o j n = (-1, wFt g 0) := by unfold fCopy; rw [if_neg (fun z => by rw [h_9] at z; exact absurd z.1 (by decide))]
    refine jg_iconst (v := -1) dX4_copy_19 (by decide) ?_
    exact jg_iret (rfl) dX4_copy_20 ⟨_, rfl, ⟨by rw [e9], by rw [e9]; exact hI.ft 0, RF.rf.put (by omega)⟩⟩
  · obtain ⟨x, hx, rfl⟩ := in4 h_9
    refine jg_iload_n dX4_copy_12 rfl rfl ?_
    refine jg_callS (c4_isSheet E (s2 u 57 0 0) o) me_X4_isSheet ml_X4_92 rfl (by decide) (by decide) rfl (Nat.le_of_ble_eq_true rfl) dX4_copy_13 (kk_I (fun r_13 u_13 h_13 => ?_))
    obtain ⟨rfl, rfl⟩ := h_13
    refine jb_if_ne 21 dX4_copy_16 (by decide) (fun h_16 => ?_) (fun h_16 => ?_)
    · obtain ⟨y, hy, rfl⟩ := in4 h_16
      have hxy : inN (nI x) 4 = true ∧ inN (nI y) 4 = true := ⟨h_9, h_16⟩
      have hsx := shM_z hI hx 0
      have hsy := shM_z hI hy 0
      have h60x := (hO.2.2.1 x hx).2
      have h60y := (hO.2.2.1 y hy).2
      refine jg_aload_n dX4_copy_21 rfl rfl ?_
      refine jg_getr fk_X4_9 sh_57 rfl dX4_copy_22 ?_
      refine jg_iload_n dX4_copy_25 rfl rfl ?_
      refine jg_ld x sh_58 (by omega) (rfl) dX4_copy_26 ?_
      refine jg_bipush (v := -9) dX4_copy_27 (by decide) ?_
      refine jg_icmp_eq 43 dX4_copy_29 (by decide) (fun h_29 => ?_) (fun h_29 => ?_)
      · have htx : (g.2.2.2.1 x).1 = false := by cases h9 : (g.2.2.2.1 x).1; rfl; exact absurd ((hsx.v h9).symm.trans h_29) (inR_9 (hO.2.2.1 x hx).1)
        have e9 : fCopy g (nI x) i (nI y) j n = (-11, wFt g 1) := by unfold fCopy shk; rw [if_pos hxy, cl_nI (show x < 2 ^ 31 by omega), cl_nI (show y < 2 ^ 31 by omega), if_neg (fun z => by rw [htx] at z; exact absurd z.1 (by decide))]
        refine jg_aload_n dX4_copy_43 rfl rfl ?_
        refine jg_iconst (v := 1) dX4_copy_44 (by decide) ?_
        refine jg_callV (c4_fails E (s2 u 57 0 0) 1) me_X4_fails ml_X4_103 sh_57 rfl rfl (by decide) (by decide) rfl (Nat.le_of_ble_eq_true rfl) dX4_copy_45 (kk_I (fun r_45 u_45 h_45 => ?_))
        obtain ⟨rfl, rfl⟩ := h_45
        rw [s2_s2]
        exact jg_iret (rfl) dX4_copy_48 ⟨_, rfl, ⟨by rw [e9] <;> rfl, by rw [e9]; exact hI.ft 1, RF.rf.put (by omega)⟩⟩
      · have htx : (g.2.2.2.1 x).1 = true := by cases h9 : (g.2.2.2.1 x).1; exact absurd (hsx.n h9) h_29; rfl
        refine jg_aload_n dX4_copy_32 rfl rfl ?_
        refine jg_getr fk_X4_9 sh_57 rfl dX4_copy_33 ?_
        refine jg_iload_n dX4_copy_36 rfl rfl ?_
        refine jg_ld y sh_58 (by omega) (rfl) dX4_copy_37 ?_
        refine jg_bipush (v := -9) dX4_copy_38 (by decide) ?_
        refine jg_icmp_ne 49 dX4_copy_40 (by decide) (fun h_40 => ?_) (fun h_40 => ?_)
        · have hty : (g.2.2.2.1 y).1 = true := by cases h9 : (g.2.2.2.1 y).1; exact absurd (hsy.n h9) h_40; rfl
          have htt : (g.2.2.2.1 x).1 = true ∧ (g.2.2.2.1 y).1 = true := ⟨htx, hty⟩
          refine jg_aload_n dX4_copy_49 rfl rfl ?_
          refine jg_getr fk_X4_9 sh_57 rfl dX4_copy_50 ?_
          refine jg_iload_n dX4_copy_53 rfl rfl ?_
          refine jg_ld x sh_58 (by omega) (rfl) dX4_copy_54 ?_
          refine jg_top (y := (g.2.2.2.1 x).2.1) (hsx.v htx) ?_
          refine jg_aload_n dX4_copy_55 rfl rfl ?_
          refine jg_getr fk_X4_9 sh_57 rfl dX4_copy_56 ?_
          refine jg_iload_n dX4_copy_59 rfl rfl ?_
          refine jg_ld y sh_58 (by omega) (rfl) dX4_copy_60 ?_
          refine jg_top (y := (g.2.2.2.1 y).2.1) (hsy.v hty) ?_
          refine jg_icmp_eq 70 dX4_copy_61 (by decide) (fun h_61 => ?_) (fun h_61 => ?_)
          · have hll := h_61
            refine jg_iload_n dX4_copy_70 rfl rfl ?_
            refine jg_if_lt 109 dX4_copy_71 (by decide) (fun h_71 => ?_) (fun h_71 => ?_)
            · refine jg_iconst (v := 0) dX4_copy_109 (by decide) ?_
              refine jg_istore dX4_copy_110 (by decide) rfl ?_
              refine jg_iload dX4_copy_112 rfl ?_
              refine jg_if_eq 144 dX4_copy_114 (by decide) (fun h_114 => ?_) (fun h_114 => absurd h_114 (fun z => z rfl))
              have e9 : fCopy g (nI x) i (nI y) j n = (-13, wFt g 3) := by unfold fCopy shk; rw [if_pos hxy, cl_nI (show x < 2 ^ 31 by omega), cl_nI (show y < 2 ^ 31 by omega), if_pos htt, if_pos hll, if_neg (by unfold hcF; simp [*])]
              refine jg_aload_n dX4_copy_144 rfl rfl ?_
              refine jg_iconst (v := 3) dX4_copy_145 (by decide) ?_
              refine jg_callV (c4_fails E (s2 u 57 0 0) 3) me_X4_fails ml_X4_103 sh_57 rfl rfl (by decide) (by decide) rfl (Nat.le_of_ble_eq_true rfl) dX4_copy_146 (kk_I (fun r_146 u_146 h_146 => ?_))
              obtain ⟨rfl, rfl⟩ := h_146
              rw [s2_s2]
              exact jg_iret (rfl) dX4_copy_149 ⟨_, rfl, ⟨by rw [e9] <;> rfl, by rw [e9]; exact hI.ft 3, RF.rf.put (by omega)⟩⟩
            · refine jg_iload dX4_copy_74 rfl ?_
              refine jg_if_lt 109 dX4_copy_76 (by decide) (fun h_76 => ?_) (fun h_76 => ?_)
              · refine jg_iconst (v := 0) dX4_copy_109 (by decide) ?_
                refine jg_istore dX4_copy_110 (by decide) rfl ?_
                refine jg_iload dX4_copy_112 rfl ?_
                refine jg_if_eq 144 dX4_copy_114 (by decide) (fun h_114 => ?_) (fun h_114 => absurd h_114 (fun z => z rfl))
                have e9 : fCopy g (nI x) i (nI y) j n = (-13, wFt g 3) := by unfold fCopy shk; rw [if_pos hxy, cl_nI (show x < 2 ^ 31 by omega), cl_nI (show y < 2 ^ 31 by omega), if_pos htt, if_pos hll, if_neg (by unfold hcF; simp [*])]
                refine jg_aload_n dX4_copy_144 rfl rfl ?_
                refine jg_iconst (v := 3) dX4_copy_145 (by decide) ?_
                refine jg_callV (c4_fails E (s2 u 57 0 0) 3) me_X4_fails ml_X4_103 sh_57 rfl rfl (by decide) (by decide) rfl (Nat.le_of_ble_eq_true rfl) dX4_copy_146 (kk_I (fun r_146 u_146 h_146 => ?_))
                obtain ⟨rfl, rfl⟩ := h_146
                rw [s2_s2]
                exact jg_iret (rfl) dX4_copy_149 ⟨_, rfl, ⟨by rw [e9] <;> rfl, by rw [e9]; exact hI.ft 3, RF.rf.put (by omega)⟩⟩
              · refine jg_iload dX4_copy_79 rfl ?_
                refine jg_if_lt 109 dX4_copy_81 (by decide) (fun h_81 => ?_) (fun h_81 => ?_)
                · refine jg_iconst (v := 0) dX4_copy_109 (by decide) ?_
                  refine jg_istore dX4_copy_110 (by decide) rfl ?_
                  refine jg_iload dX4_copy_112 rfl ?_
                  refine jg_if_eq 144 dX4_copy_114 (by decide) (fun h_114 => ?_) (fun h_114 => absurd h_114 (fun z => z rfl))
                  have e9 : fCopy g (nI x) i (nI y) j n = (-13, wFt g 3) := by unfold fCopy shk; rw [if_pos hxy, cl_nI (show x < 2 ^ 31 by omega), cl_nI (show y < 2 ^ 31 by omega), if_pos htt, if_pos hll, if_neg (by unfold hcF; simp [*])]
                  refine jg_aload_n dX4_copy_144 rfl rfl ?_
                  refine jg_iconst (v := 3) dX4_copy_145 (by decide) ?_
                  refine jg_callV (c4_fails E (s2 u 57 0 0) 3) me_X4_fails ml_X4_103 sh_57 rfl rfl (by decide) (by decide) rfl (Nat.le_of_ble_eq_true rfl) dX4_copy_146 (kk_I (fun r_146 u_146 h_146 => ?_))
                  obtain ⟨rfl, rfl⟩ := h_146
                  rw [s2_s2]
                  exact jg_iret (rfl) dX4_copy_149 ⟨_, rfl, ⟨by rw [e9] <;> rfl, by rw [e9]; exact hI.ft 3, RF.rf.put (by omega)⟩⟩
                · refine jg_iload_n dX4_copy_84 rfl rfl ?_
                  refine jg_aload_n dX4_copy_85 rfl rfl ?_
                  refine jg_getr fk_X4_13 sh_57 rfl dX4_copy_86 ?_
                  refine jg_iload_n dX4_copy_89 rfl rfl ?_
                  refine jg_ld x sh_59 (by omega) (rfl) dX4_copy_90 ?_
                  refine jg_top (y := nI (g.2.2.2.1 x).2.2.1) (hsx.2.1) ?_
                  refine jg_icmp_gt 109 dX4_copy_91 (by decide) (fun h_91 => ?_) (fun h_91 => ?_)
                  · refine jg_iconst (v := 0) dX4_copy_109 (by decide) ?_
                    refine jg_istore dX4_copy_110 (by decide) rfl ?_
                    refine jg_iload dX4_copy_112 rfl ?_
                    refine jg_if_eq 144 dX4_copy_114 (by decide) (fun h_114 => ?_) (fun h_114 => absurd h_114 (fun z => z rfl))
                    have e9 : fCopy g (nI x) i (nI y) j n = (-13, wFt g 3) := by unfold fCopy shk; rw [if_pos hxy, cl_nI (show x < 2 ^ 31 by omega), cl_nI (show y < 2 ^ 31 by omega), if_pos htt, if_pos hll, if_neg (by unfold hcF; simp [*])]
                    refine jg_aload_n dX4_copy_144 rfl rfl ?_
                    refine jg_iconst (v := 3) dX4_copy_145 (by decide) ?_
                    refine jg_callV (c4_fails E (s2 u 57 0 0) 3) me_X4_fails ml_X4_103 sh_57 rfl rfl (by decide) (by decide) rfl (Nat.le_of_ble_eq_true rfl) dX4_copy_146 (kk_I (fun r_146 u_146 h_146 => ?_))
                    obtain ⟨rfl, rfl⟩ := h_146
                    rw [s2_s2]
                    exact jg_iret (rfl) dX4_copy_149 ⟨_, rfl, ⟨by rw [e9] <;> rfl, by rw [e9]; exact hI.ft 3, RF.rf.put (by omega)⟩⟩
                  · refine jg_iload dX4_copy_94 rfl ?_
                    refine jg_aload_n dX4_copy_96 rfl rfl ?_
                    refine jg_getr fk_X4_13 sh_57 rfl dX4_copy_97 ?_
                    refine jg_iload_n dX4_copy_100 rfl rfl ?_
                    refine jg_ld y sh_59 (by omega) (rfl) dX4_copy_101 ?_
                    refine jg_top (y := nI (g.2.2.2.1 y).2.2.1) (hsy.2.1) ?_
                    refine jg_icmp_gt 109 dX4_copy_102 (by decide) (fun h_102 => ?_) (fun h_102 => ?_)
                    · refine jg_iconst (v := 0) dX4_copy_109 (by decide) ?_
                      refine jg_istore dX4_copy_110 (by decide) rfl ?_
                      refine jg_iload dX4_copy_112 rfl ?_
                      refine jg_if_eq 144 dX4_copy_114 (by decide) (fun h_114 => ?_) (fun h_114 => absurd h_114 (fun z => z rfl))
                      have e9 : fCopy g (nI x) i (nI y) j n = (-13, wFt g 3) := by unfold fCopy shk; rw [if_pos hxy, cl_nI (show x < 2 ^ 31 by omega), cl_nI (show y < 2 ^ 31 by omega), if_pos htt, if_pos hll, if_neg (by unfold hcF; simp [*])]
                      refine jg_aload_n dX4_copy_144 rfl rfl ?_
                      refine jg_iconst (v := 3) dX4_copy_145 (by decide) ?_
                      refine jg_callV (c4_fails E (s2 u 57 0 0) 3) me_X4_fails ml_X4_103 sh_57 rfl rfl (by decide) (by decide) rfl (Nat.le_of_ble_eq_true rfl) dX4_copy_146 (kk_I (fun r_146 u_146 h_146 => ?_))
                      obtain ⟨rfl, rfl⟩ := h_146
                      rw [s2_s2]
                      exact jg_iret (rfl) dX4_copy_149 ⟨_, rfl, ⟨by rw [e9] <;> rfl, by rw [e9]; exact hI.ft 3, RF.rf.put (by omega)⟩⟩
                    · refine jg_iconst (v := 1) dX4_copy_105 (by decide) ?_
                      refine jg_goto 110 dX4_copy_106 (by decide) ?_
                      refine jg_istore dX4_copy_110 (by decide) rfl ?_
                      refine jg_iload dX4_copy_112 rfl ?_
                      refine jg_if_eq 144 dX4_copy_114 (by decide) (fun h_114 => absurd h_114 (by decide)) (fun h_114 => ?_)
                      refine jg_iload dX4_copy_117 rfl ?_
                      refine jg_aload_n dX4_copy_119 rfl rfl ?_
                      refine jg_getr fk_X4_13 sh_57 rfl dX4_copy_120 ?_
                      refine jg_iload_n dX4_copy_123 rfl rfl ?_
                      refine jg_ld x sh_59 (by omega) (rfl) dX4_copy_124 ?_
                      refine jg_top (y := nI (g.2.2.2.1 x).2.2.1) (hsx.2.1) ?_
                      refine jg_iload_n dX4_copy_125 rfl rfl ?_
                      refine jg_isub dX4_copy_126 ?_
                      refine jg_icmp_gt 144 dX4_copy_127 (by decide) (fun h_127 => ?_) (fun h_127 => ?_)
                      · have e9 : fCopy g (nI x) i (nI y) j n = (-13, wFt g 3) := by unfold fCopy shk; rw [if_pos hxy, cl_nI (show x < 2 ^ 31 by omega), cl_nI (show y < 2 ^ 31 by omega), if_pos htt, if_pos hll, if_neg (by unfold hcF; simp [*])]
                        refine jg_aload_n dX4_copy_144 rfl rfl ?_
                        refine jg_iconst (v := 3) dX4_copy_145 (by decide) ?_
                        refine jg_callV (c4_fails E (s2 u 57 0 0) 3) me_X4_fails ml_X4_103 sh_57 rfl rfl (by decide) (by decide) rfl (Nat.le_of_ble_eq_true rfl) dX4_copy_146 (kk_I (fun r_146 u_146 h_146 => ?_))
                        obtain ⟨rfl, rfl⟩ := h_146
                        rw [s2_s2]
                        exact jg_iret (rfl) dX4_copy_149 ⟨_, rfl, ⟨by rw [e9] <;> rfl, by rw [e9]; exact hI.ft 3, RF.rf.put (by omega)⟩⟩
                      · refine jg_iload dX4_copy_130 rfl ?_
                        refine jg_aload_n dX4_copy_132 rfl rfl ?_
                        refine jg_getr fk_X4_13 sh_57 rfl dX4_copy_133 ?_
                        refine jg_iload_n dX4_copy_136 rfl rfl ?_
                        refine jg_ld y sh_59 (by omega) (rfl) dX4_copy_137 ?_
                        refine jg_top (y := nI (g.2.2.2.1 y).2.2.1) (hsy.2.1) ?_
                        refine jg_iload dX4_copy_138 rfl ?_
                        refine jg_isub dX4_copy_140 ?_
                        refine jg_icmp_le 150 dX4_copy_141 (by decide) (fun h_141 => ?_) (fun h_141 => ?_)
                        · have hk1 : hcF (g.2.2.2.1 x).2.2.1 i n = true := by unfold hcF; simp [*]
                          have hk2 : hcF (g.2.2.2.1 y).2.2.1 j n = true := by unfold hcF; simp [*]
                          have hc9 : hcF (g.2.2.2.1 x).2.2.1 i n = true ∧ hcF (g.2.2.2.1 y).2.2.1 j n = true := ⟨hk1, hk2⟩
                          obtain ⟨a, b, hab, rfl, rfl⟩ := hc_nat h60x hk1
                          obtain ⟨c, hcb, rfl⟩ := hc_n h60y (by omega) hk2
                          have e9 : fCopy g (nI x) (nI a) (nI y) (nI c) (nI b) = (nI b, wSh (wFt g 0) (upS g.2.2.2.1 y (true, (g.2.2.2.1 y).2.1, (g.2.2.2.1 y).2.2.1, va_cpy (g.2.2.2.1 x).2.2.2 (g.2.2.2.1 y).2.2.2 a c b))) := by unfold fCopy shk; rw [if_pos hxy, cl_nI (show x < 2 ^ 31 by omega), cl_nI (show y < 2 ^ 31 by omega), if_pos htt, if_pos hll, if_pos hc9, cl_nI (show a < 2 ^ 31 by omega), cl_nI (show b < 2 ^ 31 by omega), cl_nI (show c < 2 ^ 31 by omega)]
                          refine jg_iload_n dX4_copy_150 rfl rfl ?_
                          refine jg_iload dX4_copy_151 rfl ?_
                          refine jn_icmp_ge a c rfl rfl (by omega) (by omega) 160 dX4_copy_153 (by decide) (fun h_153 => ?_) (fun h_153 => ?_)
                          · refine jg_iconst (v := 0) dX4_copy_160 (by decide) ?_
                            refine jg_istore dX4_copy_161 (by decide) rfl ?_
                            refine jg_iconst (v := 0) dX4_copy_163 (by decide) ?_
                            refine jg_istore dX4_copy_164 (by decide) rfl ?_
                            have cut_166 : ∀ (m q : Nat) (w : Mm), q ≤ b → b < q + m → (∀ r, r ≠ 60 → w r = (s2 u 57 0 0) r) → (∀ t, t < 240 → w 60 t = if 60 * y + c + (0) ≤ t ∧ t < 60 * y + c + (q) then (s2 u 57 0 0) 60 (60 * x + a + (t - (60 * y + c))) else (s2 u 57 0 0) 60 t) → G E cX4_copy 10 (yX4_copy).cls (some .int) 2 (kI (fun r u2 => r = (fCopy g (nI x) (nI a) (nI y) (nI c) (nI b)).1 ∧ InvM u2 (fCopy g (nI x) (nI a) (nI y) (nI c) (nI b)).2 ∧ RF u u2)) 166 [some (.ref (E.2.1 57)), some (.int (nI x)), some (.int (nI a)), some (.int (nI y)), some (.int (nI c)), some (.int (nI b)), none, some (.int 0), some (.int (nI q)), none] [] w := by
                              intro m
                              induction m with
                              | zero => intro q w h1 h2; omega
                              | succ m ih =>
                                intro q w hq hm hr hw
                                refine jg_iload dX4_copy_166 rfl ?_
                                refine jg_iload dX4_copy_168 rfl ?_
                                refine jn_icmp_ge q b rfl rfl (by omega) (by omega) 227 dX4_copy_170 (by decide) (fun h_170 => ?_) (fun h_170 => ?_)
                                · obtain rfl : b = q := by omega
                                  refine jg_iload dX4_copy_227 rfl ?_
                                  exact jg_iret (rfl) dX4_copy_229 ⟨_, rfl, ⟨by rw [e9], by rw [e9]; exact (hI.ft 0).sh (fun r _ _ h3 => hr r h3) (fun a9 ha9 e => ⟨by rw [hr 58 (by decide)], by rw [hr 59 (by decide)], fun t ht => by rw [hw _ (by omega), if_neg (by omega)]⟩) ⟨by rw [hr 58 (by decide)]; exact hsy.v hty, by rw [hr 59 (by decide)]; exact hsy.2.1, fun t ht => by rw [hw _ (by omega)]; by_cases e : c ≤ t ∧ t < c + b; (rw [if_pos (by omega), show 60 * x + a + (60 * y + t - (60 * y + c)) = 60 * x + (a + (t - c)) by omega, hsx.2.2 _ (by omega)]; exact (pk_cpy_in e.1 e.2).symm); (rw [if_neg (by omega), hsy.2.2 t ht]; exact (pk_cpy_out (by omega)).symm)⟩, fun r h => by rw [hr r (by omega), s2_row (by omega)]⟩⟩
                                · refine jg_iload dX4_copy_173 rfl ?_
                                  refine jg_if_eq 188 dX4_copy_175 (by decide) (fun h_175 => ?_) (fun h_175 => absurd h_175 (fun z => z rfl))
                                  refine jg_iload dX4_copy_188 rfl ?_
                                  refine jg_istore dX4_copy_190 (by decide) rfl ?_
                                  refine jg_aload_n dX4_copy_192 rfl rfl ?_
                                  refine jg_getr fk_X4_16 sh_57 rfl dX4_copy_193 ?_
                                  refine jg_bipush (v := 60) dX4_copy_196 (by decide) ?_
                                  refine jg_iload_n dX4_copy_198 rfl rfl ?_
                                  refine jg_imulE (z := nI (60 * y)) dX4_copy_199 (pk_mul 60 y) ?_
                                  refine jg_iload dX4_copy_200 rfl ?_
                                  refine jg_iaddE (z := nI ((60 * y) + c)) dX4_copy_202 (nI_add (60 * y) c) ?_
                                  refine jg_iload dX4_copy_203 rfl ?_
                                  refine jg_iaddE (z := nI (((60 * y) + c) + q)) dX4_copy_205 (nI_add ((60 * y) + c) q) ?_
                                  refine jg_aload_n dX4_copy_206 rfl rfl ?_
                                  refine jg_getr fk_X4_16 sh_57 rfl dX4_copy_207 ?_
                                  refine jg_bipush (v := 60) dX4_copy_210 (by decide) ?_
                                  refine jg_iload_n dX4_copy_212 rfl rfl ?_
                                  refine jg_imulE (z := nI (60 * x)) dX4_copy_213 (pk_mul 60 x) ?_
                                  refine jg_iload_n dX4_copy_214 rfl rfl ?_
                                  refine jg_iaddE (z := nI ((60 * x) + a)) dX4_copy_215 (nI_add (60 * x) a) ?_
                                  refine jg_iload dX4_copy_216 rfl ?_
                                  refine jg_iaddE (z := nI (((60 * x) + a) + q)) dX4_copy_218 (nI_add ((60 * x) + a) q) ?_
                                  refine jg_ld (((60 * x) + a) + q) sh_60 (by omega) (rfl) dX4_copy_219 ?_
                                  refine jg_top (y := (s2 u 57 0 0) 60 (60 * x + a + (q))) (by rw [hw _ (by omega), if_neg (by omega)]) ?_
                                  refine jg_st (((60 * y) + c) + q) sh_60 (by omega) (rfl) dX4_copy_220 ?_
                                  refine jg_iinc (v := nI (q + 1)) dX4_copy_221 rfl (nI_1 q) (by decide) rfl ?_
                                  refine jg_goto 166 dX4_copy_224 (by decide) ?_
                                  exact jg_weak (gLe_s (gLe_s (gLe_s (gLe_s (gLe_s (gLe_s (gLe_n (gLe_s (gLe_s (gLe_n gLe_nil)))))))))) (ih (q + 1) _ (by omega) (by omega) (fun r h => by rw [s2_row h]; exact hr r h) (fun t ht => by by_cases e : t = 60 * y + c + (q); (subst e; rw [s2_self, if_pos (by omega)]; congr 1; omega); (rw [s2_ne e, hw t ht]; by_cases e2 : 60 * y + c + (0) ≤ t ∧ t < 60 * y + c + (q); (rw [if_pos e2, if_pos (by omega)]); (rw [if_neg e2, if_neg (by omega)]))))
                            exact jg_weak (gLe_s (gLe_s (gLe_s (gLe_s (gLe_s (gLe_s (gLe_n (gLe_s (gLe_s (gLe_n gLe_nil)))))))))) (cut_166 (b + 1) 0 _ (by omega) (by omega) (fun _ _ => rfl) (fun t ht => by rw [if_neg (by omega)]))
                          · refine jg_iconst (v := 1) dX4_copy_156 (by decide) ?_
                            refine jg_goto 161 dX4_copy_157 (by decide) ?_
                            refine jg_istore dX4_copy_161 (by decide) rfl ?_
                            refine jg_iconst (v := 0) dX4_copy_163 (by decide) ?_
                            refine jg_istore dX4_copy_164 (by decide) rfl ?_
                            have cut_166 : ∀ (m q : Nat) (w : Mm), q ≤ b → b < q + m → (∀ r, r ≠ 60 → w r = (s2 u 57 0 0) r) → (∀ t, t < 240 → w 60 t = if 60 * y + c + (b - q) ≤ t ∧ t < 60 * y + c + (b) then (s2 u 57 0 0) 60 (60 * x + a + (t - (60 * y + c))) else (s2 u 57 0 0) 60 t) → G E cX4_copy 10 (yX4_copy).cls (some .int) 2 (kI (fun r u2 => r = (fCopy g (nI x) (nI a) (nI y) (nI c) (nI b)).1 ∧ InvM u2 (fCopy g (nI x) (nI a) (nI y) (nI c) (nI b)).2 ∧ RF u u2)) 166 [some (.ref (E.2.1 57)), some (.int (nI x)), some (.int (nI a)), some (.int (nI y)), some (.int (nI c)), some (.int (nI b)), none, some (.int 1), some (.int (nI q)), none] [] w := by
                              intro m
                              induction m with
                              | zero => intro q w h1 h2; omega
                              | succ m ih =>
                                intro q w hq hm hr hw
                                refine jg_iload dX4_copy_166 rfl ?_
                                refine jg_iload dX4_copy_168 rfl ?_
                                refine jn_icmp_ge q b rfl rfl (by omega) (by omega) 227 dX4_copy_170 (by decide) (fun h_170 => ?_) (fun h_170 => ?_)
                                · obtain rfl : b = q := by omega
                                  refine jg_iload dX4_copy_227 rfl ?_
                                  exact jg_iret (rfl) dX4_copy_229 ⟨_, rfl, ⟨by rw [e9], by rw [e9]; exact (hI.ft 0).sh (fun r _ _ h3 => hr r h3) (fun a9 ha9 e => ⟨by rw [hr 58 (by decide)], by rw [hr 59 (by decide)], fun t ht => by rw [hw _ (by omega), if_neg (by omega)]⟩) ⟨by rw [hr 58 (by decide)]; exact hsy.v hty, by rw [hr 59 (by decide)]; exact hsy.2.1, fun t ht => by rw [hw _ (by omega)]; by_cases e : c ≤ t ∧ t < c + b; (rw [if_pos (by omega), show 60 * x + a + (60 * y + t - (60 * y + c)) = 60 * x + (a + (t - c)) by omega, hsx.2.2 _ (by omega)]; exact (pk_cpy_in e.1 e.2).symm); (rw [if_neg (by omega), hsy.2.2 t ht]; exact (pk_cpy_out (by omega)).symm)⟩, fun r h => by rw [hr r (by omega), s2_row (by omega)]⟩⟩
                                · refine jg_iload dX4_copy_173 rfl ?_
                                  refine jg_if_eq 188 dX4_copy_175 (by decide) (fun h_175 => absurd h_175 (by decide)) (fun h_175 => ?_)
                                  refine jg_iload dX4_copy_178 rfl ?_
                                  refine jg_iconst (v := 1) dX4_copy_180 (by decide) ?_
                                  refine jg_isubE (z := nI (b - 1)) dX4_copy_181 (pk_sub (a := b) (b := 1) (by omega)) ?_
                                  refine jg_iload dX4_copy_182 rfl ?_
                                  refine jg_isubE (z := nI (b - 1 - q)) dX4_copy_184 (pk_sub (by omega)) ?_
                                  refine jg_goto 190 dX4_copy_185 (by decide) ?_
                                  refine jg_istore dX4_copy_190 (by decide) rfl ?_
                                  refine jg_aload_n dX4_copy_192 rfl rfl ?_
                                  refine jg_getr fk_X4_16 sh_57 rfl dX4_copy_193 ?_
                                  refine jg_bipush (v := 60) dX4_copy_196 (by decide) ?_
                                  refine jg_iload_n dX4_copy_198 rfl rfl ?_
                                  refine jg_imulE (z := nI (60 * y)) dX4_copy_199 (pk_mul 60 y) ?_
                                  refine jg_iload dX4_copy_200 rfl ?_
                                  refine jg_iaddE (z := nI ((60 * y) + c)) dX4_copy_202 (nI_add (60 * y) c) ?_
                                  refine jg_iload dX4_copy_203 rfl ?_
                                  refine jg_iaddE (z := nI (((60 * y) + c) + (b - 1 - q))) dX4_copy_205 (nI_add ((60 * y) + c) (b - 1 - q)) ?_
                                  refine jg_aload_n dX4_copy_206 rfl rfl ?_
                                  refine jg_getr fk_X4_16 sh_57 rfl dX4_copy_207 ?_
                                  refine jg_bipush (v := 60) dX4_copy_210 (by decide) ?_
                                  refine jg_iload_n dX4_copy_212 rfl rfl ?_
                                  refine jg_imulE (z := nI (60 * x)) dX4_copy_213 (pk_mul 60 x) ?_
                                  refine jg_iload_n dX4_copy_214 rfl rfl ?_
                                  refine jg_iaddE (z := nI ((60 * x) + a)) dX4_copy_215 (nI_add (60 * x) a) ?_
                                  refine jg_iload dX4_copy_216 rfl ?_
                                  refine jg_iaddE (z := nI (((60 * x) + a) + (b - 1 - q))) dX4_copy_218 (nI_add ((60 * x) + a) (b - 1 - q)) ?_
                                  refine jg_ld (((60 * x) + a) + (b - 1 - q)) sh_60 (by omega) (rfl) dX4_copy_219 ?_
                                  refine jg_top (y := (s2 u 57 0 0) 60 (60 * x + a + (b - 1 - q))) (by rw [hw _ (by omega), if_neg (by omega)]) ?_
                                  refine jg_st (((60 * y) + c) + (b - 1 - q)) sh_60 (by omega) (rfl) dX4_copy_220 ?_
                                  refine jg_iinc (v := nI (q + 1)) dX4_copy_221 rfl (nI_1 q) (by decide) rfl ?_
                                  refine jg_goto 166 dX4_copy_224 (by decide) ?_
                                  exact jg_weak (gLe_s (gLe_s (gLe_s (gLe_s (gLe_s (gLe_s (gLe_n (gLe_s (gLe_s (gLe_n gLe_nil)))))))))) (ih (q + 1) _ (by omega) (by omega) (fun r h => by rw [s2_row h]; exact hr r h) (fun t ht => by by_cases e : t = 60 * y + c + (b - 1 - q); (subst e; rw [s2_self, if_pos (by omega)]; congr 1; omega); (rw [s2_ne e, hw t ht]; by_cases e2 : 60 * y + c + (b - q) ≤ t ∧ t < 60 * y + c + (b); (rw [if_pos e2, if_pos (by omega)]); (rw [if_neg e2, if_neg (by omega)]))))
                            exact jg_weak (gLe_s (gLe_s (gLe_s (gLe_s (gLe_s (gLe_s (gLe_n (gLe_s (gLe_s (gLe_n gLe_nil)))))))))) (cut_166 (b + 1) 0 _ (by omega) (by omega) (fun _ _ => rfl) (fun t ht => by rw [if_neg (by omega)]))
                        · have e9 : fCopy g (nI x) i (nI y) j n = (-13, wFt g 3) := by unfold fCopy shk; rw [if_pos hxy, cl_nI (show x < 2 ^ 31 by omega), cl_nI (show y < 2 ^ 31 by omega), if_pos htt, if_pos hll, if_neg (by unfold hcF; simp [*])]
                          refine jg_aload_n dX4_copy_144 rfl rfl ?_
                          refine jg_iconst (v := 3) dX4_copy_145 (by decide) ?_
                          refine jg_callV (c4_fails E (s2 u 57 0 0) 3) me_X4_fails ml_X4_103 sh_57 rfl rfl (by decide) (by decide) rfl (Nat.le_of_ble_eq_true rfl) dX4_copy_146 (kk_I (fun r_146 u_146 h_146 => ?_))
                          obtain ⟨rfl, rfl⟩ := h_146
                          rw [s2_s2]
                          exact jg_iret (rfl) dX4_copy_149 ⟨_, rfl, ⟨by rw [e9] <;> rfl, by rw [e9]; exact hI.ft 3, RF.rf.put (by omega)⟩⟩
          · have e9 : fCopy g (nI x) i (nI y) j n = (-12, wFt g 2) := by unfold fCopy shk; rw [if_pos hxy, cl_nI (show x < 2 ^ 31 by omega), cl_nI (show y < 2 ^ 31 by omega), if_pos htt, if_neg h_61]
            refine jg_aload_n dX4_copy_64 rfl rfl ?_
            refine jg_iconst (v := 2) dX4_copy_65 (by decide) ?_
            refine jg_callV (c4_fails E (s2 u 57 0 0) 2) me_X4_fails ml_X4_103 sh_57 rfl rfl (by decide) (by decide) rfl (Nat.le_of_ble_eq_true rfl) dX4_copy_66 (kk_I (fun r_66 u_66 h_66 => ?_))
            obtain ⟨rfl, rfl⟩ := h_66
            rw [s2_s2]
            exact jg_iret (rfl) dX4_copy_69 ⟨_, rfl, ⟨by rw [e9] <;> rfl, by rw [e9]; exact hI.ft 2, RF.rf.put (by omega)⟩⟩
        · have hty : (g.2.2.2.1 y).1 = false := by cases h9 : (g.2.2.2.1 y).1; rfl; exact absurd ((hsy.v h9).symm.trans h_40) (inR_9 (hO.2.2.1 y hy).1)
          have e9 : fCopy g (nI x) i (nI y) j n = (-11, wFt g 1) := by unfold fCopy shk; rw [if_pos hxy, cl_nI (show x < 2 ^ 31 by omega), cl_nI (show y < 2 ^ 31 by omega), if_neg (fun z => by rw [hty] at z; exact absurd z.2 (by decide))]
          refine jg_aload_n dX4_copy_43 rfl rfl ?_
          refine jg_iconst (v := 1) dX4_copy_44 (by decide) ?_
          refine jg_callV (c4_fails E (s2 u 57 0 0) 1) me_X4_fails ml_X4_103 sh_57 rfl rfl (by decide) (by decide) rfl (Nat.le_of_ble_eq_true rfl) dX4_copy_45 (kk_I (fun r_45 u_45 h_45 => ?_))
          obtain ⟨rfl, rfl⟩ := h_45
          rw [s2_s2]
          exact jg_iret (rfl) dX4_copy_48 ⟨_, rfl, ⟨by rw [e9] <;> rfl, by rw [e9]; exact hI.ft 1, RF.rf.put (by omega)⟩⟩
    · have e9 : fCopy g (nI x) i o j n = (-1, wFt g 0) := by unfold fCopy; rw [if_neg (fun z => by rw [h_16] at z; exact absurd z.2 (by decide))]
      refine jg_iconst (v := -1) dX4_copy_19 (by decide) ?_
      exact jg_iret (rfl) dX4_copy_20 ⟨_, rfl, ⟨by rw [e9], by rw [e9]; exact hI.ft 0, RF.rf.put (by omega)⟩⟩
