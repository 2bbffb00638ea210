set_option maxHeartbeats 4000000 in
set_option maxRecDepth 20000 in
theorem d3_ofArea (E : gT) (u : Mm) (g : Gh) (hO : Ok g) (hI : InvC u g) (a w : Int32) : Con E yX3_ofArea cX3_ofArea 3 (some .int) 4 [.ref (E.2.1 0), .int a, .int w] u (kI (fun r u2 => r = (fOf g a w).1 ∧ InvC u2 (fOf g a w).2 ∧ CF u u2)) := by
  have hn := hO.1.1
  refine Con.of (lv := [some (.ref (E.2.1 0)), some (.int a), some (.int w)]) (by decide +kernel) (Nat.le_of_ble_eq_true rfl) rfl ?_
  refine jg_aload_n dX3_ofArea_0 rfl rfl ?_
  refine jg_getr fk_X3_14 sh_0 rfl dX3_ofArea_1 ?_
  refine jg_iload_n dX3_ofArea_4 rfl rfl ?_
  refine jg_callV (c0_hasArea E ipl_1 u a) me_X0_hasArea ml_X3_90 (pl_0 ipl_1) rfl rfl (by decide) (by decide) rfl (Nat.le_of_ble_eq_true rfl) dX3_ofArea_5 (kk_I (fun r_5 u_5 h_5 => ?_))
  obtain ⟨rfl, rfl⟩ := h_5
  refine jg_top (y := bI (inN a (nI (pn g.1)))) (congrArg (fun z => bI (inN a z)) hI.1.1.1) ?_
  refine jb_if_ne 13 dX3_ofArea_8 (by decide) (fun h_8 => ?_) (fun h_8 => ?_)
  · obtain ⟨i, hi, rfl⟩ := inN_nat (by omega) h_8
    have e9 : fOf g (nI i) w = (ofF g i w, g) := by unfold fOf; rw [if_pos h_8, cl_nI (show i < 2 ^ 31 by omega)]
    refine jg_iload_n dX3_ofArea_13 rfl rfl ?_
    by_cases w0 : w = 0
    · refine jg_tableIn (off := 66) 80 dX3_ofArea_14 (by rw [w0]; decide) (by rw [w0]; decide) (by rw [w0]; decide +kernel) (by decide) ?_
      refine jg_aload_n dX3_ofArea_80 rfl rfl ?_
      refine jg_getr fk_X3_14 sh_0 rfl dX3_ofArea_81 ?_
      refine jg_getr fk_X3_93 (pl_0 ipl_1) rfl dX3_ofArea_84 ?_
      refine jg_iload_n dX3_ofArea_87 rfl rfl ?_
      refine jg_ld i (pl_1 ipl_1) (by omega) (rfl) dX3_ofArea_88 ?_
      refine jg_top (y := nI (g.1 1 i)) ((hI.1.1.2 i hi).1) ?_
      exact jg_iret (rfl) dX3_ofArea_89 ⟨_, rfl, ⟨by rw [e9]; simp [ofF, *], by rw [e9]; exact hI, CF.rf⟩⟩
    by_cases w1 : w = 1
    · refine jg_tableIn (off := 76) 90 dX3_ofArea_14 (by rw [w1]; decide) (by rw [w1]; decide) (by rw [w1]; decide +kernel) (by decide) ?_
      refine jg_aload_n dX3_ofArea_90 rfl rfl ?_
      refine jg_getr fk_X3_14 sh_0 rfl dX3_ofArea_91 ?_
      refine jg_getr fk_X3_96 (pl_0 ipl_1) rfl dX3_ofArea_94 ?_
      refine jg_iload_n dX3_ofArea_97 rfl rfl ?_
      refine jg_ld i (pl_2 ipl_1) (by omega) (rfl) dX3_ofArea_98 ?_
      refine jg_top (y := nI (g.1 2 i)) ((hI.1.1.2 i hi).2.1) ?_
      exact jg_iret (rfl) dX3_ofArea_99 ⟨_, rfl, ⟨by rw [e9]; simp [ofF, *], by rw [e9]; exact hI, CF.rf⟩⟩
    by_cases w2 : w = 2
    · refine jg_tableIn (off := 86) 100 dX3_ofArea_14 (by rw [w2]; decide) (by rw [w2]; decide) (by rw [w2]; decide +kernel) (by decide) ?_
      refine jg_aload_n dX3_ofArea_100 rfl rfl ?_
      refine jg_getr fk_X3_14 sh_0 rfl dX3_ofArea_101 ?_
      refine jg_getr fk_X3_99 (pl_0 ipl_1) rfl dX3_ofArea_104 ?_
      refine jg_iload_n dX3_ofArea_107 rfl rfl ?_
      refine jg_ld i (pl_3 ipl_1) (by omega) (rfl) dX3_ofArea_108 ?_
      refine jg_top (y := nI (g.1 3 i)) ((hI.1.1.2 i hi).2.2.1) ?_
      exact jg_iret (rfl) dX3_ofArea_109 ⟨_, rfl, ⟨by rw [e9]; simp [ofF, *], by rw [e9]; exact hI, CF.rf⟩⟩
    by_cases w3 : w = 3
    · refine jg_tableIn (off := 96) 110 dX3_ofArea_14 (by rw [w3]; decide) (by rw [w3]; decide) (by rw [w3]; decide +kernel) (by decide) ?_
      refine jg_aload_n dX3_ofArea_110 rfl rfl ?_
      refine jg_getr fk_X3_14 sh_0 rfl dX3_ofArea_111 ?_
      refine jg_getr fk_X3_102 (pl_0 ipl_1) rfl dX3_ofArea_114 ?_
      refine jg_iload_n dX3_ofArea_117 rfl rfl ?_
      refine jg_ld i (pl_11 ipl_1) (by omega) (rfl) dX3_ofArea_118 ?_
      refine jg_top (y := nI (hgF g.1 i)) ((hI.1.2.1 i hi).2.2.1) ?_
      exact jg_iret (rfl) dX3_ofArea_119 ⟨_, rfl, ⟨by rw [e9]; simp [ofF, *], by rw [e9]; exact hI, CF.rf⟩⟩
    by_cases w4 : w = 4
    · refine jg_tableIn (off := 106) 120 dX3_ofArea_14 (by rw [w4]; decide) (by rw [w4]; decide) (by rw [w4]; decide +kernel) (by decide) ?_
      refine jg_aload_n dX3_ofArea_120 rfl rfl ?_
      refine jg_getr fk_X3_14 sh_0 rfl dX3_ofArea_121 ?_
      refine jg_getr fk_X3_105 (pl_0 ipl_1) rfl dX3_ofArea_124 ?_
      refine jg_iload_n dX3_ofArea_127 rfl rfl ?_
      refine jg_ld i (pl_12 ipl_1) (by omega) (rfl) dX3_ofArea_128 ?_
      refine jg_top (y := nI (xF g.1 i)) ((hI.1.2.1 i hi).2.2.2.1) ?_
      exact jg_iret (rfl) dX3_ofArea_129 ⟨_, rfl, ⟨by rw [e9]; simp [ofF, *], by rw [e9]; exact hI, CF.rf⟩⟩
    by_cases w5 : w = 5
    · refine jg_tableIn (off := 116) 130 dX3_ofArea_14 (by rw [w5]; decide) (by rw [w5]; decide) (by rw [w5]; decide +kernel) (by decide) ?_
      refine jg_aload_n dX3_ofArea_130 rfl rfl ?_
      refine jg_getr fk_X3_14 sh_0 rfl dX3_ofArea_131 ?_
      refine jg_getr fk_X3_108 (pl_0 ipl_1) rfl dX3_ofArea_134 ?_
      refine jg_iload_n dX3_ofArea_137 rfl rfl ?_
      refine jg_ld i (pl_13 ipl_1) (by omega) (rfl) dX3_ofArea_138 ?_
      refine jg_top (y := nI (yF g.1 i)) ((hI.1.2.1 i hi).2.2.2.2) ?_
      exact jg_iret (rfl) dX3_ofArea_139 ⟨_, rfl, ⟨by rw [e9]; simp [ofF, *], by rw [e9]; exact hI, CF.rf⟩⟩
    by_cases w6 : w = 6
    · refine jg_tableIn (off := 126) 140 dX3_ofArea_14 (by rw [w6]; decide) (by rw [w6]; decide) (by rw [w6]; decide +kernel) (by decide) ?_
      refine jg_aload_n dX3_ofArea_140 rfl rfl ?_
      refine jg_getr fk_X3_14 sh_0 rfl dX3_ofArea_141 ?_
      refine jg_iload_n dX3_ofArea_144 rfl rfl ?_
      refine jg_callV (c0_leftOf E ipl_1 u g.1 hO.1 hI.1 i hi) me_X0_leftOf ml_X3_111 (pl_0 ipl_1) rfl rfl (by decide) (by decide) rfl (Nat.le_of_ble_eq_true rfl) dX3_ofArea_145 (kk_I (fun r_145 u_145 h_145 => ?_))
      obtain ⟨rfl, rfl⟩ := h_145
      exact jg_iret (rfl) dX3_ofArea_148 ⟨_, rfl, ⟨by rw [e9]; simp [ofF, *]; rfl, by rw [e9]; exact hI, CF.rf⟩⟩
    by_cases w7 : w = 7
    · refine jg_tableIn (off := 135) 149 dX3_ofArea_14 (by rw [w7]; decide) (by rw [w7]; decide) (by rw [w7]; decide +kernel) (by decide) ?_
      refine jg_aload_n dX3_ofArea_149 rfl rfl ?_
      refine jg_getr fk_X3_14 sh_0 rfl dX3_ofArea_150 ?_
      refine jg_iload_n dX3_ofArea_153 rfl rfl ?_
      refine jg_callV (c0_aboveOf E ipl_1 u g.1 hO.1 hI.1 i hi) me_X0_aboveOf ml_X3_114 (pl_0 ipl_1) rfl rfl (by decide) (by decide) rfl (Nat.le_of_ble_eq_true rfl) dX3_ofArea_154 (kk_I (fun r_154 u_154 h_154 => ?_))
      obtain ⟨rfl, rfl⟩ := h_154
      exact jg_iret (rfl) dX3_ofArea_157 ⟨_, rfl, ⟨by rw [e9]; simp [ofF, *]; rfl, by rw [e9]; exact hI, CF.rf⟩⟩
    by_cases w8 : w = 8
    · refine jg_tableIn (off := 144) 158 dX3_ofArea_14 (by rw [w8]; decide) (by rw [w8]; decide) (by rw [w8]; decide +kernel) (by decide) ?_
      refine jg_aload_n dX3_ofArea_158 rfl rfl ?_
      refine jg_getr fk_X3_14 sh_0 rfl dX3_ofArea_159 ?_
      refine jg_iload_n dX3_ofArea_162 rfl rfl ?_
      refine jg_callV (c0_touching E ipl_1 u g.1 hO.1 hI.1 i hi) me_X0_touching ml_X3_117 (pl_0 ipl_1) rfl rfl (by decide) (by decide) rfl (Nat.le_of_ble_eq_true rfl) dX3_ofArea_163 (kk_I (fun r_163 u_163 h_163 => ?_))
      obtain ⟨rfl, rfl⟩ := h_163
      exact jg_iret (rfl) dX3_ofArea_166 ⟨_, rfl, ⟨by rw [e9]; simp [ofF, *], by rw [e9]; exact hI, CF.rf⟩⟩
    by_cases w9 : w = 9
    · refine jg_tableIn (off := 153) 167 dX3_ofArea_14 (by rw [w9]; decide) (by rw [w9]; decide) (by rw [w9]; decide +kernel) (by decide) ?_
      refine jg_aload_n dX3_ofArea_167 rfl rfl ?_
      refine jg_getr fk_X3_14 sh_0 rfl dX3_ofArea_168 ?_
      refine jg_iload_n dX3_ofArea_171 rfl rfl ?_
      refine jg_callV (c0_isCritical E ipl_1 u g.1 hO.1 hI.1 i hi (hO.2.1 i hi).2) me_X0_isCritical ml_X3_120 (pl_0 ipl_1) rfl rfl (by decide) (by decide) rfl (Nat.le_of_ble_eq_true rfl) dX3_ofArea_172 (kk_I (fun r_172 u_172 h_172 => ?_))
      obtain ⟨rfl, hF, hL2⟩ := h_172
      refine jb_if_eq 182 dX3_ofArea_175 (by decide) (fun h_175 => ?_) (fun h_175 => ?_)
      · refine jg_iconst (v := 0) dX3_ofArea_182 (by decide) ?_
        exact jg_iret (rfl) dX3_ofArea_183 ⟨_, rfl, ⟨by rw [e9]; simp [ofF, *] <;> rfl, by rw [e9]; exact hI.pc hL2 rfl hF.pf (hF.1 5 (by omega) (by omega)), fun k hk => hF.1 k (by omega) (by omega)⟩⟩
      · refine jg_iconst (v := 1) dX3_ofArea_178 (by decide) ?_
        refine jg_goto 183 dX3_ofArea_179 (by decide) ?_
        exact jg_iret (rfl) dX3_ofArea_183 ⟨_, rfl, ⟨by rw [e9]; simp [ofF, *] <;> rfl, by rw [e9]; exact hI.pc hL2 rfl hF.pf (hF.1 5 (by omega) (by omega)), fun k hk => hF.1 k (by omega) (by omega)⟩⟩
    by_cases w10 : w = 10
    · refine jg_tableIn (off := 170) 184 dX3_ofArea_14 (by rw [w10]; decide) (by rw [w10]; decide) (by rw [w10]; decide +kernel) (by decide) ?_
      refine jg_aload_n dX3_ofArea_184 rfl rfl ?_
      refine jg_getr fk_X3_14 sh_0 rfl dX3_ofArea_185 ?_
      refine jg_getr fk_X3_123 (pl_0 ipl_1) rfl dX3_ofArea_188 ?_
      refine jg_iload_n dX3_ofArea_191 rfl rfl ?_
      refine jg_ld i (pl_4 ipl_1) (by omega) (rfl) dX3_ofArea_192 ?_
      refine jg_top (y := g.2.1 i) (hI.2.1 i hi) ?_
      exact jg_iret (rfl) dX3_ofArea_193 ⟨_, rfl, ⟨by rw [e9]; simp [ofF, *], by rw [e9]; exact hI, CF.rf⟩⟩
    by_cases w11 : w = 11
    · refine jg_tableIn (off := 180) 194 dX3_ofArea_14 (by rw [w11]; decide) (by rw [w11]; decide) (by rw [w11]; decide +kernel) (by decide) ?_
      refine jg_aload_n dX3_ofArea_194 rfl rfl ?_
      refine jg_getr fk_X3_14 sh_0 rfl dX3_ofArea_195 ?_
      refine jg_getr fk_X3_126 (pl_0 ipl_1) rfl dX3_ofArea_198 ?_
      refine jg_iconst (v := 0) dX3_ofArea_201 (by decide) ?_
      refine jg_aald 0 (pl_8 ipl_1) rfl (Nat.le_of_ble_eq_true rfl) rfl dX3_ofArea_202 ?_
      refine jg_iload_n dX3_ofArea_203 rfl rfl ?_
      refine jg_ld i (pl_9 ipl_1) (by omega) (rfl) dX3_ofArea_204 ?_
      refine jg_top (y := nI (p0F g.1 i)) ((hI.1.2.1 i hi).1) ?_
      exact jg_iret (rfl) dX3_ofArea_205 ⟨_, rfl, ⟨by rw [e9]; simp [ofF, *], by rw [e9]; exact hI, CF.rf⟩⟩
    by_cases w12 : w = 12
    · refine jg_tableIn (off := 192) 206 dX3_ofArea_14 (by rw [w12]; decide) (by rw [w12]; decide) (by rw [w12]; decide +kernel) (by decide) ?_
      refine jg_aload_n dX3_ofArea_206 rfl rfl ?_
      refine jg_getr fk_X3_14 sh_0 rfl dX3_ofArea_207 ?_
      refine jg_getr fk_X3_126 (pl_0 ipl_1) rfl dX3_ofArea_210 ?_
      refine jg_iconst (v := 1) dX3_ofArea_213 (by decide) ?_
      refine jg_aald 1 (pl_8 ipl_1) rfl (Nat.le_of_ble_eq_true rfl) rfl dX3_ofArea_214 ?_
      refine jg_iload_n dX3_ofArea_215 rfl rfl ?_
      refine jg_ld i (pl_10 ipl_1) (by omega) (rfl) dX3_ofArea_216 ?_
      refine jg_top (y := nI (p1F g.1 i)) ((hI.1.2.1 i hi).2.1) ?_
      exact jg_iret (rfl) dX3_ofArea_217 ⟨_, rfl, ⟨by rw [e9]; simp [ofF, *], by rw [e9]; exact hI, CF.rf⟩⟩
    refine jg_tableOut 218 dX3_ofArea_14 (tab_out (lo := 0) (n := 13) (fun k hk => by rcases (show k = 0 ∨ k = 1 ∨ k = 2 ∨ k = 3 ∨ k = 4 ∨ k = 5 ∨ k = 6 ∨ k = 7 ∨ k = 8 ∨ k = 9 ∨ k = 10 ∨ k = 11 ∨ k = 12 by omega) with rfl | rfl | rfl | rfl | rfl | rfl | rfl | rfl | rfl | rfl | rfl | rfl | rfl <;> assumption)) (by decide) ?_
    refine jg_bipush (v := -2) dX3_ofArea_218 (by decide) ?_
    exact jg_iret (rfl) dX3_ofArea_220 ⟨_, rfl, ⟨by rw [e9]; simp [ofF, *], by rw [e9]; exact hI, CF.rf⟩⟩
  · refine jg_iconst (v := -1) dX3_ofArea_11 (by decide) ?_
    have e9 : fOf g a w = (-1, g) := by unfold fOf; rw [if_neg (by rw [h_8]; decide)]
    exact jg_iret (rfl) dX3_ofArea_12 ⟨_, rfl, ⟨by rw [e9], by rw [e9]; exact hI, CF.rf⟩⟩
set_option maxHeartbeats 4000000 in
set_option maxRecDepth 20000 in
theorem d4_ofArea (E : gT) (u : Mm) (g : Gh) (hO : Ok g) (hI : InvM u g) (a w : Int32) : Con E yX4_ofArea cX4_ofArea 3 (some .int) 4 [.ref (E.2.1 57), .int a, .int w] u (kI (fun r u2 => r = (fOf g a w).1 ∧ InvM u2 (fOf g a w).2 ∧ RF u u2)) := by
  have hn := hO.1.1
  refine Con.of (lv := [some (.ref (E.2.1 57)), some (.int a), some (.int w)]) (by decide +kernel) (Nat.le_of_ble_eq_true rfl) rfl ?_
  refine jg_aload_n dX4_ofArea_0 rfl rfl ?_
  refine jg_iload_n dX4_ofArea_1 rfl rfl ?_
  refine jg_callV (c4_isArea E u a) me_X4_isArea ml_X4_173 sh_57 rfl rfl (by decide) (by decide) rfl (Nat.le_of_ble_eq_true rfl) dX4_ofArea_2 (kk_I (fun r_2 u_2 h_2 => ?_))
  obtain ⟨rfl, rfl⟩ := h_2
  refine jg_top (y := bI (inN a (nI (pn g.1)))) (congrArg (fun z => bI (inN a z)) hI.1.1) ?_
  refine jb_if_ne 10 dX4_ofArea_5 (by decide) (fun h_5 => ?_) (fun h_5 => ?_)
  · obtain ⟨i, hi, rfl⟩ := inN_nat (by omega) h_5
    have e9 : fOf g (nI i) w = (ofF g i w, g) := by unfold fOf; rw [if_pos h_5, cl_nI (show i < 2 ^ 31 by omega)]
    refine jg_aload_n dX4_ofArea_10 rfl rfl ?_
    refine jg_callV (c4_findPlaces E u g.1 hO.1 hI.1 (fun a ha => (hO.2.1 a ha).2)) me_X4_findPlaces ml_X4_164 sh_57 rfl rfl (by decide) (by decide) rfl (Nat.le_of_ble_eq_true rfl) dX4_ofArea_11 (kk_V (fun u_11 h_11 => ?_))
    obtain ⟨hF, hX⟩ := h_11
    have hJ := hI.mf hF
    refine jg_iload_n dX4_ofArea_14 rfl rfl ?_
    by_cases w0 : w = 0
    · refine jg_tableIn (off := 65) 80 dX4_ofArea_15 (by rw [w0]; decide) (by rw [w0]; decide) (by rw [w0]; decide +kernel) (by decide) ?_
      refine jg_aload_n dX4_ofArea_80 rfl rfl ?_
      refine jg_getr fk_X4_19 sh_57 rfl dX4_ofArea_81 ?_
      refine jg_iload_n dX4_ofArea_84 rfl rfl ?_
      refine jg_ld i sh_61 (by omega) (rfl) dX4_ofArea_85 ?_
      refine jg_top (y := nI (g.1 1 i)) ((hJ.1.2 i hi).1) ?_
      exact jg_iret (rfl) dX4_ofArea_86 ⟨_, rfl, ⟨by rw [e9]; simp [ofF, *], by rw [e9]; exact hJ, hF.rf2⟩⟩
    by_cases w1 : w = 1
    · refine jg_tableIn (off := 72) 87 dX4_ofArea_15 (by rw [w1]; decide) (by rw [w1]; decide) (by rw [w1]; decide +kernel) (by decide) ?_
      refine jg_aload_n dX4_ofArea_87 rfl rfl ?_
      refine jg_getr fk_X4_22 sh_57 rfl dX4_ofArea_88 ?_
      refine jg_iload_n dX4_ofArea_91 rfl rfl ?_
      refine jg_ld i sh_62 (by omega) (rfl) dX4_ofArea_92 ?_
      refine jg_top (y := nI (g.1 2 i)) ((hJ.1.2 i hi).2.1) ?_
      exact jg_iret (rfl) dX4_ofArea_93 ⟨_, rfl, ⟨by rw [e9]; simp [ofF, *], by rw [e9]; exact hJ, hF.rf2⟩⟩
    by_cases w2 : w = 2
    · refine jg_tableIn (off := 79) 94 dX4_ofArea_15 (by rw [w2]; decide) (by rw [w2]; decide) (by rw [w2]; decide +kernel) (by decide) ?_
      refine jg_aload_n dX4_ofArea_94 rfl rfl ?_
      refine jg_getr fk_X4_25 sh_57 rfl dX4_ofArea_95 ?_
      refine jg_iload_n dX4_ofArea_98 rfl rfl ?_
      refine jg_ld i sh_63 (by omega) (rfl) dX4_ofArea_99 ?_
      refine jg_top (y := nI (g.1 3 i)) ((hJ.1.2 i hi).2.2.1) ?_
      exact jg_iret (rfl) dX4_ofArea_100 ⟨_, rfl, ⟨by rw [e9]; simp [ofF, *], by rw [e9]; exact hJ, hF.rf2⟩⟩
    by_cases w3 : w = 3
    · refine jg_tableIn (off := 86) 101 dX4_ofArea_15 (by rw [w3]; decide) (by rw [w3]; decide) (by rw [w3]; decide +kernel) (by decide) ?_
      refine jg_aload_n dX4_ofArea_101 rfl rfl ?_
      refine jg_iload_n dX4_ofArea_102 rfl rfl ?_
      refine jg_callV (c4_heightOf E u_11 g.1 hO.1 hJ.1 i hi (hO.2.1 i hi).2) me_X4_heightOf ml_X4_142 sh_57 rfl rfl (by decide) (by decide) rfl (Nat.le_of_ble_eq_true rfl) dX4_ofArea_103 (kk_I (fun r_103 u_103 h_103 => ?_))
      obtain ⟨rfl, rfl⟩ := h_103
      exact jg_iret (rfl) dX4_ofArea_106 ⟨_, rfl, ⟨by rw [e9]; simp [ofF, *], by rw [e9]; exact hJ, hF.rf2⟩⟩
    by_cases w4 : w = 4
    · refine jg_tableIn (off := 92) 107 dX4_ofArea_15 (by rw [w4]; decide) (by rw [w4]; decide) (by rw [w4]; decide +kernel) (by decide) ?_
      refine jg_aload_n dX4_ofArea_107 rfl rfl ?_
      refine jg_getr fk_X4_49 sh_57 rfl dX4_ofArea_108 ?_
      refine jg_iload_n dX4_ofArea_111 rfl rfl ?_
      refine jg_ld i sh_71 (by omega) (rfl) dX4_ofArea_112 ?_
      refine jg_top (y := nI (xF g.1 i)) ((hX.1 i hi).2.1) ?_
      exact jg_iret (rfl) dX4_ofArea_113 ⟨_, rfl, ⟨by rw [e9]; simp [ofF, *], by rw [e9]; exact hJ, hF.rf2⟩⟩
    by_cases w5 : w = 5
    · refine jg_tableIn (off := 99) 114 dX4_ofArea_15 (by rw [w5]; decide) (by rw [w5]; decide) (by rw [w5]; decide +kernel) (by decide) ?_
      refine jg_aload_n dX4_ofArea_114 rfl rfl ?_
      refine jg_getr fk_X4_52 sh_57 rfl dX4_ofArea_115 ?_
      refine jg_iload_n dX4_ofArea_118 rfl rfl ?_
      refine jg_ld i sh_72 (by omega) (rfl) dX4_ofArea_119 ?_
      refine jg_top (y := nI (yF g.1 i)) ((hX.1 i hi).2.2) ?_
      exact jg_iret (rfl) dX4_ofArea_120 ⟨_, rfl, ⟨by rw [e9]; simp [ofF, *], by rw [e9]; exact hJ, hF.rf2⟩⟩
    by_cases w6 : w = 6
    · refine jg_tableIn (off := 106) 121 dX4_ofArea_15 (by rw [w6]; decide) (by rw [w6]; decide) (by rw [w6]; decide +kernel) (by decide) ?_
      refine jg_aload_n dX4_ofArea_121 rfl rfl ?_
      refine jg_iload_n dX4_ofArea_122 rfl rfl ?_
      refine jg_callV (c4_leftOf E u_11 g.1 hO.1 hJ.1 i hi) me_X4_leftOf ml_X4_176 sh_57 rfl rfl (by decide) (by decide) rfl (Nat.le_of_ble_eq_true rfl) dX4_ofArea_123 (kk_I (fun r_123 u_123 h_123 => ?_))
      obtain ⟨rfl, rfl⟩ := h_123
      exact jg_iret (rfl) dX4_ofArea_126 ⟨_, rfl, ⟨by rw [e9]; simp [ofF, *]; rfl, by rw [e9]; exact hJ, hF.rf2⟩⟩
    by_cases w7 : w = 7
    · refine jg_tableIn (off := 112) 127 dX4_ofArea_15 (by rw [w7]; decide) (by rw [w7]; decide) (by rw [w7]; decide +kernel) (by decide) ?_
      refine jg_aload_n dX4_ofArea_127 rfl rfl ?_
      refine jg_iload_n dX4_ofArea_128 rfl rfl ?_
      refine jg_callV (c4_aboveOf E u_11 g.1 hO.1 hJ.1 i hi) me_X4_aboveOf ml_X4_179 sh_57 rfl rfl (by decide) (by decide) rfl (Nat.le_of_ble_eq_true rfl) dX4_ofArea_129 (kk_I (fun r_129 u_129 h_129 => ?_))
      obtain ⟨rfl, rfl⟩ := h_129
      exact jg_iret (rfl) dX4_ofArea_132 ⟨_, rfl, ⟨by rw [e9]; simp [ofF, *]; rfl, by rw [e9]; exact hJ, hF.rf2⟩⟩
    by_cases w8 : w = 8
    · refine jg_tableIn (off := 118) 133 dX4_ofArea_15 (by rw [w8]; decide) (by rw [w8]; decide) (by rw [w8]; decide +kernel) (by decide) ?_
      refine jg_aload_n dX4_ofArea_133 rfl rfl ?_
      refine jg_iload_n dX4_ofArea_134 rfl rfl ?_
      refine jg_callV (c4_touching E u_11 g.1 hO.1 hO.2.1 hJ.1 hX i hi) me_X4_touching ml_X4_158 sh_57 rfl rfl (by decide) (by decide) rfl (Nat.le_of_ble_eq_true rfl) dX4_ofArea_135 (kk_I (fun r_135 u_135 h_135 => ?_))
      obtain ⟨rfl, rfl⟩ := h_135
      exact jg_iret (rfl) dX4_ofArea_138 ⟨_, rfl, ⟨by rw [e9]; simp [ofF, *], by rw [e9]; exact hJ, hF.rf2⟩⟩
    by_cases w9 : w = 9
    · refine jg_tableIn (off := 124) 139 dX4_ofArea_15 (by rw [w9]; decide) (by rw [w9]; decide) (by rw [w9]; decide +kernel) (by decide) ?_
      refine jg_aload_n dX4_ofArea_139 rfl rfl ?_
      refine jg_callV (c4_critical E u_11 g.1 hO.1 (fun a ha => (hO.2.1 a ha).2) hJ.1) me_X4_critical ml_X4_182 sh_57 rfl rfl (by decide) (by decide) rfl (Nat.le_of_ble_eq_true rfl) dX4_ofArea_140 (kk_I (fun r_140 u_140 h_140 => ?_))
      obtain ⟨rfl, hF2, hX2⟩ := h_140
      refine jg_iload_n dX4_ofArea_143 rfl rfl ?_
      refine jg_ishr dX4_ofArea_144 ?_
      refine jg_iconst (v := 1) dX4_ofArea_145 (by decide) ?_
      refine jg_iand dX4_ofArea_146 ?_
      refine jg_top (y := bI (crF g.1 i)) (setF_at (crF g.1) hn hi) ?_
      exact jg_iret (rfl) dX4_ofArea_147 ⟨_, rfl, ⟨by rw [e9]; simp [ofF, *], by rw [e9]; exact hJ.mf hF2, (hF.tr hF2).rf2⟩⟩
    by_cases w10 : w = 10
    · refine jg_tableIn (off := 133) 148 dX4_ofArea_15 (by rw [w10]; decide) (by rw [w10]; decide) (by rw [w10]; decide +kernel) (by decide) ?_
      refine jg_aload_n dX4_ofArea_148 rfl rfl ?_
      refine jg_getr fk_X4_28 sh_57 rfl dX4_ofArea_149 ?_
      refine jg_iload_n dX4_ofArea_152 rfl rfl ?_
      refine jg_ld i sh_64 (by omega) (rfl) dX4_ofArea_153 ?_
      refine jg_top (y := g.2.1 i) (hJ.2.1 i hi) ?_
      exact jg_iret (rfl) dX4_ofArea_154 ⟨_, rfl, ⟨by rw [e9]; simp [ofF, *], by rw [e9]; exact hJ, hF.rf2⟩⟩
    by_cases w11 : w = 11
    · refine jg_tableIn (off := 140) 155 dX4_ofArea_15 (by rw [w11]; decide) (by rw [w11]; decide) (by rw [w11]; decide +kernel) (by decide) ?_
      refine jg_aload_n dX4_ofArea_155 rfl rfl ?_
      refine jg_iconst (v := 0) dX4_ofArea_156 (by decide) ?_
      refine jg_iload_n dX4_ofArea_157 rfl rfl ?_
      refine jg_callV (c4_placeIn E u_11 0 (pn g.1) i (g.1 6) (by decide) hn (fun k hk => by rw [Nat.zero_add]; exact (hJ.1.2 k hk).2.2.2.1) hO.1.2.2.1 hi) me_X4_placeIn ml_X4_132 sh_57 rfl rfl (by decide) (by decide) rfl (Nat.le_of_ble_eq_true rfl) dX4_ofArea_158 (kk_I (fun r_158 u_158 h_158 => ?_))
      obtain ⟨rfl, rfl⟩ := h_158
      exact jg_iret (rfl) dX4_ofArea_161 ⟨_, rfl, ⟨by rw [e9]; simp [ofF, *]; rfl, by rw [e9]; exact hJ, hF.rf2⟩⟩
    by_cases w12 : w = 12
    · refine jg_tableIn (off := 147) 162 dX4_ofArea_15 (by rw [w12]; decide) (by rw [w12]; decide) (by rw [w12]; decide +kernel) (by decide) ?_
      refine jg_aload_n dX4_ofArea_162 rfl rfl ?_
      refine jg_bipush (v := 6) dX4_ofArea_163 (by decide) ?_
      refine jg_iload_n dX4_ofArea_165 rfl rfl ?_
      refine jg_callV (c4_placeIn E u_11 6 (pn g.1) i (g.1 7) (by decide) hn (fun k hk => (hJ.1.2 k hk).2.2.2.2) hO.1.2.2.2 hi) me_X4_placeIn ml_X4_132 sh_57 rfl rfl (by decide) (by decide) rfl (Nat.le_of_ble_eq_true rfl) dX4_ofArea_166 (kk_I (fun r_166 u_166 h_166 => ?_))
      obtain ⟨rfl, rfl⟩ := h_166
      exact jg_iret (rfl) dX4_ofArea_169 ⟨_, rfl, ⟨by rw [e9]; simp [ofF, *]; rfl, by rw [e9]; exact hJ, hF.rf2⟩⟩
    refine jg_tableOut 170 dX4_ofArea_15 (tab_out (lo := 0) (n := 13) (fun k hk => by rcases (show k = 0 ∨ k = 1 ∨ k = 2 ∨ k = 3 ∨ k = 4 ∨ k = 5 ∨ k = 6 ∨ k = 7 ∨ k = 8 ∨ k = 9 ∨ k = 10 ∨ k = 11 ∨ k = 12 by omega) with rfl | rfl | rfl | rfl | rfl | rfl | rfl | rfl | rfl | rfl | rfl | rfl | rfl <;> assumption)) (by decide) ?_
    refine jg_bipush (v := -2) dX4_ofArea_170 (by decide) ?_
    exact jg_iret (rfl) dX4_ofArea_172 ⟨_, rfl, ⟨by rw [e9]; simp [ofF, *], by rw [e9]; exact hJ, hF.rf2⟩⟩
  · refine jg_iconst (v := -1) dX4_ofArea_8 (by decide) ?_
    have e9 : fOf g a w = (-1, g) := by unfold fOf; rw [if_neg (by rw [h_5]; decide)]
    exact jg_iret (rfl) dX4_ofArea_9 ⟨_, rfl, ⟨by rw [e9], by rw [e9]; exact hI, RF.rf⟩⟩
set_option maxHeartbeats 4000000 in
set_option maxRecDepth 20000 in
theorem d3_whole (E : gT) (u : Mm) (g : Gh) (hO : Ok g) (hI : InvC u g) (w : Int32) : Con E yX3_whole cX3_whole 2 (some .int) 5 [.ref (E.2.1 0), .int w] u (kI (fun r u2 => r = (fWhole g w).1 ∧ InvC u2 (fWhole g w).2 ∧ CF u u2)) := by
  have hn := hO.1.1
  refine Con.of (lv := [some (.ref (E.2.1 0)), some (.int w)]) (by decide +kernel) (Nat.le_of_ble_eq_true rfl) rfl ?_
  refine jg_iload_n dX3_whole_0 rfl rfl ?_
  refine jg_if_lt 9 dX3_whole_1 (by decide) (fun h_1 => ?_) (fun h_1 => ?_)
  · have hw9 : inR w 0 5 = false := by simp [inR, h_1]
    refine jg_bipush (v := -2) dX3_whole_9 (by decide) ?_
    exact jg_iret (rfl) dX3_whole_11 ⟨_, rfl, ⟨by simp [fWhole, *] <;> (intro z; exact absurd z (by decide)), hI, CF.rf⟩⟩
  · refine jg_iload_n dX3_whole_4 rfl rfl ?_
    refine jg_iconst (v := 5) dX3_whole_5 (by decide) ?_
    refine jg_icmp_le 12 dX3_whole_6 (by decide) (fun h_6 => ?_) (fun h_6 => ?_)
    · have hw9 : inR w 0 5 = true := by simp [inR, h_1, Int32.not_lt.mpr h_6]
      refine jg_iload_n dX3_whole_12 rfl rfl ?_
      refine jg_iconst (v := 5) dX3_whole_13 (by decide) ?_
      refine jg_icmp_ne 25 dX3_whole_14 (by decide) (fun h_14 => ?_) (fun h_14 => ?_)
      · refine jg_aload_n dX3_whole_25 rfl rfl ?_
        refine jg_getr fk_X3_14 sh_0 rfl dX3_whole_26 ?_
        refine jg_geti fk_X3_87 (pl_0 ipl_1) rfl dX3_whole_29 ?_
        refine jg_top (y := nI (pn g.1)) (hI.1.1.1) ?_
        refine jn_if_ne (pn g.1) rfl (by omega) 38 dX3_whole_32 (by decide) (fun h_32 => ?_) (fun h_32 => ?_)
        · refine jg_iload_n dX3_whole_38 rfl rfl ?_
          by_cases w0 : w = 0
          · refine jg_tableIn (off := 29) 68 dX3_whole_39 (by rw [w0]; decide) (by rw [w0]; decide) (by rw [w0]; decide +kernel) (by decide) ?_
            refine jg_aload_n dX3_whole_68 rfl rfl ?_
            refine jg_getr fk_X3_14 sh_0 rfl dX3_whole_69 ?_
            refine jg_geti fk_X3_155 (pl_0 ipl_1) rfl dX3_whole_72 ?_
            refine jg_top (y := nI (brP g.1)) (hI.1.2.2.1) ?_
            exact jg_iret (rfl) dX3_whole_75 ⟨_, rfl, ⟨by simp [fWhole, *] <;> (intro z; exact absurd z (by decide)), hI, CF.rf⟩⟩
          by_cases w1 : w = 1
          · refine jg_tableIn (off := 37) 76 dX3_whole_39 (by rw [w1]; decide) (by rw [w1]; decide) (by rw [w1]; decide +kernel) (by decide) ?_
            refine jg_aload_n dX3_whole_76 rfl rfl ?_
            refine jg_getr fk_X3_14 sh_0 rfl dX3_whole_77 ?_
            refine jg_geti fk_X3_158 (pl_0 ipl_1) rfl dX3_whole_80 ?_
            refine jg_top (y := nI (dpP g.1)) (hI.1.2.2.2) ?_
            exact jg_iret (rfl) dX3_whole_83 ⟨_, rfl, ⟨by simp [fWhole, *] <;> (intro z; exact absurd z (by decide)), hI, CF.rf⟩⟩
          by_cases w2 : w = 2
          · refine jg_tableIn (off := 45) 84 dX3_whole_39 (by rw [w2]; decide) (by rw [w2]; decide) (by rw [w2]; decide +kernel) (by decide) ?_
            refine jg_aload_n dX3_whole_84 rfl rfl ?_
            refine jg_getr fk_X3_14 sh_0 rfl dX3_whole_85 ?_
            refine jg_callV (c0_waste E ipl_1 u g.1 hO.1 hI.1) me_X0_waste ml_X3_161 (pl_0 ipl_1) rfl rfl (by decide) (by decide) rfl (Nat.le_of_ble_eq_true rfl) dX3_whole_88 (kk_I (fun r_88 u_88 h_88 => ?_))
            obtain ⟨rfl, rfl⟩ := h_88
            exact jg_iret (rfl) dX3_whole_91 ⟨_, rfl, ⟨by simp [fWhole, *] <;> (intro z; exact absurd z (by decide)), hI, CF.rf⟩⟩
          by_cases w3 : w = 3
          · refine jg_tableIn (off := 53) 92 dX3_whole_39 (by rw [w3]; decide) (by rw [w3]; decide) (by rw [w3]; decide +kernel) (by decide) ?_
            refine jg_aload_n dX3_whole_92 rfl rfl ?_
            refine jg_getr fk_X3_14 sh_0 rfl dX3_whole_93 ?_
            refine jg_callV (c0_touchingTwos E ipl_1 u g.1 hO.1 hI.1) me_X0_touchingTwos ml_X3_165 (pl_0 ipl_1) rfl rfl (by decide) (by decide) rfl (Nat.le_of_ble_eq_true rfl) dX3_whole_96 (kk_I (fun r_96 u_96 h_96 => ?_))
            obtain ⟨rfl, rfl⟩ := h_96
            exact jg_iret (rfl) dX3_whole_99 ⟨_, rfl, ⟨by simp [fWhole, *] <;> (intro z; exact absurd z (by decide)), hI, CF.rf⟩⟩
          refine jg_tableOut 100 dX3_whole_39 (tab_out (lo := 0) (n := 4) (fun k hk => by rcases (show k = 0 ∨ k = 1 ∨ k = 2 ∨ k = 3 by omega) with rfl | rfl | rfl | rfl <;> assumption)) (by decide) ?_
          refine jg_aload_n dX3_whole_100 rfl rfl ?_
          refine jg_getr fk_X3_14 sh_0 rfl dX3_whole_101 ?_
          refine jg_callV (c0_criticalOnes E ipl_1 u g.1 hO.1 hI.1 (fun a ha => (hO.2.1 a ha).2)) me_X0_criticalOnes ml_X3_168 (pl_0 ipl_1) rfl rfl (by decide) (by decide) rfl (Nat.le_of_ble_eq_true rfl) dX3_whole_104 (kk_I (fun r_104 u_104 h_104 => ?_))
          obtain ⟨rfl, hF, hL2⟩ := h_104
          exact jg_iret (rfl) dX3_whole_107 ⟨_, rfl, ⟨by simp [fWhole, *] <;> (intro z; exact absurd z (by decide)), hI.pc hL2 rfl hF.pf (hF.1 5 (by omega) (by omega)), fun k hk => hF.1 k (by omega) (by omega)⟩⟩
        · refine jg_bipush (v := -3) dX3_whole_35 (by decide) ?_
          exact jg_iret (rfl) dX3_whole_37 ⟨_, rfl, ⟨by simp [fWhole, *] <;> (intro z; exact absurd z (by decide)), hI, CF.rf⟩⟩
      · refine jg_aload_n dX3_whole_17 rfl rfl ?_
        refine jg_getr fk_X3_24 sh_0 rfl dX3_whole_18 ?_
        refine jg_geti fk_X3_152 sh_29 rfl dX3_whole_21 ?_
        refine jg_top (y := g.2.2.1) (hI.2.2.1) ?_
        exact jg_iret (rfl) dX3_whole_24 ⟨_, rfl, ⟨by simp [fWhole, *] <;> (intro z; exact absurd z (by decide)), hI, CF.rf⟩⟩
    · have hw9 : inR w 0 5 = false := by simp [inR, Int32.not_le.mp h_6]
      refine jg_bipush (v := -2) dX3_whole_9 (by decide) ?_
      exact jg_iret (rfl) dX3_whole_11 ⟨_, rfl, ⟨by simp [fWhole, *] <;> (intro z; exact absurd z (by decide)), hI, CF.rf⟩⟩
set_option maxHeartbeats 4000000 in
set_option maxRecDepth 20000 in
theorem d4_whole (E : gT) (u : Mm) (g : Gh) (hO : Ok g) (hI : InvM u g) (w : Int32) : Con E yX4_whole cX4_whole 2 (some .int) 4 [.ref (E.2.1 57), .int w] u (kI (fun r u2 => r = (fWhole g w).1 ∧ InvM u2 (fWhole g w).2 ∧ RF u u2)) := by
  have hn := hO.1.1
  refine Con.of (lv := [some (.ref (E.2.1 57)), some (.int w)]) (by decide +kernel) (Nat.le_of_ble_eq_true rfl) rfl ?_
  refine jg_iload_n dX4_whole_0 rfl rfl ?_
  refine jg_iconst (v := 0) dX4_whole_1 (by decide) ?_
  refine jg_iconst (v := 5) dX4_whole_2 (by decide) ?_
  refine jg_callS (c4_within E u w 0 5) me_X4_within ml_X4_82 rfl (by decide) (by decide) rfl (Nat.le_of_ble_eq_true rfl) dX4_whole_3 (kk_I (fun r_3 u_3 h_3 => ?_))
  obtain ⟨rfl, rfl⟩ := h_3
  refine jb_if_ne 12 dX4_whole_6 (by decide) (fun h_6 => ?_) (fun h_6 => ?_)
  · refine jg_iload_n dX4_whole_12 rfl rfl ?_
    refine jg_iconst (v := 5) dX4_whole_13 (by decide) ?_
    refine jg_icmp_ne 22 dX4_whole_14 (by decide) (fun h_14 => ?_) (fun h_14 => ?_)
    · refine jg_aload_n dX4_whole_22 rfl rfl ?_
      refine jg_geti fk_X4_86 sh_57 rfl dX4_whole_23 ?_
      refine jg_top (y := nI (pn g.1)) (hI.1.1) ?_
      refine jn_if_ne (pn g.1) rfl (by omega) 32 dX4_whole_26 (by decide) (fun h_26 => ?_) (fun h_26 => ?_)
      · refine jg_aload_n dX4_whole_32 rfl rfl ?_
        refine jg_callV (c4_findPlaces E u g.1 hO.1 hI.1 (fun a ha => (hO.2.1 a ha).2)) me_X4_findPlaces ml_X4_164 sh_57 rfl rfl (by decide) (by decide) rfl (Nat.le_of_ble_eq_true rfl) dX4_whole_33 (kk_V (fun u_33 h_33 => ?_))
        obtain ⟨hF, hX⟩ := h_33
        have hJ := hI.mf hF
        refine jg_iload_n dX4_whole_36 rfl rfl ?_
        refine jg_if_ne 47 dX4_whole_37 (by decide) (fun h_37 => ?_) (fun h_37 => ?_)
        · refine jg_iload_n dX4_whole_47 rfl rfl ?_
          refine jg_iconst (v := 1) dX4_whole_48 (by decide) ?_
          refine jg_icmp_ne 59 dX4_whole_49 (by decide) (fun h_49 => ?_) (fun h_49 => ?_)
          · refine jg_iload_n dX4_whole_59 rfl rfl ?_
            refine jg_iconst (v := 2) dX4_whole_60 (by decide) ?_
            refine jg_icmp_ne 71 dX4_whole_61 (by decide) (fun h_61 => ?_) (fun h_61 => ?_)
            · refine jg_iload_n dX4_whole_71 rfl rfl ?_
              refine jg_iconst (v := 3) dX4_whole_72 (by decide) ?_
              refine jg_icmp_ne 83 dX4_whole_73 (by decide) (fun h_73 => ?_) (fun h_73 => ?_)
              · refine jg_aload_n dX4_whole_83 rfl rfl ?_
                refine jg_callV (c4_critical E u_33 g.1 hO.1 (fun a ha => (hO.2.1 a ha).2) hJ.1) me_X4_critical ml_X4_182 sh_57 rfl rfl (by decide) (by decide) rfl (Nat.le_of_ble_eq_true rfl) dX4_whole_84 (kk_I (fun r_84 u_84 h_84 => ?_))
                obtain ⟨rfl, hF2, hX2⟩ := h_84
                replace hJ := hJ.mf hF2
                replace hF := hF.tr hF2
                exact jg_iret (rfl) dX4_whole_87 ⟨_, rfl, ⟨by simp [fWhole, *] <;> (intro z; exact absurd z (by decide)), hJ, hF.rf2⟩⟩
              · refine jg_aload_n dX4_whole_76 rfl rfl ?_
                refine jg_callV (c4_manyTouch E u_33 g.1 hO.1 hO.2.1 hJ.1 hX) me_X4_manyTouch ml_X4_193 sh_57 rfl rfl (by decide) (by decide) rfl (Nat.le_of_ble_eq_true rfl) dX4_whole_77 (kk_I (fun r_77 u_77 h_77 => ?_))
                obtain ⟨rfl, rfl⟩ := h_77
                refine jg_goto 87 dX4_whole_80 (by decide) ?_
                exact jg_iret (rfl) dX4_whole_87 ⟨_, rfl, ⟨by simp [fWhole, *] <;> (intro z; exact absurd z (by decide)), hJ, hF.rf2⟩⟩
            · refine jg_aload_n dX4_whole_64 rfl rfl ?_
              refine jg_callV (c4_waste E u_33 g.1 hO.1 hO.2.1 hJ.1 hX) me_X4_waste ml_X4_190 sh_57 rfl rfl (by decide) (by decide) rfl (Nat.le_of_ble_eq_true rfl) dX4_whole_65 (kk_I (fun r_65 u_65 h_65 => ?_))
              obtain ⟨rfl, rfl⟩ := h_65
              refine jg_goto 87 dX4_whole_68 (by decide) ?_
              exact jg_iret (rfl) dX4_whole_87 ⟨_, rfl, ⟨by simp [fWhole, *] <;> (intro z; exact absurd z (by decide)), hJ, hF.rf2⟩⟩
          · refine jg_aload_n dX4_whole_52 rfl rfl ?_
            refine jg_geti fk_X4_139 sh_57 rfl dX4_whole_53 ?_
            refine jg_top (y := nI (dpP g.1)) (hX.2.2) ?_
            refine jg_goto 87 dX4_whole_56 (by decide) ?_
            exact jg_iret (rfl) dX4_whole_87 ⟨_, rfl, ⟨by simp [fWhole, *] <;> (intro z; exact absurd z (by decide)), hJ, hF.rf2⟩⟩
        · refine jg_aload_n dX4_whole_40 rfl rfl ?_
          refine jg_geti fk_X4_136 sh_57 rfl dX4_whole_41 ?_
          refine jg_top (y := nI (brP g.1)) (hX.2.1) ?_
          refine jg_goto 87 dX4_whole_44 (by decide) ?_
          exact jg_iret (rfl) dX4_whole_87 ⟨_, rfl, ⟨by simp [fWhole, *] <;> (intro z; exact absurd z (by decide)), hJ, hF.rf2⟩⟩
      · refine jg_bipush (v := -3) dX4_whole_29 (by decide) ?_
        exact jg_iret (rfl) dX4_whole_31 ⟨_, rfl, ⟨by simp [fWhole, *] <;> (intro z; exact absurd z (by decide)), hI, RF.rf⟩⟩
    · refine jg_aload_n dX4_whole_17 rfl rfl ?_
      refine jg_geti fk_X4_129 sh_57 rfl dX4_whole_18 ?_
      refine jg_top (y := g.2.2.1) (hI.2.2.1) ?_
      exact jg_iret (rfl) dX4_whole_21 ⟨_, rfl, ⟨by simp [fWhole, *] <;> (intro z; exact absurd z (by decide)), hI, RF.rf⟩⟩
  · refine jg_bipush (v := -2) dX4_whole_9 (by decide) ?_
    exact jg_iret (rfl) dX4_whole_11 ⟨_, rfl, ⟨by simp [fWhole, *] <;> (intro z; exact absurd z (by decide)), hI, RF.rf⟩⟩
set_option maxHeartbeats 4000000 in
set_option maxRecDepth 20000 in
theorem d3_squeeze (E : gT) (u : Mm) (g : Gh) (hO : Ok g) (hI : InvC u g) (v : Int32) : Con E yX3_squeeze cX3_squeeze 4 (some .int) 6 [.ref (E.2.1 0), .int v] u (kI (fun r u2 => r = (fSq g v).1 ∧ InvC u2 (fSq g v).2 ∧ CF u u2)) := by
  have hn := hO.1.1
  refine Con.of (lv := [some (.ref (E.2.1 0)), some (.int v), none, none]) (by decide +kernel) (Nat.le_of_ble_eq_true rfl) rfl ?_
  refine jg_iload_n dX3_squeeze_0 rfl rfl ?_
  refine jg_iconst (v := 1) dX3_squeeze_1 (by decide) ?_
  refine jg_icmp_lt 11 dX3_squeeze_2 (by decide) (fun h_2 => ?_) (fun h_2 => ?_)
  · have hv9 : inR v 1 60 = false := by simp [inR, h_2]
    refine jg_bipush (v := -2) dX3_squeeze_11 (by decide) ?_
    have e9 : fSq g v = (-2, g) := by unfold fSq; rw [if_neg (by rw [hv9]; decide)]
    exact jg_iret (rfl) dX3_squeeze_13 ⟨_, rfl, ⟨by rw [e9], by rw [e9]; exact hI, CF.rf⟩⟩
  · refine jg_iload_n dX3_squeeze_5 rfl rfl ?_
    refine jg_bipush (v := 60) dX3_squeeze_6 (by decide) ?_
    refine jg_icmp_le 14 dX3_squeeze_8 (by decide) (fun h_8 => ?_) (fun h_8 => ?_)
    · have hv9 : inR v 1 60 = true := by simp [inR, h_2, Int32.not_lt.mpr h_8]
      obtain ⟨w, hw1, hw2, rfl⟩ := inR_nat (lo := 1) (hi := 60) (by omega) hv9 (by omega)
      refine jg_aload_n dX3_squeeze_14 rfl rfl ?_
      refine jg_getr fk_X3_14 sh_0 rfl dX3_squeeze_15 ?_
      refine jg_geti fk_X3_87 (pl_0 ipl_1) rfl dX3_squeeze_18 ?_
      refine jg_top (y := nI (pn g.1)) (hI.1.1.1) ?_
      refine jn_if_ne (pn g.1) rfl (by omega) 27 dX3_squeeze_21 (by decide) (fun h_21 => ?_) (fun h_21 => ?_)
      · refine jg_aload_n dX3_squeeze_27 rfl rfl ?_
        refine jg_getr fk_X3_18 sh_0 rfl dX3_squeeze_28 ?_
        refine jg_aload_n dX3_squeeze_31 rfl rfl ?_
        refine jg_getr fk_X3_14 sh_0 rfl dX3_squeeze_32 ?_
        refine jg_callV (c0_becomeLike E ipl_15 ipl_1 (by decide) u g.1 hO.1 hI.1.1) me_X0_becomeLike ml_X3_80 (pl_0 ipl_15) rfl rfl (by decide) (by decide) rfl (Nat.le_of_ble_eq_true rfl) dX3_squeeze_35 (kk_V (fun u_35 h_35 => ?_))
        obtain ⟨hF0, hL0, hs0⟩ := h_35
        refine jg_iconst (v := 0) dX3_squeeze_38 (by decide) ?_
        refine jg_istore_n dX3_squeeze_39 rfl (by decide) rfl ?_
        have cut_40 : ∀ (m r : Nat) (p : Pic) (x : Mm), r ≤ 49 → 49 < r + m → PicOk p → PicP p → pn p = pn g.1 → PF 15 u x → (∀ i, i < 6 → x 19 i = u 5 i) → PlL 15 x p → (r ≤ 48 → sqR w (48 - r) p r = sqR w 48 g.1 0) → (48 < r → sqR w 48 g.1 0 = none) → G E cX3_squeeze 4 (yX3_squeeze).cls (some .int) 6 (kI (fun r u2 => r = (fSq g (nI w)).1 ∧ InvC u2 (fSq g (nI w)).2 ∧ CF u u2)) 40 [some (.ref (E.2.1 0)), some (.int (nI w)), some (.int (nI r)), none] [] x := by
          intro m
          induction m with
          | zero => intro r p x h1 h2; omega
          | succ m ih =>
            intro r p x hr hm hp hpp hpn hF hs hL hT1 hT2
            refine jg_iload_n dX3_squeeze_40 rfl rfl ?_
            refine jg_bipush (v := 48) dX3_squeeze_41 (by decide) ?_
            refine jn_icmp_gt r 48 rfl rfl (by omega) (by omega) 112 dX3_squeeze_43 (by decide) (fun h_43 => ?_) (fun h_43 => ?_)
            · have hTn : sqR w 48 g.1 0 = none := hT2 h_43
              have e9 : fSq g (nI w) = (-9, g) := by unfold fSq; rw [if_pos hv9, if_neg h_21, cl_nI (show w < 2 ^ 31 by omega), hTn]
              refine jg_bipush (v := -9) dX3_squeeze_112 (by decide) ?_
              exact jg_iret (rfl) dX3_squeeze_114 ⟨_, rfl, ⟨by rw [e9], by rw [e9]; exact hI.tl hF, hF.cf15⟩⟩
            · have hT := hT1 h_43
              have bb := brP_le hp
              refine jg_aload_n dX3_squeeze_46 rfl rfl ?_
              refine jg_getr fk_X3_18 sh_0 rfl dX3_squeeze_47 ?_
              refine jg_geti fk_X3_155 (pl_0 ipl_15) rfl dX3_squeeze_50 ?_
              refine jg_top (y := nI (brP p)) (hL.2.2.1) ?_
              refine jg_iload_n dX3_squeeze_53 rfl rfl ?_
              refine jn_icmp_gt (brP p) w rfl rfl (by omega) (by omega) 70 dX3_squeeze_54 (by decide) (fun h_54 => ?_) (fun h_54 => ?_)
              · have hno : ¬ brP p ≤ w := by omega
                refine jg_aload_n dX3_squeeze_70 rfl rfl ?_
                refine jg_getr fk_X3_18 sh_0 rfl dX3_squeeze_71 ?_
                refine jg_callV (c0_nextToNarrow E ipl_15 x p hp hL (fun a ha => (hpp a ha).2)) me_X0_nextToNarrow ml_X3_171 (pl_0 ipl_15) rfl rfl (by decide) (by decide) rfl (Nat.le_of_ble_eq_true rfl) dX3_squeeze_74 (kk_I (fun r_74 u_74 h_74 => ?_))
                obtain ⟨rfl, hF2, hL2⟩ := h_74
                refine jg_istore_n dX3_squeeze_77 rfl (by decide) rfl ?_
                refine jg_iload_n dX3_squeeze_78 rfl rfl ?_
                refine jg_iconst (v := -1) dX3_squeeze_79 (by decide) ?_
                refine jg_icmp_ne 86 dX3_squeeze_80 (by decide) (fun h_80 => ?_) (fun h_80 => ?_)
                · obtain ⟨a, ha⟩ := oI_iss h_80
                  obtain ⟨ha1, ha2⟩ := nxO_in ha
                  have hwa := (hp.2.1 a ha1).2.2
                  rw [ha, oI_some]
                  refine jg_aload_n dX3_squeeze_86 rfl rfl ?_
                  refine jg_getr fk_X3_18 sh_0 rfl dX3_squeeze_87 ?_
                  refine jg_getr fk_X3_99 (pl_0 ipl_15) rfl dX3_squeeze_90 ?_
                  refine jg_iload_n dX3_squeeze_93 rfl rfl ?_
                  refine jg_dup2 dX3_squeeze_94 rfl rfl ?_
                  refine jg_ld a (pl_3 ipl_15) (by omega) (rfl) dX3_squeeze_95 ?_
                  refine jg_top (y := nI (p 3 a)) ((hL2.1.2 a ha1).2.2.1) ?_
                  refine jg_iconst (v := 1) dX3_squeeze_96 (by decide) ?_
                  refine jg_isubE (z := nI (p 3 a - 1)) dX3_squeeze_97 (pk_sub (a := p 3 a) (b := 1) (by omega)) ?_
                  refine jg_st a (pl_3 ipl_15) (by omega) (rfl) dX3_squeeze_98 ?_
                  refine jg_aload_n dX3_squeeze_99 rfl rfl ?_
                  refine jg_getr fk_X3_18 sh_0 rfl dX3_squeeze_100 ?_
                  refine jg_callV (c0_lay E ipl_15 (s2 u_74 (15 + 3) a (nI (p 3 a - 1))) (dcP p a) (dc_ok hp ha1) (hL2.1.wd a (p 3 a - 1))) me_X0_lay ml_X3_133 (pl_0 ipl_15) rfl rfl (by decide) (by decide) rfl (Nat.le_of_ble_eq_true rfl) dX3_squeeze_103 (kk_V (fun u_103 h_103 => ?_))
                  obtain ⟨hF3, hL3⟩ := h_103
                  refine jg_iinc (v := nI (r + 1)) dX3_squeeze_106 rfl (nI_1 r) (by decide) rfl ?_
                  refine jg_goto 40 dX3_squeeze_109 (by decide) ?_
                  exact jg_weak (gLe_s (gLe_s (gLe_s (gLe_n gLe_nil)))) (ih (r + 1) (dcP p a) _ (by omega) (by omega) (dc_ok hp ha1) (dc_p hpp ha2) hpn (fun k hk => by rw [hF3.1 k (by omega) (by omega), s2_row (by omega), hF2.1 k (by omega) (by omega)]; exact hF k hk) (fun i hi => by rw [hF3.1 19 (by omega) (by omega), s2_row (by omega), hF2.1 19 (by omega) (by omega)]; exact hs i hi) hL3 (fun z => by rw [← hT, show 48 - r = 48 - (r + 1) + 1 by omega, sq_go hno ha]) (fun z => by rw [← hT, show 48 - r = 0 by omega]; exact if_neg hno))
                · have hnn := oI_isn (by decide) (by omega) (fun a z => (nxO_in z).1) h_80
                  have hTn : sqR w 48 g.1 0 = none := by rw [← hT]; exact sq_no hno hnn
                  have e9 : fSq g (nI w) = (-9, g) := by unfold fSq; rw [if_pos hv9, if_neg h_21, cl_nI (show w < 2 ^ 31 by omega), hTn]
                  refine jg_bipush (v := -9) dX3_squeeze_83 (by decide) ?_
                  exact jg_iret (rfl) dX3_squeeze_85 ⟨_, rfl, ⟨by rw [e9], by rw [e9]; exact hI.tl (hF.tr hF2.pf), (hF.tr hF2.pf).cf15⟩⟩
              · rw [sq_yes h_54] at hT
                refine jg_aload_n dX3_squeeze_57 rfl rfl ?_
                refine jg_getr fk_X3_14 sh_0 rfl dX3_squeeze_58 ?_
                refine jg_aload_n dX3_squeeze_61 rfl rfl ?_
                refine jg_getr fk_X3_18 sh_0 rfl dX3_squeeze_62 ?_
                refine jg_callV (c0_becomeLike E ipl_1 ipl_15 (by decide) x p hp hL.1) me_X0_becomeLike ml_X3_80 (pl_0 ipl_1) rfl rfl (by decide) (by decide) rfl (Nat.le_of_ble_eq_true rfl) dX3_squeeze_65 (kk_V (fun u_65 h_65 => ?_))
                obtain ⟨hF1, hL1, hs1⟩ := h_65
                refine jg_iload_n dX3_squeeze_68 rfl rfl ?_
                have e9 : fSq g (nI w) = (nI r, wPc g p) := by unfold fSq; rw [if_pos hv9, if_neg h_21, cl_nI (show w < 2 ^ 31 by omega), ← hT]
                exact jg_iret (rfl) dX3_squeeze_69 ⟨_, rfl, ⟨by rw [e9], by rw [e9]; exact (hI.tl hF).pc6 hL1 hpn hF1 (fun i hi => by rw [hs1 i (by omega), hs i (by omega), hF 5 (by omega)]), fun k hk => by rw [hF1 k (by omega), hF k (by omega)]⟩⟩
        exact cut_40 50 0 g.1 _ (by omega) (by omega) hO.1 hO.2.1 rfl hF0 hs0 hL0 (fun _ => rfl) (fun z => by omega)
      · refine jg_bipush (v := -3) dX3_squeeze_24 (by decide) ?_
        have e9 : fSq g (nI w) = (-3, g) := by unfold fSq; rw [if_pos hv9, if_pos h_21]
        exact jg_iret (rfl) dX3_squeeze_26 ⟨_, rfl, ⟨by rw [e9], by rw [e9]; exact hI, CF.rf⟩⟩
    · have hv9 : inR v 1 60 = false := by simp [inR, Int32.not_le.mp h_8]
      refine jg_bipush (v := -2) dX3_squeeze_11 (by decide) ?_
      have e9 : fSq g v = (-2, g) := by unfold fSq; rw [if_neg (by rw [hv9]; decide)]
      exact jg_iret (rfl) dX3_squeeze_13 ⟨_, rfl, ⟨by rw [e9], by rw [e9]; exact hI, CF.rf⟩⟩
set_option maxHeartbeats 4000000 in
set_option maxRecDepth 20000 in
theorem d4_squeeze (E : gT) (u : Mm) (g : Gh) (hO : Ok g) (hI : InvM u g) (v : Int32) : Con E yX4_squeeze cX4_squeeze 6 (some .int) 4 [.ref (E.2.1 57), .int v] u (kI (fun r u2 => r = (fSq g v).1 ∧ InvM u2 (fSq g v).2 ∧ RF u u2)) := by
  have hn := hO.1.1
  refine Con.of (lv := [some (.ref (E.2.1 57)), some (.int v), none, none, none, none]) (by decide +kernel) (Nat.le_of_ble_eq_true rfl) rfl ?_
  refine jg_iload_n dX4_squeeze_0 rfl rfl ?_
  refine jg_iconst (v := 1) dX4_squeeze_1 (by decide) ?_
  refine jg_bipush (v := 60) dX4_squeeze_2 (by decide) ?_
  refine jg_callS (c4_within E u v 1 60) me_X4_within ml_X4_82 rfl (by decide) (by decide) rfl (Nat.le_of_ble_eq_true rfl) dX4_squeeze_4 (kk_I (fun r_4 u_4 h_4 => ?_))
  obtain ⟨rfl, rfl⟩ := h_4
  refine jb_if_ne 13 dX4_squeeze_7 (by decide) (fun h_7 => ?_) (fun h_7 => ?_)
  · obtain ⟨w, hw1, hw2, rfl⟩ := inR_nat (lo := 1) (hi := 60) (by omega) h_7 (by omega)
    have hv9 := h_7
    refine jg_aload_n dX4_squeeze_13 rfl rfl ?_
    refine jg_geti fk_X4_86 sh_57 rfl dX4_squeeze_14 ?_
    refine jg_top (y := nI (pn g.1)) (hI.1.1) ?_
    refine jn_if_ne (pn g.1) rfl (by omega) 23 dX4_squeeze_17 (by decide) (fun h_17 => ?_) (fun h_17 => ?_)
    · refine jg_iconst (v := 0) dX4_squeeze_23 (by decide) ?_
      refine jg_istore_n dX4_squeeze_24 rfl (by decide) rfl ?_
      have cut_25 : ∀ (m i : Nat) (x : Mm), i ≤ pn g.1 → pn g.1 < i + m → SF u x → x 63 = u 63 → (∀ q, q < i → x 74 q = nI (g.1 3 q)) → G E cX4_squeeze 6 (yX4_squeeze).cls (some .int) 4 (kI (fun r u2 => r = (fSq g (nI w)).1 ∧ InvM u2 (fSq g (nI w)).2 ∧ RF u u2)) 25 [some (.ref (E.2.1 57)), some (.int (nI w)), some (.int (nI i)), none, none, none] [] x := by
        intro m
        induction m with
        | zero => intro i x h1 h2; omega
        | succ m ih =>
          intro i x hi hm hF h63 hk74
          refine jg_iload_n dX4_squeeze_25 rfl rfl ?_
          refine jg_aload_n dX4_squeeze_26 rfl rfl ?_
          refine jg_geti fk_X4_86 sh_57 rfl dX4_squeeze_27 ?_
          refine jg_top (y := nI (pn g.1)) ((hF.2 5 (by decide) (by decide)).trans hI.1.1) ?_
          refine jn_icmp_ge i (pn g.1) rfl rfl (by omega) (by omega) 51 dX4_squeeze_30 (by decide) (fun h_30 => ?_) (fun h_30 => ?_)
          · obtain rfl : i = pn g.1 := by omega
            have hB0 : MdB x g.1 := hI.1.back hF (fun i hi => by rw [h63]; exact (hI.1.2 i hi).2.2.1)
            refine jg_iconst (v := 0) dX4_squeeze_51 (by decide) ?_
            refine jg_istore_n dX4_squeeze_52 rfl (by decide) rfl ?_
            refine jg_aload_n dX4_squeeze_53 rfl rfl ?_
            refine jg_callV (c4_critical E x g.1 hO.1 (fun a ha => (hO.2.1 a ha).2) hB0) me_X4_critical ml_X4_182 sh_57 rfl rfl (by decide) (by decide) rfl (Nat.le_of_ble_eq_true rfl) dX4_squeeze_54 (kk_I (fun r_54 u_54 h_54 => ?_))
            obtain ⟨rfl, hF5, hX5⟩ := h_54
            refine jg_istore_n dX4_squeeze_57 rfl (by decide) rfl ?_
            have cut_58 : ∀ (M m r : Nat) (p : Pic) (x : Mm), m < M → muF p (pn p) ≤ m → PicOk p → PicP p → pn p = pn g.1 → SF u x → (∀ q, q < pn g.1 → x 74 q = nI (g.1 3 q)) → MdB x p → MdL x p → sqR w m p r = sqR w 48 g.1 0 → G E cX4_squeeze 6 (yX4_squeeze).cls (some .int) 4 (kI (fun r u2 => r = (fSq g (nI w)).1 ∧ InvM u2 (fSq g (nI w)).2 ∧ RF u u2)) 58 [some (.ref (E.2.1 57)), some (.int (nI w)), some (.int (nI r)), some (.int (nI (setF (crF p) (pn p)))), none, none] [] x := by
              intro M
              induction M with
              | zero => intro m r p x h1; omega
              | succ M ih2 =>
                intro m r p x hM hmu0 hp hpp hpn hF hk74 hB hX hT
                have bb := brP_le hp
                have hn2 := hp.1
                refine jg_aload_n dX4_squeeze_58 rfl rfl ?_
                refine jg_geti fk_X4_136 sh_57 rfl dX4_squeeze_59 ?_
                refine jg_top (y := nI (brP p)) (hX.2.1) ?_
                refine jg_iload_n dX4_squeeze_62 rfl rfl ?_
                refine jn_icmp_le (brP p) w rfl rfl (by omega) (by omega) 163 dX4_squeeze_63 (by decide) (fun h_63 => ?_) (fun h_63 => ?_)
                · rw [sq_yes h_63] at hT
                  have e9 : fSq g (nI w) = (nI r, wPc g p) := by unfold fSq; rw [if_pos hv9, if_neg h_17, cl_nI (show w < 2 ^ 31 by omega), ← hT]
                  refine jg_iload_n dX4_squeeze_163 rfl rfl ?_
                  exact jg_iret (rfl) dX4_squeeze_164 ⟨_, rfl, ⟨by rw [e9], by rw [e9]; exact hI.sf hF hB hpn, hF.rf2⟩⟩
                · have hno : ¬ brP p ≤ w := by omega
                  refine jg_aload_n dX4_squeeze_66 rfl rfl ?_
                  refine jg_iload_n dX4_squeeze_67 rfl rfl ?_
                  refine jg_callV (c4_widestOf E x p hp hB _ (crF p) (fun a ha => setF_at (crF p) (by omega) ha)) me_X4_widestOf ml_X4_196 sh_57 rfl rfl (by decide) (by decide) rfl (Nat.le_of_ble_eq_true rfl) dX4_squeeze_68 (kk_I (fun r_68 u_68 h_68 => ?_))
                  obtain ⟨rfl, rfl⟩ := h_68
                  refine jg_istore dX4_squeeze_71 (by decide) rfl ?_
                  refine jg_iload dX4_squeeze_73 rfl ?_
                  refine jg_bipush (v := -9) dX4_squeeze_75 (by decide) ?_
                  refine jg_icmp_ne 95 dX4_squeeze_77 (by decide) (fun h_77 => ?_) (fun h_77 => ?_)
                  · obtain ⟨a0, ha0⟩ := oI_iss h_77
                    have enx : nxO p = wsO (crF p) (p 3) (pn p) := by unfold nxO; rw [ha0]
                    refine jg_iload dX4_squeeze_95 rfl ?_
                    refine jg_top (y := oI (-9) (nxO p)) (congrArg (oI (-9)) enx.symm) ?_
                    refine jg_istore dX4_squeeze_97 (by decide) rfl ?_
                    refine jg_iload dX4_squeeze_99 rfl ?_
                    refine jg_bipush (v := -9) dX4_squeeze_101 (by decide) ?_
                    refine jg_icmp_ne 141 dX4_squeeze_103 (by decide) (fun h_103 => ?_) (fun h_103 => ?_)
                    · obtain ⟨a, ha⟩ := oI_iss h_103
                      obtain ⟨ha1, ha2⟩ := nxO_in ha
                      have hwa := (hp.2.1 a ha1).2.2
                      have hmu := nxO_mu ha
                      rw [ha, oI_some]
                      refine jg_aload_n dX4_squeeze_141 rfl rfl ?_
                      refine jg_getr fk_X4_25 sh_57 rfl dX4_squeeze_142 ?_
                      refine jg_iload dX4_squeeze_145 rfl ?_
                      refine jg_dup2 dX4_squeeze_147 rfl rfl ?_
                      refine jg_ld a sh_63 (by omega) (rfl) dX4_squeeze_148 ?_
                      refine jg_top (y := nI (p 3 a)) ((hB.2 a ha1).2.2.1) ?_
                      refine jg_iconst (v := 1) dX4_squeeze_149 (by decide) ?_
                      refine jg_isubE (z := nI (p 3 a - 1)) dX4_squeeze_150 (pk_sub (a := p 3 a) (b := 1) (by omega)) ?_
                      refine jg_st a sh_63 (by omega) (rfl) dX4_squeeze_151 ?_
                      refine jg_iinc (v := nI (r + 1)) dX4_squeeze_152 rfl (nI_1 r) (by decide) rfl ?_
                      refine jg_aload_n dX4_squeeze_155 rfl rfl ?_
                      refine jg_callV (c4_critical E (s2 x 63 a (nI (p 3 a - 1))) (dcP p a) (dc_ok hp ha1) (fun i hi => (dc_p hpp ha2 i hi).2) (hB.wd a (p 3 a - 1))) me_X4_critical ml_X4_182 sh_57 rfl rfl (by decide) (by decide) rfl (Nat.le_of_ble_eq_true rfl) dX4_squeeze_156 (kk_I (fun r_156 u_156 h_156 => ?_))
                      obtain ⟨rfl, hF5, hX5⟩ := h_156
                      refine jg_istore_n dX4_squeeze_159 rfl (by decide) rfl ?_
                      refine jg_goto 58 dX4_squeeze_160 (by decide) ?_
                      obtain ⟨m, rfl⟩ : ∃ z, m = z + 1 := ⟨m - 1, by omega⟩
                      exact jg_weak (gLe_s (gLe_s (gLe_s (gLe_s (gLe_n (gLe_n gLe_nil)))))) (ih2 m (r + 1) (dcP p a) _ (by omega) (by have z9 : pn (dcP p a) = pn p := rfl; rw [z9]; omega) (dc_ok hp ha1) (dc_p hpp ha2) hpn ((hF.put (Or.inl rfl)).mf hF5) (fun q hq => by rw [hF5.1 74 (by decide) (by decide) (by decide) (by decide), s2_row (by decide)]; exact hk74 q hq) ((hB.wd a (p 3 a - 1)).fr hF5) hX5 (by rw [← hT, sq_go hno ha]))
                    · have hnn := oI_isn (by decide) (show pn p ≤ 6 by omega) (fun a z => (nxO_in z).1) h_103
                      have hTn : sqR w 48 g.1 0 = none := by rw [← hT]; exact sq_no hno hnn
                      have e9 : fSq g (nI w) = (-9, g) := by unfold fSq; rw [if_pos hv9, if_neg h_17, cl_nI (show w < 2 ^ 31 by omega), hTn]
                      refine jg_iconst (v := 0) dX4_squeeze_106 (by decide) ?_
                      refine jg_istore dX4_squeeze_107 (by decide) rfl ?_
                      have cut_109 : ∀ (m j : Nat) (y : Mm), j ≤ pn g.1 → pn g.1 < j + m → (∀ k, k ≠ 63 → y k = x k) → (∀ q, q < j → y 63 q = nI (g.1 3 q)) → G E cX4_squeeze 6 (yX4_squeeze).cls (some .int) 4 (kI (fun r u2 => r = (fSq g (nI w)).1 ∧ InvM u2 (fSq g (nI w)).2 ∧ RF u u2)) 109 [some (.ref (E.2.1 57)), some (.int (nI w)), some (.int (nI r)), some (.int (nI (setF (crF p) (pn p)))), none, some (.int (nI j))] [] y := by
                        intro m
                        induction m with
                        | zero => intro j y h1 h2; omega
                        | succ m ih3 =>
                          intro j y hj hm hy hy2
                          refine jg_iload dX4_squeeze_109 rfl ?_
                          refine jg_aload_n dX4_squeeze_111 rfl rfl ?_
                          refine jg_geti fk_X4_86 sh_57 rfl dX4_squeeze_112 ?_
                          refine jg_top (y := nI (pn g.1)) (by rw [hy 57 (by decide)]; exact (hF.2 5 (by decide) (by decide)).trans hI.1.1) ?_
                          refine jn_icmp_ge j (pn g.1) rfl rfl (by omega) (by omega) 138 dX4_squeeze_115 (by decide) (fun h_115 => ?_) (fun h_115 => ?_)
                          · obtain rfl : j = pn g.1 := by omega
                            have hFy : SF u y := ⟨fun k a b c d e f => by rw [hy k b]; exact hF.1 k a b c d e f, fun j a b => by rw [hy 57 (by decide)]; exact hF.2 j a b⟩
                            refine jg_bipush (v := -9) dX4_squeeze_138 (by decide) ?_
                            exact jg_iret (rfl) dX4_squeeze_140 ⟨_, rfl, ⟨by rw [e9], by rw [e9]; exact hI.sf hFy (hI.1.back hFy hy2) rfl, hFy.rf2⟩⟩
                          · refine jg_aload_n dX4_squeeze_118 rfl rfl ?_
                            refine jg_getr fk_X4_25 sh_57 rfl dX4_squeeze_119 ?_
                            refine jg_iload dX4_squeeze_122 rfl ?_
                            refine jg_aload_n dX4_squeeze_124 rfl rfl ?_
                            refine jg_getr fk_X4_58 sh_57 rfl dX4_squeeze_125 ?_
                            refine jg_iload dX4_squeeze_128 rfl ?_
                            refine jg_ld j sh_74 (by omega) (rfl) dX4_squeeze_130 ?_
                            refine jg_top (y := nI (g.1 3 j)) (by rw [hy 74 (by decide)]; exact hk74 j h_115) ?_
                            refine jg_st j sh_63 (by omega) (rfl) dX4_squeeze_131 ?_
                            refine jg_iinc (v := nI (j + 1)) dX4_squeeze_132 rfl (nI_1 j) (by decide) rfl ?_
                            refine jg_goto 109 dX4_squeeze_135 (by decide) ?_
                            exact ih3 (j + 1) _ (by omega) (by omega) (fun k h => by rw [s2_row h]; exact hy k h) (fun q h => by by_cases e : q = j; (subst e; exact s2_self _ _ _ _); (rw [s2_ne e]; exact hy2 q (by omega)))
                      exact jg_weak (gLe_s (gLe_s (gLe_s (gLe_s (gLe_n (gLe_s gLe_nil)))))) (cut_109 (pn g.1 + 1) 0 x (Nat.zero_le _) (by omega) (fun _ _ => rfl) (fun q h => by omega))
                  · have hcn := oI_isn (by decide) (show pn p ≤ 6 by omega) (fun a z => (wsO_lt z).1) h_77
                    have enx : nxO p = wsO (fun _ => true) (p 3) (pn p) := by unfold nxO; rw [hcn]
                    refine jg_aload_n dX4_squeeze_80 rfl rfl ?_
                    refine jg_iconst (v := 1) dX4_squeeze_81 (by decide) ?_
                    refine jg_aload_n dX4_squeeze_82 rfl rfl ?_
                    refine jg_geti fk_X4_86 sh_57 rfl dX4_squeeze_83 ?_
                    refine jg_top (y := nI (pn p)) (hB.1) ?_
                    refine jg_ishl dX4_squeeze_86 ?_
                    refine jg_iconst (v := 1) dX4_squeeze_87 (by decide) ?_
                    refine jg_isub dX4_squeeze_88 ?_
                    refine jg_callV (c4_widestOf E x p hp hB _ (fun _ => true) (fun a ha => allS (pn p) (by omega) a ha)) me_X4_widestOf ml_X4_196 sh_57 rfl rfl (by decide) (by decide) rfl (Nat.le_of_ble_eq_true rfl) dX4_squeeze_89 (kk_I (fun r_89 u_89 h_89 => ?_))
                    obtain ⟨rfl, rfl⟩ := h_89
                    refine jg_top (y := oI (-9) (nxO p)) (congrArg (oI (-9)) enx.symm) ?_
                    refine jg_goto 97 dX4_squeeze_92 (by decide) ?_
                    refine jg_istore dX4_squeeze_97 (by decide) rfl ?_
                    refine jg_iload dX4_squeeze_99 rfl ?_
                    refine jg_bipush (v := -9) dX4_squeeze_101 (by decide) ?_
                    refine jg_icmp_ne 141 dX4_squeeze_103 (by decide) (fun h_103 => ?_) (fun h_103 => ?_)
                    · obtain ⟨a, ha⟩ := oI_iss h_103
                      obtain ⟨ha1, ha2⟩ := nxO_in ha
                      have hwa := (hp.2.1 a ha1).2.2
                      have hmu := nxO_mu ha
                      rw [ha, oI_some]
                      refine jg_aload_n dX4_squeeze_141 rfl rfl ?_
                      refine jg_getr fk_X4_25 sh_57 rfl dX4_squeeze_142 ?_
                      refine jg_iload dX4_squeeze_145 rfl ?_
                      refine jg_dup2 dX4_squeeze_147 rfl rfl ?_
                      refine jg_ld a sh_63 (by omega) (rfl) dX4_squeeze_148 ?_
                      refine jg_top (y := nI (p 3 a)) ((hB.2 a ha1).2.2.1) ?_
                      refine jg_iconst (v := 1) dX4_squeeze_149 (by decide) ?_
                      refine jg_isubE (z := nI (p 3 a - 1)) dX4_squeeze_150 (pk_sub (a := p 3 a) (b := 1) (by omega)) ?_
                      refine jg_st a sh_63 (by omega) (rfl) dX4_squeeze_151 ?_
                      refine jg_iinc (v := nI (r + 1)) dX4_squeeze_152 rfl (nI_1 r) (by decide) rfl ?_
                      refine jg_aload_n dX4_squeeze_155 rfl rfl ?_
                      refine jg_callV (c4_critical E (s2 x 63 a (nI (p 3 a - 1))) (dcP p a) (dc_ok hp ha1) (fun i hi => (dc_p hpp ha2 i hi).2) (hB.wd a (p 3 a - 1))) me_X4_critical ml_X4_182 sh_57 rfl rfl (by decide) (by decide) rfl (Nat.le_of_ble_eq_true rfl) dX4_squeeze_156 (kk_I (fun r_156 u_156 h_156 => ?_))
                      obtain ⟨rfl, hF5, hX5⟩ := h_156
                      refine jg_istore_n dX4_squeeze_159 rfl (by decide) rfl ?_
                      refine jg_goto 58 dX4_squeeze_160 (by decide) ?_
                      obtain ⟨m, rfl⟩ : ∃ z, m = z + 1 := ⟨m - 1, by omega⟩
                      exact jg_weak (gLe_s (gLe_s (gLe_s (gLe_s (gLe_n (gLe_n gLe_nil)))))) (ih2 m (r + 1) (dcP p a) _ (by omega) (by have z9 : pn (dcP p a) = pn p := rfl; rw [z9]; omega) (dc_ok hp ha1) (dc_p hpp ha2) hpn ((hF.put (Or.inl rfl)).mf hF5) (fun q hq => by rw [hF5.1 74 (by decide) (by decide) (by decide) (by decide), s2_row (by decide)]; exact hk74 q hq) ((hB.wd a (p 3 a - 1)).fr hF5) hX5 (by rw [← hT, sq_go hno ha]))
                    · have hnn := oI_isn (by decide) (show pn p ≤ 6 by omega) (fun a z => (nxO_in z).1) h_103
                      have hTn : sqR w 48 g.1 0 = none := by rw [← hT]; exact sq_no hno hnn
                      have e9 : fSq g (nI w) = (-9, g) := by unfold fSq; rw [if_pos hv9, if_neg h_17, cl_nI (show w < 2 ^ 31 by omega), hTn]
                      refine jg_iconst (v := 0) dX4_squeeze_106 (by decide) ?_
                      refine jg_istore dX4_squeeze_107 (by decide) rfl ?_
                      have cut_109 : ∀ (m j : Nat) (y : Mm), j ≤ pn g.1 → pn g.1 < j + m → (∀ k, k ≠ 63 → y k = x k) → (∀ q, q < j → y 63 q = nI (g.1 3 q)) → G E cX4_squeeze 6 (yX4_squeeze).cls (some .int) 4 (kI (fun r u2 => r = (fSq g (nI w)).1 ∧ InvM u2 (fSq g (nI w)).2 ∧ RF u u2)) 109 [some (.ref (E.2.1 57)), some (.int (nI w)), some (.int (nI r)), some (.int (nI (setF (crF p) (pn p)))), none, some (.int (nI j))] [] y := by
                        intro m
                        induction m with
                        | zero => intro j y h1 h2; omega
                        | succ m ih3 =>
                          intro j y hj hm hy hy2
                          refine jg_iload dX4_squeeze_109 rfl ?_
                          refine jg_aload_n dX4_squeeze_111 rfl rfl ?_
                          refine jg_geti fk_X4_86 sh_57 rfl dX4_squeeze_112 ?_
                          refine jg_top (y := nI (pn g.1)) (by rw [hy 57 (by decide)]; exact (hF.2 5 (by decide) (by decide)).trans hI.1.1) ?_
                          refine jn_icmp_ge j (pn g.1) rfl rfl (by omega) (by omega) 138 dX4_squeeze_115 (by decide) (fun h_115 => ?_) (fun h_115 => ?_)
                          · obtain rfl : j = pn g.1 := by omega
                            have hFy : SF u y := ⟨fun k a b c d e f => by rw [hy k b]; exact hF.1 k a b c d e f, fun j a b => by rw [hy 57 (by decide)]; exact hF.2 j a b⟩
                            refine jg_bipush (v := -9) dX4_squeeze_138 (by decide) ?_
                            exact jg_iret (rfl) dX4_squeeze_140 ⟨_, rfl, ⟨by rw [e9], by rw [e9]; exact hI.sf hFy (hI.1.back hFy hy2) rfl, hFy.rf2⟩⟩
                          · refine jg_aload_n dX4_squeeze_118 rfl rfl ?_
                            refine jg_getr fk_X4_25 sh_57 rfl dX4_squeeze_119 ?_
                            refine jg_iload dX4_squeeze_122 rfl ?_
                            refine jg_aload_n dX4_squeeze_124 rfl rfl ?_
                            refine jg_getr fk_X4_58 sh_57 rfl dX4_squeeze_125 ?_
                            refine jg_iload dX4_squeeze_128 rfl ?_
                            refine jg_ld j sh_74 (by omega) (rfl) dX4_squeeze_130 ?_
                            refine jg_top (y := nI (g.1 3 j)) (by rw [hy 74 (by decide)]; exact hk74 j h_115) ?_
                            refine jg_st j sh_63 (by omega) (rfl) dX4_squeeze_131 ?_
                            refine jg_iinc (v := nI (j + 1)) dX4_squeeze_132 rfl (nI_1 j) (by decide) rfl ?_
                            refine jg_goto 109 dX4_squeeze_135 (by decide) ?_
                            exact ih3 (j + 1) _ (by omega) (by omega) (fun k h => by rw [s2_row h]; exact hy k h) (fun q h => by by_cases e : q = j; (subst e; exact s2_self _ _ _ _); (rw [s2_ne e]; exact hy2 q (by omega)))
                      exact jg_weak (gLe_s (gLe_s (gLe_s (gLe_s (gLe_n (gLe_s gLe_nil)))))) (cut_109 (pn g.1 + 1) 0 x (Nat.zero_le _) (by omega) (fun _ _ => rfl) (fun q h => by omega))
            exact cut_58 49 48 0 g.1 _ (by omega) (by have z1 := muF_le (fun i hi => (hO.1.2.1 i hi).2.2) (pn g.1) (Nat.le_refl _); omega) hO.1 hO.2.1 rfl (hF.mf hF5) (fun q hq => by rw [hF5.1 74 (by decide) (by decide) (by decide) (by decide)]; exact hk74 q hq) (hB0.fr hF5) hX5 rfl
          · refine jg_aload_n dX4_squeeze_33 rfl rfl ?_
            refine jg_getr fk_X4_58 sh_57 rfl dX4_squeeze_34 ?_
            refine jg_iload_n dX4_squeeze_37 rfl rfl ?_
            refine jg_aload_n dX4_squeeze_38 rfl rfl ?_
            refine jg_getr fk_X4_25 sh_57 rfl dX4_squeeze_39 ?_
            refine jg_iload_n dX4_squeeze_42 rfl rfl ?_
            refine jg_ld i sh_63 (by omega) (rfl) dX4_squeeze_43 ?_
            refine jg_top (y := nI (g.1 3 i)) (by rw [h63]; exact (hI.1.2 i h_30).2.2.1) ?_
            refine jg_st i sh_74 (by omega) (rfl) dX4_squeeze_44 ?_
            refine jg_iinc (v := nI (i + 1)) dX4_squeeze_45 rfl (nI_1 i) (by decide) rfl ?_
            refine jg_goto 25 dX4_squeeze_48 (by decide) ?_
            exact ih (i + 1) _ (by omega) (by omega) (hF.put (Or.inr rfl)) (by rw [s2_row (by decide)]; exact h63) (fun q h => by by_cases e : q = i; (subst e; exact s2_self _ _ _ _); (rw [s2_ne e]; exact hk74 q (by omega)))
      exact cut_25 (pn g.1 + 1) 0 u (Nat.zero_le _) (by omega) ⟨fun _ _ _ _ _ _ _ => rfl, fun _ _ _ => rfl⟩ rfl (fun q h => by omega)
    · refine jg_bipush (v := -3) dX4_squeeze_20 (by decide) ?_
      have e9 : fSq g (nI w) = (-3, g) := by unfold fSq; rw [if_pos hv9, if_pos h_17]
      exact jg_iret (rfl) dX4_squeeze_22 ⟨_, rfl, ⟨by rw [e9], by rw [e9]; exact hI, RF.rf⟩⟩
  · refine jg_bipush (v := -2) dX4_squeeze_10 (by decide) ?_
    have e9 : fSq g v = (-2, g) := by unfold fSq; rw [if_neg (by rw [h_7]; decide)]
    exact jg_iret (rfl) dX4_squeeze_12 ⟨_, rfl, ⟨by rw [e9], by rw [e9]; exact hI, RF.rf⟩⟩
