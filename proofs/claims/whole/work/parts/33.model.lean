set_option maxHeartbeats 4000000 in
set_option maxRecDepth 20000 in
theorem c4_waste (E : gT) (u : Mm) (p : Pic) (hp : PicOk p) (hpp : PicP p) (hM : MdB u p) (hX : MdL u p) : Con E yX4_waste cX4_waste 3 (some .int) 1 [.ref (E.2.1 57)] u (kI (fun r u2 => r = nI (brP p * dpP p) - nI (usedF p (pn p)) ∧ u = u2)) := by
  have hn := hp.1
  refine Con.of (lv := [some (.ref (E.2.1 57)), none, none]) (by decide +kernel) (Nat.le_of_ble_eq_true rfl) rfl ?_
  refine jg_aload_n dX4_waste_0 rfl rfl ?_
  refine jg_geti fk_X4_136 sh_57 rfl dX4_waste_1 ?_
  refine jg_top (y := nI (brP p)) (hX.2.1) ?_
  refine jg_aload_n dX4_waste_4 rfl rfl ?_
  refine jg_geti fk_X4_139 sh_57 rfl dX4_waste_5 ?_
  refine jg_top (y := nI (dpP p)) (hX.2.2) ?_
  refine jg_imulE (z := nI ((brP p) * (dpP p))) dX4_waste_8 (pk_mul (brP p) (dpP p)) ?_
  refine jg_istore_n dX4_waste_9 rfl (by decide) rfl ?_
  refine jg_iconst (v := 0) dX4_waste_10 (by decide) ?_
  refine jg_istore_n dX4_waste_11 rfl (by decide) rfl ?_
  have cut_12 : ∀ (m i : Nat), i ≤ pn p → pn p < i + m → G E cX4_waste 3 (yX4_waste).cls (some .int) 1 (kI (fun r u2 => r = nI (brP p * dpP p) - nI (usedF p (pn p)) ∧ u = u2)) 12 [some (.ref (E.2.1 57)), some (.int (nI (brP p * dpP p) - nI (usedF p i))), some (.int (nI i))] [] u := by
    intro m
    induction m with
    | zero => intro i h1 h2; omega
    | succ m ih =>
      intro i hi hm
      refine jg_iload_n dX4_waste_12 rfl rfl ?_
      refine jg_aload_n dX4_waste_13 rfl rfl ?_
      refine jg_geti fk_X4_86 sh_57 rfl dX4_waste_14 ?_
      refine jg_top (y := nI (pn p)) (hM.1) ?_
      refine jn_icmp_ge i (pn p) rfl rfl (by omega) (by omega) 41 dX4_waste_17 (by decide) (fun h_17 => ?_) (fun h_17 => ?_)
      · obtain rfl : i = pn p := by omega
        refine jg_iload_n dX4_waste_41 rfl rfl ?_
        exact jg_iret (rfl) dX4_waste_42 ⟨_, rfl, ⟨rfl, rfl⟩⟩
      · refine jg_iload_n dX4_waste_20 rfl rfl ?_
        refine jg_aload_n dX4_waste_21 rfl rfl ?_
        refine jg_getr fk_X4_25 sh_57 rfl dX4_waste_22 ?_
        refine jg_iload_n dX4_waste_25 rfl rfl ?_
        refine jg_ld i sh_63 (by omega) (rfl) dX4_waste_26 ?_
        refine jg_top (y := nI (p 3 i)) ((hM.2 i h_17).2.2.1) ?_
        refine jg_aload_n dX4_waste_27 rfl rfl ?_
        refine jg_iload_n dX4_waste_28 rfl rfl ?_
        refine jg_callV (c4_heightOf E u p hp hM i h_17 (hpp i h_17).2) me_X4_heightOf ml_X4_142 sh_57 rfl rfl (by decide) (by decide) rfl (Nat.le_of_ble_eq_true rfl) dX4_waste_29 (kk_I (fun r_29 u_29 h_29 => ?_))
        obtain ⟨rfl, rfl⟩ := h_29
        refine jg_imulE (z := nI ((p 3 i) * (hgF p i))) dX4_waste_32 (pk_mul (p 3 i) (hgF p i)) ?_
        refine jg_isubE (z := nI (brP p * dpP p) - nI (usedF p (i + 1))) dX4_waste_33 (sub2 _ _ _) ?_
        refine jg_istore_n dX4_waste_34 rfl (by decide) rfl ?_
        refine jg_iinc (v := nI (i + 1)) dX4_waste_35 rfl (nI_1 i) (by decide) rfl ?_
        refine jg_goto 12 dX4_waste_38 (by decide) ?_
        exact ih (i + 1) (by omega) (by omega)
  have c0 := cut_12 (pn p + 1) 0 (Nat.zero_le _) (by omega)
  rw [show usedF p 0 = 0 from rfl, nI_0, Int32.sub_zero] at c0
  exact c0
set_option maxHeartbeats 4000000 in
set_option maxRecDepth 20000 in
theorem c4_doTouch (E : gT) (u : Mm) (p : Pic) (hp : PicOk p) (hpp : PicP p) (hM : MdB u p) (hX : MdL u p) (a c : Nat) (ha : a < pn p) (hc : c < pn p) : Con E yX4_doTouch cX4_doTouch 5 (some .boolean) 1 [.ref (E.2.1 57), .int (nI a), .int (nI c)] u (kI (fun r u2 => r = bI (tchF p a c) ∧ u = u2)) := by
  have hn := hp.1
  have bxa := xF_le hp ha
  have bya := yF_le hp ha
  have bha := hgF_le hp ha
  have bwa := (hp.2.1 _ ha).2.2
  have bxc := xF_le hp hc
  have byc := yF_le hp hc
  have bhc := hgF_le hp hc
  have bwc := (hp.2.1 _ hc).2.2
  have cut_99 : G E cX4_doTouch 5 (yX4_doTouch).cls (some .boolean) 1 (kI (fun r u2 => r = bI (tchF p a c) ∧ u = u2)) 99 [some (.ref (E.2.1 57)), some (.int (nI a)), some (.int (nI c)), some (.int (bI (meetN (xF p a) (p 3 a) (xF p c) (p 3 c)))), some (.int (bI (meetN (yF p a) (hgF p a) (yF p c) (hgF p c))))] [] u := by
    refine jg_iload_n dX4_doTouch_99 rfl rfl ?_
    refine jg_iload_n dX4_doTouch_100 rfl rfl ?_
    refine jn_icmp_eq a c rfl rfl (by omega) (by omega) 175 dX4_doTouch_101 (by decide) (fun h_101 => ?_) (fun h_101 => ?_)
    · subst h_101
      have hts := tch_self hpp ha
      refine jg_iconst (v := 0) dX4_doTouch_175 (by decide) ?_
      exact jg_iret (rfl) dX4_doTouch_176 ⟨_, rfl, ⟨by first | (rw [hts]; rfl) | simp [bI, tchF, *], rfl⟩⟩
    · refine jg_iload_n dX4_doTouch_104 rfl rfl ?_
      refine jb_if_eq 136 dX4_doTouch_105 (by decide) (fun h_105 => ?_) (fun h_105 => ?_)
      · refine jg_iload dX4_doTouch_136 rfl ?_
        refine jb_if_eq 175 dX4_doTouch_138 (by decide) (fun h_138 => ?_) (fun h_138 => ?_)
        · refine jg_iconst (v := 0) dX4_doTouch_175 (by decide) ?_
          exact jg_iret (rfl) dX4_doTouch_176 ⟨_, rfl, ⟨by first | (rw [hts]; rfl) | simp [bI, tchF, *], rfl⟩⟩
        · refine jg_aload_n dX4_doTouch_141 rfl rfl ?_
          refine jg_getr fk_X4_49 sh_57 rfl dX4_doTouch_142 ?_
          refine jg_iload_n dX4_doTouch_145 rfl rfl ?_
          refine jg_ld a sh_71 (by omega) (rfl) dX4_doTouch_146 ?_
          refine jg_top (y := nI (xF p a)) ((hX.1 a ha).2.1) ?_
          refine jg_aload_n dX4_doTouch_147 rfl rfl ?_
          refine jg_getr fk_X4_25 sh_57 rfl dX4_doTouch_148 ?_
          refine jg_iload_n dX4_doTouch_151 rfl rfl ?_
          refine jg_ld a sh_63 (by omega) (rfl) dX4_doTouch_152 ?_
          refine jg_top (y := nI (p 3 a)) ((hM.2 a ha).2.2.1) ?_
          refine jg_aload_n dX4_doTouch_153 rfl rfl ?_
          refine jg_getr fk_X4_49 sh_57 rfl dX4_doTouch_154 ?_
          refine jg_iload_n dX4_doTouch_157 rfl rfl ?_
          refine jg_ld c sh_71 (by omega) (rfl) dX4_doTouch_158 ?_
          refine jg_top (y := nI (xF p c)) ((hX.1 c hc).2.1) ?_
          refine jg_aload_n dX4_doTouch_159 rfl rfl ?_
          refine jg_getr fk_X4_25 sh_57 rfl dX4_doTouch_160 ?_
          refine jg_iload_n dX4_doTouch_163 rfl rfl ?_
          refine jg_ld c sh_63 (by omega) (rfl) dX4_doTouch_164 ?_
          refine jg_top (y := nI (p 3 c)) ((hM.2 c hc).2.2.1) ?_
          refine jg_callS (c4_shareN E u (xF p a) (p 3 a) (xF p c) (p 3 c) (by omega) (by omega) (by omega) (by omega)) me_X4_share ml_X4_151 rfl (by decide) (by decide) rfl (Nat.le_of_ble_eq_true rfl) dX4_doTouch_165 (kk_I (fun r_165 u_165 h_165 => ?_))
          obtain ⟨rfl, rfl⟩ := h_165
          refine jb_if_eq 175 dX4_doTouch_168 (by decide) (fun h_168 => ?_) (fun h_168 => ?_)
          · refine jg_iconst (v := 0) dX4_doTouch_175 (by decide) ?_
            exact jg_iret (rfl) dX4_doTouch_176 ⟨_, rfl, ⟨by first | (rw [hts]; rfl) | simp [bI, tchF, *], rfl⟩⟩
          · refine jg_iconst (v := 1) dX4_doTouch_171 (by decide) ?_
            refine jg_goto 176 dX4_doTouch_172 (by decide) ?_
            exact jg_iret (rfl) dX4_doTouch_176 ⟨_, rfl, ⟨by first | (rw [hts]; rfl) | simp [bI, tchF, *], rfl⟩⟩
      · refine jg_aload_n dX4_doTouch_108 rfl rfl ?_
        refine jg_getr fk_X4_52 sh_57 rfl dX4_doTouch_109 ?_
        refine jg_iload_n dX4_doTouch_112 rfl rfl ?_
        refine jg_ld a sh_72 (by omega) (rfl) dX4_doTouch_113 ?_
        refine jg_top (y := nI (yF p a)) ((hX.1 a ha).2.2) ?_
        refine jg_aload_n dX4_doTouch_114 rfl rfl ?_
        refine jg_iload_n dX4_doTouch_115 rfl rfl ?_
        refine jg_callV (c4_heightOf E u p hp hM a ha (hpp a ha).2) me_X4_heightOf ml_X4_142 sh_57 rfl rfl (by decide) (by decide) rfl (Nat.le_of_ble_eq_true rfl) dX4_doTouch_116 (kk_I (fun r_116 u_116 h_116 => ?_))
        obtain ⟨rfl, rfl⟩ := h_116
        refine jg_aload_n dX4_doTouch_119 rfl rfl ?_
        refine jg_getr fk_X4_52 sh_57 rfl dX4_doTouch_120 ?_
        refine jg_iload_n dX4_doTouch_123 rfl rfl ?_
        refine jg_ld c sh_72 (by omega) (rfl) dX4_doTouch_124 ?_
        refine jg_top (y := nI (yF p c)) ((hX.1 c hc).2.2) ?_
        refine jg_aload_n dX4_doTouch_125 rfl rfl ?_
        refine jg_iload_n dX4_doTouch_126 rfl rfl ?_
        refine jg_callV (c4_heightOf E u p hp hM c hc (hpp c hc).2) me_X4_heightOf ml_X4_142 sh_57 rfl rfl (by decide) (by decide) rfl (Nat.le_of_ble_eq_true rfl) dX4_doTouch_127 (kk_I (fun r_127 u_127 h_127 => ?_))
        obtain ⟨rfl, rfl⟩ := h_127
        refine jg_callS (c4_shareN E u (yF p a) (hgF p a) (yF p c) (hgF p c) (by omega) (by omega) (by omega) (by omega)) me_X4_share ml_X4_151 rfl (by decide) (by decide) rfl (Nat.le_of_ble_eq_true rfl) dX4_doTouch_130 (kk_I (fun r_130 u_130 h_130 => ?_))
        obtain ⟨rfl, rfl⟩ := h_130
        refine jb_if_ne 171 dX4_doTouch_133 (by decide) (fun h_133 => ?_) (fun h_133 => ?_)
        · refine jg_iconst (v := 1) dX4_doTouch_171 (by decide) ?_
          refine jg_goto 176 dX4_doTouch_172 (by decide) ?_
          exact jg_iret (rfl) dX4_doTouch_176 ⟨_, rfl, ⟨by first | (rw [hts]; rfl) | simp [bI, tchF, *], rfl⟩⟩
        · refine jg_iload dX4_doTouch_136 rfl ?_
          refine jb_if_eq 175 dX4_doTouch_138 (by decide) (fun h_138 => ?_) (fun h_138 => ?_)
          · refine jg_iconst (v := 0) dX4_doTouch_175 (by decide) ?_
            exact jg_iret (rfl) dX4_doTouch_176 ⟨_, rfl, ⟨by first | (rw [hts]; rfl) | simp [bI, tchF, *], rfl⟩⟩
          · refine jg_aload_n dX4_doTouch_141 rfl rfl ?_
            refine jg_getr fk_X4_49 sh_57 rfl dX4_doTouch_142 ?_
            refine jg_iload_n dX4_doTouch_145 rfl rfl ?_
            refine jg_ld a sh_71 (by omega) (rfl) dX4_doTouch_146 ?_
            refine jg_top (y := nI (xF p a)) ((hX.1 a ha).2.1) ?_
            refine jg_aload_n dX4_doTouch_147 rfl rfl ?_
            refine jg_getr fk_X4_25 sh_57 rfl dX4_doTouch_148 ?_
            refine jg_iload_n dX4_doTouch_151 rfl rfl ?_
            refine jg_ld a sh_63 (by omega) (rfl) dX4_doTouch_152 ?_
            refine jg_top (y := nI (p 3 a)) ((hM.2 a ha).2.2.1) ?_
            refine jg_aload_n dX4_doTouch_153 rfl rfl ?_
            refine jg_getr fk_X4_49 sh_57 rfl dX4_doTouch_154 ?_
            refine jg_iload_n dX4_doTouch_157 rfl rfl ?_
            refine jg_ld c sh_71 (by omega) (rfl) dX4_doTouch_158 ?_
            refine jg_top (y := nI (xF p c)) ((hX.1 c hc).2.1) ?_
            refine jg_aload_n dX4_doTouch_159 rfl rfl ?_
            refine jg_getr fk_X4_25 sh_57 rfl dX4_doTouch_160 ?_
            refine jg_iload_n dX4_doTouch_163 rfl rfl ?_
            refine jg_ld c sh_63 (by omega) (rfl) dX4_doTouch_164 ?_
            refine jg_top (y := nI (p 3 c)) ((hM.2 c hc).2.2.1) ?_
            refine jg_callS (c4_shareN E u (xF p a) (p 3 a) (xF p c) (p 3 c) (by omega) (by omega) (by omega) (by omega)) me_X4_share ml_X4_151 rfl (by decide) (by decide) rfl (Nat.le_of_ble_eq_true rfl) dX4_doTouch_165 (kk_I (fun r_165 u_165 h_165 => ?_))
            obtain ⟨rfl, rfl⟩ := h_165
            refine jb_if_eq 175 dX4_doTouch_168 (by decide) (fun h_168 => ?_) (fun h_168 => ?_)
            · refine jg_iconst (v := 0) dX4_doTouch_175 (by decide) ?_
              exact jg_iret (rfl) dX4_doTouch_176 ⟨_, rfl, ⟨by first | (rw [hts]; rfl) | simp [bI, tchF, *], rfl⟩⟩
            · refine jg_iconst (v := 1) dX4_doTouch_171 (by decide) ?_
              refine jg_goto 176 dX4_doTouch_172 (by decide) ?_
              exact jg_iret (rfl) dX4_doTouch_176 ⟨_, rfl, ⟨by first | (rw [hts]; rfl) | simp [bI, tchF, *], rfl⟩⟩
  have cut_50 : G E cX4_doTouch 5 (yX4_doTouch).cls (some .boolean) 1 (kI (fun r u2 => r = bI (tchF p a c) ∧ u = u2)) 50 [some (.ref (E.2.1 57)), some (.int (nI a)), some (.int (nI c)), some (.int (bI (meetN (xF p a) (p 3 a) (xF p c) (p 3 c)))), none] [] u := by
    refine jg_aload_n dX4_doTouch_50 rfl rfl ?_
    refine jg_getr fk_X4_52 sh_57 rfl dX4_doTouch_51 ?_
    refine jg_iload_n dX4_doTouch_54 rfl rfl ?_
    refine jg_ld a sh_72 (by omega) (rfl) dX4_doTouch_55 ?_
    refine jg_top (y := nI (yF p a)) ((hX.1 a ha).2.2) ?_
    refine jg_aload_n dX4_doTouch_56 rfl rfl ?_
    refine jg_iload_n dX4_doTouch_57 rfl rfl ?_
    refine jg_callV (c4_heightOf E u p hp hM a ha (hpp a ha).2) me_X4_heightOf ml_X4_142 sh_57 rfl rfl (by decide) (by decide) rfl (Nat.le_of_ble_eq_true rfl) dX4_doTouch_58 (kk_I (fun r_58 u_58 h_58 => ?_))
    obtain ⟨rfl, rfl⟩ := h_58
    refine jg_iaddE (z := nI ((yF p a) + (hgF p a))) dX4_doTouch_61 (nI_add (yF p a) (hgF p a)) ?_
    refine jg_aload_n dX4_doTouch_62 rfl rfl ?_
    refine jg_getr fk_X4_52 sh_57 rfl dX4_doTouch_63 ?_
    refine jg_iload_n dX4_doTouch_66 rfl rfl ?_
    refine jg_ld c sh_72 (by omega) (rfl) dX4_doTouch_67 ?_
    refine jg_top (y := nI (yF p c)) ((hX.1 c hc).2.2) ?_
    refine jn_icmp_eq ((yF p a) + (hgF p a)) (yF p c) rfl rfl (by omega) (by omega) 92 dX4_doTouch_68 (by decide) (fun h_68 => ?_) (fun h_68 => ?_)
    · refine jg_iconst (v := 1) dX4_doTouch_92 (by decide) ?_
      refine jg_goto 97 dX4_doTouch_93 (by decide) ?_
      refine jg_istore dX4_doTouch_97 (by decide) rfl ?_
      have e9 : bI (meetN (yF p a) (hgF p a) (yF p c) (hgF p c)) = 1 := by simp [bI, meetN, *]
      rw [e9] at cut_99
      exact cut_99
    · refine jg_aload_n dX4_doTouch_71 rfl rfl ?_
      refine jg_getr fk_X4_52 sh_57 rfl dX4_doTouch_72 ?_
      refine jg_iload_n dX4_doTouch_75 rfl rfl ?_
      refine jg_ld c sh_72 (by omega) (rfl) dX4_doTouch_76 ?_
      refine jg_top (y := nI (yF p c)) ((hX.1 c hc).2.2) ?_
      refine jg_aload_n dX4_doTouch_77 rfl rfl ?_
      refine jg_iload_n dX4_doTouch_78 rfl rfl ?_
      refine jg_callV (c4_heightOf E u p hp hM c hc (hpp c hc).2) me_X4_heightOf ml_X4_142 sh_57 rfl rfl (by decide) (by decide) rfl (Nat.le_of_ble_eq_true rfl) dX4_doTouch_79 (kk_I (fun r_79 u_79 h_79 => ?_))
      obtain ⟨rfl, rfl⟩ := h_79
      refine jg_iaddE (z := nI ((yF p c) + (hgF p c))) dX4_doTouch_82 (nI_add (yF p c) (hgF p c)) ?_
      refine jg_aload_n dX4_doTouch_83 rfl rfl ?_
      refine jg_getr fk_X4_52 sh_57 rfl dX4_doTouch_84 ?_
      refine jg_iload_n dX4_doTouch_87 rfl rfl ?_
      refine jg_ld a sh_72 (by omega) (rfl) dX4_doTouch_88 ?_
      refine jg_top (y := nI (yF p a)) ((hX.1 a ha).2.2) ?_
      refine jn_icmp_ne ((yF p c) + (hgF p c)) (yF p a) rfl rfl (by omega) (by omega) 96 dX4_doTouch_89 (by decide) (fun h_89 => ?_) (fun h_89 => ?_)
      · refine jg_iconst (v := 0) dX4_doTouch_96 (by decide) ?_
        refine jg_istore dX4_doTouch_97 (by decide) rfl ?_
        have e9 : bI (meetN (yF p a) (hgF p a) (yF p c) (hgF p c)) = 0 := by simp [bI, meetN, *]
        rw [e9] at cut_99
        exact cut_99
      · refine jg_iconst (v := 1) dX4_doTouch_92 (by decide) ?_
        refine jg_goto 97 dX4_doTouch_93 (by decide) ?_
        refine jg_istore dX4_doTouch_97 (by decide) rfl ?_
        have e9 : bI (meetN (yF p a) (hgF p a) (yF p c) (hgF p c)) = 1 := by simp [bI, meetN, *]
        rw [e9] at cut_99
        exact cut_99
  refine Con.of (lv := [some (.ref (E.2.1 57)), some (.int (nI a)), some (.int (nI c)), none, none]) (by decide +kernel) (Nat.le_of_ble_eq_true rfl) rfl ?_
  refine jg_aload_n dX4_doTouch_0 rfl rfl ?_
  refine jg_getr fk_X4_49 sh_57 rfl dX4_doTouch_1 ?_
  refine jg_iload_n dX4_doTouch_4 rfl rfl ?_
  refine jg_ld a sh_71 (by omega) (rfl) dX4_doTouch_5 ?_
  refine jg_top (y := nI (xF p a)) ((hX.1 a ha).2.1) ?_
  refine jg_aload_n dX4_doTouch_6 rfl rfl ?_
  refine jg_getr fk_X4_25 sh_57 rfl dX4_doTouch_7 ?_
  refine jg_iload_n dX4_doTouch_10 rfl rfl ?_
  refine jg_ld a sh_63 (by omega) (rfl) dX4_doTouch_11 ?_
  refine jg_top (y := nI (p 3 a)) ((hM.2 a ha).2.2.1) ?_
  refine jg_iaddE (z := nI ((xF p a) + (p 3 a))) dX4_doTouch_12 (nI_add (xF p a) (p 3 a)) ?_
  refine jg_aload_n dX4_doTouch_13 rfl rfl ?_
  refine jg_getr fk_X4_49 sh_57 rfl dX4_doTouch_14 ?_
  refine jg_iload_n dX4_doTouch_17 rfl rfl ?_
  refine jg_ld c sh_71 (by omega) (rfl) dX4_doTouch_18 ?_
  refine jg_top (y := nI (xF p c)) ((hX.1 c hc).2.1) ?_
  refine jn_icmp_eq ((xF p a) + (p 3 a)) (xF p c) rfl rfl (by omega) (by omega) 44 dX4_doTouch_19 (by decide) (fun h_19 => ?_) (fun h_19 => ?_)
  · refine jg_iconst (v := 1) dX4_doTouch_44 (by decide) ?_
    refine jg_goto 49 dX4_doTouch_45 (by decide) ?_
    refine jg_istore_n dX4_doTouch_49 rfl (by decide) rfl ?_
    have e9 : bI (meetN (xF p a) (p 3 a) (xF p c) (p 3 c)) = 1 := by simp [bI, meetN, *]
    rw [e9] at cut_50
    exact cut_50
  · refine jg_aload_n dX4_doTouch_22 rfl rfl ?_
    refine jg_getr fk_X4_49 sh_57 rfl dX4_doTouch_23 ?_
    refine jg_iload_n dX4_doTouch_26 rfl rfl ?_
    refine jg_ld c sh_71 (by omega) (rfl) dX4_doTouch_27 ?_
    refine jg_top (y := nI (xF p c)) ((hX.1 c hc).2.1) ?_
    refine jg_aload_n dX4_doTouch_28 rfl rfl ?_
    refine jg_getr fk_X4_25 sh_57 rfl dX4_doTouch_29 ?_
    refine jg_iload_n dX4_doTouch_32 rfl rfl ?_
    refine jg_ld c sh_63 (by omega) (rfl) dX4_doTouch_33 ?_
    refine jg_top (y := nI (p 3 c)) ((hM.2 c hc).2.2.1) ?_
    refine jg_iaddE (z := nI ((xF p c) + (p 3 c))) dX4_doTouch_34 (nI_add (xF p c) (p 3 c)) ?_
    refine jg_aload_n dX4_doTouch_35 rfl rfl ?_
    refine jg_getr fk_X4_49 sh_57 rfl dX4_doTouch_36 ?_
    refine jg_iload_n dX4_doTouch_39 rfl rfl ?_
    refine jg_ld a sh_71 (by omega) (rfl) dX4_doTouch_40 ?_
    refine jg_top (y := nI (xF p a)) ((hX.1 a ha).2.1) ?_
    refine jn_icmp_ne ((xF p c) + (p 3 c)) (xF p a) rfl rfl (by omega) (by omega) 48 dX4_doTouch_41 (by decide) (fun h_41 => ?_) (fun h_41 => ?_)
    · refine jg_iconst (v := 0) dX4_doTouch_48 (by decide) ?_
      refine jg_istore_n dX4_doTouch_49 rfl (by decide) rfl ?_
      have e9 : bI (meetN (xF p a) (p 3 a) (xF p c) (p 3 c)) = 0 := by simp [bI, meetN, *]
      rw [e9] at cut_50
      exact cut_50
    · refine jg_iconst (v := 1) dX4_doTouch_44 (by decide) ?_
      refine jg_goto 49 dX4_doTouch_45 (by decide) ?_
      refine jg_istore_n dX4_doTouch_49 rfl (by decide) rfl ?_
      have e9 : bI (meetN (xF p a) (p 3 a) (xF p c) (p 3 c)) = 1 := by simp [bI, meetN, *]
      rw [e9] at cut_50
      exact cut_50
set_option maxHeartbeats 4000000 in
set_option maxRecDepth 20000 in
theorem c4_touching (E : gT) (u : Mm) (p : Pic) (hp : PicOk p) (hpp : PicP p) (hM : MdB u p) (hX : MdL u p) (a : Nat) (ha : a < pn p) : Con E yX4_touching cX4_touching 4 (some .int) 2 [.ref (E.2.1 57), .int (nI a)] u (kI (fun r u2 => r = nI (setF (tchF p a) (pn p)) ∧ u = u2)) := by
  have hn := hp.1
  refine Con.of (lv := [some (.ref (E.2.1 57)), some (.int (nI a)), none, none]) (by decide +kernel) (Nat.le_of_ble_eq_true rfl) rfl ?_
  refine jg_iconst (v := 0) dX4_touching_0 (by decide) ?_
  refine jg_istore_n dX4_touching_1 rfl (by decide) rfl ?_
  refine jg_iconst (v := 0) dX4_touching_2 (by decide) ?_
  refine jg_istore_n dX4_touching_3 rfl (by decide) rfl ?_
  have cut_4 : ∀ (m i : Nat), i ≤ pn p → pn p < i + m → G E cX4_touching 4 (yX4_touching).cls (some .int) 2 (kI (fun r u2 => r = nI (setF (tchF p a) (pn p)) ∧ u = u2)) 4 [some (.ref (E.2.1 57)), some (.int (nI a)), some (.int (nI (setF (tchF p a) i))), some (.int (nI i))] [] u := by
    intro m
    induction m with
    | zero => intro i h1 h2; omega
    | succ m ih =>
      intro i hi hm
      refine jg_iload_n dX4_touching_4 rfl rfl ?_
      refine jg_aload_n dX4_touching_5 rfl rfl ?_
      refine jg_geti fk_X4_86 sh_57 rfl dX4_touching_6 ?_
      refine jg_top (y := nI (pn p)) (hM.1) ?_
      refine jn_icmp_ge i (pn p) rfl rfl (by omega) (by omega) 37 dX4_touching_9 (by decide) (fun h_9 => ?_) (fun h_9 => ?_)
      · obtain rfl : i = pn p := by omega
        refine jg_iload_n dX4_touching_37 rfl rfl ?_
        exact jg_iret (rfl) dX4_touching_38 ⟨_, rfl, ⟨rfl, rfl⟩⟩
      · refine jg_iload_n dX4_touching_12 rfl rfl ?_
        refine jg_aload_n dX4_touching_13 rfl rfl ?_
        refine jg_iload_n dX4_touching_14 rfl rfl ?_
        refine jg_iload_n dX4_touching_15 rfl rfl ?_
        refine jg_callV (c4_doTouch E u p hp hpp hM hX a i ha h_9) me_X4_doTouch ml_X4_155 sh_57 rfl rfl (by decide) (by decide) rfl (Nat.le_of_ble_eq_true rfl) dX4_touching_16 (kk_I (fun r_16 u_16 h_16 => ?_))
        obtain ⟨rfl, rfl⟩ := h_16
        refine jb_if_eq 28 dX4_touching_19 (by decide) (fun h_19 => ?_) (fun h_19 => ?_)
        · refine jg_iconst (v := 0) dX4_touching_28 (by decide) ?_
          refine jg_iorE (z := nI (setF (tchF p a) (i + 1))) dX4_touching_29 ((or0 _).trans (congrArg nI (setF_no (c := tchF p a) h_19).symm)) ?_
          refine jg_istore_n dX4_touching_30 rfl (by decide) rfl ?_
          refine jg_iinc (v := nI (i + 1)) dX4_touching_31 rfl (nI_1 i) (by decide) rfl ?_
          refine jg_goto 4 dX4_touching_34 (by decide) ?_
          exact ih (i + 1) (by omega) (by omega)
        · refine jg_iconst (v := 1) dX4_touching_22 (by decide) ?_
          refine jg_iload_n dX4_touching_23 rfl rfl ?_
          refine jg_ishl dX4_touching_24 ?_
          refine jg_goto 29 dX4_touching_25 (by decide) ?_
          refine jg_iorE (z := nI (setF (tchF p a) (i + 1))) dX4_touching_29 (orC (tchF p a) (by omega) h_19) ?_
          refine jg_istore_n dX4_touching_30 rfl (by decide) rfl ?_
          refine jg_iinc (v := nI (i + 1)) dX4_touching_31 rfl (nI_1 i) (by decide) rfl ?_
          refine jg_goto 4 dX4_touching_34 (by decide) ?_
          exact ih (i + 1) (by omega) (by omega)
  exact cut_4 (pn p + 1) 0 (Nat.zero_le _) (by omega)
set_option maxHeartbeats 4000000 in
set_option maxRecDepth 20000 in
theorem c4_leftOf (E : gT) (u : Mm) (p : Pic) (hp : PicOk p) (hM : MdB u p) (a : Nat) (ha : a < pn p) : Con E yX4_leftOf cX4_leftOf 4 (some .int) 2 [.ref (E.2.1 57), .int (nI a)] u (kI (fun r u2 => r = nI (setF (fun b => decide (p0F p b < p0F p a) && decide (p1F p b < p1F p a)) (pn p)) ∧ u = u2)) := by
  have hn := hp.1
  refine Con.of (lv := [some (.ref (E.2.1 57)), some (.int (nI a)), none, none]) (by decide +kernel) (Nat.le_of_ble_eq_true rfl) rfl ?_
  refine jg_iconst (v := 0) dX4_leftOf_0 (by decide) ?_
  refine jg_istore_n dX4_leftOf_1 rfl (by decide) rfl ?_
  refine jg_iconst (v := 0) dX4_leftOf_2 (by decide) ?_
  refine jg_istore_n dX4_leftOf_3 rfl (by decide) rfl ?_
  have cut_4 : ∀ (m i : Nat), i ≤ pn p → pn p < i + m → G E cX4_leftOf 4 (yX4_leftOf).cls (some .int) 2 (kI (fun r u2 => r = nI (setF (fun b => decide (p0F p b < p0F p a) && decide (p1F p b < p1F p a)) (pn p)) ∧ u = u2)) 4 [some (.ref (E.2.1 57)), some (.int (nI a)), some (.int (nI (setF (fun b => decide (p0F p b < p0F p a) && decide (p1F p b < p1F p a)) i))), some (.int (nI i))] [] u := by
    intro m
    induction m with
    | zero => intro i h1 h2; omega
    | succ m ih =>
      intro i hi hm
      refine jg_iload_n dX4_leftOf_4 rfl rfl ?_
      refine jg_aload_n dX4_leftOf_5 rfl rfl ?_
      refine jg_geti fk_X4_86 sh_57 rfl dX4_leftOf_6 ?_
      refine jg_top (y := nI (pn p)) (hM.1) ?_
      refine jn_icmp_ge i (pn p) rfl rfl (by omega) (by omega) 37 dX4_leftOf_9 (by decide) (fun h_9 => ?_) (fun h_9 => ?_)
      · obtain rfl : i = pn p := by omega
        refine jg_iload_n dX4_leftOf_37 rfl rfl ?_
        exact jg_iret (rfl) dX4_leftOf_38 ⟨_, rfl, ⟨rfl, rfl⟩⟩
      · refine jg_iload_n dX4_leftOf_12 rfl rfl ?_
        refine jg_aload_n dX4_leftOf_13 rfl rfl ?_
        refine jg_iload_n dX4_leftOf_14 rfl rfl ?_
        refine jg_iload_n dX4_leftOf_15 rfl rfl ?_
        refine jg_callV (c4_isLeft E u p hp hM i a h_9 ha) me_X4_isLeft ml_X4_167 sh_57 rfl rfl (by decide) (by decide) rfl (Nat.le_of_ble_eq_true rfl) dX4_leftOf_16 (kk_I (fun r_16 u_16 h_16 => ?_))
        obtain ⟨rfl, rfl⟩ := h_16
        refine jb_if_eq 28 dX4_leftOf_19 (by decide) (fun h_19 => ?_) (fun h_19 => ?_)
        · refine jg_iconst (v := 0) dX4_leftOf_28 (by decide) ?_
          refine jg_iorE (z := nI (setF (fun b => decide (p0F p b < p0F p a) && decide (p1F p b < p1F p a)) (i + 1))) dX4_leftOf_29 ((or0 _).trans (congrArg nI (setF_no (c := fun b => decide (p0F p b < p0F p a) && decide (p1F p b < p1F p a)) h_19).symm)) ?_
          refine jg_istore_n dX4_leftOf_30 rfl (by decide) rfl ?_
          refine jg_iinc (v := nI (i + 1)) dX4_leftOf_31 rfl (nI_1 i) (by decide) rfl ?_
          refine jg_goto 4 dX4_leftOf_34 (by decide) ?_
          exact ih (i + 1) (by omega) (by omega)
        · refine jg_iconst (v := 1) dX4_leftOf_22 (by decide) ?_
          refine jg_iload_n dX4_leftOf_23 rfl rfl ?_
          refine jg_ishl dX4_leftOf_24 ?_
          refine jg_goto 29 dX4_leftOf_25 (by decide) ?_
          refine jg_iorE (z := nI (setF (fun b => decide (p0F p b < p0F p a) && decide (p1F p b < p1F p a)) (i + 1))) dX4_leftOf_29 (orC (fun b => decide (p0F p b < p0F p a) && decide (p1F p b < p1F p a)) (by omega) h_19) ?_
          refine jg_istore_n dX4_leftOf_30 rfl (by decide) rfl ?_
          refine jg_iinc (v := nI (i + 1)) dX4_leftOf_31 rfl (nI_1 i) (by decide) rfl ?_
          refine jg_goto 4 dX4_leftOf_34 (by decide) ?_
          exact ih (i + 1) (by omega) (by omega)
  exact cut_4 (pn p + 1) 0 (Nat.zero_le _) (by omega)
set_option maxHeartbeats 4000000 in
set_option maxRecDepth 20000 in
theorem c4_aboveOf (E : gT) (u : Mm) (p : Pic) (hp : PicOk p) (hM : MdB u p) (a : Nat) (ha : a < pn p) : Con E yX4_aboveOf cX4_aboveOf 4 (some .int) 2 [.ref (E.2.1 57), .int (nI a)] u (kI (fun r u2 => r = nI (setF (fun b => decide (p0F p b < p0F p a) && decide (p1F p a < p1F p b)) (pn p)) ∧ u = u2)) := by
  have hn := hp.1
  refine Con.of (lv := [some (.ref (E.2.1 57)), some (.int (nI a)), none, none]) (by decide +kernel) (Nat.le_of_ble_eq_true rfl) rfl ?_
  refine jg_iconst (v := 0) dX4_aboveOf_0 (by decide) ?_
  refine jg_istore_n dX4_aboveOf_1 rfl (by decide) rfl ?_
  refine jg_iconst (v := 0) dX4_aboveOf_2 (by decide) ?_
  refine jg_istore_n dX4_aboveOf_3 rfl (by decide) rfl ?_
  have cut_4 : ∀ (m i : Nat), i ≤ pn p → pn p < i + m → G E cX4_aboveOf 4 (yX4_aboveOf).cls (some .int) 2 (kI (fun r u2 => r = nI (setF (fun b => decide (p0F p b < p0F p a) && decide (p1F p a < p1F p b)) (pn p)) ∧ u = u2)) 4 [some (.ref (E.2.1 57)), some (.int (nI a)), some (.int (nI (setF (fun b => decide (p0F p b < p0F p a) && decide (p1F p a < p1F p b)) i))), some (.int (nI i))] [] u := by
    intro m
    induction m with
    | zero => intro i h1 h2; omega
    | succ m ih =>
      intro i hi hm
      refine jg_iload_n dX4_aboveOf_4 rfl rfl ?_
      refine jg_aload_n dX4_aboveOf_5 rfl rfl ?_
      refine jg_geti fk_X4_86 sh_57 rfl dX4_aboveOf_6 ?_
      refine jg_top (y := nI (pn p)) (hM.1) ?_
      refine jn_icmp_ge i (pn p) rfl rfl (by omega) (by omega) 37 dX4_aboveOf_9 (by decide) (fun h_9 => ?_) (fun h_9 => ?_)
      · obtain rfl : i = pn p := by omega
        refine jg_iload_n dX4_aboveOf_37 rfl rfl ?_
        exact jg_iret (rfl) dX4_aboveOf_38 ⟨_, rfl, ⟨rfl, rfl⟩⟩
      · refine jg_iload_n dX4_aboveOf_12 rfl rfl ?_
        refine jg_aload_n dX4_aboveOf_13 rfl rfl ?_
        refine jg_iload_n dX4_aboveOf_14 rfl rfl ?_
        refine jg_iload_n dX4_aboveOf_15 rfl rfl ?_
        refine jg_callV (c4_isAbove E u p hp hM i a h_9 ha) me_X4_isAbove ml_X4_170 sh_57 rfl rfl (by decide) (by decide) rfl (Nat.le_of_ble_eq_true rfl) dX4_aboveOf_16 (kk_I (fun r_16 u_16 h_16 => ?_))
        obtain ⟨rfl, rfl⟩ := h_16
        refine jb_if_eq 28 dX4_aboveOf_19 (by decide) (fun h_19 => ?_) (fun h_19 => ?_)
        · refine jg_iconst (v := 0) dX4_aboveOf_28 (by decide) ?_
          refine jg_iorE (z := nI (setF (fun b => decide (p0F p b < p0F p a) && decide (p1F p a < p1F p b)) (i + 1))) dX4_aboveOf_29 ((or0 _).trans (congrArg nI (setF_no (c := fun b => decide (p0F p b < p0F p a) && decide (p1F p a < p1F p b)) h_19).symm)) ?_
          refine jg_istore_n dX4_aboveOf_30 rfl (by decide) rfl ?_
          refine jg_iinc (v := nI (i + 1)) dX4_aboveOf_31 rfl (nI_1 i) (by decide) rfl ?_
          refine jg_goto 4 dX4_aboveOf_34 (by decide) ?_
          exact ih (i + 1) (by omega) (by omega)
        · refine jg_iconst (v := 1) dX4_aboveOf_22 (by decide) ?_
          refine jg_iload_n dX4_aboveOf_23 rfl rfl ?_
          refine jg_ishl dX4_aboveOf_24 ?_
          refine jg_goto 29 dX4_aboveOf_25 (by decide) ?_
          refine jg_iorE (z := nI (setF (fun b => decide (p0F p b < p0F p a) && decide (p1F p a < p1F p b)) (i + 1))) dX4_aboveOf_29 (orC (fun b => decide (p0F p b < p0F p a) && decide (p1F p a < p1F p b)) (by omega) h_19) ?_
          refine jg_istore_n dX4_aboveOf_30 rfl (by decide) rfl ?_
          refine jg_iinc (v := nI (i + 1)) dX4_aboveOf_31 rfl (nI_1 i) (by decide) rfl ?_
          refine jg_goto 4 dX4_aboveOf_34 (by decide) ?_
          exact ih (i + 1) (by omega) (by omega)
  exact cut_4 (pn p + 1) 0 (Nat.zero_le _) (by omega)
set_option maxHeartbeats 4000000 in
set_option maxRecDepth 20000 in
theorem c4_manyTouch (E : gT) (u : Mm) (p : Pic) (hp : PicOk p) (hpp : PicP p) (hM : MdB u p) (hX : MdL u p) : Con E yX4_manyTouch cX4_manyTouch 3 (some .int) 3 [.ref (E.2.1 57)] u (kI (fun r u2 => r = nI (twosF p (pn p) / 2) ∧ u = u2)) := by
  have hn := hp.1
  refine Con.of (lv := [some (.ref (E.2.1 57)), none, none]) (by decide +kernel) (Nat.le_of_ble_eq_true rfl) rfl ?_
  refine jg_iconst (v := 0) dX4_manyTouch_0 (by decide) ?_
  refine jg_istore_n dX4_manyTouch_1 rfl (by decide) rfl ?_
  refine jg_iconst (v := 0) dX4_manyTouch_2 (by decide) ?_
  refine jg_istore_n dX4_manyTouch_3 rfl (by decide) rfl ?_
  have cut_4 : ∀ (m i : Nat), i ≤ pn p → pn p < i + m → G E cX4_manyTouch 3 (yX4_manyTouch).cls (some .int) 3 (kI (fun r u2 => r = nI (twosF p (pn p) / 2) ∧ u = u2)) 4 [some (.ref (E.2.1 57)), some (.int (nI (twosF p i))), some (.int (nI i))] [] u := by
    intro m
    induction m with
    | zero => intro i h1 h2; omega
    | succ m ih =>
      intro i hi hm
      refine jg_iload_n dX4_manyTouch_4 rfl rfl ?_
      refine jg_aload_n dX4_manyTouch_5 rfl rfl ?_
      refine jg_geti fk_X4_86 sh_57 rfl dX4_manyTouch_6 ?_
      refine jg_top (y := nI (pn p)) (hM.1) ?_
      refine jn_icmp_ge i (pn p) rfl rfl (by omega) (by omega) 29 dX4_manyTouch_9 (by decide) (fun h_9 => ?_) (fun h_9 => ?_)
      · obtain rfl : i = pn p := by omega
        refine jg_iload_n dX4_manyTouch_29 rfl rfl ?_
        refine jg_iconst (v := 2) dX4_manyTouch_30 (by decide) ?_
        refine jg_idivE (z := nI (twosF p (pn p) / 2)) dX4_manyTouch_31 (by decide) (pk_div (d := 2) (by have := twosF_le p (pn p); omega) (by omega) (by omega)) ?_
        exact jg_iret (rfl) dX4_manyTouch_32 ⟨_, rfl, ⟨rfl, rfl⟩⟩
      · refine jg_iload_n dX4_manyTouch_12 rfl rfl ?_
        refine jg_aload_n dX4_manyTouch_13 rfl rfl ?_
        refine jg_iload_n dX4_manyTouch_14 rfl rfl ?_
        refine jg_callV (c4_touching E u p hp hpp hM hX i h_9) me_X4_touching ml_X4_158 sh_57 rfl rfl (by decide) (by decide) rfl (Nat.le_of_ble_eq_true rfl) dX4_manyTouch_15 (kk_I (fun r_15 u_15 h_15 => ?_))
        obtain ⟨rfl, rfl⟩ := h_15
        refine jg_callS (c4_size E u _ (setF_64 (tchF p i) hn)) me_X4_size ml_X4_161 rfl (by decide) (by decide) rfl (Nat.le_of_ble_eq_true rfl) dX4_manyTouch_18 (kk_I (fun r_18 u_18 h_18 => ?_))
        obtain ⟨rfl, rfl⟩ := h_18
        refine jg_iaddE (z := nI ((twosF p i) + (pcN (setF (tchF p i) (pn p))))) dX4_manyTouch_21 (nI_add (twosF p i) (pcN (setF (tchF p i) (pn p)))) ?_
        refine jg_istore_n dX4_manyTouch_22 rfl (by decide) rfl ?_
        refine jg_iinc (v := nI (i + 1)) dX4_manyTouch_23 rfl (nI_1 i) (by decide) rfl ?_
        refine jg_goto 4 dX4_manyTouch_26 (by decide) ?_
        exact ih (i + 1) (by omega) (by omega)
  exact cut_4 (pn p + 1) 0 (Nat.zero_le _) (by omega)
set_option maxHeartbeats 4000000 in
set_option maxRecDepth 20000 in
theorem c4_critical (E : gT) (u : Mm) (p : Pic) (hp : PicOk p) (h1 : ∀ a, a < pn p → 1 ≤ p 3 a) (hM : MdB u p) : Con E yX4_critical cX4_critical 4 (some .int) 3 [.ref (E.2.1 57)] u (kI (fun r u2 => r = nI (setF (crF p) (pn p)) ∧ MF u u2 ∧ MdL u2 p)) := by
  have hn := hp.1
  have b0 := brP_le hp
  refine Con.of (lv := [some (.ref (E.2.1 57)), none, none, none]) (by decide +kernel) (Nat.le_of_ble_eq_true rfl) rfl ?_
  refine jg_aload_n dX4_critical_0 rfl rfl ?_
  refine jg_callV (c4_findPlaces E u p hp hM h1) me_X4_findPlaces ml_X4_164 sh_57 rfl rfl (by decide) (by decide) rfl (Nat.le_of_ble_eq_true rfl) dX4_critical_1 (kk_V (fun u_1 h_1 => ?_))
  obtain ⟨hF0, hX0⟩ := h_1
  refine jg_aload_n dX4_critical_4 rfl rfl ?_
  refine jg_geti fk_X4_136 sh_57 rfl dX4_critical_5 ?_
  refine jg_top (y := nI (brP p)) (hX0.2.1) ?_
  refine jg_istore_n dX4_critical_8 rfl (by decide) rfl ?_
  refine jg_iconst (v := 0) dX4_critical_9 (by decide) ?_
  refine jg_istore_n dX4_critical_10 rfl (by decide) rfl ?_
  refine jg_iconst (v := 0) dX4_critical_11 (by decide) ?_
  refine jg_istore_n dX4_critical_12 rfl (by decide) rfl ?_
  have cut_13 : ∀ (m i : Nat) (v : Mm), i ≤ pn p → pn p < i + m → MF u v → (∀ a, a < pn p → v 73 a = nI (p1F p a) ∧ v 72 a = nI (yF p a)) → v 57 23 = nI (dpP p) → G E cX4_critical 4 (yX4_critical).cls (some .int) 3 (kI (fun r u2 => r = nI (setF (crF p) (pn p)) ∧ MF u u2 ∧ MdL u2 p)) 13 [some (.ref (E.2.1 57)), some (.int (nI (brP p))), some (.int (nI (setF (crF p) i))), some (.int (nI i))] [] v := by
    intro m
    induction m with
    | zero => intro i v h1 h2; omega
    | succ m ih =>
      intro i v hi hm hF hq hdp
      refine jg_iload_n dX4_critical_13 rfl rfl ?_
      refine jg_aload_n dX4_critical_14 rfl rfl ?_
      refine jg_geti fk_X4_86 sh_57 rfl dX4_critical_15 ?_
      refine jg_top (y := nI (pn p)) ((hF.2 5 (by decide) (by decide)).trans hM.1) ?_
      refine jn_icmp_ge i (pn p) rfl rfl (by omega) (by omega) 69 dX4_critical_18 (by decide) (fun h_18 => ?_) (fun h_18 => ?_)
      · obtain rfl : i = pn p := by omega
        refine jg_aload_n dX4_critical_69 rfl rfl ?_
        refine jg_callV (c4_findBreadth E v p hp (hM.fr hF) (fun a ha => (hq a ha).1)) me_X4_findBreadth ml_X4_145 sh_57 rfl rfl (by decide) (by decide) rfl (Nat.le_of_ble_eq_true rfl) dX4_critical_70 (kk_V (fun u_70 h_70 => ?_))
        obtain ⟨hF1, hx1, hbr1⟩ := h_70
        refine jg_iload_n dX4_critical_73 rfl rfl ?_
        exact jg_iret (rfl) dX4_critical_74 ⟨_, rfl, ⟨rfl, hF.tr hF1.mf, ⟨fun a ha => ⟨by rw [hF1.1 73 (by decide) (by decide)]; exact (hq a ha).1, hx1 a ha, by rw [hF1.1 72 (by decide) (by decide)]; exact (hq a ha).2⟩, hbr1, by rw [hF1.2 23 (by decide)]; exact hdp⟩⟩⟩
      · have hw := h1 i h_18
        have hw9 := (hp.2.1 i h_18).2.2
        have hB := hM.fr hF
        have hpd : PicOk (dcP p i) := hp.wd (by omega)
        have b1 := brP_le hpd
        refine jg_aload_n dX4_critical_21 rfl rfl ?_
        refine jg_getr fk_X4_25 sh_57 rfl dX4_critical_22 ?_
        refine jg_iload_n dX4_critical_25 rfl rfl ?_
        refine jg_dup2 dX4_critical_26 rfl rfl ?_
        refine jg_ld i sh_63 (by omega) (rfl) dX4_critical_27 ?_
        refine jg_top (y := nI (p 3 i)) ((hB.2 i h_18).2.2.1) ?_
        refine jg_iconst (v := 1) dX4_critical_28 (by decide) ?_
        refine jg_isubE (z := nI (p 3 i - 1)) dX4_critical_29 (pk_sub (a := p 3 i) (b := 1) hw) ?_
        refine jg_st i sh_63 (by omega) (rfl) dX4_critical_30 ?_
        refine jg_aload_n dX4_critical_31 rfl rfl ?_
        refine jg_callV (c4_findBreadth E (s2 v 63 i (nI (p 3 i - 1))) (dcP p i) hpd (hB.wd i (p 3 i - 1)) (fun a ha => by rw [s2_row (by decide)]; exact (hq a ha).1)) me_X4_findBreadth ml_X4_145 sh_57 rfl rfl (by decide) (by decide) rfl (Nat.le_of_ble_eq_true rfl) dX4_critical_32 (kk_V (fun u_32 h_32 => ?_))
        obtain ⟨hF1, hx1, hbr1⟩ := h_32
        refine jg_iload_n dX4_critical_35 rfl rfl ?_
        refine jg_aload_n dX4_critical_36 rfl rfl ?_
        refine jg_geti fk_X4_136 sh_57 rfl dX4_critical_37 ?_
        refine jg_top (y := nI (brP (dcP p i))) (hbr1) ?_
        refine jg_iload_n dX4_critical_40 rfl rfl ?_
        refine jn_icmp_ge (brP (dcP p i)) (brP p) rfl rfl (by omega) (by omega) 50 dX4_critical_41 (by decide) (fun h_41 => ?_) (fun h_41 => ?_)
        · have hcr : crF p i = false := by simp [crF]; omega
          refine jg_iconst (v := 0) dX4_critical_50 (by decide) ?_
          refine jg_iorE (z := nI (setF (crF p) (i + 1))) dX4_critical_51 ((or0 _).trans (congrArg nI (setF_no (c := crF p) hcr).symm)) ?_
          refine jg_istore_n dX4_critical_52 rfl (by decide) rfl ?_
          refine jg_aload_n dX4_critical_53 rfl rfl ?_
          refine jg_getr fk_X4_25 sh_57 rfl dX4_critical_54 ?_
          refine jg_iload_n dX4_critical_57 rfl rfl ?_
          refine jg_dup2 dX4_critical_58 rfl rfl ?_
          refine jg_ld i sh_63 (by omega) (rfl) dX4_critical_59 ?_
          refine jg_top (y := nI (p 3 i - 1)) (by rw [hF1.1 63 (by decide) (by decide), s2_self]) ?_
          refine jg_iconst (v := 1) dX4_critical_60 (by decide) ?_
          refine jg_iaddE (z := nI (p 3 i)) dX4_critical_61 (dec_inc hw) ?_
          refine jg_st i sh_63 (by omega) (rfl) dX4_critical_62 ?_
          refine jg_iinc (v := nI (i + 1)) dX4_critical_63 rfl (nI_1 i) (by decide) rfl ?_
          refine jg_goto 13 dX4_critical_66 (by decide) ?_
          have h63 : s2 u_32 63 i (nI (p 3 i)) 63 = v 63 := by rw [show nI (p 3 i) = v 63 i from (hB.2 i h_18).2.2.1.symm]; exact s2_back ((hF1.1 63 (by decide) (by decide)).trans (s2_at v 63 i _))
          exact ih (i + 1) _ (by omega) (by omega) ⟨fun k a b c d => by by_cases e : k = 63; (subst e; rw [h63]; exact hF.1 63 a b c d); (rw [s2_row e, hF1.1 k a b, s2_row e]; exact hF.1 k a b c d), fun j a b => by rw [s2_row (by decide), hF1.2 j a, s2_row (by decide)]; exact hF.2 j a b⟩ (fun a ha => by rw [s2_row (a := 73) (by decide), s2_row (a := 72) (by decide), hF1.1 73 (by decide) (by decide), hF1.1 72 (by decide) (by decide), s2_row (a := 73) (by decide), s2_row (a := 72) (by decide)]; exact hq a ha) (by rw [s2_row (by decide), hF1.2 23 (by decide), s2_row (by decide)]; exact hdp)
        · have hcr : crF p i = true := by simp [crF]; omega
          refine jg_iconst (v := 1) dX4_critical_44 (by decide) ?_
          refine jg_iload_n dX4_critical_45 rfl rfl ?_
          refine jg_ishl dX4_critical_46 ?_
          refine jg_goto 51 dX4_critical_47 (by decide) ?_
          refine jg_iorE (z := nI (setF (crF p) (i + 1))) dX4_critical_51 (orC (crF p) (by omega) hcr) ?_
          refine jg_istore_n dX4_critical_52 rfl (by decide) rfl ?_
          refine jg_aload_n dX4_critical_53 rfl rfl ?_
          refine jg_getr fk_X4_25 sh_57 rfl dX4_critical_54 ?_
          refine jg_iload_n dX4_critical_57 rfl rfl ?_
          refine jg_dup2 dX4_critical_58 rfl rfl ?_
          refine jg_ld i sh_63 (by omega) (rfl) dX4_critical_59 ?_
          refine jg_top (y := nI (p 3 i - 1)) (by rw [hF1.1 63 (by decide) (by decide), s2_self]) ?_
          refine jg_iconst (v := 1) dX4_critical_60 (by decide) ?_
          refine jg_iaddE (z := nI (p 3 i)) dX4_critical_61 (dec_inc hw) ?_
          refine jg_st i sh_63 (by omega) (rfl) dX4_critical_62 ?_
          refine jg_iinc (v := nI (i + 1)) dX4_critical_63 rfl (nI_1 i) (by decide) rfl ?_
          refine jg_goto 13 dX4_critical_66 (by decide) ?_
          have h63 : s2 u_32 63 i (nI (p 3 i)) 63 = v 63 := by rw [show nI (p 3 i) = v 63 i from (hB.2 i h_18).2.2.1.symm]; exact s2_back ((hF1.1 63 (by decide) (by decide)).trans (s2_at v 63 i _))
          exact ih (i + 1) _ (by omega) (by omega) ⟨fun k a b c d => by by_cases e : k = 63; (subst e; rw [h63]; exact hF.1 63 a b c d); (rw [s2_row e, hF1.1 k a b, s2_row e]; exact hF.1 k a b c d), fun j a b => by rw [s2_row (by decide), hF1.2 j a, s2_row (by decide)]; exact hF.2 j a b⟩ (fun a ha => by rw [s2_row (a := 73) (by decide), s2_row (a := 72) (by decide), hF1.1 73 (by decide) (by decide), hF1.1 72 (by decide) (by decide), s2_row (a := 73) (by decide), s2_row (a := 72) (by decide)]; exact hq a ha) (by rw [s2_row (by decide), hF1.2 23 (by decide), s2_row (by decide)]; exact hdp)
  exact cut_13 (pn p + 1) 0 _ (Nat.zero_le _) (by omega) hF0 (fun a ha => ⟨(hX0.1 a ha).1, (hX0.1 a ha).2.2⟩) hX0.2.2
set_option maxHeartbeats 4000000 in
set_option maxRecDepth 20000 in
theorem c4_widestOf (E : gT) (u : Mm) (p : Pic) (hp : PicOk p) (hM : MdB u p) (S : Int32) (c : Nat → Bool) (hS : ∀ a, a < pn p → (S >>> (nI a &&& 31)) &&& 1 = bI (c a)) : Con E yX4_widestOf cX4_widestOf 5 (some .int) 0 [.ref (E.2.1 57), .int S] u (kI (fun r u2 => r = oI (-9) (wsO c (p 3) (pn p)) ∧ u = u2)) := by
  have hn := hp.1
  refine Con.of (lv := [some (.ref (E.2.1 57)), some (.int S), none, none, none]) (by decide +kernel) (Nat.le_of_ble_eq_true rfl) rfl ?_
  refine jg_bipush (v := -9) dX4_widestOf_0 (by decide) ?_
  refine jg_istore_n dX4_widestOf_2 rfl (by decide) rfl ?_
  refine jg_iconst (v := 0) dX4_widestOf_3 (by decide) ?_
  refine jg_istore_n dX4_widestOf_4 rfl (by decide) rfl ?_
  have cut_5 : ∀ (m i : Nat), i ≤ pn p → pn p < i + m → G E cX4_widestOf 5 (yX4_widestOf).cls (some .int) 0 (kI (fun r u2 => r = oI (-9) (wsO c (p 3) (pn p)) ∧ u = u2)) 5 [some (.ref (E.2.1 57)), some (.int S), some (.int (oI (-9) (wsO c (p 3) i))), some (.int (nI i)), none] [] u := by
    intro m
    induction m with
    | zero => intro i h1 h2; omega
    | succ m ih =>
      intro i hi hm
      refine jg_iload_n dX4_widestOf_5 rfl rfl ?_
      refine jg_aload_n dX4_widestOf_6 rfl rfl ?_
      refine jg_geti fk_X4_86 sh_57 rfl dX4_widestOf_7 ?_
      refine jg_top (y := nI (pn p)) (hM.1) ?_
      refine jn_icmp_ge i (pn p) rfl rfl (by omega) (by omega) 77 dX4_widestOf_10 (by decide) (fun h_10 => ?_) (fun h_10 => ?_)
      · obtain rfl : i = pn p := by omega
        refine jg_iload_n dX4_widestOf_77 rfl rfl ?_
        exact jg_iret (rfl) dX4_widestOf_78 ⟨_, rfl, ⟨rfl, rfl⟩⟩
      · have hw := (hp.2.1 i h_10).2.2
        refine jg_iload_n dX4_widestOf_13 rfl rfl ?_
        refine jg_iload_n dX4_widestOf_14 rfl rfl ?_
        refine jg_ishr dX4_widestOf_15 ?_
        refine jg_iconst (v := 1) dX4_widestOf_16 (by decide) ?_
        refine jg_iand dX4_widestOf_17 ?_
        refine jg_top (y := bI (c i)) (hS i h_10) ?_
        refine jg_iconst (v := 1) dX4_widestOf_18 (by decide) ?_
        refine jg_icmp_ne 36 dX4_widestOf_19 (by decide) (fun h_19 => ?_) (fun h_19 => ?_)
        · have hc : c i = false := by cases h9 : c i; rfl; rw [h9] at h_19; exact absurd rfl h_19
          have eS : wsO c (p 3) (i + 1) = wsO c (p 3) i := wsO_no (fun q => by rw [hc] at q; exact absurd q.1 (by decide))
          refine jg_iconst (v := 0) dX4_widestOf_36 (by decide) ?_
          refine jg_istore dX4_widestOf_37 (by decide) rfl ?_
          refine jg_iload dX4_widestOf_39 rfl ?_
          refine jg_if_eq 69 dX4_widestOf_41 (by decide) (fun h_41 => ?_) (fun h_41 => absurd h_41 (fun q => q rfl))
          refine jg_iload_n dX4_widestOf_69 rfl rfl ?_
          refine jg_istore_n dX4_widestOf_70 rfl (by decide) rfl ?_
          refine jg_iinc (v := nI (i + 1)) dX4_widestOf_71 rfl (nI_1 i) (by decide) rfl ?_
          refine jg_goto 5 dX4_widestOf_74 (by decide) ?_
          have ih2 := ih (i + 1) (by omega) (by omega)
          rw [eS] at ih2
          exact jg_weak (gLe_s (gLe_s (gLe_s (gLe_s (gLe_n gLe_nil))))) ih2
        · have hc : c i = true := by cases h9 : c i; rw [h9] at h_19; exact absurd h_19 (by decide); rfl
          refine jg_aload_n dX4_widestOf_22 rfl rfl ?_
          refine jg_getr fk_X4_25 sh_57 rfl dX4_widestOf_23 ?_
          refine jg_iload_n dX4_widestOf_26 rfl rfl ?_
          refine jg_ld i sh_63 (by omega) (rfl) dX4_widestOf_27 ?_
          refine jg_top (y := nI (p 3 i)) ((hM.2 i h_10).2.2.1) ?_
          refine jg_iconst (v := 1) dX4_widestOf_28 (by decide) ?_
          refine jn_icmp_le (p 3 i) 1 rfl rfl (by omega) (by omega) 36 dX4_widestOf_29 (by decide) (fun h_29 => ?_) (fun h_29 => ?_)
          · have eS : wsO c (p 3) (i + 1) = wsO c (p 3) i := wsO_no (fun q => by omega)
            refine jg_iconst (v := 0) dX4_widestOf_36 (by decide) ?_
            refine jg_istore dX4_widestOf_37 (by decide) rfl ?_
            refine jg_iload dX4_widestOf_39 rfl ?_
            refine jg_if_eq 69 dX4_widestOf_41 (by decide) (fun h_41 => ?_) (fun h_41 => absurd h_41 (fun q => q rfl))
            refine jg_iload_n dX4_widestOf_69 rfl rfl ?_
            refine jg_istore_n dX4_widestOf_70 rfl (by decide) rfl ?_
            refine jg_iinc (v := nI (i + 1)) dX4_widestOf_71 rfl (nI_1 i) (by decide) rfl ?_
            refine jg_goto 5 dX4_widestOf_74 (by decide) ?_
            have ih2 := ih (i + 1) (by omega) (by omega)
            rw [eS] at ih2
            exact jg_weak (gLe_s (gLe_s (gLe_s (gLe_s (gLe_n gLe_nil))))) ih2
          · refine jg_iconst (v := 1) dX4_widestOf_32 (by decide) ?_
            refine jg_goto 37 dX4_widestOf_33 (by decide) ?_
            refine jg_istore dX4_widestOf_37 (by decide) rfl ?_
            refine jg_iload dX4_widestOf_39 rfl ?_
            refine jg_if_eq 69 dX4_widestOf_41 (by decide) (fun h_41 => absurd h_41 (by decide)) (fun h_41 => ?_)
            refine jg_iload_n dX4_widestOf_44 rfl rfl ?_
            refine jg_bipush (v := -9) dX4_widestOf_45 (by decide) ?_
            refine jg_icmp_eq 65 dX4_widestOf_47 (by decide) (fun h_47 => ?_) (fun h_47 => ?_)
            · have hno : wsO c (p 3) i = none := by
                cases h9 : wsO c (p 3) i with
                | none => rfl
                | some a => rw [h9, oI_some] at h_47; have h8 := (wsO_lt h9).1; exact absurd h_47 (oI_ne (by decide) (by omega))
              have eS : wsO c (p 3) (i + 1) = some i := wsO_yes hc h_29 (by rw [hno]; rfl)
              refine jg_iload_n dX4_widestOf_65 rfl rfl ?_
              refine jg_goto 70 dX4_widestOf_66 (by decide) ?_
              refine jg_istore_n dX4_widestOf_70 rfl (by decide) rfl ?_
              refine jg_iinc (v := nI (i + 1)) dX4_widestOf_71 rfl (nI_1 i) (by decide) rfl ?_
              refine jg_goto 5 dX4_widestOf_74 (by decide) ?_
              have ih2 := ih (i + 1) (by omega) (by omega)
              rw [eS] at ih2
              exact jg_weak (gLe_s (gLe_s (gLe_s (gLe_s (gLe_n gLe_nil))))) ih2
            · obtain ⟨a9, h9⟩ : ∃ a, wsO c (p 3) i = some a := by
                cases h9 : wsO c (p 3) i with
                | none => rw [h9] at h_47; exact absurd rfl h_47
                | some a => exact ⟨a, rfl⟩
              have h8 := (wsO_lt h9).1
              have hw9 := (hp.2.1 a9 (by omega)).2.2
              rw [h9, oI_some]
              refine jg_aload_n dX4_widestOf_50 rfl rfl ?_
              refine jg_getr fk_X4_25 sh_57 rfl dX4_widestOf_51 ?_
              refine jg_iload_n dX4_widestOf_54 rfl rfl ?_
              refine jg_ld i sh_63 (by omega) (rfl) dX4_widestOf_55 ?_
              refine jg_top (y := nI (p 3 i)) ((hM.2 i h_10).2.2.1) ?_
              refine jg_aload_n dX4_widestOf_56 rfl rfl ?_
              refine jg_getr fk_X4_25 sh_57 rfl dX4_widestOf_57 ?_
              refine jg_iload_n dX4_widestOf_60 rfl rfl ?_
              refine jg_ld a9 sh_63 (by omega) (rfl) dX4_widestOf_61 ?_
              refine jg_top (y := nI (p 3 a9)) ((hM.2 a9 (by omega)).2.2.1) ?_
              refine jn_icmp_le (p 3 i) (p 3 a9) rfl rfl (by omega) (by omega) 69 dX4_widestOf_62 (by decide) (fun h_62 => ?_) (fun h_62 => ?_)
              · have eS : wsO c (p 3) (i + 1) = some a9 := by rw [wsO_no (fun q => by have h7 := q.2.2; rw [h9] at h7; simp [wsb] at h7; omega), h9]
                refine jg_iload_n dX4_widestOf_69 rfl rfl ?_
                refine jg_istore_n dX4_widestOf_70 rfl (by decide) rfl ?_
                refine jg_iinc (v := nI (i + 1)) dX4_widestOf_71 rfl (nI_1 i) (by decide) rfl ?_
                refine jg_goto 5 dX4_widestOf_74 (by decide) ?_
                have ih2 := ih (i + 1) (by omega) (by omega)
                rw [eS] at ih2
                exact jg_weak (gLe_s (gLe_s (gLe_s (gLe_s (gLe_n gLe_nil))))) ih2
              · have eS : wsO c (p 3) (i + 1) = some i := wsO_yes hc h_29 (by rw [h9]; simp [wsb]; omega)
                refine jg_iload_n dX4_widestOf_65 rfl rfl ?_
                refine jg_goto 70 dX4_widestOf_66 (by decide) ?_
                refine jg_istore_n dX4_widestOf_70 rfl (by decide) rfl ?_
                refine jg_iinc (v := nI (i + 1)) dX4_widestOf_71 rfl (nI_1 i) (by decide) rfl ?_
                refine jg_goto 5 dX4_widestOf_74 (by decide) ?_
                have ih2 := ih (i + 1) (by omega) (by omega)
                rw [eS] at ih2
                exact jg_weak (gLe_s (gLe_s (gLe_s (gLe_s (gLe_n gLe_nil))))) ih2
  exact jg_weak (gLe_s (gLe_s (gLe_s (gLe_s (gLe_n gLe_nil))))) (cut_5 (pn p + 1) 0 (Nat.zero_le _) (by omega))
set_option maxHeartbeats 4000000 in
set_option maxRecDepth 20000 in
theorem c4_turns (E : gT) (u : Mm) (w k : Nat) (hw : w < 2) (hk : k + 1 < 6) : Con E yX4_turns cX4_turns 5 none 0 [.ref (E.2.1 57), .int (nI w), .int (nI k)] u (kV (fun u2 => u2 = s2 (s2 u 65 (6 * w + k) (u 65 (6 * w + k + 1))) 65 (6 * w + k + 1) (u 65 (6 * w + k)))) := by
  refine Con.of (lv := [some (.ref (E.2.1 57)), some (.int (nI w)), some (.int (nI k)), none, none]) (by decide +kernel) (Nat.le_of_ble_eq_true rfl) rfl ?_
  refine jg_bipush (v := 6) dX4_turns_0 (by decide) ?_
  refine jg_iload_n dX4_turns_2 rfl rfl ?_
  refine jg_imulE (z := nI (6 * w)) dX4_turns_3 (pk_mul 6 w) ?_
  refine jg_iload_n dX4_turns_4 rfl rfl ?_
  refine jg_iaddE (z := nI ((6 * w) + k)) dX4_turns_5 (nI_add (6 * w) k) ?_
  refine jg_istore_n dX4_turns_6 rfl (by decide) rfl ?_
  refine jg_aload_n dX4_turns_7 rfl rfl ?_
  refine jg_getr fk_X4_31 sh_57 rfl dX4_turns_8 ?_
  refine jg_iload_n dX4_turns_11 rfl rfl ?_
  refine jg_ld ((6 * w) + k) sh_65 (by omega) (rfl) dX4_turns_12 ?_
  refine jg_istore dX4_turns_13 (by decide) rfl ?_
  refine jg_aload_n dX4_turns_15 rfl rfl ?_
  refine jg_getr fk_X4_31 sh_57 rfl dX4_turns_16 ?_
  refine jg_iload_n dX4_turns_19 rfl rfl ?_
  refine jg_aload_n dX4_turns_20 rfl rfl ?_
  refine jg_getr fk_X4_31 sh_57 rfl dX4_turns_21 ?_
  refine jg_iload_n dX4_turns_24 rfl rfl ?_
  refine jg_iconst (v := 1) dX4_turns_25 (by decide) ?_
  refine jg_iaddE (z := nI (((6 * w) + k) + 1)) dX4_turns_26 (nI_add ((6 * w) + k) 1) ?_
  refine jg_ld (((6 * w) + k) + 1) sh_65 (by omega) (rfl) dX4_turns_27 ?_
  refine jg_st ((6 * w) + k) sh_65 (by omega) (rfl) dX4_turns_28 ?_
  refine jg_aload_n dX4_turns_29 rfl rfl ?_
  refine jg_getr fk_X4_31 sh_57 rfl dX4_turns_30 ?_
  refine jg_iload_n dX4_turns_33 rfl rfl ?_
  refine jg_iconst (v := 1) dX4_turns_34 (by decide) ?_
  refine jg_iaddE (z := nI (((6 * w) + k) + 1)) dX4_turns_35 (nI_add ((6 * w) + k) 1) ?_
  refine jg_iload dX4_turns_36 rfl ?_
  refine jg_st (((6 * w) + k) + 1) sh_65 (by omega) (rfl) dX4_turns_38 ?_
  exact jg_vret dX4_turns_39 ⟨rfl, rfl⟩
set_option maxHeartbeats 4000000 in
set_option maxRecDepth 20000 in
theorem c4_turnsAbout (E : gT) (u : Mm) (i j : Nat) (hi : i < 6) (hj : j < 6) : Con E yX4_turnsAbout cX4_turnsAbout 4 none 0 [.ref (E.2.1 57), .int (nI i), .int (nI j)] u (kV (fun u2 => u2 = s2 (s2 u 65 (6 + i) (u 65 (6 + j))) 65 (6 + j) (u 65 (6 + i)))) := by
  refine Con.of (lv := [some (.ref (E.2.1 57)), some (.int (nI i)), some (.int (nI j)), none]) (by decide +kernel) (Nat.le_of_ble_eq_true rfl) rfl ?_
  refine jg_aload_n dX4_turnsAbout_0 rfl rfl ?_
  refine jg_getr fk_X4_31 sh_57 rfl dX4_turnsAbout_1 ?_
  refine jg_bipush (v := 6) dX4_turnsAbout_4 (by decide) ?_
  refine jg_iload_n dX4_turnsAbout_6 rfl rfl ?_
  refine jg_iaddE (z := nI (6 + i)) dX4_turnsAbout_7 (nI_add 6 i) ?_
  refine jg_ld (6 + i) sh_65 (by omega) (rfl) dX4_turnsAbout_8 ?_
  refine jg_istore_n dX4_turnsAbout_9 rfl (by decide) rfl ?_
  refine jg_aload_n dX4_turnsAbout_10 rfl rfl ?_
  refine jg_getr fk_X4_31 sh_57 rfl dX4_turnsAbout_11 ?_
  refine jg_bipush (v := 6) dX4_turnsAbout_14 (by decide) ?_
  refine jg_iload_n dX4_turnsAbout_16 rfl rfl ?_
  refine jg_iaddE (z := nI (6 + i)) dX4_turnsAbout_17 (nI_add 6 i) ?_
  refine jg_aload_n dX4_turnsAbout_18 rfl rfl ?_
  refine jg_getr fk_X4_31 sh_57 rfl dX4_turnsAbout_19 ?_
  refine jg_bipush (v := 6) dX4_turnsAbout_22 (by decide) ?_
  refine jg_iload_n dX4_turnsAbout_24 rfl rfl ?_
  refine jg_iaddE (z := nI (6 + j)) dX4_turnsAbout_25 (nI_add 6 j) ?_
  refine jg_ld (6 + j) sh_65 (by omega) (rfl) dX4_turnsAbout_26 ?_
  refine jg_st (6 + i) sh_65 (by omega) (rfl) dX4_turnsAbout_27 ?_
  refine jg_aload_n dX4_turnsAbout_28 rfl rfl ?_
  refine jg_getr fk_X4_31 sh_57 rfl dX4_turnsAbout_29 ?_
  refine jg_bipush (v := 6) dX4_turnsAbout_32 (by decide) ?_
  refine jg_iload_n dX4_turnsAbout_34 rfl rfl ?_
  refine jg_iaddE (z := nI (6 + j)) dX4_turnsAbout_35 (nI_add 6 j) ?_
  refine jg_iload_n dX4_turnsAbout_36 rfl rfl ?_
  refine jg_st (6 + j) sh_65 (by omega) (rfl) dX4_turnsAbout_37 ?_
  exact jg_vret dX4_turnsAbout_38 ⟨rfl, rfl⟩
set_option maxHeartbeats 4000000 in
set_option maxRecDepth 20000 in
theorem c4_goesOn (E : gT) (u : Mm) (n : Nat) (o : Nat → Nat) (h1 : 1 ≤ n) (hn : n ≤ 6) (hu : u 57 5 = nI n) (ho : ∀ x, x < n → u 65 (6 + x) = nI (o x)) (hB : ∀ x, x < n → o x < 6) : Con E yX4_goesOn cX4_goesOn 6 (some .boolean) 1 [.ref (E.2.1 57)] u (kI (fun r u2 => r = bI (kf o (n - 1)).isSome ∧ (∀ k, k ≠ 65 → u2 k = u k) ∧ (∀ x, x < 6 → u2 65 x = u 65 x) ∧ ∀ x, x < n → u2 65 (6 + x) = nI (nextP n o x))) := by
  refine Con.of (lv := [some (.ref (E.2.1 57)), none, none, none, none, none]) (by decide +kernel) (Nat.le_of_ble_eq_true rfl) rfl ?_
  refine jg_aload_n dX4_goesOn_0 rfl rfl ?_
  refine jg_geti fk_X4_86 sh_57 rfl dX4_goesOn_1 ?_
  refine jg_top (y := nI n) (hu) ?_
  refine jg_iconst (v := 2) dX4_goesOn_4 (by decide) ?_
  refine jg_isubE (z := dI (n - 1)) dX4_goesOn_5 (dI_2 h1) ?_
  refine jg_istore_n dX4_goesOn_6 rfl (by decide) rfl ?_
  have cut_7 : ∀ (m t : Nat), t < m → t ≤ n - 1 → kf o t = kf o (n - 1) → G E cX4_goesOn 6 (yX4_goesOn).cls (some .boolean) 1 (kI (fun r u2 => r = bI (kf o (n - 1)).isSome ∧ (∀ k, k ≠ 65 → u2 k = u k) ∧ (∀ x, x < 6 → u2 65 x = u 65 x) ∧ ∀ x, x < n → u2 65 (6 + x) = nI (nextP n o x))) 7 [some (.ref (E.2.1 57)), some (.int (dI t)), none, none, none, none] [] u := by
    intro m
    induction m with
    | zero => intro t h; omega
    | succ m ih =>
      intro t hm ht hk
      refine jg_iload_n dX4_goesOn_7 rfl rfl ?_
      refine jg_if_lt 40 dX4_goesOn_8 (by decide) (fun h_8 => ?_) (fun h_8 => ?_)
      · obtain rfl : t = 0 := by rcases t with _ | s; rfl; rw [dI_s] at h_8; exact absurd h_8 (nI_pos (by omega))
        refine jg_iload_n dX4_goesOn_40 rfl rfl ?_
        refine jg_if_ge 46 dX4_goesOn_41 (by decide) (fun h_41 => absurd h_41 (by decide)) (fun h_41 => ?_)
        refine jg_iconst (v := 0) dX4_goesOn_44 (by decide) ?_
        exact jg_iret (rfl) dX4_goesOn_45 ⟨_, rfl, ⟨by rw [← hk]; rfl, fun _ _ => rfl, fun _ _ => rfl, fun x hx => by unfold nextP; rw [← hk]; exact ho x hx⟩⟩
      · obtain ⟨s, rfl⟩ : ∃ s, t = s + 1 := by rcases t with _ | s; exact absurd dI_0 h_8; exact ⟨s, rfl⟩
        rw [dI_s]
        have hs0 := hB s (by omega)
        have hs1 := hB (s + 1) (by omega)
        refine jg_aload_n dX4_goesOn_11 rfl rfl ?_
        refine jg_getr fk_X4_31 sh_57 rfl dX4_goesOn_12 ?_
        refine jg_bipush (v := 6) dX4_goesOn_15 (by decide) ?_
        refine jg_iload_n dX4_goesOn_17 rfl rfl ?_
        refine jg_iaddE (z := nI (6 + s)) dX4_goesOn_18 (nI_add 6 s) ?_
        refine jg_ld (6 + s) sh_65 (by omega) (rfl) dX4_goesOn_19 ?_
        refine jg_top (y := nI (o s)) (ho s (by omega)) ?_
        refine jg_aload_n dX4_goesOn_20 rfl rfl ?_
        refine jg_getr fk_X4_31 sh_57 rfl dX4_goesOn_21 ?_
        refine jg_bipush (v := 6) dX4_goesOn_24 (by decide) ?_
        refine jg_iload_n dX4_goesOn_26 rfl rfl ?_
        refine jg_iaddE (z := nI (6 + s)) dX4_goesOn_27 (nI_add 6 s) ?_
        refine jg_iconst (v := 1) dX4_goesOn_28 (by decide) ?_
        refine jg_iaddE (z := nI ((6 + s) + 1)) dX4_goesOn_29 (nI_add (6 + s) 1) ?_
        refine jg_ld ((6 + s) + 1) sh_65 (by omega) (rfl) dX4_goesOn_30 ?_
        refine jg_top (y := nI (o (s + 1))) (ho (s + 1) (by omega)) ?_
        refine jn_icmp_le (o s) (o (s + 1)) rfl rfl (by omega) (by omega) 40 dX4_goesOn_31 (by decide) (fun h_31 => ?_) (fun h_31 => ?_)
        · have ek : kf o (n - 1) = some s := by rw [← hk]; show (if _ then _ else _) = _; rw [if_neg (by omega)]
          refine jg_iload_n dX4_goesOn_40 rfl rfl ?_
          refine jg_if_ge 46 dX4_goesOn_41 (by decide) (fun h_41 => ?_) (fun h_41 => absurd h_41 (fun q => q (nI_pos' (by omega))))
          refine jg_aload_n dX4_goesOn_46 rfl rfl ?_
          refine jg_geti fk_X4_86 sh_57 rfl dX4_goesOn_47 ?_
          refine jg_top (y := nI n) (hu) ?_
          refine jg_iconst (v := 1) dX4_goesOn_50 (by decide) ?_
          refine jg_isubE (z := nI (n - 1)) dX4_goesOn_51 (pk_sub (a := n) (b := 1) h1) ?_
          refine jg_istore_n dX4_goesOn_52 rfl (by decide) rfl ?_
          have cut_53 : ∀ (m j : Nat), j < m → s + 1 ≤ j → j ≤ n - 1 → jf o s j = jf o s (n - 1) → G E cX4_goesOn 6 (yX4_goesOn).cls (some .boolean) 1 (kI (fun r u2 => r = bI (kf o (n - 1)).isSome ∧ (∀ k, k ≠ 65 → u2 k = u k) ∧ (∀ x, x < 6 → u2 65 x = u 65 x) ∧ ∀ x, x < n → u2 65 (6 + x) = nI (nextP n o x))) 53 [some (.ref (E.2.1 57)), some (.int (nI s)), some (.int (nI j)), none, none, none] [] u := by
            intro m
            induction m with
            | zero => intro j h; omega
            | succ m ih2 =>
              intro j hm2 hj1 hj2 hjf
              have hj9 := hB j (by omega)
              refine jg_aload_n dX4_goesOn_53 rfl rfl ?_
              refine jg_getr fk_X4_31 sh_57 rfl dX4_goesOn_54 ?_
              refine jg_bipush (v := 6) dX4_goesOn_57 (by decide) ?_
              refine jg_iload_n dX4_goesOn_59 rfl rfl ?_
              refine jg_iaddE (z := nI (6 + j)) dX4_goesOn_60 (nI_add 6 j) ?_
              refine jg_ld (6 + j) sh_65 (by omega) (rfl) dX4_goesOn_61 ?_
              refine jg_top (y := nI (o j)) (ho j (by omega)) ?_
              refine jg_aload_n dX4_goesOn_62 rfl rfl ?_
              refine jg_getr fk_X4_31 sh_57 rfl dX4_goesOn_63 ?_
              refine jg_bipush (v := 6) dX4_goesOn_66 (by decide) ?_
              refine jg_iload_n dX4_goesOn_68 rfl rfl ?_
              refine jg_iaddE (z := nI (6 + s)) dX4_goesOn_69 (nI_add 6 s) ?_
              refine jg_ld (6 + s) sh_65 (by omega) (rfl) dX4_goesOn_70 ?_
              refine jg_top (y := nI (o s)) (ho s (by omega)) ?_
              refine jn_icmp_ge (o j) (o s) rfl rfl (by omega) (by omega) 80 dX4_goesOn_71 (by decide) (fun h_71 => ?_) (fun h_71 => ?_)
              · have ej : jf o s (n - 1) = j := by rw [← hjf]; exact jf_stop (by omega) (Or.inr h_71)
                refine jg_aload_n dX4_goesOn_80 rfl rfl ?_
                refine jg_getr fk_X4_31 sh_57 rfl dX4_goesOn_81 ?_
                refine jg_bipush (v := 6) dX4_goesOn_84 (by decide) ?_
                refine jg_iload_n dX4_goesOn_86 rfl rfl ?_
                refine jg_iaddE (z := nI (6 + s)) dX4_goesOn_87 (nI_add 6 s) ?_
                refine jg_ld (6 + s) sh_65 (by omega) (rfl) dX4_goesOn_88 ?_
                refine jg_istore_n dX4_goesOn_89 rfl (by decide) rfl ?_
                refine jg_aload_n dX4_goesOn_90 rfl rfl ?_
                refine jg_getr fk_X4_31 sh_57 rfl dX4_goesOn_91 ?_
                refine jg_bipush (v := 6) dX4_goesOn_94 (by decide) ?_
                refine jg_iload_n dX4_goesOn_96 rfl rfl ?_
                refine jg_iaddE (z := nI (6 + s)) dX4_goesOn_97 (nI_add 6 s) ?_
                refine jg_aload_n dX4_goesOn_98 rfl rfl ?_
                refine jg_getr fk_X4_31 sh_57 rfl dX4_goesOn_99 ?_
                refine jg_bipush (v := 6) dX4_goesOn_102 (by decide) ?_
                refine jg_iload_n dX4_goesOn_104 rfl rfl ?_
                refine jg_iaddE (z := nI (6 + j)) dX4_goesOn_105 (nI_add 6 j) ?_
                refine jg_ld (6 + j) sh_65 (by omega) (rfl) dX4_goesOn_106 ?_
                refine jg_st (6 + s) sh_65 (by omega) (rfl) dX4_goesOn_107 ?_
                refine jg_aload_n dX4_goesOn_108 rfl rfl ?_
                refine jg_getr fk_X4_31 sh_57 rfl dX4_goesOn_109 ?_
                refine jg_bipush (v := 6) dX4_goesOn_112 (by decide) ?_
                refine jg_iload_n dX4_goesOn_114 rfl rfl ?_
                refine jg_iaddE (z := nI (6 + j)) dX4_goesOn_115 (nI_add 6 j) ?_
                refine jg_iload_n dX4_goesOn_116 rfl rfl ?_
                refine jg_st (6 + j) sh_65 (by omega) (rfl) dX4_goesOn_117 ?_
                refine jg_iload_n dX4_goesOn_118 rfl rfl ?_
                refine jg_iconst (v := 1) dX4_goesOn_119 (by decide) ?_
                refine jg_iaddE (z := nI (s + 1)) dX4_goesOn_120 (nI_add s 1) ?_
                refine jg_istore dX4_goesOn_121 (by decide) rfl ?_
                refine jg_aload_n dX4_goesOn_123 rfl rfl ?_
                refine jg_geti fk_X4_86 sh_57 rfl dX4_goesOn_124 ?_
                refine jg_top (y := nI n) (by rw [s2_row (by decide), s2_row (by decide)]; exact hu) ?_
                refine jg_iconst (v := 1) dX4_goesOn_127 (by decide) ?_
                refine jg_isubE (z := nI (n - 1)) dX4_goesOn_128 (pk_sub (a := n) (b := 1) h1) ?_
                refine jg_istore dX4_goesOn_129 (by decide) rfl ?_
                have cut_131 : ∀ (M f l q : Nat) (oo : Nat → Nat) (v : Mm), f ≤ l + 1 → l + 1 < f + M → l < n → l ≤ f + q → (∀ k, k ≠ 65 → v k = u k) → (∀ x, x < 6 → v 65 x = u 65 x) → (∀ x, x < n → v 65 (6 + x) = nI (oo x)) → rvF q oo f l = nextP n o → G E cX4_goesOn 6 (yX4_goesOn).cls (some .boolean) 1 (kI (fun r u2 => r = bI (kf o (n - 1)).isSome ∧ (∀ k, k ≠ 65 → u2 k = u k) ∧ (∀ x, x < 6 → u2 65 x = u 65 x) ∧ ∀ x, x < n → u2 65 (6 + x) = nI (nextP n o x))) 131 [some (.ref (E.2.1 57)), some (.int (nI s)), some (.int (nI j)), none, some (.int (nI f)), some (.int (nI l))] [] v := by
                  intro M
                  induction M with
                  | zero => intro f l q oo v h1 h2; omega
                  | succ M ih3 =>
                    intro f l q oo v hf hM hl hq hfr hlo hv hT
                    refine jg_iload dX4_goesOn_131 rfl ?_
                    refine jg_iload dX4_goesOn_133 rfl ?_
                    refine jn_icmp_ge f l rfl rfl (by omega) (by omega) 155 dX4_goesOn_135 (by decide) (fun h_135 => ?_) (fun h_135 => ?_)
                    · refine jg_iconst (v := 1) dX4_goesOn_155 (by decide) ?_
                      exact jg_iret (rfl) dX4_goesOn_156 ⟨_, rfl, ⟨by rw [ek]; rfl, hfr, hlo, fun x hx => by rw [hv x hx, ← hT, rv_stop (by omega)]⟩⟩
                    · refine jg_aload_n dX4_goesOn_138 rfl rfl ?_
                      refine jg_iload dX4_goesOn_139 rfl ?_
                      refine jg_iload dX4_goesOn_141 rfl ?_
                      refine jg_callV (c4_turnsAbout E v f l (by omega) (by omega)) me_X4_turnsAbout ml_X4_214 sh_57 rfl rfl (by decide) (by decide) rfl (Nat.le_of_ble_eq_true rfl) dX4_goesOn_143 (kk_V (fun u_143 h_143 => ?_))
                      obtain rfl := h_143
                      refine jg_iinc (v := nI (f + 1)) dX4_goesOn_146 rfl (nI_1 f) (by decide) rfl ?_
                      refine jg_iinc (v := nI (l - 1)) dX4_goesOn_149 rfl ((dI_m l).trans (by unfold dI; exact pk_sub (a := l) (b := 1) (by omega))) (by decide) rfl ?_
                      refine jg_goto 131 dX4_goesOn_152 (by decide) ?_
                      obtain ⟨q, rfl⟩ : ∃ z, q = z + 1 := ⟨q - 1, by omega⟩
                      exact ih3 (f + 1) (l - 1) q (swF oo f l) _ (by omega) (by omega) (by omega) (by omega) (fun k hk9 => (sw_out hk9).trans (hfr k hk9)) (fun x hx => (sw_low6 hx).trans (hlo x hx)) (sw_row6 hv (by omega) hl) (by rw [← hT, rv_go h_135])
                exact jg_weak (gLe_s (gLe_s (gLe_s (gLe_n (gLe_s (gLe_s gLe_nil)))))) (cut_131 (n + 1) (s + 1) (n - 1) n (swF o s j) _ (by omega) (by omega) (by omega) (by omega) (fun k hk9 => sw_out hk9) (fun x hx => sw_low6 hx) (sw_row6 ho (by omega) (by omega)) (by unfold nextP; rw [ek]; show _ = rvF n (swF o s (jf o s (n - 1))) (s + 1) (n - 1); rw [ej]))
              · have hj3 : s + 1 < j := by rcases Nat.lt_or_ge (s + 1) j with z | z; exact z; exact absurd (show o (s + 1) < o s by rw [show s + 1 = j by omega]; exact h_71) (kf_up ek)
                refine jg_iinc (v := nI (j - 1)) dX4_goesOn_74 rfl ((dI_m j).trans (by unfold dI; exact pk_sub (a := j) (b := 1) (by omega))) (by decide) rfl ?_
                refine jg_goto 53 dX4_goesOn_77 (by decide) ?_
                exact ih2 (j - 1) (by omega) (by omega) (by omega) (by rw [← hjf, jf_go hj3 h_71])
          exact cut_53 (n + 1) (n - 1) (by omega) (by omega) (Nat.le_refl _) rfl
        · have ek : kf o (s + 1) = kf o s := by show (if _ then _ else _) = _; rw [if_pos h_31]
          refine jg_iinc (v := dI s) dX4_goesOn_34 rfl (dI_m s) (by decide) rfl ?_
          refine jg_goto 7 dX4_goesOn_37 (by decide) ?_
          exact ih s (by omega) (by omega) (by rw [← hk, ek])
  exact cut_7 (n + 1) (n - 1) (by omega) (Nat.le_refl _) rfl
