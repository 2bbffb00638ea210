set_option maxHeartbeats 4000000 in
set_option maxRecDepth 20000 in
theorem cJ_bitCount (E : gT) (u : Mm) (s : Nat) (hs : s < 64) : Con E yJ6_bitCount_0f7a4 cJ6_bitCount_0f7a4 1 (some .int) 0 [.int (nI s)] u (kI (fun r u2 => r = nI (pcN s) ∧ u = u2)) := by
  refine Con.of (lv := [some (.int (nI s))]) (by decide +kernel) (Nat.le_of_ble_eq_true rfl) rfl ?_
  refine jg_iload_n dJ6_bitCount_0f7a4_0 rfl rfl ?_
  refine jg_iload_n dJ6_bitCount_0f7a4_1 rfl rfl ?_
  refine jg_iconst (v := 1) dJ6_bitCount_0f7a4_2 (by decide) ?_
  refine jg_iushr dJ6_bitCount_0f7a4_3 rfl ?_
  refine jg_ldcw kc_J6_265 dJ6_bitCount_0f7a4_4 ?_
  refine jg_iand dJ6_bitCount_0f7a4_7 ?_
  refine jg_isub dJ6_bitCount_0f7a4_8 ?_
  refine jg_istore_n dJ6_bitCount_0f7a4_9 rfl (by decide) rfl ?_
  refine jg_iload_n dJ6_bitCount_0f7a4_10 rfl rfl ?_
  refine jg_ldcw kc_J6_266 dJ6_bitCount_0f7a4_11 ?_
  refine jg_iand dJ6_bitCount_0f7a4_14 ?_
  refine jg_iload_n dJ6_bitCount_0f7a4_15 rfl rfl ?_
  refine jg_iconst (v := 2) dJ6_bitCount_0f7a4_16 (by decide) ?_
  refine jg_iushr dJ6_bitCount_0f7a4_17 rfl ?_
  refine jg_ldcw kc_J6_266 dJ6_bitCount_0f7a4_18 ?_
  refine jg_iand dJ6_bitCount_0f7a4_21 ?_
  refine jg_iadd dJ6_bitCount_0f7a4_22 ?_
  refine jg_istore_n dJ6_bitCount_0f7a4_23 rfl (by decide) rfl ?_
  refine jg_iload_n dJ6_bitCount_0f7a4_24 rfl rfl ?_
  refine jg_iload_n dJ6_bitCount_0f7a4_25 rfl rfl ?_
  refine jg_iconst (v := 4) dJ6_bitCount_0f7a4_26 (by decide) ?_
  refine jg_iushr dJ6_bitCount_0f7a4_27 rfl ?_
  refine jg_iadd dJ6_bitCount_0f7a4_28 ?_
  refine jg_ldcw kc_J6_267 dJ6_bitCount_0f7a4_29 ?_
  refine jg_iand dJ6_bitCount_0f7a4_32 ?_
  refine jg_istore_n dJ6_bitCount_0f7a4_33 rfl (by decide) rfl ?_
  refine jg_iload_n dJ6_bitCount_0f7a4_34 rfl rfl ?_
  refine jg_iload_n dJ6_bitCount_0f7a4_35 rfl rfl ?_
  refine jg_bipush (v := 8) dJ6_bitCount_0f7a4_36 (by decide) ?_
  refine jg_iushr dJ6_bitCount_0f7a4_38 rfl ?_
  refine jg_iadd dJ6_bitCount_0f7a4_39 ?_
  refine jg_istore_n dJ6_bitCount_0f7a4_40 rfl (by decide) rfl ?_
  refine jg_iload_n dJ6_bitCount_0f7a4_41 rfl rfl ?_
  refine jg_iload_n dJ6_bitCount_0f7a4_42 rfl rfl ?_
  refine jg_bipush (v := 16) dJ6_bitCount_0f7a4_43 (by decide) ?_
  refine jg_iushr dJ6_bitCount_0f7a4_45 rfl ?_
  refine jg_iadd dJ6_bitCount_0f7a4_46 ?_
  refine jg_istore_n dJ6_bitCount_0f7a4_47 rfl (by decide) rfl ?_
  refine jg_iload_n dJ6_bitCount_0f7a4_48 rfl rfl ?_
  refine jg_bipush (v := 63) dJ6_bitCount_0f7a4_49 (by decide) ?_
  refine jg_iand dJ6_bitCount_0f7a4_51 ?_
  exact jg_iret (rfl) dJ6_bitCount_0f7a4_52 ⟨_, rfl, ⟨by revert s; decide +kernel, rfl⟩⟩
set_option maxHeartbeats 4000000 in
set_option maxRecDepth 20000 in
theorem c0_touchingTwos (E : gT) {b : Nat} (hb : isPl b) (u : Mm) (p : Pic) (hp : PicOk p) (hL : PlL b u p) : Con E yX0_touchingTwos cX0_touchingTwos 3 (some .int) 3 [.ref (E.2.1 b)] u (kI (fun r u2 => r = nI (twosF p (pn p) / 2) ∧ u = u2)) := by
  have hn := hp.1
  refine Con.of (lv := [some (.ref (E.2.1 b)), none, none]) (by decide +kernel) (Nat.le_of_ble_eq_true rfl) rfl ?_
  refine jg_iconst (v := 0) dX0_touchingTwos_0 (by decide) ?_
  refine jg_istore_n dX0_touchingTwos_1 rfl (by decide) rfl ?_
  refine jg_iconst (v := 0) dX0_touchingTwos_2 (by decide) ?_
  refine jg_istore_n dX0_touchingTwos_3 rfl (by decide) rfl ?_
  have cut_4 : ∀ (m i : Nat), i ≤ pn p → pn p < i + m → G E cX0_touchingTwos 3 (yX0_touchingTwos).cls (some .int) 3 (kI (fun r u2 => r = nI (twosF p (pn p) / 2) ∧ u = u2)) 4 [some (.ref (E.2.1 b)), some (.int (nI (twosF p i))), some (.int (nI i))] [] u := by
    intro m
    induction m with
    | zero => intro i h1 h2; omega
    | succ m ih =>
      intro i hi hm
      refine jg_iload_n dX0_touchingTwos_4 rfl rfl ?_
      refine jg_aload_n dX0_touchingTwos_5 rfl rfl ?_
      refine jg_geti fk_X0_41 (pl_0 hb) rfl dX0_touchingTwos_6 ?_
      refine jg_top (y := nI (pn p)) (hL.1.1) ?_
      refine jn_icmp_ge i (pn p) rfl rfl (by omega) (by omega) 29 dX0_touchingTwos_9 (by decide) (fun h_9 => ?_) (fun h_9 => ?_)
      · obtain rfl : i = pn p := by omega
        refine jg_iload_n dX0_touchingTwos_29 rfl rfl ?_
        refine jg_iconst (v := 2) dX0_touchingTwos_30 (by decide) ?_
        refine jg_idivE (z := nI (twosF p (pn p) / 2)) dX0_touchingTwos_31 (by decide) (pk_div (d := 2) (by have := twosF_le p (pn p); omega) (by omega) (by omega)) ?_
        exact jg_iret (rfl) dX0_touchingTwos_32 ⟨_, rfl, ⟨rfl, rfl⟩⟩
      · refine jg_iload_n dX0_touchingTwos_12 rfl rfl ?_
        refine jg_aload_n dX0_touchingTwos_13 rfl rfl ?_
        refine jg_iload_n dX0_touchingTwos_14 rfl rfl ?_
        refine jg_callV (c0_touching E hb u p hp hL i h_9) me_X0_touching ml_X0_94 (pl_0 hb) rfl rfl (by decide) (by decide) rfl (Nat.le_of_ble_eq_true rfl) dX0_touchingTwos_15 (kk_I (fun r_15 u_15 h_15 => ?_))
        obtain ⟨rfl, rfl⟩ := h_15
        refine jg_callS (cJ_bitCount E u _ (setF_64 (tchF p i) hn)) me_J6_bitCount_0f7a4 ml_X0_97 rfl (by decide) (by decide) rfl (Nat.le_of_ble_eq_true rfl) dX0_touchingTwos_18 (kk_I (fun r_18 u_18 h_18 => ?_))
        obtain ⟨rfl, rfl⟩ := h_18
        refine jg_iaddE (z := nI ((twosF p i) + (pcN (setF (tchF p i) (pn p))))) dX0_touchingTwos_21 (nI_add (twosF p i) (pcN (setF (tchF p i) (pn p)))) ?_
        refine jg_istore_n dX0_touchingTwos_22 rfl (by decide) rfl ?_
        refine jg_iinc (v := nI (i + 1)) dX0_touchingTwos_23 rfl (nI_1 i) (by decide) rfl ?_
        refine jg_goto 4 dX0_touchingTwos_26 (by decide) ?_
        exact ih (i + 1) (by omega) (by omega)
  exact cut_4 (pn p + 1) 0 (Nat.zero_le _) (by omega)
set_option maxHeartbeats 4000000 in
set_option maxRecDepth 20000 in
theorem c0_waste (E : gT) {b : Nat} (hb : isPl b) (u : Mm) (p : Pic) (hp : PicOk p) (hL : PlL b u p) : Con E yX0_waste cX0_waste 3 (some .int) 0 [.ref (E.2.1 b)] u (kI (fun r u2 => r = nI (brP p * dpP p) - nI (usedF p (pn p)) ∧ u = u2)) := by
  have hn := hp.1
  refine Con.of (lv := [some (.ref (E.2.1 b)), none, none]) (by decide +kernel) (Nat.le_of_ble_eq_true rfl) rfl ?_
  refine jg_iconst (v := 0) dX0_waste_0 (by decide) ?_
  refine jg_istore_n dX0_waste_1 rfl (by decide) rfl ?_
  refine jg_iconst (v := 0) dX0_waste_2 (by decide) ?_
  refine jg_istore_n dX0_waste_3 rfl (by decide) rfl ?_
  have cut_4 : ∀ (m i : Nat), i ≤ pn p → pn p < i + m → G E cX0_waste 3 (yX0_waste).cls (some .int) 0 (kI (fun r u2 => r = nI (brP p * dpP p) - nI (usedF p (pn p)) ∧ u = u2)) 4 [some (.ref (E.2.1 b)), some (.int (nI (usedF p i))), some (.int (nI i))] [] u := by
    intro m
    induction m with
    | zero => intro i h1 h2; omega
    | succ m ih =>
      intro i hi hm
      refine jg_iload_n dX0_waste_4 rfl rfl ?_
      refine jg_aload_n dX0_waste_5 rfl rfl ?_
      refine jg_geti fk_X0_41 (pl_0 hb) rfl dX0_waste_6 ?_
      refine jg_top (y := nI (pn p)) (hL.1.1) ?_
      refine jn_icmp_ge i (pn p) rfl rfl (by omega) (by omega) 34 dX0_waste_9 (by decide) (fun h_9 => ?_) (fun h_9 => ?_)
      · obtain rfl : i = pn p := by omega
        refine jg_aload_n dX0_waste_34 rfl rfl ?_
        refine jg_geti fk_X0_61 (pl_0 hb) rfl dX0_waste_35 ?_
        refine jg_top (y := nI (brP p)) (hL.2.2.1) ?_
        refine jg_aload_n dX0_waste_38 rfl rfl ?_
        refine jg_geti fk_X0_64 (pl_0 hb) rfl dX0_waste_39 ?_
        refine jg_top (y := nI (dpP p)) (hL.2.2.2) ?_
        refine jg_imulE (z := nI ((brP p) * (dpP p))) dX0_waste_42 (pk_mul (brP p) (dpP p)) ?_
        refine jg_iload_n dX0_waste_43 rfl rfl ?_
        refine jg_isub dX0_waste_44 ?_
        exact jg_iret (rfl) dX0_waste_45 ⟨_, rfl, ⟨rfl, rfl⟩⟩
      · refine jg_iload_n dX0_waste_12 rfl rfl ?_
        refine jg_aload_n dX0_waste_13 rfl rfl ?_
        refine jg_getr fk_X0_18 (pl_0 hb) rfl dX0_waste_14 ?_
        refine jg_iload_n dX0_waste_17 rfl rfl ?_
        refine jg_ld i (pl_3 hb) (by omega) (rfl) dX0_waste_18 ?_
        refine jg_top (y := nI (p 3 i)) ((hL.1.2 i h_9).2.2.1) ?_
        refine jg_aload_n dX0_waste_19 rfl rfl ?_
        refine jg_getr fk_X0_32 (pl_0 hb) rfl dX0_waste_20 ?_
        refine jg_iload_n dX0_waste_23 rfl rfl ?_
        refine jg_ld i (pl_11 hb) (by omega) (rfl) dX0_waste_24 ?_
        refine jg_top (y := nI (hgF p i)) ((hL.2.1 i h_9).2.2.1) ?_
        refine jg_imulE (z := nI ((p 3 i) * (hgF p i))) dX0_waste_25 (pk_mul (p 3 i) (hgF p i)) ?_
        refine jg_iaddE (z := nI ((usedF p i) + ((p 3 i) * (hgF p i)))) dX0_waste_26 (nI_add (usedF p i) ((p 3 i) * (hgF p i))) ?_
        refine jg_istore_n dX0_waste_27 rfl (by decide) rfl ?_
        refine jg_iinc (v := nI (i + 1)) dX0_waste_28 rfl (nI_1 i) (by decide) rfl ?_
        refine jg_goto 4 dX0_waste_31 (by decide) ?_
        exact ih (i + 1) (by omega) (by omega)
  exact cut_4 (pn p + 1) 0 (Nat.zero_le _) (by omega)
set_option maxHeartbeats 4000000 in
set_option maxRecDepth 20000 in
theorem c0_isCritical (E : gT) {b : Nat} (hb : isPl b) (u : Mm) (p : Pic) (hp : PicOk p) (hL : PlL b u p) (a : Nat) (ha : a < pn p) (h1 : 1 ≤ p 3 a) : Con E yX0_isCritical cX0_isCritical 4 (some .boolean) 3 [.ref (E.2.1 b), .int (nI a)] u (kI (fun r u2 => r = bI (crF p a) ∧ LF b u u2 ∧ PlL b u2 p)) := by
  have hn := hp.1
  have hw := (hp.2.1 a ha).2.2
  have hpd : PicOk (dcP p a) := hp.wd (by omega)
  have b0 := brP_le hp
  have b1 := brP_le hpd
  refine Con.of (lv := [some (.ref (E.2.1 b)), some (.int (nI a)), none, none]) (by decide +kernel) (Nat.le_of_ble_eq_true rfl) rfl ?_
  refine jg_aload_n dX0_isCritical_0 rfl rfl ?_
  refine jg_geti fk_X0_61 (pl_0 hb) rfl dX0_isCritical_1 ?_
  refine jg_top (y := nI (brP p)) (hL.2.2.1) ?_
  refine jg_istore_n dX0_isCritical_4 rfl (by decide) rfl ?_
  refine jg_aload_n dX0_isCritical_5 rfl rfl ?_
  refine jg_getr fk_X0_18 (pl_0 hb) rfl dX0_isCritical_6 ?_
  refine jg_iload_n dX0_isCritical_9 rfl rfl ?_
  refine jg_dup2 dX0_isCritical_10 rfl rfl ?_
  refine jg_ld a (pl_3 hb) (by omega) (rfl) dX0_isCritical_11 ?_
  refine jg_top (y := nI (p 3 a)) ((hL.1.2 a ha).2.2.1) ?_
  refine jg_iconst (v := 1) dX0_isCritical_12 (by decide) ?_
  refine jg_isubE (z := nI (p 3 a - 1)) dX0_isCritical_13 (pk_sub (a := p 3 a) (b := 1) h1) ?_
  refine jg_st a (pl_3 hb) (by omega) (rfl) dX0_isCritical_14 ?_
  refine jg_aload_n dX0_isCritical_15 rfl rfl ?_
  refine jg_callV (c0_lay E hb (s2 u (b + 3) a (nI (p 3 a - 1))) (dcP p a) hpd (hL.1.wd a (p 3 a - 1))) me_X0_lay ml_X0_51 (pl_0 hb) rfl rfl (by decide) (by decide) rfl (Nat.le_of_ble_eq_true rfl) dX0_isCritical_16 (kk_V (fun u_16 h_16 => ?_))
  obtain ⟨hF, hM⟩ := h_16
  refine jg_aload_n dX0_isCritical_19 rfl rfl ?_
  refine jg_geti fk_X0_61 (pl_0 hb) rfl dX0_isCritical_20 ?_
  refine jg_top (y := nI (brP (dcP p a))) (hM.2.2.1) ?_
  refine jg_iload_n dX0_isCritical_23 rfl rfl ?_
  refine jn_icmp_ge (brP (dcP p a)) (brP p) rfl rfl (by omega) (by omega) 31 dX0_isCritical_24 (by decide) (fun h_24 => ?_) (fun h_24 => ?_)
  · have hcr : (0 : Int32) = bI (crF p a) := by simp [bI, crF]; omega
    refine jg_iconst (v := 0) dX0_isCritical_31 (by decide) ?_
    refine jg_istore_n dX0_isCritical_32 rfl (by decide) rfl ?_
    refine jg_aload_n dX0_isCritical_33 rfl rfl ?_
    refine jg_getr fk_X0_18 (pl_0 hb) rfl dX0_isCritical_34 ?_
    refine jg_iload_n dX0_isCritical_37 rfl rfl ?_
    refine jg_dup2 dX0_isCritical_38 rfl rfl ?_
    refine jg_ld a (pl_3 hb) (by omega) (rfl) dX0_isCritical_39 ?_
    refine jg_top (y := nI (p 3 a - 1)) ((hM.1.2 a ha).2.2.1.trans (congrArg nI (upP_self p 3 a (p 3 a - 1)))) ?_
    refine jg_iconst (v := 1) dX0_isCritical_40 (by decide) ?_
    refine jg_iaddE (z := nI (p 3 a)) dX0_isCritical_41 ((nI_1 (p 3 a - 1)).trans (congrArg nI (by omega))) ?_
    refine jg_st a (pl_3 hb) (by omega) (rfl) dX0_isCritical_42 ?_
    refine jg_aload_n dX0_isCritical_43 rfl rfl ?_
    refine jg_callV (c0_lay E hb (s2 u_16 (b + 3) a (nI (p 3 a))) p hp (by have h9 := hM.1.wd a (p 3 a); unfold dcP at h9; rw [upP_back, upP_same] at h9; exact h9)) me_X0_lay ml_X0_51 (pl_0 hb) rfl rfl (by decide) (by decide) rfl (Nat.le_of_ble_eq_true rfl) dX0_isCritical_44 (kk_V (fun u_44 h_44 => ?_))
    obtain ⟨hF2, hM2⟩ := h_44
    refine jg_iload_n dX0_isCritical_47 rfl rfl ?_
    exact jg_iret (rfl) dX0_isCritical_48 ⟨_, rfl, ⟨hcr, ⟨fun k hk hk2 => by
      rw [hF2.1 k hk hk2]
      by_cases e : k = b + 3
      · subst e
        rw [show nI (p 3 a) = u (b + 3) a from (hL.1.2 a ha).2.2.1.symm]
        exact s2_back ((hF.1 (b + 3) (by omega) (by omega)).trans (s2_at u (b + 3) a _))
      · rw [s2_row e, hF.1 k hk hk2, s2_row e], fun j hj hj2 => by rw [hF2.2 j hj hj2, s2_row (by omega), hF.2 j hj hj2, s2_row (by omega)]⟩, hM2⟩⟩
  · have hcr : (1 : Int32) = bI (crF p a) := by simp [bI, crF]; omega
    refine jg_iconst (v := 1) dX0_isCritical_27 (by decide) ?_
    refine jg_goto 32 dX0_isCritical_28 (by decide) ?_
    refine jg_istore_n dX0_isCritical_32 rfl (by decide) rfl ?_
    refine jg_aload_n dX0_isCritical_33 rfl rfl ?_
    refine jg_getr fk_X0_18 (pl_0 hb) rfl dX0_isCritical_34 ?_
    refine jg_iload_n dX0_isCritical_37 rfl rfl ?_
    refine jg_dup2 dX0_isCritical_38 rfl rfl ?_
    refine jg_ld a (pl_3 hb) (by omega) (rfl) dX0_isCritical_39 ?_
    refine jg_top (y := nI (p 3 a - 1)) ((hM.1.2 a ha).2.2.1.trans (congrArg nI (upP_self p 3 a (p 3 a - 1)))) ?_
    refine jg_iconst (v := 1) dX0_isCritical_40 (by decide) ?_
    refine jg_iaddE (z := nI (p 3 a)) dX0_isCritical_41 ((nI_1 (p 3 a - 1)).trans (congrArg nI (by omega))) ?_
    refine jg_st a (pl_3 hb) (by omega) (rfl) dX0_isCritical_42 ?_
    refine jg_aload_n dX0_isCritical_43 rfl rfl ?_
    refine jg_callV (c0_lay E hb (s2 u_16 (b + 3) a (nI (p 3 a))) p hp (by have h9 := hM.1.wd a (p 3 a); unfold dcP at h9; rw [upP_back, upP_same] at h9; exact h9)) me_X0_lay ml_X0_51 (pl_0 hb) rfl rfl (by decide) (by decide) rfl (Nat.le_of_ble_eq_true rfl) dX0_isCritical_44 (kk_V (fun u_44 h_44 => ?_))
    obtain ⟨hF2, hM2⟩ := h_44
    refine jg_iload_n dX0_isCritical_47 rfl rfl ?_
    exact jg_iret (rfl) dX0_isCritical_48 ⟨_, rfl, ⟨hcr, ⟨fun k hk hk2 => by
      rw [hF2.1 k hk hk2]
      by_cases e : k = b + 3
      · subst e
        rw [show nI (p 3 a) = u (b + 3) a from (hL.1.2 a ha).2.2.1.symm]
        exact s2_back ((hF.1 (b + 3) (by omega) (by omega)).trans (s2_at u (b + 3) a _))
      · rw [s2_row e, hF.1 k hk hk2, s2_row e], fun j hj hj2 => by rw [hF2.2 j hj hj2, s2_row (by omega), hF.2 j hj hj2, s2_row (by omega)]⟩, hM2⟩⟩
set_option maxHeartbeats 4000000 in
set_option maxRecDepth 20000 in
theorem c0_criticalOnes (E : gT) {b : Nat} (hb : isPl b) (u : Mm) (p : Pic) (hp : PicOk p) (hL : PlL b u p) (h1 : ∀ a, a < pn p → 1 ≤ p 3 a) : Con E yX0_criticalOnes cX0_criticalOnes 3 (some .int) 4 [.ref (E.2.1 b)] u (kI (fun r u2 => r = nI (setF (crF p) (pn p)) ∧ LF b u u2 ∧ PlL b u2 p)) := by
  have hn := hp.1
  refine Con.of (lv := [some (.ref (E.2.1 b)), none, none]) (by decide +kernel) (Nat.le_of_ble_eq_true rfl) rfl ?_
  refine jg_iconst (v := 0) dX0_criticalOnes_0 (by decide) ?_
  refine jg_istore_n dX0_criticalOnes_1 rfl (by decide) rfl ?_
  refine jg_iconst (v := 0) dX0_criticalOnes_2 (by decide) ?_
  refine jg_istore_n dX0_criticalOnes_3 rfl (by decide) rfl ?_
  have cut_4 : ∀ (m i : Nat) (v : Mm), i ≤ pn p → pn p < i + m → LF b u v → PlL b v p → G E cX0_criticalOnes 3 (yX0_criticalOnes).cls (some .int) 4 (kI (fun r u2 => r = nI (setF (crF p) (pn p)) ∧ LF b u u2 ∧ PlL b u2 p)) 4 [some (.ref (E.2.1 b)), some (.int (nI (setF (crF p) i))), some (.int (nI i))] [] v := by
    intro m
    induction m with
    | zero => intro i v h1 h2; omega
    | succ m ih =>
      intro i v hi hm hF hV
      refine jg_iload_n dX0_criticalOnes_4 rfl rfl ?_
      refine jg_aload_n dX0_criticalOnes_5 rfl rfl ?_
      refine jg_geti fk_X0_41 (pl_0 hb) rfl dX0_criticalOnes_6 ?_
      refine jg_top (y := nI (pn p)) (hV.1.1) ?_
      refine jn_icmp_ge i (pn p) rfl rfl (by omega) (by omega) 32 dX0_criticalOnes_9 (by decide) (fun h_9 => ?_) (fun h_9 => ?_)
      · obtain rfl : i = pn p := by omega
        refine jg_iload_n dX0_criticalOnes_32 rfl rfl ?_
        exact jg_iret (rfl) dX0_criticalOnes_33 ⟨_, rfl, ⟨rfl, hF, hV⟩⟩
      · refine jg_aload_n dX0_criticalOnes_12 rfl rfl ?_
        refine jg_iload_n dX0_criticalOnes_13 rfl rfl ?_
        refine jg_callV (c0_isCritical E hb v p hp hV i h_9 (h1 i h_9)) me_X0_isCritical ml_X0_109 (pl_0 hb) rfl rfl (by decide) (by decide) rfl (Nat.le_of_ble_eq_true rfl) dX0_criticalOnes_14 (kk_I (fun r_14 u_14 h_14 => ?_))
        obtain ⟨rfl, hF2, hV2⟩ := h_14
        refine jb_if_eq 26 dX0_criticalOnes_17 (by decide) (fun h_17 => ?_) (fun h_17 => ?_)
        · have eS : setF (crF p) (i + 1) = setF (crF p) i := setF_no (c := crF p) h_17
          refine jg_iinc (v := nI (i + 1)) dX0_criticalOnes_26 rfl (nI_1 i) (by decide) rfl ?_
          refine jg_goto 4 dX0_criticalOnes_29 (by decide) ?_
          have ih2 := ih (i + 1) _ (by omega) (by omega) (hF.tr hF2) hV2
          first | exact ih2 | (rw [eS] at ih2; exact ih2)
        · have eS : True := trivial
          refine jg_iload_n dX0_criticalOnes_20 rfl rfl ?_
          refine jg_iconst (v := 1) dX0_criticalOnes_21 (by decide) ?_
          refine jg_iload_n dX0_criticalOnes_22 rfl rfl ?_
          refine jg_ishl dX0_criticalOnes_23 ?_
          refine jg_iorE (z := nI (setF (crF p) (i + 1))) dX0_criticalOnes_24 (orC (crF p) (by omega) h_17) ?_
          refine jg_istore_n dX0_criticalOnes_25 rfl (by decide) rfl ?_
          refine jg_iinc (v := nI (i + 1)) dX0_criticalOnes_26 rfl (nI_1 i) (by decide) rfl ?_
          refine jg_goto 4 dX0_criticalOnes_29 (by decide) ?_
          have ih2 := ih (i + 1) _ (by omega) (by omega) (hF.tr hF2) hV2
          first | exact ih2 | (rw [eS] at ih2; exact ih2)
  exact cut_4 (pn p + 1) 0 u (Nat.zero_le _) (by omega) LF.rf hL
/-- the width that a next one must pass -/
def msF (c : Nat → Bool) (w : Nat → Nat) (i : Nat) : Nat := match wsO c w i with
  | none => 1
  | some a => w a
theorem msF_b (c : Nat → Bool) (w : Nat → Nat) (i : Nat) : wsb w i (wsO c w i) = true ∧ 1 < w i ↔ msF c w i < w i := by
  unfold msF wsb
  cases h : wsO c w i with
  | none => simp
  | some a =>
    have := (wsO_lt h).2.1
    simp
    omega
set_option maxHeartbeats 4000000 in
set_option maxRecDepth 20000 in
theorem c0_widestOf (E : gT) {b : Nat} (hb : isPl b) (u : Mm) (p : Pic) (hp : PicOk p) (hL : PlL b u p) (S : Int32) (c : Nat → Bool) (hS : ∀ a, a < pn p → (S >>> (nI a &&& 31)) &&& 1 = bI (c a)) : Con E yX0_widestOf cX0_widestOf 5 (some .int) 0 [.ref (E.2.1 b), .int S] u (kI (fun r u2 => r = oI (-1) (wsO c (p 3) (pn p)) ∧ u = u2)) := by
  have hn := hp.1
  refine Con.of (lv := [some (.ref (E.2.1 b)), some (.int S), none, none, none]) (by decide +kernel) (Nat.le_of_ble_eq_true rfl) rfl ?_
  refine jg_iconst (v := -1) dX0_widestOf_0 (by decide) ?_
  refine jg_istore_n dX0_widestOf_1 rfl (by decide) rfl ?_
  refine jg_iconst (v := 1) dX0_widestOf_2 (by decide) ?_
  refine jg_istore_n dX0_widestOf_3 rfl (by decide) rfl ?_
  refine jg_iconst (v := 0) dX0_widestOf_4 (by decide) ?_
  refine jg_istore dX0_widestOf_5 (by decide) rfl ?_
  have cut_7 : ∀ (m i : Nat), i ≤ pn p → pn p < i + m → G E cX0_widestOf 5 (yX0_widestOf).cls (some .int) 0 (kI (fun r u2 => r = oI (-1) (wsO c (p 3) (pn p)) ∧ u = u2)) 7 [some (.ref (E.2.1 b)), some (.int S), some (.int (oI (-1) (wsO c (p 3) i))), some (.int (nI (msF c (p 3) i))), some (.int (nI i))] [] u := by
    intro m
    induction m with
    | zero => intro i h1 h2; omega
    | succ m ih =>
      intro i hi hm
      refine jg_iload dX0_widestOf_7 rfl ?_
      refine jg_aload_n dX0_widestOf_9 rfl rfl ?_
      refine jg_geti fk_X0_41 (pl_0 hb) rfl dX0_widestOf_10 ?_
      refine jg_top (y := nI (pn p)) (hL.1.1) ?_
      refine jn_icmp_ge i (pn p) rfl rfl (by omega) (by omega) 53 dX0_widestOf_13 (by decide) (fun h_13 => ?_) (fun h_13 => ?_)
      · obtain rfl : i = pn p := by omega
        refine jg_iload_n dX0_widestOf_53 rfl rfl ?_
        exact jg_iret (rfl) dX0_widestOf_54 ⟨_, rfl, ⟨rfl, rfl⟩⟩
      · have hw := (hp.2.1 i h_13).2.2
        have hm9 : msF c (p 3) i ≤ 9 := by unfold msF; split; omega; rename_i a9 h9; have := (hp.2.1 a9 (by have := (wsO_lt h9).1; omega)).2.2; omega
        refine jg_iload_n dX0_widestOf_16 rfl rfl ?_
        refine jg_iload dX0_widestOf_17 rfl ?_
        refine jg_ishr dX0_widestOf_19 ?_
        refine jg_iconst (v := 1) dX0_widestOf_20 (by decide) ?_
        refine jg_iand dX0_widestOf_21 ?_
        refine jg_top (y := bI (c i)) (hS i h_13) ?_
        refine jb_if_eq 47 dX0_widestOf_22 (by decide) (fun h_22 => ?_) (fun h_22 => ?_)
        · have eS : wsO c (p 3) (i + 1) = wsO c (p 3) i := wsO_no (fun q => by rw [h_22] at q; exact absurd q.1 (by decide))
          have eM : msF c (p 3) (i + 1) = msF c (p 3) i := by unfold msF; rw [eS]
          refine jg_iinc (v := nI (i + 1)) dX0_widestOf_47 rfl (nI_1 i) (by decide) rfl ?_
          refine jg_goto 7 dX0_widestOf_50 (by decide) ?_
          have ih2 := ih (i + 1) (by omega) (by omega)
          rw [eS, eM] at ih2
          exact ih2
        · refine jg_aload_n dX0_widestOf_25 rfl rfl ?_
          refine jg_getr fk_X0_18 (pl_0 hb) rfl dX0_widestOf_26 ?_
          refine jg_iload dX0_widestOf_29 rfl ?_
          refine jg_ld i (pl_3 hb) (by omega) (rfl) dX0_widestOf_31 ?_
          refine jg_top (y := nI (p 3 i)) ((hL.1.2 i h_13).2.2.1) ?_
          refine jg_iload_n dX0_widestOf_32 rfl rfl ?_
          refine jn_icmp_le (p 3 i) (msF c (p 3) i) rfl rfl (by omega) (by omega) 47 dX0_widestOf_33 (by decide) (fun h_33 => ?_) (fun h_33 => ?_)
          · have eS : wsO c (p 3) (i + 1) = wsO c (p 3) i := wsO_no (fun q => by have := (msF_b c (p 3) i).mp ⟨q.2.2, q.2.1⟩; omega)
            have eM : msF c (p 3) (i + 1) = msF c (p 3) i := by unfold msF; rw [eS]
            refine jg_iinc (v := nI (i + 1)) dX0_widestOf_47 rfl (nI_1 i) (by decide) rfl ?_
            refine jg_goto 7 dX0_widestOf_50 (by decide) ?_
            have ih2 := ih (i + 1) (by omega) (by omega)
            rw [eS, eM] at ih2
            exact ih2
          · have hq := (msF_b c (p 3) i).mpr h_33
            have eS : wsO c (p 3) (i + 1) = some i := wsO_yes h_22 hq.2 hq.1
            have eM : msF c (p 3) (i + 1) = p 3 i := by unfold msF; rw [eS]
            refine jg_iload dX0_widestOf_36 rfl ?_
            refine jg_istore_n dX0_widestOf_38 rfl (by decide) rfl ?_
            refine jg_aload_n dX0_widestOf_39 rfl rfl ?_
            refine jg_getr fk_X0_18 (pl_0 hb) rfl dX0_widestOf_40 ?_
            refine jg_iload dX0_widestOf_43 rfl ?_
            refine jg_ld i (pl_3 hb) (by omega) (rfl) dX0_widestOf_45 ?_
            refine jg_top (y := nI (p 3 i)) ((hL.1.2 i h_13).2.2.1) ?_
            refine jg_istore_n dX0_widestOf_46 rfl (by decide) rfl ?_
            refine jg_iinc (v := nI (i + 1)) dX0_widestOf_47 rfl (nI_1 i) (by decide) rfl ?_
            refine jg_goto 7 dX0_widestOf_50 (by decide) ?_
            have ih2 := ih (i + 1) (by omega) (by omega)
            rw [eS, eM] at ih2
            exact ih2
  exact cut_7 (pn p + 1) 0 (Nat.zero_le _) (by omega)
set_option maxHeartbeats 4000000 in
set_option maxRecDepth 20000 in
theorem c0_nextToNarrow (E : gT) {b : Nat} (hb : isPl b) (u : Mm) (p : Pic) (hp : PicOk p) (hL : PlL b u p) (h1 : ∀ a, a < pn p → 1 ≤ p 3 a) : Con E yX0_nextToNarrow cX0_nextToNarrow 2 (some .int) 5 [.ref (E.2.1 b)] u (kI (fun r u2 => r = oI (-1) (nxO p) ∧ LF b u u2 ∧ PlL b u2 p)) := by
  have hn := hp.1
  refine Con.of (lv := [some (.ref (E.2.1 b)), none]) (by decide +kernel) (Nat.le_of_ble_eq_true rfl) rfl ?_
  refine jg_aload_n dX0_nextToNarrow_0 rfl rfl ?_
  refine jg_aload_n dX0_nextToNarrow_1 rfl rfl ?_
  refine jg_callV (c0_criticalOnes E hb u p hp hL h1) me_X0_criticalOnes ml_X0_113 (pl_0 hb) rfl rfl (by decide) (by decide) rfl (Nat.le_of_ble_eq_true rfl) dX0_nextToNarrow_2 (kk_I (fun r_2 u_2 h_2 => ?_))
  obtain ⟨rfl, hF, hV⟩ := h_2
  refine jg_callV (c0_widestOf E hb u_2 p hp hV _ (crF p) (fun a ha => setF_at (crF p) hn ha)) me_X0_widestOf ml_X0_117 (pl_0 hb) rfl rfl (by decide) (by decide) rfl (Nat.le_of_ble_eq_true rfl) dX0_nextToNarrow_5 (kk_I (fun r_5 u_5 h_5 => ?_))
  obtain ⟨rfl, rfl⟩ := h_5
  refine jg_istore_n dX0_nextToNarrow_8 rfl (by decide) rfl ?_
  refine jg_iload_n dX0_nextToNarrow_9 rfl rfl ?_
  refine jg_iconst (v := -1) dX0_nextToNarrow_10 (by decide) ?_
  refine jg_icmp_ne 22 dX0_nextToNarrow_11 (by decide) (fun h_11 => ?_) (fun h_11 => ?_)
  · have e9 : nxO p = wsO (crF p) (p 3) (pn p) := by
      unfold nxO
      cases h9 : wsO (crF p) (p 3) (pn p) with
      | none => rw [h9] at h_11; exact absurd rfl h_11
      | some a => rfl
    refine jg_iload_n dX0_nextToNarrow_22 rfl rfl ?_
    exact jg_iret (rfl) dX0_nextToNarrow_23 ⟨_, rfl, ⟨by rw [e9], hF, hV⟩⟩
  · have e9 : nxO p = wsO (fun _ => true) (p 3) (pn p) := by
      unfold nxO
      cases h9 : wsO (crF p) (p 3) (pn p) with
      | none => rfl
      | some a =>
        rw [h9] at h_11
        have h8 := (wsO_lt h9).1
        exact absurd h_11 (fun z => by have := congrArg Int32.toInt z; unfold oI at this; rw [nI_toInt (by omega)] at this; have h7 : ((-1 : Int32)).toInt = -1 := by decide
                                       omega)
    refine jg_aload_n dX0_nextToNarrow_14 rfl rfl ?_
    refine jg_iconst (v := -1) dX0_nextToNarrow_15 (by decide) ?_
    refine jg_callV (c0_widestOf E hb u_2 p hp hV (-1) (fun _ => true) (fun a ha => bitAll a (by omega))) me_X0_widestOf ml_X0_117 (pl_0 hb) rfl rfl (by decide) (by decide) rfl (Nat.le_of_ble_eq_true rfl) dX0_nextToNarrow_16 (kk_I (fun r_16 u_16 h_16 => ?_))
    obtain ⟨rfl, rfl⟩ := h_16
    refine jg_goto 23 dX0_nextToNarrow_19 (by decide) ?_
    exact jg_iret (rfl) dX0_nextToNarrow_23 ⟨_, rfl, ⟨by rw [e9], hF, hV⟩⟩
set_option maxHeartbeats 4000000 in
set_option maxRecDepth 20000 in
theorem c0_becomeLike (E : gT) {b c : Nat} (hb : isPl b) (hc : isPl c) (hbc : b ≠ c) (u : Mm) (p : Pic) (hp : PicOk p) (hP : PlB c u p) : Con E yX0_becomeLike cX0_becomeLike 2 none 3 [.ref (E.2.1 b), .ref (E.2.1 c)] u (kV (fun u2 => PF b u u2 ∧ PlL b u2 p ∧ ∀ i, i < 6 → u2 (b + 4) i = u (c + 4) i)) := by
  have hn := hp.1
  have hap := pl_apart hb hc hbc
  refine Con.of (lv := [some (.ref (E.2.1 b)), some (.ref (E.2.1 c))]) (by decide +kernel) (Nat.le_of_ble_eq_true rfl) rfl ?_
  refine jg_aload_n dX0_becomeLike_0 rfl rfl ?_
  refine jg_aload_n dX0_becomeLike_1 rfl rfl ?_
  refine jg_geti fk_X0_41 (pl_0 hc) rfl dX0_becomeLike_2 ?_
  refine jg_puti fp_X0_41 (pl_0 hb) rfl dX0_becomeLike_5 ?_
  refine jg_aload_n dX0_becomeLike_8 rfl rfl ?_
  refine jg_getr fk_X0_9 (pl_0 hc) rfl dX0_becomeLike_9 ?_
  refine jg_iconst (v := 0) dX0_becomeLike_12 (by decide) ?_
  refine jg_aload_n dX0_becomeLike_13 rfl rfl ?_
  refine jg_getr fk_X0_9 (pl_0 hb) rfl dX0_becomeLike_14 ?_
  refine jg_iconst (v := 0) dX0_becomeLike_17 (by decide) ?_
  refine jg_bipush (v := 6) dX0_becomeLike_18 (by decide) ?_
  refine jg_copy 0 0 6 cp_X0_45 (pl_1 hc) (pl_1 hb) (rfl) (rfl) (rfl) (by omega) (by omega) (by decide) (Nat.le_of_ble_eq_true rfl) dX0_becomeLike_20 ?_
  refine jg_aload_n dX0_becomeLike_23 rfl rfl ?_
  refine jg_getr fk_X0_15 (pl_0 hc) rfl dX0_becomeLike_24 ?_
  refine jg_iconst (v := 0) dX0_becomeLike_27 (by decide) ?_
  refine jg_aload_n dX0_becomeLike_28 rfl rfl ?_
  refine jg_getr fk_X0_15 (pl_0 hb) rfl dX0_becomeLike_29 ?_
  refine jg_iconst (v := 0) dX0_becomeLike_32 (by decide) ?_
  refine jg_bipush (v := 6) dX0_becomeLike_33 (by decide) ?_
  refine jg_copy 0 0 6 cp_X0_45 (pl_2 hc) (pl_2 hb) (rfl) (rfl) (rfl) (by omega) (by omega) (by decide) (Nat.le_of_ble_eq_true rfl) dX0_becomeLike_35 ?_
  refine jg_aload_n dX0_becomeLike_38 rfl rfl ?_
  refine jg_getr fk_X0_18 (pl_0 hc) rfl dX0_becomeLike_39 ?_
  refine jg_iconst (v := 0) dX0_becomeLike_42 (by decide) ?_
  refine jg_aload_n dX0_becomeLike_43 rfl rfl ?_
  refine jg_getr fk_X0_18 (pl_0 hb) rfl dX0_becomeLike_44 ?_
  refine jg_iconst (v := 0) dX0_becomeLike_47 (by decide) ?_
  refine jg_bipush (v := 6) dX0_becomeLike_48 (by decide) ?_
  refine jg_copy 0 0 6 cp_X0_45 (pl_3 hc) (pl_3 hb) (rfl) (rfl) (rfl) (by omega) (by omega) (by decide) (Nat.le_of_ble_eq_true rfl) dX0_becomeLike_50 ?_
  refine jg_aload_n dX0_becomeLike_53 rfl rfl ?_
  refine jg_getr fk_X0_21 (pl_0 hc) rfl dX0_becomeLike_54 ?_
  refine jg_iconst (v := 0) dX0_becomeLike_57 (by decide) ?_
  refine jg_aload_n dX0_becomeLike_58 rfl rfl ?_
  refine jg_getr fk_X0_21 (pl_0 hb) rfl dX0_becomeLike_59 ?_
  refine jg_iconst (v := 0) dX0_becomeLike_62 (by decide) ?_
  refine jg_bipush (v := 6) dX0_becomeLike_63 (by decide) ?_
  refine jg_copy 0 0 6 cp_X0_45 (pl_4 hc) (pl_4 hb) (rfl) (rfl) (rfl) (by omega) (by omega) (by decide) (Nat.le_of_ble_eq_true rfl) dX0_becomeLike_65 ?_
  refine jg_aload_n dX0_becomeLike_68 rfl rfl ?_
  refine jg_getr fk_X0_26 (pl_0 hc) rfl dX0_becomeLike_69 ?_
  refine jg_iconst (v := 0) dX0_becomeLike_72 (by decide) ?_
  refine jg_aald 0 (pl_5 hc) rfl (Nat.le_of_ble_eq_true rfl) rfl dX0_becomeLike_73 ?_
  refine jg_iconst (v := 0) dX0_becomeLike_74 (by decide) ?_
  refine jg_aload_n dX0_becomeLike_75 rfl rfl ?_
  refine jg_getr fk_X0_26 (pl_0 hb) rfl dX0_becomeLike_76 ?_
  refine jg_iconst (v := 0) dX0_becomeLike_79 (by decide) ?_
  refine jg_aald 0 (pl_5 hb) rfl (Nat.le_of_ble_eq_true rfl) rfl dX0_becomeLike_80 ?_
  refine jg_iconst (v := 0) dX0_becomeLike_81 (by decide) ?_
  refine jg_bipush (v := 6) dX0_becomeLike_82 (by decide) ?_
  refine jg_copy 0 0 6 cp_X0_45 (pl_6 hc) (pl_6 hb) (rfl) (rfl) (rfl) (by omega) (by omega) (by decide) (Nat.le_of_ble_eq_true rfl) dX0_becomeLike_84 ?_
  refine jg_aload_n dX0_becomeLike_87 rfl rfl ?_
  refine jg_getr fk_X0_26 (pl_0 hc) rfl dX0_becomeLike_88 ?_
  refine jg_iconst (v := 1) dX0_becomeLike_91 (by decide) ?_
  refine jg_aald 1 (pl_5 hc) rfl (Nat.le_of_ble_eq_true rfl) rfl dX0_becomeLike_92 ?_
  refine jg_iconst (v := 0) dX0_becomeLike_93 (by decide) ?_
  refine jg_aload_n dX0_becomeLike_94 rfl rfl ?_
  refine jg_getr fk_X0_26 (pl_0 hb) rfl dX0_becomeLike_95 ?_
  refine jg_iconst (v := 1) dX0_becomeLike_98 (by decide) ?_
  refine jg_aald 1 (pl_5 hb) rfl (Nat.le_of_ble_eq_true rfl) rfl dX0_becomeLike_99 ?_
  refine jg_iconst (v := 0) dX0_becomeLike_100 (by decide) ?_
  refine jg_bipush (v := 6) dX0_becomeLike_101 (by decide) ?_
  refine jg_copy 0 0 6 cp_X0_45 (pl_7 hc) (pl_7 hb) (rfl) (rfl) (rfl) (by omega) (by omega) (by decide) (Nat.le_of_ble_eq_true rfl) dX0_becomeLike_103 ?_
  refine jg_mem (u' := cpP u c b) rfl ?_
  refine jg_aload_n dX0_becomeLike_106 rfl rfl ?_
  refine jg_callV (c0_lay E hb (cpP u c b) p hp (cpP_pl hp hap hP)) me_X0_lay ml_X0_51 (pl_0 hb) rfl rfl (by decide) (by decide) rfl (Nat.le_of_ble_eq_true rfl) dX0_becomeLike_107 (kk_V (fun u_107 h_107 => ?_))
  obtain ⟨hF, hL⟩ := h_107
  exact jg_vret dX0_becomeLike_110 ⟨rfl, ⟨fun k hk => by rw [hF.1 k (by omega) (by omega), cpP_out (by omega)], hL, fun i hi => by rw [hF.1 (b + 4) (by omega) (by omega), cpP_4 hap hi]⟩⟩
set_option maxHeartbeats 4000000 in
set_option maxRecDepth 20000 in
theorem c0_swap (E : gT) {k n : Nat} (hs : sTb[k]? = some (.inr (.inl n))) (u : Mm) (i j : Nat) (hi : i < n) (hj : j < n) : Con E yX0_swap cX0_swap 4 none 0 [.ref (E.2.1 k), .int (nI i), .int (nI j)] u (kV (fun u2 => u2 = s2 (s2 u k i (u k j)) k j (u k i))) := by
  refine Con.of (lv := [some (.ref (E.2.1 k)), some (.int (nI i)), some (.int (nI j)), none]) (by decide +kernel) (Nat.le_of_ble_eq_true rfl) rfl ?_
  refine jg_aload_n dX0_swap_0 rfl rfl ?_
  refine jg_iload_n dX0_swap_1 rfl rfl ?_
  refine jg_ld i hs (by omega) (rfl) dX0_swap_2 ?_
  refine jg_istore_n dX0_swap_3 rfl (by decide) rfl ?_
  refine jg_aload_n dX0_swap_4 rfl rfl ?_
  refine jg_iload_n dX0_swap_5 rfl rfl ?_
  refine jg_aload_n dX0_swap_6 rfl rfl ?_
  refine jg_iload_n dX0_swap_7 rfl rfl ?_
  refine jg_ld j hs (by omega) (rfl) dX0_swap_8 ?_
  refine jg_st i hs (by omega) (rfl) dX0_swap_9 ?_
  refine jg_aload_n dX0_swap_10 rfl rfl ?_
  refine jg_iload_n dX0_swap_11 rfl rfl ?_
  refine jg_iload_n dX0_swap_12 rfl rfl ?_
  refine jg_st j hs (by omega) (rfl) dX0_swap_13 ?_
  exact jg_vret dX0_swap_14 ⟨rfl, rfl⟩
set_option maxHeartbeats 4000000 in
set_option maxRecDepth 20000 in
theorem c0_turnPlaces (E : gT) {b : Nat} (hb : isPl b) (u : Mm) (w k : Nat) (hw : w < 2) (hk : k + 1 < 6) : Con E yX0_turnPlaces cX0_turnPlaces 3 none 1 [.ref (E.2.1 b), .int (nI w), .int (nI k)] u (kV (fun u2 => u2 = s2 (s2 u (b + 6 + w) k (u (b + 6 + w) (k + 1))) (b + 6 + w) (k + 1) (u (b + 6 + w) k))) := by
  refine Con.of (lv := [some (.ref (E.2.1 b)), some (.int (nI w)), some (.int (nI k))]) (by decide +kernel) (Nat.le_of_ble_eq_true rfl) rfl ?_
  refine jg_aload_n dX0_turnPlaces_0 rfl rfl ?_
  refine jg_getr fk_X0_26 (pl_0 hb) rfl dX0_turnPlaces_1 ?_
  refine jg_iload_n dX0_turnPlaces_4 rfl rfl ?_
  refine jg_aald w (pl_5 hb) (at_w hw) (Nat.le_of_ble_eq_true rfl) (rfl) dX0_turnPlaces_5 ?_
  refine jg_iload_n dX0_turnPlaces_6 rfl rfl ?_
  refine jg_iload_n dX0_turnPlaces_7 rfl rfl ?_
  refine jg_iconst (v := 1) dX0_turnPlaces_8 (by decide) ?_
  refine jg_iaddE (z := nI (k + 1)) dX0_turnPlaces_9 (nI_add k 1) ?_
  refine jg_callS (c0_swap E (pl_w hb hw) u k (k + 1) (by omega) hk) me_X0_swap ml_X0_54 rfl (by decide) (by decide) rfl (Nat.le_of_ble_eq_true rfl) dX0_turnPlaces_10 (kk_V (fun u_10 h_10 => ?_))
  obtain rfl := h_10
  exact jg_vret dX0_turnPlaces_13 ⟨rfl, rfl⟩
set_option maxHeartbeats 4000000 in
set_option maxRecDepth 20000 in
theorem c0_startOrders (E : gT) {b : Nat} (hb : isPl b) (u : Mm) (n : Nat) (hn : n ≤ 6) (hu : u b 0 = nI n) : Con E yX0_startOrders cX0_startOrders 2 none 0 [.ref (E.2.1 b)] u (kV (fun u2 => (∀ k, k ≠ b + 7 → u2 k = u k) ∧ ∀ i, i < n → u2 (b + 7) i = nI i)) := by
  refine Con.of (lv := [some (.ref (E.2.1 b)), none]) (by decide +kernel) (Nat.le_of_ble_eq_true rfl) rfl ?_
  refine jg_iconst (v := 0) dX0_startOrders_0 (by decide) ?_
  refine jg_istore_n dX0_startOrders_1 rfl (by decide) rfl ?_
  have cut_2 : ∀ (m i : Nat) (v : Mm), i ≤ n → n < i + m → (∀ k, k ≠ b + 7 → v k = u k) → (∀ q, q < i → v (b + 7) q = nI q) → G E cX0_startOrders 2 (yX0_startOrders).cls none 0 (kV (fun u2 => (∀ k, k ≠ b + 7 → u2 k = u k) ∧ ∀ i, i < n → u2 (b + 7) i = nI i)) 2 [some (.ref (E.2.1 b)), some (.int (nI i))] [] v := by
    intro m
    induction m with
    | zero => intro i v h1 h2; omega
    | succ m ih =>
      intro i v hi hm hfr hq
      refine jg_iload_n dX0_startOrders_2 rfl rfl ?_
      refine jg_aload_n dX0_startOrders_3 rfl rfl ?_
      refine jg_geti fk_X0_41 (pl_0 hb) rfl dX0_startOrders_4 ?_
      refine jg_top (y := nI n) ((congrFun (hfr b (by omega)) 0).trans hu) ?_
      refine jn_icmp_ge i n rfl rfl (by omega) (by omega) 25 dX0_startOrders_7 (by decide) (fun h_7 => ?_) (fun h_7 => ?_)
      · exact jg_vret dX0_startOrders_25 ⟨rfl, ⟨hfr, fun q h => hq q (by omega)⟩⟩
      · refine jg_aload_n dX0_startOrders_10 rfl rfl ?_
        refine jg_getr fk_X0_26 (pl_0 hb) rfl dX0_startOrders_11 ?_
        refine jg_iconst (v := 1) dX0_startOrders_14 (by decide) ?_
        refine jg_aald 1 (pl_5 hb) rfl (Nat.le_of_ble_eq_true rfl) rfl dX0_startOrders_15 ?_
        refine jg_iload_n dX0_startOrders_16 rfl rfl ?_
        refine jg_iload_n dX0_startOrders_17 rfl rfl ?_
        refine jg_st i (pl_7 hb) (by omega) (rfl) dX0_startOrders_18 ?_
        refine jg_iinc (v := nI (i + 1)) dX0_startOrders_19 rfl (nI_1 i) (by decide) rfl ?_
        refine jg_goto 2 dX0_startOrders_22 (by decide) ?_
        exact ih (i + 1) _ (by omega) (by omega) (fun k h => by rw [s2_row h]; exact hfr k h) (fun q h => by by_cases e : q = i; (subst e; exact s2_self _ _ _ _); (rw [s2_ne e]; exact hq q (by omega)))
  exact cut_2 (n + 1) 0 u (Nat.zero_le _) (by omega) (fun _ _ => rfl) (fun q h => by omega)
