set_option maxHeartbeats 4000000 in
set_option maxRecDepth 20000 in
theorem c3_readingsHold (E : gT) (u : Mm) (p : Pic) (rd : Rds) (h8 : rd.1 ≤ 8) (hp : PicOk p) (hra : ∀ i, i < rd.1 → rd.2.1 i < pn p) (hL : PlL 15 u p) (hR : RdC u rd) : Con E yX3_readingsHold cX3_readingsHold 2 (some .boolean) 0 [.ref (E.2.1 0)] u (kI (fun r u2 => r = bI (hdF p rd rd.1) ∧ u = u2)) := by
  have hn := hp.1
  refine Con.of (lv := [some (.ref (E.2.1 0)), none]) (by decide +kernel) (Nat.le_of_ble_eq_true rfl) rfl ?_
  refine jg_iconst (v := 0) dX3_readingsHold_0 (by decide) ?_
  refine jg_istore_n dX3_readingsHold_1 rfl (by decide) rfl ?_
  have cut_2 : ∀ (m k : Nat), k ≤ rd.1 → rd.1 < k + m → hdF p rd k = true → G E cX3_readingsHold 2 (yX3_readingsHold).cls (some .boolean) 0 (kI (fun r u2 => r = bI (hdF p rd rd.1) ∧ u = u2)) 2 [some (.ref (E.2.1 0)), some (.int (nI k))] [] u := by
    intro m
    induction m with
    | zero => intro k h1 h2; omega
    | succ m ih =>
      intro k hk0 hm hh
      refine jg_iload_n dX3_readingsHold_2 rfl rfl ?_
      refine jg_aload_n dX3_readingsHold_3 rfl rfl ?_
      refine jg_geti fk_X3_84 sh_0 rfl dX3_readingsHold_4 ?_
      refine jg_top (y := nI rd.1) (hR.1) ?_
      refine jn_icmp_ge k rd.1 rfl rfl (by omega) (by omega) 41 dX3_readingsHold_7 (by decide) (fun h_7 => ?_) (fun h_7 => ?_)
      · obtain rfl : k = rd.1 := by omega
        refine jg_iconst (v := 1) dX3_readingsHold_41 (by decide) ?_
        exact jg_iret (rfl) dX3_readingsHold_42 ⟨_, rfl, ⟨by rw [hh]; rfl, rfl⟩⟩
      · have hk := hra k h_7
        refine jg_aload_n dX3_readingsHold_10 rfl rfl ?_
        refine jg_getr fk_X3_18 sh_0 rfl dX3_readingsHold_11 ?_
        refine jg_getr fk_X3_108 (pl_0 ipl_15) rfl dX3_readingsHold_14 ?_
        refine jg_aload_n dX3_readingsHold_17 rfl rfl ?_
        refine jg_getr fk_X3_38 sh_0 rfl dX3_readingsHold_18 ?_
        refine jg_iload_n dX3_readingsHold_21 rfl rfl ?_
        refine jg_ld k sh_55 (by omega) (rfl) dX3_readingsHold_22 ?_
        refine jg_top (y := nI (rd.2.1 k)) ((hR.2 k h_7).1) ?_
        refine jg_ld (rd.2.1 k) (pl_13 ipl_15) (by omega) (rfl) dX3_readingsHold_23 ?_
        refine jg_top (y := nI (yF p (rd.2.1 k))) ((hL.2.1 _ hk).2.2.2.2) ?_
        refine jg_aload_n dX3_readingsHold_24 rfl rfl ?_
        refine jg_getr fk_X3_41 sh_0 rfl dX3_readingsHold_25 ?_
        refine jg_iload_n dX3_readingsHold_28 rfl rfl ?_
        refine jg_ld k sh_56 (by omega) (rfl) dX3_readingsHold_29 ?_
        refine jg_top (y := rd.2.2 k) ((hR.2 k h_7).2) ?_
        refine jg_icmp_eq 35 dX3_readingsHold_30 (by decide) (fun h_30 => ?_) (fun h_30 => ?_)
        · have eh : hdF p rd (k + 1) = true := by show (hdF p rd k && decide (nI (yF p (rd.2.1 k)) = rd.2.2 k)) = true; simp [hh, h_30]
          refine jg_iinc (v := nI (k + 1)) dX3_readingsHold_35 rfl (nI_1 k) (by decide) rfl ?_
          refine jg_goto 2 dX3_readingsHold_38 (by decide) ?_
          exact ih (k + 1) (by omega) (by omega) eh
        · have eh := hd_no h_30 rd.1 h_7
          refine jg_iconst (v := 0) dX3_readingsHold_33 (by decide) ?_
          exact jg_iret (rfl) dX3_readingsHold_34 ⟨_, rfl, ⟨by rw [eh]; rfl, rfl⟩⟩
  exact cut_2 (rd.1 + 1) 0 (Nat.zero_le _) (by omega) rfl
set_option maxHeartbeats 4000000 in
set_option maxRecDepth 20000 in
theorem c4_areSo (E : gT) (u : Mm) (p : Pic) (rd : Rds) (h8 : rd.1 ≤ 8) (hp : PicOk p) (hra : ∀ i, i < rd.1 → rd.2.1 i < pn p) (h1 : ∀ a, a < pn p → 1 ≤ p 3 a) (hM : MdB u p) (hR : RdM u rd) : Con E yX4_areSo cX4_areSo 2 (some .boolean) 3 [.ref (E.2.1 57)] u (kI (fun r u2 => r = bI (hdF p rd rd.1) ∧ MF u u2)) := by
  have hn := hp.1
  refine Con.of (lv := [some (.ref (E.2.1 57)), none]) (by decide +kernel) (Nat.le_of_ble_eq_true rfl) rfl ?_
  refine jg_aload_n dX4_areSo_0 rfl rfl ?_
  refine jg_callV (c4_findPlaces E u p hp hM h1) me_X4_findPlaces ml_X4_164 sh_57 rfl rfl (by decide) (by decide) rfl (Nat.le_of_ble_eq_true rfl) dX4_areSo_1 (kk_V (fun u_1 h_1 => ?_))
  obtain ⟨hF, hX⟩ := h_1
  have hR2 : RdM u_1 rd := ⟨(hF.2 31 (by decide) (by decide)).trans hR.1, fun i hi => by rw [hF.1 78 (by decide) (by decide) (by decide) (by decide), hF.1 79 (by decide) (by decide) (by decide) (by decide)]; exact hR.2 i hi⟩
  refine jg_iconst (v := 0) dX4_areSo_4 (by decide) ?_
  refine jg_istore_n dX4_areSo_5 rfl (by decide) rfl ?_
  have cut_6 : ∀ (m k : Nat), k ≤ rd.1 → rd.1 < k + m → hdF p rd k = true → G E cX4_areSo 2 (yX4_areSo).cls (some .boolean) 3 (kI (fun r u2 => r = bI (hdF p rd rd.1) ∧ MF u u2)) 6 [some (.ref (E.2.1 57)), some (.int (nI k))] [] u_1 := by
    intro m
    induction m with
    | zero => intro k h1 h2; omega
    | succ m ih =>
      intro k hk0 hm hh
      refine jg_iload_n dX4_areSo_6 rfl rfl ?_
      refine jg_aload_n dX4_areSo_7 rfl rfl ?_
      refine jg_geti fk_X4_113 sh_57 rfl dX4_areSo_8 ?_
      refine jg_top (y := nI rd.1) (hR2.1) ?_
      refine jn_icmp_ge k rd.1 rfl rfl (by omega) (by omega) 42 dX4_areSo_11 (by decide) (fun h_11 => ?_) (fun h_11 => ?_)
      · obtain rfl : k = rd.1 := by omega
        refine jg_iconst (v := 1) dX4_areSo_42 (by decide) ?_
        exact jg_iret (rfl) dX4_areSo_43 ⟨_, rfl, ⟨by rw [hh]; rfl, hF⟩⟩
      · have hk := hra k h_11
        refine jg_aload_n dX4_areSo_14 rfl rfl ?_
        refine jg_getr fk_X4_52 sh_57 rfl dX4_areSo_15 ?_
        refine jg_aload_n dX4_areSo_18 rfl rfl ?_
        refine jg_getr fk_X4_70 sh_57 rfl dX4_areSo_19 ?_
        refine jg_iload_n dX4_areSo_22 rfl rfl ?_
        refine jg_ld k sh_78 (by omega) (rfl) dX4_areSo_23 ?_
        refine jg_top (y := nI (rd.2.1 k)) ((hR2.2 k h_11).1) ?_
        refine jg_ld (rd.2.1 k) sh_72 (by omega) (rfl) dX4_areSo_24 ?_
        refine jg_top (y := nI (yF p (rd.2.1 k))) ((hX.1 _ hk).2.2) ?_
        refine jg_aload_n dX4_areSo_25 rfl rfl ?_
        refine jg_getr fk_X4_73 sh_57 rfl dX4_areSo_26 ?_
        refine jg_iload_n dX4_areSo_29 rfl rfl ?_
        refine jg_ld k sh_79 (by omega) (rfl) dX4_areSo_30 ?_
        refine jg_top (y := rd.2.2 k) ((hR2.2 k h_11).2) ?_
        refine jg_icmp_eq 36 dX4_areSo_31 (by decide) (fun h_31 => ?_) (fun h_31 => ?_)
        · have eh : hdF p rd (k + 1) = true := by show (hdF p rd k && decide (nI (yF p (rd.2.1 k)) = rd.2.2 k)) = true; simp [hh, h_31]
          refine jg_iinc (v := nI (k + 1)) dX4_areSo_36 rfl (nI_1 k) (by decide) rfl ?_
          refine jg_goto 6 dX4_areSo_39 (by decide) ?_
          exact ih (k + 1) (by omega) (by omega) eh
        · have eh := hd_no h_31 rd.1 h_11
          refine jg_iconst (v := 0) dX4_areSo_34 (by decide) ?_
          exact jg_iret (rfl) dX4_areSo_35 ⟨_, rfl, ⟨by rw [eh]; rfl, hF⟩⟩
  exact cut_6 (rd.1 + 1) 0 (Nat.zero_le _) (by omega) rfl
set_option maxHeartbeats 4000000 in
set_option maxRecDepth 20000 in
theorem d3_kinds (E : gT) (u : Mm) (g : Gh) (hO : Ok g) (hI : InvC u g) (a : Int32) : Con E yX3_kinds cX3_kinds 4 (some .int) 4 [.ref (E.2.1 0), .int a] u (kI (fun r u2 => r = (fKinds g a).1 ∧ InvC u2 (fKinds g a).2 ∧ CF u u2)) := by
  have hn := hO.1.1
  refine Con.of (lv := [some (.ref (E.2.1 0)), some (.int a), none, none]) (by decide +kernel) (Nat.le_of_ble_eq_true rfl) rfl ?_
  refine jg_aload_n dX3_kinds_0 rfl rfl ?_
  refine jg_getr fk_X3_14 sh_0 rfl dX3_kinds_1 ?_
  refine jg_iload_n dX3_kinds_4 rfl rfl ?_
  refine jg_callV (c0_hasArea E ipl_1 u a) me_X0_hasArea ml_X3_90 (pl_0 ipl_1) rfl rfl (by decide) (by decide) rfl (Nat.le_of_ble_eq_true rfl) dX3_kinds_5 (kk_I (fun r_5 u_5 h_5 => ?_))
  obtain ⟨rfl, rfl⟩ := h_5
  refine jg_top (y := bI (inN a (nI (pn g.1)))) (congrArg (fun z => bI (inN a z)) hI.1.1.1) ?_
  refine jb_if_ne 13 dX3_kinds_8 (by decide) (fun h_8 => ?_) (fun h_8 => ?_)
  · obtain ⟨i, hi, rfl⟩ := inN_nat (by omega) h_8
    refine jg_aload_n dX3_kinds_13 rfl rfl ?_
    refine jg_getr fk_X3_18 sh_0 rfl dX3_kinds_14 ?_
    refine jg_aload_n dX3_kinds_17 rfl rfl ?_
    refine jg_getr fk_X3_14 sh_0 rfl dX3_kinds_18 ?_
    refine jg_callV (c0_becomeLike E ipl_15 ipl_1 (by decide) u g.1 hO.1 hI.1.1) me_X0_becomeLike ml_X3_80 (pl_0 ipl_15) rfl rfl (by decide) (by decide) rfl (Nat.le_of_ble_eq_true rfl) dX3_kinds_21 (kk_V (fun u_21 h_21 => ?_))
    obtain ⟨hF0, hL0, hs0⟩ := h_21
    refine jg_iconst (v := 0) dX3_kinds_24 (by decide) ?_
    refine jg_istore_n dX3_kinds_25 rfl (by decide) rfl ?_
    refine jg_iconst (v := 0) dX3_kinds_26 (by decide) ?_
    refine jg_istore_n dX3_kinds_27 rfl (by decide) rfl ?_
    have cut_28 : ∀ (m k : Nat) (x : Mm) (q : Pic), 0 ≤ k → k ≤ 3 → 3 < k + m → PF 15 u x → PlB 15 x q → (∀ z, upP q 1 i z = upP g.1 1 i z) → G E cX3_kinds 4 (yX3_kinds).cls (some .int) 4 (kI (fun r u2 => r = (fKinds g (nI i)).1 ∧ InvC u2 (fKinds g (nI i)).2 ∧ CF u u2)) 28 [some (.ref (E.2.1 0)), some (.int (nI i)), some (.int (nI (setF (kdF g i) k))), some (.int (nI k))] [] x := by
      intro m
      induction m with
      | zero => intro k x q h0 h1 h2; omega
      | succ m ih =>
        intro k x q hk0 hk1 hm hF hq hqe
        refine jg_iload_n dX3_kinds_28 rfl rfl ?_
        refine jg_iconst (v := 2) dX3_kinds_29 (by decide) ?_
        refine jn_icmp_gt k 2 rfl rfl (by omega) (by omega) 69 dX3_kinds_30 (by decide) (fun h_30 => ?_) (fun h_30 => ?_)
        · obtain rfl : k = 3 := by omega
          have e9 : fKinds g (nI i) = (nI (setF (kdF g i) 3), g) := by unfold fKinds; rw [if_pos h_8, cl_nI (show i < 2 ^ 31 by omega)]
          refine jg_iload_n dX3_kinds_69 rfl rfl ?_
          exact jg_iret (rfl) dX3_kinds_70 ⟨_, rfl, ⟨by rw [e9], by rw [e9]; exact hI.tl hF, hF.cf15⟩⟩
        · have hpk : PicOk (upP g.1 1 i k) := hO.1.kd (by omega)
          refine jg_aload_n dX3_kinds_33 rfl rfl ?_
          refine jg_getr fk_X3_18 sh_0 rfl dX3_kinds_34 ?_
          refine jg_getr fk_X3_93 (pl_0 ipl_15) rfl dX3_kinds_37 ?_
          refine jg_iload_n dX3_kinds_40 rfl rfl ?_
          refine jg_iload_n dX3_kinds_41 rfl rfl ?_
          refine jg_st i (pl_1 ipl_15) (by omega) (rfl) dX3_kinds_42 ?_
          refine jg_aload_n dX3_kinds_43 rfl rfl ?_
          refine jg_getr fk_X3_18 sh_0 rfl dX3_kinds_44 ?_
          refine jg_callV (c0_lay E ipl_15 (s2 x (15 + 1) i (nI k)) (upP g.1 1 i k) hpk (by rw [← hqe k]; exact hq.kn i k)) me_X0_lay ml_X3_133 (pl_0 ipl_15) rfl rfl (by decide) (by decide) rfl (Nat.le_of_ble_eq_true rfl) dX3_kinds_47 (kk_V (fun u_47 h_47 => ?_))
          obtain ⟨hF1, hL1⟩ := h_47
          have hF2 : PF 15 u u_47 := hF.tr ((PF.put (k := 15 + 1) (j := i) (x := nI k) PF.rf (by omega) (by omega)).tr hF1.pf)
          have hJ := hI.tl hF2
          refine jg_aload_n dX3_kinds_50 rfl rfl ?_
          refine jg_callV (c3_readingsHold E u_47 (upP g.1 1 i k) g.2.2.2.2.1 hO.2.2.2.1 hpk hO.2.2.2.2 hL1 hJ.2.2.2.2.1) me_X3_readingsHold ml_X3_203 sh_0 rfl rfl (by decide) (by decide) rfl (Nat.le_of_ble_eq_true rfl) dX3_kinds_51 (kk_I (fun r_51 u_51 h_51 => ?_))
          obtain ⟨rfl, rfl⟩ := h_51
          refine jb_if_eq 63 dX3_kinds_54 (by decide) (fun h_54 => ?_) (fun h_54 => ?_)
          · have eS : setF (kdF g i) (k + 1) = setF (kdF g i) k := setF_no (c := kdF g i) h_54
            refine jg_iinc (v := nI (k + 1)) dX3_kinds_63 rfl (nI_1 k) (by decide) rfl ?_
            refine jg_goto 28 dX3_kinds_66 (by decide) ?_
            have ih2 := ih (k + 1) _ (upP g.1 1 i k) (by omega) (by omega) (by omega) hF2 hL1.1 (fun z => upP_back g.1 1 i k z)
            first | exact ih2 | (rw [eS] at ih2; exact ih2)
          · have eS : True := trivial
            refine jg_iload_n dX3_kinds_57 rfl rfl ?_
            refine jg_iconst (v := 1) dX3_kinds_58 (by decide) ?_
            refine jg_iload_n dX3_kinds_59 rfl rfl ?_
            refine jg_ishl dX3_kinds_60 ?_
            refine jg_iorE (z := nI (setF (kdF g i) (k + 1))) dX3_kinds_61 (orC (kdF g i) (by omega) h_54) ?_
            refine jg_istore_n dX3_kinds_62 rfl (by decide) rfl ?_
            refine jg_iinc (v := nI (k + 1)) dX3_kinds_63 rfl (nI_1 k) (by decide) rfl ?_
            refine jg_goto 28 dX3_kinds_66 (by decide) ?_
            have ih2 := ih (k + 1) _ (upP g.1 1 i k) (by omega) (by omega) (by omega) hF2 hL1.1 (fun z => upP_back g.1 1 i k z)
            first | exact ih2 | (rw [eS] at ih2; exact ih2)
    have c0 := cut_28 (3 + 1) 0 u_21 g.1 (by omega) (by omega) (by omega) hF0 hL0.1 (fun _ => rfl)
    exact c0
  · refine jg_iconst (v := -1) dX3_kinds_11 (by decide) ?_
    have e9 : fKinds g a = (-1, g) := by unfold fKinds; rw [if_neg (by rw [h_8]; decide)]
    exact jg_iret (rfl) dX3_kinds_12 ⟨_, rfl, ⟨by rw [e9], by rw [e9]; exact hI, CF.rf⟩⟩
set_option maxHeartbeats 4000000 in
set_option maxRecDepth 20000 in
theorem d3_widths (E : gT) (u : Mm) (g : Gh) (hO : Ok g) (hI : InvC u g) (a : Int32) : Con E yX3_widths cX3_widths 4 (some .int) 4 [.ref (E.2.1 0), .int a] u (kI (fun r u2 => r = (fWidths g a).1 ∧ InvC u2 (fWidths g a).2 ∧ CF u u2)) := by
  have hn := hO.1.1
  refine Con.of (lv := [some (.ref (E.2.1 0)), some (.int a), none, none]) (by decide +kernel) (Nat.le_of_ble_eq_true rfl) rfl ?_
  refine jg_aload_n dX3_widths_0 rfl rfl ?_
  refine jg_getr fk_X3_14 sh_0 rfl dX3_widths_1 ?_
  refine jg_iload_n dX3_widths_4 rfl rfl ?_
  refine jg_callV (c0_hasArea E ipl_1 u a) me_X0_hasArea ml_X3_90 (pl_0 ipl_1) rfl rfl (by decide) (by decide) rfl (Nat.le_of_ble_eq_true rfl) dX3_widths_5 (kk_I (fun r_5 u_5 h_5 => ?_))
  obtain ⟨rfl, rfl⟩ := h_5
  refine jg_top (y := bI (inN a (nI (pn g.1)))) (congrArg (fun z => bI (inN a z)) hI.1.1.1) ?_
  refine jb_if_ne 13 dX3_widths_8 (by decide) (fun h_8 => ?_) (fun h_8 => ?_)
  · obtain ⟨i, hi, rfl⟩ := inN_nat (by omega) h_8
    refine jg_aload_n dX3_widths_13 rfl rfl ?_
    refine jg_getr fk_X3_18 sh_0 rfl dX3_widths_14 ?_
    refine jg_aload_n dX3_widths_17 rfl rfl ?_
    refine jg_getr fk_X3_14 sh_0 rfl dX3_widths_18 ?_
    refine jg_callV (c0_becomeLike E ipl_15 ipl_1 (by decide) u g.1 hO.1 hI.1.1) me_X0_becomeLike ml_X3_80 (pl_0 ipl_15) rfl rfl (by decide) (by decide) rfl (Nat.le_of_ble_eq_true rfl) dX3_widths_21 (kk_V (fun u_21 h_21 => ?_))
    obtain ⟨hF0, hL0, hs0⟩ := h_21
    refine jg_iconst (v := 0) dX3_widths_24 (by decide) ?_
    refine jg_istore_n dX3_widths_25 rfl (by decide) rfl ?_
    refine jg_iconst (v := 1) dX3_widths_26 (by decide) ?_
    refine jg_istore_n dX3_widths_27 rfl (by decide) rfl ?_
    have cut_28 : ∀ (m k : Nat) (x : Mm) (q : Pic), 1 ≤ k → k ≤ 10 → 10 < k + m → PF 15 u x → PlB 15 x q → (∀ z, upP q 3 i z = upP g.1 3 i z) → G E cX3_widths 4 (yX3_widths).cls (some .int) 4 (kI (fun r u2 => r = (fWidths g (nI i)).1 ∧ InvC u2 (fWidths g (nI i)).2 ∧ CF u u2)) 28 [some (.ref (E.2.1 0)), some (.int (nI i)), some (.int (nI (setF (wdF g i) k))), some (.int (nI k))] [] x := by
      intro m
      induction m with
      | zero => intro k x q h0 h1 h2; omega
      | succ m ih =>
        intro k x q hk0 hk1 hm hF hq hqe
        refine jg_iload_n dX3_widths_28 rfl rfl ?_
        refine jg_bipush (v := 9) dX3_widths_29 (by decide) ?_
        refine jn_icmp_gt k 9 rfl rfl (by omega) (by omega) 70 dX3_widths_31 (by decide) (fun h_31 => ?_) (fun h_31 => ?_)
        · obtain rfl : k = 10 := by omega
          have e9 : fWidths g (nI i) = (nI (setF (wdF g i) 10), g) := by unfold fWidths; rw [if_pos h_8, cl_nI (show i < 2 ^ 31 by omega)]
          refine jg_iload_n dX3_widths_70 rfl rfl ?_
          exact jg_iret (rfl) dX3_widths_71 ⟨_, rfl, ⟨by rw [e9], by rw [e9]; exact hI.tl hF, hF.cf15⟩⟩
        · have hpk : PicOk (upP g.1 3 i k) := hO.1.wd (by omega)
          refine jg_aload_n dX3_widths_34 rfl rfl ?_
          refine jg_getr fk_X3_18 sh_0 rfl dX3_widths_35 ?_
          refine jg_getr fk_X3_99 (pl_0 ipl_15) rfl dX3_widths_38 ?_
          refine jg_iload_n dX3_widths_41 rfl rfl ?_
          refine jg_iload_n dX3_widths_42 rfl rfl ?_
          refine jg_st i (pl_3 ipl_15) (by omega) (rfl) dX3_widths_43 ?_
          refine jg_aload_n dX3_widths_44 rfl rfl ?_
          refine jg_getr fk_X3_18 sh_0 rfl dX3_widths_45 ?_
          refine jg_callV (c0_lay E ipl_15 (s2 x (15 + 3) i (nI k)) (upP g.1 3 i k) hpk (by rw [← hqe k]; exact hq.wd i k)) me_X0_lay ml_X3_133 (pl_0 ipl_15) rfl rfl (by decide) (by decide) rfl (Nat.le_of_ble_eq_true rfl) dX3_widths_48 (kk_V (fun u_48 h_48 => ?_))
          obtain ⟨hF1, hL1⟩ := h_48
          have hF2 : PF 15 u u_48 := hF.tr ((PF.put (k := 15 + 3) (j := i) (x := nI k) PF.rf (by omega) (by omega)).tr hF1.pf)
          have hJ := hI.tl hF2
          refine jg_aload_n dX3_widths_51 rfl rfl ?_
          refine jg_callV (c3_readingsHold E u_48 (upP g.1 3 i k) g.2.2.2.2.1 hO.2.2.2.1 hpk hO.2.2.2.2 hL1 hJ.2.2.2.2.1) me_X3_readingsHold ml_X3_203 sh_0 rfl rfl (by decide) (by decide) rfl (Nat.le_of_ble_eq_true rfl) dX3_widths_52 (kk_I (fun r_52 u_52 h_52 => ?_))
          obtain ⟨rfl, rfl⟩ := h_52
          refine jb_if_eq 64 dX3_widths_55 (by decide) (fun h_55 => ?_) (fun h_55 => ?_)
          · have eS : setF (wdF g i) (k + 1) = setF (wdF g i) k := setF_no (c := wdF g i) (by show (decide (1 ≤ k) && _) = false; rw [h_55]; simp)
            refine jg_iinc (v := nI (k + 1)) dX3_widths_64 rfl (nI_1 k) (by decide) rfl ?_
            refine jg_goto 28 dX3_widths_67 (by decide) ?_
            have ih2 := ih (k + 1) _ (upP g.1 3 i k) (by omega) (by omega) (by omega) hF2 hL1.1 (fun z => upP_back g.1 3 i k z)
            first | exact ih2 | (rw [eS] at ih2; exact ih2)
          · have eS : True := trivial
            refine jg_iload_n dX3_widths_58 rfl rfl ?_
            refine jg_iconst (v := 1) dX3_widths_59 (by decide) ?_
            refine jg_iload_n dX3_widths_60 rfl rfl ?_
            refine jg_ishl dX3_widths_61 ?_
            refine jg_iorE (z := nI (setF (wdF g i) (k + 1))) dX3_widths_62 (orC (wdF g i) (by omega) (by show (decide (1 ≤ k) && _) = true; rw [h_55]; simp; omega)) ?_
            refine jg_istore_n dX3_widths_63 rfl (by decide) rfl ?_
            refine jg_iinc (v := nI (k + 1)) dX3_widths_64 rfl (nI_1 k) (by decide) rfl ?_
            refine jg_goto 28 dX3_widths_67 (by decide) ?_
            have ih2 := ih (k + 1) _ (upP g.1 3 i k) (by omega) (by omega) (by omega) hF2 hL1.1 (fun z => upP_back g.1 3 i k z)
            first | exact ih2 | (rw [eS] at ih2; exact ih2)
    have c0 := cut_28 (10 + 1) 1 u_21 g.1 (by omega) (by omega) (by omega) hF0 hL0.1 (fun _ => rfl)
    rw [show setF (wdF g i) 1 = 0 from rfl] at c0
    exact c0
  · refine jg_iconst (v := -1) dX3_widths_11 (by decide) ?_
    have e9 : fWidths g a = (-1, g) := by unfold fWidths; rw [if_neg (by rw [h_8]; decide)]
    exact jg_iret (rfl) dX3_widths_12 ⟨_, rfl, ⟨by rw [e9], by rw [e9]; exact hI, CF.rf⟩⟩
set_option maxHeartbeats 4000000 in
set_option maxRecDepth 20000 in
theorem d4_kinds (E : gT) (u : Mm) (g : Gh) (hO : Ok g) (hI : InvM u g) (a : Int32) : Con E yX4_kinds cX4_kinds 5 (some .int) 4 [.ref (E.2.1 57), .int a] u (kI (fun r u2 => r = (fKinds g a).1 ∧ InvM u2 (fKinds g a).2 ∧ RF u u2)) := by
  have hn := hO.1.1
  refine Con.of (lv := [some (.ref (E.2.1 57)), some (.int a), none, none, none]) (by decide +kernel) (Nat.le_of_ble_eq_true rfl) rfl ?_
  refine jg_aload_n dX4_kinds_0 rfl rfl ?_
  refine jg_iload_n dX4_kinds_1 rfl rfl ?_
  refine jg_callV (c4_isArea E u a) me_X4_isArea ml_X4_173 sh_57 rfl rfl (by decide) (by decide) rfl (Nat.le_of_ble_eq_true rfl) dX4_kinds_2 (kk_I (fun r_2 u_2 h_2 => ?_))
  obtain ⟨rfl, rfl⟩ := h_2
  refine jg_top (y := bI (inN a (nI (pn g.1)))) (congrArg (fun z => bI (inN a z)) hI.1.1) ?_
  refine jb_if_ne 10 dX4_kinds_5 (by decide) (fun h_5 => ?_) (fun h_5 => ?_)
  · obtain ⟨i, hi, rfl⟩ := inN_nat (by omega) h_5
    refine jg_aload_n dX4_kinds_10 rfl rfl ?_
    refine jg_getr fk_X4_19 sh_57 rfl dX4_kinds_11 ?_
    refine jg_iload_n dX4_kinds_14 rfl rfl ?_
    refine jg_ld i sh_61 (by omega) (rfl) dX4_kinds_15 ?_
    refine jg_top (y := nI (g.1 1 i)) ((hI.1.2 i hi).1) ?_
    refine jg_istore_n dX4_kinds_16 rfl (by decide) rfl ?_
    refine jg_iconst (v := 0) dX4_kinds_17 (by decide) ?_
    refine jg_istore_n dX4_kinds_18 rfl (by decide) rfl ?_
    refine jg_iconst (v := 0) dX4_kinds_19 (by decide) ?_
    refine jg_istore dX4_kinds_20 (by decide) rfl ?_
    have cut_22 : ∀ (m k : Nat) (x : Mm) (q : Pic), 0 ≤ k → k ≤ 3 → 3 < k + m → RF u x → InvM x (wPc g q) → MdB x q → pn q = pn g.1 → (∀ z, upP q 1 i z = upP g.1 1 i z) → G E cX4_kinds 5 (yX4_kinds).cls (some .int) 4 (kI (fun r u2 => r = (fKinds g (nI i)).1 ∧ InvM u2 (fKinds g (nI i)).2 ∧ RF u u2)) 22 [some (.ref (E.2.1 57)), some (.int (nI i)), some (.int (nI (g.1 1 i))), some (.int (nI (setF (kdF g i) k))), some (.int (nI k))] [] x := by
      intro m
      induction m with
      | zero => intro k x q h0 h1 h2; omega
      | succ m ih =>
        intro k x q hk0 hk1 hm hRx hJ hq hqn hqe
        refine jg_iload dX4_kinds_22 rfl ?_
        refine jg_iconst (v := 3) dX4_kinds_24 (by decide) ?_
        refine jn_icmp_ge k 3 rfl rfl (by omega) (by omega) 60 dX4_kinds_25 (by decide) (fun h_25 => ?_) (fun h_25 => ?_)
        · obtain rfl : k = 3 := by omega
          have e9 : fKinds g (nI i) = (nI (setF (kdF g i) 3), g) := by unfold fKinds; rw [if_pos h_5, cl_nI (show i < 2 ^ 31 by omega)]
          refine jg_aload_n dX4_kinds_60 rfl rfl ?_
          refine jg_getr fk_X4_19 sh_57 rfl dX4_kinds_61 ?_
          refine jg_iload_n dX4_kinds_64 rfl rfl ?_
          refine jg_iload_n dX4_kinds_65 rfl rfl ?_
          refine jg_st i sh_61 (by omega) (rfl) dX4_kinds_66 ?_
          refine jg_iload_n dX4_kinds_67 rfl rfl ?_
          have hb : MdB (s2 x 61 i (nI (g.1 1 i))) g.1 := by have z := hq.kn i (g.1 1 i); rw [hqe, upP_same] at z; exact z
          exact jg_iret (rfl) dX4_kinds_68 ⟨_, rfl, ⟨by rw [e9], by rw [e9]; exact hJ.pc hb hqn.symm (fun k h1 h2 h3 h4 h5 h6 h7 h8 => s2_row (by omega)) (fun j h1 h2 => by rw [s2_row (by decide)]), hRx.put (by omega)⟩⟩
        · have hpk : PicOk (upP g.1 1 i k) := hO.1.kd (by omega)
          have hMk : MdB (s2 x 61 i (nI k)) (upP g.1 1 i k) := by rw [← hqe k]; exact hq.kn i k
          refine jg_aload_n dX4_kinds_28 rfl rfl ?_
          refine jg_getr fk_X4_19 sh_57 rfl dX4_kinds_29 ?_
          refine jg_iload_n dX4_kinds_32 rfl rfl ?_
          refine jg_iload dX4_kinds_33 rfl ?_
          refine jg_st i sh_61 (by omega) (rfl) dX4_kinds_35 ?_
          refine jg_iload_n dX4_kinds_36 rfl rfl ?_
          refine jg_aload_n dX4_kinds_37 rfl rfl ?_
          refine jg_callV (c4_areSo E (s2 x 61 i (nI k)) (upP g.1 1 i k) g.2.2.2.2.1 hO.2.2.2.1 hpk hO.2.2.2.2 (fun b hb => (hO.2.1 b hb).2) hMk ⟨by rw [s2_row (by decide)]; exact hJ.2.2.2.2.1.1, fun j hj => by rw [s2_row (by decide), s2_row (by decide)]; exact hJ.2.2.2.2.1.2 j hj⟩) me_X4_areSo ml_X4_234 sh_57 rfl rfl (by decide) (by decide) rfl (Nat.le_of_ble_eq_true rfl) dX4_kinds_38 (kk_I (fun r_38 u_38 h_38 => ?_))
          obtain ⟨rfl, hF1⟩ := h_38
          refine jb_if_eq 51 dX4_kinds_41 (by decide) (fun h_41 => ?_) (fun h_41 => ?_)
          · refine jg_iconst (v := 0) dX4_kinds_51 (by decide) ?_
            refine jg_iorE (z := nI (setF (kdF g i) (k + 1))) dX4_kinds_52 ((or0 _).trans (congrArg nI (setF_no (c := kdF g i) h_41).symm)) ?_
            refine jg_istore_n dX4_kinds_53 rfl (by decide) rfl ?_
            refine jg_iinc (v := nI (k + 1)) dX4_kinds_54 rfl (nI_1 k) (by decide) rfl ?_
            refine jg_goto 22 dX4_kinds_57 (by decide) ?_
            exact ih (k + 1) _ (upP g.1 1 i k) (by omega) (by omega) (by omega) ((hRx.put (by omega)).tr hF1.rf2) (InvM.mf (g := wPc g (upP g.1 1 i k)) (hJ.pc hMk hqn.symm (fun k h1 h2 h3 h4 h5 h6 h7 h8 => s2_row (by omega)) (fun j h1 h2 => by rw [s2_row (by decide)])) hF1) (hMk.fr hF1) rfl (fun z => upP_back g.1 1 i k z)
          · refine jg_iconst (v := 1) dX4_kinds_44 (by decide) ?_
            refine jg_iload dX4_kinds_45 rfl ?_
            refine jg_ishl dX4_kinds_47 ?_
            refine jg_goto 52 dX4_kinds_48 (by decide) ?_
            refine jg_iorE (z := nI (setF (kdF g i) (k + 1))) dX4_kinds_52 (orC (kdF g i) (by omega) h_41) ?_
            refine jg_istore_n dX4_kinds_53 rfl (by decide) rfl ?_
            refine jg_iinc (v := nI (k + 1)) dX4_kinds_54 rfl (nI_1 k) (by decide) rfl ?_
            refine jg_goto 22 dX4_kinds_57 (by decide) ?_
            exact ih (k + 1) _ (upP g.1 1 i k) (by omega) (by omega) (by omega) ((hRx.put (by omega)).tr hF1.rf2) (InvM.mf (g := wPc g (upP g.1 1 i k)) (hJ.pc hMk hqn.symm (fun k h1 h2 h3 h4 h5 h6 h7 h8 => s2_row (by omega)) (fun j h1 h2 => by rw [s2_row (by decide)])) hF1) (hMk.fr hF1) rfl (fun z => upP_back g.1 1 i k z)
    have c0 := cut_22 (3 + 1) 0 u g.1 (by omega) (by omega) (by omega) RF.rf hI hI.1 rfl (fun _ => rfl)
    exact c0
  · refine jg_iconst (v := -1) dX4_kinds_8 (by decide) ?_
    have e9 : fKinds g a = (-1, g) := by unfold fKinds; rw [if_neg (by rw [h_5]; decide)]
    exact jg_iret (rfl) dX4_kinds_9 ⟨_, rfl, ⟨by rw [e9], by rw [e9]; exact hI, RF.rf⟩⟩
set_option maxHeartbeats 4000000 in
set_option maxRecDepth 20000 in
theorem d4_widths (E : gT) (u : Mm) (g : Gh) (hO : Ok g) (hI : InvM u g) (a : Int32) : Con E yX4_widths cX4_widths 5 (some .int) 4 [.ref (E.2.1 57), .int a] u (kI (fun r u2 => r = (fWidths g a).1 ∧ InvM u2 (fWidths g a).2 ∧ RF u u2)) := by
  have hn := hO.1.1
  refine Con.of (lv := [some (.ref (E.2.1 57)), some (.int a), none, none, none]) (by decide +kernel) (Nat.le_of_ble_eq_true rfl) rfl ?_
  refine jg_aload_n dX4_widths_0 rfl rfl ?_
  refine jg_iload_n dX4_widths_1 rfl rfl ?_
  refine jg_callV (c4_isArea E u a) me_X4_isArea ml_X4_173 sh_57 rfl rfl (by decide) (by decide) rfl (Nat.le_of_ble_eq_true rfl) dX4_widths_2 (kk_I (fun r_2 u_2 h_2 => ?_))
  obtain ⟨rfl, rfl⟩ := h_2
  refine jg_top (y := bI (inN a (nI (pn g.1)))) (congrArg (fun z => bI (inN a z)) hI.1.1) ?_
  refine jb_if_ne 10 dX4_widths_5 (by decide) (fun h_5 => ?_) (fun h_5 => ?_)
  · obtain ⟨i, hi, rfl⟩ := inN_nat (by omega) h_5
    refine jg_aload_n dX4_widths_10 rfl rfl ?_
    refine jg_getr fk_X4_25 sh_57 rfl dX4_widths_11 ?_
    refine jg_iload_n dX4_widths_14 rfl rfl ?_
    refine jg_ld i sh_63 (by omega) (rfl) dX4_widths_15 ?_
    refine jg_top (y := nI (g.1 3 i)) ((hI.1.2 i hi).2.2.1) ?_
    refine jg_istore_n dX4_widths_16 rfl (by decide) rfl ?_
    refine jg_iconst (v := 0) dX4_widths_17 (by decide) ?_
    refine jg_istore_n dX4_widths_18 rfl (by decide) rfl ?_
    refine jg_iconst (v := 1) dX4_widths_19 (by decide) ?_
    refine jg_istore dX4_widths_20 (by decide) rfl ?_
    have cut_22 : ∀ (m k : Nat) (x : Mm) (q : Pic), 1 ≤ k → k ≤ 10 → 10 < k + m → RF u x → InvM x (wPc g q) → MdB x q → pn q = pn g.1 → (∀ z, upP q 3 i z = upP g.1 3 i z) → G E cX4_widths 5 (yX4_widths).cls (some .int) 4 (kI (fun r u2 => r = (fWidths g (nI i)).1 ∧ InvM u2 (fWidths g (nI i)).2 ∧ RF u u2)) 22 [some (.ref (E.2.1 57)), some (.int (nI i)), some (.int (nI (g.1 3 i))), some (.int (nI (setF (wdF g i) k))), some (.int (nI k))] [] x := by
      intro m
      induction m with
      | zero => intro k x q h0 h1 h2; omega
      | succ m ih =>
        intro k x q hk0 hk1 hm hRx hJ hq hqn hqe
        refine jg_iload dX4_widths_22 rfl ?_
        refine jg_bipush (v := 9) dX4_widths_24 (by decide) ?_
        refine jn_icmp_gt k 9 rfl rfl (by omega) (by omega) 61 dX4_widths_26 (by decide) (fun h_26 => ?_) (fun h_26 => ?_)
        · obtain rfl : k = 10 := by omega
          have e9 : fWidths g (nI i) = (nI (setF (wdF g i) 10), g) := by unfold fWidths; rw [if_pos h_5, cl_nI (show i < 2 ^ 31 by omega)]
          refine jg_aload_n dX4_widths_61 rfl rfl ?_
          refine jg_getr fk_X4_25 sh_57 rfl dX4_widths_62 ?_
          refine jg_iload_n dX4_widths_65 rfl rfl ?_
          refine jg_iload_n dX4_widths_66 rfl rfl ?_
          refine jg_st i sh_63 (by omega) (rfl) dX4_widths_67 ?_
          refine jg_iload_n dX4_widths_68 rfl rfl ?_
          have hb : MdB (s2 x 63 i (nI (g.1 3 i))) g.1 := by have z := hq.wd i (g.1 3 i); rw [hqe, upP_same] at z; exact z
          exact jg_iret (rfl) dX4_widths_69 ⟨_, rfl, ⟨by rw [e9], by rw [e9]; exact hJ.pc hb hqn.symm (fun k h1 h2 h3 h4 h5 h6 h7 h8 => s2_row (by omega)) (fun j h1 h2 => by rw [s2_row (by decide)]), hRx.put (by omega)⟩⟩
        · have hpk : PicOk (upP g.1 3 i k) := hO.1.wd (by omega)
          have hMk : MdB (s2 x 63 i (nI k)) (upP g.1 3 i k) := by rw [← hqe k]; exact hq.wd i k
          refine jg_aload_n dX4_widths_29 rfl rfl ?_
          refine jg_getr fk_X4_25 sh_57 rfl dX4_widths_30 ?_
          refine jg_iload_n dX4_widths_33 rfl rfl ?_
          refine jg_iload dX4_widths_34 rfl ?_
          refine jg_st i sh_63 (by omega) (rfl) dX4_widths_36 ?_
          refine jg_iload_n dX4_widths_37 rfl rfl ?_
          refine jg_aload_n dX4_widths_38 rfl rfl ?_
          refine jg_callV (c4_areSo E (s2 x 63 i (nI k)) (upP g.1 3 i k) g.2.2.2.2.1 hO.2.2.2.1 hpk hO.2.2.2.2 (fun b hb => by by_cases e : b = i; (subst e; rw [upP_self]; omega); (rw [upP_ne e]; exact (hO.2.1 b hb).2)) hMk ⟨by rw [s2_row (by decide)]; exact hJ.2.2.2.2.1.1, fun j hj => by rw [s2_row (by decide), s2_row (by decide)]; exact hJ.2.2.2.2.1.2 j hj⟩) me_X4_areSo ml_X4_234 sh_57 rfl rfl (by decide) (by decide) rfl (Nat.le_of_ble_eq_true rfl) dX4_widths_39 (kk_I (fun r_39 u_39 h_39 => ?_))
          obtain ⟨rfl, hF1⟩ := h_39
          refine jb_if_eq 52 dX4_widths_42 (by decide) (fun h_42 => ?_) (fun h_42 => ?_)
          · refine jg_iconst (v := 0) dX4_widths_52 (by decide) ?_
            refine jg_iorE (z := nI (setF (wdF g i) (k + 1))) dX4_widths_53 ((or0 _).trans (congrArg nI (setF_no (c := wdF g i) (by show (decide (1 ≤ k) && _) = false; rw [h_42]; simp)).symm)) ?_
            refine jg_istore_n dX4_widths_54 rfl (by decide) rfl ?_
            refine jg_iinc (v := nI (k + 1)) dX4_widths_55 rfl (nI_1 k) (by decide) rfl ?_
            refine jg_goto 22 dX4_widths_58 (by decide) ?_
            exact ih (k + 1) _ (upP g.1 3 i k) (by omega) (by omega) (by omega) ((hRx.put (by omega)).tr hF1.rf2) (InvM.mf (g := wPc g (upP g.1 3 i k)) (hJ.pc hMk hqn.symm (fun k h1 h2 h3 h4 h5 h6 h7 h8 => s2_row (by omega)) (fun j h1 h2 => by rw [s2_row (by decide)])) hF1) (hMk.fr hF1) rfl (fun z => upP_back g.1 3 i k z)
          · refine jg_iconst (v := 1) dX4_widths_45 (by decide) ?_
            refine jg_iload dX4_widths_46 rfl ?_
            refine jg_ishl dX4_widths_48 ?_
            refine jg_goto 53 dX4_widths_49 (by decide) ?_
            refine jg_iorE (z := nI (setF (wdF g i) (k + 1))) dX4_widths_53 (orC (wdF g i) (by omega) (by show (decide (1 ≤ k) && _) = true; rw [h_42]; simp; omega)) ?_
            refine jg_istore_n dX4_widths_54 rfl (by decide) rfl ?_
            refine jg_iinc (v := nI (k + 1)) dX4_widths_55 rfl (nI_1 k) (by decide) rfl ?_
            refine jg_goto 22 dX4_widths_58 (by decide) ?_
            exact ih (k + 1) _ (upP g.1 3 i k) (by omega) (by omega) (by omega) ((hRx.put (by omega)).tr hF1.rf2) (InvM.mf (g := wPc g (upP g.1 3 i k)) (hJ.pc hMk hqn.symm (fun k h1 h2 h3 h4 h5 h6 h7 h8 => s2_row (by omega)) (fun j h1 h2 => by rw [s2_row (by decide)])) hF1) (hMk.fr hF1) rfl (fun z => upP_back g.1 3 i k z)
    have c0 := cut_22 (10 + 1) 1 u g.1 (by omega) (by omega) (by omega) RF.rf hI hI.1 rfl (fun _ => rfl)
    rw [show setF (wdF g i) 1 = 0 from rfl] at c0
    exact c0
  · refine jg_iconst (v := -1) dX4_widths_8 (by decide) ?_
    have e9 : fWidths g a = (-1, g) := by unfold fWidths; rw [if_neg (by rw [h_5]; decide)]
    exact jg_iret (rfl) dX4_widths_9 ⟨_, rfl, ⟨by rw [e9], by rw [e9]; exact hI, RF.rf⟩⟩
