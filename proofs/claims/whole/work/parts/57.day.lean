set_option maxHeartbeats 4000000 in
set_option maxRecDepth 20000 in
theorem c3_sortsAreKnown (E : gT) (u : Mm) {r : Nat} (hs : sTb[r]? = some (.inr (.inl 60))) (c : Nat → Int32) (hc : ∀ i, i < 60 → u r i = c i) (a m : Nat) (hm : a + 3 * m ≤ 60) : Con E yX3_sortsAreKnown cX3_sortsAreKnown 5 (some .boolean) 0 [.ref (E.2.1 r), .int (nI a), .int (nI m)] u (kI (fun r u2 => r = bI (skF c a m) ∧ u = u2)) := by
  refine Con.of (lv := [some (.ref (E.2.1 r)), some (.int (nI a)), some (.int (nI m)), none, none]) (by decide +kernel) (Nat.le_of_ble_eq_true rfl) rfl ?_
  refine jg_iconst (v := 0) dX3_sortsAreKnown_0 (by decide) ?_
  refine jg_istore_n dX3_sortsAreKnown_1 rfl (by decide) rfl ?_
  have cut_2 : ∀ (w q : Nat), q ≤ m → m < q + w → skF c a q = true → G E cX3_sortsAreKnown 5 (yX3_sortsAreKnown).cls (some .boolean) 0 (kI (fun r u2 => r = bI (skF c a m) ∧ u = u2)) 2 [some (.ref (E.2.1 r)), some (.int (nI a)), some (.int (nI m)), some (.int (nI q)), none] [] u := by
    intro w
    induction w with
    | zero => intro q h1 h2; omega
    | succ w ih =>
      intro q hq0 hw hq
      refine jg_iload_n dX3_sortsAreKnown_2 rfl rfl ?_
      refine jg_iload_n dX3_sortsAreKnown_3 rfl rfl ?_
      refine jn_icmp_ge q m rfl rfl (by omega) (by omega) 35 dX3_sortsAreKnown_4 (by decide) (fun h_4 => ?_) (fun h_4 => ?_)
      · obtain rfl : q = m := by omega
        refine jg_iconst (v := 1) dX3_sortsAreKnown_35 (by decide) ?_
        exact jg_iret (rfl) dX3_sortsAreKnown_36 ⟨_, rfl, ⟨by rw [hq]; rfl, rfl⟩⟩
      · refine jg_aload_n dX3_sortsAreKnown_7 rfl rfl ?_
        refine jg_iload_n dX3_sortsAreKnown_8 rfl rfl ?_
        refine jg_iconst (v := 3) dX3_sortsAreKnown_9 (by decide) ?_
        refine jg_iload_n dX3_sortsAreKnown_10 rfl rfl ?_
        refine jg_imulE (z := nI (3 * q)) dX3_sortsAreKnown_11 (pk_mul 3 q) ?_
        refine jg_iaddE (z := nI (a + (3 * q))) dX3_sortsAreKnown_12 (nI_add a (3 * q)) ?_
        refine jg_ld (a + (3 * q)) hs (by omega) (rfl) dX3_sortsAreKnown_13 ?_
        refine jg_top (y := c (a + 3 * q)) (hc (a + 3 * q) (by omega)) ?_
        refine jg_istore dX3_sortsAreKnown_14 (by decide) rfl ?_
        refine jg_iload dX3_sortsAreKnown_16 rfl ?_
        refine jg_if_lt 27 dX3_sortsAreKnown_18 (by decide) (fun h_18 => ?_) (fun h_18 => ?_)
        · have ea := sk_no (show inR (c (a + 3 * q)) 0 2 = false by simp [inR, h_18]) m h_4
          refine jg_iconst (v := 0) dX3_sortsAreKnown_27 (by decide) ?_
          exact jg_iret (rfl) dX3_sortsAreKnown_28 ⟨_, rfl, ⟨by rw [ea]; rfl, rfl⟩⟩
        · refine jg_iload dX3_sortsAreKnown_21 rfl ?_
          refine jg_iconst (v := 2) dX3_sortsAreKnown_23 (by decide) ?_
          refine jg_icmp_le 29 dX3_sortsAreKnown_24 (by decide) (fun h_24 => ?_) (fun h_24 => ?_)
          · have ea : skF c a (q + 1) = true := by show (skF c a q && _) = true; rw [hq]; simp [inR, h_18, Int32.not_lt.mpr h_24]
            refine jg_iinc (v := nI (q + 1)) dX3_sortsAreKnown_29 rfl (nI_1 q) (by decide) rfl ?_
            refine jg_goto 2 dX3_sortsAreKnown_32 (by decide) ?_
            exact jg_weak (gLe_s (gLe_s (gLe_s (gLe_s (gLe_n gLe_nil))))) (ih (q + 1) (by omega) (by omega) ea)
          · have ea := sk_no (show inR (c (a + 3 * q)) 0 2 = false by simp [inR, Int32.not_le.mp h_24]) m h_4
            refine jg_iconst (v := 0) dX3_sortsAreKnown_27 (by decide) ?_
            exact jg_iret (rfl) dX3_sortsAreKnown_28 ⟨_, rfl, ⟨by rw [ea]; rfl, rfl⟩⟩
  exact jg_weak (gLe_s (gLe_s (gLe_s (gLe_s (gLe_n gLe_nil))))) (cut_2 (m + 1) 0 (by omega) (by omega) rfl)
set_option maxHeartbeats 4000000 in
set_option maxRecDepth 20000 in
theorem c3_actOnTrial (E : gT) (u : Mm) (p : Pic) (hp : PicOk p) (hP : PlB 15 u p) (s w v : Int32) : Con E yX3_actOnTrial cX3_actOnTrial 4 (some .boolean) 2 [.ref (E.2.1 0), .int s, .int w, .int v] u (kI (fun r u2 => r = bI (acF p s w v).isSome ∧ PF 15 u u2 ∧ ∀ q, acF p s w v = some q → PlB 15 u2 q)) := by
  have hn := hp.1
  refine Con.of (lv := [some (.ref (E.2.1 0)), some (.int s), some (.int w), some (.int v)]) (by decide +kernel) (Nat.le_of_ble_eq_true rfl) rfl ?_
  refine jg_iload_n dX3_actOnTrial_0 rfl rfl ?_
  refine jg_iconst (v := 2) dX3_actOnTrial_1 (by decide) ?_
  refine jg_icmp_ne 36 dX3_actOnTrial_2 (by decide) (fun h_2 => ?_) (fun h_2 => ?_)
  · refine jg_aload_n dX3_actOnTrial_36 rfl rfl ?_
    refine jg_getr fk_X3_18 sh_0 rfl dX3_actOnTrial_37 ?_
    refine jg_iload_n dX3_actOnTrial_40 rfl rfl ?_
    refine jg_callV (c0_hasArea E ipl_15 u w) me_X0_hasArea ml_X3_90 (pl_0 ipl_15) rfl rfl (by decide) (by decide) rfl (Nat.le_of_ble_eq_true rfl) dX3_actOnTrial_41 (kk_I (fun r_41 u_41 h_41 => ?_))
    obtain ⟨rfl, rfl⟩ := h_41
    refine jg_top (y := bI (inN w (nI (pn p)))) (congrArg (fun z => bI (inN w z)) hP.1) ?_
    refine jb_if_ne 49 dX3_actOnTrial_44 (by decide) (fun h_44 => ?_) (fun h_44 => ?_)
    · obtain ⟨i, hi, rfl⟩ := inN_nat (by omega) h_44
      refine jg_iload_n dX3_actOnTrial_49 rfl rfl ?_
      refine jg_if_ne 74 dX3_actOnTrial_50 (by decide) (fun h_50 => ?_) (fun h_50 => ?_)
      · refine jg_iload_n dX3_actOnTrial_74 rfl rfl ?_
        refine jg_callS (c3_isPlot E u v) me_X3_isPlot ml_X3_136 rfl (by decide) (by decide) rfl (Nat.le_of_ble_eq_true rfl) dX3_actOnTrial_75 (kk_I (fun r_75 u_75 h_75 => ?_))
        obtain ⟨rfl, rfl⟩ := h_75
        refine jb_if_ne 83 dX3_actOnTrial_78 (by decide) (fun h_78 => ?_) (fun h_78 => ?_)
        · obtain ⟨y, hy1, hy2, rfl⟩ := inR_nat (lo := 1) (hi := 9) (by omega) h_78 (by omega)
          have e9 : acF p s (nI i) (nI y) = some (upP p 2 i y) := by unfold acF; rw [if_neg h_2, if_pos ⟨h_44, h_78⟩, if_neg h_50, cl_nI (show y < 2 ^ 31 by omega), cl_nI (show i < 2 ^ 31 by omega)]
          refine jg_aload_n dX3_actOnTrial_83 rfl rfl ?_
          refine jg_getr fk_X3_18 sh_0 rfl dX3_actOnTrial_84 ?_
          refine jg_getr fk_X3_96 (pl_0 ipl_15) rfl dX3_actOnTrial_87 ?_
          refine jg_iload_n dX3_actOnTrial_90 rfl rfl ?_
          refine jg_iload_n dX3_actOnTrial_91 rfl rfl ?_
          refine jg_st i (pl_2 ipl_15) (by omega) (rfl) dX3_actOnTrial_92 ?_
          refine jg_iconst (v := 1) dX3_actOnTrial_93 (by decide) ?_
          exact jg_iret (rfl) dX3_actOnTrial_94 ⟨_, rfl, ⟨by rw [e9]; rfl, PF.rf.put (by omega) (by omega), fun q z => by rw [e9] at z; cases z; exact hP.pt i y⟩⟩
        · have e9 : acF p s (nI i) v = none := by unfold acF; rw [if_neg h_2, if_neg (fun z => by rw [h_78] at z; exact absurd z.2 (by decide))]
          refine jg_iconst (v := 0) dX3_actOnTrial_81 (by decide) ?_
          exact jg_iret (rfl) dX3_actOnTrial_82 ⟨_, rfl, ⟨by rw [e9]; rfl, PF.rf, fun q z => by rw [e9] at z; cases z⟩⟩
      · refine jg_iload_n dX3_actOnTrial_53 rfl rfl ?_
        refine jg_callS (c3_isWidth E u v) me_X3_isWidth ml_X3_130 rfl (by decide) (by decide) rfl (Nat.le_of_ble_eq_true rfl) dX3_actOnTrial_54 (kk_I (fun r_54 u_54 h_54 => ?_))
        obtain ⟨rfl, rfl⟩ := h_54
        refine jb_if_ne 62 dX3_actOnTrial_57 (by decide) (fun h_57 => ?_) (fun h_57 => ?_)
        · obtain ⟨y, hy1, hy2, rfl⟩ := inR_nat (lo := 1) (hi := 9) (by omega) h_57 (by omega)
          have e9 : acF p s (nI i) (nI y) = some (upP p 3 i y) := by unfold acF; rw [if_neg h_2, if_pos ⟨h_44, h_57⟩, if_pos h_50, cl_nI (show y < 2 ^ 31 by omega), cl_nI (show i < 2 ^ 31 by omega)]
          refine jg_aload_n dX3_actOnTrial_62 rfl rfl ?_
          refine jg_getr fk_X3_18 sh_0 rfl dX3_actOnTrial_63 ?_
          refine jg_getr fk_X3_99 (pl_0 ipl_15) rfl dX3_actOnTrial_66 ?_
          refine jg_iload_n dX3_actOnTrial_69 rfl rfl ?_
          refine jg_iload_n dX3_actOnTrial_70 rfl rfl ?_
          refine jg_st i (pl_3 ipl_15) (by omega) (rfl) dX3_actOnTrial_71 ?_
          refine jg_iconst (v := 1) dX3_actOnTrial_72 (by decide) ?_
          exact jg_iret (rfl) dX3_actOnTrial_73 ⟨_, rfl, ⟨by rw [e9]; rfl, PF.rf.put (by omega) (by omega), fun q z => by rw [e9] at z; cases z; exact hP.wd i y⟩⟩
        · have e9 : acF p s (nI i) v = none := by unfold acF; rw [if_neg h_2, if_neg (fun z => by rw [h_57] at z; exact absurd z.2 (by decide))]
          refine jg_iconst (v := 0) dX3_actOnTrial_60 (by decide) ?_
          exact jg_iret (rfl) dX3_actOnTrial_61 ⟨_, rfl, ⟨by rw [e9]; rfl, PF.rf, fun q z => by rw [e9] at z; cases z⟩⟩
    · have e9 : acF p s w v = none := by unfold acF; rw [if_neg h_2, if_neg (fun z => by rw [h_44] at z; exact absurd z.1 (by decide))]
      refine jg_iconst (v := 0) dX3_actOnTrial_47 (by decide) ?_
      exact jg_iret (rfl) dX3_actOnTrial_48 ⟨_, rfl, ⟨by rw [e9]; rfl, PF.rf, fun q z => by rw [e9] at z; cases z⟩⟩
  · refine jg_iload_n dX3_actOnTrial_5 rfl rfl ?_
    refine jg_callS (c3_isOrder E u w) me_X3_isOrder ml_X3_139 rfl (by decide) (by decide) rfl (Nat.le_of_ble_eq_true rfl) dX3_actOnTrial_6 (kk_I (fun r_6 u_6 h_6 => ?_))
    obtain ⟨rfl, rfl⟩ := h_6
    refine jb_if_eq 23 dX3_actOnTrial_9 (by decide) (fun h_9 => ?_) (fun h_9 => ?_)
    · have e9 : acF p s w v = none := by unfold acF; rw [if_pos h_2, if_neg (fun z => by rw [h_9] at z; exact absurd z.1 (by decide))]
      refine jg_iconst (v := 0) dX3_actOnTrial_23 (by decide) ?_
      exact jg_iret (rfl) dX3_actOnTrial_24 ⟨_, rfl, ⟨by rw [e9]; rfl, PF.rf, fun q z => by rw [e9] at z; cases z⟩⟩
    · have hord := h_9
      refine jg_aload_n dX3_actOnTrial_12 rfl rfl ?_
      refine jg_getr fk_X3_18 sh_0 rfl dX3_actOnTrial_13 ?_
      refine jg_iload_n dX3_actOnTrial_16 rfl rfl ?_
      refine jg_callV (c0_hasPlaceBehind E ipl_15 u v) me_X0_hasPlaceBehind ml_X3_142 (pl_0 ipl_15) rfl rfl (by decide) (by decide) rfl (Nat.le_of_ble_eq_true rfl) dX3_actOnTrial_17 (kk_I (fun r_17 u_17 h_17 => ?_))
      obtain ⟨rfl, rfl⟩ := h_17
      refine jg_top (y := bI (inN v (nI (pn p) - 1))) (congrArg (fun z => bI (inN v (z - 1))) hP.1) ?_
      refine jb_if_ne 25 dX3_actOnTrial_20 (by decide) (fun h_20 => ?_) (fun h_20 => ?_)
      · obtain ⟨x, hx, rfl⟩ := ordI hord
        obtain ⟨i, hi, rfl⟩ := nI_m1 hn h_20
        have e9 : acF p s (nI x) (nI i) = some (swP p x i) := by unfold acF; rw [if_pos h_2, if_pos ⟨hord, h_20⟩, cl_nI (show x < 2 ^ 31 by omega), cl_nI (show i < 2 ^ 31 by omega)]
        refine jg_aload_n dX3_actOnTrial_25 rfl rfl ?_
        refine jg_getr fk_X3_18 sh_0 rfl dX3_actOnTrial_26 ?_
        refine jg_iload_n dX3_actOnTrial_29 rfl rfl ?_
        refine jg_iload_n dX3_actOnTrial_30 rfl rfl ?_
        refine jg_callV (c0_turnPlaces E ipl_15 u x i hx (by omega)) me_X0_turnPlaces ml_X3_145 (pl_0 ipl_15) rfl rfl (by decide) (by decide) rfl (Nat.le_of_ble_eq_true rfl) dX3_actOnTrial_31 (kk_V (fun u_31 h_31 => ?_))
        obtain rfl := h_31
        refine jg_iconst (v := 1) dX3_actOnTrial_34 (by decide) ?_
        exact jg_iret (rfl) dX3_actOnTrial_35 ⟨_, rfl, ⟨by rw [e9]; rfl, fun k hk => sw_out (by omega), fun q z => by rw [e9] at z; cases z; exact sw_PlB hP hx hi⟩⟩
      · have e9 : acF p s w v = none := by unfold acF; rw [if_pos h_2, if_neg (fun z => by rw [h_20] at z; exact absurd z.2 (by decide))]
        refine jg_iconst (v := 0) dX3_actOnTrial_23 (by decide) ?_
        exact jg_iret (rfl) dX3_actOnTrial_24 ⟨_, rfl, ⟨by rw [e9]; rfl, PF.rf, fun q z => by rw [e9] at z; cases z⟩⟩
set_option maxHeartbeats 4000000 in
set_option maxRecDepth 20000 in
theorem c3_firstWrong (E : gT) (u : Mm) (p : Pic) (hp : PicOk p) (hpp : PicP p) (hP : PlB 1 u p) {r : Nat} (hs : sTb[r]? = some (.inr (.inl 60))) (c : Nat → Int32) (hc : ∀ i, i < 60 → u r i = c i) (hr : r < 15 ∨ 28 < r) (a m : Nat) (hm : a + 3 * m ≤ 60) : Con E yX3_firstWrong cX3_firstWrong 6 (some .int) 4 [.ref (E.2.1 0), .ref (E.2.1 r), .int (nI a), .int (nI m)] u (kI (fun r2 u2 => r2 = oI (-9) (dyN p c a m) ∧ PF 15 u u2 ∧ ∀ q, dyS p c a m = some q → PlL 15 u2 q)) := by
  have hn := hp.1
  refine Con.of (lv := [some (.ref (E.2.1 0)), some (.ref (E.2.1 r)), some (.int (nI a)), some (.int (nI m)), none, none]) (by decide +kernel) (Nat.le_of_ble_eq_true rfl) rfl ?_
  refine jg_aload_n dX3_firstWrong_0 rfl rfl ?_
  refine jg_getr fk_X3_18 sh_0 rfl dX3_firstWrong_1 ?_
  refine jg_aload_n dX3_firstWrong_4 rfl rfl ?_
  refine jg_getr fk_X3_14 sh_0 rfl dX3_firstWrong_5 ?_
  refine jg_callV (c0_becomeLike E ipl_15 ipl_1 (by decide) u p hp hP) me_X0_becomeLike ml_X3_80 (pl_0 ipl_15) rfl rfl (by decide) (by decide) rfl (Nat.le_of_ble_eq_true rfl) dX3_firstWrong_8 (kk_V (fun u_8 h_8 => ?_))
  obtain ⟨hF0, hL0, -⟩ := h_8
  refine jg_iconst (v := 0) dX3_firstWrong_11 (by decide) ?_
  refine jg_istore dX3_firstWrong_12 (by decide) rfl ?_
  have cut_14 : ∀ (w t : Nat) (x : Mm) (q : Pic), t ≤ m → m < t + w → PF 15 u x → PicOk q → PlB 15 x q → PicP q → dyS p c a t = some q → G E cX3_firstWrong 6 (yX3_firstWrong).cls (some .int) 4 (kI (fun r2 u2 => r2 = oI (-9) (dyN p c a m) ∧ PF 15 u u2 ∧ ∀ q, dyS p c a m = some q → PlL 15 u2 q)) 14 [some (.ref (E.2.1 0)), some (.ref (E.2.1 r)), some (.int (nI a)), some (.int (nI m)), some (.int (nI t)), none] [] x := by
    intro w
    induction w with
    | zero => intro t x q h1 h2; omega
    | succ w ih =>
      intro t x q ht hw hF hq1 hq2 hq4 hd
      refine jg_iload dX3_firstWrong_14 rfl ?_
      refine jg_iload_n dX3_firstWrong_16 rfl rfl ?_
      refine jn_icmp_ge t m rfl rfl (by omega) (by omega) 60 dX3_firstWrong_17 (by decide) (fun h_17 => ?_) (fun h_17 => ?_)
      · obtain rfl : t = m := by omega
        refine jg_aload_n dX3_firstWrong_60 rfl rfl ?_
        refine jg_getr fk_X3_18 sh_0 rfl dX3_firstWrong_61 ?_
        refine jg_callV (c0_lay E ipl_15 x q hq1 hq2) me_X0_lay ml_X3_133 (pl_0 ipl_15) rfl rfl (by decide) (by decide) rfl (Nat.le_of_ble_eq_true rfl) dX3_firstWrong_64 (kk_V (fun u_64 h_64 => ?_))
        obtain ⟨hF1, hL1⟩ := h_64
        refine jg_bipush (v := -9) dX3_firstWrong_67 (by decide) ?_
        exact jg_iret (rfl) dX3_firstWrong_69 ⟨_, rfl, ⟨by rw [dy_some t hd]; rfl, hF.tr hF1.pf, fun z hz => by rw [hd] at hz; cases hz; exact hL1⟩⟩
      · refine jg_iload_n dX3_firstWrong_20 rfl rfl ?_
        refine jg_iconst (v := 3) dX3_firstWrong_21 (by decide) ?_
        refine jg_iload dX3_firstWrong_22 rfl ?_
        refine jg_imulE (z := nI (3 * t)) dX3_firstWrong_24 (pk_mul 3 t) ?_
        refine jg_iaddE (z := nI (a + (3 * t))) dX3_firstWrong_25 (nI_add a (3 * t)) ?_
        refine jg_istore dX3_firstWrong_26 (by decide) rfl ?_
        refine jg_aload_n dX3_firstWrong_28 rfl rfl ?_
        refine jg_aload_n dX3_firstWrong_29 rfl rfl ?_
        refine jg_iload dX3_firstWrong_30 rfl ?_
        refine jg_ld (a + (3 * t)) hs (by omega) (rfl) dX3_firstWrong_32 ?_
        refine jg_top (y := c (a + 3 * t)) ((congrFun (hF r (by omega)) _).trans (hc (a + 3 * t) (by omega))) ?_
        refine jg_aload_n dX3_firstWrong_33 rfl rfl ?_
        refine jg_iload dX3_firstWrong_34 rfl ?_
        refine jg_iconst (v := 1) dX3_firstWrong_36 (by decide) ?_
        refine jg_iaddE (z := nI ((a + (3 * t)) + 1)) dX3_firstWrong_37 (nI_add (a + (3 * t)) 1) ?_
        refine jg_ld ((a + (3 * t)) + 1) hs (by omega) (rfl) dX3_firstWrong_38 ?_
        refine jg_top (y := c (a + 3 * t + 1)) ((congrFun (hF r (by omega)) _).trans (hc (a + 3 * t + 1) (by omega))) ?_
        refine jg_aload_n dX3_firstWrong_39 rfl rfl ?_
        refine jg_iload dX3_firstWrong_40 rfl ?_
        refine jg_iconst (v := 2) dX3_firstWrong_42 (by decide) ?_
        refine jg_iaddE (z := nI ((a + (3 * t)) + 2)) dX3_firstWrong_43 (nI_add (a + (3 * t)) 2) ?_
        refine jg_ld ((a + (3 * t)) + 2) hs (by omega) (rfl) dX3_firstWrong_44 ?_
        refine jg_top (y := c (a + 3 * t + 2)) ((congrFun (hF r (by omega)) _).trans (hc (a + 3 * t + 2) (by omega))) ?_
        refine jg_callV (c3_actOnTrial E x q hq1 hq2 (c (a + 3 * t)) (c (a + 3 * t + 1)) (c (a + 3 * t + 2))) me_X3_actOnTrial ml_X3_259 sh_0 rfl rfl (by decide) (by decide) rfl (Nat.le_of_ble_eq_true rfl) dX3_firstWrong_45 (kk_I (fun r_45 u_45 h_45 => ?_))
        obtain ⟨rfl, hF1, hq3⟩ := h_45
        refine jb_if_ne 54 dX3_firstWrong_48 (by decide) (fun h_48 => ?_) (fun h_48 => ?_)
        · obtain ⟨q9, hq9⟩ : ∃ z, acF q (c (a + 3 * t)) (c (a + 3 * t + 1)) (c (a + 3 * t + 2)) = some z := Option.isSome_iff_exists.mp h_48
          obtain ⟨k1, k2, k3⟩ := ac_ok hq1 hq4 hq9
          refine jg_iinc (v := nI (t + 1)) dX3_firstWrong_54 rfl (nI_1 t) (by decide) rfl ?_
          refine jg_goto 14 dX3_firstWrong_57 (by decide) ?_
          exact jg_weak (gLe_s (gLe_s (gLe_s (gLe_s (gLe_s (gLe_n gLe_nil)))))) (ih (t + 1) _ q9 (by omega) (by omega) (hF.tr hF1) k1 (hq3 q9 hq9) k2 (dy_go hd hq9))
        · have hnn : acF q (c (a + 3 * t)) (c (a + 3 * t + 1)) (c (a + 3 * t + 2)) = none := Option.isNone_iff_eq_none.mp (by rw [← Option.not_isSome, h_48]; rfl)
          obtain ⟨d1, d2⟩ := dy_stop hd hnn m h_17
          refine jg_iload dX3_firstWrong_51 rfl ?_
          exact jg_iret (rfl) dX3_firstWrong_53 ⟨_, rfl, ⟨by rw [d1]; rfl, hF.tr hF1, fun z hz => by rw [d2] at hz; cases hz⟩⟩
  exact jg_weak (gLe_s (gLe_s (gLe_s (gLe_s (gLe_s (gLe_n gLe_nil)))))) (cut_14 (m + 1) 0 _ p (by omega) (by omega) hF0 hp hL0.1 hpp rfl)
set_option maxHeartbeats 4000000 in
set_option maxRecDepth 20000 in
theorem c3_ofTrial (E : gT) (u : Mm) (q : Pic) (hp : PicOk q) (hL : PlL 15 u q) (w : Int32) : Con E yX3_ofTrial cX3_ofTrial 2 (some .int) 4 [.ref (E.2.1 0), .int w] u (kI (fun r u2 => r = tdF q w ∧ u = u2)) := by
  have hn := hp.1
  refine Con.of (lv := [some (.ref (E.2.1 0)), some (.int w)]) (by decide +kernel) (Nat.le_of_ble_eq_true rfl) rfl ?_
  refine jg_iload_n dX3_ofTrial_0 rfl rfl ?_
  by_cases w0 : w = 0
  · refine jg_tableIn (off := 35) 36 dX3_ofTrial_1 (by rw [w0]; decide) (by rw [w0]; decide) (by rw [w0]; decide +kernel) (by decide) ?_
    refine jg_aload_n dX3_ofTrial_36 rfl rfl ?_
    refine jg_getr fk_X3_18 sh_0 rfl dX3_ofTrial_37 ?_
    refine jg_geti fk_X3_155 (pl_0 ipl_15) rfl dX3_ofTrial_40 ?_
    refine jg_top (y := nI (brP q)) (hL.2.2.1) ?_
    exact jg_iret (rfl) dX3_ofTrial_43 ⟨_, rfl, ⟨by simp [tdF, w0], rfl⟩⟩
  by_cases w1 : w = 1
  · refine jg_tableIn (off := 67) 68 dX3_ofTrial_1 (by rw [w1]; decide) (by rw [w1]; decide) (by rw [w1]; decide +kernel) (by decide) ?_
    refine jg_aload_n dX3_ofTrial_68 rfl rfl ?_
    refine jg_getr fk_X3_18 sh_0 rfl dX3_ofTrial_69 ?_
    refine jg_iload_n dX3_ofTrial_72 rfl rfl ?_
    refine jg_bipush (v := 10) dX3_ofTrial_73 (by decide) ?_
    refine jg_isub dX3_ofTrial_75 ?_
    refine jg_callV (c0_hasArea E ipl_15 u (w - 10)) me_X0_hasArea ml_X3_90 (pl_0 ipl_15) rfl rfl (by decide) (by decide) rfl (Nat.le_of_ble_eq_true rfl) dX3_ofTrial_76 (kk_I (fun r_76 u_76 h_76 => ?_))
    obtain ⟨rfl, rfl⟩ := h_76
    refine jg_top (y := bI (inN (w - 10) (nI (pn q)))) (congrArg (fun z => bI (inN (w - 10) z)) hL.1.1) ?_
    refine jb_if_eq 97 dX3_ofTrial_79 (by decide) (fun h_79 => ?_) (fun h_79 => ?_)
    · have hna := h_79
      refine jg_bipush (v := -9) dX3_ofTrial_97 (by decide) ?_
      exact jg_iret (rfl) dX3_ofTrial_99 ⟨_, rfl, ⟨by first | (unfold tdF; rw [if_neg (by first | assumption | (rw [w1]; decide)), if_neg (by first | assumption | (rw [w1]; decide)), if_neg (by first | assumption | (rw [w1]; decide)), if_neg (by first | assumption | (rw [w1]; decide)), if_pos h_79, ei, cl_nI (by omega)]) | (unfold tdF; rw [if_neg (by first | assumption | (rw [w1]; decide)), if_neg (by first | assumption | (rw [w1]; decide)), if_neg (by first | assumption | (rw [w1]; decide)), if_neg (by first | assumption | (rw [w1]; decide)), if_neg (by rw [h_79]; decide)]), rfl⟩⟩
    · obtain ⟨i, hi, ei⟩ := inN_nat (by omega) h_79
      refine jg_aload_n dX3_ofTrial_82 rfl rfl ?_
      refine jg_getr fk_X3_18 sh_0 rfl dX3_ofTrial_83 ?_
      refine jg_getr fk_X3_105 (pl_0 ipl_15) rfl dX3_ofTrial_86 ?_
      refine jg_iload_n dX3_ofTrial_89 rfl rfl ?_
      refine jg_bipush (v := 10) dX3_ofTrial_90 (by decide) ?_
      refine jg_isub dX3_ofTrial_92 ?_
      refine jg_ld i (pl_12 ipl_15) (by omega) (ei) dX3_ofTrial_93 ?_
      refine jg_top (y := nI (xF q i)) ((hL.2.1 i hi).2.2.2.1) ?_
      refine jg_goto 99 dX3_ofTrial_94 (by decide) ?_
      exact jg_iret (rfl) dX3_ofTrial_99 ⟨_, rfl, ⟨by first | (unfold tdF; rw [if_neg (by first | assumption | (rw [w1]; decide)), if_neg (by first | assumption | (rw [w1]; decide)), if_neg (by first | assumption | (rw [w1]; decide)), if_neg (by first | assumption | (rw [w1]; decide)), if_pos h_79, ei, cl_nI (by omega)]) | (unfold tdF; rw [if_neg (by first | assumption | (rw [w1]; decide)), if_neg (by first | assumption | (rw [w1]; decide)), if_neg (by first | assumption | (rw [w1]; decide)), if_neg (by first | assumption | (rw [w1]; decide)), if_neg (by rw [h_79]; decide)]), rfl⟩⟩
  by_cases w2 : w = 2
  · refine jg_tableIn (off := 43) 44 dX3_ofTrial_1 (by rw [w2]; decide) (by rw [w2]; decide) (by rw [w2]; decide +kernel) (by decide) ?_
    refine jg_aload_n dX3_ofTrial_44 rfl rfl ?_
    refine jg_getr fk_X3_18 sh_0 rfl dX3_ofTrial_45 ?_
    refine jg_geti fk_X3_158 (pl_0 ipl_15) rfl dX3_ofTrial_48 ?_
    refine jg_top (y := nI (dpP q)) (hL.2.2.2) ?_
    exact jg_iret (rfl) dX3_ofTrial_51 ⟨_, rfl, ⟨by simp [tdF, w2], rfl⟩⟩
  by_cases w3 : w = 3
  · refine jg_tableIn (off := 51) 52 dX3_ofTrial_1 (by rw [w3]; decide) (by rw [w3]; decide) (by rw [w3]; decide +kernel) (by decide) ?_
    refine jg_aload_n dX3_ofTrial_52 rfl rfl ?_
    refine jg_getr fk_X3_18 sh_0 rfl dX3_ofTrial_53 ?_
    refine jg_callV (c0_waste E ipl_15 u q hp hL) me_X0_waste ml_X3_161 (pl_0 ipl_15) rfl rfl (by decide) (by decide) rfl (Nat.le_of_ble_eq_true rfl) dX3_ofTrial_56 (kk_I (fun r_56 u_56 h_56 => ?_))
    obtain ⟨rfl, rfl⟩ := h_56
    exact jg_iret (rfl) dX3_ofTrial_59 ⟨_, rfl, ⟨by simp [tdF, w3], rfl⟩⟩
  by_cases w4 : w = 4
  · refine jg_tableIn (off := 59) 60 dX3_ofTrial_1 (by rw [w4]; decide) (by rw [w4]; decide) (by rw [w4]; decide +kernel) (by decide) ?_
    refine jg_aload_n dX3_ofTrial_60 rfl rfl ?_
    refine jg_getr fk_X3_18 sh_0 rfl dX3_ofTrial_61 ?_
    refine jg_callV (c0_touchingTwos E ipl_15 u q hp hL) me_X0_touchingTwos ml_X3_165 (pl_0 ipl_15) rfl rfl (by decide) (by decide) rfl (Nat.le_of_ble_eq_true rfl) dX3_ofTrial_64 (kk_I (fun r_64 u_64 h_64 => ?_))
    obtain ⟨rfl, rfl⟩ := h_64
    exact jg_iret (rfl) dX3_ofTrial_67 ⟨_, rfl, ⟨by simp [tdF, w4], rfl⟩⟩
  refine jg_tableOut 68 dX3_ofTrial_1 (tab_out (lo := 0) (n := 5) (fun k hk => by rcases (show k = 0 ∨ k = 1 ∨ k = 2 ∨ k = 3 ∨ k = 4 by omega) with rfl | rfl | rfl | rfl | rfl <;> assumption)) (by decide) ?_
  refine jg_aload_n dX3_ofTrial_68 rfl rfl ?_
  refine jg_getr fk_X3_18 sh_0 rfl dX3_ofTrial_69 ?_
  refine jg_iload_n dX3_ofTrial_72 rfl rfl ?_
  refine jg_bipush (v := 10) dX3_ofTrial_73 (by decide) ?_
  refine jg_isub dX3_ofTrial_75 ?_
  refine jg_callV (c0_hasArea E ipl_15 u (w - 10)) me_X0_hasArea ml_X3_90 (pl_0 ipl_15) rfl rfl (by decide) (by decide) rfl (Nat.le_of_ble_eq_true rfl) dX3_ofTrial_76 (kk_I (fun r_76 u_76 h_76 => ?_))
  obtain ⟨rfl, rfl⟩ := h_76
  refine jg_top (y := bI (inN (w - 10) (nI (pn q)))) (congrArg (fun z => bI (inN (w - 10) z)) hL.1.1) ?_
  refine jb_if_eq 97 dX3_ofTrial_79 (by decide) (fun h_79 => ?_) (fun h_79 => ?_)
  · have hna := h_79
    refine jg_bipush (v := -9) dX3_ofTrial_97 (by decide) ?_
    exact jg_iret (rfl) dX3_ofTrial_99 ⟨_, rfl, ⟨by first | (unfold tdF; rw [if_neg (by first | assumption | (rw [w1]; decide)), if_neg (by first | assumption | (rw [w1]; decide)), if_neg (by first | assumption | (rw [w1]; decide)), if_neg (by first | assumption | (rw [w1]; decide)), if_pos h_79, ei, cl_nI (by omega)]) | (unfold tdF; rw [if_neg (by first | assumption | (rw [w1]; decide)), if_neg (by first | assumption | (rw [w1]; decide)), if_neg (by first | assumption | (rw [w1]; decide)), if_neg (by first | assumption | (rw [w1]; decide)), if_neg (by rw [h_79]; decide)]), rfl⟩⟩
  · obtain ⟨i, hi, ei⟩ := inN_nat (by omega) h_79
    refine jg_aload_n dX3_ofTrial_82 rfl rfl ?_
    refine jg_getr fk_X3_18 sh_0 rfl dX3_ofTrial_83 ?_
    refine jg_getr fk_X3_105 (pl_0 ipl_15) rfl dX3_ofTrial_86 ?_
    refine jg_iload_n dX3_ofTrial_89 rfl rfl ?_
    refine jg_bipush (v := 10) dX3_ofTrial_90 (by decide) ?_
    refine jg_isub dX3_ofTrial_92 ?_
    refine jg_ld i (pl_12 ipl_15) (by omega) (ei) dX3_ofTrial_93 ?_
    refine jg_top (y := nI (xF q i)) ((hL.2.1 i hi).2.2.2.1) ?_
    refine jg_goto 99 dX3_ofTrial_94 (by decide) ?_
    exact jg_iret (rfl) dX3_ofTrial_99 ⟨_, rfl, ⟨by first | (unfold tdF; rw [if_neg (by first | assumption | (rw [w1]; decide)), if_neg (by first | assumption | (rw [w1]; decide)), if_neg (by first | assumption | (rw [w1]; decide)), if_neg (by first | assumption | (rw [w1]; decide)), if_pos h_79, ei, cl_nI (by omega)]) | (unfold tdF; rw [if_neg (by first | assumption | (rw [w1]; decide)), if_neg (by first | assumption | (rw [w1]; decide)), if_neg (by first | assumption | (rw [w1]; decide)), if_neg (by first | assumption | (rw [w1]; decide)), if_neg (by rw [h_79]; decide)]), rfl⟩⟩
theorem dyN_lt0 {p : Pic} {c : Nat → Int32} {a x : Nat} : ∀ t, dyN p c a t = some x → x < t := by
  intro t
  induction t with
  | zero => intro h; cases h
  | succ t ih =>
    intro h
    have h0 : dyN p c a (t + 1) = (match dyN p c a t with | some x => some x | none => match dyS p c a (t + 1) with | none => some t | some _ => none) := rfl
    rw [h0] at h
    cases e : dyN p c a t with
    | some y => rw [e] at h; cases h; have := ih e; omega
    | none =>
      rw [e] at h
      cases e2 : dyS p c a (t + 1) with
      | none => rw [e2] at h; cases h; omega
      | some y => rw [e2] at h; cases h
theorem dyN_none {p : Pic} {c : Nat → Int32} {a : Nat} : ∀ t, dyN p c a t = none → ∃ q, dyS p c a t = some q := by
  intro t
  induction t with
  | zero => intro _; exact ⟨p, rfl⟩
  | succ t ih =>
    intro h
    have h0 : dyN p c a (t + 1) = (match dyN p c a t with | some x => some x | none => match dyS p c a (t + 1) with | none => some t | some _ => none) := rfl
    rw [h0] at h
    cases e : dyN p c a t with
    | some y => rw [e] at h; cases h
    | none =>
      rw [e] at h
      cases e2 : dyS p c a (t + 1) with
      | none => rw [e2] at h; cases h
      | some y => exact ⟨y, rfl⟩
theorem dyS_ok {p : Pic} {c : Nat → Int32} {a : Nat} (hp : PicOk p) (hpp : PicP p) : ∀ t q, dyS p c a t = some q → PicOk q ∧ PicP q ∧ pn q = pn p := by
  intro t
  induction t with
  | zero => intro q h; cases h; exact ⟨hp, hpp, rfl⟩
  | succ t ih =>
    intro q h
    have h0 : dyS p c a (t + 1) = (match dyS p c a t with | none => none | some q => acF q (c (a + 3 * t)) (c (a + 3 * t + 1)) (c (a + 3 * t + 2))) := rfl
    rw [h0] at h
    cases e : dyS p c a t with
    | none => rw [e] at h; cases h
    | some r =>
      rw [e] at h
      obtain ⟨k1, k2, k3⟩ := ih r e
      obtain ⟨j1, j2, j3⟩ := ac_ok k1 k2 h
      exact ⟨j1, j2, j3.trans k3⟩
theorem dyN_iss {p : Pic} {c : Nat → Int32} {a t : Nat} (ht : t ≤ 20) (h : ¬ oI (-9) (dyN p c a t) = -9) : dyS p c a t = none := by
  cases e : dyS p c a t with
  | none => rfl
  | some q => rw [dy_some t e] at h; exact absurd rfl h
theorem dyN_isn {p : Pic} {c : Nat → Int32} {a t : Nat} (ht : t ≤ 20) (h : oI (-9) (dyN p c a t) = -9) : ∃ q, dyS p c a t = some q := by
  apply dyN_none
  cases e : dyN p c a t with
  | none => rfl
  | some x => rw [e, oI_some] at h; exact absurd h (oI_ne (by decide) (by have := dyN_lt0 t e; omega))
set_option maxHeartbeats 4000000 in
set_option maxRecDepth 20000 in
theorem d3_day (E : gT) (u : Mm) (g : Gh) (hO : Ok g) (hI : InvC u g) (k l i n w : Int32) : Con E yX3_day cX3_day 9 (some .int) 5 [.ref (E.2.1 0), .int k, .int l, .int i, .int n, .int w] u (kI (fun r u2 => r = (fDay g k l i n w).1 ∧ InvC u2 (fDay g k l i n w).2 ∧ CF u u2)) := by
  have hn := hO.1.1
  refine Con.of (lv := [some (.ref (E.2.1 0)), some (.int k), some (.int l), some (.int i), some (.int n), some (.int w), none, none, none]) (by decide +kernel) (Nat.le_of_ble_eq_true rfl) rfl ?_
  refine jg_aload_n dX3_day_0 rfl rfl ?_
  refine jg_iconst (v := 0) dX3_day_1 (by decide) ?_
  refine jg_puti fp_X3_45 sh_0 rfl dX3_day_2 ?_
  refine jg_iload_n dX3_day_5 rfl rfl ?_
  refine jg_callS (c3_isSheet E (s2 u 0 9 0) k) me_X3_isSheet ml_X3_49 rfl (by decide) (by decide) rfl (Nat.le_of_ble_eq_true rfl) dX3_day_6 (kk_I (fun r_6 u_6 h_6 => ?_))
  obtain ⟨rfl, rfl⟩ := h_6
  refine jb_if_ne 14 dX3_day_9 (by decide) (fun h_9 => ?_) (fun h_9 => ?_)
  · obtain ⟨x, hx, rfl⟩ := in4 h_9
    have hsx := shC_z hI hx 0
    have h60 := (hO.2.2.1 x hx).2
    refine jg_iload_n dX3_day_14 rfl rfl ?_
    refine jg_callS (c3_isLane E (s2 u 0 9 0) l) me_X3_isLane ml_X3_53 rfl (by decide) (by decide) rfl (Nat.le_of_ble_eq_true rfl) dX3_day_15 (kk_I (fun r_15 u_15 h_15 => ?_))
    obtain ⟨rfl, rfl⟩ := h_15
    refine jb_if_eq 37 dX3_day_18 (by decide) (fun h_18 => ?_) (fun h_18 => ?_)
    · have hc9 : ¬ (inR l 0 2 = true ∧ inR n 0 20 = true ∧ (inR w 0 4 || inR w 10 15) = true) := fun z => by rw [h_18] at z; exact absurd z.1 (by decide)
      refine jg_bipush (v := -2) dX3_day_37 (by decide) ?_
      have e9 : fDay g (nI x) l i n w = (-2, wFt g 0) := by unfold fDay; rw [if_pos h_9, if_neg hc9]
      exact jg_iret (rfl) dX3_day_39 ⟨_, rfl, ⟨by rw [e9] <;> rfl, by rw [e9]; exact hI.ft 0, CF.rf.put (by omega)⟩⟩
    · refine jg_iload dX3_day_21 rfl ?_
      refine jg_callS (c3_isTold E (s2 u 0 9 0) n) me_X3_isTold ml_X3_174 rfl (by decide) (by decide) rfl (Nat.le_of_ble_eq_true rfl) dX3_day_23 (kk_I (fun r_23 u_23 h_23 => ?_))
      obtain ⟨rfl, rfl⟩ := h_23
      refine jb_if_eq 37 dX3_day_26 (by decide) (fun h_26 => ?_) (fun h_26 => ?_)
      · have hc9 : ¬ (inR l 0 2 = true ∧ inR n 0 20 = true ∧ (inR w 0 4 || inR w 10 15) = true) := fun z => by rw [h_26] at z; exact absurd z.2.1 (by decide)
        refine jg_bipush (v := -2) dX3_day_37 (by decide) ?_
        have e9 : fDay g (nI x) l i n w = (-2, wFt g 0) := by unfold fDay; rw [if_pos h_9, if_neg hc9]
        exact jg_iret (rfl) dX3_day_39 ⟨_, rfl, ⟨by rw [e9] <;> rfl, by rw [e9]; exact hI.ft 0, CF.rf.put (by omega)⟩⟩
      · refine jg_iload dX3_day_29 rfl ?_
        refine jg_callS (c3_isAskedOfDay E (s2 u 0 9 0) w) me_X3_isAskedOfDay ml_X3_177 rfl (by decide) (by decide) rfl (Nat.le_of_ble_eq_true rfl) dX3_day_31 (kk_I (fun r_31 u_31 h_31 => ?_))
        obtain ⟨rfl, rfl⟩ := h_31
        refine jb_if_ne 40 dX3_day_34 (by decide) (fun h_34 => ?_) (fun h_34 => ?_)
        · have hc9 : inR l 0 2 = true ∧ inR n 0 20 = true ∧ (inR w 0 4 || inR w 10 15) = true := ⟨h_18, h_26, h_34⟩
          obtain ⟨b, -, hb, rfl⟩ := inR_nat (lo := 0) (hi := 20) (by omega) h_26 (by omega)
          have h33 : (3 : Int32) * nI b = nI (3 * b) := pk_mul 3 b
          refine jg_aload_n dX3_day_40 rfl rfl ?_
          refine jg_getr fk_X3_30 sh_0 rfl dX3_day_41 ?_
          refine jg_iload_n dX3_day_44 rfl rfl ?_
          refine jg_aald x sh_45 (sh_at hx) (Nat.le_of_ble_eq_true rfl) (rfl) dX3_day_45 ?_
          refine jg_astore dX3_day_46 (by decide) rfl ?_
          refine jg_aload dX3_day_48 rfl ?_
          refine jg_iload_n dX3_day_50 rfl rfl ?_
          refine jg_iload_n dX3_day_51 rfl rfl ?_
          refine jg_iconst (v := 3) dX3_day_52 (by decide) ?_
          refine jg_iload dX3_day_53 rfl ?_
          refine jg_imulE (z := nI (3 * b)) dX3_day_55 (pk_mul 3 b) ?_
          refine jg_callS (c3_faultOfRow E (sh_ok hx) (s2 u 0 9 0) (g.2.2.2.1 x) hsx l i (nI (3 * b)) (nI_pos (by omega))) me_X3_faultOfRow ml_X3_180 rfl (by decide) (by decide) rfl (Nat.le_of_ble_eq_true rfl) dX3_day_56 (kk_I (fun r_56 u_56 h_56 => ?_))
          obtain ⟨rfl, rfl⟩ := h_56
          refine jg_istore dX3_day_59 (by decide) rfl ?_
          refine jg_iload dX3_day_61 rfl ?_
          refine jg_if_eq 73 dX3_day_63 (by decide) (fun h_63 => ?_) (fun h_63 => ?_)
          · obtain ⟨ht, hl, hh⟩ := agF_hc h_63
            obtain ⟨a, hab, rfl⟩ := hc_n h60 (by omega) hh
            refine jg_aload_n dX3_day_73 rfl rfl ?_
            refine jg_getr fk_X3_14 sh_0 rfl dX3_day_74 ?_
            refine jg_geti fk_X3_87 (pl_0 ipl_1) rfl dX3_day_77 ?_
            refine jg_top (y := nI (pn g.1)) (by rw [s2_row (by decide)]; exact hI.1.1.1) ?_
            refine jn_if_ne (pn g.1) rfl (by omega) 86 dX3_day_80 (by decide) (fun h_80 => ?_) (fun h_80 => ?_)
            · refine jg_aload dX3_day_86 rfl ?_
              refine jg_getr fk_X3_67 (pg_0 (sh_ok hx)) rfl dX3_day_88 ?_
              refine jg_iload_n dX3_day_91 rfl rfl ?_
              refine jg_iload dX3_day_92 rfl ?_
              refine jg_callS (c3_sortsAreKnown E (s2 u 0 9 0) (pg_1 (sh_ok hx)) (g.2.2.2.1 x).2.2.2 hsx.2.2.2 a b (by omega)) me_X3_sortsAreKnown ml_X3_184 rfl (by decide) (by decide) rfl (Nat.le_of_ble_eq_true rfl) dX3_day_94 (kk_I (fun r_94 u_94 h_94 => ?_))
              obtain ⟨rfl, rfl⟩ := h_94
              refine jb_if_ne 103 dX3_day_97 (by decide) (fun h_97 => ?_) (fun h_97 => ?_)
              · have e9 : fDay g (nI x) l (nI a) (nI b) w = (dyF g.1 (g.2.2.2.1 x).2.2.2 a b w, wFt g 0) := by unfold fDay shk; rw [if_pos h_9, if_pos hc9, h33, cl_nI (show x < 2 ^ 31 by omega), if_pos h_63, if_neg h_80, cl_nI (show a < 2 ^ 31 by omega), cl_nI (show b < 2 ^ 31 by omega), if_pos h_97]
                refine jg_aload_n dX3_day_103 rfl rfl ?_
                refine jg_aload dX3_day_104 rfl ?_
                refine jg_getr fk_X3_67 (pg_0 (sh_ok hx)) rfl dX3_day_106 ?_
                refine jg_iload_n dX3_day_109 rfl rfl ?_
                refine jg_iload dX3_day_110 rfl ?_
                refine jg_callV (c3_firstWrong E (s2 u 0 9 0) g.1 hO.1 hO.2.1 hI.1.1.r0 (pg_1 (sh_ok hx)) (g.2.2.2.1 x).2.2.2 hsx.2.2.2 (by omega) a b (by omega)) me_X3_firstWrong ml_X3_187 sh_0 rfl rfl (by decide) (by decide) rfl (Nat.le_of_ble_eq_true rfl) dX3_day_112 (kk_I (fun r_112 u_112 h_112 => ?_))
                obtain ⟨rfl, hF, hq⟩ := h_112
                have hJ := (hI.ft 0).tl hF
                have hCF : CF u u_112 := (CF.rf.put (by omega)).tr hF.cf15
                refine jg_istore dX3_day_115 (by decide) rfl ?_
                refine jg_iload dX3_day_117 rfl ?_
                refine jg_iconst (v := 1) dX3_day_119 (by decide) ?_
                refine jg_icmp_ne 126 dX3_day_120 (by decide) (fun h_120 => ?_) (fun h_120 => ?_)
                · refine jg_iload dX3_day_126 rfl ?_
                  refine jg_bipush (v := -9) dX3_day_128 (by decide) ?_
                  refine jg_icmp_ne 142 dX3_day_130 (by decide) (fun h_130 => ?_) (fun h_130 => ?_)
                  · have eD : dyF g.1 (g.2.2.2.1 x).2.2.2 a b w = -100 - oI (-9) (dyN g.1 (g.2.2.2.1 x).2.2.2 a b) := by unfold dyF; rw [if_neg h_120, dyN_iss hb h_130]
                    refine jg_bipush (v := -100) dX3_day_142 (by decide) ?_
                    refine jg_iload dX3_day_144 rfl ?_
                    refine jg_isub dX3_day_146 ?_
                    exact jg_iret (rfl) dX3_day_147 ⟨_, rfl, ⟨by rw [e9, eD], by rw [e9]; exact hJ, hCF⟩⟩
                  · obtain ⟨q, hq9⟩ := dyN_isn hb h_130
                    have hL9 := hq q hq9
                    obtain ⟨k1, k2, k3⟩ := dyS_ok hO.1 hO.2.1 b q hq9
                    have eD : dyF g.1 (g.2.2.2.1 x).2.2.2 a b w = tdF q w := by unfold dyF; rw [if_neg h_120, hq9]
                    refine jg_aload_n dX3_day_133 rfl rfl ?_
                    refine jg_iload dX3_day_134 rfl ?_
                    refine jg_callV (c3_ofTrial E u_112 q k1 hL9 w) me_X3_ofTrial ml_X3_191 sh_0 rfl rfl (by decide) (by decide) rfl (Nat.le_of_ble_eq_true rfl) dX3_day_136 (kk_I (fun r_136 u_136 h_136 => ?_))
                    obtain ⟨rfl, rfl⟩ := h_136
                    refine jg_goto 147 dX3_day_139 (by decide) ?_
                    exact jg_iret (rfl) dX3_day_147 ⟨_, rfl, ⟨by rw [e9, eD], by rw [e9]; exact hJ, hCF⟩⟩
                · refine jg_iload dX3_day_123 rfl ?_
                  exact jg_iret (rfl) dX3_day_125 ⟨_, rfl, ⟨by rw [e9]; show _ = dyF _ _ _ _ w; unfold dyF; rw [if_pos h_120], by rw [e9]; exact hJ, hCF⟩⟩
              · have e9 : fDay g (nI x) l (nI a) (nI b) w = (-2, wFt g 0) := by unfold fDay shk; rw [if_pos h_9, if_pos hc9, h33, cl_nI (show x < 2 ^ 31 by omega), if_pos h_63, if_neg h_80, cl_nI (show a < 2 ^ 31 by omega), cl_nI (show b < 2 ^ 31 by omega), if_neg (by rw [h_97]; decide)]
                refine jg_bipush (v := -2) dX3_day_100 (by decide) ?_
                exact jg_iret (rfl) dX3_day_102 ⟨_, rfl, ⟨by rw [e9] <;> rfl, by rw [e9]; exact hI.ft 0, CF.rf.put (by omega)⟩⟩
            · have e9 : fDay g (nI x) l (nI a) (nI b) w = (-3, wFt g 0) := by unfold fDay shk; rw [if_pos h_9, if_pos hc9, h33, cl_nI (show x < 2 ^ 31 by omega), if_pos h_63, if_pos h_80]
              refine jg_bipush (v := -3) dX3_day_83 (by decide) ?_
              exact jg_iret (rfl) dX3_day_85 ⟨_, rfl, ⟨by rw [e9] <;> rfl, by rw [e9]; exact hI.ft 0, CF.rf.put (by omega)⟩⟩
          · have e9 : fDay g (nI x) l i (nI b) w = (-10 - agF (g.2.2.2.1 x) l i (nI (3 * b)), wFt g (agF (g.2.2.2.1 x) l i (nI (3 * b)))) := by unfold fDay shk; rw [if_pos h_9, if_pos hc9, h33, cl_nI (show x < 2 ^ 31 by omega), if_neg h_63]
            refine jg_aload_n dX3_day_66 rfl rfl ?_
            refine jg_iload dX3_day_67 rfl ?_
            refine jg_callV (c3_failed E (s2 u 0 9 0) (agF (g.2.2.2.1 x) l i (nI (3 * b)))) me_X3_failed ml_X3_64 sh_0 rfl rfl (by decide) (by decide) rfl (Nat.le_of_ble_eq_true rfl) dX3_day_69 (kk_I (fun r_69 u_69 h_69 => ?_))
            obtain ⟨rfl, rfl⟩ := h_69
            rw [s2_s2]
            exact jg_iret (rfl) dX3_day_72 ⟨_, rfl, ⟨by rw [e9], by rw [e9]; exact hI.ft _, CF.rf.put (by omega)⟩⟩
        · have hc9 : ¬ (inR l 0 2 = true ∧ inR n 0 20 = true ∧ (inR w 0 4 || inR w 10 15) = true) := fun z => by rw [h_34] at z; exact absurd z.2.2 (by decide)
          refine jg_bipush (v := -2) dX3_day_37 (by decide) ?_
          have e9 : fDay g (nI x) l i n w = (-2, wFt g 0) := by unfold fDay; rw [if_pos h_9, if_neg hc9]
          exact jg_iret (rfl) dX3_day_39 ⟨_, rfl, ⟨by rw [e9] <;> rfl, by rw [e9]; exact hI.ft 0, CF.rf.put (by omega)⟩⟩
  · refine jg_iconst (v := -1) dX3_day_12 (by decide) ?_
    have e9 : fDay g k l i n w = (-1, wFt g 0) := by unfold fDay; rw [if_neg (by rw [h_9]; decide)]
    exact jg_iret (rfl) dX3_day_13 ⟨_, rfl, ⟨by rw [e9] <;> rfl, by rw [e9]; exact hI.ft 0, CF.rf.put (by omega)⟩⟩
