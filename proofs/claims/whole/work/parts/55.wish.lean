set_option maxHeartbeats 4000000 in
set_option maxRecDepth 20000 in
theorem c3_allAreAreas (E : gT) (u : Mm) (p : Pic) (hp : PicOk p) (hP : PlB 1 u p) {r : Nat} (hs : sTb[r]? = some (.inr (.inl 60))) (c : Nat → Int32) (hc : ∀ i, i < 60 → u r i = c i) (a m : Nat) (hm : a + m ≤ 60) : Con E yX3_allAreAreas cX3_allAreAreas 5 (some .boolean) 1 [.ref (E.2.1 0), .ref (E.2.1 r), .int (nI a), .int (nI m)] u (kI (fun r u2 => r = bI (alF c a (pn p) m) ∧ u = u2)) := by
  have hn := hp.1
  refine Con.of (lv := [some (.ref (E.2.1 0)), some (.ref (E.2.1 r)), some (.int (nI a)), some (.int (nI m)), none]) (by decide +kernel) (Nat.le_of_ble_eq_true rfl) rfl ?_
  refine jg_iconst (v := 0) dX3_allAreAreas_0 (by decide) ?_
  refine jg_istore dX3_allAreAreas_1 (by decide) rfl ?_
  have cut_3 : ∀ (w q : Nat), q ≤ m → m < q + w → alF c a (pn p) q = true → G E cX3_allAreAreas 5 (yX3_allAreAreas).cls (some .boolean) 1 (kI (fun r u2 => r = bI (alF c a (pn p) m) ∧ u = u2)) 3 [some (.ref (E.2.1 0)), some (.ref (E.2.1 r)), some (.int (nI a)), some (.int (nI m)), some (.int (nI q))] [] u := by
    intro w
    induction w with
    | zero => intro q h1 h2; omega
    | succ w ih =>
      intro q hq0 hw hq
      refine jg_iload dX3_allAreAreas_3 rfl ?_
      refine jg_iload_n dX3_allAreAreas_5 rfl rfl ?_
      refine jn_icmp_ge q m rfl rfl (by omega) (by omega) 33 dX3_allAreAreas_6 (by decide) (fun h_6 => ?_) (fun h_6 => ?_)
      · obtain rfl : q = m := by omega
        refine jg_iconst (v := 1) dX3_allAreAreas_33 (by decide) ?_
        exact jg_iret (rfl) dX3_allAreAreas_34 ⟨_, rfl, ⟨by rw [hq]; rfl, rfl⟩⟩
      · refine jg_aload_n dX3_allAreAreas_9 rfl rfl ?_
        refine jg_getr fk_X3_14 sh_0 rfl dX3_allAreAreas_10 ?_
        refine jg_aload_n dX3_allAreAreas_13 rfl rfl ?_
        refine jg_iload_n dX3_allAreAreas_14 rfl rfl ?_
        refine jg_iload dX3_allAreAreas_15 rfl ?_
        refine jg_iaddE (z := nI (a + q)) dX3_allAreAreas_17 (nI_add a q) ?_
        refine jg_ld (a + q) hs (by omega) (rfl) dX3_allAreAreas_18 ?_
        refine jg_top (y := c (a + q)) (hc (a + q) (by omega)) ?_
        refine jg_callV (c0_hasArea E ipl_1 u (c (a + q))) me_X0_hasArea ml_X3_90 (pl_0 ipl_1) rfl rfl (by decide) (by decide) rfl (Nat.le_of_ble_eq_true rfl) dX3_allAreAreas_19 (kk_I (fun r_19 u_19 h_19 => ?_))
        obtain ⟨rfl, rfl⟩ := h_19
        refine jg_top (y := bI (inN (c (a + q)) (nI (pn p)))) (congrArg (fun z => bI (inN (c (a + q)) z)) hP.1) ?_
        refine jb_if_ne 27 dX3_allAreAreas_22 (by decide) (fun h_22 => ?_) (fun h_22 => ?_)
        · have ea : alF c a (pn p) (q + 1) = true := by show (alF c a (pn p) q && _) = true; rw [hq, h_22]; rfl
          refine jg_iinc (v := nI (q + 1)) dX3_allAreAreas_27 rfl (nI_1 q) (by decide) rfl ?_
          refine jg_goto 3 dX3_allAreAreas_30 (by decide) ?_
          exact ih (q + 1) (by omega) (by omega) ea
        · have ea := al_no h_22 m h_6
          refine jg_iconst (v := 0) dX3_allAreAreas_25 (by decide) ?_
          exact jg_iret (rfl) dX3_allAreAreas_26 ⟨_, rfl, ⟨by rw [ea]; rfl, rfl⟩⟩
  exact cut_3 (m + 1) 0 (by omega) (by omega) rfl
set_option maxHeartbeats 4000000 in
set_option maxRecDepth 20000 in
theorem d3_wishes (E : gT) (u : Mm) (g : Gh) (hO : Ok g) (hI : InvC u g) (k l i n : Int32) : Con E yX3_wishes cX3_wishes 9 (some .int) 2 [.ref (E.2.1 0), .int k, .int l, .int i, .int n] u (kI (fun r u2 => r = (fWish g k l i n).1 ∧ InvC u2 (fWish g k l i n).2 ∧ CF u u2)) := by
  have hn := hO.1.1
  refine Con.of (lv := [some (.ref (E.2.1 0)), some (.int k), some (.int l), some (.int i), some (.int n), none, none, none, none]) (by decide +kernel) (Nat.le_of_ble_eq_true rfl) rfl ?_
  refine jg_aload_n dX3_wishes_0 rfl rfl ?_
  refine jg_iconst (v := 0) dX3_wishes_1 (by decide) ?_
  refine jg_puti fp_X3_45 sh_0 rfl dX3_wishes_2 ?_
  refine jg_iload_n dX3_wishes_5 rfl rfl ?_
  refine jg_callS (c3_isSheet E (s2 u 0 9 0) k) me_X3_isSheet ml_X3_49 rfl (by decide) (by decide) rfl (Nat.le_of_ble_eq_true rfl) dX3_wishes_6 (kk_I (fun r_6 u_6 h_6 => ?_))
  obtain ⟨rfl, rfl⟩ := h_6
  refine jb_if_ne 14 dX3_wishes_9 (by decide) (fun h_9 => ?_) (fun h_9 => ?_)
  · obtain ⟨x, hx, rfl⟩ := in4 h_9
    have hsx := shC_z hI hx 0
    have h60 := (hO.2.2.1 x hx).2
    refine jg_iload_n dX3_wishes_14 rfl rfl ?_
    refine jg_callS (c3_isLane E (s2 u 0 9 0) l) me_X3_isLane ml_X3_53 rfl (by decide) (by decide) rfl (Nat.le_of_ble_eq_true rfl) dX3_wishes_15 (kk_I (fun r_15 u_15 h_15 => ?_))
    obtain ⟨rfl, rfl⟩ := h_15
    refine jb_if_eq 29 dX3_wishes_18 (by decide) (fun h_18 => ?_) (fun h_18 => ?_)
    · have hc9 : ¬ (inR l 0 2 = true ∧ inR n 0 20 = true) := fun z => by rw [h_18] at z; exact absurd z.1 (by decide)
      refine jg_bipush (v := -2) dX3_wishes_29 (by decide) ?_
      have e9 : fWish g (nI x) l i n = (-2, wFt g 0) := by unfold fWish; rw [if_pos h_9, if_neg hc9]
      exact jg_iret (rfl) dX3_wishes_31 ⟨_, rfl, ⟨by rw [e9] <;> rfl, by rw [e9]; exact hI.ft 0, CF.rf.put (by omega)⟩⟩
    · refine jg_iload dX3_wishes_21 rfl ?_
      refine jg_callS (c3_isTold E (s2 u 0 9 0) n) me_X3_isTold ml_X3_174 rfl (by decide) (by decide) rfl (Nat.le_of_ble_eq_true rfl) dX3_wishes_23 (kk_I (fun r_23 u_23 h_23 => ?_))
      obtain ⟨rfl, rfl⟩ := h_23
      refine jb_if_ne 32 dX3_wishes_26 (by decide) (fun h_26 => ?_) (fun h_26 => ?_)
      · have hc9 : inR l 0 2 = true ∧ inR n 0 20 = true := ⟨h_18, h_26⟩
        obtain ⟨b, -, hb, rfl⟩ := inR_nat (lo := 0) (hi := 20) (by omega) h_26 (by omega)
        have h22 : (2 : Int32) * nI b = nI (2 * b) := pk_mul 2 b
        refine jg_aload_n dX3_wishes_32 rfl rfl ?_
        refine jg_getr fk_X3_30 sh_0 rfl dX3_wishes_33 ?_
        refine jg_iload_n dX3_wishes_36 rfl rfl ?_
        refine jg_aald x sh_45 (sh_at hx) (Nat.le_of_ble_eq_true rfl) (rfl) dX3_wishes_37 ?_
        refine jg_astore dX3_wishes_38 (by decide) rfl ?_
        refine jg_aload dX3_wishes_40 rfl ?_
        refine jg_iload_n dX3_wishes_42 rfl rfl ?_
        refine jg_iload_n dX3_wishes_43 rfl rfl ?_
        refine jg_iconst (v := 2) dX3_wishes_44 (by decide) ?_
        refine jg_iload dX3_wishes_45 rfl ?_
        refine jg_imulE (z := nI (2 * b)) dX3_wishes_47 (pk_mul 2 b) ?_
        refine jg_callS (c3_faultOfRow E (sh_ok hx) (s2 u 0 9 0) (g.2.2.2.1 x) hsx l i (nI (2 * b)) (nI_pos (by omega))) me_X3_faultOfRow ml_X3_180 rfl (by decide) (by decide) rfl (Nat.le_of_ble_eq_true rfl) dX3_wishes_48 (kk_I (fun r_48 u_48 h_48 => ?_))
        obtain ⟨rfl, rfl⟩ := h_48
        refine jg_istore dX3_wishes_51 (by decide) rfl ?_
        refine jg_iload dX3_wishes_53 rfl ?_
        refine jg_if_eq 65 dX3_wishes_55 (by decide) (fun h_55 => ?_) (fun h_55 => ?_)
        · obtain ⟨ht, hl, hh⟩ := agF_hc h_55
          obtain ⟨a, hab, rfl⟩ := hc_n h60 (by omega) hh
          refine jg_aload_n dX3_wishes_65 rfl rfl ?_
          refine jg_getr fk_X3_14 sh_0 rfl dX3_wishes_66 ?_
          refine jg_geti fk_X3_87 (pl_0 ipl_1) rfl dX3_wishes_69 ?_
          refine jg_top (y := nI (pn g.1)) (by rw [s2_row (by decide)]; exact hI.1.1.1) ?_
          refine jn_if_ne (pn g.1) rfl (by omega) 78 dX3_wishes_72 (by decide) (fun h_72 => ?_) (fun h_72 => ?_)
          · refine jg_aload_n dX3_wishes_78 rfl rfl ?_
            refine jg_aload dX3_wishes_79 rfl ?_
            refine jg_getr fk_X3_67 (pg_0 (sh_ok hx)) rfl dX3_wishes_81 ?_
            refine jg_iload_n dX3_wishes_84 rfl rfl ?_
            refine jg_iconst (v := 2) dX3_wishes_85 (by decide) ?_
            refine jg_iload dX3_wishes_86 rfl ?_
            refine jg_imulE (z := nI (2 * b)) dX3_wishes_88 (pk_mul 2 b) ?_
            refine jg_callV (c3_allAreAreas E (s2 u 0 9 0) g.1 hO.1 hI.1.1.r0 (pg_1 (sh_ok hx)) (g.2.2.2.1 x).2.2.2 hsx.2.2.2 a (2 * b) (by omega)) me_X3_allAreAreas ml_X3_197 sh_0 rfl rfl (by decide) (by decide) rfl (Nat.le_of_ble_eq_true rfl) dX3_wishes_89 (kk_I (fun r_89 u_89 h_89 => ?_))
            obtain ⟨rfl, rfl⟩ := h_89
            refine jb_if_ne 97 dX3_wishes_92 (by decide) (fun h_92 => ?_) (fun h_92 => ?_)
            · have e9 : fWish g (nI x) l (nI a) (nI b) = (nI (wiF g.1 (g.2.2.2.1 x).2.2.2 a b), wFt g 0) := by unfold fWish shk; rw [if_pos h_9, if_pos hc9, h22, cl_nI (show x < 2 ^ 31 by omega), if_pos h_55, if_neg h_72, cl_nI (show a < 2 ^ 31 by omega), cl_nI (show b < 2 ^ 31 by omega), if_pos h_92]
              have hL0 : PlL 1 (s2 u 0 9 0) g.1 := hI.1.rows (fun k h1 h2 => s2_row (by omega))
              have hn := hO.1.1
              refine jg_iconst (v := 0) dX3_wishes_97 (by decide) ?_
              refine jg_istore dX3_wishes_98 (by decide) rfl ?_
              refine jg_iconst (v := 0) dX3_wishes_100 (by decide) ?_
              refine jg_istore dX3_wishes_101 (by decide) rfl ?_
              have cut_103 : ∀ (m q : Nat), q ≤ b → b < q + m → G E cX3_wishes 9 (yX3_wishes).cls (some .int) 2 (kI (fun r u2 => r = (fWish g (nI x) l (nI a) (nI b)).1 ∧ InvC u2 (fWish g (nI x) l (nI a) (nI b)).2 ∧ CF u u2)) 103 [some (.ref (E.2.1 0)), some (.int (nI x)), some (.int l), some (.int (nI a)), some (.int (nI b)), some (.ref (E.2.1 (46 + 2 * x))), none, some (.int (nI (wiF g.1 (g.2.2.2.1 x).2.2.2 a q))), some (.int (nI q))] [] (s2 u 0 9 0) := by
                intro m
                induction m with
                | zero => intro q h1 h2; omega
                | succ m ih =>
                  intro q hq hm
                  refine jg_iload dX3_wishes_103 rfl ?_
                  refine jg_iload dX3_wishes_105 rfl ?_
                  refine jn_icmp_ge q b rfl rfl (by omega) (by omega) 155 dX3_wishes_107 (by decide) (fun h_107 => ?_) (fun h_107 => ?_)
                  · obtain rfl : q = b := by omega
                    refine jg_iload dX3_wishes_155 rfl ?_
                    exact jg_iret (rfl) dX3_wishes_157 ⟨_, rfl, ⟨by rw [e9], by rw [e9]; exact hI.ft 0, CF.rf.put (by omega)⟩⟩
                  · obtain ⟨y1, hy1, ey1⟩ := inN_nat (by omega) (al_at _ h_92 (2 * q) (by omega))
                    obtain ⟨y2, hy2, ey2⟩ := inN_nat (by omega) (al_at _ h_92 (2 * q + 1) (by omega))
                    have hwq := wi_le g.1 (g.2.2.2.1 x).2.2.2 a q
                    refine jg_aload_n dX3_wishes_110 rfl rfl ?_
                    refine jg_getr fk_X3_14 sh_0 rfl dX3_wishes_111 ?_
                    refine jg_aload dX3_wishes_114 rfl ?_
                    refine jg_getr fk_X3_67 (pg_0 (sh_ok hx)) rfl dX3_wishes_116 ?_
                    refine jg_iload_n dX3_wishes_119 rfl rfl ?_
                    refine jg_iconst (v := 2) dX3_wishes_120 (by decide) ?_
                    refine jg_iload dX3_wishes_121 rfl ?_
                    refine jg_imulE (z := nI (2 * q)) dX3_wishes_123 (pk_mul 2 q) ?_
                    refine jg_iaddE (z := nI (a + (2 * q))) dX3_wishes_124 (nI_add a (2 * q)) ?_
                    refine jg_ld (a + (2 * q)) (pg_1 (sh_ok hx)) (by omega) (rfl) dX3_wishes_125 ?_
                    refine jg_top (y := nI y1) ((hsx.2.2.2 (a + 2 * q) (by omega)).trans ey1) ?_
                    refine jg_aload dX3_wishes_126 rfl ?_
                    refine jg_getr fk_X3_67 (pg_0 (sh_ok hx)) rfl dX3_wishes_128 ?_
                    refine jg_iload_n dX3_wishes_131 rfl rfl ?_
                    refine jg_iconst (v := 2) dX3_wishes_132 (by decide) ?_
                    refine jg_iload dX3_wishes_133 rfl ?_
                    refine jg_imulE (z := nI (2 * q)) dX3_wishes_135 (pk_mul 2 q) ?_
                    refine jg_iaddE (z := nI (a + (2 * q))) dX3_wishes_136 (nI_add a (2 * q)) ?_
                    refine jg_iconst (v := 1) dX3_wishes_137 (by decide) ?_
                    refine jg_iaddE (z := nI ((a + (2 * q)) + 1)) dX3_wishes_138 (nI_add (a + (2 * q)) 1) ?_
                    refine jg_ld ((a + (2 * q)) + 1) (pg_1 (sh_ok hx)) (by omega) (rfl) dX3_wishes_139 ?_
                    refine jg_top (y := nI y2) ((hsx.2.2.2 (a + 2 * q + 1) (by omega)).trans ey2) ?_
                    refine jg_callV (c0_touch E ipl_1 (s2 u 0 9 0) g.1 hO.1 hL0 y1 y2 hy1 hy2) me_X0_touch ml_X3_200 (pl_0 ipl_1) rfl rfl (by decide) (by decide) rfl (Nat.le_of_ble_eq_true rfl) dX3_wishes_140 (kk_I (fun r_140 u_140 h_140 => ?_))
                    obtain ⟨rfl, rfl⟩ := h_140
                    refine jb_if_eq 149 dX3_wishes_143 (by decide) (fun h_143 => ?_) (fun h_143 => ?_)
                    · have eW : wiF g.1 (g.2.2.2.1 x).2.2.2 a (q + 1) = wiF g.1 (g.2.2.2.1 x).2.2.2 a q := by show _ + (if _ then 1 else 0) = _; rw [ey1, show (g.2.2.2.1 x).2.2.2 (a + 2 * q + 1) = nI y2 from ey2, cl_nI (show y1 < 2 ^ 31 by omega), cl_nI (show y2 < 2 ^ 31 by omega), if_neg (by rw [h_143]; decide)]; rfl
                      refine jg_iinc (v := nI (q + 1)) dX3_wishes_149 rfl (nI_1 q) (by decide) rfl ?_
                      refine jg_goto 103 dX3_wishes_152 (by decide) ?_
                      have ih2 := ih (q + 1) (by omega) (by omega)
                      rw [eW] at ih2
                      exact ih2
                    · have eW : wiF g.1 (g.2.2.2.1 x).2.2.2 a (q + 1) = wiF g.1 (g.2.2.2.1 x).2.2.2 a q + 1 := by show _ + (if _ then 1 else 0) = _; rw [ey1, show (g.2.2.2.1 x).2.2.2 (a + 2 * q + 1) = nI y2 from ey2, cl_nI (show y1 < 2 ^ 31 by omega), cl_nI (show y2 < 2 ^ 31 by omega), if_pos h_143]
                      refine jg_iinc (v := nI (wiF g.1 (g.2.2.2.1 x).2.2.2 a q + 1)) dX3_wishes_146 rfl (nI_1 (wiF g.1 (g.2.2.2.1 x).2.2.2 a q)) (by decide) rfl ?_
                      refine jg_iinc (v := nI (q + 1)) dX3_wishes_149 rfl (nI_1 q) (by decide) rfl ?_
                      refine jg_goto 103 dX3_wishes_152 (by decide) ?_
                      have ih2 := ih (q + 1) (by omega) (by omega)
                      rw [eW] at ih2
                      exact ih2
              exact jg_weak (gLe_s (gLe_s (gLe_s (gLe_s (gLe_s (gLe_s (gLe_n (gLe_s (gLe_s gLe_nil))))))))) (cut_103 (b + 1) 0 (by omega) (by omega))
            · have e9 : fWish g (nI x) l (nI a) (nI b) = (-1, wFt g 0) := by unfold fWish shk; rw [if_pos h_9, if_pos hc9, h22, cl_nI (show x < 2 ^ 31 by omega), if_pos h_55, if_neg h_72, cl_nI (show a < 2 ^ 31 by omega), cl_nI (show b < 2 ^ 31 by omega), if_neg (by rw [h_92]; decide)]
              refine jg_iconst (v := -1) dX3_wishes_95 (by decide) ?_
              exact jg_iret (rfl) dX3_wishes_96 ⟨_, rfl, ⟨by rw [e9], by rw [e9]; exact hI.ft 0, CF.rf.put (by omega)⟩⟩
          · have e9 : fWish g (nI x) l (nI a) (nI b) = (-3, wFt g 0) := by unfold fWish shk; rw [if_pos h_9, if_pos hc9, h22, cl_nI (show x < 2 ^ 31 by omega), if_pos h_55, if_pos h_72]
            refine jg_bipush (v := -3) dX3_wishes_75 (by decide) ?_
            exact jg_iret (rfl) dX3_wishes_77 ⟨_, rfl, ⟨by rw [e9], by rw [e9]; exact hI.ft 0, CF.rf.put (by omega)⟩⟩
        · have e9 : fWish g (nI x) l i (nI b) = (-10 - agF (g.2.2.2.1 x) l i (nI (2 * b)), wFt g (agF (g.2.2.2.1 x) l i (nI (2 * b)))) := by unfold fWish shk; rw [if_pos h_9, if_pos hc9, h22, cl_nI (show x < 2 ^ 31 by omega), if_neg h_55]
          refine jg_aload_n dX3_wishes_58 rfl rfl ?_
          refine jg_iload dX3_wishes_59 rfl ?_
          refine jg_callV (c3_failed E (s2 u 0 9 0) (agF (g.2.2.2.1 x) l i (nI (2 * b)))) me_X3_failed ml_X3_64 sh_0 rfl rfl (by decide) (by decide) rfl (Nat.le_of_ble_eq_true rfl) dX3_wishes_61 (kk_I (fun r_61 u_61 h_61 => ?_))
          obtain ⟨rfl, rfl⟩ := h_61
          rw [s2_s2]
          exact jg_iret (rfl) dX3_wishes_64 ⟨_, rfl, ⟨by rw [e9], by rw [e9]; exact hI.ft _, CF.rf.put (by omega)⟩⟩
      · have hc9 : ¬ (inR l 0 2 = true ∧ inR n 0 20 = true) := fun z => by rw [h_26] at z; exact absurd z.2 (by decide)
        refine jg_bipush (v := -2) dX3_wishes_29 (by decide) ?_
        have e9 : fWish g (nI x) l i n = (-2, wFt g 0) := by unfold fWish; rw [if_pos h_9, if_neg hc9]
        exact jg_iret (rfl) dX3_wishes_31 ⟨_, rfl, ⟨by rw [e9] <;> rfl, by rw [e9]; exact hI.ft 0, CF.rf.put (by omega)⟩⟩
  · refine jg_iconst (v := -1) dX3_wishes_12 (by decide) ?_
    have e9 : fWish g k l i n = (-1, wFt g 0) := by unfold fWish; rw [if_neg (by rw [h_9]; decide)]
    exact jg_iret (rfl) dX3_wishes_13 ⟨_, rfl, ⟨by rw [e9] <;> rfl, by rw [e9]; exact hI.ft 0, CF.rf.put (by omega)⟩⟩
set_option maxHeartbeats 4000000 in
set_option maxRecDepth 20000 in
theorem d4_wishes (E : gT) (u : Mm) (g : Gh) (hO : Ok g) (hI : InvM u g) (k l i n : Int32) : Con E yX4_wishes cX4_wishes 9 (some .int) 3 [.ref (E.2.1 57), .int k, .int l, .int i, .int n] u (kI (fun r u2 => r = (fWish g k l i n).1 ∧ InvM u2 (fWish g k l i n).2 ∧ RF u u2)) := by
  have hn := hO.1.1
  refine Con.of (lv := [some (.ref (E.2.1 57)), some (.int k), some (.int l), some (.int i), some (.int n), none, none, none, none]) (by decide +kernel) (Nat.le_of_ble_eq_true rfl) rfl ?_
  refine jg_aload_n dX4_wishes_0 rfl rfl ?_
  refine jg_iconst (v := 0) dX4_wishes_1 (by decide) ?_
  refine jg_puti fp_X4_76 sh_57 rfl dX4_wishes_2 ?_
  refine jg_iload_n dX4_wishes_5 rfl rfl ?_
  refine jg_callS (c4_isSheet E (s2 u 57 0 0) k) me_X4_isSheet ml_X4_92 rfl (by decide) (by decide) rfl (Nat.le_of_ble_eq_true rfl) dX4_wishes_6 (kk_I (fun r_6 u_6 h_6 => ?_))
  obtain ⟨rfl, rfl⟩ := h_6
  refine jb_if_ne 14 dX4_wishes_9 (by decide) (fun h_9 => ?_) (fun h_9 => ?_)
  · obtain ⟨x, hx, rfl⟩ := in4 h_9
    have hsx := shM_z hI hx 0
    have h60 := (hO.2.2.1 x hx).2
    refine jg_iload_n dX4_wishes_14 rfl rfl ?_
    refine jg_callS (c4_isSort E (s2 u 57 0 0) l) me_X4_isSort ml_X4_96 rfl (by decide) (by decide) rfl (Nat.le_of_ble_eq_true rfl) dX4_wishes_15 (kk_I (fun r_15 u_15 h_15 => ?_))
    obtain ⟨rfl, rfl⟩ := h_15
    refine jb_if_eq 32 dX4_wishes_18 (by decide) (fun h_18 => ?_) (fun h_18 => ?_)
    · have hc9 : ¬ (inR l 0 2 = true ∧ inR n 0 20 = true) := fun z => by rw [h_18] at z; exact absurd z.1 (by decide)
      refine jg_bipush (v := -2) dX4_wishes_32 (by decide) ?_
      have e9 : fWish g (nI x) l i n = (-2, wFt g 0) := by unfold fWish; rw [if_pos h_9, if_neg hc9]
      exact jg_iret (rfl) dX4_wishes_34 ⟨_, rfl, ⟨by rw [e9] <;> rfl, by rw [e9]; exact hI.ft 0, RF.rf.put (by omega)⟩⟩
    · refine jg_iload dX4_wishes_21 rfl ?_
      refine jg_iconst (v := 0) dX4_wishes_23 (by decide) ?_
      refine jg_bipush (v := 20) dX4_wishes_24 (by decide) ?_
      refine jg_callS (c4_within E (s2 u 57 0 0) n 0 20) me_X4_within ml_X4_82 rfl (by decide) (by decide) rfl (Nat.le_of_ble_eq_true rfl) dX4_wishes_26 (kk_I (fun r_26 u_26 h_26 => ?_))
      obtain ⟨rfl, rfl⟩ := h_26
      refine jb_if_ne 35 dX4_wishes_29 (by decide) (fun h_29 => ?_) (fun h_29 => ?_)
      · have hc9 : inR l 0 2 = true ∧ inR n 0 20 = true := ⟨h_18, h_29⟩
        obtain ⟨b, -, hb, rfl⟩ := inR_nat (lo := 0) (hi := 20) (by omega) h_29 (by omega)
        have h22 : (2 : Int32) * nI b = nI (2 * b) := pk_mul 2 b
        refine jg_aload_n dX4_wishes_35 rfl rfl ?_
        refine jg_iload_n dX4_wishes_36 rfl rfl ?_
        refine jg_iload_n dX4_wishes_37 rfl rfl ?_
        refine jg_iload_n dX4_wishes_38 rfl rfl ?_
        refine jg_iconst (v := 2) dX4_wishes_39 (by decide) ?_
        refine jg_iload dX4_wishes_40 rfl ?_
        refine jg_imulE (z := nI (2 * b)) dX4_wishes_42 (pk_mul 2 b) ?_
        refine jg_callV (c4_against E (s2 u 57 0 0) x hx (g.2.2.2.1 x) hsx (hO.2.2.1 x hx).1 l i (nI (2 * b))) me_X4_against ml_X4_99 sh_57 rfl rfl (by decide) (by decide) rfl (Nat.le_of_ble_eq_true rfl) dX4_wishes_43 (kk_I (fun r_43 u_43 h_43 => ?_))
        obtain ⟨rfl, rfl⟩ := h_43
        refine jg_istore dX4_wishes_46 (by decide) rfl ?_
        refine jg_iload dX4_wishes_48 rfl ?_
        refine jg_if_eq 60 dX4_wishes_50 (by decide) (fun h_50 => ?_) (fun h_50 => ?_)
        · obtain ⟨ht, hl, hh⟩ := agF_hc h_50
          obtain ⟨a, hab, rfl⟩ := hc_n h60 (by omega) hh
          refine jg_aload_n dX4_wishes_60 rfl rfl ?_
          refine jg_geti fk_X4_86 sh_57 rfl dX4_wishes_61 ?_
          refine jg_top (y := nI (pn g.1)) (by rw [s2_ne (by decide)]; exact hI.1.1) ?_
          refine jn_if_ne (pn g.1) rfl (by omega) 70 dX4_wishes_64 (by decide) (fun h_64 => ?_) (fun h_64 => ?_)
          · have hn := hO.1.1
            refine jg_bipush (v := 60) dX4_wishes_70 (by decide) ?_
            refine jg_iload_n dX4_wishes_72 rfl rfl ?_
            refine jg_imulE (z := nI (60 * x)) dX4_wishes_73 (pk_mul 60 x) ?_
            refine jg_iload_n dX4_wishes_74 rfl rfl ?_
            refine jg_iaddE (z := nI ((60 * x) + a)) dX4_wishes_75 (nI_add (60 * x) a) ?_
            refine jg_istore dX4_wishes_76 (by decide) rfl ?_
            refine jg_iconst (v := 0) dX4_wishes_78 (by decide) ?_
            refine jg_istore dX4_wishes_79 (by decide) rfl ?_
            have cut_81 : ∀ (m q : Nat), q ≤ 2 * b → 2 * b < q + m → alF (g.2.2.2.1 x).2.2.2 a (pn g.1) q = true → G E cX4_wishes 9 (yX4_wishes).cls (some .int) 3 (kI (fun r u2 => r = (fWish g (nI x) l (nI a) (nI b)).1 ∧ InvM u2 (fWish g (nI x) l (nI a) (nI b)).2 ∧ RF u u2)) 81 [some (.ref (E.2.1 57)), some (.int (nI x)), some (.int l), some (.int (nI a)), some (.int (nI b)), none, some (.int (nI (60 * x + a))), some (.int (nI q)), none] [] (s2 u 57 0 0) := by
              intro m
              induction m with
              | zero => intro q h1 h2; omega
              | succ m ih =>
                intro q hq hm hal
                refine jg_iload dX4_wishes_81 rfl ?_
                refine jg_iconst (v := 2) dX4_wishes_83 (by decide) ?_
                refine jg_iload dX4_wishes_84 rfl ?_
                refine jg_imulE (z := nI (2 * b)) dX4_wishes_86 (pk_mul 2 b) ?_
                refine jn_icmp_ge q (2 * b) rfl rfl (by omega) (by omega) 115 dX4_wishes_87 (by decide) (fun h_87 => ?_) (fun h_87 => ?_)
                · obtain rfl : q = 2 * b := by omega
                  have e9 : fWish g (nI x) l (nI a) (nI b) = (nI (wiF g.1 (g.2.2.2.1 x).2.2.2 a b), wFt g 0) := by unfold fWish shk; rw [if_pos h_9, if_pos hc9, h22, cl_nI (show x < 2 ^ 31 by omega), if_pos h_50, if_neg h_64, cl_nI (show a < 2 ^ 31 by omega), cl_nI (show b < 2 ^ 31 by omega), if_pos hal]
                  refine jg_aload_n dX4_wishes_115 rfl rfl ?_
                  refine jg_callV (c4_findPlaces E (s2 u 57 0 0) g.1 hO.1 (hI.1.rows (by rw [s2_ne (by decide)]) (fun k hk => s2_row (by omega))) (fun a ha => (hO.2.1 a ha).2)) me_X4_findPlaces ml_X4_164 sh_57 rfl rfl (by decide) (by decide) rfl (Nat.le_of_ble_eq_true rfl) dX4_wishes_116 (kk_V (fun u_116 h_116 => ?_))
                  obtain ⟨hF, hX⟩ := h_116
                  have hJ := (hI.ft 0).mf hF
                  have hs2 : ShM u_116 x (g.2.2.2.1 x) := hJ.2.2.2.1 x hx
                  refine jg_iconst (v := 0) dX4_wishes_119 (by decide) ?_
                  refine jg_istore dX4_wishes_120 (by decide) rfl ?_
                  refine jg_iconst (v := 0) dX4_wishes_122 (by decide) ?_
                  refine jg_istore dX4_wishes_123 (by decide) rfl ?_
                  have cut_125 : ∀ (m w : Nat), w ≤ b → b < w + m → G E cX4_wishes 9 (yX4_wishes).cls (some .int) 3 (kI (fun r u2 => r = (fWish g (nI x) l (nI a) (nI b)).1 ∧ InvM u2 (fWish g (nI x) l (nI a) (nI b)).2 ∧ RF u u2)) 125 [some (.ref (E.2.1 57)), some (.int (nI x)), some (.int l), some (.int (nI a)), some (.int (nI b)), none, some (.int (nI (60 * x + a))), some (.int (nI (wiF g.1 (g.2.2.2.1 x).2.2.2 a w))), some (.int (nI w))] [] u_116 := by
                    intro m
                    induction m with
                    | zero => intro w h1 h2; omega
                    | succ m ih2 =>
                      intro w hw hm
                      refine jg_iload dX4_wishes_125 rfl ?_
                      refine jg_iload dX4_wishes_127 rfl ?_
                      refine jn_icmp_ge w b rfl rfl (by omega) (by omega) 181 dX4_wishes_129 (by decide) (fun h_129 => ?_) (fun h_129 => ?_)
                      · obtain rfl : w = b := by omega
                        refine jg_iload dX4_wishes_181 rfl ?_
                        exact jg_iret (rfl) dX4_wishes_183 ⟨_, rfl, ⟨by rw [e9], by rw [e9]; exact hJ, (RF.rf.put (by omega)).tr hF.rf2⟩⟩
                      · obtain ⟨y1, hy1, ey1⟩ := inN_nat (by omega) (al_at _ hal (2 * w) (by omega))
                        obtain ⟨y2, hy2, ey2⟩ := inN_nat (by omega) (al_at _ hal (2 * w + 1) (by omega))
                        have hwq := wi_le g.1 (g.2.2.2.1 x).2.2.2 a w
                        refine jg_iload dX4_wishes_132 rfl ?_
                        refine jg_aload_n dX4_wishes_134 rfl rfl ?_
                        refine jg_aload_n dX4_wishes_135 rfl rfl ?_
                        refine jg_getr fk_X4_16 sh_57 rfl dX4_wishes_136 ?_
                        refine jg_iload dX4_wishes_139 rfl ?_
                        refine jg_iconst (v := 2) dX4_wishes_141 (by decide) ?_
                        refine jg_iload dX4_wishes_142 rfl ?_
                        refine jg_imulE (z := nI (2 * w)) dX4_wishes_144 (pk_mul 2 w) ?_
                        refine jg_iaddE (z := nI ((60 * x + a) + (2 * w))) dX4_wishes_145 (nI_add (60 * x + a) (2 * w)) ?_
                        refine jg_ld ((60 * x + a) + (2 * w)) sh_60 (by omega) (rfl) dX4_wishes_146 ?_
                        refine jg_top (y := nI y1) (by rw [show 60 * x + a + 2 * w = 60 * x + (a + 2 * w) by omega]; exact (hs2.2.2 (a + 2 * w) (by omega)).trans ey1) ?_
                        refine jg_aload_n dX4_wishes_147 rfl rfl ?_
                        refine jg_getr fk_X4_16 sh_57 rfl dX4_wishes_148 ?_
                        refine jg_iload dX4_wishes_151 rfl ?_
                        refine jg_iconst (v := 2) dX4_wishes_153 (by decide) ?_
                        refine jg_iload dX4_wishes_154 rfl ?_
                        refine jg_imulE (z := nI (2 * w)) dX4_wishes_156 (pk_mul 2 w) ?_
                        refine jg_iaddE (z := nI ((60 * x + a) + (2 * w))) dX4_wishes_157 (nI_add (60 * x + a) (2 * w)) ?_
                        refine jg_iconst (v := 1) dX4_wishes_158 (by decide) ?_
                        refine jg_iaddE (z := nI (((60 * x + a) + (2 * w)) + 1)) dX4_wishes_159 (nI_add ((60 * x + a) + (2 * w)) 1) ?_
                        refine jg_ld (((60 * x + a) + (2 * w)) + 1) sh_60 (by omega) (rfl) dX4_wishes_160 ?_
                        refine jg_top (y := nI y2) (by rw [show 60 * x + a + 2 * w + 1 = 60 * x + (a + 2 * w + 1) by omega]; exact (hs2.2.2 (a + 2 * w + 1) (by omega)).trans ey2) ?_
                        refine jg_callV (c4_doTouch E u_116 g.1 hO.1 hO.2.1 hJ.1 hX y1 y2 hy1 hy2) me_X4_doTouch ml_X4_155 sh_57 rfl rfl (by decide) (by decide) rfl (Nat.le_of_ble_eq_true rfl) dX4_wishes_161 (kk_I (fun r_161 u_161 h_161 => ?_))
                        obtain ⟨rfl, rfl⟩ := h_161
                        refine jb_if_eq 171 dX4_wishes_164 (by decide) (fun h_164 => ?_) (fun h_164 => ?_)
                        · have eW : wiF g.1 (g.2.2.2.1 x).2.2.2 a (w + 1) = wiF g.1 (g.2.2.2.1 x).2.2.2 a w + 0 := by show _ + (if _ then 1 else 0) = _; rw [ey1, show (g.2.2.2.1 x).2.2.2 (a + 2 * w + 1) = nI y2 from ey2, cl_nI (show y1 < 2 ^ 31 by omega), cl_nI (show y2 < 2 ^ 31 by omega), if_neg (by rw [h_164]; decide)]
                          refine jg_iconst (v := 0) dX4_wishes_171 (by decide) ?_
                          refine jg_iaddE (z := nI ((wiF g.1 (g.2.2.2.1 x).2.2.2 a w) + 0)) dX4_wishes_172 (nI_add (wiF g.1 (g.2.2.2.1 x).2.2.2 a w) 0) ?_
                          refine jg_istore dX4_wishes_173 (by decide) rfl ?_
                          refine jg_iinc (v := nI (w + 1)) dX4_wishes_175 rfl (nI_1 w) (by decide) rfl ?_
                          refine jg_goto 125 dX4_wishes_178 (by decide) ?_
                          have ih3 := ih2 (w + 1) (by omega) (by omega)
                          rw [eW] at ih3
                          exact ih3
                        · have eW : wiF g.1 (g.2.2.2.1 x).2.2.2 a (w + 1) = wiF g.1 (g.2.2.2.1 x).2.2.2 a w + 1 := by show _ + (if _ then 1 else 0) = _; rw [ey1, show (g.2.2.2.1 x).2.2.2 (a + 2 * w + 1) = nI y2 from ey2, cl_nI (show y1 < 2 ^ 31 by omega), cl_nI (show y2 < 2 ^ 31 by omega), if_pos h_164]
                          refine jg_iconst (v := 1) dX4_wishes_167 (by decide) ?_
                          refine jg_goto 172 dX4_wishes_168 (by decide) ?_
                          refine jg_iaddE (z := nI ((wiF g.1 (g.2.2.2.1 x).2.2.2 a w) + 1)) dX4_wishes_172 (nI_add (wiF g.1 (g.2.2.2.1 x).2.2.2 a w) 1) ?_
                          refine jg_istore dX4_wishes_173 (by decide) rfl ?_
                          refine jg_iinc (v := nI (w + 1)) dX4_wishes_175 rfl (nI_1 w) (by decide) rfl ?_
                          refine jg_goto 125 dX4_wishes_178 (by decide) ?_
                          have ih3 := ih2 (w + 1) (by omega) (by omega)
                          rw [eW] at ih3
                          exact ih3
                  exact cut_125 (b + 1) 0 (by omega) (by omega)
                · refine jg_aload_n dX4_wishes_90 rfl rfl ?_
                  refine jg_aload_n dX4_wishes_91 rfl rfl ?_
                  refine jg_getr fk_X4_16 sh_57 rfl dX4_wishes_92 ?_
                  refine jg_iload dX4_wishes_95 rfl ?_
                  refine jg_iload dX4_wishes_97 rfl ?_
                  refine jg_iaddE (z := nI ((60 * x + a) + q)) dX4_wishes_99 (nI_add (60 * x + a) q) ?_
                  refine jg_ld ((60 * x + a) + q) sh_60 (by omega) (rfl) dX4_wishes_100 ?_
                  refine jg_top (y := (g.2.2.2.1 x).2.2.2 (a + q)) (by rw [show 60 * x + a + q = 60 * x + (a + q) by omega]; exact hsx.2.2 (a + q) (by omega)) ?_
                  refine jg_callV (c4_isArea E (s2 u 57 0 0) ((g.2.2.2.1 x).2.2.2 (a + q))) me_X4_isArea ml_X4_173 sh_57 rfl rfl (by decide) (by decide) rfl (Nat.le_of_ble_eq_true rfl) dX4_wishes_101 (kk_I (fun r_101 u_101 h_101 => ?_))
                  obtain ⟨rfl, rfl⟩ := h_101
                  refine jg_top (y := bI (inN ((g.2.2.2.1 x).2.2.2 (a + q)) (nI (pn g.1)))) (congrArg (fun z => bI (inN ((g.2.2.2.1 x).2.2.2 (a + q)) z)) (by rw [s2_ne (by decide)]; exact hI.1.1)) ?_
                  refine jb_if_ne 109 dX4_wishes_104 (by decide) (fun h_104 => ?_) (fun h_104 => ?_)
                  · have ea : alF (g.2.2.2.1 x).2.2.2 a (pn g.1) (q + 1) = true := by show (alF _ _ _ q && _) = true; rw [hal, h_104]; rfl
                    refine jg_iinc (v := nI (q + 1)) dX4_wishes_109 rfl (nI_1 q) (by decide) rfl ?_
                    refine jg_goto 81 dX4_wishes_112 (by decide) ?_
                    exact ih (q + 1) (by omega) (by omega) ea
                  · have ea := al_no h_104 (2 * b) h_87
                    have e9 : fWish g (nI x) l (nI a) (nI b) = (-1, wFt g 0) := by unfold fWish shk; rw [if_pos h_9, if_pos hc9, h22, cl_nI (show x < 2 ^ 31 by omega), if_pos h_50, if_neg h_64, cl_nI (show a < 2 ^ 31 by omega), cl_nI (show b < 2 ^ 31 by omega), if_neg (by rw [ea]; decide)]
                    refine jg_iconst (v := -1) dX4_wishes_107 (by decide) ?_
                    exact jg_iret (rfl) dX4_wishes_108 ⟨_, rfl, ⟨by rw [e9], by rw [e9]; exact hI.ft 0, RF.rf.put (by omega)⟩⟩
            exact jg_weak (gLe_s (gLe_s (gLe_s (gLe_s (gLe_s (gLe_n (gLe_s (gLe_s (gLe_n gLe_nil))))))))) (cut_81 (2 * b + 1) 0 (by omega) (by omega) rfl)
          · have e9 : fWish g (nI x) l (nI a) (nI b) = (-3, wFt g 0) := by unfold fWish shk; rw [if_pos h_9, if_pos hc9, h22, cl_nI (show x < 2 ^ 31 by omega), if_pos h_50, if_pos h_64]
            refine jg_bipush (v := -3) dX4_wishes_67 (by decide) ?_
            exact jg_iret (rfl) dX4_wishes_69 ⟨_, rfl, ⟨by rw [e9], by rw [e9]; exact hI.ft 0, RF.rf.put (by omega)⟩⟩
        · have e9 : fWish g (nI x) l i (nI b) = (-10 - agF (g.2.2.2.1 x) l i (nI (2 * b)), wFt g (agF (g.2.2.2.1 x) l i (nI (2 * b)))) := by unfold fWish shk; rw [if_pos h_9, if_pos hc9, h22, cl_nI (show x < 2 ^ 31 by omega), if_neg h_50]
          refine jg_aload_n dX4_wishes_53 rfl rfl ?_
          refine jg_iload dX4_wishes_54 rfl ?_
          refine jg_callV (c4_fails E (s2 u 57 0 0) (agF (g.2.2.2.1 x) l i (nI (2 * b)))) me_X4_fails ml_X4_103 sh_57 rfl rfl (by decide) (by decide) rfl (Nat.le_of_ble_eq_true rfl) dX4_wishes_56 (kk_I (fun r_56 u_56 h_56 => ?_))
          obtain ⟨rfl, rfl⟩ := h_56
          rw [s2_s2]
          exact jg_iret (rfl) dX4_wishes_59 ⟨_, rfl, ⟨by rw [e9], by rw [e9]; exact hI.ft _, RF.rf.put (by omega)⟩⟩
      · have hc9 : ¬ (inR l 0 2 = true ∧ inR n 0 20 = true) := fun z => by rw [h_29] at z; exact absurd z.2 (by decide)
        refine jg_bipush (v := -2) dX4_wishes_32 (by decide) ?_
        have e9 : fWish g (nI x) l i n = (-2, wFt g 0) := by unfold fWish; rw [if_pos h_9, if_neg hc9]
        exact jg_iret (rfl) dX4_wishes_34 ⟨_, rfl, ⟨by rw [e9] <;> rfl, by rw [e9]; exact hI.ft 0, RF.rf.put (by omega)⟩⟩
  · refine jg_iconst (v := -1) dX4_wishes_12 (by decide) ?_
    have e9 : fWish g k l i n = (-1, wFt g 0) := by unfold fWish; rw [if_neg (by rw [h_9]; decide)]
    exact jg_iret (rfl) dX4_wishes_13 ⟨_, rfl, ⟨by rw [e9] <;> rfl, by rw [e9]; exact hI.ft 0, RF.rf.put (by omega)⟩⟩
