set_option maxHeartbeats 4000000 in
set_option maxRecDepth 20000 in
theorem c4_heightOf (E : gT) (u : Mm) (p : Pic) (hp : PicOk p) (hM : MdB u p) (a : Nat) (ha : a < pn p) (h1 : 1 ≤ p 3 a) : Con E yX4_heightOf cX4_heightOf 3 (some .int) 0 [.ref (E.2.1 57), .int (nI a)] u (kI (fun r u2 => r = nI (hgF p a) ∧ u = u2)) := by
  have hn := hp.1
  have hk := hp.2.1 a ha
  refine Con.of (lv := [some (.ref (E.2.1 57)), some (.int (nI a)), none]) (by decide +kernel) (Nat.le_of_ble_eq_true rfl) rfl ?_
  refine jg_aload_n dX4_heightOf_0 rfl rfl ?_
  refine jg_getr fk_X4_19 sh_57 rfl dX4_heightOf_1 ?_
  refine jg_iload_n dX4_heightOf_4 rfl rfl ?_
  refine jg_ld a sh_61 (by omega) (rfl) dX4_heightOf_5 ?_
  refine jg_top (y := nI (p 1 a)) ((hM.2 a ha).1) ?_
  refine jn_if_ne (p 1 a) rfl (by omega) 18 dX4_heightOf_6 (by decide) (fun h_6 => ?_) (fun h_6 => ?_)
  · refine jg_aload_n dX4_heightOf_18 rfl rfl ?_
    refine jg_getr fk_X4_19 sh_57 rfl dX4_heightOf_19 ?_
    refine jg_iload_n dX4_heightOf_22 rfl rfl ?_
    refine jg_ld a sh_61 (by omega) (rfl) dX4_heightOf_23 ?_
    refine jg_top (y := nI (p 1 a)) ((hM.2 a ha).1) ?_
    refine jg_iconst (v := 1) dX4_heightOf_24 (by decide) ?_
    refine jn_icmp_ne (p 1 a) 1 rfl rfl (by omega) (by omega) 39 dX4_heightOf_25 (by decide) (fun h_25 => ?_) (fun h_25 => ?_)
    · have es : szF p a = 2 * p 2 a := by simp [szF, show p 1 a = 2 by omega]
      refine jg_iconst (v := 2) dX4_heightOf_39 (by decide) ?_
      refine jg_aload_n dX4_heightOf_40 rfl rfl ?_
      refine jg_getr fk_X4_22 sh_57 rfl dX4_heightOf_41 ?_
      refine jg_iload_n dX4_heightOf_44 rfl rfl ?_
      refine jg_ld a sh_62 (by omega) (rfl) dX4_heightOf_45 ?_
      refine jg_top (y := nI (p 2 a)) ((hM.2 a ha).2.1) ?_
      refine jg_imulE (z := nI (2 * (p 2 a))) dX4_heightOf_46 (pk_mul 2 (p 2 a)) ?_
      refine jg_istore_n dX4_heightOf_47 rfl (by decide) rfl ?_
      refine jg_iload_n dX4_heightOf_48 rfl rfl ?_
      refine jg_aload_n dX4_heightOf_49 rfl rfl ?_
      refine jg_getr fk_X4_25 sh_57 rfl dX4_heightOf_50 ?_
      refine jg_iload_n dX4_heightOf_53 rfl rfl ?_
      refine jg_ld a sh_63 (by omega) (rfl) dX4_heightOf_54 ?_
      refine jg_top (y := nI (p 3 a)) ((hM.2 a ha).2.2.1) ?_
      refine jg_iaddE (z := nI ((2 * (p 2 a)) + (p 3 a))) dX4_heightOf_55 (nI_add (2 * (p 2 a)) (p 3 a)) ?_
      refine jg_iconst (v := 1) dX4_heightOf_56 (by decide) ?_
      refine jg_isubE (z := nI ((2 * (p 2 a)) + p 3 a - 1)) dX4_heightOf_57 (pk_sub (a := (2 * (p 2 a)) + p 3 a) (b := 1) (by omega)) ?_
      refine jg_aload_n dX4_heightOf_58 rfl rfl ?_
      refine jg_getr fk_X4_25 sh_57 rfl dX4_heightOf_59 ?_
      refine jg_iload_n dX4_heightOf_62 rfl rfl ?_
      refine jg_ld a sh_63 (by omega) (rfl) dX4_heightOf_63 ?_
      refine jg_top (y := nI (p 3 a)) ((hM.2 a ha).2.2.1) ?_
      refine jg_idivE (z := nI (hgF p a)) dX4_heightOf_64 (nI_ne0 (by omega) (by omega)) (by unfold hgF; rw [es]; exact pk_div (by omega) (by omega) (by omega)) ?_
      exact jg_iret (rfl) dX4_heightOf_65 ⟨_, rfl, ⟨rfl, rfl⟩⟩
    · have es : szF p a = p 2 a + 1 := by simp [szF, h_25]
      refine jg_aload_n dX4_heightOf_28 rfl rfl ?_
      refine jg_getr fk_X4_22 sh_57 rfl dX4_heightOf_29 ?_
      refine jg_iload_n dX4_heightOf_32 rfl rfl ?_
      refine jg_ld a sh_62 (by omega) (rfl) dX4_heightOf_33 ?_
      refine jg_top (y := nI (p 2 a)) ((hM.2 a ha).2.1) ?_
      refine jg_iconst (v := 1) dX4_heightOf_34 (by decide) ?_
      refine jg_iaddE (z := nI ((p 2 a) + 1)) dX4_heightOf_35 (nI_add (p 2 a) 1) ?_
      refine jg_goto 47 dX4_heightOf_36 (by decide) ?_
      refine jg_istore_n dX4_heightOf_47 rfl (by decide) rfl ?_
      refine jg_iload_n dX4_heightOf_48 rfl rfl ?_
      refine jg_aload_n dX4_heightOf_49 rfl rfl ?_
      refine jg_getr fk_X4_25 sh_57 rfl dX4_heightOf_50 ?_
      refine jg_iload_n dX4_heightOf_53 rfl rfl ?_
      refine jg_ld a sh_63 (by omega) (rfl) dX4_heightOf_54 ?_
      refine jg_top (y := nI (p 3 a)) ((hM.2 a ha).2.2.1) ?_
      refine jg_iaddE (z := nI (((p 2 a) + 1) + (p 3 a))) dX4_heightOf_55 (nI_add ((p 2 a) + 1) (p 3 a)) ?_
      refine jg_iconst (v := 1) dX4_heightOf_56 (by decide) ?_
      refine jg_isubE (z := nI (((p 2 a) + 1) + p 3 a - 1)) dX4_heightOf_57 (pk_sub (a := ((p 2 a) + 1) + p 3 a) (b := 1) (by omega)) ?_
      refine jg_aload_n dX4_heightOf_58 rfl rfl ?_
      refine jg_getr fk_X4_25 sh_57 rfl dX4_heightOf_59 ?_
      refine jg_iload_n dX4_heightOf_62 rfl rfl ?_
      refine jg_ld a sh_63 (by omega) (rfl) dX4_heightOf_63 ?_
      refine jg_top (y := nI (p 3 a)) ((hM.2 a ha).2.2.1) ?_
      refine jg_idivE (z := nI (hgF p a)) dX4_heightOf_64 (nI_ne0 (by omega) (by omega)) (by unfold hgF; rw [es]; exact pk_div (by omega) (by omega) (by omega)) ?_
      exact jg_iret (rfl) dX4_heightOf_65 ⟨_, rfl, ⟨rfl, rfl⟩⟩
  · have es : szF p a = p 2 a := by simp [szF, h_6]
    refine jg_aload_n dX4_heightOf_9 rfl rfl ?_
    refine jg_getr fk_X4_22 sh_57 rfl dX4_heightOf_10 ?_
    refine jg_iload_n dX4_heightOf_13 rfl rfl ?_
    refine jg_ld a sh_62 (by omega) (rfl) dX4_heightOf_14 ?_
    refine jg_top (y := nI (p 2 a)) ((hM.2 a ha).2.1) ?_
    refine jg_goto 47 dX4_heightOf_15 (by decide) ?_
    refine jg_istore_n dX4_heightOf_47 rfl (by decide) rfl ?_
    refine jg_iload_n dX4_heightOf_48 rfl rfl ?_
    refine jg_aload_n dX4_heightOf_49 rfl rfl ?_
    refine jg_getr fk_X4_25 sh_57 rfl dX4_heightOf_50 ?_
    refine jg_iload_n dX4_heightOf_53 rfl rfl ?_
    refine jg_ld a sh_63 (by omega) (rfl) dX4_heightOf_54 ?_
    refine jg_top (y := nI (p 3 a)) ((hM.2 a ha).2.2.1) ?_
    refine jg_iaddE (z := nI ((p 2 a) + (p 3 a))) dX4_heightOf_55 (nI_add (p 2 a) (p 3 a)) ?_
    refine jg_iconst (v := 1) dX4_heightOf_56 (by decide) ?_
    refine jg_isubE (z := nI ((p 2 a) + p 3 a - 1)) dX4_heightOf_57 (pk_sub (a := (p 2 a) + p 3 a) (b := 1) (by omega)) ?_
    refine jg_aload_n dX4_heightOf_58 rfl rfl ?_
    refine jg_getr fk_X4_25 sh_57 rfl dX4_heightOf_59 ?_
    refine jg_iload_n dX4_heightOf_62 rfl rfl ?_
    refine jg_ld a sh_63 (by omega) (rfl) dX4_heightOf_63 ?_
    refine jg_top (y := nI (p 3 a)) ((hM.2 a ha).2.2.1) ?_
    refine jg_idivE (z := nI (hgF p a)) dX4_heightOf_64 (nI_ne0 (by omega) (by omega)) (by unfold hgF; rw [es]; exact pk_div (by omega) (by omega) (by omega)) ?_
    exact jg_iret (rfl) dX4_heightOf_65 ⟨_, rfl, ⟨rfl, rfl⟩⟩
set_option maxHeartbeats 4000000 in
set_option maxRecDepth 20000 in
theorem c4_findBreadth (E : gT) (u : Mm) (p : Pic) (hp : PicOk p) (hM : MdB u p) (h73 : ∀ a, a < pn p → u 73 a = nI (p1F p a)) : Con E yX4_findBreadth cX4_findBreadth 5 none 0 [.ref (E.2.1 57)] u (kV (fun u2 => BF u u2 ∧ (∀ a, a < pn p → u2 71 a = nI (xF p a)) ∧ u2 57 22 = nI (brP p))) := by
  have hn := hp.1
  refine Con.of (lv := [some (.ref (E.2.1 57)), none, none, none, none]) (by decide +kernel) (Nat.le_of_ble_eq_true rfl) rfl ?_
  refine jg_aload_n dX4_findBreadth_0 rfl rfl ?_
  refine jg_iconst (v := 0) dX4_findBreadth_1 (by decide) ?_
  refine jg_puti fp_X4_136 sh_57 rfl dX4_findBreadth_2 ?_
  refine jg_iconst (v := 0) dX4_findBreadth_5 (by decide) ?_
  refine jg_istore_n dX4_findBreadth_6 rfl (by decide) rfl ?_
  have cut_7 : ∀ (m i : Nat) (v : Mm), i ≤ pn p → pn p < i + m → BF u v → (∀ q, q < i → v 71 (p 6 q) = nI (xF p (p 6 q))) → v 57 22 = nI (brF (p 3) (p 6) (xF p) i) → G E cX4_findBreadth 5 (yX4_findBreadth).cls none 0 (kV (fun u2 => BF u u2 ∧ (∀ a, a < pn p → u2 71 a = nI (xF p a)) ∧ u2 57 22 = nI (brP p))) 7 [some (.ref (E.2.1 57)), some (.int (nI i)), none, none, none] [] v := by
    intro m
    induction m with
    | zero => intro i v h1 h2; omega
    | succ m ih =>
      intro i v hi hm hF hq0 hbr
      refine jg_iload_n dX4_findBreadth_7 rfl rfl ?_
      refine jg_aload_n dX4_findBreadth_8 rfl rfl ?_
      refine jg_geti fk_X4_86 sh_57 rfl dX4_findBreadth_9 ?_
      refine jg_top (y := nI (pn p)) ((hF.2 5 (by decide)).trans hM.1) ?_
      refine jn_icmp_ge i (pn p) rfl rfl (by omega) (by omega) 170 dX4_findBreadth_12 (by decide) (fun h_12 => ?_) (fun h_12 => ?_)
      · obtain rfl : i = pn p := by omega
        exact jg_vret dX4_findBreadth_170 ⟨rfl, ⟨hF, fun a ha => by obtain ⟨k, hk, rfl⟩ := hp.2.2.1.2.2 a ha; exact hq0 k hk, hbr⟩⟩
      · have h6 := hp.2.2.1.1 i h_12
        have bi : p1F p (p 6 i) < pn p := inv_lt hp.2.2.2 h6
        have hB1 := hM.fr hF.mf
        refine jg_aload_n dX4_findBreadth_15 rfl rfl ?_
        refine jg_getr fk_X4_31 sh_57 rfl dX4_findBreadth_16 ?_
        refine jg_iload_n dX4_findBreadth_19 rfl rfl ?_
        refine jg_ld i sh_65 (by omega) (rfl) dX4_findBreadth_20 ?_
        refine jg_top (y := nI (p 6 i)) ((hB1.2 i h_12).2.2.2.1) ?_
        refine jg_istore_n dX4_findBreadth_21 rfl (by decide) rfl ?_
        refine jg_aload_n dX4_findBreadth_22 rfl rfl ?_
        refine jg_getr fk_X4_49 sh_57 rfl dX4_findBreadth_23 ?_
        refine jg_iload_n dX4_findBreadth_26 rfl rfl ?_
        refine jg_iconst (v := 0) dX4_findBreadth_27 (by decide) ?_
        refine jg_st (p 6 i) sh_71 (by omega) (rfl) dX4_findBreadth_28 ?_
        refine jg_iconst (v := 0) dX4_findBreadth_29 (by decide) ?_
        refine jg_istore_n dX4_findBreadth_30 rfl (by decide) rfl ?_
        have cut_31 : ∀ (m2 q : Nat) (v2 : Mm), q ≤ i → i < q + m2 → BF u v2 → (∀ a, a < i → v2 71 (p 6 a) = nI (xF p (p 6 a))) → v2 71 (p 6 i) = nI (mF (cX p) (p 3) (p 6) (xF p) (p 6 i) q) → v2 57 22 = nI (brF (p 3) (p 6) (xF p) i) → G E cX4_findBreadth 5 (yX4_findBreadth).cls none 0 (kV (fun u2 => BF u u2 ∧ (∀ a, a < pn p → u2 71 a = nI (xF p a)) ∧ u2 57 22 = nI (brP p))) 31 [some (.ref (E.2.1 57)), some (.int (nI i)), some (.int (nI (p 6 i))), some (.int (nI q)), none] [] v2 := by
          intro m2
          induction m2 with
          | zero => intro q v2 h1 h2; omega
          | succ m2 ih2 =>
            intro q v2 hq hm2 hF2 hq2 hcur hbr2
            refine jg_iload_n dX4_findBreadth_31 rfl rfl ?_
            refine jg_iload_n dX4_findBreadth_32 rfl rfl ?_
            refine jn_icmp_ge q i rfl rfl (by omega) (by omega) 120 dX4_findBreadth_33 (by decide) (fun h_33 => ?_) (fun h_33 => ?_)
            · obtain rfl : i = q := by omega
              have bxi : mF (cX p) (p 3) (p 6) (xF p) (p 6 i) i ≤ 63 := mF_le i (fun a ha => by have := xF_le hp (hp.2.2.1.1 a (by omega)); have := (hp.2.1 _ (hp.2.2.1.1 a (by omega))).2.2; omega)
              have bbr : brF (p 3) (p 6) (xF p) i ≤ 63 := brF_le i (fun a ha => by have := xF_le hp (hp.2.2.1.1 a (by omega)); have := (hp.2.1 _ (hp.2.2.1.1 a (by omega))).2.2; omega)
              have bwi := (hp.2.1 _ (hp.2.2.1.1 i (by omega))).2.2
              have eXi : xF p (p 6 i) = mF (cX p) (p 3) (p 6) (xF p) (p 6 i) i := xF_eq hp h_12
              have hB2 := hM.fr hF2.mf
              refine jg_aload_n dX4_findBreadth_120 rfl rfl ?_
              refine jg_aload_n dX4_findBreadth_121 rfl rfl ?_
              refine jg_getr fk_X4_49 sh_57 rfl dX4_findBreadth_122 ?_
              refine jg_iload_n dX4_findBreadth_125 rfl rfl ?_
              refine jg_ld (p 6 i) sh_71 (by omega) (rfl) dX4_findBreadth_126 ?_
              refine jg_top (y := nI (mF (cX p) (p 3) (p 6) (xF p) (p 6 i) i)) (hcur) ?_
              refine jg_aload_n dX4_findBreadth_127 rfl rfl ?_
              refine jg_getr fk_X4_25 sh_57 rfl dX4_findBreadth_128 ?_
              refine jg_iload_n dX4_findBreadth_131 rfl rfl ?_
              refine jg_ld (p 6 i) sh_63 (by omega) (rfl) dX4_findBreadth_132 ?_
              refine jg_top (y := nI (p 3 (p 6 i))) ((hB2.2 _ h6).2.2.1) ?_
              refine jg_iaddE (z := nI ((mF (cX p) (p 3) (p 6) (xF p) (p 6 i) i) + (p 3 (p 6 i)))) dX4_findBreadth_133 (nI_add (mF (cX p) (p 3) (p 6) (xF p) (p 6 i) i) (p 3 (p 6 i))) ?_
              refine jg_aload_n dX4_findBreadth_134 rfl rfl ?_
              refine jg_geti fk_X4_136 sh_57 rfl dX4_findBreadth_135 ?_
              refine jg_top (y := nI (brF (p 3) (p 6) (xF p) i)) (hbr2) ?_
              refine jn_icmp_le ((mF (cX p) (p 3) (p 6) (xF p) (p 6 i) i) + (p 3 (p 6 i))) (brF (p 3) (p 6) (xF p) i) rfl rfl (by omega) (by omega) 157 dX4_findBreadth_138 (by decide) (fun h_138 => ?_) (fun h_138 => ?_)
              · have eB : brF (p 3) (p 6) (xF p) (i + 1) = brF (p 3) (p 6) (xF p) i := by show max _ _ = _; rw [eXi]; omega
                refine jg_aload_n dX4_findBreadth_157 rfl rfl ?_
                refine jg_geti fk_X4_136 sh_57 rfl dX4_findBreadth_158 ?_
                refine jg_top (y := nI (brF (p 3) (p 6) (xF p) i)) (hbr2) ?_
                refine jg_puti fp_X4_136 sh_57 rfl dX4_findBreadth_161 ?_
                refine jg_iinc (v := nI (i + 1)) dX4_findBreadth_164 rfl (nI_1 i) (by decide) rfl ?_
                refine jg_goto 7 dX4_findBreadth_167 (by decide) ?_
                have hq3 : ∀ q, q < i + 1 → v2 71 (p 6 q) = nI (xF p (p 6 q)) := fun q hq => by by_cases e : q = i; (subst e; rw [eXi]; exact hcur); exact hq2 q (by omega)
                exact jg_weak (gLe_s (gLe_s (gLe_n (gLe_n (gLe_n gLe_nil))))) (ih (i + 1) _ (by omega) (by omega) hF2.fld (fun q hq => by rw [s2_row (by decide)]; exact hq3 q hq) (by rw [s2_self, eB]))
              · have eB : brF (p 3) (p 6) (xF p) (i + 1) = mF (cX p) (p 3) (p 6) (xF p) (p 6 i) i + p 3 (p 6 i) := by show max _ _ = _; rw [eXi]; omega
                refine jg_aload_n dX4_findBreadth_141 rfl rfl ?_
                refine jg_getr fk_X4_49 sh_57 rfl dX4_findBreadth_142 ?_
                refine jg_iload_n dX4_findBreadth_145 rfl rfl ?_
                refine jg_ld (p 6 i) sh_71 (by omega) (rfl) dX4_findBreadth_146 ?_
                refine jg_top (y := nI (mF (cX p) (p 3) (p 6) (xF p) (p 6 i) i)) (hcur) ?_
                refine jg_aload_n dX4_findBreadth_147 rfl rfl ?_
                refine jg_getr fk_X4_25 sh_57 rfl dX4_findBreadth_148 ?_
                refine jg_iload_n dX4_findBreadth_151 rfl rfl ?_
                refine jg_ld (p 6 i) sh_63 (by omega) (rfl) dX4_findBreadth_152 ?_
                refine jg_top (y := nI (p 3 (p 6 i))) ((hB2.2 _ h6).2.2.1) ?_
                refine jg_iaddE (z := nI ((mF (cX p) (p 3) (p 6) (xF p) (p 6 i) i) + (p 3 (p 6 i)))) dX4_findBreadth_153 (nI_add (mF (cX p) (p 3) (p 6) (xF p) (p 6 i) i) (p 3 (p 6 i))) ?_
                refine jg_goto 161 dX4_findBreadth_154 (by decide) ?_
                refine jg_puti fp_X4_136 sh_57 rfl dX4_findBreadth_161 ?_
                refine jg_iinc (v := nI (i + 1)) dX4_findBreadth_164 rfl (nI_1 i) (by decide) rfl ?_
                refine jg_goto 7 dX4_findBreadth_167 (by decide) ?_
                have hq3 : ∀ q, q < i + 1 → v2 71 (p 6 q) = nI (xF p (p 6 q)) := fun q hq => by by_cases e : q = i; (subst e; rw [eXi]; exact hcur); exact hq2 q (by omega)
                exact jg_weak (gLe_s (gLe_s (gLe_n (gLe_n (gLe_n gLe_nil))))) (ih (i + 1) _ (by omega) (by omega) hF2.fld (fun q hq => by rw [s2_row (by decide)]; exact hq3 q hq) (by rw [s2_self, eB]))
            · have hq6 := hp.2.2.1.1 q (by omega)
              have b1 : p1F p (p 6 q) < pn p := inv_lt hp.2.2.2 hq6
              have bx := xF_le hp hq6
              have bw := (hp.2.1 _ (hp.2.2.1.1 q (by omega))).2.2
              have bm : mF (cX p) (p 3) (p 6) (xF p) (p 6 i) q ≤ 63 := mF_le q (fun a ha => by have := xF_le hp (hp.2.2.1.1 a (by omega)); have := (hp.2.1 _ (hp.2.2.1.1 a (by omega))).2.2; omega)
              have hB2 := hM.fr hF2.mf
              refine jg_aload_n dX4_findBreadth_36 rfl rfl ?_
              refine jg_getr fk_X4_31 sh_57 rfl dX4_findBreadth_37 ?_
              refine jg_iload_n dX4_findBreadth_40 rfl rfl ?_
              refine jg_ld q sh_65 (by omega) (rfl) dX4_findBreadth_41 ?_
              refine jg_top (y := nI (p 6 q)) ((hB2.2 q (by omega)).2.2.2.1) ?_
              refine jg_istore dX4_findBreadth_42 (by decide) rfl ?_
              refine jg_aload_n dX4_findBreadth_44 rfl rfl ?_
              refine jg_getr fk_X4_49 sh_57 rfl dX4_findBreadth_45 ?_
              refine jg_iload_n dX4_findBreadth_48 rfl rfl ?_
              refine jg_aload_n dX4_findBreadth_49 rfl rfl ?_
              refine jg_getr fk_X4_55 sh_57 rfl dX4_findBreadth_50 ?_
              refine jg_iload dX4_findBreadth_53 rfl ?_
              refine jg_ld (p 6 q) sh_73 (by omega) (rfl) dX4_findBreadth_55 ?_
              refine jg_top (y := nI (p1F p (p 6 q))) (by rw [hF2.1 73 (by decide) (by decide)]; exact h73 _ hq6) ?_
              refine jg_aload_n dX4_findBreadth_56 rfl rfl ?_
              refine jg_getr fk_X4_55 sh_57 rfl dX4_findBreadth_57 ?_
              refine jg_iload_n dX4_findBreadth_60 rfl rfl ?_
              refine jg_ld (p 6 i) sh_73 (by omega) (rfl) dX4_findBreadth_61 ?_
              refine jg_top (y := nI (p1F p (p 6 i))) (by rw [hF2.1 73 (by decide) (by decide)]; exact h73 _ h6) ?_
              refine jn_icmp_ge (p1F p (p 6 q)) (p1F p (p 6 i)) rfl rfl (by omega) (by omega) 107 dX4_findBreadth_62 (by decide) (fun h_62 => ?_) (fun h_62 => ?_)
              · have eM : mF (cX p) (p 3) (p 6) (xF p) (p 6 i) (q + 1) = mF (cX p) (p 3) (p 6) (xF p) (p 6 i) q := by show (if _ then _ else _) = _; rw [if_neg (by simp only [cX, decide_eq_true_eq]; omega)]
                refine jg_aload_n dX4_findBreadth_107 rfl rfl ?_
                refine jg_getr fk_X4_49 sh_57 rfl dX4_findBreadth_108 ?_
                refine jg_iload_n dX4_findBreadth_111 rfl rfl ?_
                refine jg_ld (p 6 i) sh_71 (by omega) (rfl) dX4_findBreadth_112 ?_
                refine jg_top (y := nI (mF (cX p) (p 3) (p 6) (xF p) (p 6 i) q)) (hcur) ?_
                refine jg_st (p 6 i) sh_71 (by omega) (rfl) dX4_findBreadth_113 ?_
                refine jg_iinc (v := nI (q + 1)) dX4_findBreadth_114 rfl (nI_1 q) (by decide) rfl ?_
                refine jg_goto 31 dX4_findBreadth_117 (by decide) ?_
                exact jg_weak (gLe_s (gLe_s (gLe_s (gLe_s (gLe_n gLe_nil))))) (ih2 (q + 1) _ (by omega) (by omega) hF2.row (fun a ha => by rw [s2_ne (fun z => by have := hp.2.2.1.2.1 a i (by omega) h_12 z; omega)]; exact hq2 a ha) (by rw [s2_self, eM]) (by rw [s2_row (by decide)]; exact hbr2))
              · have eM0 : mF (cX p) (p 3) (p 6) (xF p) (p 6 i) (q + 1) = max (mF (cX p) (p 3) (p 6) (xF p) (p 6 i) q) (xF p (p 6 q) + p 3 (p 6 q)) := by show (if _ then _ else _) = _; rw [if_pos (by simp only [cX, decide_eq_true_eq]; omega)]
                refine jg_aload_n dX4_findBreadth_65 rfl rfl ?_
                refine jg_getr fk_X4_49 sh_57 rfl dX4_findBreadth_66 ?_
                refine jg_iload dX4_findBreadth_69 rfl ?_
                refine jg_ld (p 6 q) sh_71 (by omega) (rfl) dX4_findBreadth_71 ?_
                refine jg_top (y := nI (xF p (p 6 q))) (hq2 q (by omega)) ?_
                refine jg_aload_n dX4_findBreadth_72 rfl rfl ?_
                refine jg_getr fk_X4_25 sh_57 rfl dX4_findBreadth_73 ?_
                refine jg_iload dX4_findBreadth_76 rfl ?_
                refine jg_ld (p 6 q) sh_63 (by omega) (rfl) dX4_findBreadth_78 ?_
                refine jg_top (y := nI (p 3 (p 6 q))) ((hB2.2 _ hq6).2.2.1) ?_
                refine jg_iaddE (z := nI ((xF p (p 6 q)) + (p 3 (p 6 q)))) dX4_findBreadth_79 (nI_add (xF p (p 6 q)) (p 3 (p 6 q))) ?_
                refine jg_aload_n dX4_findBreadth_80 rfl rfl ?_
                refine jg_getr fk_X4_49 sh_57 rfl dX4_findBreadth_81 ?_
                refine jg_iload_n dX4_findBreadth_84 rfl rfl ?_
                refine jg_ld (p 6 i) sh_71 (by omega) (rfl) dX4_findBreadth_85 ?_
                refine jg_top (y := nI (mF (cX p) (p 3) (p 6) (xF p) (p 6 i) q)) (hcur) ?_
                refine jn_icmp_le ((xF p (p 6 q)) + (p 3 (p 6 q))) (mF (cX p) (p 3) (p 6) (xF p) (p 6 i) q) rfl rfl (by omega) (by omega) 107 dX4_findBreadth_86 (by decide) (fun h_86 => ?_) (fun h_86 => ?_)
                · have eM : mF (cX p) (p 3) (p 6) (xF p) (p 6 i) (q + 1) = mF (cX p) (p 3) (p 6) (xF p) (p 6 i) q := by rw [eM0]; omega
                  refine jg_aload_n dX4_findBreadth_107 rfl rfl ?_
                  refine jg_getr fk_X4_49 sh_57 rfl dX4_findBreadth_108 ?_
                  refine jg_iload_n dX4_findBreadth_111 rfl rfl ?_
                  refine jg_ld (p 6 i) sh_71 (by omega) (rfl) dX4_findBreadth_112 ?_
                  refine jg_top (y := nI (mF (cX p) (p 3) (p 6) (xF p) (p 6 i) q)) (hcur) ?_
                  refine jg_st (p 6 i) sh_71 (by omega) (rfl) dX4_findBreadth_113 ?_
                  refine jg_iinc (v := nI (q + 1)) dX4_findBreadth_114 rfl (nI_1 q) (by decide) rfl ?_
                  refine jg_goto 31 dX4_findBreadth_117 (by decide) ?_
                  exact jg_weak (gLe_s (gLe_s (gLe_s (gLe_s (gLe_n gLe_nil))))) (ih2 (q + 1) _ (by omega) (by omega) hF2.row (fun a ha => by rw [s2_ne (fun z => by have := hp.2.2.1.2.1 a i (by omega) h_12 z; omega)]; exact hq2 a ha) (by rw [s2_self, eM]) (by rw [s2_row (by decide)]; exact hbr2))
                · have eM : mF (cX p) (p 3) (p 6) (xF p) (p 6 i) (q + 1) = xF p (p 6 q) + p 3 (p 6 q) := by rw [eM0]; omega
                  refine jg_aload_n dX4_findBreadth_89 rfl rfl ?_
                  refine jg_getr fk_X4_49 sh_57 rfl dX4_findBreadth_90 ?_
                  refine jg_iload dX4_findBreadth_93 rfl ?_
                  refine jg_ld (p 6 q) sh_71 (by omega) (rfl) dX4_findBreadth_95 ?_
                  refine jg_top (y := nI (xF p (p 6 q))) (hq2 q (by omega)) ?_
                  refine jg_aload_n dX4_findBreadth_96 rfl rfl ?_
                  refine jg_getr fk_X4_25 sh_57 rfl dX4_findBreadth_97 ?_
                  refine jg_iload dX4_findBreadth_100 rfl ?_
                  refine jg_ld (p 6 q) sh_63 (by omega) (rfl) dX4_findBreadth_102 ?_
                  refine jg_top (y := nI (p 3 (p 6 q))) ((hB2.2 _ hq6).2.2.1) ?_
                  refine jg_iaddE (z := nI ((xF p (p 6 q)) + (p 3 (p 6 q)))) dX4_findBreadth_103 (nI_add (xF p (p 6 q)) (p 3 (p 6 q))) ?_
                  refine jg_goto 113 dX4_findBreadth_104 (by decide) ?_
                  refine jg_st (p 6 i) sh_71 (by omega) (rfl) dX4_findBreadth_113 ?_
                  refine jg_iinc (v := nI (q + 1)) dX4_findBreadth_114 rfl (nI_1 q) (by decide) rfl ?_
                  refine jg_goto 31 dX4_findBreadth_117 (by decide) ?_
                  exact jg_weak (gLe_s (gLe_s (gLe_s (gLe_s (gLe_n gLe_nil))))) (ih2 (q + 1) _ (by omega) (by omega) hF2.row (fun a ha => by rw [s2_ne (fun z => by have := hp.2.2.1.2.1 a i (by omega) h_12 z; omega)]; exact hq2 a ha) (by rw [s2_self, eM]) (by rw [s2_row (by decide)]; exact hbr2))
        exact jg_weak (gLe_s (gLe_s (gLe_s (gLe_s (gLe_n gLe_nil))))) (cut_31 (i + 1) 0 _ (Nat.zero_le _) (by omega) hF.row (fun a ha => by rw [s2_ne (fun z => by have := hp.2.2.1.2.1 a i (by omega) h_12 z; omega)]; exact hq0 a ha) (by rw [s2_self]; rfl) (by rw [s2_row (by decide)]; exact hbr))
  exact jg_weak (gLe_s (gLe_s (gLe_n (gLe_n (gLe_n gLe_nil))))) (cut_7 (pn p + 1) 0 _ (Nat.zero_le _) (by omega) BF.rf.fld (fun q h => by omega) (by rw [s2_self]; rfl))
set_option maxHeartbeats 4000000 in
set_option maxRecDepth 20000 in
theorem c4_findDepth (E : gT) (u : Mm) (p : Pic) (hp : PicOk p) (hM : MdB u p) (h73 : ∀ a, a < pn p → u 73 a = nI (p1F p a)) (h1 : ∀ a, a < pn p → 1 ≤ p 3 a) : Con E yX4_findDepth cX4_findDepth 5 none 1 [.ref (E.2.1 57)] u (kV (fun u2 => DF u u2 ∧ (∀ a, a < pn p → u2 72 a = nI (yF p a)) ∧ u2 57 23 = nI (dpP p))) := by
  have hn := hp.1
  refine Con.of (lv := [some (.ref (E.2.1 57)), none, none, none, none]) (by decide +kernel) (Nat.le_of_ble_eq_true rfl) rfl ?_
  refine jg_aload_n dX4_findDepth_0 rfl rfl ?_
  refine jg_iconst (v := 0) dX4_findDepth_1 (by decide) ?_
  refine jg_puti fp_X4_139 sh_57 rfl dX4_findDepth_2 ?_
  refine jg_iconst (v := 0) dX4_findDepth_5 (by decide) ?_
  refine jg_istore_n dX4_findDepth_6 rfl (by decide) rfl ?_
  have cut_7 : ∀ (m i : Nat) (v : Mm), i ≤ pn p → pn p < i + m → DF u v → (∀ q, q < i → v 72 (p 6 q) = nI (yF p (p 6 q))) → v 57 23 = nI (brF (hgF p) (p 6) (yF p) i) → G E cX4_findDepth 5 (yX4_findDepth).cls none 1 (kV (fun u2 => DF u u2 ∧ (∀ a, a < pn p → u2 72 a = nI (yF p a)) ∧ u2 57 23 = nI (dpP p))) 7 [some (.ref (E.2.1 57)), some (.int (nI i)), none, none, none] [] v := by
    intro m
    induction m with
    | zero => intro i v h1 h2; omega
    | succ m ih =>
      intro i v hi hm hF hq0 hbr
      refine jg_iload_n dX4_findDepth_7 rfl rfl ?_
      refine jg_aload_n dX4_findDepth_8 rfl rfl ?_
      refine jg_geti fk_X4_86 sh_57 rfl dX4_findDepth_9 ?_
      refine jg_top (y := nI (pn p)) ((hF.2 5 (by decide)).trans hM.1) ?_
      refine jn_icmp_ge i (pn p) rfl rfl (by omega) (by omega) 166 dX4_findDepth_12 (by decide) (fun h_12 => ?_) (fun h_12 => ?_)
      · obtain rfl : i = pn p := by omega
        exact jg_vret dX4_findDepth_166 ⟨rfl, ⟨hF, fun a ha => by obtain ⟨k, hk, rfl⟩ := hp.2.2.1.2.2 a ha; exact hq0 k hk, hbr⟩⟩
      · have h6 := hp.2.2.1.1 i h_12
        have bi : p1F p (p 6 i) < pn p := inv_lt hp.2.2.2 h6
        have hB1 := hM.fr hF.mf
        refine jg_aload_n dX4_findDepth_15 rfl rfl ?_
        refine jg_getr fk_X4_31 sh_57 rfl dX4_findDepth_16 ?_
        refine jg_iload_n dX4_findDepth_19 rfl rfl ?_
        refine jg_ld i sh_65 (by omega) (rfl) dX4_findDepth_20 ?_
        refine jg_top (y := nI (p 6 i)) ((hB1.2 i h_12).2.2.2.1) ?_
        refine jg_istore_n dX4_findDepth_21 rfl (by decide) rfl ?_
        refine jg_aload_n dX4_findDepth_22 rfl rfl ?_
        refine jg_getr fk_X4_52 sh_57 rfl dX4_findDepth_23 ?_
        refine jg_iload_n dX4_findDepth_26 rfl rfl ?_
        refine jg_iconst (v := 0) dX4_findDepth_27 (by decide) ?_
        refine jg_st (p 6 i) sh_72 (by omega) (rfl) dX4_findDepth_28 ?_
        refine jg_iconst (v := 0) dX4_findDepth_29 (by decide) ?_
        refine jg_istore_n dX4_findDepth_30 rfl (by decide) rfl ?_
        have cut_31 : ∀ (m2 q : Nat) (v2 : Mm), q ≤ i → i < q + m2 → DF u v2 → (∀ a, a < i → v2 72 (p 6 a) = nI (yF p (p 6 a))) → v2 72 (p 6 i) = nI (mF (cY p) (hgF p) (p 6) (yF p) (p 6 i) q) → v2 57 23 = nI (brF (hgF p) (p 6) (yF p) i) → G E cX4_findDepth 5 (yX4_findDepth).cls none 1 (kV (fun u2 => DF u u2 ∧ (∀ a, a < pn p → u2 72 a = nI (yF p a)) ∧ u2 57 23 = nI (dpP p))) 31 [some (.ref (E.2.1 57)), some (.int (nI i)), some (.int (nI (p 6 i))), some (.int (nI q)), none] [] v2 := by
          intro m2
          induction m2 with
          | zero => intro q v2 h1 h2; omega
          | succ m2 ih2 =>
            intro q v2 hq hm2 hF2 hq2 hcur hbr2
            refine jg_iload_n dX4_findDepth_31 rfl rfl ?_
            refine jg_iload_n dX4_findDepth_32 rfl rfl ?_
            refine jn_icmp_ge q i rfl rfl (by omega) (by omega) 118 dX4_findDepth_33 (by decide) (fun h_33 => ?_) (fun h_33 => ?_)
            · obtain rfl : i = q := by omega
              have bxi : mF (cY p) (hgF p) (p 6) (yF p) (p 6 i) i ≤ 126 := mF_le i (fun a ha => by have := yF_le hp (hp.2.2.1.1 a (by omega)); have := hgF_le hp (hp.2.2.1.1 a (by omega)); omega)
              have bbr : brF (hgF p) (p 6) (yF p) i ≤ 126 := brF_le i (fun a ha => by have := yF_le hp (hp.2.2.1.1 a (by omega)); have := hgF_le hp (hp.2.2.1.1 a (by omega)); omega)
              have bwi := hgF_le hp (hp.2.2.1.1 i (by omega))
              have eXi : yF p (p 6 i) = mF (cY p) (hgF p) (p 6) (yF p) (p 6 i) i := yF_eq hp h_12
              have hB2 := hM.fr hF2.mf
              refine jg_aload_n dX4_findDepth_118 rfl rfl ?_
              refine jg_aload_n dX4_findDepth_119 rfl rfl ?_
              refine jg_getr fk_X4_52 sh_57 rfl dX4_findDepth_120 ?_
              refine jg_iload_n dX4_findDepth_123 rfl rfl ?_
              refine jg_ld (p 6 i) sh_72 (by omega) (rfl) dX4_findDepth_124 ?_
              refine jg_top (y := nI (mF (cY p) (hgF p) (p 6) (yF p) (p 6 i) i)) (hcur) ?_
              refine jg_aload_n dX4_findDepth_125 rfl rfl ?_
              refine jg_iload_n dX4_findDepth_126 rfl rfl ?_
              refine jg_callV (c4_heightOf E v2 p hp hB2 (p 6 i) h6 (h1 _ h6)) me_X4_heightOf ml_X4_142 sh_57 rfl rfl (by decide) (by decide) rfl (Nat.le_of_ble_eq_true rfl) dX4_findDepth_127 (kk_I (fun r_127 u_127 h_127 => ?_))
              obtain ⟨rfl, rfl⟩ := h_127
              refine jg_iaddE (z := nI ((mF (cY p) (hgF p) (p 6) (yF p) (p 6 i) i) + (hgF p (p 6 i)))) dX4_findDepth_130 (nI_add (mF (cY p) (hgF p) (p 6) (yF p) (p 6 i) i) (hgF p (p 6 i))) ?_
              refine jg_aload_n dX4_findDepth_131 rfl rfl ?_
              refine jg_geti fk_X4_139 sh_57 rfl dX4_findDepth_132 ?_
              refine jg_top (y := nI (brF (hgF p) (p 6) (yF p) i)) (hbr2) ?_
              refine jn_icmp_le ((mF (cY p) (hgF p) (p 6) (yF p) (p 6 i) i) + (hgF p (p 6 i))) (brF (hgF p) (p 6) (yF p) i) rfl rfl (by omega) (by omega) 153 dX4_findDepth_135 (by decide) (fun h_135 => ?_) (fun h_135 => ?_)
              · have eB : brF (hgF p) (p 6) (yF p) (i + 1) = brF (hgF p) (p 6) (yF p) i := by show max _ _ = _; rw [eXi]; omega
                refine jg_aload_n dX4_findDepth_153 rfl rfl ?_
                refine jg_geti fk_X4_139 sh_57 rfl dX4_findDepth_154 ?_
                refine jg_top (y := nI (brF (hgF p) (p 6) (yF p) i)) (hbr2) ?_
                refine jg_puti fp_X4_139 sh_57 rfl dX4_findDepth_157 ?_
                refine jg_iinc (v := nI (i + 1)) dX4_findDepth_160 rfl (nI_1 i) (by decide) rfl ?_
                refine jg_goto 7 dX4_findDepth_163 (by decide) ?_
                have hq3 : ∀ q, q < i + 1 → v2 72 (p 6 q) = nI (yF p (p 6 q)) := fun q hq => by by_cases e : q = i; (subst e; rw [eXi]; exact hcur); exact hq2 q (by omega)
                exact jg_weak (gLe_s (gLe_s (gLe_n (gLe_n (gLe_n gLe_nil))))) (ih (i + 1) _ (by omega) (by omega) hF2.fld (fun q hq => by rw [s2_row (by decide)]; exact hq3 q hq) (by rw [s2_self, eB]))
              · have eB : brF (hgF p) (p 6) (yF p) (i + 1) = mF (cY p) (hgF p) (p 6) (yF p) (p 6 i) i + hgF p (p 6 i) := by show max _ _ = _; rw [eXi]; omega
                refine jg_aload_n dX4_findDepth_138 rfl rfl ?_
                refine jg_getr fk_X4_52 sh_57 rfl dX4_findDepth_139 ?_
                refine jg_iload_n dX4_findDepth_142 rfl rfl ?_
                refine jg_ld (p 6 i) sh_72 (by omega) (rfl) dX4_findDepth_143 ?_
                refine jg_top (y := nI (mF (cY p) (hgF p) (p 6) (yF p) (p 6 i) i)) (hcur) ?_
                refine jg_aload_n dX4_findDepth_144 rfl rfl ?_
                refine jg_iload_n dX4_findDepth_145 rfl rfl ?_
                refine jg_callV (c4_heightOf E v2 p hp hB2 (p 6 i) h6 (h1 _ h6)) me_X4_heightOf ml_X4_142 sh_57 rfl rfl (by decide) (by decide) rfl (Nat.le_of_ble_eq_true rfl) dX4_findDepth_146 (kk_I (fun r_146 u_146 h_146 => ?_))
                obtain ⟨rfl, rfl⟩ := h_146
                refine jg_iaddE (z := nI ((mF (cY p) (hgF p) (p 6) (yF p) (p 6 i) i) + (hgF p (p 6 i)))) dX4_findDepth_149 (nI_add (mF (cY p) (hgF p) (p 6) (yF p) (p 6 i) i) (hgF p (p 6 i))) ?_
                refine jg_goto 157 dX4_findDepth_150 (by decide) ?_
                refine jg_puti fp_X4_139 sh_57 rfl dX4_findDepth_157 ?_
                refine jg_iinc (v := nI (i + 1)) dX4_findDepth_160 rfl (nI_1 i) (by decide) rfl ?_
                refine jg_goto 7 dX4_findDepth_163 (by decide) ?_
                have hq3 : ∀ q, q < i + 1 → v2 72 (p 6 q) = nI (yF p (p 6 q)) := fun q hq => by by_cases e : q = i; (subst e; rw [eXi]; exact hcur); exact hq2 q (by omega)
                exact jg_weak (gLe_s (gLe_s (gLe_n (gLe_n (gLe_n gLe_nil))))) (ih (i + 1) _ (by omega) (by omega) hF2.fld (fun q hq => by rw [s2_row (by decide)]; exact hq3 q hq) (by rw [s2_self, eB]))
            · have hq6 := hp.2.2.1.1 q (by omega)
              have b1 : p1F p (p 6 q) < pn p := inv_lt hp.2.2.2 hq6
              have bx := yF_le hp hq6
              have bw := hgF_le hp (hp.2.2.1.1 q (by omega))
              have bm : mF (cY p) (hgF p) (p 6) (yF p) (p 6 i) q ≤ 126 := mF_le q (fun a ha => by have := yF_le hp (hp.2.2.1.1 a (by omega)); have := hgF_le hp (hp.2.2.1.1 a (by omega)); omega)
              have hB2 := hM.fr hF2.mf
              refine jg_aload_n dX4_findDepth_36 rfl rfl ?_
              refine jg_getr fk_X4_31 sh_57 rfl dX4_findDepth_37 ?_
              refine jg_iload_n dX4_findDepth_40 rfl rfl ?_
              refine jg_ld q sh_65 (by omega) (rfl) dX4_findDepth_41 ?_
              refine jg_top (y := nI (p 6 q)) ((hB2.2 q (by omega)).2.2.2.1) ?_
              refine jg_istore dX4_findDepth_42 (by decide) rfl ?_
              refine jg_aload_n dX4_findDepth_44 rfl rfl ?_
              refine jg_getr fk_X4_52 sh_57 rfl dX4_findDepth_45 ?_
              refine jg_iload_n dX4_findDepth_48 rfl rfl ?_
              refine jg_aload_n dX4_findDepth_49 rfl rfl ?_
              refine jg_getr fk_X4_55 sh_57 rfl dX4_findDepth_50 ?_
              refine jg_iload dX4_findDepth_53 rfl ?_
              refine jg_ld (p 6 q) sh_73 (by omega) (rfl) dX4_findDepth_55 ?_
              refine jg_top (y := nI (p1F p (p 6 q))) (by rw [hF2.1 73 (by decide) (by decide)]; exact h73 _ hq6) ?_
              refine jg_aload_n dX4_findDepth_56 rfl rfl ?_
              refine jg_getr fk_X4_55 sh_57 rfl dX4_findDepth_57 ?_
              refine jg_iload_n dX4_findDepth_60 rfl rfl ?_
              refine jg_ld (p 6 i) sh_73 (by omega) (rfl) dX4_findDepth_61 ?_
              refine jg_top (y := nI (p1F p (p 6 i))) (by rw [hF2.1 73 (by decide) (by decide)]; exact h73 _ h6) ?_
              refine jn_icmp_le (p1F p (p 6 q)) (p1F p (p 6 i)) rfl rfl (by omega) (by omega) 105 dX4_findDepth_62 (by decide) (fun h_62 => ?_) (fun h_62 => ?_)
              · have eM : mF (cY p) (hgF p) (p 6) (yF p) (p 6 i) (q + 1) = mF (cY p) (hgF p) (p 6) (yF p) (p 6 i) q := by show (if _ then _ else _) = _; rw [if_neg (by simp only [cY, decide_eq_true_eq]; omega)]
                refine jg_aload_n dX4_findDepth_105 rfl rfl ?_
                refine jg_getr fk_X4_52 sh_57 rfl dX4_findDepth_106 ?_
                refine jg_iload_n dX4_findDepth_109 rfl rfl ?_
                refine jg_ld (p 6 i) sh_72 (by omega) (rfl) dX4_findDepth_110 ?_
                refine jg_top (y := nI (mF (cY p) (hgF p) (p 6) (yF p) (p 6 i) q)) (hcur) ?_
                refine jg_st (p 6 i) sh_72 (by omega) (rfl) dX4_findDepth_111 ?_
                refine jg_iinc (v := nI (q + 1)) dX4_findDepth_112 rfl (nI_1 q) (by decide) rfl ?_
                refine jg_goto 31 dX4_findDepth_115 (by decide) ?_
                exact jg_weak (gLe_s (gLe_s (gLe_s (gLe_s (gLe_n gLe_nil))))) (ih2 (q + 1) _ (by omega) (by omega) hF2.row (fun a ha => by rw [s2_ne (fun z => by have := hp.2.2.1.2.1 a i (by omega) h_12 z; omega)]; exact hq2 a ha) (by rw [s2_self, eM]) (by rw [s2_row (by decide)]; exact hbr2))
              · have eM0 : mF (cY p) (hgF p) (p 6) (yF p) (p 6 i) (q + 1) = max (mF (cY p) (hgF p) (p 6) (yF p) (p 6 i) q) (yF p (p 6 q) + hgF p (p 6 q)) := by show (if _ then _ else _) = _; rw [if_pos (by simp only [cY, decide_eq_true_eq]; omega)]
                refine jg_aload_n dX4_findDepth_65 rfl rfl ?_
                refine jg_getr fk_X4_52 sh_57 rfl dX4_findDepth_66 ?_
                refine jg_iload dX4_findDepth_69 rfl ?_
                refine jg_ld (p 6 q) sh_72 (by omega) (rfl) dX4_findDepth_71 ?_
                refine jg_top (y := nI (yF p (p 6 q))) (hq2 q (by omega)) ?_
                refine jg_aload_n dX4_findDepth_72 rfl rfl ?_
                refine jg_iload dX4_findDepth_73 rfl ?_
                refine jg_callV (c4_heightOf E v2 p hp hB2 (p 6 q) hq6 (h1 _ hq6)) me_X4_heightOf ml_X4_142 sh_57 rfl rfl (by decide) (by decide) rfl (Nat.le_of_ble_eq_true rfl) dX4_findDepth_75 (kk_I (fun r_75 u_75 h_75 => ?_))
                obtain ⟨rfl, rfl⟩ := h_75
                refine jg_iaddE (z := nI ((yF p (p 6 q)) + (hgF p (p 6 q)))) dX4_findDepth_78 (nI_add (yF p (p 6 q)) (hgF p (p 6 q))) ?_
                refine jg_aload_n dX4_findDepth_79 rfl rfl ?_
                refine jg_getr fk_X4_52 sh_57 rfl dX4_findDepth_80 ?_
                refine jg_iload_n dX4_findDepth_83 rfl rfl ?_
                refine jg_ld (p 6 i) sh_72 (by omega) (rfl) dX4_findDepth_84 ?_
                refine jg_top (y := nI (mF (cY p) (hgF p) (p 6) (yF p) (p 6 i) q)) (hcur) ?_
                refine jn_icmp_le ((yF p (p 6 q)) + (hgF p (p 6 q))) (mF (cY p) (hgF p) (p 6) (yF p) (p 6 i) q) rfl rfl (by omega) (by omega) 105 dX4_findDepth_85 (by decide) (fun h_85 => ?_) (fun h_85 => ?_)
                · have eM : mF (cY p) (hgF p) (p 6) (yF p) (p 6 i) (q + 1) = mF (cY p) (hgF p) (p 6) (yF p) (p 6 i) q := by rw [eM0]; omega
                  refine jg_aload_n dX4_findDepth_105 rfl rfl ?_
                  refine jg_getr fk_X4_52 sh_57 rfl dX4_findDepth_106 ?_
                  refine jg_iload_n dX4_findDepth_109 rfl rfl ?_
                  refine jg_ld (p 6 i) sh_72 (by omega) (rfl) dX4_findDepth_110 ?_
                  refine jg_top (y := nI (mF (cY p) (hgF p) (p 6) (yF p) (p 6 i) q)) (hcur) ?_
                  refine jg_st (p 6 i) sh_72 (by omega) (rfl) dX4_findDepth_111 ?_
                  refine jg_iinc (v := nI (q + 1)) dX4_findDepth_112 rfl (nI_1 q) (by decide) rfl ?_
                  refine jg_goto 31 dX4_findDepth_115 (by decide) ?_
                  exact jg_weak (gLe_s (gLe_s (gLe_s (gLe_s (gLe_n gLe_nil))))) (ih2 (q + 1) _ (by omega) (by omega) hF2.row (fun a ha => by rw [s2_ne (fun z => by have := hp.2.2.1.2.1 a i (by omega) h_12 z; omega)]; exact hq2 a ha) (by rw [s2_self, eM]) (by rw [s2_row (by decide)]; exact hbr2))
                · have eM : mF (cY p) (hgF p) (p 6) (yF p) (p 6 i) (q + 1) = yF p (p 6 q) + hgF p (p 6 q) := by rw [eM0]; omega
                  refine jg_aload_n dX4_findDepth_88 rfl rfl ?_
                  refine jg_getr fk_X4_52 sh_57 rfl dX4_findDepth_89 ?_
                  refine jg_iload dX4_findDepth_92 rfl ?_
                  refine jg_ld (p 6 q) sh_72 (by omega) (rfl) dX4_findDepth_94 ?_
                  refine jg_top (y := nI (yF p (p 6 q))) (hq2 q (by omega)) ?_
                  refine jg_aload_n dX4_findDepth_95 rfl rfl ?_
                  refine jg_iload dX4_findDepth_96 rfl ?_
                  refine jg_callV (c4_heightOf E v2 p hp hB2 (p 6 q) hq6 (h1 _ hq6)) me_X4_heightOf ml_X4_142 sh_57 rfl rfl (by decide) (by decide) rfl (Nat.le_of_ble_eq_true rfl) dX4_findDepth_98 (kk_I (fun r_98 u_98 h_98 => ?_))
                  obtain ⟨rfl, rfl⟩ := h_98
                  refine jg_iaddE (z := nI ((yF p (p 6 q)) + (hgF p (p 6 q)))) dX4_findDepth_101 (nI_add (yF p (p 6 q)) (hgF p (p 6 q))) ?_
                  refine jg_goto 111 dX4_findDepth_102 (by decide) ?_
                  refine jg_st (p 6 i) sh_72 (by omega) (rfl) dX4_findDepth_111 ?_
                  refine jg_iinc (v := nI (q + 1)) dX4_findDepth_112 rfl (nI_1 q) (by decide) rfl ?_
                  refine jg_goto 31 dX4_findDepth_115 (by decide) ?_
                  exact jg_weak (gLe_s (gLe_s (gLe_s (gLe_s (gLe_n gLe_nil))))) (ih2 (q + 1) _ (by omega) (by omega) hF2.row (fun a ha => by rw [s2_ne (fun z => by have := hp.2.2.1.2.1 a i (by omega) h_12 z; omega)]; exact hq2 a ha) (by rw [s2_self, eM]) (by rw [s2_row (by decide)]; exact hbr2))
        exact jg_weak (gLe_s (gLe_s (gLe_s (gLe_s (gLe_n gLe_nil))))) (cut_31 (i + 1) 0 _ (Nat.zero_le _) (by omega) hF.row (fun a ha => by rw [s2_ne (fun z => by have := hp.2.2.1.2.1 a i (by omega) h_12 z; omega)]; exact hq0 a ha) (by rw [s2_self]; rfl) (by rw [s2_row (by decide)]; exact hbr))
  exact jg_weak (gLe_s (gLe_s (gLe_n (gLe_n (gLe_n gLe_nil))))) (cut_7 (pn p + 1) 0 _ (Nat.zero_le _) (by omega) DF.rf.fld (fun q h => by omega) (by rw [s2_self]; rfl))
set_option maxHeartbeats 4000000 in
set_option maxRecDepth 20000 in
theorem c4_findPlaces (E : gT) (u : Mm) (p : Pic) (hp : PicOk p) (hM : MdB u p) (h1 : ∀ a, a < pn p → 1 ≤ p 3 a) : Con E yX4_findPlaces cX4_findPlaces 2 none 2 [.ref (E.2.1 57)] u (kV (fun u2 => MF u u2 ∧ MdL u2 p)) := by
  have hn := hp.1
  refine Con.of (lv := [some (.ref (E.2.1 57)), none]) (by decide +kernel) (Nat.le_of_ble_eq_true rfl) rfl ?_
  refine jg_iconst (v := 0) dX4_findPlaces_0 (by decide) ?_
  refine jg_istore_n dX4_findPlaces_1 rfl (by decide) rfl ?_
  have cut_2 : ∀ (m i : Nat) (v : Mm), i ≤ pn p → pn p < i + m → (∀ k, k ≠ 73 → v k = u k) → (∀ q, q < i → v 73 (p 7 q) = nI q) → G E cX4_findPlaces 2 (yX4_findPlaces).cls none 2 (kV (fun u2 => MF u u2 ∧ MdL u2 p)) 2 [some (.ref (E.2.1 57)), some (.int (nI i))] [] v := by
    intro m
    induction m with
    | zero => intro i v h1 h2; omega
    | succ m ih =>
      intro i v hi hm hfr hq
      refine jg_iload_n dX4_findPlaces_2 rfl rfl ?_
      refine jg_aload_n dX4_findPlaces_3 rfl rfl ?_
      refine jg_geti fk_X4_86 sh_57 rfl dX4_findPlaces_4 ?_
      refine jg_top (y := nI (pn p)) ((congrFun (hfr 57 (by decide)) 5).trans hM.1) ?_
      refine jn_icmp_ge i (pn p) rfl rfl (by omega) (by omega) 31 dX4_findPlaces_7 (by decide) (fun h_7 => ?_) (fun h_7 => ?_)
      · obtain rfl : i = pn p := by omega
        have hF0 : MF u v := ⟨fun k a b c d => hfr k d, fun j _ _ => by rw [hfr 57 (by decide)]⟩
        have h73 : ∀ a, a < pn p → v 73 a = nI (p1F p a) := fun a ha => by obtain ⟨k, hk, rfl⟩ := hp.2.2.2.2.2 a ha; rw [hq k hk]; unfold p1F; rw [inv_at hp.2.2.2.2.1 hk]
        refine jg_aload_n dX4_findPlaces_31 rfl rfl ?_
        refine jg_callV (c4_findBreadth E v p hp (hM.fr hF0) h73) me_X4_findBreadth ml_X4_145 sh_57 rfl rfl (by decide) (by decide) rfl (Nat.le_of_ble_eq_true rfl) dX4_findPlaces_32 (kk_V (fun u_32 h_32 => ?_))
        obtain ⟨hF1, hx, hbr⟩ := h_32
        refine jg_aload_n dX4_findPlaces_35 rfl rfl ?_
        refine jg_callV (c4_findDepth E u_32 p hp (hM.fr (hF0.tr hF1.mf)) (fun a ha => by rw [hF1.1 73 (by decide) (by decide)]; exact h73 a ha) h1) me_X4_findDepth ml_X4_148 sh_57 rfl rfl (by decide) (by decide) rfl (Nat.le_of_ble_eq_true rfl) dX4_findPlaces_36 (kk_V (fun u_36 h_36 => ?_))
        obtain ⟨hF2, hy, hdp⟩ := h_36
        exact jg_vret dX4_findPlaces_39 ⟨rfl, ⟨(hF0.tr hF1.mf).tr hF2.mf, ⟨fun a ha => ⟨by rw [hF2.1 73 (by decide) (by decide), hF1.1 73 (by decide) (by decide)]; exact h73 a ha, by rw [hF2.1 71 (by decide) (by decide)]; exact hx a ha, hy a ha⟩, by rw [hF2.2 22 (by decide)]; exact hbr, hdp⟩⟩⟩
      · have h7 := hp.2.2.2.1 i h_7
        refine jg_aload_n dX4_findPlaces_10 rfl rfl ?_
        refine jg_getr fk_X4_55 sh_57 rfl dX4_findPlaces_11 ?_
        refine jg_aload_n dX4_findPlaces_14 rfl rfl ?_
        refine jg_getr fk_X4_31 sh_57 rfl dX4_findPlaces_15 ?_
        refine jg_bipush (v := 6) dX4_findPlaces_18 (by decide) ?_
        refine jg_iload_n dX4_findPlaces_20 rfl rfl ?_
        refine jg_iaddE (z := nI (6 + i)) dX4_findPlaces_21 (nI_add 6 i) ?_
        refine jg_ld (6 + i) sh_65 (by omega) (rfl) dX4_findPlaces_22 ?_
        refine jg_top (y := nI (p 7 i)) (by rw [hfr 65 (by decide)]; exact (hM.2 i h_7).2.2.2.2) ?_
        refine jg_iload_n dX4_findPlaces_23 rfl rfl ?_
        refine jg_st (p 7 i) sh_73 (by omega) (rfl) dX4_findPlaces_24 ?_
        refine jg_iinc (v := nI (i + 1)) dX4_findPlaces_25 rfl (nI_1 i) (by decide) rfl ?_
        refine jg_goto 2 dX4_findPlaces_28 (by decide) ?_
        exact ih (i + 1) _ (by omega) (by omega) (fun k h => by rw [s2_row h]; exact hfr k h) (fun q h => by rw [s2_at]; exact upd_run hp.2.2.2.2.1 h_7 hq q h)
  exact cut_2 (pn p + 1) 0 u (Nat.zero_le _) (by omega) (fun _ _ => rfl) (fun q h => by omega)
set_option maxHeartbeats 4000000 in
set_option maxRecDepth 20000 in
theorem c4_placeIn (E : gT) (u : Mm) (f n a : Nat) (o : Nat → Nat) (hf : f ≤ 6) (hn : n ≤ 6) (ho : ∀ i, i < n → u 65 (f + i) = nI (o i)) (hpm : isPm o n) (ha : a < n) : Con E yX4_placeIn cX4_placeIn 4 (some .int) 0 [.ref (E.2.1 57), .int (nI f), .int (nI a)] u (kI (fun r u2 => r = nI (inv o n a) ∧ u = u2)) := by
  have hi := inv_lt hpm ha
  have he := inv_o hpm ha
  refine Con.of (lv := [some (.ref (E.2.1 57)), some (.int (nI f)), some (.int (nI a)), none]) (by decide +kernel) (Nat.le_of_ble_eq_true rfl) rfl ?_
  refine jg_iconst (v := 0) dX4_placeIn_0 (by decide) ?_
  refine jg_istore_n dX4_placeIn_1 rfl (by decide) rfl ?_
  have cut_2 : ∀ (m k : Nat), k ≤ inv o n a → inv o n a < k + m → G E cX4_placeIn 4 (yX4_placeIn).cls (some .int) 0 (kI (fun r u2 => r = nI (inv o n a) ∧ u = u2)) 2 [some (.ref (E.2.1 57)), some (.int (nI f)), some (.int (nI a)), some (.int (nI k))] [] u := by
    intro m
    induction m with
    | zero => intro k h1 h2; omega
    | succ m ih =>
      intro k hk hm
      have hok : o k < n := hpm.1 k (by omega)
      refine jg_aload_n dX4_placeIn_2 rfl rfl ?_
      refine jg_getr fk_X4_31 sh_57 rfl dX4_placeIn_3 ?_
      refine jg_iload_n dX4_placeIn_6 rfl rfl ?_
      refine jg_iload_n dX4_placeIn_7 rfl rfl ?_
      refine jg_iaddE (z := nI (f + k)) dX4_placeIn_8 (nI_add f k) ?_
      refine jg_ld (f + k) sh_65 (by omega) (rfl) dX4_placeIn_9 ?_
      refine jg_top (y := nI (o k)) (ho k (by omega)) ?_
      refine jg_iload_n dX4_placeIn_10 rfl rfl ?_
      refine jn_icmp_eq (o k) a rfl rfl (by omega) (by omega) 20 dX4_placeIn_11 (by decide) (fun h_11 => ?_) (fun h_11 => ?_)
      · have ek : inv o n a = k := by rw [← h_11]; exact inv_at hpm.2.1 (by omega)
        refine jg_iload_n dX4_placeIn_20 rfl rfl ?_
        exact jg_iret (rfl) dX4_placeIn_21 ⟨_, rfl, ⟨by rw [ek], rfl⟩⟩
      · have ek : k ≠ inv o n a := fun z => h_11 (by rw [z]; exact he)
        refine jg_iinc (v := nI (k + 1)) dX4_placeIn_14 rfl (nI_1 k) (by decide) rfl ?_
        refine jg_goto 2 dX4_placeIn_17 (by decide) ?_
        exact ih (k + 1) (by omega) (by omega)
  exact cut_2 (n + 1) 0 (Nat.zero_le _) (by omega)
set_option maxHeartbeats 4000000 in
set_option maxRecDepth 20000 in
theorem c4_isLeft (E : gT) (u : Mm) (p : Pic) (hp : PicOk p) (hM : MdB u p) (a c : Nat) (ha : a < pn p) (hc : c < pn p) : Con E yX4_isLeft cX4_isLeft 3 (some .boolean) 1 [.ref (E.2.1 57), .int (nI a), .int (nI c)] u (kI (fun r u2 => r = bI (decide (p0F p a < p0F p c) && decide (p1F p a < p1F p c)) ∧ u = u2)) := by
  have hn := hp.1
  have a0 : p0F p a < pn p := inv_lt hp.2.2.1 ha
  have a1 : p1F p a < pn p := inv_lt hp.2.2.2 ha
  have c0 : p0F p c < pn p := inv_lt hp.2.2.1 hc
  have c1 : p1F p c < pn p := inv_lt hp.2.2.2 hc
  refine Con.of (lv := [some (.ref (E.2.1 57)), some (.int (nI a)), some (.int (nI c))]) (by decide +kernel) (Nat.le_of_ble_eq_true rfl) rfl ?_
  refine jg_iload_n dX4_isLeft_0 rfl rfl ?_
  refine jg_iload_n dX4_isLeft_1 rfl rfl ?_
  refine jn_icmp_eq a c rfl rfl (by omega) (by omega) 41 dX4_isLeft_2 (by decide) (fun h_2 => ?_) (fun h_2 => ?_)
  · subst h_2
    refine jg_iconst (v := 0) dX4_isLeft_41 (by decide) ?_
    exact jg_iret (rfl) dX4_isLeft_42 ⟨_, rfl, ⟨by simp [bI] <;> omega, rfl⟩⟩
  · refine jg_aload_n dX4_isLeft_5 rfl rfl ?_
    refine jg_iconst (v := 0) dX4_isLeft_6 (by decide) ?_
    refine jg_iload_n dX4_isLeft_7 rfl rfl ?_
    refine jg_callV (c4_placeIn E u 0 (pn p) a (p 6) (by decide) hn (fun i hi => by rw [Nat.zero_add]; exact (hM.2 i hi).2.2.2.1) hp.2.2.1 ha) me_X4_placeIn ml_X4_132 sh_57 rfl rfl (by decide) (by decide) rfl (Nat.le_of_ble_eq_true rfl) dX4_isLeft_8 (kk_I (fun r_8 u_8 h_8 => ?_))
    obtain ⟨rfl, rfl⟩ := h_8
    refine jg_aload_n dX4_isLeft_11 rfl rfl ?_
    refine jg_iconst (v := 0) dX4_isLeft_12 (by decide) ?_
    refine jg_iload_n dX4_isLeft_13 rfl rfl ?_
    refine jg_callV (c4_placeIn E u 0 (pn p) c (p 6) (by decide) hn (fun i hi => by rw [Nat.zero_add]; exact (hM.2 i hi).2.2.2.1) hp.2.2.1 hc) me_X4_placeIn ml_X4_132 sh_57 rfl rfl (by decide) (by decide) rfl (Nat.le_of_ble_eq_true rfl) dX4_isLeft_14 (kk_I (fun r_14 u_14 h_14 => ?_))
    obtain ⟨rfl, rfl⟩ := h_14
    refine jn_icmp_ge (p0F p a) (p0F p c) rfl rfl (by omega) (by omega) 41 dX4_isLeft_17 (by decide) (fun h_17 => ?_) (fun h_17 => ?_)
    · refine jg_iconst (v := 0) dX4_isLeft_41 (by decide) ?_
      exact jg_iret (rfl) dX4_isLeft_42 ⟨_, rfl, ⟨by simp [bI] <;> omega, rfl⟩⟩
    · refine jg_aload_n dX4_isLeft_20 rfl rfl ?_
      refine jg_bipush (v := 6) dX4_isLeft_21 (by decide) ?_
      refine jg_iload_n dX4_isLeft_23 rfl rfl ?_
      refine jg_callV (c4_placeIn E u 6 (pn p) a (p 7) (by decide) hn (fun i hi => (hM.2 i hi).2.2.2.2) hp.2.2.2 ha) me_X4_placeIn ml_X4_132 sh_57 rfl rfl (by decide) (by decide) rfl (Nat.le_of_ble_eq_true rfl) dX4_isLeft_24 (kk_I (fun r_24 u_24 h_24 => ?_))
      obtain ⟨rfl, rfl⟩ := h_24
      refine jg_aload_n dX4_isLeft_27 rfl rfl ?_
      refine jg_bipush (v := 6) dX4_isLeft_28 (by decide) ?_
      refine jg_iload_n dX4_isLeft_30 rfl rfl ?_
      refine jg_callV (c4_placeIn E u 6 (pn p) c (p 7) (by decide) hn (fun i hi => (hM.2 i hi).2.2.2.2) hp.2.2.2 hc) me_X4_placeIn ml_X4_132 sh_57 rfl rfl (by decide) (by decide) rfl (Nat.le_of_ble_eq_true rfl) dX4_isLeft_31 (kk_I (fun r_31 u_31 h_31 => ?_))
      obtain ⟨rfl, rfl⟩ := h_31
      refine jn_icmp_ge (p1F p a) (p1F p c) rfl rfl (by omega) (by omega) 41 dX4_isLeft_34 (by decide) (fun h_34 => ?_) (fun h_34 => ?_)
      · refine jg_iconst (v := 0) dX4_isLeft_41 (by decide) ?_
        exact jg_iret (rfl) dX4_isLeft_42 ⟨_, rfl, ⟨by simp [bI] <;> omega, rfl⟩⟩
      · refine jg_iconst (v := 1) dX4_isLeft_37 (by decide) ?_
        refine jg_goto 42 dX4_isLeft_38 (by decide) ?_
        exact jg_iret (rfl) dX4_isLeft_42 ⟨_, rfl, ⟨by simp [bI] <;> omega, rfl⟩⟩
set_option maxHeartbeats 4000000 in
set_option maxRecDepth 20000 in
theorem c4_isAbove (E : gT) (u : Mm) (p : Pic) (hp : PicOk p) (hM : MdB u p) (a c : Nat) (ha : a < pn p) (hc : c < pn p) : Con E yX4_isAbove cX4_isAbove 3 (some .boolean) 1 [.ref (E.2.1 57), .int (nI a), .int (nI c)] u (kI (fun r u2 => r = bI (decide (p0F p a < p0F p c) && decide (p1F p c < p1F p a)) ∧ u = u2)) := by
  have hn := hp.1
  have a0 : p0F p a < pn p := inv_lt hp.2.2.1 ha
  have a1 : p1F p a < pn p := inv_lt hp.2.2.2 ha
  have c0 : p0F p c < pn p := inv_lt hp.2.2.1 hc
  have c1 : p1F p c < pn p := inv_lt hp.2.2.2 hc
  refine Con.of (lv := [some (.ref (E.2.1 57)), some (.int (nI a)), some (.int (nI c))]) (by decide +kernel) (Nat.le_of_ble_eq_true rfl) rfl ?_
  refine jg_aload_n dX4_isAbove_0 rfl rfl ?_
  refine jg_iconst (v := 0) dX4_isAbove_1 (by decide) ?_
  refine jg_iload_n dX4_isAbove_2 rfl rfl ?_
  refine jg_callV (c4_placeIn E u 0 (pn p) a (p 6) (by decide) hn (fun i hi => by rw [Nat.zero_add]; exact (hM.2 i hi).2.2.2.1) hp.2.2.1 ha) me_X4_placeIn ml_X4_132 sh_57 rfl rfl (by decide) (by decide) rfl (Nat.le_of_ble_eq_true rfl) dX4_isAbove_3 (kk_I (fun r_3 u_3 h_3 => ?_))
  obtain ⟨rfl, rfl⟩ := h_3
  refine jg_aload_n dX4_isAbove_6 rfl rfl ?_
  refine jg_iconst (v := 0) dX4_isAbove_7 (by decide) ?_
  refine jg_iload_n dX4_isAbove_8 rfl rfl ?_
  refine jg_callV (c4_placeIn E u 0 (pn p) c (p 6) (by decide) hn (fun i hi => by rw [Nat.zero_add]; exact (hM.2 i hi).2.2.2.1) hp.2.2.1 hc) me_X4_placeIn ml_X4_132 sh_57 rfl rfl (by decide) (by decide) rfl (Nat.le_of_ble_eq_true rfl) dX4_isAbove_9 (kk_I (fun r_9 u_9 h_9 => ?_))
  obtain ⟨rfl, rfl⟩ := h_9
  refine jn_icmp_ge (p0F p a) (p0F p c) rfl rfl (by omega) (by omega) 36 dX4_isAbove_12 (by decide) (fun h_12 => ?_) (fun h_12 => ?_)
  · refine jg_iconst (v := 0) dX4_isAbove_36 (by decide) ?_
    exact jg_iret (rfl) dX4_isAbove_37 ⟨_, rfl, ⟨by simp [bI] <;> omega, rfl⟩⟩
  · refine jg_aload_n dX4_isAbove_15 rfl rfl ?_
    refine jg_bipush (v := 6) dX4_isAbove_16 (by decide) ?_
    refine jg_iload_n dX4_isAbove_18 rfl rfl ?_
    refine jg_callV (c4_placeIn E u 6 (pn p) a (p 7) (by decide) hn (fun i hi => (hM.2 i hi).2.2.2.2) hp.2.2.2 ha) me_X4_placeIn ml_X4_132 sh_57 rfl rfl (by decide) (by decide) rfl (Nat.le_of_ble_eq_true rfl) dX4_isAbove_19 (kk_I (fun r_19 u_19 h_19 => ?_))
    obtain ⟨rfl, rfl⟩ := h_19
    refine jg_aload_n dX4_isAbove_22 rfl rfl ?_
    refine jg_bipush (v := 6) dX4_isAbove_23 (by decide) ?_
    refine jg_iload_n dX4_isAbove_25 rfl rfl ?_
    refine jg_callV (c4_placeIn E u 6 (pn p) c (p 7) (by decide) hn (fun i hi => (hM.2 i hi).2.2.2.2) hp.2.2.2 hc) me_X4_placeIn ml_X4_132 sh_57 rfl rfl (by decide) (by decide) rfl (Nat.le_of_ble_eq_true rfl) dX4_isAbove_26 (kk_I (fun r_26 u_26 h_26 => ?_))
    obtain ⟨rfl, rfl⟩ := h_26
    refine jn_icmp_le (p1F p a) (p1F p c) rfl rfl (by omega) (by omega) 36 dX4_isAbove_29 (by decide) (fun h_29 => ?_) (fun h_29 => ?_)
    · refine jg_iconst (v := 0) dX4_isAbove_36 (by decide) ?_
      exact jg_iret (rfl) dX4_isAbove_37 ⟨_, rfl, ⟨by simp [bI] <;> omega, rfl⟩⟩
    · refine jg_iconst (v := 1) dX4_isAbove_32 (by decide) ?_
      refine jg_goto 37 dX4_isAbove_33 (by decide) ?_
      exact jg_iret (rfl) dX4_isAbove_37 ⟨_, rfl, ⟨by simp [bI] <;> omega, rfl⟩⟩
set_option maxHeartbeats 4000000 in
set_option maxRecDepth 20000 in
theorem c4_shareN (E : gT) (u : Mm) (a la b lb : Nat) (ha : a < 1000) (hla : la < 1000) (hb : b < 1000) (hlb : lb < 1000) : Con E yX4_share cX4_share 4 (some .boolean) 0 [.int (nI a), .int (nI la), .int (nI b), .int (nI lb)] u (kI (fun r u2 => r = bI (shareN a la b lb) ∧ u = u2)) := by
  refine Con.of (lv := [some (.int (nI a)), some (.int (nI la)), some (.int (nI b)), some (.int (nI lb))]) (by decide +kernel) (Nat.le_of_ble_eq_true rfl) rfl ?_
  refine jg_iload_n dX4_share_0 rfl rfl ?_
  refine jg_iload_n dX4_share_1 rfl rfl ?_
  refine jg_iload_n dX4_share_2 rfl rfl ?_
  refine jg_iaddE (z := nI (b + lb)) dX4_share_3 (nI_add b lb) ?_
  refine jn_icmp_ge a (b + lb) rfl rfl (by omega) (by omega) 18 dX4_share_4 (by decide) (fun h_4 => ?_) (fun h_4 => ?_)
  · refine jg_iconst (v := 0) dX4_share_18 (by decide) ?_
    exact jg_iret (rfl) dX4_share_19 ⟨_, rfl, ⟨by simp [bI, shareN]; omega, rfl⟩⟩
  · refine jg_iload_n dX4_share_7 rfl rfl ?_
    refine jg_iload_n dX4_share_8 rfl rfl ?_
    refine jg_iload_n dX4_share_9 rfl rfl ?_
    refine jg_iaddE (z := nI (a + la)) dX4_share_10 (nI_add a la) ?_
    refine jn_icmp_ge b (a + la) rfl rfl (by omega) (by omega) 18 dX4_share_11 (by decide) (fun h_11 => ?_) (fun h_11 => ?_)
    · refine jg_iconst (v := 0) dX4_share_18 (by decide) ?_
      exact jg_iret (rfl) dX4_share_19 ⟨_, rfl, ⟨by simp [bI, shareN]; omega, rfl⟩⟩
    · refine jg_iconst (v := 1) dX4_share_14 (by decide) ?_
      refine jg_goto 19 dX4_share_15 (by decide) ?_
      exact jg_iret (rfl) dX4_share_19 ⟨_, rfl, ⟨by simp [bI, shareN]; omega, rfl⟩⟩
set_option maxHeartbeats 4000000 in
set_option maxRecDepth 20000 in
theorem c4_size (E : gT) (u : Mm) (s : Nat) (hs : s < 64) : Con E yX4_size cX4_size 3 (some .int) 0 [.int (nI s)] u (kI (fun r u2 => r = nI (pcN s) ∧ u = u2)) := by
  refine Con.of (lv := [some (.int (nI s)), none, none]) (by decide +kernel) (Nat.le_of_ble_eq_true rfl) rfl ?_
  refine jg_iconst (v := 0) dX4_size_0 (by decide) ?_
  refine jg_istore_n dX4_size_1 rfl (by decide) rfl ?_
  refine jg_iload_n dX4_size_2 rfl rfl ?_
  refine jg_istore_n dX4_size_3 rfl (by decide) rfl ?_
  have cut_4 : ∀ (m t c : Nat), t < m → t < 64 → c + pcN t = pcN s → G E cX4_size 3 (yX4_size).cls (some .int) 0 (kI (fun r u2 => r = nI (pcN s) ∧ u = u2)) 4 [some (.int (nI s)), some (.int (nI c)), some (.int (nI t))] [] u := by
    intro m
    induction m with
    | zero => intro t c h1; omega
    | succ m ih =>
      intro t c hm ht hc
      refine jg_iload_n dX4_size_4 rfl rfl ?_
      refine jg_if_le 21 dX4_size_5 (by decide) (fun h_5 => ?_) (fun h_5 => ?_)
      · obtain rfl : t = 0 := by have := (nI_leI (a := t) (b := 0) (by omega) (by omega)).mp h_5; omega
        refine jg_iload_n dX4_size_21 rfl rfl ?_
        exact jg_iret (rfl) dX4_size_22 ⟨_, rfl, ⟨by rw [← hc]; rfl, rfl⟩⟩
      · have ht0 : t ≠ 0 := fun z => by subst z; exact h_5 (by decide)
        refine jg_iload_n dX4_size_8 rfl rfl ?_
        refine jg_iload_n dX4_size_9 rfl rfl ?_
        refine jg_iconst (v := 1) dX4_size_10 (by decide) ?_
        refine jg_iandE (z := nI (t % 2)) dX4_size_11 (low1 t ht) ?_
        refine jg_iaddE (z := nI (c + (t % 2))) dX4_size_12 (nI_add c (t % 2)) ?_
        refine jg_istore_n dX4_size_13 rfl (by decide) rfl ?_
        refine jg_iload_n dX4_size_14 rfl rfl ?_
        refine jg_iconst (v := 1) dX4_size_15 (by decide) ?_
        refine jg_ishrE (z := nI (t / 2)) dX4_size_16 (half t ht) ?_
        refine jg_istore_n dX4_size_17 rfl (by decide) rfl ?_
        refine jg_goto 4 dX4_size_18 (by decide) ?_
        exact ih (t / 2) (c + t % 2) (by omega) (by omega) (by rw [← hc, pcN_half ht]; omega)
  exact cut_4 (s + 1) s 0 (by omega) hs (Nat.zero_add _)
