set_option maxHeartbeats 4000000 in
set_option maxRecDepth 20000 in
theorem c0_lay (E : gT) {b : Nat} (hb : isPl b) (u : Mm) (p : Pic) (hp : PicOk p) (hP : PlB b u p) : Con E yX0_lay cX0_lay 3 none 2 [.ref (E.2.1 b)] u (kV (fun u2 => LF b u u2 ∧ PlL b u2 p)) := by
  have hn := hp.1
  refine Con.of (lv := [some (.ref (E.2.1 b)), none, none]) (by decide +kernel) (Nat.le_of_ble_eq_true rfl) rfl ?_
  refine jg_aload_n dX0_lay_0 rfl rfl ?_
  refine jg_callV (c0_findPlaces E hb u p hp hP) me_X0_findPlaces ml_X0_58 (pl_0 hb) rfl rfl (by decide) (by decide) rfl (Nat.le_of_ble_eq_true rfl) dX0_lay_1 (kk_V (fun u_1 h_1 => ?_))
  obtain ⟨hf0, hf1⟩ := h_1
  refine jg_aload_n dX0_lay_4 rfl rfl ?_
  refine jg_iconst (v := 0) dX0_lay_5 (by decide) ?_
  refine jg_puti fp_X0_61 (pl_0 hb) rfl dX0_lay_6 ?_
  refine jg_aload_n dX0_lay_9 rfl rfl ?_
  refine jg_iconst (v := 0) dX0_lay_10 (by decide) ?_
  refine jg_puti fp_X0_64 (pl_0 hb) rfl dX0_lay_11 ?_
  refine jg_iconst (v := 0) dX0_lay_14 (by decide) ?_
  refine jg_istore_n dX0_lay_15 rfl (by decide) rfl ?_
  have cut_16 : ∀ (m i : Nat) (v : Mm), i ≤ pn p → pn p < i + m → LF b u v → (∀ a, a < pn p → v (b + 9) a = nI (p0F p a) ∧ v (b + 10) a = nI (p1F p a)) → (∀ q, q < i → v (b + 11) (p 6 q) = nI (hgF p (p 6 q)) ∧ v (b + 12) (p 6 q) = nI (xF p (p 6 q)) ∧ v (b + 13) (p 6 q) = nI (yF p (p 6 q))) → v b 10 = nI (brF (p 3) (p 6) (xF p) i) → v b 11 = nI (brF (hgF p) (p 6) (yF p) i) → G E cX0_lay 3 (yX0_lay).cls none 2 (kV (fun u2 => LF b u u2 ∧ PlL b u2 p)) 16 [some (.ref (E.2.1 b)), some (.int (nI i)), none] [] v := by
    intro m
    induction m with
    | zero => intro i v h1 h2; omega
    | succ m ih =>
      intro i v hi hm hF hpl hq0 hbr hdp
      refine jg_iload_n dX0_lay_16 rfl rfl ?_
      refine jg_aload_n dX0_lay_17 rfl rfl ?_
      refine jg_geti fk_X0_41 (pl_0 hb) rfl dX0_lay_18 ?_
      refine jg_top (y := nI (pn p)) ((hF.2 0 (by omega) (by omega)).trans hP.1) ?_
      refine jn_icmp_ge i (pn p) rfl rfl (by omega) (by omega) 104 dX0_lay_21 (by decide) (fun h_21 => ?_) (fun h_21 => ?_)
      · obtain rfl : i = pn p := by omega
        exact jg_vret dX0_lay_104 ⟨rfl, ⟨hF, hP.fr hF, fun a ha => by obtain ⟨k, hk, rfl⟩ := hp.2.2.1.2.2 a ha; exact ⟨(hpl _ ha).1, (hpl _ ha).2, (hq0 k hk).1, (hq0 k hk).2.1, (hq0 k hk).2.2⟩, hbr, hdp⟩⟩
      · have hB := hP.fr hF
        have h6 := hp.2.2.1.1 i h_21
        have bx := xF_le hp h6
        have bY := yF_le hp h6
        have bw := (hp.2.1 _ h6).2.2
        have bh := hgF_le hp h6
        have bm : brF (p 3) (p 6) (xF p) i ≤ 63 := brF_le i (fun a ha => by have := hp.2.2.1.1 a (by omega); have := xF_le hp this; have := (hp.2.1 _ (hp.2.2.1.1 a (by omega))).2.2; omega)
        have bn : brF (hgF p) (p 6) (yF p) i ≤ 126 := brF_le i (fun a ha => by have := hp.2.2.1.1 a (by omega); have := yF_le hp this; have := hgF_le hp (hp.2.2.1.1 a (by omega)); omega)
        refine jg_aload_n dX0_lay_24 rfl rfl ?_
        refine jg_getr fk_X0_26 (pl_0 hb) rfl dX0_lay_25 ?_
        refine jg_iconst (v := 0) dX0_lay_28 (by decide) ?_
        refine jg_aald 0 (pl_5 hb) rfl (Nat.le_of_ble_eq_true rfl) rfl dX0_lay_29 ?_
        refine jg_iload_n dX0_lay_30 rfl rfl ?_
        refine jg_ld i (pl_6 hb) (by omega) (rfl) dX0_lay_31 ?_
        refine jg_top (y := nI (p 6 i)) ((hB.2 i h_21).2.2.2.1) ?_
        refine jg_istore_n dX0_lay_32 rfl (by decide) rfl ?_
        refine jg_aload_n dX0_lay_33 rfl rfl ?_
        refine jg_getr fk_X0_32 (pl_0 hb) rfl dX0_lay_34 ?_
        refine jg_iload_n dX0_lay_37 rfl rfl ?_
        refine jg_aload_n dX0_lay_38 rfl rfl ?_
        refine jg_iload_n dX0_lay_39 rfl rfl ?_
        refine jg_callV (c0_heightOf E hb v p hp hB (p 6 i) h6) me_X0_heightOf ml_X0_67 (pl_0 hb) rfl rfl (by decide) (by decide) rfl (Nat.le_of_ble_eq_true rfl) dX0_lay_40 (kk_I (fun r_40 u_40 h_40 => ?_))
        obtain ⟨rfl, rfl⟩ := h_40
        refine jg_st (p 6 i) (pl_11 hb) (by omega) (rfl) dX0_lay_43 ?_
        obtain ⟨v1, hv1⟩ : ∃ z, z = s2 v (b + 11) (p 6 i) (nI (hgF p (p 6 i))) := ⟨_, rfl⟩
        rw [← hv1]
        have hF1 : LF b u v1 := by rw [hv1]; exact hF.row (by omega) (by omega)
        have hr1 : ∀ k, k ≠ b + 11 → v1 k = v k := fun k hk => by rw [hv1, s2_row hk]
        refine jg_aload_n dX0_lay_44 rfl rfl ?_
        refine jg_iload_n dX0_lay_45 rfl rfl ?_
        refine jg_iload_n dX0_lay_46 rfl rfl ?_
        refine jg_callV (c0_begin E hb v1 p hp (hP.fr hF1) i h_21 (fun a ha => by rw [hr1 _ (by omega)]; exact (hpl a ha).2) (fun q hq => ⟨by rw [hv1, s2_ne (fun z => by have := hp.2.2.1.2.1 q i (by omega) h_21 z; omega)]; exact (hq0 q hq).1, by rw [hr1 _ (by omega)]; exact (hq0 q hq).2.1, by rw [hr1 _ (by omega)]; exact (hq0 q hq).2.2⟩)) me_X0_begin ml_X0_71 (pl_0 hb) rfl rfl (by decide) (by decide) rfl (Nat.le_of_ble_eq_true rfl) dX0_lay_47 (kk_V (fun u_47 h_47 => ?_))
        obtain ⟨v2, hv2⟩ : ∃ z, z = s2 (s2 v1 (b + 12) (p 6 i) (nI (xF p (p 6 i)))) (b + 13) (p 6 i) (nI (yF p (p 6 i))) := ⟨_, rfl⟩
        rw [← hv2] at h_47
        subst h_47
        have hF2 : LF b u u_47 := by rw [hv2]; exact (hF1.row (by omega) (by omega)).row (by omega) (by omega)
        have hr2 : ∀ k, k ≠ b + 11 → k ≠ b + 12 → k ≠ b + 13 → u_47 k = v k := fun k h1 h2 h3 => by rw [hv2, s2_row h3, s2_row h2]; exact hr1 k h1
        have hq2 : ∀ q, q < i + 1 → u_47 (b + 11) (p 6 q) = nI (hgF p (p 6 q)) ∧ u_47 (b + 12) (p 6 q) = nI (xF p (p 6 q)) ∧ u_47 (b + 13) (p 6 q) = nI (yF p (p 6 q)) := by
          intro q hq
          by_cases e : q = i
          · subst e; rw [hv2, hv1]; exact ⟨by rw [s2_row (by omega), s2_row (by omega), s2_self], by rw [s2_row (by omega), s2_self], s2_self _ _ _ _⟩
          · have hne : p 6 q ≠ p 6 i := fun z => e (hp.2.2.1.2.1 q i (by omega) h_21 z)
            have h0 := hq0 q (by omega)
            rw [hv2, hv1]; exact ⟨by rw [s2_row (by omega), s2_row (by omega), s2_ne hne]; exact h0.1, by rw [s2_row (by omega), s2_ne hne, s2_row (by omega)]; exact h0.2.1, by rw [s2_ne hne, s2_row (by omega), s2_row (by omega)]; exact h0.2.2⟩
        have hB2 := hP.fr hF2
        refine jg_aload_n dX0_lay_50 rfl rfl ?_
        refine jg_aload_n dX0_lay_51 rfl rfl ?_
        refine jg_geti fk_X0_61 (pl_0 hb) rfl dX0_lay_52 ?_
        refine jg_top (y := nI (brF (p 3) (p 6) (xF p) i)) (by rw [hr2 b (by omega) (by omega) (by omega)]; exact hbr) ?_
        refine jg_aload_n dX0_lay_55 rfl rfl ?_
        refine jg_getr fk_X0_35 (pl_0 hb) rfl dX0_lay_56 ?_
        refine jg_iload_n dX0_lay_59 rfl rfl ?_
        refine jg_ld (p 6 i) (pl_12 hb) (by omega) (rfl) dX0_lay_60 ?_
        refine jg_top (y := nI (xF p (p 6 i))) ((hq2 i (by omega)).2.1) ?_
        refine jg_aload_n dX0_lay_61 rfl rfl ?_
        refine jg_getr fk_X0_18 (pl_0 hb) rfl dX0_lay_62 ?_
        refine jg_iload_n dX0_lay_65 rfl rfl ?_
        refine jg_ld (p 6 i) (pl_3 hb) (by omega) (rfl) dX0_lay_66 ?_
        refine jg_top (y := nI (p 3 (p 6 i))) ((hB2.2 _ h6).2.2.1) ?_
        refine jg_iaddE (z := nI ((xF p (p 6 i)) + (p 3 (p 6 i)))) dX0_lay_67 (nI_add (xF p (p 6 i)) (p 3 (p 6 i))) ?_
        refine jg_max (z := nI (brF (p 3) (p 6) (xF p) (i + 1))) mx_X0_75 (by decide) (Nat.le_of_ble_eq_true rfl) (mxN (by omega) (by omega)) dX0_lay_68 ?_
        refine jg_puti fp_X0_61 (pl_0 hb) rfl dX0_lay_71 ?_
        refine jg_aload_n dX0_lay_74 rfl rfl ?_
        refine jg_aload_n dX0_lay_75 rfl rfl ?_
        refine jg_geti fk_X0_64 (pl_0 hb) rfl dX0_lay_76 ?_
        refine jg_top (y := nI (brF (hgF p) (p 6) (yF p) i)) (by rw [s2_ne (by omega), hr2 b (by omega) (by omega) (by omega)]; exact hdp) ?_
        refine jg_aload_n dX0_lay_79 rfl rfl ?_
        refine jg_getr fk_X0_38 (pl_0 hb) rfl dX0_lay_80 ?_
        refine jg_iload_n dX0_lay_83 rfl rfl ?_
        refine jg_ld (p 6 i) (pl_13 hb) (by omega) (rfl) dX0_lay_84 ?_
        refine jg_top (y := nI (yF p (p 6 i))) (by rw [s2_row (by omega)]; exact (hq2 i (by omega)).2.2) ?_
        refine jg_aload_n dX0_lay_85 rfl rfl ?_
        refine jg_getr fk_X0_32 (pl_0 hb) rfl dX0_lay_86 ?_
        refine jg_iload_n dX0_lay_89 rfl rfl ?_
        refine jg_ld (p 6 i) (pl_11 hb) (by omega) (rfl) dX0_lay_90 ?_
        refine jg_top (y := nI (hgF p (p 6 i))) (by rw [s2_row (by omega)]; exact (hq2 i (by omega)).1) ?_
        refine jg_iaddE (z := nI ((yF p (p 6 i)) + (hgF p (p 6 i)))) dX0_lay_91 (nI_add (yF p (p 6 i)) (hgF p (p 6 i))) ?_
        refine jg_max (z := nI (brF (hgF p) (p 6) (yF p) (i + 1))) mx_X0_75 (by decide) (Nat.le_of_ble_eq_true rfl) (mxN (by omega) (by omega)) dX0_lay_92 ?_
        refine jg_puti fp_X0_64 (pl_0 hb) rfl dX0_lay_95 ?_
        refine jg_iinc (v := nI (i + 1)) dX0_lay_98 rfl (nI_1 i) (by decide) rfl ?_
        refine jg_goto 16 dX0_lay_101 (by decide) ?_
        exact jg_weak (gLe_s (gLe_s (gLe_n gLe_nil))) (ih (i + 1) _ (by omega) (by omega) ((hF2.fld (Or.inl rfl)).fld (Or.inr rfl)) (fun a ha => by rw [s2_row (by omega), s2_row (by omega), s2_row (by omega), s2_row (by omega), hr2 _ (by omega) (by omega) (by omega), hr2 _ (by omega) (by omega) (by omega)]; exact hpl a ha) (fun q hq => by rw [s2_row (by omega), s2_row (by omega), s2_row (by omega), s2_row (by omega), s2_row (by omega), s2_row (by omega)]; exact hq2 q hq) (by rw [s2_ne (by omega), s2_self]) (s2_self _ _ _ _))
  exact jg_weak (gLe_s (gLe_s (gLe_n gLe_nil))) (cut_16 (pn p + 1) 0 _ (Nat.zero_le _) (by omega) ⟨fun k h1 h2 => by rw [s2_row (by omega), s2_row (by omega)]; exact hf0 k (by omega) (by omega), fun j h1 h2 => by rw [s2_ne (by omega), s2_ne (by omega), hf0 b (by omega) (by omega)]⟩ (fun a ha => by rw [s2_row (by omega), s2_row (by omega), s2_row (by omega), s2_row (by omega)]; obtain ⟨k, hk, e⟩ := hp.2.2.1.2.2 a ha; obtain ⟨k2, hk2, e2⟩ := hp.2.2.2.2.2 a ha; exact ⟨by rw [← e, (hf1 k hk).1]; unfold p0F; rw [inv_at hp.2.2.1.2.1 hk], by rw [← e2, (hf1 k2 hk2).2]; unfold p1F; rw [inv_at hp.2.2.2.2.1 hk2]⟩) (fun q h => by omega) (by rw [s2_ne (by omega), s2_self]; rfl) (by rw [s2_self]; rfl))
set_option maxHeartbeats 4000000 in
set_option maxRecDepth 20000 in
theorem c0_meetN (E : gT) (u : Mm) (a la b lb : Nat) (ha : a < 1000) (hla : la < 1000) (hb : b < 1000) (hlb : lb < 1000) : Con E yX0_meet cX0_meet 4 (some .boolean) 0 [.int (nI a), .int (nI la), .int (nI b), .int (nI lb)] u (kI (fun r u2 => r = bI (meetN a la b lb) ∧ u = u2)) := by
  refine Con.of (lv := [some (.int (nI a)), some (.int (nI la)), some (.int (nI b)), some (.int (nI lb))]) (by decide +kernel) (Nat.le_of_ble_eq_true rfl) rfl ?_
  refine jg_iload_n dX0_meet_0 rfl rfl ?_
  refine jg_iload_n dX0_meet_1 rfl rfl ?_
  refine jg_iaddE (z := nI (a + la)) dX0_meet_2 (nI_add a la) ?_
  refine jg_iload_n dX0_meet_3 rfl rfl ?_
  refine jn_icmp_eq (a + la) b rfl rfl (by omega) (by omega) 14 dX0_meet_4 (by decide) (fun h_4 => ?_) (fun h_4 => ?_)
  · refine jg_iconst (v := 1) dX0_meet_14 (by decide) ?_
    refine jg_goto 19 dX0_meet_15 (by decide) ?_
    exact jg_iret (rfl) dX0_meet_19 ⟨_, rfl, ⟨by simp [bI, meetN, *], rfl⟩⟩
  · refine jg_iload_n dX0_meet_7 rfl rfl ?_
    refine jg_iload_n dX0_meet_8 rfl rfl ?_
    refine jg_iaddE (z := nI (b + lb)) dX0_meet_9 (nI_add b lb) ?_
    refine jg_iload_n dX0_meet_10 rfl rfl ?_
    refine jn_icmp_ne (b + lb) a rfl rfl (by omega) (by omega) 18 dX0_meet_11 (by decide) (fun h_11 => ?_) (fun h_11 => ?_)
    · refine jg_iconst (v := 0) dX0_meet_18 (by decide) ?_
      exact jg_iret (rfl) dX0_meet_19 ⟨_, rfl, ⟨by simp [bI, meetN, *], rfl⟩⟩
    · refine jg_iconst (v := 1) dX0_meet_14 (by decide) ?_
      refine jg_goto 19 dX0_meet_15 (by decide) ?_
      exact jg_iret (rfl) dX0_meet_19 ⟨_, rfl, ⟨by simp [bI, meetN, *], rfl⟩⟩
set_option maxHeartbeats 4000000 in
set_option maxRecDepth 20000 in
theorem c0_shareN (E : gT) (u : Mm) (a la b lb : Nat) (ha : a < 1000) (hla : la < 1000) (hb : b < 1000) (hlb : lb < 1000) : Con E yX0_share cX0_share 4 (some .boolean) 0 [.int (nI a), .int (nI la), .int (nI b), .int (nI lb)] u (kI (fun r u2 => r = bI (shareN a la b lb) ∧ u = u2)) := by
  refine Con.of (lv := [some (.int (nI a)), some (.int (nI la)), some (.int (nI b)), some (.int (nI lb))]) (by decide +kernel) (Nat.le_of_ble_eq_true rfl) rfl ?_
  refine jg_iload_n dX0_share_0 rfl rfl ?_
  refine jg_iload_n dX0_share_1 rfl rfl ?_
  refine jg_iload_n dX0_share_2 rfl rfl ?_
  refine jg_iaddE (z := nI (b + lb)) dX0_share_3 (nI_add b lb) ?_
  refine jn_icmp_ge a (b + lb) rfl rfl (by omega) (by omega) 18 dX0_share_4 (by decide) (fun h_4 => ?_) (fun h_4 => ?_)
  · refine jg_iconst (v := 0) dX0_share_18 (by decide) ?_
    exact jg_iret (rfl) dX0_share_19 ⟨_, rfl, ⟨by simp [bI, shareN]; omega, rfl⟩⟩
  · refine jg_iload_n dX0_share_7 rfl rfl ?_
    refine jg_iload_n dX0_share_8 rfl rfl ?_
    refine jg_iload_n dX0_share_9 rfl rfl ?_
    refine jg_iaddE (z := nI (a + la)) dX0_share_10 (nI_add a la) ?_
    refine jn_icmp_ge b (a + la) rfl rfl (by omega) (by omega) 18 dX0_share_11 (by decide) (fun h_11 => ?_) (fun h_11 => ?_)
    · refine jg_iconst (v := 0) dX0_share_18 (by decide) ?_
      exact jg_iret (rfl) dX0_share_19 ⟨_, rfl, ⟨by simp [bI, shareN]; omega, rfl⟩⟩
    · refine jg_iconst (v := 1) dX0_share_14 (by decide) ?_
      refine jg_goto 19 dX0_share_15 (by decide) ?_
      exact jg_iret (rfl) dX0_share_19 ⟨_, rfl, ⟨by simp [bI, shareN]; omega, rfl⟩⟩
set_option maxHeartbeats 4000000 in
set_option maxRecDepth 20000 in
theorem c0_isLeft (E : gT) {b : Nat} (hb : isPl b) (u : Mm) (p : Pic) (hp : PicOk p) (hL : PlL b u p) (a c : Nat) (ha : a < pn p) (hc : c < pn p) : Con E yX0_isLeft cX0_isLeft 3 (some .boolean) 0 [.ref (E.2.1 b), .int (nI a), .int (nI c)] u (kI (fun r u2 => r = bI (decide (p0F p a < p0F p c) && decide (p1F p a < p1F p c)) ∧ u = u2)) := by
  have hn := hp.1
  have a0 : p0F p a < pn p := inv_lt hp.2.2.1 ha
  have a1 : p1F p a < pn p := inv_lt hp.2.2.2 ha
  have c0 : p0F p c < pn p := inv_lt hp.2.2.1 hc
  have c1 : p1F p c < pn p := inv_lt hp.2.2.2 hc
  refine Con.of (lv := [some (.ref (E.2.1 b)), some (.int (nI a)), some (.int (nI c))]) (by decide +kernel) (Nat.le_of_ble_eq_true rfl) rfl ?_
  refine jg_aload_n dX0_isLeft_0 rfl rfl ?_
  refine jg_getr fk_X0_29 (pl_0 hb) rfl dX0_isLeft_1 ?_
  refine jg_iconst (v := 0) dX0_isLeft_4 (by decide) ?_
  refine jg_aald 0 (pl_8 hb) rfl (Nat.le_of_ble_eq_true rfl) rfl dX0_isLeft_5 ?_
  refine jg_iload_n dX0_isLeft_6 rfl rfl ?_
  refine jg_ld a (pl_9 hb) (by omega) (rfl) dX0_isLeft_7 ?_
  refine jg_top (y := nI (p0F p a)) ((hL.2.1 a ha).1) ?_
  refine jg_aload_n dX0_isLeft_8 rfl rfl ?_
  refine jg_getr fk_X0_29 (pl_0 hb) rfl dX0_isLeft_9 ?_
  refine jg_iconst (v := 0) dX0_isLeft_12 (by decide) ?_
  refine jg_aald 0 (pl_8 hb) rfl (Nat.le_of_ble_eq_true rfl) rfl dX0_isLeft_13 ?_
  refine jg_iload_n dX0_isLeft_14 rfl rfl ?_
  refine jg_ld c (pl_9 hb) (by omega) (rfl) dX0_isLeft_15 ?_
  refine jg_top (y := nI (p0F p c)) ((hL.2.1 c hc).1) ?_
  refine jn_icmp_ge (p0F p a) (p0F p c) rfl rfl (by omega) (by omega) 42 dX0_isLeft_16 (by decide) (fun h_16 => ?_) (fun h_16 => ?_)
  · refine jg_iconst (v := 0) dX0_isLeft_42 (by decide) ?_
    exact jg_iret (rfl) dX0_isLeft_43 ⟨_, rfl, ⟨by simp [bI]; omega, rfl⟩⟩
  · refine jg_aload_n dX0_isLeft_19 rfl rfl ?_
    refine jg_getr fk_X0_29 (pl_0 hb) rfl dX0_isLeft_20 ?_
    refine jg_iconst (v := 1) dX0_isLeft_23 (by decide) ?_
    refine jg_aald 1 (pl_8 hb) rfl (Nat.le_of_ble_eq_true rfl) rfl dX0_isLeft_24 ?_
    refine jg_iload_n dX0_isLeft_25 rfl rfl ?_
    refine jg_ld a (pl_10 hb) (by omega) (rfl) dX0_isLeft_26 ?_
    refine jg_top (y := nI (p1F p a)) ((hL.2.1 a ha).2.1) ?_
    refine jg_aload_n dX0_isLeft_27 rfl rfl ?_
    refine jg_getr fk_X0_29 (pl_0 hb) rfl dX0_isLeft_28 ?_
    refine jg_iconst (v := 1) dX0_isLeft_31 (by decide) ?_
    refine jg_aald 1 (pl_8 hb) rfl (Nat.le_of_ble_eq_true rfl) rfl dX0_isLeft_32 ?_
    refine jg_iload_n dX0_isLeft_33 rfl rfl ?_
    refine jg_ld c (pl_10 hb) (by omega) (rfl) dX0_isLeft_34 ?_
    refine jg_top (y := nI (p1F p c)) ((hL.2.1 c hc).2.1) ?_
    refine jn_icmp_ge (p1F p a) (p1F p c) rfl rfl (by omega) (by omega) 42 dX0_isLeft_35 (by decide) (fun h_35 => ?_) (fun h_35 => ?_)
    · refine jg_iconst (v := 0) dX0_isLeft_42 (by decide) ?_
      exact jg_iret (rfl) dX0_isLeft_43 ⟨_, rfl, ⟨by simp [bI]; omega, rfl⟩⟩
    · refine jg_iconst (v := 1) dX0_isLeft_38 (by decide) ?_
      refine jg_goto 43 dX0_isLeft_39 (by decide) ?_
      exact jg_iret (rfl) dX0_isLeft_43 ⟨_, rfl, ⟨by simp [bI]; omega, rfl⟩⟩
set_option maxHeartbeats 4000000 in
set_option maxRecDepth 20000 in
theorem c0_isAbove (E : gT) {b : Nat} (hb : isPl b) (u : Mm) (p : Pic) (hp : PicOk p) (hL : PlL b u p) (a c : Nat) (ha : a < pn p) (hc : c < pn p) : Con E yX0_isAbove cX0_isAbove 3 (some .boolean) 0 [.ref (E.2.1 b), .int (nI a), .int (nI c)] u (kI (fun r u2 => r = bI (decide (p0F p a < p0F p c) && decide (p1F p c < p1F p a)) ∧ u = u2)) := by
  have hn := hp.1
  have a0 : p0F p a < pn p := inv_lt hp.2.2.1 ha
  have a1 : p1F p a < pn p := inv_lt hp.2.2.2 ha
  have c0 : p0F p c < pn p := inv_lt hp.2.2.1 hc
  have c1 : p1F p c < pn p := inv_lt hp.2.2.2 hc
  refine Con.of (lv := [some (.ref (E.2.1 b)), some (.int (nI a)), some (.int (nI c))]) (by decide +kernel) (Nat.le_of_ble_eq_true rfl) rfl ?_
  refine jg_aload_n dX0_isAbove_0 rfl rfl ?_
  refine jg_getr fk_X0_29 (pl_0 hb) rfl dX0_isAbove_1 ?_
  refine jg_iconst (v := 0) dX0_isAbove_4 (by decide) ?_
  refine jg_aald 0 (pl_8 hb) rfl (Nat.le_of_ble_eq_true rfl) rfl dX0_isAbove_5 ?_
  refine jg_iload_n dX0_isAbove_6 rfl rfl ?_
  refine jg_ld a (pl_9 hb) (by omega) (rfl) dX0_isAbove_7 ?_
  refine jg_top (y := nI (p0F p a)) ((hL.2.1 a ha).1) ?_
  refine jg_aload_n dX0_isAbove_8 rfl rfl ?_
  refine jg_getr fk_X0_29 (pl_0 hb) rfl dX0_isAbove_9 ?_
  refine jg_iconst (v := 0) dX0_isAbove_12 (by decide) ?_
  refine jg_aald 0 (pl_8 hb) rfl (Nat.le_of_ble_eq_true rfl) rfl dX0_isAbove_13 ?_
  refine jg_iload_n dX0_isAbove_14 rfl rfl ?_
  refine jg_ld c (pl_9 hb) (by omega) (rfl) dX0_isAbove_15 ?_
  refine jg_top (y := nI (p0F p c)) ((hL.2.1 c hc).1) ?_
  refine jn_icmp_ge (p0F p a) (p0F p c) rfl rfl (by omega) (by omega) 42 dX0_isAbove_16 (by decide) (fun h_16 => ?_) (fun h_16 => ?_)
  · refine jg_iconst (v := 0) dX0_isAbove_42 (by decide) ?_
    exact jg_iret (rfl) dX0_isAbove_43 ⟨_, rfl, ⟨by simp [bI]; omega, rfl⟩⟩
  · refine jg_aload_n dX0_isAbove_19 rfl rfl ?_
    refine jg_getr fk_X0_29 (pl_0 hb) rfl dX0_isAbove_20 ?_
    refine jg_iconst (v := 1) dX0_isAbove_23 (by decide) ?_
    refine jg_aald 1 (pl_8 hb) rfl (Nat.le_of_ble_eq_true rfl) rfl dX0_isAbove_24 ?_
    refine jg_iload_n dX0_isAbove_25 rfl rfl ?_
    refine jg_ld a (pl_10 hb) (by omega) (rfl) dX0_isAbove_26 ?_
    refine jg_top (y := nI (p1F p a)) ((hL.2.1 a ha).2.1) ?_
    refine jg_aload_n dX0_isAbove_27 rfl rfl ?_
    refine jg_getr fk_X0_29 (pl_0 hb) rfl dX0_isAbove_28 ?_
    refine jg_iconst (v := 1) dX0_isAbove_31 (by decide) ?_
    refine jg_aald 1 (pl_8 hb) rfl (Nat.le_of_ble_eq_true rfl) rfl dX0_isAbove_32 ?_
    refine jg_iload_n dX0_isAbove_33 rfl rfl ?_
    refine jg_ld c (pl_10 hb) (by omega) (rfl) dX0_isAbove_34 ?_
    refine jg_top (y := nI (p1F p c)) ((hL.2.1 c hc).2.1) ?_
    refine jn_icmp_le (p1F p a) (p1F p c) rfl rfl (by omega) (by omega) 42 dX0_isAbove_35 (by decide) (fun h_35 => ?_) (fun h_35 => ?_)
    · refine jg_iconst (v := 0) dX0_isAbove_42 (by decide) ?_
      exact jg_iret (rfl) dX0_isAbove_43 ⟨_, rfl, ⟨by simp [bI]; omega, rfl⟩⟩
    · refine jg_iconst (v := 1) dX0_isAbove_38 (by decide) ?_
      refine jg_goto 43 dX0_isAbove_39 (by decide) ?_
      exact jg_iret (rfl) dX0_isAbove_43 ⟨_, rfl, ⟨by simp [bI]; omega, rfl⟩⟩
set_option maxHeartbeats 4000000 in
set_option maxRecDepth 20000 in
theorem c0_touch (E : gT) {b : Nat} (hb : isPl b) (u : Mm) (p : Pic) (hp : PicOk p) (hL : PlL b u p) (a c : Nat) (ha : a < pn p) (hc : c < pn p) : Con E yX0_touch cX0_touch 3 (some .boolean) 1 [.ref (E.2.1 b), .int (nI a), .int (nI c)] u (kI (fun r u2 => r = bI (tchF p a c) ∧ u = u2)) := by
  have hn := hp.1
  have bxa := xF_le hp ha
  have bya := yF_le hp ha
  have bha := hgF_le hp ha
  have bwa := (hp.2.1 _ ha).2.2
  have bxc := xF_le hp hc
  have byc := yF_le hp hc
  have bhc := hgF_le hp hc
  have bwc := (hp.2.1 _ hc).2.2
  refine Con.of (lv := [some (.ref (E.2.1 b)), some (.int (nI a)), some (.int (nI c))]) (by decide +kernel) (Nat.le_of_ble_eq_true rfl) rfl ?_
  refine jg_aload_n dX0_touch_0 rfl rfl ?_
  refine jg_getr fk_X0_35 (pl_0 hb) rfl dX0_touch_1 ?_
  refine jg_iload_n dX0_touch_4 rfl rfl ?_
  refine jg_ld a (pl_12 hb) (by omega) (rfl) dX0_touch_5 ?_
  refine jg_top (y := nI (xF p a)) ((hL.2.1 a ha).2.2.2.1) ?_
  refine jg_aload_n dX0_touch_6 rfl rfl ?_
  refine jg_getr fk_X0_18 (pl_0 hb) rfl dX0_touch_7 ?_
  refine jg_iload_n dX0_touch_10 rfl rfl ?_
  refine jg_ld a (pl_3 hb) (by omega) (rfl) dX0_touch_11 ?_
  refine jg_top (y := nI (p 3 a)) ((hL.1.2 a ha).2.2.1) ?_
  refine jg_aload_n dX0_touch_12 rfl rfl ?_
  refine jg_getr fk_X0_35 (pl_0 hb) rfl dX0_touch_13 ?_
  refine jg_iload_n dX0_touch_16 rfl rfl ?_
  refine jg_ld c (pl_12 hb) (by omega) (rfl) dX0_touch_17 ?_
  refine jg_top (y := nI (xF p c)) ((hL.2.1 c hc).2.2.2.1) ?_
  refine jg_aload_n dX0_touch_18 rfl rfl ?_
  refine jg_getr fk_X0_18 (pl_0 hb) rfl dX0_touch_19 ?_
  refine jg_iload_n dX0_touch_22 rfl rfl ?_
  refine jg_ld c (pl_3 hb) (by omega) (rfl) dX0_touch_23 ?_
  refine jg_top (y := nI (p 3 c)) ((hL.1.2 c hc).2.2.1) ?_
  refine jg_callS (c0_meetN E u (xF p a) (p 3 a) (xF p c) (p 3 c) (by omega) (by omega) (by omega) (by omega)) me_X0_meet ml_X0_102 rfl (by decide) (by decide) rfl (Nat.le_of_ble_eq_true rfl) dX0_touch_24 (kk_I (fun r_24 u_24 h_24 => ?_))
  obtain ⟨rfl, rfl⟩ := h_24
  refine jb_if_eq 60 dX0_touch_27 (by decide) (fun h_27 => ?_) (fun h_27 => ?_)
  · refine jg_aload_n dX0_touch_60 rfl rfl ?_
    refine jg_getr fk_X0_38 (pl_0 hb) rfl dX0_touch_61 ?_
    refine jg_iload_n dX0_touch_64 rfl rfl ?_
    refine jg_ld a (pl_13 hb) (by omega) (rfl) dX0_touch_65 ?_
    refine jg_top (y := nI (yF p a)) ((hL.2.1 a ha).2.2.2.2) ?_
    refine jg_aload_n dX0_touch_66 rfl rfl ?_
    refine jg_getr fk_X0_32 (pl_0 hb) rfl dX0_touch_67 ?_
    refine jg_iload_n dX0_touch_70 rfl rfl ?_
    refine jg_ld a (pl_11 hb) (by omega) (rfl) dX0_touch_71 ?_
    refine jg_top (y := nI (hgF p a)) ((hL.2.1 a ha).2.2.1) ?_
    refine jg_aload_n dX0_touch_72 rfl rfl ?_
    refine jg_getr fk_X0_38 (pl_0 hb) rfl dX0_touch_73 ?_
    refine jg_iload_n dX0_touch_76 rfl rfl ?_
    refine jg_ld c (pl_13 hb) (by omega) (rfl) dX0_touch_77 ?_
    refine jg_top (y := nI (yF p c)) ((hL.2.1 c hc).2.2.2.2) ?_
    refine jg_aload_n dX0_touch_78 rfl rfl ?_
    refine jg_getr fk_X0_32 (pl_0 hb) rfl dX0_touch_79 ?_
    refine jg_iload_n dX0_touch_82 rfl rfl ?_
    refine jg_ld c (pl_11 hb) (by omega) (rfl) dX0_touch_83 ?_
    refine jg_top (y := nI (hgF p c)) ((hL.2.1 c hc).2.2.1) ?_
    refine jg_callS (c0_meetN E u (yF p a) (hgF p a) (yF p c) (hgF p c) (by omega) (by omega) (by omega) (by omega)) me_X0_meet ml_X0_102 rfl (by decide) (by decide) rfl (Nat.le_of_ble_eq_true rfl) dX0_touch_84 (kk_I (fun r_84 u_84 h_84 => ?_))
    obtain ⟨rfl, rfl⟩ := h_84
    refine jb_if_eq 124 dX0_touch_87 (by decide) (fun h_87 => ?_) (fun h_87 => ?_)
    · refine jg_iconst (v := 0) dX0_touch_124 (by decide) ?_
      exact jg_iret (rfl) dX0_touch_125 ⟨_, rfl, ⟨by simp [bI, tchF, *], rfl⟩⟩
    · refine jg_aload_n dX0_touch_90 rfl rfl ?_
      refine jg_getr fk_X0_35 (pl_0 hb) rfl dX0_touch_91 ?_
      refine jg_iload_n dX0_touch_94 rfl rfl ?_
      refine jg_ld a (pl_12 hb) (by omega) (rfl) dX0_touch_95 ?_
      refine jg_top (y := nI (xF p a)) ((hL.2.1 a ha).2.2.2.1) ?_
      refine jg_aload_n dX0_touch_96 rfl rfl ?_
      refine jg_getr fk_X0_18 (pl_0 hb) rfl dX0_touch_97 ?_
      refine jg_iload_n dX0_touch_100 rfl rfl ?_
      refine jg_ld a (pl_3 hb) (by omega) (rfl) dX0_touch_101 ?_
      refine jg_top (y := nI (p 3 a)) ((hL.1.2 a ha).2.2.1) ?_
      refine jg_aload_n dX0_touch_102 rfl rfl ?_
      refine jg_getr fk_X0_35 (pl_0 hb) rfl dX0_touch_103 ?_
      refine jg_iload_n dX0_touch_106 rfl rfl ?_
      refine jg_ld c (pl_12 hb) (by omega) (rfl) dX0_touch_107 ?_
      refine jg_top (y := nI (xF p c)) ((hL.2.1 c hc).2.2.2.1) ?_
      refine jg_aload_n dX0_touch_108 rfl rfl ?_
      refine jg_getr fk_X0_18 (pl_0 hb) rfl dX0_touch_109 ?_
      refine jg_iload_n dX0_touch_112 rfl rfl ?_
      refine jg_ld c (pl_3 hb) (by omega) (rfl) dX0_touch_113 ?_
      refine jg_top (y := nI (p 3 c)) ((hL.1.2 c hc).2.2.1) ?_
      refine jg_callS (c0_shareN E u (xF p a) (p 3 a) (xF p c) (p 3 c) (by omega) (by omega) (by omega) (by omega)) me_X0_share ml_X0_106 rfl (by decide) (by decide) rfl (Nat.le_of_ble_eq_true rfl) dX0_touch_114 (kk_I (fun r_114 u_114 h_114 => ?_))
      obtain ⟨rfl, rfl⟩ := h_114
      refine jb_if_eq 124 dX0_touch_117 (by decide) (fun h_117 => ?_) (fun h_117 => ?_)
      · refine jg_iconst (v := 0) dX0_touch_124 (by decide) ?_
        exact jg_iret (rfl) dX0_touch_125 ⟨_, rfl, ⟨by simp [bI, tchF, *], rfl⟩⟩
      · refine jg_iconst (v := 1) dX0_touch_120 (by decide) ?_
        refine jg_goto 125 dX0_touch_121 (by decide) ?_
        exact jg_iret (rfl) dX0_touch_125 ⟨_, rfl, ⟨by simp [bI, tchF, *], rfl⟩⟩
  · refine jg_aload_n dX0_touch_30 rfl rfl ?_
    refine jg_getr fk_X0_38 (pl_0 hb) rfl dX0_touch_31 ?_
    refine jg_iload_n dX0_touch_34 rfl rfl ?_
    refine jg_ld a (pl_13 hb) (by omega) (rfl) dX0_touch_35 ?_
    refine jg_top (y := nI (yF p a)) ((hL.2.1 a ha).2.2.2.2) ?_
    refine jg_aload_n dX0_touch_36 rfl rfl ?_
    refine jg_getr fk_X0_32 (pl_0 hb) rfl dX0_touch_37 ?_
    refine jg_iload_n dX0_touch_40 rfl rfl ?_
    refine jg_ld a (pl_11 hb) (by omega) (rfl) dX0_touch_41 ?_
    refine jg_top (y := nI (hgF p a)) ((hL.2.1 a ha).2.2.1) ?_
    refine jg_aload_n dX0_touch_42 rfl rfl ?_
    refine jg_getr fk_X0_38 (pl_0 hb) rfl dX0_touch_43 ?_
    refine jg_iload_n dX0_touch_46 rfl rfl ?_
    refine jg_ld c (pl_13 hb) (by omega) (rfl) dX0_touch_47 ?_
    refine jg_top (y := nI (yF p c)) ((hL.2.1 c hc).2.2.2.2) ?_
    refine jg_aload_n dX0_touch_48 rfl rfl ?_
    refine jg_getr fk_X0_32 (pl_0 hb) rfl dX0_touch_49 ?_
    refine jg_iload_n dX0_touch_52 rfl rfl ?_
    refine jg_ld c (pl_11 hb) (by omega) (rfl) dX0_touch_53 ?_
    refine jg_top (y := nI (hgF p c)) ((hL.2.1 c hc).2.2.1) ?_
    refine jg_callS (c0_shareN E u (yF p a) (hgF p a) (yF p c) (hgF p c) (by omega) (by omega) (by omega) (by omega)) me_X0_share ml_X0_106 rfl (by decide) (by decide) rfl (Nat.le_of_ble_eq_true rfl) dX0_touch_54 (kk_I (fun r_54 u_54 h_54 => ?_))
    obtain ⟨rfl, rfl⟩ := h_54
    refine jb_if_ne 120 dX0_touch_57 (by decide) (fun h_57 => ?_) (fun h_57 => ?_)
    · refine jg_iconst (v := 1) dX0_touch_120 (by decide) ?_
      refine jg_goto 125 dX0_touch_121 (by decide) ?_
      exact jg_iret (rfl) dX0_touch_125 ⟨_, rfl, ⟨by simp [bI, tchF, *], rfl⟩⟩
    · refine jg_aload_n dX0_touch_60 rfl rfl ?_
      refine jg_getr fk_X0_38 (pl_0 hb) rfl dX0_touch_61 ?_
      refine jg_iload_n dX0_touch_64 rfl rfl ?_
      refine jg_ld a (pl_13 hb) (by omega) (rfl) dX0_touch_65 ?_
      refine jg_top (y := nI (yF p a)) ((hL.2.1 a ha).2.2.2.2) ?_
      refine jg_aload_n dX0_touch_66 rfl rfl ?_
      refine jg_getr fk_X0_32 (pl_0 hb) rfl dX0_touch_67 ?_
      refine jg_iload_n dX0_touch_70 rfl rfl ?_
      refine jg_ld a (pl_11 hb) (by omega) (rfl) dX0_touch_71 ?_
      refine jg_top (y := nI (hgF p a)) ((hL.2.1 a ha).2.2.1) ?_
      refine jg_aload_n dX0_touch_72 rfl rfl ?_
      refine jg_getr fk_X0_38 (pl_0 hb) rfl dX0_touch_73 ?_
      refine jg_iload_n dX0_touch_76 rfl rfl ?_
      refine jg_ld c (pl_13 hb) (by omega) (rfl) dX0_touch_77 ?_
      refine jg_top (y := nI (yF p c)) ((hL.2.1 c hc).2.2.2.2) ?_
      refine jg_aload_n dX0_touch_78 rfl rfl ?_
      refine jg_getr fk_X0_32 (pl_0 hb) rfl dX0_touch_79 ?_
      refine jg_iload_n dX0_touch_82 rfl rfl ?_
      refine jg_ld c (pl_11 hb) (by omega) (rfl) dX0_touch_83 ?_
      refine jg_top (y := nI (hgF p c)) ((hL.2.1 c hc).2.2.1) ?_
      refine jg_callS (c0_meetN E u (yF p a) (hgF p a) (yF p c) (hgF p c) (by omega) (by omega) (by omega) (by omega)) me_X0_meet ml_X0_102 rfl (by decide) (by decide) rfl (Nat.le_of_ble_eq_true rfl) dX0_touch_84 (kk_I (fun r_84 u_84 h_84 => ?_))
      obtain ⟨rfl, rfl⟩ := h_84
      refine jb_if_eq 124 dX0_touch_87 (by decide) (fun h_87 => ?_) (fun h_87 => ?_)
      · refine jg_iconst (v := 0) dX0_touch_124 (by decide) ?_
        exact jg_iret (rfl) dX0_touch_125 ⟨_, rfl, ⟨by simp [bI, tchF, *], rfl⟩⟩
      · refine jg_aload_n dX0_touch_90 rfl rfl ?_
        refine jg_getr fk_X0_35 (pl_0 hb) rfl dX0_touch_91 ?_
        refine jg_iload_n dX0_touch_94 rfl rfl ?_
        refine jg_ld a (pl_12 hb) (by omega) (rfl) dX0_touch_95 ?_
        refine jg_top (y := nI (xF p a)) ((hL.2.1 a ha).2.2.2.1) ?_
        refine jg_aload_n dX0_touch_96 rfl rfl ?_
        refine jg_getr fk_X0_18 (pl_0 hb) rfl dX0_touch_97 ?_
        refine jg_iload_n dX0_touch_100 rfl rfl ?_
        refine jg_ld a (pl_3 hb) (by omega) (rfl) dX0_touch_101 ?_
        refine jg_top (y := nI (p 3 a)) ((hL.1.2 a ha).2.2.1) ?_
        refine jg_aload_n dX0_touch_102 rfl rfl ?_
        refine jg_getr fk_X0_35 (pl_0 hb) rfl dX0_touch_103 ?_
        refine jg_iload_n dX0_touch_106 rfl rfl ?_
        refine jg_ld c (pl_12 hb) (by omega) (rfl) dX0_touch_107 ?_
        refine jg_top (y := nI (xF p c)) ((hL.2.1 c hc).2.2.2.1) ?_
        refine jg_aload_n dX0_touch_108 rfl rfl ?_
        refine jg_getr fk_X0_18 (pl_0 hb) rfl dX0_touch_109 ?_
        refine jg_iload_n dX0_touch_112 rfl rfl ?_
        refine jg_ld c (pl_3 hb) (by omega) (rfl) dX0_touch_113 ?_
        refine jg_top (y := nI (p 3 c)) ((hL.1.2 c hc).2.2.1) ?_
        refine jg_callS (c0_shareN E u (xF p a) (p 3 a) (xF p c) (p 3 c) (by omega) (by omega) (by omega) (by omega)) me_X0_share ml_X0_106 rfl (by decide) (by decide) rfl (Nat.le_of_ble_eq_true rfl) dX0_touch_114 (kk_I (fun r_114 u_114 h_114 => ?_))
        obtain ⟨rfl, rfl⟩ := h_114
        refine jb_if_eq 124 dX0_touch_117 (by decide) (fun h_117 => ?_) (fun h_117 => ?_)
        · refine jg_iconst (v := 0) dX0_touch_124 (by decide) ?_
          exact jg_iret (rfl) dX0_touch_125 ⟨_, rfl, ⟨by simp [bI, tchF, *], rfl⟩⟩
        · refine jg_iconst (v := 1) dX0_touch_120 (by decide) ?_
          refine jg_goto 125 dX0_touch_121 (by decide) ?_
          exact jg_iret (rfl) dX0_touch_125 ⟨_, rfl, ⟨by simp [bI, tchF, *], rfl⟩⟩
set_option maxHeartbeats 4000000 in
set_option maxRecDepth 20000 in
theorem c0_leftOf (E : gT) {b : Nat} (hb : isPl b) (u : Mm) (p : Pic) (hp : PicOk p) (hL : PlL b u p) (a : Nat) (ha : a < pn p) : Con E yX0_leftOf cX0_leftOf 4 (some .int) 1 [.ref (E.2.1 b), .int (nI a)] u (kI (fun r u2 => r = nI (setF (fun b => decide (p0F p b < p0F p a) && decide (p1F p b < p1F p a)) (pn p)) ∧ u = u2)) := by
  have hn := hp.1
  refine Con.of (lv := [some (.ref (E.2.1 b)), some (.int (nI a)), none, none]) (by decide +kernel) (Nat.le_of_ble_eq_true rfl) rfl ?_
  refine jg_iconst (v := 0) dX0_leftOf_0 (by decide) ?_
  refine jg_istore_n dX0_leftOf_1 rfl (by decide) rfl ?_
  refine jg_iconst (v := 0) dX0_leftOf_2 (by decide) ?_
  refine jg_istore_n dX0_leftOf_3 rfl (by decide) rfl ?_
  have cut_4 : ∀ (m i : Nat), i ≤ pn p → pn p < i + m → G E cX0_leftOf 4 (yX0_leftOf).cls (some .int) 1 (kI (fun r u2 => r = nI (setF (fun b => decide (p0F p b < p0F p a) && decide (p1F p b < p1F p a)) (pn p)) ∧ u = u2)) 4 [some (.ref (E.2.1 b)), some (.int (nI a)), some (.int (nI (setF (fun b => decide (p0F p b < p0F p a) && decide (p1F p b < p1F p a)) i))), some (.int (nI i))] [] u := by
    intro m
    induction m with
    | zero => intro i h1 h2; omega
    | succ m ih =>
      intro i hi hm
      refine jg_iload_n dX0_leftOf_4 rfl rfl ?_
      refine jg_aload_n dX0_leftOf_5 rfl rfl ?_
      refine jg_geti fk_X0_41 (pl_0 hb) rfl dX0_leftOf_6 ?_
      refine jg_top (y := nI (pn p)) (hL.1.1) ?_
      refine jn_icmp_ge i (pn p) rfl rfl (by omega) (by omega) 33 dX0_leftOf_9 (by decide) (fun h_9 => ?_) (fun h_9 => ?_)
      · obtain rfl : i = pn p := by omega
        refine jg_iload_n dX0_leftOf_33 rfl rfl ?_
        exact jg_iret (rfl) dX0_leftOf_34 ⟨_, rfl, ⟨rfl, rfl⟩⟩
      · refine jg_aload_n dX0_leftOf_12 rfl rfl ?_
        refine jg_iload_n dX0_leftOf_13 rfl rfl ?_
        refine jg_iload_n dX0_leftOf_14 rfl rfl ?_
        refine jg_callV (c0_isLeft E hb u p hp hL i a h_9 ha) me_X0_isLeft ml_X0_84 (pl_0 hb) rfl rfl (by decide) (by decide) rfl (Nat.le_of_ble_eq_true rfl) dX0_leftOf_15 (kk_I (fun r_15 u_15 h_15 => ?_))
        obtain ⟨rfl, rfl⟩ := h_15
        refine jb_if_eq 27 dX0_leftOf_18 (by decide) (fun h_18 => ?_) (fun h_18 => ?_)
        · have eS : setF (fun b => decide (p0F p b < p0F p a) && decide (p1F p b < p1F p a)) (i + 1) = setF (fun b => decide (p0F p b < p0F p a) && decide (p1F p b < p1F p a)) i := setF_no (c := fun b => decide (p0F p b < p0F p a) && decide (p1F p b < p1F p a)) h_18
          refine jg_iinc (v := nI (i + 1)) dX0_leftOf_27 rfl (nI_1 i) (by decide) rfl ?_
          refine jg_goto 4 dX0_leftOf_30 (by decide) ?_
          have ih2 := ih (i + 1) (by omega) (by omega)
          first | exact ih2 | (rw [eS] at ih2; exact ih2)
        · have eS : True := trivial
          refine jg_iload_n dX0_leftOf_21 rfl rfl ?_
          refine jg_iconst (v := 1) dX0_leftOf_22 (by decide) ?_
          refine jg_iload_n dX0_leftOf_23 rfl rfl ?_
          refine jg_ishl dX0_leftOf_24 ?_
          refine jg_iorE (z := nI (setF (fun b => decide (p0F p b < p0F p a) && decide (p1F p b < p1F p a)) (i + 1))) dX0_leftOf_25 (orC (fun b => decide (p0F p b < p0F p a) && decide (p1F p b < p1F p a)) (by omega) h_18) ?_
          refine jg_istore_n dX0_leftOf_26 rfl (by decide) rfl ?_
          refine jg_iinc (v := nI (i + 1)) dX0_leftOf_27 rfl (nI_1 i) (by decide) rfl ?_
          refine jg_goto 4 dX0_leftOf_30 (by decide) ?_
          have ih2 := ih (i + 1) (by omega) (by omega)
          first | exact ih2 | (rw [eS] at ih2; exact ih2)
  exact cut_4 (pn p + 1) 0 (Nat.zero_le _) (by omega)
set_option maxHeartbeats 4000000 in
set_option maxRecDepth 20000 in
theorem c0_aboveOf (E : gT) {b : Nat} (hb : isPl b) (u : Mm) (p : Pic) (hp : PicOk p) (hL : PlL b u p) (a : Nat) (ha : a < pn p) : Con E yX0_aboveOf cX0_aboveOf 4 (some .int) 1 [.ref (E.2.1 b), .int (nI a)] u (kI (fun r u2 => r = nI (setF (fun b => decide (p0F p b < p0F p a) && decide (p1F p a < p1F p b)) (pn p)) ∧ u = u2)) := by
  have hn := hp.1
  refine Con.of (lv := [some (.ref (E.2.1 b)), some (.int (nI a)), none, none]) (by decide +kernel) (Nat.le_of_ble_eq_true rfl) rfl ?_
  refine jg_iconst (v := 0) dX0_aboveOf_0 (by decide) ?_
  refine jg_istore_n dX0_aboveOf_1 rfl (by decide) rfl ?_
  refine jg_iconst (v := 0) dX0_aboveOf_2 (by decide) ?_
  refine jg_istore_n dX0_aboveOf_3 rfl (by decide) rfl ?_
  have cut_4 : ∀ (m i : Nat), i ≤ pn p → pn p < i + m → G E cX0_aboveOf 4 (yX0_aboveOf).cls (some .int) 1 (kI (fun r u2 => r = nI (setF (fun b => decide (p0F p b < p0F p a) && decide (p1F p a < p1F p b)) (pn p)) ∧ u = u2)) 4 [some (.ref (E.2.1 b)), some (.int (nI a)), some (.int (nI (setF (fun b => decide (p0F p b < p0F p a) && decide (p1F p a < p1F p b)) i))), some (.int (nI i))] [] u := by
    intro m
    induction m with
    | zero => intro i h1 h2; omega
    | succ m ih =>
      intro i hi hm
      refine jg_iload_n dX0_aboveOf_4 rfl rfl ?_
      refine jg_aload_n dX0_aboveOf_5 rfl rfl ?_
      refine jg_geti fk_X0_41 (pl_0 hb) rfl dX0_aboveOf_6 ?_
      refine jg_top (y := nI (pn p)) (hL.1.1) ?_
      refine jn_icmp_ge i (pn p) rfl rfl (by omega) (by omega) 33 dX0_aboveOf_9 (by decide) (fun h_9 => ?_) (fun h_9 => ?_)
      · obtain rfl : i = pn p := by omega
        refine jg_iload_n dX0_aboveOf_33 rfl rfl ?_
        exact jg_iret (rfl) dX0_aboveOf_34 ⟨_, rfl, ⟨rfl, rfl⟩⟩
      · refine jg_aload_n dX0_aboveOf_12 rfl rfl ?_
        refine jg_iload_n dX0_aboveOf_13 rfl rfl ?_
        refine jg_iload_n dX0_aboveOf_14 rfl rfl ?_
        refine jg_callV (c0_isAbove E hb u p hp hL i a h_9 ha) me_X0_isAbove ml_X0_88 (pl_0 hb) rfl rfl (by decide) (by decide) rfl (Nat.le_of_ble_eq_true rfl) dX0_aboveOf_15 (kk_I (fun r_15 u_15 h_15 => ?_))
        obtain ⟨rfl, rfl⟩ := h_15
        refine jb_if_eq 27 dX0_aboveOf_18 (by decide) (fun h_18 => ?_) (fun h_18 => ?_)
        · have eS : setF (fun b => decide (p0F p b < p0F p a) && decide (p1F p a < p1F p b)) (i + 1) = setF (fun b => decide (p0F p b < p0F p a) && decide (p1F p a < p1F p b)) i := setF_no (c := fun b => decide (p0F p b < p0F p a) && decide (p1F p a < p1F p b)) h_18
          refine jg_iinc (v := nI (i + 1)) dX0_aboveOf_27 rfl (nI_1 i) (by decide) rfl ?_
          refine jg_goto 4 dX0_aboveOf_30 (by decide) ?_
          have ih2 := ih (i + 1) (by omega) (by omega)
          first | exact ih2 | (rw [eS] at ih2; exact ih2)
        · have eS : True := trivial
          refine jg_iload_n dX0_aboveOf_21 rfl rfl ?_
          refine jg_iconst (v := 1) dX0_aboveOf_22 (by decide) ?_
          refine jg_iload_n dX0_aboveOf_23 rfl rfl ?_
          refine jg_ishl dX0_aboveOf_24 ?_
          refine jg_iorE (z := nI (setF (fun b => decide (p0F p b < p0F p a) && decide (p1F p a < p1F p b)) (i + 1))) dX0_aboveOf_25 (orC (fun b => decide (p0F p b < p0F p a) && decide (p1F p a < p1F p b)) (by omega) h_18) ?_
          refine jg_istore_n dX0_aboveOf_26 rfl (by decide) rfl ?_
          refine jg_iinc (v := nI (i + 1)) dX0_aboveOf_27 rfl (nI_1 i) (by decide) rfl ?_
          refine jg_goto 4 dX0_aboveOf_30 (by decide) ?_
          have ih2 := ih (i + 1) (by omega) (by omega)
          first | exact ih2 | (rw [eS] at ih2; exact ih2)
  exact cut_4 (pn p + 1) 0 (Nat.zero_le _) (by omega)
set_option maxHeartbeats 4000000 in
set_option maxRecDepth 20000 in
theorem c0_touching (E : gT) {b : Nat} (hb : isPl b) (u : Mm) (p : Pic) (hp : PicOk p) (hL : PlL b u p) (a : Nat) (ha : a < pn p) : Con E yX0_touching cX0_touching 4 (some .int) 2 [.ref (E.2.1 b), .int (nI a)] u (kI (fun r u2 => r = nI (setF (tchF p a) (pn p)) ∧ u = u2)) := by
  have hn := hp.1
  refine Con.of (lv := [some (.ref (E.2.1 b)), some (.int (nI a)), none, none]) (by decide +kernel) (Nat.le_of_ble_eq_true rfl) rfl ?_
  refine jg_iconst (v := 0) dX0_touching_0 (by decide) ?_
  refine jg_istore_n dX0_touching_1 rfl (by decide) rfl ?_
  refine jg_iconst (v := 0) dX0_touching_2 (by decide) ?_
  refine jg_istore_n dX0_touching_3 rfl (by decide) rfl ?_
  have cut_4 : ∀ (m i : Nat), i ≤ pn p → pn p < i + m → G E cX0_touching 4 (yX0_touching).cls (some .int) 2 (kI (fun r u2 => r = nI (setF (tchF p a) (pn p)) ∧ u = u2)) 4 [some (.ref (E.2.1 b)), some (.int (nI a)), some (.int (nI (setF (tchF p a) i))), some (.int (nI i))] [] u := by
    intro m
    induction m with
    | zero => intro i h1 h2; omega
    | succ m ih =>
      intro i hi hm
      refine jg_iload_n dX0_touching_4 rfl rfl ?_
      refine jg_aload_n dX0_touching_5 rfl rfl ?_
      refine jg_geti fk_X0_41 (pl_0 hb) rfl dX0_touching_6 ?_
      refine jg_top (y := nI (pn p)) (hL.1.1) ?_
      refine jn_icmp_ge i (pn p) rfl rfl (by omega) (by omega) 33 dX0_touching_9 (by decide) (fun h_9 => ?_) (fun h_9 => ?_)
      · obtain rfl : i = pn p := by omega
        refine jg_iload_n dX0_touching_33 rfl rfl ?_
        exact jg_iret (rfl) dX0_touching_34 ⟨_, rfl, ⟨rfl, rfl⟩⟩
      · refine jg_aload_n dX0_touching_12 rfl rfl ?_
        refine jg_iload_n dX0_touching_13 rfl rfl ?_
        refine jg_iload_n dX0_touching_14 rfl rfl ?_
        refine jg_callV (c0_touch E hb u p hp hL a i ha h_9) me_X0_touch ml_X0_91 (pl_0 hb) rfl rfl (by decide) (by decide) rfl (Nat.le_of_ble_eq_true rfl) dX0_touching_15 (kk_I (fun r_15 u_15 h_15 => ?_))
        obtain ⟨rfl, rfl⟩ := h_15
        refine jb_if_eq 27 dX0_touching_18 (by decide) (fun h_18 => ?_) (fun h_18 => ?_)
        · have eS : setF (tchF p a) (i + 1) = setF (tchF p a) i := setF_no (c := tchF p a) h_18
          refine jg_iinc (v := nI (i + 1)) dX0_touching_27 rfl (nI_1 i) (by decide) rfl ?_
          refine jg_goto 4 dX0_touching_30 (by decide) ?_
          have ih2 := ih (i + 1) (by omega) (by omega)
          first | exact ih2 | (rw [eS] at ih2; exact ih2)
        · have eS : True := trivial
          refine jg_iload_n dX0_touching_21 rfl rfl ?_
          refine jg_iconst (v := 1) dX0_touching_22 (by decide) ?_
          refine jg_iload_n dX0_touching_23 rfl rfl ?_
          refine jg_ishl dX0_touching_24 ?_
          refine jg_iorE (z := nI (setF (tchF p a) (i + 1))) dX0_touching_25 (orC (tchF p a) (by omega) h_18) ?_
          refine jg_istore_n dX0_touching_26 rfl (by decide) rfl ?_
          refine jg_iinc (v := nI (i + 1)) dX0_touching_27 rfl (nI_1 i) (by decide) rfl ?_
          refine jg_goto 4 dX0_touching_30 (by decide) ?_
          have ih2 := ih (i + 1) (by omega) (by omega)
          first | exact ih2 | (rw [eS] at ih2; exact ih2)
  exact cut_4 (pn p + 1) 0 (Nat.zero_le _) (by omega)
