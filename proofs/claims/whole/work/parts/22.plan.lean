set_option maxHeartbeats 4000000 in
set_option maxRecDepth 20000 in
theorem c0_findPlaces (E : gT) {b : Nat} (hb : isPl b) (u : Mm) (p : Pic) (hp : PicOk p) (hP : PlB b u p) : Con E yX0_findPlaces cX0_findPlaces 2 none 0 [.ref (E.2.1 b)] u (kV (fun u2 => (∀ k, k ≠ b + 9 → k ≠ b + 10 → u2 k = u k) ∧ ∀ i, i < pn p → u2 (b + 9) (p 6 i) = nI i ∧ u2 (b + 10) (p 7 i) = nI i)) := by
  have hn := hp.1
  refine Con.of (lv := [some (.ref (E.2.1 b)), none]) (by decide +kernel) (Nat.le_of_ble_eq_true rfl) rfl ?_
  refine jg_iconst (v := 0) dX0_findPlaces_0 (by decide) ?_
  refine jg_istore_n dX0_findPlaces_1 rfl (by decide) rfl ?_
  have cut_2 : ∀ (m i : Nat) (v : Mm), i ≤ pn p → pn p < i + m → (∀ k, k ≠ b + 9 → k ≠ b + 10 → v k = u k) → (∀ q, q < i → v (b + 9) (p 6 q) = nI q ∧ v (b + 10) (p 7 q) = nI q) → G E cX0_findPlaces 2 (yX0_findPlaces).cls none 0 (kV (fun u2 => (∀ k, k ≠ b + 9 → k ≠ b + 10 → u2 k = u k) ∧ ∀ i, i < pn p → u2 (b + 9) (p 6 i) = nI i ∧ u2 (b + 10) (p 7 i) = nI i)) 2 [some (.ref (E.2.1 b)), some (.int (nI i))] [] v := by
    intro m
    induction m with
    | zero => intro i v h1 h2; omega
    | succ m ih =>
      intro i v hi hm hfr hq
      refine jg_iload_n dX0_findPlaces_2 rfl rfl ?_
      refine jg_aload_n dX0_findPlaces_3 rfl rfl ?_
      refine jg_geti fk_X0_41 (pl_0 hb) rfl dX0_findPlaces_4 ?_
      refine jg_top (y := nI (pn p)) ((congrFun (hfr b (by omega) (by omega)) 0).trans hP.1) ?_
      refine jn_icmp_ge i (pn p) rfl rfl (by omega) (by omega) 48 dX0_findPlaces_7 (by decide) (fun h_7 => ?_) (fun h_7 => ?_)
      · exact jg_vret dX0_findPlaces_48 ⟨rfl, ⟨hfr, fun q hq2 => hq q (by omega)⟩⟩
      · have h6 := hp.2.2.1.1 i h_7
        have h7 := hp.2.2.2.1 i h_7
        refine jg_aload_n dX0_findPlaces_10 rfl rfl ?_
        refine jg_getr fk_X0_29 (pl_0 hb) rfl dX0_findPlaces_11 ?_
        refine jg_iconst (v := 0) dX0_findPlaces_14 (by decide) ?_
        refine jg_aald 0 (pl_8 hb) rfl (Nat.le_of_ble_eq_true rfl) rfl dX0_findPlaces_15 ?_
        refine jg_aload_n dX0_findPlaces_16 rfl rfl ?_
        refine jg_getr fk_X0_26 (pl_0 hb) rfl dX0_findPlaces_17 ?_
        refine jg_iconst (v := 0) dX0_findPlaces_20 (by decide) ?_
        refine jg_aald 0 (pl_5 hb) rfl (Nat.le_of_ble_eq_true rfl) rfl dX0_findPlaces_21 ?_
        refine jg_iload_n dX0_findPlaces_22 rfl rfl ?_
        refine jg_ld i (pl_6 hb) (by omega) (rfl) dX0_findPlaces_23 ?_
        refine jg_top (y := nI (p 6 i)) (by rw [hfr (b + 6) (by omega) (by omega)]; exact (hP.2 i h_7).2.2.2.1) ?_
        refine jg_iload_n dX0_findPlaces_24 rfl rfl ?_
        refine jg_st (p 6 i) (pl_9 hb) (by omega) (rfl) dX0_findPlaces_25 ?_
        refine jg_aload_n dX0_findPlaces_26 rfl rfl ?_
        refine jg_getr fk_X0_29 (pl_0 hb) rfl dX0_findPlaces_27 ?_
        refine jg_iconst (v := 1) dX0_findPlaces_30 (by decide) ?_
        refine jg_aald 1 (pl_8 hb) rfl (Nat.le_of_ble_eq_true rfl) rfl dX0_findPlaces_31 ?_
        refine jg_aload_n dX0_findPlaces_32 rfl rfl ?_
        refine jg_getr fk_X0_26 (pl_0 hb) rfl dX0_findPlaces_33 ?_
        refine jg_iconst (v := 1) dX0_findPlaces_36 (by decide) ?_
        refine jg_aald 1 (pl_5 hb) rfl (Nat.le_of_ble_eq_true rfl) rfl dX0_findPlaces_37 ?_
        refine jg_iload_n dX0_findPlaces_38 rfl rfl ?_
        refine jg_ld i (pl_7 hb) (by omega) (rfl) dX0_findPlaces_39 ?_
        refine jg_top (y := nI (p 7 i)) (by rw [s2_row (by omega), hfr (b + 7) (by omega) (by omega)]; exact (hP.2 i h_7).2.2.2.2) ?_
        refine jg_iload_n dX0_findPlaces_40 rfl rfl ?_
        refine jg_st (p 7 i) (pl_10 hb) (by omega) (rfl) dX0_findPlaces_41 ?_
        refine jg_iinc (v := nI (i + 1)) dX0_findPlaces_42 rfl (nI_1 i) (by decide) rfl ?_
        refine jg_goto 2 dX0_findPlaces_45 (by decide) ?_
        exact ih (i + 1) _ (by omega) (by omega) (fun k h1 h2 => by rw [s2_row h2, s2_row h1]; exact hfr k h1 h2) (fun q h => ⟨by rw [s2_row (by omega), s2_at]; exact upd_run hp.2.2.1.2.1 h_7 (fun a ha => (hq a ha).1) q h, by rw [s2_at, s2_row (by omega)]; exact upd_run hp.2.2.2.2.1 h_7 (fun a ha => (hq a ha).2) q h⟩)
  exact cut_2 (pn p + 1) 0 u (Nat.zero_le _) (by omega) (fun _ _ _ => rfl) (fun q h => by omega)
set_option maxHeartbeats 4000000 in
set_option maxRecDepth 20000 in
theorem c0_sizeOf (E : gT) {b : Nat} (hb : isPl b) (u : Mm) (p : Pic) (hp : PicOk p) (hP : PlB b u p) (i : Nat) (hi : i < pn p) : Con E yX0_sizeOf cX0_sizeOf 2 (some .int) 0 [.ref (E.2.1 b), .int (nI i)] u (kI (fun r u2 => r = nI (szF p i) ∧ u = u2)) := by
  have hn := hp.1
  have hk := (hp.2.1 i hi).1
  refine Con.of (lv := [some (.ref (E.2.1 b)), some (.int (nI i))]) (by decide +kernel) (Nat.le_of_ble_eq_true rfl) rfl ?_
  refine jg_aload_n dX0_sizeOf_0 rfl rfl ?_
  refine jg_getr fk_X0_9 (pl_0 hb) rfl dX0_sizeOf_1 ?_
  refine jg_iload_n dX0_sizeOf_4 rfl rfl ?_
  refine jg_ld i (pl_1 hb) (by omega) (rfl) dX0_sizeOf_5 ?_
  refine jg_top (y := nI (p 1 i)) ((hP.2 i hi).1) ?_
  rcases (show p 1 i = 2 ∨ p 1 i = 1 ∨ p 1 i = 0 by omega) with e | e | e
  · refine jg_top (congrArg nI e) ?_
    refine jg_lookup (off := 26) 32 dX0_sizeOf_6 (by decide +kernel) (by decide +kernel) (by decide) ?_
    refine jg_iconst (v := 2) dX0_sizeOf_32 (by decide) ?_
    refine jg_aload_n dX0_sizeOf_33 rfl rfl ?_
    refine jg_getr fk_X0_15 (pl_0 hb) rfl dX0_sizeOf_34 ?_
    refine jg_iload_n dX0_sizeOf_37 rfl rfl ?_
    refine jg_ld i (pl_2 hb) (by omega) (rfl) dX0_sizeOf_38 ?_
    refine jg_top (y := nI (p 2 i)) ((hP.2 i hi).2.1) ?_
    refine jg_imulE (z := nI (2 * (p 2 i))) dX0_sizeOf_39 (pk_mul 2 (p 2 i)) ?_
    exact jg_iret (rfl) dX0_sizeOf_40 ⟨_, rfl, ⟨by simp [szF, e], rfl⟩⟩
  · refine jg_top (congrArg nI e) ?_
    refine jg_lookup (off := 35) 41 dX0_sizeOf_6 (by decide +kernel) (by decide +kernel) (by decide) ?_
    refine jg_aload_n dX0_sizeOf_41 rfl rfl ?_
    refine jg_getr fk_X0_15 (pl_0 hb) rfl dX0_sizeOf_42 ?_
    refine jg_iload_n dX0_sizeOf_45 rfl rfl ?_
    refine jg_ld i (pl_2 hb) (by omega) (rfl) dX0_sizeOf_46 ?_
    refine jg_top (y := nI (p 2 i)) ((hP.2 i hi).2.1) ?_
    refine jg_iconst (v := 1) dX0_sizeOf_47 (by decide) ?_
    refine jg_iaddE (z := nI ((p 2 i) + 1)) dX0_sizeOf_48 (nI_add (p 2 i) 1) ?_
    exact jg_iret (rfl) dX0_sizeOf_49 ⟨_, rfl, ⟨by simp [szF, e], rfl⟩⟩
  · refine jg_top (congrArg nI e) ?_
    refine jg_lookup (off := 44) 50 dX0_sizeOf_6 (by decide +kernel) (by decide +kernel) (by decide) ?_
    refine jg_aload_n dX0_sizeOf_50 rfl rfl ?_
    refine jg_getr fk_X0_15 (pl_0 hb) rfl dX0_sizeOf_51 ?_
    refine jg_iload_n dX0_sizeOf_54 rfl rfl ?_
    refine jg_ld i (pl_2 hb) (by omega) (rfl) dX0_sizeOf_55 ?_
    refine jg_top (y := nI (p 2 i)) ((hP.2 i hi).2.1) ?_
    exact jg_iret (rfl) dX0_sizeOf_56 ⟨_, rfl, ⟨by simp [szF, e], rfl⟩⟩
set_option maxHeartbeats 4000000 in
set_option maxRecDepth 20000 in
theorem c0_heightOf (E : gT) {b : Nat} (hb : isPl b) (u : Mm) (p : Pic) (hp : PicOk p) (hP : PlB b u p) (i : Nat) (hi : i < pn p) : Con E yX0_heightOf cX0_heightOf 3 (some .int) 1 [.ref (E.2.1 b), .int (nI i)] u (kI (fun r u2 => r = nI (hgF p i) ∧ u = u2)) := by
  have hn := hp.1
  have hk := hp.2.1 i hi
  have hs : szF p i ≤ 18 := by unfold szF; split <;> (try split) <;> omega
  refine Con.of (lv := [some (.ref (E.2.1 b)), some (.int (nI i)), none]) (by decide +kernel) (Nat.le_of_ble_eq_true rfl) rfl ?_
  refine jg_aload_n dX0_heightOf_0 rfl rfl ?_
  refine jg_getr fk_X0_18 (pl_0 hb) rfl dX0_heightOf_1 ?_
  refine jg_iload_n dX0_heightOf_4 rfl rfl ?_
  refine jg_ld i (pl_3 hb) (by omega) (rfl) dX0_heightOf_5 ?_
  refine jg_top (y := nI (p 3 i)) ((hP.2 i hi).2.2.1) ?_
  refine jg_istore_n dX0_heightOf_6 rfl (by decide) rfl ?_
  refine jg_iload_n dX0_heightOf_7 rfl rfl ?_
  refine jg_iconst (v := 1) dX0_heightOf_8 (by decide) ?_
  refine jn_icmp_ge (p 3 i) 1 rfl rfl (by omega) (by omega) 16 dX0_heightOf_9 (by decide) (fun h_9 => ?_) (fun h_9 => ?_)
  · refine jg_aload_n dX0_heightOf_16 rfl rfl ?_
    refine jg_iload_n dX0_heightOf_17 rfl rfl ?_
    refine jg_callV (c0_sizeOf E hb u p hp hP i hi) me_X0_sizeOf ml_X0_81 (pl_0 hb) rfl rfl (by decide) (by decide) rfl (Nat.le_of_ble_eq_true rfl) dX0_heightOf_18 (kk_I (fun r_18 u_18 h_18 => ?_))
    obtain ⟨rfl, rfl⟩ := h_18
    refine jg_iload_n dX0_heightOf_21 rfl rfl ?_
    refine jg_iaddE (z := nI ((szF p i) + (p 3 i))) dX0_heightOf_22 (nI_add (szF p i) (p 3 i)) ?_
    refine jg_iconst (v := 1) dX0_heightOf_23 (by decide) ?_
    refine jg_isubE (z := nI (szF p i + p 3 i - 1)) dX0_heightOf_24 (pk_sub (a := szF p i + p 3 i) (b := 1) (by omega)) ?_
    refine jg_iload_n dX0_heightOf_25 rfl rfl ?_
    refine jg_idivE (z := nI (hgF p i)) dX0_heightOf_26 (nI_ne0 (by omega) (by omega)) (pk_div (by omega) (by omega) (by omega)) ?_
    exact jg_iret (rfl) dX0_heightOf_27 ⟨_, rfl, ⟨by first | rfl | (unfold hgF; rw [show p 3 i = 0 by omega, Nat.div_zero]; rfl), rfl⟩⟩
  · refine jg_iconst (v := 0) dX0_heightOf_12 (by decide) ?_
    refine jg_goto 27 dX0_heightOf_13 (by decide) ?_
    exact jg_iret (rfl) dX0_heightOf_27 ⟨_, rfl, ⟨by first | rfl | (unfold hgF; rw [show p 3 i = 0 by omega, Nat.div_zero]; rfl), rfl⟩⟩
set_option maxHeartbeats 4000000 in
set_option maxRecDepth 20000 in
theorem c0_begin (E : gT) {b : Nat} (hb : isPl b) (u : Mm) (p : Pic) (hp : PicOk p) (hP : PlB b u p) (j : Nat) (hj : j < pn p) (h1 : ∀ a, a < pn p → u (b + 10) a = nI (p1F p a)) (h2 : ∀ q, q < j → u (b + 11) (p 6 q) = nI (hgF p (p 6 q)) ∧ u (b + 12) (p 6 q) = nI (xF p (p 6 q)) ∧ u (b + 13) (p 6 q) = nI (yF p (p 6 q))) : Con E yX0_begin cX0_begin 7 none 1 [.ref (E.2.1 b), .int (nI (p 6 j)), .int (nI j)] u (kV (fun u2 => u2 = s2 (s2 u (b + 12) (p 6 j) (nI (xF p (p 6 j)))) (b + 13) (p 6 j) (nI (yF p (p 6 j))))) := by
  have hn := hp.1
  have hj6 := hp.2.2.1.1 j hj
  have b2 : p1F p (p 6 j) < pn p := inv_lt hp.2.2.2 hj6
  refine Con.of (lv := [some (.ref (E.2.1 b)), some (.int (nI (p 6 j))), some (.int (nI j)), none, none, none, none]) (by decide +kernel) (Nat.le_of_ble_eq_true rfl) rfl ?_
  refine jg_iconst (v := 0) dX0_begin_0 (by decide) ?_
  refine jg_istore_n dX0_begin_1 rfl (by decide) rfl ?_
  refine jg_iconst (v := 0) dX0_begin_2 (by decide) ?_
  refine jg_istore dX0_begin_3 (by decide) rfl ?_
  refine jg_iconst (v := 0) dX0_begin_5 (by decide) ?_
  refine jg_istore dX0_begin_6 (by decide) rfl ?_
  have cut_8 : ∀ (m q : Nat), q ≤ j → j < q + m → G E cX0_begin 7 (yX0_begin).cls none 1 (kV (fun u2 => u2 = s2 (s2 u (b + 12) (p 6 j) (nI (xF p (p 6 j)))) (b + 13) (p 6 j) (nI (yF p (p 6 j))))) 8 [some (.ref (E.2.1 b)), some (.int (nI (p 6 j))), some (.int (nI j)), some (.int (nI (mF (cX p) (p 3) (p 6) (xF p) (p 6 j) q))), some (.int (nI (mF (cY p) (hgF p) (p 6) (yF p) (p 6 j) q))), some (.int (nI q)), none] [] u := by
    intro m
    induction m with
    | zero => intro q h1 h2; omega
    | succ m ih =>
      intro q hq hm
      refine jg_iload dX0_begin_8 rfl ?_
      refine jg_iload_n dX0_begin_10 rfl rfl ?_
      refine jn_icmp_ge q j rfl rfl (by omega) (by omega) 96 dX0_begin_11 (by decide) (fun h_11 => ?_) (fun h_11 => ?_)
      · obtain rfl : j = q := by omega
        refine jg_aload_n dX0_begin_96 rfl rfl ?_
        refine jg_getr fk_X0_35 (pl_0 hb) rfl dX0_begin_97 ?_
        refine jg_iload_n dX0_begin_100 rfl rfl ?_
        refine jg_iload_n dX0_begin_101 rfl rfl ?_
        refine jg_st (p 6 j) (pl_12 hb) (by omega) (rfl) dX0_begin_102 ?_
        refine jg_aload_n dX0_begin_103 rfl rfl ?_
        refine jg_getr fk_X0_38 (pl_0 hb) rfl dX0_begin_104 ?_
        refine jg_iload_n dX0_begin_107 rfl rfl ?_
        refine jg_iload dX0_begin_108 rfl ?_
        refine jg_st (p 6 j) (pl_13 hb) (by omega) (rfl) dX0_begin_110 ?_
        exact jg_vret dX0_begin_111 ⟨rfl, by rw [xF_eq hp hj, yF_eq hp hj]⟩
      · have hq6 := hp.2.2.1.1 q (by omega)
        have b1 : p1F p (p 6 q) < pn p := inv_lt hp.2.2.2 hq6
        have bx := xF_le hp hq6
        have bY := yF_le hp hq6
        have bw := (hp.2.1 _ hq6).2.2
        have bh := hgF_le hp hq6
        have bm : mF (cX p) (p 3) (p 6) (xF p) (p 6 j) q ≤ 63 := mF_le q (fun a ha => by have := hp.2.2.1.1 a (by omega); have := xF_le hp this; have := (hp.2.1 _ (hp.2.2.1.1 a (by omega))).2.2; omega)
        have bn : mF (cY p) (hgF p) (p 6) (yF p) (p 6 j) q ≤ 126 := mF_le q (fun a ha => by have := hp.2.2.1.1 a (by omega); have := yF_le hp this; have := hgF_le hp (hp.2.2.1.1 a (by omega)); omega)
        have hne : p1F p (p 6 q) ≠ p1F p (p 6 j) := fun z => by have z1 := inv_inj hp.2.2.2 hq6 hj6 z; have z2 := hp.2.2.1.2.1 q j (by omega) hj z1; omega
        refine jg_aload_n dX0_begin_14 rfl rfl ?_
        refine jg_getr fk_X0_26 (pl_0 hb) rfl dX0_begin_15 ?_
        refine jg_iconst (v := 0) dX0_begin_18 (by decide) ?_
        refine jg_aald 0 (pl_5 hb) rfl (Nat.le_of_ble_eq_true rfl) rfl dX0_begin_19 ?_
        refine jg_iload dX0_begin_20 rfl ?_
        refine jg_ld q (pl_6 hb) (by omega) (rfl) dX0_begin_22 ?_
        refine jg_top (y := nI (p 6 q)) ((hP.2 q (by omega)).2.2.2.1) ?_
        refine jg_istore dX0_begin_23 (by decide) rfl ?_
        refine jg_aload_n dX0_begin_25 rfl rfl ?_
        refine jg_getr fk_X0_29 (pl_0 hb) rfl dX0_begin_26 ?_
        refine jg_iconst (v := 1) dX0_begin_29 (by decide) ?_
        refine jg_aald 1 (pl_8 hb) rfl (Nat.le_of_ble_eq_true rfl) rfl dX0_begin_30 ?_
        refine jg_iload dX0_begin_31 rfl ?_
        refine jg_ld (p 6 q) (pl_10 hb) (by omega) (rfl) dX0_begin_33 ?_
        refine jg_top (y := nI (p1F p (p 6 q))) (h1 _ hq6) ?_
        refine jg_aload_n dX0_begin_34 rfl rfl ?_
        refine jg_getr fk_X0_29 (pl_0 hb) rfl dX0_begin_35 ?_
        refine jg_iconst (v := 1) dX0_begin_38 (by decide) ?_
        refine jg_aald 1 (pl_8 hb) rfl (Nat.le_of_ble_eq_true rfl) rfl dX0_begin_39 ?_
        refine jg_iload_n dX0_begin_40 rfl rfl ?_
        refine jg_ld (p 6 j) (pl_10 hb) (by omega) (rfl) dX0_begin_41 ?_
        refine jg_top (y := nI (p1F p (p 6 j))) (h1 _ hj6) ?_
        refine jn_icmp_ge (p1F p (p 6 q)) (p1F p (p 6 j)) rfl rfl (by omega) (by omega) 68 dX0_begin_42 (by decide) (fun h_42 => ?_) (fun h_42 => ?_)
        · have eX : mF (cX p) (p 3) (p 6) (xF p) (p 6 j) (q + 1) = mF (cX p) (p 3) (p 6) (xF p) (p 6 j) q := by show (if _ then _ else _) = _; rw [if_neg (by simp only [cX, decide_eq_true_eq]; omega)]
          have eY : mF (cY p) (hgF p) (p 6) (yF p) (p 6 j) (q + 1) = max (mF (cY p) (hgF p) (p 6) (yF p) (p 6 j) q) (yF p (p 6 q) + hgF p (p 6 q)) := by show (if _ then _ else _) = _; rw [if_pos (by simp only [cY, decide_eq_true_eq]; omega)]
          refine jg_iload dX0_begin_68 rfl ?_
          refine jg_aload_n dX0_begin_70 rfl rfl ?_
          refine jg_getr fk_X0_38 (pl_0 hb) rfl dX0_begin_71 ?_
          refine jg_iload dX0_begin_74 rfl ?_
          refine jg_ld (p 6 q) (pl_13 hb) (by omega) (rfl) dX0_begin_76 ?_
          refine jg_top (y := nI (yF p (p 6 q))) ((h2 q (by omega)).2.2) ?_
          refine jg_aload_n dX0_begin_77 rfl rfl ?_
          refine jg_getr fk_X0_32 (pl_0 hb) rfl dX0_begin_78 ?_
          refine jg_iload dX0_begin_81 rfl ?_
          refine jg_ld (p 6 q) (pl_11 hb) (by omega) (rfl) dX0_begin_83 ?_
          refine jg_top (y := nI (hgF p (p 6 q))) ((h2 q (by omega)).1) ?_
          refine jg_iaddE (z := nI ((yF p (p 6 q)) + (hgF p (p 6 q)))) dX0_begin_84 (nI_add (yF p (p 6 q)) (hgF p (p 6 q))) ?_
          refine jg_max (z := nI (max (mF (cY p) (hgF p) (p 6) (yF p) (p 6 j) q) (yF p (p 6 q) + hgF p (p 6 q)))) mx_X0_75 (by decide) (Nat.le_of_ble_eq_true rfl) (mxN (by omega) (by omega)) dX0_begin_85 ?_
          refine jg_istore dX0_begin_88 (by decide) rfl ?_
          refine jg_iinc (v := nI (q + 1)) dX0_begin_90 rfl (nI_1 q) (by decide) rfl ?_
          refine jg_goto 8 dX0_begin_93 (by decide) ?_
          have ih2 := ih (q + 1) (by omega) (by omega)
          rw [eX, eY] at ih2
          exact jg_weak (gLe_s (gLe_s (gLe_s (gLe_s (gLe_s (gLe_s (gLe_n gLe_nil))))))) ih2
        · have eX : mF (cX p) (p 3) (p 6) (xF p) (p 6 j) (q + 1) = max (mF (cX p) (p 3) (p 6) (xF p) (p 6 j) q) (xF p (p 6 q) + p 3 (p 6 q)) := by show (if _ then _ else _) = _; rw [if_pos (by simp only [cX, decide_eq_true_eq]; omega)]
          have eY : mF (cY p) (hgF p) (p 6) (yF p) (p 6 j) (q + 1) = mF (cY p) (hgF p) (p 6) (yF p) (p 6 j) q := by show (if _ then _ else _) = _; rw [if_neg (by simp only [cY, decide_eq_true_eq]; omega)]
          refine jg_iload_n dX0_begin_45 rfl rfl ?_
          refine jg_aload_n dX0_begin_46 rfl rfl ?_
          refine jg_getr fk_X0_35 (pl_0 hb) rfl dX0_begin_47 ?_
          refine jg_iload dX0_begin_50 rfl ?_
          refine jg_ld (p 6 q) (pl_12 hb) (by omega) (rfl) dX0_begin_52 ?_
          refine jg_top (y := nI (xF p (p 6 q))) ((h2 q (by omega)).2.1) ?_
          refine jg_aload_n dX0_begin_53 rfl rfl ?_
          refine jg_getr fk_X0_18 (pl_0 hb) rfl dX0_begin_54 ?_
          refine jg_iload dX0_begin_57 rfl ?_
          refine jg_ld (p 6 q) (pl_3 hb) (by omega) (rfl) dX0_begin_59 ?_
          refine jg_top (y := nI (p 3 (p 6 q))) ((hP.2 _ hq6).2.2.1) ?_
          refine jg_iaddE (z := nI ((xF p (p 6 q)) + (p 3 (p 6 q)))) dX0_begin_60 (nI_add (xF p (p 6 q)) (p 3 (p 6 q))) ?_
          refine jg_max (z := nI (max (mF (cX p) (p 3) (p 6) (xF p) (p 6 j) q) (xF p (p 6 q) + p 3 (p 6 q)))) mx_X0_75 (by decide) (Nat.le_of_ble_eq_true rfl) (mxN (by omega) (by omega)) dX0_begin_61 ?_
          refine jg_istore_n dX0_begin_64 rfl (by decide) rfl ?_
          refine jg_goto 90 dX0_begin_65 (by decide) ?_
          refine jg_iinc (v := nI (q + 1)) dX0_begin_90 rfl (nI_1 q) (by decide) rfl ?_
          refine jg_goto 8 dX0_begin_93 (by decide) ?_
          have ih2 := ih (q + 1) (by omega) (by omega)
          rw [eX, eY] at ih2
          exact jg_weak (gLe_s (gLe_s (gLe_s (gLe_s (gLe_s (gLe_s (gLe_n gLe_nil))))))) ih2
  exact jg_weak (gLe_s (gLe_s (gLe_s (gLe_s (gLe_s (gLe_s (gLe_n gLe_nil))))))) (cut_8 (j + 1) 0 (Nat.zero_le _) (by omega))
