theorem wO_wO (p : Pic) (a b : Nat → Nat) : wO (wO p a) b = wO p b := by
  funext j
  unfold wO
  by_cases h : j = 7
  · rw [if_pos h, if_pos h]
  · rw [if_neg h, if_neg h, if_neg h]
theorem bi_new {p : Pic} {t : Nat} (h : t = 0 ∨ arF p t < arF p (biF p t)) : biF p (t + 1) = t := if_pos h
theorem bi_old {p : Pic} {t : Nat} (h : ¬ (t = 0 ∨ arF p t < arF p (biF p t))) : biF p (t + 1) = biF p t := if_neg h
theorem fd_at {p : Pic} {t : Nat} (h : 1 ≤ t) : fdF p t = arF p (biF p t) := by
  obtain ⟨k, rfl⟩ : ∃ k, t = k + 1 := ⟨t - 1, by omega⟩
  rfl
theorem ls_at {p : Pic} {t : Nat} (h : 1 ≤ t) : lsI p t = nI (arF p (biF p t)) := by
  obtain ⟨k, rfl⟩ : ∃ k, t = k + 1 := ⟨t - 1, by omega⟩
  rfl
theorem eu_half {A B : Nat} (h : B ≤ A) (hb : 0 < B) : 2 * (B * (A % B)) ≤ A * B := by
  have h1 := Nat.div_add_mod A B
  have h2 : 1 ≤ A / B := Nat.div_pos h hb
  have h3 := Nat.mod_lt A hb
  have h4 : B * 1 ≤ B * (A / B) := Nat.mul_le_mul_left B h2
  have h5 : 2 * (A % B) ≤ A := by omega
  have h6 : B * (2 * (A % B)) ≤ B * A := Nat.mul_le_mul_left B h5
  rw [Nat.mul_comm A B]
  rw [Nat.mul_left_comm] at h6
  exact h6
theorem PF.od {u v w : Mm} (h : ∀ k, (k < 15 ∨ 28 < k) → k ≠ 54 → v k = u k) (h2 : ∀ k, (k < 15 ∨ 28 < k) → k ≠ 54 → w k = v k) : ∀ k, (k < 15 ∨ 28 < k) → k ≠ 54 → w k = u k := fun k a b => (h2 k a b).trans (h k a b)
theorem InvC.od {u v : Mm} {g : Gh} (h : InvC u g) (f : ∀ k, (k < 15 ∨ 28 < k) → k ≠ 54 → v k = u k) : InvC v g := h.eq (fun k hk => f k (by omega) (by omega)) (by rw [f 29 (by omega) (by omega)])
set_option maxHeartbeats 4000000 in
set_option maxRecDepth 20000 in
theorem c3_findLeast (E : gT) (u : Mm) (p : Pic) (hp : PicOk p) (h1 : 1 ≤ pn p) (hP : PlB 1 u p) : Con E yX3_findLeast cX3_findLeast 5 (some .int) 4 [.ref (E.2.1 0)] u (kI (fun r u2 => r = nI (fdF p (fcN (pn p))) ∧ (∀ k, (k < 15 ∨ 28 < k) → k ≠ 54 → u2 k = u k) ∧ ∀ i, i < pn p → u2 54 i = nI (od (pn p) (biF p (fcN (pn p))) i))) := by
  have hn := hp.1
  have hT := fc_pos (pn p) (by omega)
  refine Con.of (lv := [some (.ref (E.2.1 0)), none, none, none, none]) (by decide +kernel) (Nat.le_of_ble_eq_true rfl) rfl ?_
  refine jg_iconst (v := 0) dX3_findLeast_0 (by decide) ?_
  refine jg_istore_n dX3_findLeast_1 rfl (by decide) rfl ?_
  refine jg_hmo hk_X3_209 dX3_findLeast_2 ?_
  refine jg_aload_n dX3_findLeast_5 rfl rfl ?_
  refine jg_getr fk_X3_14 sh_0 rfl dX3_findLeast_6 ?_
  refine jg_geti fk_X3_87 (pl_0 ipl_1) rfl dX3_findLeast_9 ?_
  refine jg_top (y := nI (pn p)) (hP.1) ?_
  refine jg_hmoA (pn p) (by omega) (rfl) dX3_findLeast_12 ?_
  refine jg_top (y := nI (fcN (pn p))) (fc_hmo (pn p) (by omega)) ?_
  refine jg_istore_n dX3_findLeast_13 rfl (by decide) rfl ?_
  refine jg_aload_n dX3_findLeast_14 rfl rfl ?_
  refine jg_getr fk_X3_18 sh_0 rfl dX3_findLeast_15 ?_
  refine jg_aload_n dX3_findLeast_18 rfl rfl ?_
  refine jg_getr fk_X3_14 sh_0 rfl dX3_findLeast_19 ?_
  refine jg_callV (c0_becomeLike E ipl_15 ipl_1 (by decide) u p hp hP) me_X0_becomeLike ml_X3_80 (pl_0 ipl_15) rfl rfl (by decide) (by decide) rfl (Nat.le_of_ble_eq_true rfl) dX3_findLeast_22 (kk_V (fun u_22 h_22 => ?_))
  obtain ⟨hF0, hL0, -⟩ := h_22
  refine jg_aload_n dX3_findLeast_25 rfl rfl ?_
  refine jg_getr fk_X3_18 sh_0 rfl dX3_findLeast_26 ?_
  refine jg_callV (c0_startOrders E ipl_15 u_22 (pn p) hn hL0.1.1) me_X0_startOrders ml_X3_263 (pl_0 ipl_15) rfl rfl (by decide) (by decide) rfl (Nat.le_of_ble_eq_true rfl) dX3_findLeast_29 (kk_V (fun u_29 h_29 => ?_))
  obtain ⟨sr, s7⟩ := h_29
  refine jg_iconst (v := 0) dX3_findLeast_32 (by decide) ?_
  refine jg_istore_n dX3_findLeast_33 rfl (by decide) rfl ?_
  have cut_34 : ∀ (m t : Nat) (x : Mm), t ≤ fcN (pn p) → fcN (pn p) < t + m → (∀ k, (k < 15 ∨ 28 < k) → k ≠ 54 → x k = u k) → PlB 15 x (wO p (od (pn p) t)) → (1 ≤ t → ∀ i, i < pn p → x 54 i = nI (od (pn p) (biF p t) i)) → G E cX3_findLeast 5 (yX3_findLeast).cls (some .int) 4 (kI (fun r u2 => r = nI (fdF p (fcN (pn p))) ∧ (∀ k, (k < 15 ∨ 28 < k) → k ≠ 54 → u2 k = u k) ∧ ∀ i, i < pn p → u2 54 i = nI (od (pn p) (biF p (fcN (pn p))) i))) 34 [some (.ref (E.2.1 0)), some (.int (nI (fdF p t))), some (.int (nI (fcN (pn p)))), some (.int (nI t)), none] [] x := by
    intro m
    induction m with
    | zero => intro t x h1 h2; omega
    | succ m ih =>
      intro t x ht hm hfr hB h54
      refine jg_iload_n dX3_findLeast_34 rfl rfl ?_
      refine jg_iload_n dX3_findLeast_35 rfl rfl ?_
      refine jn_icmp_ge t (fcN (pn p)) rfl rfl (by omega) (by omega) 114 dX3_findLeast_36 (by decide) (fun h_36 => ?_) (fun h_36 => ?_)
      · obtain rfl : t = fcN (pn p) := by omega
        refine jg_iload_n dX3_findLeast_114 rfl rfl ?_
        exact jg_iret (rfl) dX3_findLeast_115 ⟨_, rfl, ⟨rfl, hfr, h54 (by omega)⟩⟩
      · have ba := arF_le hp t
        have bf : fdF p t ≤ 7938 := by rcases t with _ | t; exact Nat.zero_le _; exact arF_le hp _
        refine jg_aload_n dX3_findLeast_39 rfl rfl ?_
        refine jg_getr fk_X3_18 sh_0 rfl dX3_findLeast_40 ?_
        refine jg_callV (c0_lay E ipl_15 x (wO p (od (pn p) t)) (wO_ok hp (od_pm _ t)) hB) me_X0_lay ml_X3_133 (pl_0 ipl_15) rfl rfl (by decide) (by decide) rfl (Nat.le_of_ble_eq_true rfl) dX3_findLeast_43 (kk_V (fun u_43 h_43 => ?_))
        obtain ⟨hF1, hL1⟩ := h_43
        refine jg_aload_n dX3_findLeast_46 rfl rfl ?_
        refine jg_getr fk_X3_18 sh_0 rfl dX3_findLeast_47 ?_
        refine jg_geti fk_X3_155 (pl_0 ipl_15) rfl dX3_findLeast_50 ?_
        refine jg_top (y := nI (brP (wO p (od (pn p) t)))) (hL1.2.2.1) ?_
        refine jg_aload_n dX3_findLeast_53 rfl rfl ?_
        refine jg_getr fk_X3_18 sh_0 rfl dX3_findLeast_54 ?_
        refine jg_geti fk_X3_158 (pl_0 ipl_15) rfl dX3_findLeast_57 ?_
        refine jg_top (y := nI (dpP (wO p (od (pn p) t)))) (hL1.2.2.2) ?_
        refine jg_imulE (z := nI (arF p t)) dX3_findLeast_60 (pk_mul _ _) ?_
        refine jg_istore dX3_findLeast_61 (by decide) rfl ?_
        refine jg_iload_n dX3_findLeast_63 rfl rfl ?_
        refine jn_if_eq t rfl (by omega) 73 dX3_findLeast_64 (by decide) (fun h_64 => ?_) (fun h_64 => ?_)
        · have hup : t = 0 ∨ arF p t < arF p (biF p t) := Or.inl h_64
          refine jg_iload dX3_findLeast_73 rfl ?_
          refine jg_istore_n dX3_findLeast_75 rfl (by decide) rfl ?_
          refine jg_aload_n dX3_findLeast_76 rfl rfl ?_
          refine jg_getr fk_X3_18 sh_0 rfl dX3_findLeast_77 ?_
          refine jg_getr fk_X3_149 (pl_0 ipl_15) rfl dX3_findLeast_80 ?_
          refine jg_iconst (v := 1) dX3_findLeast_83 (by decide) ?_
          refine jg_aald 1 (pl_5 ipl_15) rfl (Nat.le_of_ble_eq_true rfl) rfl dX3_findLeast_84 ?_
          refine jg_iconst (v := 0) dX3_findLeast_85 (by decide) ?_
          refine jg_aload_n dX3_findLeast_86 rfl rfl ?_
          refine jg_getr fk_X3_34 sh_0 rfl dX3_findLeast_87 ?_
          refine jg_iconst (v := 0) dX3_findLeast_90 (by decide) ?_
          refine jg_aload_n dX3_findLeast_91 rfl rfl ?_
          refine jg_getr fk_X3_18 sh_0 rfl dX3_findLeast_92 ?_
          refine jg_geti fk_X3_87 (pl_0 ipl_15) rfl dX3_findLeast_95 ?_
          refine jg_top (y := nI (pn p)) (hL1.1.1) ?_
          refine jg_copy 0 0 (pn p) cp_X3_235 (pl_7 ipl_15) sh_54 (rfl) (rfl) (rfl) (by omega) (by omega) (by decide) (Nat.le_of_ble_eq_true rfl) dX3_findLeast_98 ?_
          have eF : fdF p (t + 1) = arF p t := by rw [fd_at (show 1 ≤ t + 1 by omega), bi_new hup]
          obtain ⟨y, hy⟩ : ∃ z, z = sR u_43 54 (va_cpy (u_43 (15 + 7)) (u_43 54) 0 0 (pn p)) := ⟨_, rfl⟩
          rw [← hy]
          have hyr : ∀ k, k ≠ 54 → y k = u_43 k := fun k hk => by rw [hy, sR_row hk]
          have hy54 : ∀ i, i < pn p → y 54 i = nI (od (pn p) (biF p (t + 1)) i) := fun i hi => by rw [hy, sR_at, pk_cpy_in (Nat.zero_le _) (by omega), bi_new hup, show 0 + (i - 0) = i by omega]; exact (hL1.1.2 i hi).2.2.2.2
          refine jg_aload_n dX3_findLeast_101 rfl rfl ?_
          refine jg_getr fk_X3_18 sh_0 rfl dX3_findLeast_102 ?_
          refine jg_callV (c0_stepOrder E ipl_15 y (pn p) (od (pn p) t) h1 hn (by rw [hyr 15 (by decide)]; exact hL1.1.1) (fun z hz => by rw [hyr (15 + 7) (by decide)]; exact (hL1.1.2 z hz).2.2.2.2) (fun z hz => by have := (od_pm (pn p) t).1 z hz; omega)) me_X0_stepOrder ml_X3_266 (pl_0 ipl_15) rfl rfl (by decide) (by decide) rfl (Nat.le_of_ble_eq_true rfl) dX3_findLeast_105 (kk_V (fun u_105 h_105 => ?_))
          obtain ⟨sr2, s72⟩ := h_105
          refine jg_iinc (v := nI (t + 1)) dX3_findLeast_108 rfl (nI_1 t) (by decide) rfl ?_
          refine jg_goto 34 dX3_findLeast_111 (by decide) ?_
          have hyB : PlB 15 y (wO p (od (pn p) t)) := ⟨by rw [hyr 15 (by decide)]; exact hL1.1.1, fun i hi => by rw [hyr (15 + 1) (by decide), hyr (15 + 2) (by decide), hyr (15 + 3) (by decide), hyr (15 + 6) (by decide), hyr (15 + 7) (by decide)]; exact hL1.1.2 i hi⟩
          have hB2 := hyB.od7 (v := u_105) (o := od (pn p) (t + 1)) sr2 (fun i hi => s72 i hi)
          rw [wO_wO] at hB2
          have ih2 := ih (t + 1) u_105 (by omega) (by omega) (fun k a b => by rw [sr2 k (by omega), hyr k b, hF1.1 k (by omega) (by omega)]; exact hfr k a b) hB2 (fun _ i hi => by rw [sr2 54 (by omega)]; exact hy54 i hi)
          rw [eF] at ih2
          exact jg_weak (gLe_s (gLe_s (gLe_s (gLe_s (gLe_n gLe_nil))))) ih2
        · refine jg_iload dX3_findLeast_67 rfl ?_
          refine jg_iload_n dX3_findLeast_69 rfl rfl ?_
          refine jn_icmp_ge (arF p t) (fdF p t) rfl rfl (by omega) (by omega) 101 dX3_findLeast_70 (by decide) (fun h_70 => ?_) (fun h_70 => ?_)
          · have hnu : ¬ (t = 0 ∨ arF p t < arF p (biF p t)) := by rw [fd_at (show 1 ≤ t by omega)] at h_70; omega
            have eF : fdF p (t + 1) = fdF p t := by rw [fd_at (show 1 ≤ t by omega), fd_at (show 1 ≤ t + 1 by omega), bi_old hnu]
            obtain ⟨y, hy⟩ : ∃ z, z = u_43 := ⟨_, rfl⟩
            rw [← hy]
            have hyr : ∀ k, k ≠ 54 → y k = u_43 k := fun k _ => by rw [hy]
            have hy54 : ∀ i, i < pn p → y 54 i = nI (od (pn p) (biF p (t + 1)) i) := fun i hi => by rw [hy, hF1.1 54 (by omega) (by omega), bi_old hnu]; exact h54 (by omega) i hi
            refine jg_aload_n dX3_findLeast_101 rfl rfl ?_
            refine jg_getr fk_X3_18 sh_0 rfl dX3_findLeast_102 ?_
            refine jg_callV (c0_stepOrder E ipl_15 y (pn p) (od (pn p) t) h1 hn (by rw [hyr 15 (by decide)]; exact hL1.1.1) (fun z hz => by rw [hyr (15 + 7) (by decide)]; exact (hL1.1.2 z hz).2.2.2.2) (fun z hz => by have := (od_pm (pn p) t).1 z hz; omega)) me_X0_stepOrder ml_X3_266 (pl_0 ipl_15) rfl rfl (by decide) (by decide) rfl (Nat.le_of_ble_eq_true rfl) dX3_findLeast_105 (kk_V (fun u_105 h_105 => ?_))
            obtain ⟨sr2, s72⟩ := h_105
            refine jg_iinc (v := nI (t + 1)) dX3_findLeast_108 rfl (nI_1 t) (by decide) rfl ?_
            refine jg_goto 34 dX3_findLeast_111 (by decide) ?_
            have hyB : PlB 15 y (wO p (od (pn p) t)) := ⟨by rw [hyr 15 (by decide)]; exact hL1.1.1, fun i hi => by rw [hyr (15 + 1) (by decide), hyr (15 + 2) (by decide), hyr (15 + 3) (by decide), hyr (15 + 6) (by decide), hyr (15 + 7) (by decide)]; exact hL1.1.2 i hi⟩
            have hB2 := hyB.od7 (v := u_105) (o := od (pn p) (t + 1)) sr2 (fun i hi => s72 i hi)
            rw [wO_wO] at hB2
            have ih2 := ih (t + 1) u_105 (by omega) (by omega) (fun k a b => by rw [sr2 k (by omega), hyr k b, hF1.1 k (by omega) (by omega)]; exact hfr k a b) hB2 (fun _ i hi => by rw [sr2 54 (by omega)]; exact hy54 i hi)
            rw [eF] at ih2
            exact jg_weak (gLe_s (gLe_s (gLe_s (gLe_s (gLe_n gLe_nil))))) ih2
          · have hup : t = 0 ∨ arF p t < arF p (biF p t) := by rw [fd_at (show 1 ≤ t by omega)] at h_70; exact Or.inr h_70
            refine jg_iload dX3_findLeast_73 rfl ?_
            refine jg_istore_n dX3_findLeast_75 rfl (by decide) rfl ?_
            refine jg_aload_n dX3_findLeast_76 rfl rfl ?_
            refine jg_getr fk_X3_18 sh_0 rfl dX3_findLeast_77 ?_
            refine jg_getr fk_X3_149 (pl_0 ipl_15) rfl dX3_findLeast_80 ?_
            refine jg_iconst (v := 1) dX3_findLeast_83 (by decide) ?_
            refine jg_aald 1 (pl_5 ipl_15) rfl (Nat.le_of_ble_eq_true rfl) rfl dX3_findLeast_84 ?_
            refine jg_iconst (v := 0) dX3_findLeast_85 (by decide) ?_
            refine jg_aload_n dX3_findLeast_86 rfl rfl ?_
            refine jg_getr fk_X3_34 sh_0 rfl dX3_findLeast_87 ?_
            refine jg_iconst (v := 0) dX3_findLeast_90 (by decide) ?_
            refine jg_aload_n dX3_findLeast_91 rfl rfl ?_
            refine jg_getr fk_X3_18 sh_0 rfl dX3_findLeast_92 ?_
            refine jg_geti fk_X3_87 (pl_0 ipl_15) rfl dX3_findLeast_95 ?_
            refine jg_top (y := nI (pn p)) (hL1.1.1) ?_
            refine jg_copy 0 0 (pn p) cp_X3_235 (pl_7 ipl_15) sh_54 (rfl) (rfl) (rfl) (by omega) (by omega) (by decide) (Nat.le_of_ble_eq_true rfl) dX3_findLeast_98 ?_
            have eF : fdF p (t + 1) = arF p t := by rw [fd_at (show 1 ≤ t + 1 by omega), bi_new hup]
            obtain ⟨y, hy⟩ : ∃ z, z = sR u_43 54 (va_cpy (u_43 (15 + 7)) (u_43 54) 0 0 (pn p)) := ⟨_, rfl⟩
            rw [← hy]
            have hyr : ∀ k, k ≠ 54 → y k = u_43 k := fun k hk => by rw [hy, sR_row hk]
            have hy54 : ∀ i, i < pn p → y 54 i = nI (od (pn p) (biF p (t + 1)) i) := fun i hi => by rw [hy, sR_at, pk_cpy_in (Nat.zero_le _) (by omega), bi_new hup, show 0 + (i - 0) = i by omega]; exact (hL1.1.2 i hi).2.2.2.2
            refine jg_aload_n dX3_findLeast_101 rfl rfl ?_
            refine jg_getr fk_X3_18 sh_0 rfl dX3_findLeast_102 ?_
            refine jg_callV (c0_stepOrder E ipl_15 y (pn p) (od (pn p) t) h1 hn (by rw [hyr 15 (by decide)]; exact hL1.1.1) (fun z hz => by rw [hyr (15 + 7) (by decide)]; exact (hL1.1.2 z hz).2.2.2.2) (fun z hz => by have := (od_pm (pn p) t).1 z hz; omega)) me_X0_stepOrder ml_X3_266 (pl_0 ipl_15) rfl rfl (by decide) (by decide) rfl (Nat.le_of_ble_eq_true rfl) dX3_findLeast_105 (kk_V (fun u_105 h_105 => ?_))
            obtain ⟨sr2, s72⟩ := h_105
            refine jg_iinc (v := nI (t + 1)) dX3_findLeast_108 rfl (nI_1 t) (by decide) rfl ?_
            refine jg_goto 34 dX3_findLeast_111 (by decide) ?_
            have hyB : PlB 15 y (wO p (od (pn p) t)) := ⟨by rw [hyr 15 (by decide)]; exact hL1.1.1, fun i hi => by rw [hyr (15 + 1) (by decide), hyr (15 + 2) (by decide), hyr (15 + 3) (by decide), hyr (15 + 6) (by decide), hyr (15 + 7) (by decide)]; exact hL1.1.2 i hi⟩
            have hB2 := hyB.od7 (v := u_105) (o := od (pn p) (t + 1)) sr2 (fun i hi => s72 i hi)
            rw [wO_wO] at hB2
            have ih2 := ih (t + 1) u_105 (by omega) (by omega) (fun k a b => by rw [sr2 k (by omega), hyr k b, hF1.1 k (by omega) (by omega)]; exact hfr k a b) hB2 (fun _ i hi => by rw [sr2 54 (by omega)]; exact hy54 i hi)
            rw [eF] at ih2
            exact jg_weak (gLe_s (gLe_s (gLe_s (gLe_s (gLe_n gLe_nil))))) ih2
  exact jg_weak (gLe_s (gLe_s (gLe_s (gLe_s (gLe_n gLe_nil))))) (cut_34 (fcN (pn p) + 1) 0 _ (by omega) (by omega) (fun k a b => by rw [sr k (by omega)]; exact hF0 k (by omega)) (hL0.1.od7 sr (fun z hz => s7 z hz)) (fun z => by omega))
set_option maxHeartbeats 4000000 in
set_option maxRecDepth 20000 in
theorem c3_ordersWithin (E : gT) (u : Mm) (p : Pic) (hp : PicOk p) (h1 : 1 ≤ pn p) (hP : PlB 1 u p) (w : Nat) (hw : w ≤ 9999) : Con E yX3_ordersWithin cX3_ordersWithin 5 (some .int) 4 [.ref (E.2.1 0), .int (nI w)] u (kI (fun r u2 => r = nI (smF p w (fcN (pn p))) ∧ PF 15 u u2)) := by
  have hn := hp.1
  have hT := fc_pos (pn p) (by omega)
  refine Con.of (lv := [some (.ref (E.2.1 0)), some (.int (nI w)), none, none, none]) (by decide +kernel) (Nat.le_of_ble_eq_true rfl) rfl ?_
  refine jg_iconst (v := 0) dX3_ordersWithin_0 (by decide) ?_
  refine jg_istore_n dX3_ordersWithin_1 rfl (by decide) rfl ?_
  refine jg_hmo hk_X3_209 dX3_ordersWithin_2 ?_
  refine jg_aload_n dX3_ordersWithin_5 rfl rfl ?_
  refine jg_getr fk_X3_14 sh_0 rfl dX3_ordersWithin_6 ?_
  refine jg_geti fk_X3_87 (pl_0 ipl_1) rfl dX3_ordersWithin_9 ?_
  refine jg_top (y := nI (pn p)) (hP.1) ?_
  refine jg_hmoA (pn p) (by omega) (rfl) dX3_ordersWithin_12 ?_
  refine jg_top (y := nI (fcN (pn p))) (fc_hmo (pn p) (by omega)) ?_
  refine jg_istore_n dX3_ordersWithin_13 rfl (by decide) rfl ?_
  refine jg_aload_n dX3_ordersWithin_14 rfl rfl ?_
  refine jg_getr fk_X3_18 sh_0 rfl dX3_ordersWithin_15 ?_
  refine jg_aload_n dX3_ordersWithin_18 rfl rfl ?_
  refine jg_getr fk_X3_14 sh_0 rfl dX3_ordersWithin_19 ?_
  refine jg_callV (c0_becomeLike E ipl_15 ipl_1 (by decide) u p hp hP) me_X0_becomeLike ml_X3_80 (pl_0 ipl_15) rfl rfl (by decide) (by decide) rfl (Nat.le_of_ble_eq_true rfl) dX3_ordersWithin_22 (kk_V (fun u_22 h_22 => ?_))
  obtain ⟨hF0, hL0, -⟩ := h_22
  refine jg_aload_n dX3_ordersWithin_25 rfl rfl ?_
  refine jg_getr fk_X3_18 sh_0 rfl dX3_ordersWithin_26 ?_
  refine jg_callV (c0_startOrders E ipl_15 u_22 (pn p) hn hL0.1.1) me_X0_startOrders ml_X3_263 (pl_0 ipl_15) rfl rfl (by decide) (by decide) rfl (Nat.le_of_ble_eq_true rfl) dX3_ordersWithin_29 (kk_V (fun u_29 h_29 => ?_))
  obtain ⟨sr, s7⟩ := h_29
  refine jg_iconst (v := 0) dX3_ordersWithin_32 (by decide) ?_
  refine jg_istore dX3_ordersWithin_33 (by decide) rfl ?_
  have cut_35 : ∀ (m t : Nat) (x : Mm), t ≤ fcN (pn p) → fcN (pn p) < t + m → PF 15 u x → PlB 15 x (wO p (od (pn p) t)) → G E cX3_ordersWithin 5 (yX3_ordersWithin).cls (some .int) 4 (kI (fun r u2 => r = nI (smF p w (fcN (pn p))) ∧ PF 15 u u2)) 35 [some (.ref (E.2.1 0)), some (.int (nI w)), some (.int (nI (smF p w t))), some (.int (nI (fcN (pn p)))), some (.int (nI t))] [] x := by
    intro m
    induction m with
    | zero => intro t x h1 h2; omega
    | succ m ih =>
      intro t x ht hm hfr hB
      refine jg_iload dX3_ordersWithin_35 rfl ?_
      refine jg_iload_n dX3_ordersWithin_37 rfl rfl ?_
      refine jn_icmp_ge t (fcN (pn p)) rfl rfl (by omega) (by omega) 83 dX3_ordersWithin_38 (by decide) (fun h_38 => ?_) (fun h_38 => ?_)
      · obtain rfl : t = fcN (pn p) := by omega
        refine jg_iload_n dX3_ordersWithin_83 rfl rfl ?_
        exact jg_iret (rfl) dX3_ordersWithin_84 ⟨_, rfl, ⟨rfl, hfr⟩⟩
      · have ba := arF_le hp t
        have bs := sm_le p w t
        refine jg_aload_n dX3_ordersWithin_41 rfl rfl ?_
        refine jg_getr fk_X3_18 sh_0 rfl dX3_ordersWithin_42 ?_
        refine jg_callV (c0_lay E ipl_15 x (wO p (od (pn p) t)) (wO_ok hp (od_pm _ t)) hB) me_X0_lay ml_X3_133 (pl_0 ipl_15) rfl rfl (by decide) (by decide) rfl (Nat.le_of_ble_eq_true rfl) dX3_ordersWithin_45 (kk_V (fun u_45 h_45 => ?_))
        obtain ⟨hF1, hL1⟩ := h_45
        refine jg_aload_n dX3_ordersWithin_48 rfl rfl ?_
        refine jg_getr fk_X3_18 sh_0 rfl dX3_ordersWithin_49 ?_
        refine jg_geti fk_X3_155 (pl_0 ipl_15) rfl dX3_ordersWithin_52 ?_
        refine jg_top (y := nI (brP (wO p (od (pn p) t)))) (hL1.2.2.1) ?_
        refine jg_aload_n dX3_ordersWithin_55 rfl rfl ?_
        refine jg_getr fk_X3_18 sh_0 rfl dX3_ordersWithin_56 ?_
        refine jg_geti fk_X3_158 (pl_0 ipl_15) rfl dX3_ordersWithin_59 ?_
        refine jg_top (y := nI (dpP (wO p (od (pn p) t)))) (hL1.2.2.2) ?_
        refine jg_imulE (z := nI (arF p t)) dX3_ordersWithin_62 (pk_mul _ _) ?_
        refine jg_iload_n dX3_ordersWithin_63 rfl rfl ?_
        refine jn_icmp_gt (arF p t) w rfl rfl (by omega) (by omega) 70 dX3_ordersWithin_64 (by decide) (fun h_64 => ?_) (fun h_64 => ?_)
        · have eF : smF p w (t + 1) = smF p w t := by show _ + (if _ then 1 else 0) = _; rw [if_neg (by omega)]; rfl
          refine jg_aload_n dX3_ordersWithin_70 rfl rfl ?_
          refine jg_getr fk_X3_18 sh_0 rfl dX3_ordersWithin_71 ?_
          refine jg_callV (c0_stepOrder E ipl_15 u_45 (pn p) (od (pn p) t) h1 hn (by exact hL1.1.1) (fun z hz => by exact (hL1.1.2 z hz).2.2.2.2) (fun z hz => by have := (od_pm (pn p) t).1 z hz; omega)) me_X0_stepOrder ml_X3_266 (pl_0 ipl_15) rfl rfl (by decide) (by decide) rfl (Nat.le_of_ble_eq_true rfl) dX3_ordersWithin_74 (kk_V (fun u_74 h_74 => ?_))
          obtain ⟨sr2, s72⟩ := h_74
          refine jg_iinc (v := nI (t + 1)) dX3_ordersWithin_77 rfl (nI_1 t) (by decide) rfl ?_
          refine jg_goto 35 dX3_ordersWithin_80 (by decide) ?_
          have ih2 := ih (t + 1) u_74 (by omega) (by omega) (fun k a => by rw [sr2 k (by omega), hF1.1 k (by omega) (by omega)]; exact hfr k a) (by have z := hL1.1.od7 (v := u_74) (o := od (pn p) (t + 1)) sr2 (fun i hi => s72 i hi); rw [wO_wO] at z; exact z)
          rw [eF] at ih2
          exact ih2
        · have eF : smF p w (t + 1) = smF p w t + 1 := by show _ + (if _ then 1 else 0) = _; rw [if_pos h_64]
          refine jg_iinc (v := nI (smF p w t + 1)) dX3_ordersWithin_67 rfl (nI_1 (smF p w t)) (by decide) rfl ?_
          refine jg_aload_n dX3_ordersWithin_70 rfl rfl ?_
          refine jg_getr fk_X3_18 sh_0 rfl dX3_ordersWithin_71 ?_
          refine jg_callV (c0_stepOrder E ipl_15 u_45 (pn p) (od (pn p) t) h1 hn (by exact hL1.1.1) (fun z hz => by exact (hL1.1.2 z hz).2.2.2.2) (fun z hz => by have := (od_pm (pn p) t).1 z hz; omega)) me_X0_stepOrder ml_X3_266 (pl_0 ipl_15) rfl rfl (by decide) (by decide) rfl (Nat.le_of_ble_eq_true rfl) dX3_ordersWithin_74 (kk_V (fun u_74 h_74 => ?_))
          obtain ⟨sr2, s72⟩ := h_74
          refine jg_iinc (v := nI (t + 1)) dX3_ordersWithin_77 rfl (nI_1 t) (by decide) rfl ?_
          refine jg_goto 35 dX3_ordersWithin_80 (by decide) ?_
          have ih2 := ih (t + 1) u_74 (by omega) (by omega) (fun k a => by rw [sr2 k (by omega), hF1.1 k (by omega) (by omega)]; exact hfr k a) (by have z := hL1.1.od7 (v := u_74) (o := od (pn p) (t + 1)) sr2 (fun i hi => s72 i hi); rw [wO_wO] at z; exact z)
          rw [eF] at ih2
          exact ih2
  exact cut_35 (fcN (pn p) + 1) 0 _ (by omega) (by omega) (fun k a => by rw [sr k (by omega)]; exact hF0 k a) (hL0.1.od7 sr (fun z hz => s7 z hz))
set_option maxHeartbeats 4000000 in
set_option maxRecDepth 20000 in
theorem c3_commonDivisor (E : gT) (u : Mm) (fe al : Nat) (h1 : 1 ≤ al) (h2 : al ≤ 720) (h3 : fe ≤ al) : Con E yX3_commonDivisor cX3_commonDivisor 6 (some .int) 0 [.int (nI fe), .int (nI al)] u (kI (fun r u2 => r = nI (Nat.gcd al fe) ∧ u = u2)) := by
  refine Con.of (lv := [some (.int (nI fe)), some (.int (nI al)), none, none, none, none]) (by decide +kernel) (Nat.le_of_ble_eq_true rfl) rfl ?_
  refine jg_iload_n dX3_commonDivisor_0 rfl rfl ?_
  refine jg_istore_n dX3_commonDivisor_1 rfl (by decide) rfl ?_
  refine jg_iload_n dX3_commonDivisor_2 rfl rfl ?_
  refine jg_istore_n dX3_commonDivisor_3 rfl (by decide) rfl ?_
  refine jg_iconst (v := 0) dX3_commonDivisor_4 (by decide) ?_
  refine jg_istore dX3_commonDivisor_5 (by decide) rfl ?_
  have cut_7 : ∀ (m s j A B : Nat), s + j ≤ 63 → 64 < s + m → B ≤ A → 1 ≤ A → A ≤ 720 → A * B < 2 ^ j → Nat.gcd A B = Nat.gcd al fe → G E cX3_commonDivisor 6 (yX3_commonDivisor).cls (some .int) 0 (kI (fun r u2 => r = nI (Nat.gcd al fe) ∧ u = u2)) 7 [some (.int (nI fe)), some (.int (nI al)), some (.int (nI A)), some (.int (nI B)), some (.int (nI s)), none] [] u := by
    intro m
    induction m with
    | zero => intro s j A B h1 h2; omega
    | succ m ih =>
      intro s j A B hs hm hAB hA hA2 hj hg
      refine jg_iload dX3_commonDivisor_7 rfl ?_
      refine jg_bipush (v := 64) dX3_commonDivisor_9 (by decide) ?_
      refine jn_icmp_ge s 64 rfl rfl (by omega) (by omega) 34 dX3_commonDivisor_11 (by decide) (fun h_11 => ?_) (fun h_11 => ?_)
      · exfalso; omega
        skip
      · refine jg_iload_n dX3_commonDivisor_14 rfl rfl ?_
        refine jn_if_eq B rfl (by omega) 34 dX3_commonDivisor_15 (by decide) (fun h_15 => ?_) (fun h_15 => ?_)
        · subst h_15
          have eg : A = Nat.gcd al fe := by rw [← hg, Nat.gcd_zero_right]
          refine jg_iload_n dX3_commonDivisor_34 rfl rfl ?_
          exact jg_iret (rfl) dX3_commonDivisor_35 ⟨_, rfl, ⟨by rw [eg], rfl⟩⟩
        · have hlt := Nat.mod_lt A (show 0 < B by omega)
          have hh := eu_half hAB (show 0 < B by omega)
          obtain ⟨j, rfl⟩ : ∃ z, j = z + 1 := ⟨j - 1, by rcases j with _ | j; (have z9 : 1 * 1 ≤ A * B := Nat.mul_le_mul hA (by omega); omega); omega⟩
          have hp2 : 2 ^ (j + 1) = 2 ^ j * 2 := Nat.pow_succ 2 j
          refine jg_iload_n dX3_commonDivisor_18 rfl rfl ?_
          refine jg_iload_n dX3_commonDivisor_19 rfl rfl ?_
          refine jg_iremE (z := nI (A % B)) dX3_commonDivisor_20 (nI_ne0 (by omega) (by omega)) (pk_rem (by omega) (by omega) (by omega)) ?_
          refine jg_istore dX3_commonDivisor_21 (by decide) rfl ?_
          refine jg_iload_n dX3_commonDivisor_23 rfl rfl ?_
          refine jg_istore_n dX3_commonDivisor_24 rfl (by decide) rfl ?_
          refine jg_iload dX3_commonDivisor_25 rfl ?_
          refine jg_istore_n dX3_commonDivisor_27 rfl (by decide) rfl ?_
          refine jg_iinc (v := nI (s + 1)) dX3_commonDivisor_28 rfl (nI_1 s) (by decide) rfl ?_
          refine jg_goto 7 dX3_commonDivisor_31 (by decide) ?_
          exact jg_weak (gLe_s (gLe_s (gLe_s (gLe_s (gLe_s (gLe_n gLe_nil)))))) (ih (s + 1) j B (A % B) (by omega) (by omega) (by omega) (by omega) (by omega) (by omega) (by rw [← hg, Nat.gcd_comm A B, Nat.gcd_rec B A, Nat.gcd_comm]))
  exact jg_weak (gLe_s (gLe_s (gLe_s (gLe_s (gLe_s (gLe_n gLe_nil)))))) (cut_7 65 0 20 al fe (by omega) (by omega) h3 h1 h2 (by have := Nat.mul_le_mul h2 (Nat.le_trans h3 h2); omega) rfl)
theorem i5 {k : Int32} : k < 6 ↔ ¬ 5 < k := by
  rw [Int32.lt_iff_toInt_lt, Int32.lt_iff_toInt_lt]
  have h1 : ((6 : Int32)).toInt = 6 := by decide
  have h2 : ((5 : Int32)).toInt = 5 := by decide
  omega
theorem k_nat {k : Int32} (h : inR k (-1) 5 = true) (h2 : ¬ k = -1) : ∃ j, j < 6 ∧ k = nI j := by
  unfold inR at h
  simp only [Bool.and_eq_true, Bool.not_eq_true', decide_eq_false_iff_not] at h
  have h3 : ¬ k < 0 := fun z => h2 (by
    apply Int32.toInt_inj.mp
    have z1 := h.1
    rw [Int32.lt_iff_toInt_lt] at z z1
    have e1 : ((-1 : Int32)).toInt = -1 := by decide
    have e0 : ((0 : Int32)).toInt = 0 := by decide
    omega)
  obtain ⟨j, hj, rfl⟩ := nI_of h3
  exact ⟨j, Nat.not_le.mp (fun z => h.2 ((nI_ltI (a := 5) (by omega) hj).mpr (by omega))), rfl⟩
set_option maxHeartbeats 4000000 in
set_option maxRecDepth 20000 in
theorem d3_least (E : gT) (u : Mm) (g : Gh) (hO : Ok g) (hI : InvC u g) (k : Int32) : Con E yX3_least cX3_least 3 (some .int) 5 [.ref (E.2.1 0), .int k] u (kI (fun r u2 => r = (fLeast g k).1 ∧ InvC u2 (fLeast g k).2 ∧ CF u u2)) := by
  have hn := hO.1.1
  refine Con.of (lv := [some (.ref (E.2.1 0)), some (.int k), none]) (by decide +kernel) (Nat.le_of_ble_eq_true rfl) rfl ?_
  refine jg_iload_n dX3_least_0 rfl rfl ?_
  refine jg_iconst (v := -1) dX3_least_1 (by decide) ?_
  refine jg_icmp_lt 11 dX3_least_2 (by decide) (fun h_2 => ?_) (fun h_2 => ?_)
  · have hk9 : inR k (-1) 5 = false := by simp [inR, h_2]
    refine jg_bipush (v := -2) dX3_least_11 (by decide) ?_
    exact jg_iret (rfl) dX3_least_13 ⟨_, rfl, ⟨by simp [fLeast, *], hI, CF.rf⟩⟩
  · refine jg_iload_n dX3_least_5 rfl rfl ?_
    refine jg_bipush (v := 6) dX3_least_6 (by decide) ?_
    refine jg_icmp_lt 14 dX3_least_8 (by decide) (fun h_8 => ?_) (fun h_8 => ?_)
    · have hk9 : inR k (-1) 5 = true := by have z := i5.mp h_8; simp only [inR, Bool.and_eq_true, Bool.not_eq_true', decide_eq_false_iff_not]; exact ⟨h_2, z⟩
      refine jg_aload_n dX3_least_14 rfl rfl ?_
      refine jg_getr fk_X3_14 sh_0 rfl dX3_least_15 ?_
      refine jg_geti fk_X3_87 (pl_0 ipl_1) rfl dX3_least_18 ?_
      refine jg_top (y := nI (pn g.1)) (hI.1.1.1) ?_
      refine jn_if_ne (pn g.1) rfl (by omega) 27 dX3_least_21 (by decide) (fun h_21 => ?_) (fun h_21 => ?_)
      · refine jg_aload_n dX3_least_27 rfl rfl ?_
        refine jg_callV (c3_findLeast E u g.1 hO.1 (by omega) hI.1.1) me_X3_findLeast ml_X3_194 sh_0 rfl rfl (by decide) (by decide) rfl (Nat.le_of_ble_eq_true rfl) dX3_least_28 (kk_I (fun r_28 u_28 h_28 => ?_))
        obtain ⟨rfl, hfr, h54⟩ := h_28
        have hJ := hI.od hfr
        have hCF : CF u u_28 := fun k hk => hfr k (by omega) (by omega)
        have eT : fdF g.1 (fcN (pn g.1)) = arF g.1 (biF g.1 (fcN (pn g.1))) := fd_at (fc_pos (pn g.1) (by omega)).1
        refine jg_istore_n dX3_least_31 rfl (by decide) rfl ?_
        refine jg_iload_n dX3_least_32 rfl rfl ?_
        refine jg_iconst (v := -1) dX3_least_33 (by decide) ?_
        refine jg_icmp_ne 39 dX3_least_34 (by decide) (fun h_34 => ?_) (fun h_34 => ?_)
        · obtain ⟨j, hj, rfl⟩ := k_nat hk9 h_34
          refine jg_iload_n dX3_least_39 rfl rfl ?_
          refine jg_aload_n dX3_least_40 rfl rfl ?_
          refine jg_getr fk_X3_14 sh_0 rfl dX3_least_41 ?_
          refine jg_geti fk_X3_87 (pl_0 ipl_1) rfl dX3_least_44 ?_
          refine jg_top (y := nI (pn g.1)) (hJ.1.1.1) ?_
          refine jn_icmp_ge j (pn g.1) rfl rfl (by omega) (by omega) 59 dX3_least_47 (by decide) (fun h_47 => ?_) (fun h_47 => ?_)
          · have e9 : (fLeast g (nI j)).1 = -9 := by unfold fLeast; rw [if_pos hk9, if_neg h_21, if_neg h_34, if_neg (fun z => by obtain ⟨q, z1, z2⟩ := inN_nat (by omega) z; have := (nI_eq (by omega) (by omega)).mp z2; omega)]
            refine jg_bipush (v := -9) dX3_least_59 (by decide) ?_
            exact jg_iret (rfl) dX3_least_61 ⟨_, rfl, ⟨by rw [e9], hJ, hCF⟩⟩
          · have e9 : (fLeast g (nI j)).1 = nI (od (pn g.1) (biF g.1 (fcN (pn g.1))) j) := by unfold fLeast; rw [if_pos hk9, if_neg h_21, if_neg h_34, if_pos (inN_of h_47 (by omega)), cl_nI (by omega)]
            refine jg_aload_n dX3_least_50 rfl rfl ?_
            refine jg_getr fk_X3_34 sh_0 rfl dX3_least_51 ?_
            refine jg_iload_n dX3_least_54 rfl rfl ?_
            refine jg_ld j sh_54 (by omega) (rfl) dX3_least_55 ?_
            refine jg_top (y := nI (od (pn g.1) (biF g.1 (fcN (pn g.1))) j)) (h54 j h_47) ?_
            refine jg_goto 61 dX3_least_56 (by decide) ?_
            exact jg_iret (rfl) dX3_least_61 ⟨_, rfl, ⟨by rw [e9], hJ, hCF⟩⟩
        · refine jg_iload_n dX3_least_37 rfl rfl ?_
          exact jg_iret (rfl) dX3_least_38 ⟨_, rfl, ⟨by unfold fLeast; rw [if_pos hk9, if_neg h_21, if_pos h_34, eT], hJ, hCF⟩⟩
      · refine jg_bipush (v := -3) dX3_least_24 (by decide) ?_
        exact jg_iret (rfl) dX3_least_26 ⟨_, rfl, ⟨by simp [fLeast, *], hI, CF.rf⟩⟩
    · have hk9 : inR k (-1) 5 = false := by have z : 5 < k := Classical.not_not.mp (fun q => h_8 (i5.mpr q)); simp [inR, z]
      refine jg_bipush (v := -2) dX3_least_11 (by decide) ?_
      exact jg_iret (rfl) dX3_least_13 ⟨_, rfl, ⟨by simp [fLeast, *], hI, CF.rf⟩⟩
set_option maxHeartbeats 4000000 in
set_option maxRecDepth 20000 in
theorem d3_odds (E : gT) (u : Mm) (g : Gh) (hO : Ok g) (hI : InvC u g) (v w : Int32) : Con E yX3_odds cX3_odds 6 (some .long) 5 [.ref (E.2.1 0), .int v, .int w] u (kL (fun r u2 => r = (fOdds g v w).1 ∧ InvC u2 (fOdds g v w).2 ∧ CF u u2)) := by
  have hn := hO.1.1
  refine Con.of (lv := [some (.ref (E.2.1 0)), some (.int v), some (.int w), none, none, none]) (by decide +kernel) (Nat.le_of_ble_eq_true rfl) rfl ?_
  refine jg_iload_n dX3_odds_0 rfl rfl ?_
  refine jg_if_lt 20 dX3_odds_1 (by decide) (fun h_1 => ?_) (fun h_1 => ?_)
  · have hc9 : ¬ (inR v 0 9999 = true ∧ inR w 0 1 = true) := by simp [inR, h_1]
    refine jg_ldc2 kl_X3_207 dX3_odds_20 ?_
    exact jg_lret dX3_odds_23 ⟨_, rfl, ⟨by simp only [fOdds]; rw [if_neg hc9], hI, CF.rf⟩⟩
  · refine jg_iload_n dX3_odds_4 rfl rfl ?_
    refine jg_sipush (v := 9999) dX3_odds_5 (by decide) ?_
    refine jg_icmp_gt 20 dX3_odds_8 (by decide) (fun h_8 => ?_) (fun h_8 => ?_)
    · have hc9 : ¬ (inR v 0 9999 = true ∧ inR w 0 1 = true) := by simp [inR, h_8]
      refine jg_ldc2 kl_X3_207 dX3_odds_20 ?_
      exact jg_lret dX3_odds_23 ⟨_, rfl, ⟨by simp only [fOdds]; rw [if_neg hc9], hI, CF.rf⟩⟩
    · refine jg_iload_n dX3_odds_11 rfl rfl ?_
      refine jg_if_lt 20 dX3_odds_12 (by decide) (fun h_12 => ?_) (fun h_12 => ?_)
      · have hc9 : ¬ (inR v 0 9999 = true ∧ inR w 0 1 = true) := by simp [inR, h_12]
        refine jg_ldc2 kl_X3_207 dX3_odds_20 ?_
        exact jg_lret dX3_odds_23 ⟨_, rfl, ⟨by simp only [fOdds]; rw [if_neg hc9], hI, CF.rf⟩⟩
      · refine jg_iload_n dX3_odds_15 rfl rfl ?_
        refine jg_iconst (v := 1) dX3_odds_16 (by decide) ?_
        refine jg_icmp_le 24 dX3_odds_17 (by decide) (fun h_17 => ?_) (fun h_17 => ?_)
        · have hv9 : inR v 0 9999 = true := by simp [inR, h_1, h_8]
          have hw9 : inR w 0 1 = true := by simp [inR, h_12, Int32.not_lt.mpr h_17]
          have hc9 : inR v 0 9999 = true ∧ inR w 0 1 = true := ⟨hv9, hw9⟩
          obtain ⟨x, -, hx, rfl⟩ := inR_nat (lo := 0) (hi := 9999) (by omega) hv9 (by omega)
          refine jg_aload_n dX3_odds_24 rfl rfl ?_
          refine jg_getr fk_X3_14 sh_0 rfl dX3_odds_25 ?_
          refine jg_geti fk_X3_87 (pl_0 ipl_1) rfl dX3_odds_28 ?_
          refine jg_top (y := nI (pn g.1)) (hI.1.1.1) ?_
          refine jn_if_ne (pn g.1) rfl (by omega) 38 dX3_odds_31 (by decide) (fun h_31 => ?_) (fun h_31 => ?_)
          · have hT := fc_pos (pn g.1) (by omega)
            have hS := sm_le g.1 x (fcN (pn g.1))
            have hG : 1 ≤ Nat.gcd (fcN (pn g.1)) (smF g.1 x (fcN (pn g.1))) := Nat.gcd_pos_of_pos_left _ (by omega)
            have hG2 : Nat.gcd (fcN (pn g.1)) (smF g.1 x (fcN (pn g.1))) ≤ fcN (pn g.1) := Nat.gcd_le_left _ (by omega)
            refine jg_hmo hk_X3_209 dX3_odds_38 ?_
            refine jg_aload_n dX3_odds_41 rfl rfl ?_
            refine jg_getr fk_X3_14 sh_0 rfl dX3_odds_42 ?_
            refine jg_geti fk_X3_87 (pl_0 ipl_1) rfl dX3_odds_45 ?_
            refine jg_top (y := nI (pn g.1)) (hI.1.1.1) ?_
            refine jg_hmoA (pn g.1) (by omega) (rfl) dX3_odds_48 ?_
            refine jg_top (y := nI (fcN (pn g.1))) (fc_hmo (pn g.1) (by omega)) ?_
            refine jg_istore_n dX3_odds_49 rfl (by decide) rfl ?_
            refine jg_aload_n dX3_odds_50 rfl rfl ?_
            refine jg_iload_n dX3_odds_51 rfl rfl ?_
            refine jg_callV (c3_ordersWithin E u g.1 hO.1 (by omega) hI.1.1 x hx) me_X3_ordersWithin ml_X3_212 sh_0 rfl rfl (by decide) (by decide) rfl (Nat.le_of_ble_eq_true rfl) dX3_odds_52 (kk_I (fun r_52 u_52 h_52 => ?_))
            obtain ⟨rfl, hfr⟩ := h_52
            have hJ := hI.tl hfr
            refine jg_istore dX3_odds_55 (by decide) rfl ?_
            refine jg_iload dX3_odds_57 rfl ?_
            refine jg_iload_n dX3_odds_59 rfl rfl ?_
            refine jg_callS (c3_commonDivisor E u_52 (smF g.1 x (fcN (pn g.1))) (fcN (pn g.1)) hT.1 hT.2 hS) me_X3_commonDivisor ml_X3_215 rfl (by decide) (by decide) rfl (Nat.le_of_ble_eq_true rfl) dX3_odds_60 (kk_I (fun r_60 u_60 h_60 => ?_))
            obtain ⟨rfl, rfl⟩ := h_60
            refine jg_istore dX3_odds_63 (by decide) rfl ?_
            refine jg_iload dX3_odds_65 rfl ?_
            refine jg_iconst (v := 1) dX3_odds_67 (by decide) ?_
            refine jn_icmp_ge (Nat.gcd (fcN (pn g.1)) (smF g.1 x (fcN (pn g.1)))) 1 rfl rfl (by omega) (by omega) 75 dX3_odds_68 (by decide) (fun h_68 => ?_) (fun h_68 => absurd h_68 (by omega))
            refine jg_iload_n dX3_odds_75 rfl rfl ?_
            refine jg_if_ne 88 dX3_odds_76 (by decide) (fun h_76 => ?_) (fun h_76 => ?_)
            · have e9 : (fOdds g (nI x) w).1 = lN (fcN (pn g.1) / Nat.gcd (fcN (pn g.1)) (smF g.1 x (fcN (pn g.1)))) := by simp only [fOdds]; rw [if_pos hc9, if_neg h_31, if_neg h_76, cl_nI (by omega)]
              refine jg_iload_n dX3_odds_88 rfl rfl ?_
              refine jg_iload dX3_odds_89 rfl ?_
              refine jg_idivE (z := nI (fcN (pn g.1) / Nat.gcd (fcN (pn g.1)) (smF g.1 x (fcN (pn g.1))))) dX3_odds_91 (nI_ne0 (by omega) (by omega)) (pk_div (by omega) (by omega) (by omega)) ?_
              refine jg_i2l (v := lN (fcN (pn g.1) / Nat.gcd (fcN (pn g.1)) (smF g.1 x (fcN (pn g.1))))) dX3_odds_92 (nI_l (by have := Nat.div_le_self (fcN (pn g.1)) (Nat.gcd (fcN (pn g.1)) (smF g.1 x (fcN (pn g.1)))); omega)) ?_
              exact jg_lret dX3_odds_93 ⟨_, rfl, ⟨by rw [e9], hJ, hfr.cf15⟩⟩
            · have e9 : (fOdds g (nI x) w).1 = lN (smF g.1 x (fcN (pn g.1)) / Nat.gcd (fcN (pn g.1)) (smF g.1 x (fcN (pn g.1)))) := by simp only [fOdds]; rw [if_pos hc9, if_neg h_31, if_pos h_76, cl_nI (by omega)]
              refine jg_iload dX3_odds_79 rfl ?_
              refine jg_iload dX3_odds_81 rfl ?_
              refine jg_idivE (z := nI (smF g.1 x (fcN (pn g.1)) / Nat.gcd (fcN (pn g.1)) (smF g.1 x (fcN (pn g.1))))) dX3_odds_83 (nI_ne0 (by omega) (by omega)) (pk_div (by omega) (by omega) (by omega)) ?_
              refine jg_i2l (v := lN (smF g.1 x (fcN (pn g.1)) / Nat.gcd (fcN (pn g.1)) (smF g.1 x (fcN (pn g.1))))) dX3_odds_84 (nI_l (by have := Nat.div_le_self (smF g.1 x (fcN (pn g.1))) (Nat.gcd (fcN (pn g.1)) (smF g.1 x (fcN (pn g.1)))); omega)) ?_
              refine jg_goto 93 dX3_odds_85 (by decide) ?_
              exact jg_lret dX3_odds_93 ⟨_, rfl, ⟨by rw [e9], hJ, hfr.cf15⟩⟩
          · refine jg_ldc2 kl_X3_207 dX3_odds_34 ?_
            exact jg_lret dX3_odds_37 ⟨_, rfl, ⟨by simp only [fOdds]; rw [if_pos hc9, if_pos h_31], hI, CF.rf⟩⟩
        · have hc9 : ¬ (inR v 0 9999 = true ∧ inR w 0 1 = true) := by simp [inR, Int32.not_le.mp h_17]
          refine jg_ldc2 kl_X3_207 dX3_odds_20 ?_
          exact jg_lret dX3_odds_23 ⟨_, rfl, ⟨by simp only [fOdds]; rw [if_neg hc9], hI, CF.rf⟩⟩
