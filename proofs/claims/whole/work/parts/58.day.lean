theorem InvM.pcK {u v : Mm} {g : Gh} {p : Pic} (h : InvM u g) (hL : MdB v p) (hn : pn p = pn g.1) (f : ∀ k, k ≠ 61 → k ≠ 62 → k ≠ 63 → k ≠ 65 → k ≠ 71 → k ≠ 72 → k ≠ 73 → k ≠ 57 → k ≠ 75 → v k = u k) (f0 : ∀ j, j ≠ 22 → j ≠ 23 → v 57 j = u 57 j) : InvM v (wPc g p) := by
  obtain ⟨-, h2, h3, h4, h5, h6, h7⟩ := h
  have f9 : ∀ k, k = 58 ∨ k = 59 ∨ k = 60 ∨ k = 64 ∨ k = 78 ∨ k = 79 → v k = u k := fun k hk => f k (by omega) (by omega) (by omega) (by omega) (by omega) (by omega) (by omega) (by omega) (by omega)
  exact ⟨hL, fun i hi => by rw [f9 64 (by omega)]; exact h2 i (by rw [← hn]; exact hi), (f0 6 (by decide) (by decide)).trans h3, fun k hk => (h4 k hk).rows (f9 _ (by omega)) (f9 _ (by omega)) (f9 _ (by omega)), ⟨(f0 31 (by decide) (by decide)).trans h5.1, fun i hi => by rw [f9 78 (by omega), f9 79 (by omega)]; exact h5.2 i hi⟩, (f0 1 (by decide) (by decide)).trans h6, (f0 0 (by decide) (by decide)).trans h7⟩
/-- what acts may change of the reference -/
def AF (u v : Mm) : Prop := ∀ k, k ≠ 62 → k ≠ 63 → k ≠ 65 → v k = u k
theorem AF.rf {u : Mm} : AF u u := fun _ _ _ _ => rfl
theorem AF.tr {u v w : Mm} (h : AF u v) (h2 : AF v w) : AF u w := fun k a b c => (h2 k a b c).trans (h k a b c)
set_option maxHeartbeats 4000000 in
set_option maxRecDepth 20000 in
theorem c4_does (E : gT) (u : Mm) (p : Pic) (hp : PicOk p) (hM : MdB u p) (s w v : Int32) : Con E yX4_does cX4_does 4 (some .boolean) 1 [.ref (E.2.1 57), .int s, .int w, .int v] u (kI (fun r u2 => r = bI (acF p s w v).isSome ∧ AF u u2 ∧ (acF p s w v = none → u = u2) ∧ ∀ q, acF p s w v = some q → MdB u2 q)) := by
  have hn := hp.1
  refine Con.of (lv := [some (.ref (E.2.1 57)), some (.int s), some (.int w), some (.int v)]) (by decide +kernel) (Nat.le_of_ble_eq_true rfl) rfl ?_
  refine jg_iload_n dX4_does_0 rfl rfl ?_
  refine jg_iconst (v := 2) dX4_does_1 (by decide) ?_
  refine jg_icmp_ne 38 dX4_does_2 (by decide) (fun h_2 => ?_) (fun h_2 => ?_)
  · refine jg_aload_n dX4_does_38 rfl rfl ?_
    refine jg_iload_n dX4_does_39 rfl rfl ?_
    refine jg_callV (c4_isArea E u w) me_X4_isArea ml_X4_173 sh_57 rfl rfl (by decide) (by decide) rfl (Nat.le_of_ble_eq_true rfl) dX4_does_40 (kk_I (fun r_40 u_40 h_40 => ?_))
    obtain ⟨rfl, rfl⟩ := h_40
    refine jg_top (y := bI (inN w (nI (pn p)))) (congrArg (fun z => bI (inN w z)) hM.1) ?_
    refine jb_if_eq 56 dX4_does_43 (by decide) (fun h_43 => ?_) (fun h_43 => ?_)
    · have e9 : acF p s w v = none := by unfold acF; rw [if_neg h_2, if_neg (fun z => by rw [h_43] at z; exact absurd z.1 (by decide))]
      refine jg_iconst (v := 0) dX4_does_56 (by decide) ?_
      exact jg_iret (rfl) dX4_does_57 ⟨_, rfl, ⟨by rw [e9]; rfl, AF.rf, fun _ => rfl, fun q z => by rw [e9] at z; cases z⟩⟩
    · obtain ⟨i, hi, rfl⟩ := inN_nat (by omega) h_43
      refine jg_iload_n dX4_does_46 rfl rfl ?_
      refine jg_iconst (v := 1) dX4_does_47 (by decide) ?_
      refine jg_bipush (v := 9) dX4_does_48 (by decide) ?_
      refine jg_callS (c4_within E u v 1 9) me_X4_within ml_X4_82 rfl (by decide) (by decide) rfl (Nat.le_of_ble_eq_true rfl) dX4_does_50 (kk_I (fun r_50 u_50 h_50 => ?_))
      obtain ⟨rfl, rfl⟩ := h_50
      refine jb_if_ne 58 dX4_does_53 (by decide) (fun h_53 => ?_) (fun h_53 => ?_)
      · obtain ⟨y, hy1, hy2, rfl⟩ := inR_nat (lo := 1) (hi := 9) (by omega) h_53 (by omega)
        refine jg_iload_n dX4_does_58 rfl rfl ?_
        refine jg_if_ne 72 dX4_does_59 (by decide) (fun h_59 => ?_) (fun h_59 => ?_)
        · have e9 : acF p s (nI i) (nI y) = some (upP p 2 i y) := by unfold acF; rw [if_neg h_2, if_pos ⟨h_43, h_53⟩, if_neg h_59, cl_nI (show y < 2 ^ 31 by omega), cl_nI (show i < 2 ^ 31 by omega)]
          have hfin := hM.pt i y
          have hAF : AF u (s2 u 62 i (nI y)) := fun k a b c => s2_row a
          refine jg_aload_n dX4_does_72 rfl rfl ?_
          refine jg_getr fk_X4_22 sh_57 rfl dX4_does_73 ?_
          refine jg_iload_n dX4_does_76 rfl rfl ?_
          refine jg_iload_n dX4_does_77 rfl rfl ?_
          refine jg_st i sh_62 (by omega) (rfl) dX4_does_78 ?_
          refine jg_iconst (v := 1) dX4_does_79 (by decide) ?_
          exact jg_iret (rfl) dX4_does_80 ⟨_, rfl, ⟨by rw [e9]; rfl, hAF, fun z => (by rw [e9] at z; cases z), fun q z => by rw [e9] at z; cases z; exact hfin⟩⟩
        · have e9 : acF p s (nI i) (nI y) = some (upP p 3 i y) := by unfold acF; rw [if_neg h_2, if_pos ⟨h_43, h_53⟩, if_pos h_59, cl_nI (show y < 2 ^ 31 by omega), cl_nI (show i < 2 ^ 31 by omega)]
          have hfin := hM.wd i y
          have hAF : AF u (s2 u 63 i (nI y)) := fun k a b c => s2_row b
          refine jg_aload_n dX4_does_62 rfl rfl ?_
          refine jg_getr fk_X4_25 sh_57 rfl dX4_does_63 ?_
          refine jg_iload_n dX4_does_66 rfl rfl ?_
          refine jg_iload_n dX4_does_67 rfl rfl ?_
          refine jg_st i sh_63 (by omega) (rfl) dX4_does_68 ?_
          refine jg_goto 79 dX4_does_69 (by decide) ?_
          refine jg_iconst (v := 1) dX4_does_79 (by decide) ?_
          exact jg_iret (rfl) dX4_does_80 ⟨_, rfl, ⟨by rw [e9]; rfl, hAF, fun z => (by rw [e9] at z; cases z), fun q z => by rw [e9] at z; cases z; exact hfin⟩⟩
      · have e9 : acF p s (nI i) v = none := by unfold acF; rw [if_neg h_2, if_neg (fun z => by rw [h_53] at z; exact absurd z.2 (by decide))]
        refine jg_iconst (v := 0) dX4_does_56 (by decide) ?_
        exact jg_iret (rfl) dX4_does_57 ⟨_, rfl, ⟨by rw [e9]; rfl, AF.rf, fun _ => rfl, fun q z => by rw [e9] at z; cases z⟩⟩
  · refine jg_iload_n dX4_does_5 rfl rfl ?_
    refine jg_iconst (v := 0) dX4_does_6 (by decide) ?_
    refine jg_iconst (v := 1) dX4_does_7 (by decide) ?_
    refine jg_callS (c4_within E u w 0 1) me_X4_within ml_X4_82 rfl (by decide) (by decide) rfl (Nat.le_of_ble_eq_true rfl) dX4_does_8 (kk_I (fun r_8 u_8 h_8 => ?_))
    obtain ⟨rfl, rfl⟩ := h_8
    refine jg_top (y := bI (decide (w = 0) || decide (w = 1))) (congrArg bI inR01) ?_
    refine jb_if_eq 28 dX4_does_11 (by decide) (fun h_11 => ?_) (fun h_11 => ?_)
    · have e9 : acF p s w v = none := by unfold acF; rw [if_pos h_2, if_neg (fun z => by rw [h_11] at z; exact absurd z.1 (by decide))]
      refine jg_iconst (v := 0) dX4_does_28 (by decide) ?_
      exact jg_iret (rfl) dX4_does_29 ⟨_, rfl, ⟨by rw [e9]; rfl, AF.rf, fun _ => rfl, fun q z => by rw [e9] at z; cases z⟩⟩
    · have hord := h_11
      refine jg_iload_n dX4_does_14 rfl rfl ?_
      refine jg_if_lt 28 dX4_does_15 (by decide) (fun h_15 => ?_) (fun h_15 => ?_)
      · have hk9 : inN v (nI (pn p) - 1) = false := by simp [inN, h_15]
        have e9 : acF p s w v = none := by unfold acF; rw [if_pos h_2, if_neg (fun z => by rw [hk9] at z; exact absurd z.2 (by decide))]
        refine jg_iconst (v := 0) dX4_does_28 (by decide) ?_
        exact jg_iret (rfl) dX4_does_29 ⟨_, rfl, ⟨by rw [e9]; rfl, AF.rf, fun _ => rfl, fun q z => by rw [e9] at z; cases z⟩⟩
      · refine jg_iload_n dX4_does_18 rfl rfl ?_
        refine jg_aload_n dX4_does_19 rfl rfl ?_
        refine jg_geti fk_X4_86 sh_57 rfl dX4_does_20 ?_
        refine jg_top (y := nI (pn p)) (hM.1) ?_
        refine jg_iconst (v := 2) dX4_does_23 (by decide) ?_
        refine jg_isubE (z := nI (pn p) - 2) dX4_does_24 (rfl) ?_
        refine jg_icmp_le 30 dX4_does_25 (by decide) (fun h_25 => ?_) (fun h_25 => ?_)
        · have hk9 : inN v (nI (pn p) - 1) = true := by have z := fun q => Int32.not_lt.mpr h_25 ((m2_m1 hn h_15).mpr q); simp only [inN, Bool.and_eq_true, Bool.not_eq_true', decide_eq_false_iff_not]; exact ⟨h_15, z⟩
          obtain ⟨x, hx, rfl⟩ := ordI hord
          obtain ⟨i, hi, rfl⟩ := nI_m1 hn hk9
          have e9 : acF p s (nI x) (nI i) = some (swP p x i) := by unfold acF; rw [if_pos h_2, if_pos ⟨hord, hk9⟩, cl_nI (show x < 2 ^ 31 by omega), cl_nI (show i < 2 ^ 31 by omega)]
          refine jg_aload_n dX4_does_30 rfl rfl ?_
          refine jg_iload_n dX4_does_31 rfl rfl ?_
          refine jg_iload_n dX4_does_32 rfl rfl ?_
          refine jg_callV (c4_turns E u x i hx (by omega)) me_X4_turns ml_X4_186 sh_57 rfl rfl (by decide) (by decide) rfl (Nat.le_of_ble_eq_true rfl) dX4_does_33 (kk_V (fun u_33 h_33 => ?_))
          obtain rfl := h_33
          refine jg_iconst (v := 1) dX4_does_36 (by decide) ?_
          exact jg_iret (rfl) dX4_does_37 ⟨_, rfl, ⟨by rw [e9]; rfl, fun k a b c => sw_out c, fun z => (by rw [e9] at z; cases z), fun q z => by rw [e9] at z; cases z; exact sw_MdB hM hx hi hn⟩⟩
        · have hk9 : inN v (nI (pn p) - 1) = false := by simp [inN, (m2_m1 hn h_15).mp (Int32.not_le.mp h_25)]
          have e9 : acF p s w v = none := by unfold acF; rw [if_pos h_2, if_neg (fun z => by rw [hk9] at z; exact absurd z.2 (by decide))]
          refine jg_iconst (v := 0) dX4_does_28 (by decide) ?_
          exact jg_iret (rfl) dX4_does_29 ⟨_, rfl, ⟨by rw [e9]; rfl, AF.rf, fun _ => rfl, fun q z => by rw [e9] at z; cases z⟩⟩
set_option maxHeartbeats 4000000 in
set_option maxRecDepth 20000 in
theorem c4_goDay (E : gT) (u : Mm) (p : Pic) (hp : PicOk p) (hpp : PicP p) (hM : MdB u p) (x : Nat) (hx : x < 4) (c : Nat → Int32) (hc : ∀ i, i < 60 → u 60 (60 * x + i) = c i) (a m : Nat) (hm : a + 3 * m ≤ 60) : Con E yX4_goDay cX4_goDay 4 (some .int) 2 [.ref (E.2.1 57), .int (nI (60 * x + a)), .int (nI m)] u (kI (fun r2 u2 => r2 = oI (-9) (dyN p c a m) ∧ AF u u2 ∧ ∃ q, PicOk q ∧ PicP q ∧ pn q = pn p ∧ MdB u2 q ∧ (dyN p c a m = none → dyS p c a m = some q))) := by
  have hn := hp.1
  refine Con.of (lv := [some (.ref (E.2.1 57)), some (.int (nI (60 * x + a))), some (.int (nI m)), none]) (by decide +kernel) (Nat.le_of_ble_eq_true rfl) rfl ?_
  refine jg_iconst (v := 0) dX4_goDay_0 (by decide) ?_
  refine jg_istore_n dX4_goDay_1 rfl (by decide) rfl ?_
  have cut_2 : ∀ (w t : Nat) (y : Mm) (q : Pic), t ≤ m → m < t + w → AF u y → PicOk q → MdB y q → PicP q → pn q = pn p → dyS p c a t = some q → G E cX4_goDay 4 (yX4_goDay).cls (some .int) 2 (kI (fun r2 u2 => r2 = oI (-9) (dyN p c a m) ∧ AF u u2 ∧ ∃ q, PicOk q ∧ PicP q ∧ pn q = pn p ∧ MdB u2 q ∧ (dyN p c a m = none → dyS p c a m = some q))) 2 [some (.ref (E.2.1 57)), some (.int (nI (60 * x + a))), some (.int (nI m)), some (.int (nI t))] [] y := by
    intro w
    induction w with
    | zero => intro t y q h1 h2; omega
    | succ w ih =>
      intro t y q ht hw hF hq1 hq2 hq4 hqn hd
      refine jg_iload_n dX4_goDay_2 rfl rfl ?_
      refine jg_iload_n dX4_goDay_3 rfl rfl ?_
      refine jn_icmp_ge t m rfl rfl (by omega) (by omega) 56 dX4_goDay_4 (by decide) (fun h_4 => ?_) (fun h_4 => ?_)
      · obtain rfl : t = m := by omega
        refine jg_bipush (v := -9) dX4_goDay_56 (by decide) ?_
        exact jg_iret (rfl) dX4_goDay_58 ⟨_, rfl, ⟨by rw [dy_some t hd]; rfl, hF, q, hq1, hq4, hqn, hq2, fun _ => hd⟩⟩
      · refine jg_aload_n dX4_goDay_7 rfl rfl ?_
        refine jg_aload_n dX4_goDay_8 rfl rfl ?_
        refine jg_getr fk_X4_16 sh_57 rfl dX4_goDay_9 ?_
        refine jg_iload_n dX4_goDay_12 rfl rfl ?_
        refine jg_iconst (v := 3) dX4_goDay_13 (by decide) ?_
        refine jg_iload_n dX4_goDay_14 rfl rfl ?_
        refine jg_imulE (z := nI (3 * t)) dX4_goDay_15 (pk_mul 3 t) ?_
        refine jg_iaddE (z := nI ((60 * x + a) + (3 * t))) dX4_goDay_16 (nI_add (60 * x + a) (3 * t)) ?_
        refine jg_ld ((60 * x + a) + (3 * t)) sh_60 (by omega) (rfl) dX4_goDay_17 ?_
        refine jg_top (y := c (a + 3 * t)) ((congrFun (hF 60 (by decide) (by decide) (by decide)) _).trans (by rw [show 60 * x + a + 3 * t = 60 * x + (a + 3 * t) by omega]; exact hc _ (by omega))) ?_
        refine jg_aload_n dX4_goDay_18 rfl rfl ?_
        refine jg_getr fk_X4_16 sh_57 rfl dX4_goDay_19 ?_
        refine jg_iload_n dX4_goDay_22 rfl rfl ?_
        refine jg_iconst (v := 3) dX4_goDay_23 (by decide) ?_
        refine jg_iload_n dX4_goDay_24 rfl rfl ?_
        refine jg_imulE (z := nI (3 * t)) dX4_goDay_25 (pk_mul 3 t) ?_
        refine jg_iaddE (z := nI ((60 * x + a) + (3 * t))) dX4_goDay_26 (nI_add (60 * x + a) (3 * t)) ?_
        refine jg_iconst (v := 1) dX4_goDay_27 (by decide) ?_
        refine jg_iaddE (z := nI (((60 * x + a) + (3 * t)) + 1)) dX4_goDay_28 (nI_add ((60 * x + a) + (3 * t)) 1) ?_
        refine jg_ld (((60 * x + a) + (3 * t)) + 1) sh_60 (by omega) (rfl) dX4_goDay_29 ?_
        refine jg_top (y := c (a + 3 * t + 1)) ((congrFun (hF 60 (by decide) (by decide) (by decide)) _).trans (by rw [show 60 * x + a + 3 * t + 1 = 60 * x + (a + 3 * t + 1) by omega]; exact hc _ (by omega))) ?_
        refine jg_aload_n dX4_goDay_30 rfl rfl ?_
        refine jg_getr fk_X4_16 sh_57 rfl dX4_goDay_31 ?_
        refine jg_iload_n dX4_goDay_34 rfl rfl ?_
        refine jg_iconst (v := 3) dX4_goDay_35 (by decide) ?_
        refine jg_iload_n dX4_goDay_36 rfl rfl ?_
        refine jg_imulE (z := nI (3 * t)) dX4_goDay_37 (pk_mul 3 t) ?_
        refine jg_iaddE (z := nI ((60 * x + a) + (3 * t))) dX4_goDay_38 (nI_add (60 * x + a) (3 * t)) ?_
        refine jg_iconst (v := 2) dX4_goDay_39 (by decide) ?_
        refine jg_iaddE (z := nI (((60 * x + a) + (3 * t)) + 2)) dX4_goDay_40 (nI_add ((60 * x + a) + (3 * t)) 2) ?_
        refine jg_ld (((60 * x + a) + (3 * t)) + 2) sh_60 (by omega) (rfl) dX4_goDay_41 ?_
        refine jg_top (y := c (a + 3 * t + 2)) ((congrFun (hF 60 (by decide) (by decide) (by decide)) _).trans (by rw [show 60 * x + a + 3 * t + 2 = 60 * x + (a + 3 * t + 2) by omega]; exact hc _ (by omega))) ?_
        refine jg_callV (c4_does E y q hq1 hq2 (c (a + 3 * t)) (c (a + 3 * t + 1)) (c (a + 3 * t + 2))) me_X4_does ml_X4_199 sh_57 rfl rfl (by decide) (by decide) rfl (Nat.le_of_ble_eq_true rfl) dX4_goDay_42 (kk_I (fun r_42 u_42 h_42 => ?_))
        obtain ⟨rfl, hF1, hsm, hq3⟩ := h_42
        refine jb_if_ne 50 dX4_goDay_45 (by decide) (fun h_45 => ?_) (fun h_45 => ?_)
        · obtain ⟨q9, hq9⟩ : ∃ z, acF q (c (a + 3 * t)) (c (a + 3 * t + 1)) (c (a + 3 * t + 2)) = some z := Option.isSome_iff_exists.mp h_45
          obtain ⟨k1, k2, k3⟩ := ac_ok hq1 hq4 hq9
          refine jg_iinc (v := nI (t + 1)) dX4_goDay_50 rfl (nI_1 t) (by decide) rfl ?_
          refine jg_goto 2 dX4_goDay_53 (by decide) ?_
          exact ih (t + 1) _ q9 (by omega) (by omega) (hF.tr hF1) k1 (hq3 q9 hq9) k2 (k3.trans hqn) (dy_go hd hq9)
        · have hnn : acF q (c (a + 3 * t)) (c (a + 3 * t + 1)) (c (a + 3 * t + 2)) = none := Option.isNone_iff_eq_none.mp (by rw [← Option.not_isSome, h_45]; rfl)
          obtain ⟨d1, d2⟩ := dy_stop hd hnn m h_4
          refine jg_iload_n dX4_goDay_48 rfl rfl ?_
          have hbad : acF q (c (a + 3 * t)) (c (a + 3 * t + 1)) (c (a + 3 * t + 2)) = none → MdB u_42 q := fun z => by rw [← hsm z]; exact hq2
          exact jg_iret (rfl) dX4_goDay_49 ⟨_, rfl, ⟨by rw [d1]; rfl, hF.tr hF1, q, hq1, hq4, hqn, hbad hnn, fun z => by rw [d1] at z; cases z⟩⟩
  exact cut_2 (m + 1) 0 u p (by omega) (by omega) AF.rf hp hM hpp rfl rfl
theorem lt10 {w : Int32} (h : (inR w 0 4 || inR w 10 15) = true) (h1 : ¬ w < 10) : ¬ w = 0 ∧ ¬ w = 2 ∧ ¬ w = 3 ∧ ¬ w = 4 := ⟨fun e => by subst e; exact h1 (by decide), fun e => by subst e; exact h1 (by decide), fun e => by subst e; exact h1 (by decide), fun e => by subst e; exact h1 (by decide)⟩
theorem is4 {w : Int32} (h : (inR w 0 4 || inR w 10 15) = true) (h1 : w < 10) (h0 : ¬ w = 0) (h2 : ¬ w = 2) (h3 : ¬ w = 3) (h9 : ¬ w = 1) : w = 4 := by
  have h5 : inR w 0 4 = true := by
    cases e : inR w 0 4 with
    | true => rfl
    | false =>
      rw [e, Bool.false_or] at h
      obtain ⟨j, z1, z2, rfl⟩ := inR_nat (lo := 10) (hi := 15) (by omega) h (by omega)
      exact absurd h1 (nI_nlt (b := 10) z1 (by omega))
  obtain ⟨j, -, z2, rfl⟩ := inR_nat (lo := 0) (hi := 4) (by omega) h5 (by omega)
  rcases (show j = 0 ∨ j = 1 ∨ j = 2 ∨ j = 3 ∨ j = 4 by omega) with rfl | rfl | rfl | rfl | rfl
  · exact absurd rfl h0
  · exact absurd rfl h9
  · exact absurd rfl h2
  · exact absurd rfl h3
  · rfl
set_option maxHeartbeats 4000000 in
set_option maxRecDepth 20000 in
theorem c4_tellDay (E : gT) (u : Mm) (q : Pic) (hp : PicOk q) (hpp : PicP q) (hM : MdB u q) (w : Int32) (hw : (inR w 0 4 || inR w 10 15) = true) : Con E yX4_tellDay cX4_tellDay 2 (some .int) 4 [.ref (E.2.1 57), .int w] u (kI (fun r u2 => (¬ w = 1 → r = tdF q w) ∧ MF u u2)) := by
  have hn := hp.1
  refine Con.of (lv := [some (.ref (E.2.1 57)), some (.int w)]) (by decide +kernel) (Nat.le_of_ble_eq_true rfl) rfl ?_
  refine jg_aload_n dX4_tellDay_0 rfl rfl ?_
  refine jg_callV (c4_findPlaces E u q hp hM (fun a ha => (hpp a ha).2)) me_X4_findPlaces ml_X4_164 sh_57 rfl rfl (by decide) (by decide) rfl (Nat.le_of_ble_eq_true rfl) dX4_tellDay_1 (kk_V (fun u_1 h_1 => ?_))
  obtain ⟨hF, hX⟩ := h_1
  have hB := hM.fr hF
  refine jg_iload_n dX4_tellDay_4 rfl rfl ?_
  refine jg_bipush (v := 10) dX4_tellDay_5 (by decide) ?_
  refine jg_icmp_lt 36 dX4_tellDay_7 (by decide) (fun h_7 => ?_) (fun h_7 => ?_)
  · refine jg_iload_n dX4_tellDay_36 rfl rfl ?_
    refine jg_if_ne 47 dX4_tellDay_37 (by decide) (fun h_37 => ?_) (fun h_37 => ?_)
    · refine jg_iload_n dX4_tellDay_47 rfl rfl ?_
      refine jg_iconst (v := 2) dX4_tellDay_48 (by decide) ?_
      refine jg_icmp_ne 59 dX4_tellDay_49 (by decide) (fun h_49 => ?_) (fun h_49 => ?_)
      · refine jg_iload_n dX4_tellDay_59 rfl rfl ?_
        refine jg_iconst (v := 3) dX4_tellDay_60 (by decide) ?_
        refine jg_icmp_ne 71 dX4_tellDay_61 (by decide) (fun h_61 => ?_) (fun h_61 => ?_)
        · have eT : ¬ w = 1 → tdF q w = nI (twosF q (pn q) / 2) := fun h9 => by have z := is4 hw h_7 h_37 h_49 h_61 h9; unfold tdF; rw [if_neg h_37, if_neg h_49, if_neg h_61, if_pos z]
          refine jg_aload_n dX4_tellDay_71 rfl rfl ?_
          refine jg_callV (c4_manyTouch E u_1 q hp hpp hB hX) me_X4_manyTouch ml_X4_193 sh_57 rfl rfl (by decide) (by decide) rfl (Nat.le_of_ble_eq_true rfl) dX4_tellDay_72 (kk_I (fun r_72 u_72 h_72 => ?_))
          obtain ⟨rfl, rfl⟩ := h_72
          exact jg_iret (rfl) dX4_tellDay_75 ⟨_, rfl, ⟨fun h9 => by first | rw [eT h9] | rw [eT], hF⟩⟩
        · have eT : tdF q w = nI (brP q * dpP q) - nI (usedF q (pn q)) := by unfold tdF; rw [if_neg h_37, if_neg h_49, if_pos h_61]
          refine jg_aload_n dX4_tellDay_64 rfl rfl ?_
          refine jg_callV (c4_waste E u_1 q hp hpp hB hX) me_X4_waste ml_X4_190 sh_57 rfl rfl (by decide) (by decide) rfl (Nat.le_of_ble_eq_true rfl) dX4_tellDay_65 (kk_I (fun r_65 u_65 h_65 => ?_))
          obtain ⟨rfl, rfl⟩ := h_65
          refine jg_goto 75 dX4_tellDay_68 (by decide) ?_
          exact jg_iret (rfl) dX4_tellDay_75 ⟨_, rfl, ⟨fun h9 => by first | rw [eT h9] | rw [eT], hF⟩⟩
      · have eT : tdF q w = nI (dpP q) := by unfold tdF; rw [if_neg h_37, if_pos h_49]
        refine jg_aload_n dX4_tellDay_52 rfl rfl ?_
        refine jg_geti fk_X4_139 sh_57 rfl dX4_tellDay_53 ?_
        refine jg_top (y := nI (dpP q)) (hX.2.2) ?_
        refine jg_goto 75 dX4_tellDay_56 (by decide) ?_
        exact jg_iret (rfl) dX4_tellDay_75 ⟨_, rfl, ⟨fun h9 => by first | rw [eT h9] | rw [eT], hF⟩⟩
    · have eT : tdF q w = nI (brP q) := by unfold tdF; rw [if_pos h_37]
      refine jg_aload_n dX4_tellDay_40 rfl rfl ?_
      refine jg_geti fk_X4_136 sh_57 rfl dX4_tellDay_41 ?_
      refine jg_top (y := nI (brP q)) (hX.2.1) ?_
      refine jg_goto 75 dX4_tellDay_44 (by decide) ?_
      exact jg_iret (rfl) dX4_tellDay_75 ⟨_, rfl, ⟨fun h9 => by first | rw [eT h9] | rw [eT], hF⟩⟩
  · obtain ⟨n0, n2, n3, n4⟩ := lt10 hw h_7
    refine jg_aload_n dX4_tellDay_10 rfl rfl ?_
    refine jg_iload_n dX4_tellDay_11 rfl rfl ?_
    refine jg_bipush (v := 10) dX4_tellDay_12 (by decide) ?_
    refine jg_isub dX4_tellDay_14 ?_
    refine jg_callV (c4_isArea E u_1 (w - 10)) me_X4_isArea ml_X4_173 sh_57 rfl rfl (by decide) (by decide) rfl (Nat.le_of_ble_eq_true rfl) dX4_tellDay_15 (kk_I (fun r_15 u_15 h_15 => ?_))
    obtain ⟨rfl, rfl⟩ := h_15
    refine jg_top (y := bI (inN (w - 10) (nI (pn q)))) (congrArg (fun z => bI (inN (w - 10) z)) hB.1) ?_
    refine jb_if_eq 33 dX4_tellDay_18 (by decide) (fun h_18 => ?_) (fun h_18 => ?_)
    · have eT : tdF q w = -9 := by unfold tdF; rw [if_neg n0, if_neg n2, if_neg n3, if_neg n4, if_neg (by rw [h_18]; decide)]
      refine jg_bipush (v := -9) dX4_tellDay_33 (by decide) ?_
      exact jg_iret (rfl) dX4_tellDay_35 ⟨_, rfl, ⟨fun _ => by rw [eT], hF⟩⟩
    · obtain ⟨i, hi, ei⟩ := inN_nat (by omega) h_18
      have eT : tdF q w = nI (xF q i) := by unfold tdF; rw [if_neg n0, if_neg n2, if_neg n3, if_neg n4, if_pos h_18, ei, cl_nI (by omega)]
      refine jg_aload_n dX4_tellDay_21 rfl rfl ?_
      refine jg_getr fk_X4_49 sh_57 rfl dX4_tellDay_22 ?_
      refine jg_iload_n dX4_tellDay_25 rfl rfl ?_
      refine jg_bipush (v := 10) dX4_tellDay_26 (by decide) ?_
      refine jg_isub dX4_tellDay_28 ?_
      refine jg_ld i sh_71 (by omega) (ei) dX4_tellDay_29 ?_
      refine jg_top (y := nI (xF q i)) ((hX.1 i hi).2.1) ?_
      refine jg_goto 35 dX4_tellDay_30 (by decide) ?_
      exact jg_iret (rfl) dX4_tellDay_35 ⟨_, rfl, ⟨fun _ => by rw [eT], hF⟩⟩
set_option maxHeartbeats 4000000 in
set_option maxRecDepth 20000 in
theorem c4_keep (E : gT) (u : Mm) : Con E yX4_keep cX4_keep 2 none 0 [.ref (E.2.1 57)] u (kV (fun u2 => (∀ k, k ≠ 75 → u2 k = u k) ∧ (∀ i, i < 6 → u2 75 i = u 62 i ∧ u2 75 (6 + i) = u 63 i) ∧ ∀ k, k < 12 → u2 75 (12 + k) = u 65 k)) := by
  refine Con.of (lv := [some (.ref (E.2.1 57)), none]) (by decide +kernel) (Nat.le_of_ble_eq_true rfl) rfl ?_
  refine jg_iconst (v := 0) dX4_keep_0 (by decide) ?_
  refine jg_istore_n dX4_keep_1 rfl (by decide) rfl ?_
  have cut_2 : ∀ (m i : Nat) (x : Mm), i ≤ 6 → 6 < i + m → (∀ k, k ≠ 75 → x k = u k) → (∀ q, q < i → x 75 q = u 62 q ∧ x 75 (6 + q) = u 63 q) → G E cX4_keep 2 (yX4_keep).cls none 0 (kV (fun u2 => (∀ k, k ≠ 75 → u2 k = u k) ∧ (∀ i, i < 6 → u2 75 i = u 62 i ∧ u2 75 (6 + i) = u 63 i) ∧ ∀ k, k < 12 → u2 75 (12 + k) = u 65 k)) 2 [some (.ref (E.2.1 57)), some (.int (nI i))] [] x := by
    intro m
    induction m with
    | zero => intro i x h1 h2; omega
    | succ m ih =>
      intro i x hi hm hr hq
      refine jg_iload_n dX4_keep_2 rfl rfl ?_
      refine jg_bipush (v := 6) dX4_keep_3 (by decide) ?_
      refine jn_icmp_ge i 6 rfl rfl (by omega) (by omega) 41 dX4_keep_5 (by decide) (fun h_5 => ?_) (fun h_5 => ?_)
      · obtain rfl : i = 6 := by omega
        refine jg_iconst (v := 0) dX4_keep_41 (by decide) ?_
        refine jg_istore_n dX4_keep_42 rfl (by decide) rfl ?_
        have cut_43 : ∀ (m j : Nat) (y : Mm), j ≤ 12 → 12 < j + m → (∀ k, k ≠ 75 → y k = u k) → (∀ q, q < 6 → y 75 q = u 62 q ∧ y 75 (6 + q) = u 63 q) → (∀ k, k < j → y 75 (12 + k) = u 65 k) → G E cX4_keep 2 (yX4_keep).cls none 0 (kV (fun u2 => (∀ k, k ≠ 75 → u2 k = u k) ∧ (∀ i, i < 6 → u2 75 i = u 62 i ∧ u2 75 (6 + i) = u 63 i) ∧ ∀ k, k < 12 → u2 75 (12 + k) = u 65 k)) 43 [some (.ref (E.2.1 57)), some (.int (nI j))] [] y := by
          intro m
          induction m with
          | zero => intro j y h1 h2; omega
          | succ m ih2 =>
            intro j y hj hm hr2 hq2 hk2
            refine jg_iload_n dX4_keep_43 rfl rfl ?_
            refine jg_bipush (v := 12) dX4_keep_44 (by decide) ?_
            refine jn_icmp_ge j 12 rfl rfl (by omega) (by omega) 70 dX4_keep_46 (by decide) (fun h_46 => ?_) (fun h_46 => ?_)
            · exact jg_vret dX4_keep_70 ⟨rfl, ⟨hr2, hq2, fun k hk => hk2 k (by omega)⟩⟩
            · refine jg_aload_n dX4_keep_49 rfl rfl ?_
              refine jg_getr fk_X4_61 sh_57 rfl dX4_keep_50 ?_
              refine jg_bipush (v := 12) dX4_keep_53 (by decide) ?_
              refine jg_iload_n dX4_keep_55 rfl rfl ?_
              refine jg_iaddE (z := nI (12 + j)) dX4_keep_56 (nI_add 12 j) ?_
              refine jg_aload_n dX4_keep_57 rfl rfl ?_
              refine jg_getr fk_X4_31 sh_57 rfl dX4_keep_58 ?_
              refine jg_iload_n dX4_keep_61 rfl rfl ?_
              refine jg_ld j sh_65 (by omega) (rfl) dX4_keep_62 ?_
              refine jg_top (y := u 65 j) (by rw [hr2 65 (by decide)]) ?_
              refine jg_st (12 + j) sh_75 (by omega) (rfl) dX4_keep_63 ?_
              refine jg_iinc (v := nI (j + 1)) dX4_keep_64 rfl (nI_1 j) (by decide) rfl ?_
              refine jg_goto 43 dX4_keep_67 (by decide) ?_
              exact ih2 (j + 1) _ (by omega) (by omega) (fun k h => by rw [s2_row h]; exact hr2 k h) (fun q h => by rw [s2_ne (by omega), s2_ne (by omega)]; exact hq2 q h) (fun q h => by by_cases e : q = j; (subst e; exact s2_self _ _ _ _); (rw [s2_ne (by omega)]; exact hk2 q (by omega)))
        exact cut_43 13 0 x (by omega) (by omega) hr hq (fun q h => by omega)
      · refine jg_aload_n dX4_keep_8 rfl rfl ?_
        refine jg_getr fk_X4_61 sh_57 rfl dX4_keep_9 ?_
        refine jg_iload_n dX4_keep_12 rfl rfl ?_
        refine jg_aload_n dX4_keep_13 rfl rfl ?_
        refine jg_getr fk_X4_22 sh_57 rfl dX4_keep_14 ?_
        refine jg_iload_n dX4_keep_17 rfl rfl ?_
        refine jg_ld i sh_62 (by omega) (rfl) dX4_keep_18 ?_
        refine jg_top (y := u 62 i) (by rw [hr 62 (by decide)]) ?_
        refine jg_st i sh_75 (by omega) (rfl) dX4_keep_19 ?_
        refine jg_aload_n dX4_keep_20 rfl rfl ?_
        refine jg_getr fk_X4_61 sh_57 rfl dX4_keep_21 ?_
        refine jg_bipush (v := 6) dX4_keep_24 (by decide) ?_
        refine jg_iload_n dX4_keep_26 rfl rfl ?_
        refine jg_iaddE (z := nI (6 + i)) dX4_keep_27 (nI_add 6 i) ?_
        refine jg_aload_n dX4_keep_28 rfl rfl ?_
        refine jg_getr fk_X4_25 sh_57 rfl dX4_keep_29 ?_
        refine jg_iload_n dX4_keep_32 rfl rfl ?_
        refine jg_ld i sh_63 (by omega) (rfl) dX4_keep_33 ?_
        refine jg_top (y := u 63 i) (by rw [s2_row (by decide), hr 63 (by decide)]) ?_
        refine jg_st (6 + i) sh_75 (by omega) (rfl) dX4_keep_34 ?_
        refine jg_iinc (v := nI (i + 1)) dX4_keep_35 rfl (nI_1 i) (by decide) rfl ?_
        refine jg_goto 2 dX4_keep_38 (by decide) ?_
        exact ih (i + 1) _ (by omega) (by omega) (fun k h => by rw [s2_row h, s2_row h]; exact hr k h) (fun q h => by by_cases e : q = i; (subst e; exact ⟨by rw [s2_ne (by omega), s2_self], s2_self _ _ _ _⟩); (rw [s2_ne (by omega), s2_ne (by omega), s2_ne (by omega), s2_ne (by omega)]; exact hq q (by omega)))
  exact cut_2 7 0 u (by omega) (by omega) (fun _ _ => rfl) (fun q h => by omega)
set_option maxHeartbeats 4000000 in
set_option maxRecDepth 20000 in
theorem c4_putBack (E : gT) (u : Mm) : Con E yX4_putBack cX4_putBack 2 none 0 [.ref (E.2.1 57)] u (kV (fun u2 => (∀ k, k ≠ 62 → k ≠ 63 → k ≠ 65 → u2 k = u k) ∧ (∀ i, i < 6 → u2 62 i = u 75 i ∧ u2 63 i = u 75 (6 + i)) ∧ ∀ k, k < 12 → u2 65 k = u 75 (12 + k))) := by
  refine Con.of (lv := [some (.ref (E.2.1 57)), none]) (by decide +kernel) (Nat.le_of_ble_eq_true rfl) rfl ?_
  refine jg_iconst (v := 0) dX4_putBack_0 (by decide) ?_
  refine jg_istore_n dX4_putBack_1 rfl (by decide) rfl ?_
  have cut_2 : ∀ (m i : Nat) (x : Mm), i ≤ 6 → 6 < i + m → (∀ k, k ≠ 62 → k ≠ 63 → x k = u k) → (∀ q, q < i → x 62 q = u 75 q ∧ x 63 q = u 75 (6 + q)) → G E cX4_putBack 2 (yX4_putBack).cls none 0 (kV (fun u2 => (∀ k, k ≠ 62 → k ≠ 63 → k ≠ 65 → u2 k = u k) ∧ (∀ i, i < 6 → u2 62 i = u 75 i ∧ u2 63 i = u 75 (6 + i)) ∧ ∀ k, k < 12 → u2 65 k = u 75 (12 + k))) 2 [some (.ref (E.2.1 57)), some (.int (nI i))] [] x := by
    intro m
    induction m with
    | zero => intro i x h1 h2; omega
    | succ m ih =>
      intro i x hi hm hr hq
      refine jg_iload_n dX4_putBack_2 rfl rfl ?_
      refine jg_bipush (v := 6) dX4_putBack_3 (by decide) ?_
      refine jn_icmp_ge i 6 rfl rfl (by omega) (by omega) 41 dX4_putBack_5 (by decide) (fun h_5 => ?_) (fun h_5 => ?_)
      · obtain rfl : i = 6 := by omega
        refine jg_iconst (v := 0) dX4_putBack_41 (by decide) ?_
        refine jg_istore_n dX4_putBack_42 rfl (by decide) rfl ?_
        have cut_43 : ∀ (m j : Nat) (y : Mm), j ≤ 12 → 12 < j + m → (∀ k, k ≠ 62 → k ≠ 63 → k ≠ 65 → y k = u k) → (∀ q, q < 6 → y 62 q = u 75 q ∧ y 63 q = u 75 (6 + q)) → (∀ k, k < j → y 65 k = u 75 (12 + k)) → G E cX4_putBack 2 (yX4_putBack).cls none 0 (kV (fun u2 => (∀ k, k ≠ 62 → k ≠ 63 → k ≠ 65 → u2 k = u k) ∧ (∀ i, i < 6 → u2 62 i = u 75 i ∧ u2 63 i = u 75 (6 + i)) ∧ ∀ k, k < 12 → u2 65 k = u 75 (12 + k))) 43 [some (.ref (E.2.1 57)), some (.int (nI j))] [] y := by
          intro m
          induction m with
          | zero => intro j y h1 h2; omega
          | succ m ih2 =>
            intro j y hj hm hr2 hq2 hk2
            refine jg_iload_n dX4_putBack_43 rfl rfl ?_
            refine jg_bipush (v := 12) dX4_putBack_44 (by decide) ?_
            refine jn_icmp_ge j 12 rfl rfl (by omega) (by omega) 70 dX4_putBack_46 (by decide) (fun h_46 => ?_) (fun h_46 => ?_)
            · exact jg_vret dX4_putBack_70 ⟨rfl, ⟨hr2, hq2, fun k hk => hk2 k (by omega)⟩⟩
            · refine jg_aload_n dX4_putBack_49 rfl rfl ?_
              refine jg_getr fk_X4_31 sh_57 rfl dX4_putBack_50 ?_
              refine jg_iload_n dX4_putBack_53 rfl rfl ?_
              refine jg_aload_n dX4_putBack_54 rfl rfl ?_
              refine jg_getr fk_X4_61 sh_57 rfl dX4_putBack_55 ?_
              refine jg_bipush (v := 12) dX4_putBack_58 (by decide) ?_
              refine jg_iload_n dX4_putBack_60 rfl rfl ?_
              refine jg_iaddE (z := nI (12 + j)) dX4_putBack_61 (nI_add 12 j) ?_
              refine jg_ld (12 + j) sh_75 (by omega) (rfl) dX4_putBack_62 ?_
              refine jg_top (y := u 75 (12 + j)) (by rw [hr2 75 (by decide) (by decide) (by decide)]) ?_
              refine jg_st j sh_65 (by omega) (rfl) dX4_putBack_63 ?_
              refine jg_iinc (v := nI (j + 1)) dX4_putBack_64 rfl (nI_1 j) (by decide) rfl ?_
              refine jg_goto 43 dX4_putBack_67 (by decide) ?_
              exact ih2 (j + 1) _ (by omega) (by omega) (fun k h h2 h3 => by rw [s2_row h3]; exact hr2 k h h2 h3) (fun q h => by rw [s2_row (by decide), s2_row (by decide)]; exact hq2 q h) (fun q h => by by_cases e : q = j; (subst e; exact s2_self _ _ _ _); (rw [s2_ne (by omega)]; exact hk2 q (by omega)))
        exact cut_43 13 0 x (by omega) (by omega) (fun k h h2 _ => hr k h h2) hq (fun q h => by omega)
      · refine jg_aload_n dX4_putBack_8 rfl rfl ?_
        refine jg_getr fk_X4_22 sh_57 rfl dX4_putBack_9 ?_
        refine jg_iload_n dX4_putBack_12 rfl rfl ?_
        refine jg_aload_n dX4_putBack_13 rfl rfl ?_
        refine jg_getr fk_X4_61 sh_57 rfl dX4_putBack_14 ?_
        refine jg_iload_n dX4_putBack_17 rfl rfl ?_
        refine jg_ld i sh_75 (by omega) (rfl) dX4_putBack_18 ?_
        refine jg_top (y := u 75 i) (by rw [hr 75 (by decide) (by decide)]) ?_
        refine jg_st i sh_62 (by omega) (rfl) dX4_putBack_19 ?_
        refine jg_aload_n dX4_putBack_20 rfl rfl ?_
        refine jg_getr fk_X4_25 sh_57 rfl dX4_putBack_21 ?_
        refine jg_iload_n dX4_putBack_24 rfl rfl ?_
        refine jg_aload_n dX4_putBack_25 rfl rfl ?_
        refine jg_getr fk_X4_61 sh_57 rfl dX4_putBack_26 ?_
        refine jg_bipush (v := 6) dX4_putBack_29 (by decide) ?_
        refine jg_iload_n dX4_putBack_31 rfl rfl ?_
        refine jg_iaddE (z := nI (6 + i)) dX4_putBack_32 (nI_add 6 i) ?_
        refine jg_ld (6 + i) sh_75 (by omega) (rfl) dX4_putBack_33 ?_
        refine jg_top (y := u 75 (6 + i)) (by rw [s2_row (by decide), hr 75 (by decide) (by decide)]) ?_
        refine jg_st i sh_63 (by omega) (rfl) dX4_putBack_34 ?_
        refine jg_iinc (v := nI (i + 1)) dX4_putBack_35 rfl (nI_1 i) (by decide) rfl ?_
        refine jg_goto 2 dX4_putBack_38 (by decide) ?_
        exact ih (i + 1) _ (by omega) (by omega) (fun k h h2 => by rw [s2_row h2, s2_row h]; exact hr k h h2) (fun q h => by rw [s2_row (a := 62) (by decide)]; by_cases e : q = i; (subst e; exact ⟨s2_self _ _ _ _, s2_self _ _ _ _⟩); (rw [s2_ne e, s2_ne e, s2_row (by decide)]; exact hq q (by omega)))
  exact cut_2 7 0 u (by omega) (by omega) (fun _ _ _ => rfl) (fun q h => by omega)
set_option maxHeartbeats 4000000 in
set_option maxRecDepth 20000 in
theorem d4_day (E : gT) (u : Mm) (g : Gh) (hO : Ok g) (hI : InvM u g) (k l i n w : Int32) : Con E yX4_day cX4_day 10 (some .int) 5 [.ref (E.2.1 57), .int k, .int l, .int i, .int n, .int w] u (kI (fun r u2 => r = (fDay g k l i n w).1 ∧ InvM u2 (fDay g k l i n w).2 ∧ RF u u2)) := by
  have hn := hO.1.1
  refine Con.of (lv := [some (.ref (E.2.1 57)), some (.int k), some (.int l), some (.int i), some (.int n), some (.int w), none, none, none, none]) (by decide +kernel) (Nat.le_of_ble_eq_true rfl) rfl ?_
  refine jg_aload_n dX4_day_0 rfl rfl ?_
  refine jg_iconst (v := 0) dX4_day_1 (by decide) ?_
  refine jg_puti fp_X4_76 sh_57 rfl dX4_day_2 ?_
  refine jg_iload_n dX4_day_5 rfl rfl ?_
  refine jg_callS (c4_isSheet E (s2 u 57 0 0) k) me_X4_isSheet ml_X4_92 rfl (by decide) (by decide) rfl (Nat.le_of_ble_eq_true rfl) dX4_day_6 (kk_I (fun r_6 u_6 h_6 => ?_))
  obtain ⟨rfl, rfl⟩ := h_6
  refine jb_if_ne 14 dX4_day_9 (by decide) (fun h_9 => ?_) (fun h_9 => ?_)
  · obtain ⟨x, hx, rfl⟩ := in4 h_9
    have hsx := shM_z hI hx 0
    have h60 := (hO.2.2.1 x hx).2
    refine jg_iload_n dX4_day_14 rfl rfl ?_
    refine jg_callS (c4_isSort E (s2 u 57 0 0) l) me_X4_isSort ml_X4_96 rfl (by decide) (by decide) rfl (Nat.le_of_ble_eq_true rfl) dX4_day_15 (kk_I (fun r_15 u_15 h_15 => ?_))
    obtain ⟨rfl, rfl⟩ := h_15
    refine jb_if_eq 54 dX4_day_18 (by decide) (fun h_18 => ?_) (fun h_18 => ?_)
    · have hc9 : ¬ (inR l 0 2 = true ∧ inR n 0 20 = true ∧ (inR w 0 4 || inR w 10 15) = true) := fun z => by rw [h_18] at z; exact absurd z.1 (by decide)
      refine jg_bipush (v := -2) dX4_day_54 (by decide) ?_
      have e9 : fDay g (nI x) l i n w = (-2, wFt g 0) := by unfold fDay; rw [if_pos h_9, if_neg hc9]
      exact jg_iret (rfl) dX4_day_56 ⟨_, rfl, ⟨by rw [e9] <;> rfl, by rw [e9]; exact hI.ft 0, RF.rf.put (by omega)⟩⟩
    · refine jg_iload dX4_day_21 rfl ?_
      refine jg_iconst (v := 0) dX4_day_23 (by decide) ?_
      refine jg_bipush (v := 20) dX4_day_24 (by decide) ?_
      refine jg_callS (c4_within E (s2 u 57 0 0) n 0 20) me_X4_within ml_X4_82 rfl (by decide) (by decide) rfl (Nat.le_of_ble_eq_true rfl) dX4_day_26 (kk_I (fun r_26 u_26 h_26 => ?_))
      obtain ⟨rfl, rfl⟩ := h_26
      refine jb_if_eq 54 dX4_day_29 (by decide) (fun h_29 => ?_) (fun h_29 => ?_)
      · have hc9 : ¬ (inR l 0 2 = true ∧ inR n 0 20 = true ∧ (inR w 0 4 || inR w 10 15) = true) := fun z => by rw [h_29] at z; exact absurd z.2.1 (by decide)
        refine jg_bipush (v := -2) dX4_day_54 (by decide) ?_
        have e9 : fDay g (nI x) l i n w = (-2, wFt g 0) := by unfold fDay; rw [if_pos h_9, if_neg hc9]
        exact jg_iret (rfl) dX4_day_56 ⟨_, rfl, ⟨by rw [e9] <;> rfl, by rw [e9]; exact hI.ft 0, RF.rf.put (by omega)⟩⟩
      · refine jg_iload dX4_day_32 rfl ?_
        refine jg_iconst (v := 0) dX4_day_34 (by decide) ?_
        refine jg_iconst (v := 4) dX4_day_35 (by decide) ?_
        refine jg_callS (c4_within E (s2 u 57 0 0) w 0 4) me_X4_within ml_X4_82 rfl (by decide) (by decide) rfl (Nat.le_of_ble_eq_true rfl) dX4_day_36 (kk_I (fun r_36 u_36 h_36 => ?_))
        obtain ⟨rfl, rfl⟩ := h_36
        refine jb_if_ne 57 dX4_day_39 (by decide) (fun h_39 => ?_) (fun h_39 => ?_)
        · have hw9 : (inR w 0 4 || inR w 10 15) = true := by rw [h_39]; rfl
          have hc9 : inR l 0 2 = true ∧ inR n 0 20 = true ∧ (inR w 0 4 || inR w 10 15) = true := ⟨h_18, h_29, hw9⟩
          obtain ⟨b, -, hb, rfl⟩ := inR_nat (lo := 0) (hi := 20) (by omega) h_29 (by omega)
          have h33 : (3 : Int32) * nI b = nI (3 * b) := pk_mul 3 b
          refine jg_aload_n dX4_day_57 rfl rfl ?_
          refine jg_iload_n dX4_day_58 rfl rfl ?_
          refine jg_iload_n dX4_day_59 rfl rfl ?_
          refine jg_iload_n dX4_day_60 rfl rfl ?_
          refine jg_iconst (v := 3) dX4_day_61 (by decide) ?_
          refine jg_iload dX4_day_62 rfl ?_
          refine jg_imulE (z := nI (3 * b)) dX4_day_64 (pk_mul 3 b) ?_
          refine jg_callV (c4_against E (s2 u 57 0 0) x hx (g.2.2.2.1 x) hsx (hO.2.2.1 x hx).1 l i (nI (3 * b))) me_X4_against ml_X4_99 sh_57 rfl rfl (by decide) (by decide) rfl (Nat.le_of_ble_eq_true rfl) dX4_day_65 (kk_I (fun r_65 u_65 h_65 => ?_))
          obtain ⟨rfl, rfl⟩ := h_65
          refine jg_istore dX4_day_68 (by decide) rfl ?_
          refine jg_iload dX4_day_70 rfl ?_
          refine jg_if_eq 82 dX4_day_72 (by decide) (fun h_72 => ?_) (fun h_72 => ?_)
          · obtain ⟨ht, hl, hh⟩ := agF_hc h_72
            obtain ⟨a, hab, rfl⟩ := hc_n h60 (by omega) hh
            refine jg_aload_n dX4_day_82 rfl rfl ?_
            refine jg_geti fk_X4_86 sh_57 rfl dX4_day_83 ?_
            refine jg_top (y := nI (pn g.1)) (by rw [s2_ne (by decide)]; exact hI.1.1) ?_
            refine jn_if_ne (pn g.1) rfl (by omega) 92 dX4_day_86 (by decide) (fun h_86 => ?_) (fun h_86 => ?_)
            · refine jg_bipush (v := 60) dX4_day_92 (by decide) ?_
              refine jg_iload_n dX4_day_94 rfl rfl ?_
              refine jg_imulE (z := nI (60 * x)) dX4_day_95 (pk_mul 60 x) ?_
              refine jg_iload_n dX4_day_96 rfl rfl ?_
              refine jg_iaddE (z := nI ((60 * x) + a)) dX4_day_97 (nI_add (60 * x) a) ?_
              refine jg_istore dX4_day_98 (by decide) rfl ?_
              refine jg_iconst (v := 0) dX4_day_100 (by decide) ?_
              refine jg_istore dX4_day_101 (by decide) rfl ?_
              have cut_103 : ∀ (m q : Nat), q ≤ b → b < q + m → skF (g.2.2.2.1 x).2.2.2 a q = true → G E cX4_day 10 (yX4_day).cls (some .int) 5 (kI (fun r u2 => r = (fDay g (nI x) l (nI a) (nI b) w).1 ∧ InvM u2 (fDay g (nI x) l (nI a) (nI b) w).2 ∧ RF u u2)) 103 [some (.ref (E.2.1 57)), some (.int (nI x)), some (.int l), some (.int (nI a)), some (.int (nI b)), some (.int w), none, some (.int (nI (60 * x + a))), some (.int (nI q)), none] [] (s2 u 57 0 0) := by
                intro m
                induction m with
                | zero => intro q h1 h2; omega
                | succ m ih =>
                  intro q hq hm hsk
                  refine jg_iload dX4_day_103 rfl ?_
                  refine jg_iload dX4_day_105 rfl ?_
                  refine jn_icmp_ge q b rfl rfl (by omega) (by omega) 139 dX4_day_107 (by decide) (fun h_107 => ?_) (fun h_107 => ?_)
                  · obtain rfl : b = q := by omega
                    have e9 : fDay g (nI x) l (nI a) (nI b) w = (dyF g.1 (g.2.2.2.1 x).2.2.2 a b w, wFt g 0) := by unfold fDay shk; rw [if_pos h_9, if_pos hc9, h33, cl_nI (show x < 2 ^ 31 by omega), if_pos h_72, if_neg h_86, cl_nI (show a < 2 ^ 31 by omega), cl_nI (show b < 2 ^ 31 by omega), if_pos hsk]
                    refine jg_aload_n dX4_day_139 rfl rfl ?_
                    refine jg_callV (c4_keep E (s2 u 57 0 0)) me_X4_keep ml_X4_202 sh_57 rfl rfl (by decide) (by decide) rfl (Nat.le_of_ble_eq_true rfl) dX4_day_140 (kk_V (fun u_140 h_140 => ?_))
                    obtain ⟨kr, k1, k2⟩ := h_140
                    have hM1 : MdB u_140 g.1 := (hI.ft 0).1.rows (by rw [kr 57 (by decide)]) (fun k hk => kr k (by omega))
                    refine jg_aload_n dX4_day_143 rfl rfl ?_
                    refine jg_iload dX4_day_144 rfl ?_
                    refine jg_iload dX4_day_146 rfl ?_
                    refine jg_callV (c4_goDay E u_140 g.1 hO.1 hO.2.1 hM1 x hx (g.2.2.2.1 x).2.2.2 (fun i hi => by rw [kr 60 (by decide)]; exact hsx.2.2 i hi) a b (by omega)) me_X4_goDay ml_X4_205 sh_57 rfl rfl (by decide) (by decide) rfl (Nat.le_of_ble_eq_true rfl) dX4_day_148 (kk_I (fun r_148 u_148 h_148 => ?_))
                    obtain ⟨rfl, hAF, q, hq1, hq2, hqn, hq3, hq4⟩ := h_148
                    refine jg_istore dX4_day_151 (by decide) rfl ?_
                    refine jg_aload_n dX4_day_153 rfl rfl ?_
                    refine jg_iload dX4_day_154 rfl ?_
                    refine jg_callV (c4_tellDay E u_148 q hq1 hq2 hq3 w hw9) me_X4_tellDay ml_X4_208 sh_57 rfl rfl (by decide) (by decide) rfl (Nat.le_of_ble_eq_true rfl) dX4_day_156 (kk_I (fun r_156 u_156 h_156 => ?_))
                    obtain ⟨htd, hF⟩ := h_156
                    refine jg_istore dX4_day_159 (by decide) rfl ?_
                    refine jg_aload_n dX4_day_161 rfl rfl ?_
                    refine jg_callV (c4_putBack E u_156) me_X4_putBack ml_X4_211 sh_57 rfl rfl (by decide) (by decide) rfl (Nat.le_of_ble_eq_true rfl) dX4_day_162 (kk_V (fun u_162 h_162 => ?_))
                    obtain ⟨pr, p1, p2⟩ := h_162
                    have g75 : u_156 75 = u_140 75 := by rw [hF.1 75 (by decide) (by decide) (by decide) (by decide), hAF 75 (by decide) (by decide) (by decide)]
                    have hn := hO.1.1
                    have hE : ∀ r, r ≠ 57 → r ≠ 62 → r ≠ 63 → r ≠ 65 → r ≠ 71 → r ≠ 72 → r ≠ 73 → r ≠ 75 → u_162 r = (s2 u 57 0 0) r := fun r a1 a2 a3 a4 a5 a6 a7 a8 => by rw [pr r a2 a3 a4, hF.1 r a1 a5 a6 a7, hAF r a2 a3 a4, kr r a8]
                    have hE57 : ∀ j, j ≠ 22 → j ≠ 23 → u_162 57 j = (s2 u 57 0 0) 57 j := fun j a1 a2 => by rw [pr 57 (by decide) (by decide) (by decide), hF.2 j a1 a2, hAF 57 (by decide) (by decide) (by decide), kr 57 (by decide)]
                    have hMz : MdB (s2 u 57 0 0) g.1 := (hI.ft 0).1
                    have hMe : MdB u_162 g.1 := ⟨(hE57 5 (by decide) (by decide)).trans hMz.1, fun i hi => by
                        obtain ⟨z1, z2, z3, z4, z5⟩ := hMz.2 i hi
                        refine ⟨by rw [hE 61 (by decide) (by decide) (by decide) (by decide) (by decide) (by decide) (by decide) (by decide)]; exact z1, ?_, ?_, ?_, ?_⟩
                        · rw [(p1 i (by omega)).1, g75, (k1 i (by omega)).1]; exact z2
                        · rw [(p1 i (by omega)).2, g75, (k1 i (by omega)).2]; exact z3
                        · rw [p2 i (by omega), g75, k2 i (by omega)]; exact z4
                        · rw [p2 (6 + i) (by omega), g75, k2 (6 + i) (by omega)]; exact z5⟩
                    have hJ : InvM u_162 (wFt g 0) := (hI.ft 0).pcK hMe rfl (fun k a1 a2 a3 a4 a5 a6 a7 a8 a9 => hE k a8 a2 a3 a4 a5 a6 a7 a9) hE57
                    have hRF : RF u u_162 := fun k hk => by rw [hE k (by omega) (by omega) (by omega) (by omega) (by omega) (by omega) (by omega) (by omega), s2_row (by omega)]
                    refine jg_iload dX4_day_165 rfl ?_
                    refine jg_iconst (v := 1) dX4_day_167 (by decide) ?_
                    refine jg_icmp_ne 176 dX4_day_168 (by decide) (fun h_168 => ?_) (fun h_168 => ?_)
                    · refine jg_iload dX4_day_176 rfl ?_
                      refine jg_bipush (v := -9) dX4_day_178 (by decide) ?_
                      refine jg_icmp_ne 188 dX4_day_180 (by decide) (fun h_180 => ?_) (fun h_180 => ?_)
                      · have eD : dyF g.1 (g.2.2.2.1 x).2.2.2 a b w = -100 - oI (-9) (dyN g.1 (g.2.2.2.1 x).2.2.2 a b) := by unfold dyF; rw [if_neg h_168, dyN_iss hb h_180]
                        refine jg_bipush (v := -100) dX4_day_188 (by decide) ?_
                        refine jg_iload dX4_day_190 rfl ?_
                        refine jg_isub dX4_day_192 ?_
                        exact jg_iret (rfl) dX4_day_193 ⟨_, rfl, ⟨by rw [e9, eD], by rw [e9]; exact hJ, hRF⟩⟩
                      · obtain ⟨q9, hq9⟩ := dyN_isn hb h_180
                        have eD : dyF g.1 (g.2.2.2.1 x).2.2.2 a b w = r_156 := by rw [htd h_168]; unfold dyF; rw [if_neg h_168, hq4 (dy_some b hq9)]
                        refine jg_iload dX4_day_183 rfl ?_
                        refine jg_goto 193 dX4_day_185 (by decide) ?_
                        exact jg_iret (rfl) dX4_day_193 ⟨_, rfl, ⟨by rw [e9, eD], by rw [e9]; exact hJ, hRF⟩⟩
                    · have eD : dyF g.1 (g.2.2.2.1 x).2.2.2 a b w = oI (-9) (dyN g.1 (g.2.2.2.1 x).2.2.2 a b) := by unfold dyF; rw [if_pos h_168]
                      refine jg_iload dX4_day_171 rfl ?_
                      refine jg_goto 193 dX4_day_173 (by decide) ?_
                      exact jg_iret (rfl) dX4_day_193 ⟨_, rfl, ⟨by rw [e9, eD], by rw [e9]; exact hJ, hRF⟩⟩
                  · refine jg_aload_n dX4_day_110 rfl rfl ?_
                    refine jg_getr fk_X4_16 sh_57 rfl dX4_day_111 ?_
                    refine jg_iload dX4_day_114 rfl ?_
                    refine jg_iconst (v := 3) dX4_day_116 (by decide) ?_
                    refine jg_iload dX4_day_117 rfl ?_
                    refine jg_imulE (z := nI (3 * q)) dX4_day_119 (pk_mul 3 q) ?_
                    refine jg_iaddE (z := nI ((60 * x + a) + (3 * q))) dX4_day_120 (nI_add (60 * x + a) (3 * q)) ?_
                    refine jg_ld ((60 * x + a) + (3 * q)) sh_60 (by omega) (rfl) dX4_day_121 ?_
                    refine jg_top (y := (g.2.2.2.1 x).2.2.2 (a + 3 * q)) (by rw [show 60 * x + a + 3 * q = 60 * x + (a + 3 * q) by omega]; exact hsx.2.2 _ (by omega)) ?_
                    refine jg_iconst (v := 0) dX4_day_122 (by decide) ?_
                    refine jg_iconst (v := 2) dX4_day_123 (by decide) ?_
                    refine jg_callS (c4_within E (s2 u 57 0 0) ((g.2.2.2.1 x).2.2.2 (a + 3 * q)) 0 2) me_X4_within ml_X4_82 rfl (by decide) (by decide) rfl (Nat.le_of_ble_eq_true rfl) dX4_day_124 (kk_I (fun r_124 u_124 h_124 => ?_))
                    obtain ⟨rfl, rfl⟩ := h_124
                    refine jb_if_ne 133 dX4_day_127 (by decide) (fun h_127 => ?_) (fun h_127 => ?_)
                    · have ea : skF (g.2.2.2.1 x).2.2.2 a (q + 1) = true := by show (skF _ _ q && _) = true; rw [hsk, h_127]; rfl
                      refine jg_iinc (v := nI (q + 1)) dX4_day_133 rfl (nI_1 q) (by decide) rfl ?_
                      refine jg_goto 103 dX4_day_136 (by decide) ?_
                      exact ih (q + 1) (by omega) (by omega) ea
                    · have ea := sk_no h_127 b h_107
                      have e9 : fDay g (nI x) l (nI a) (nI b) w = (-2, wFt g 0) := by unfold fDay shk; rw [if_pos h_9, if_pos hc9, h33, cl_nI (show x < 2 ^ 31 by omega), if_pos h_72, if_neg h_86, cl_nI (show a < 2 ^ 31 by omega), cl_nI (show b < 2 ^ 31 by omega), if_neg (by rw [ea]; decide)]
                      refine jg_bipush (v := -2) dX4_day_130 (by decide) ?_
                      exact jg_iret (rfl) dX4_day_132 ⟨_, rfl, ⟨by rw [e9] <;> rfl, by rw [e9]; exact hI.ft 0, RF.rf.put (by omega)⟩⟩
              exact jg_weak (gLe_s (gLe_s (gLe_s (gLe_s (gLe_s (gLe_s (gLe_n (gLe_s (gLe_s (gLe_n gLe_nil)))))))))) (cut_103 (b + 1) 0 (by omega) (by omega) rfl)
            · have e9 : fDay g (nI x) l (nI a) (nI b) w = (-3, wFt g 0) := by unfold fDay shk; rw [if_pos h_9, if_pos hc9, h33, cl_nI (show x < 2 ^ 31 by omega), if_pos h_72, if_pos h_86]
              refine jg_bipush (v := -3) dX4_day_89 (by decide) ?_
              exact jg_iret (rfl) dX4_day_91 ⟨_, rfl, ⟨by rw [e9] <;> rfl, by rw [e9]; exact hI.ft 0, RF.rf.put (by omega)⟩⟩
          · have e9 : fDay g (nI x) l i (nI b) w = (-10 - agF (g.2.2.2.1 x) l i (nI (3 * b)), wFt g (agF (g.2.2.2.1 x) l i (nI (3 * b)))) := by unfold fDay shk; rw [if_pos h_9, if_pos hc9, h33, cl_nI (show x < 2 ^ 31 by omega), if_neg h_72]
            refine jg_aload_n dX4_day_75 rfl rfl ?_
            refine jg_iload dX4_day_76 rfl ?_
            refine jg_callV (c4_fails E (s2 u 57 0 0) (agF (g.2.2.2.1 x) l i (nI (3 * b)))) me_X4_fails ml_X4_103 sh_57 rfl rfl (by decide) (by decide) rfl (Nat.le_of_ble_eq_true rfl) dX4_day_78 (kk_I (fun r_78 u_78 h_78 => ?_))
            obtain ⟨rfl, rfl⟩ := h_78
            rw [s2_s2]
            exact jg_iret (rfl) dX4_day_81 ⟨_, rfl, ⟨by rw [e9], by rw [e9]; exact hI.ft _, RF.rf.put (by omega)⟩⟩
        · refine jg_iload dX4_day_42 rfl ?_
          refine jg_bipush (v := 10) dX4_day_44 (by decide) ?_
          refine jg_bipush (v := 15) dX4_day_46 (by decide) ?_
          refine jg_callS (c4_within E (s2 u 57 0 0) w 10 15) me_X4_within ml_X4_82 rfl (by decide) (by decide) rfl (Nat.le_of_ble_eq_true rfl) dX4_day_48 (kk_I (fun r_48 u_48 h_48 => ?_))
          obtain ⟨rfl, rfl⟩ := h_48
          refine jb_if_ne 57 dX4_day_51 (by decide) (fun h_51 => ?_) (fun h_51 => ?_)
          · have hw9 : (inR w 0 4 || inR w 10 15) = true := by rw [h_51, Bool.or_true]
            have hc9 : inR l 0 2 = true ∧ inR n 0 20 = true ∧ (inR w 0 4 || inR w 10 15) = true := ⟨h_18, h_29, hw9⟩
            obtain ⟨b, -, hb, rfl⟩ := inR_nat (lo := 0) (hi := 20) (by omega) h_29 (by omega)
            have h33 : (3 : Int32) * nI b = nI (3 * b) := pk_mul 3 b
            refine jg_aload_n dX4_day_57 rfl rfl ?_
            refine jg_iload_n dX4_day_58 rfl rfl ?_
            refine jg_iload_n dX4_day_59 rfl rfl ?_
            refine jg_iload_n dX4_day_60 rfl rfl ?_
            refine jg_iconst (v := 3) dX4_day_61 (by decide) ?_
            refine jg_iload dX4_day_62 rfl ?_
            refine jg_imulE (z := nI (3 * b)) dX4_day_64 (pk_mul 3 b) ?_
            refine jg_callV (c4_against E (s2 u 57 0 0) x hx (g.2.2.2.1 x) hsx (hO.2.2.1 x hx).1 l i (nI (3 * b))) me_X4_against ml_X4_99 sh_57 rfl rfl (by decide) (by decide) rfl (Nat.le_of_ble_eq_true rfl) dX4_day_65 (kk_I (fun r_65 u_65 h_65 => ?_))
            obtain ⟨rfl, rfl⟩ := h_65
            refine jg_istore dX4_day_68 (by decide) rfl ?_
            refine jg_iload dX4_day_70 rfl ?_
            refine jg_if_eq 82 dX4_day_72 (by decide) (fun h_72 => ?_) (fun h_72 => ?_)
            · obtain ⟨ht, hl, hh⟩ := agF_hc h_72
              obtain ⟨a, hab, rfl⟩ := hc_n h60 (by omega) hh
              refine jg_aload_n dX4_day_82 rfl rfl ?_
              refine jg_geti fk_X4_86 sh_57 rfl dX4_day_83 ?_
              refine jg_top (y := nI (pn g.1)) (by rw [s2_ne (by decide)]; exact hI.1.1) ?_
              refine jn_if_ne (pn g.1) rfl (by omega) 92 dX4_day_86 (by decide) (fun h_86 => ?_) (fun h_86 => ?_)
              · refine jg_bipush (v := 60) dX4_day_92 (by decide) ?_
                refine jg_iload_n dX4_day_94 rfl rfl ?_
                refine jg_imulE (z := nI (60 * x)) dX4_day_95 (pk_mul 60 x) ?_
                refine jg_iload_n dX4_day_96 rfl rfl ?_
                refine jg_iaddE (z := nI ((60 * x) + a)) dX4_day_97 (nI_add (60 * x) a) ?_
                refine jg_istore dX4_day_98 (by decide) rfl ?_
                refine jg_iconst (v := 0) dX4_day_100 (by decide) ?_
                refine jg_istore dX4_day_101 (by decide) rfl ?_
                have cut_103 : ∀ (m q : Nat), q ≤ b → b < q + m → skF (g.2.2.2.1 x).2.2.2 a q = true → G E cX4_day 10 (yX4_day).cls (some .int) 5 (kI (fun r u2 => r = (fDay g (nI x) l (nI a) (nI b) w).1 ∧ InvM u2 (fDay g (nI x) l (nI a) (nI b) w).2 ∧ RF u u2)) 103 [some (.ref (E.2.1 57)), some (.int (nI x)), some (.int l), some (.int (nI a)), some (.int (nI b)), some (.int w), none, some (.int (nI (60 * x + a))), some (.int (nI q)), none] [] (s2 u 57 0 0) := by
                  intro m
                  induction m with
                  | zero => intro q h1 h2; omega
                  | succ m ih =>
                    intro q hq hm hsk
                    refine jg_iload dX4_day_103 rfl ?_
                    refine jg_iload dX4_day_105 rfl ?_
                    refine jn_icmp_ge q b rfl rfl (by omega) (by omega) 139 dX4_day_107 (by decide) (fun h_107 => ?_) (fun h_107 => ?_)
                    · obtain rfl : b = q := by omega
                      have e9 : fDay g (nI x) l (nI a) (nI b) w = (dyF g.1 (g.2.2.2.1 x).2.2.2 a b w, wFt g 0) := by unfold fDay shk; rw [if_pos h_9, if_pos hc9, h33, cl_nI (show x < 2 ^ 31 by omega), if_pos h_72, if_neg h_86, cl_nI (show a < 2 ^ 31 by omega), cl_nI (show b < 2 ^ 31 by omega), if_pos hsk]
                      refine jg_aload_n dX4_day_139 rfl rfl ?_
                      refine jg_callV (c4_keep E (s2 u 57 0 0)) me_X4_keep ml_X4_202 sh_57 rfl rfl (by decide) (by decide) rfl (Nat.le_of_ble_eq_true rfl) dX4_day_140 (kk_V (fun u_140 h_140 => ?_))
                      obtain ⟨kr, k1, k2⟩ := h_140
                      have hM1 : MdB u_140 g.1 := (hI.ft 0).1.rows (by rw [kr 57 (by decide)]) (fun k hk => kr k (by omega))
                      refine jg_aload_n dX4_day_143 rfl rfl ?_
                      refine jg_iload dX4_day_144 rfl ?_
                      refine jg_iload dX4_day_146 rfl ?_
                      refine jg_callV (c4_goDay E u_140 g.1 hO.1 hO.2.1 hM1 x hx (g.2.2.2.1 x).2.2.2 (fun i hi => by rw [kr 60 (by decide)]; exact hsx.2.2 i hi) a b (by omega)) me_X4_goDay ml_X4_205 sh_57 rfl rfl (by decide) (by decide) rfl (Nat.le_of_ble_eq_true rfl) dX4_day_148 (kk_I (fun r_148 u_148 h_148 => ?_))
                      obtain ⟨rfl, hAF, q, hq1, hq2, hqn, hq3, hq4⟩ := h_148
                      refine jg_istore dX4_day_151 (by decide) rfl ?_
                      refine jg_aload_n dX4_day_153 rfl rfl ?_
                      refine jg_iload dX4_day_154 rfl ?_
                      refine jg_callV (c4_tellDay E u_148 q hq1 hq2 hq3 w hw9) me_X4_tellDay ml_X4_208 sh_57 rfl rfl (by decide) (by decide) rfl (Nat.le_of_ble_eq_true rfl) dX4_day_156 (kk_I (fun r_156 u_156 h_156 => ?_))
                      obtain ⟨htd, hF⟩ := h_156
                      refine jg_istore dX4_day_159 (by decide) rfl ?_
                      refine jg_aload_n dX4_day_161 rfl rfl ?_
                      refine jg_callV (c4_putBack E u_156) me_X4_putBack ml_X4_211 sh_57 rfl rfl (by decide) (by decide) rfl (Nat.le_of_ble_eq_true rfl) dX4_day_162 (kk_V (fun u_162 h_162 => ?_))
                      obtain ⟨pr, p1, p2⟩ := h_162
                      have g75 : u_156 75 = u_140 75 := by rw [hF.1 75 (by decide) (by decide) (by decide) (by decide), hAF 75 (by decide) (by decide) (by decide)]
                      have hn := hO.1.1
                      have hE : ∀ r, r ≠ 57 → r ≠ 62 → r ≠ 63 → r ≠ 65 → r ≠ 71 → r ≠ 72 → r ≠ 73 → r ≠ 75 → u_162 r = (s2 u 57 0 0) r := fun r a1 a2 a3 a4 a5 a6 a7 a8 => by rw [pr r a2 a3 a4, hF.1 r a1 a5 a6 a7, hAF r a2 a3 a4, kr r a8]
                      have hE57 : ∀ j, j ≠ 22 → j ≠ 23 → u_162 57 j = (s2 u 57 0 0) 57 j := fun j a1 a2 => by rw [pr 57 (by decide) (by decide) (by decide), hF.2 j a1 a2, hAF 57 (by decide) (by decide) (by decide), kr 57 (by decide)]
                      have hMz : MdB (s2 u 57 0 0) g.1 := (hI.ft 0).1
                      have hMe : MdB u_162 g.1 := ⟨(hE57 5 (by decide) (by decide)).trans hMz.1, fun i hi => by
                          obtain ⟨z1, z2, z3, z4, z5⟩ := hMz.2 i hi
                          refine ⟨by rw [hE 61 (by decide) (by decide) (by decide) (by decide) (by decide) (by decide) (by decide) (by decide)]; exact z1, ?_, ?_, ?_, ?_⟩
                          · rw [(p1 i (by omega)).1, g75, (k1 i (by omega)).1]; exact z2
                          · rw [(p1 i (by omega)).2, g75, (k1 i (by omega)).2]; exact z3
                          · rw [p2 i (by omega), g75, k2 i (by omega)]; exact z4
                          · rw [p2 (6 + i) (by omega), g75, k2 (6 + i) (by omega)]; exact z5⟩
                      have hJ : InvM u_162 (wFt g 0) := (hI.ft 0).pcK hMe rfl (fun k a1 a2 a3 a4 a5 a6 a7 a8 a9 => hE k a8 a2 a3 a4 a5 a6 a7 a9) hE57
                      have hRF : RF u u_162 := fun k hk => by rw [hE k (by omega) (by omega) (by omega) (by omega) (by omega) (by omega) (by omega) (by omega), s2_row (by omega)]
                      refine jg_iload dX4_day_165 rfl ?_
                      refine jg_iconst (v := 1) dX4_day_167 (by decide) ?_
                      refine jg_icmp_ne 176 dX4_day_168 (by decide) (fun h_168 => ?_) (fun h_168 => ?_)
                      · refine jg_iload dX4_day_176 rfl ?_
                        refine jg_bipush (v := -9) dX4_day_178 (by decide) ?_
                        refine jg_icmp_ne 188 dX4_day_180 (by decide) (fun h_180 => ?_) (fun h_180 => ?_)
                        · have eD : dyF g.1 (g.2.2.2.1 x).2.2.2 a b w = -100 - oI (-9) (dyN g.1 (g.2.2.2.1 x).2.2.2 a b) := by unfold dyF; rw [if_neg h_168, dyN_iss hb h_180]
                          refine jg_bipush (v := -100) dX4_day_188 (by decide) ?_
                          refine jg_iload dX4_day_190 rfl ?_
                          refine jg_isub dX4_day_192 ?_
                          exact jg_iret (rfl) dX4_day_193 ⟨_, rfl, ⟨by rw [e9, eD], by rw [e9]; exact hJ, hRF⟩⟩
                        · obtain ⟨q9, hq9⟩ := dyN_isn hb h_180
                          have eD : dyF g.1 (g.2.2.2.1 x).2.2.2 a b w = r_156 := by rw [htd h_168]; unfold dyF; rw [if_neg h_168, hq4 (dy_some b hq9)]
                          refine jg_iload dX4_day_183 rfl ?_
                          refine jg_goto 193 dX4_day_185 (by decide) ?_
                          exact jg_iret (rfl) dX4_day_193 ⟨_, rfl, ⟨by rw [e9, eD], by rw [e9]; exact hJ, hRF⟩⟩
                      · have eD : dyF g.1 (g.2.2.2.1 x).2.2.2 a b w = oI (-9) (dyN g.1 (g.2.2.2.1 x).2.2.2 a b) := by unfold dyF; rw [if_pos h_168]
                        refine jg_iload dX4_day_171 rfl ?_
                        refine jg_goto 193 dX4_day_173 (by decide) ?_
                        exact jg_iret (rfl) dX4_day_193 ⟨_, rfl, ⟨by rw [e9, eD], by rw [e9]; exact hJ, hRF⟩⟩
                    · refine jg_aload_n dX4_day_110 rfl rfl ?_
                      refine jg_getr fk_X4_16 sh_57 rfl dX4_day_111 ?_
                      refine jg_iload dX4_day_114 rfl ?_
                      refine jg_iconst (v := 3) dX4_day_116 (by decide) ?_
                      refine jg_iload dX4_day_117 rfl ?_
                      refine jg_imulE (z := nI (3 * q)) dX4_day_119 (pk_mul 3 q) ?_
                      refine jg_iaddE (z := nI ((60 * x + a) + (3 * q))) dX4_day_120 (nI_add (60 * x + a) (3 * q)) ?_
                      refine jg_ld ((60 * x + a) + (3 * q)) sh_60 (by omega) (rfl) dX4_day_121 ?_
                      refine jg_top (y := (g.2.2.2.1 x).2.2.2 (a + 3 * q)) (by rw [show 60 * x + a + 3 * q = 60 * x + (a + 3 * q) by omega]; exact hsx.2.2 _ (by omega)) ?_
                      refine jg_iconst (v := 0) dX4_day_122 (by decide) ?_
                      refine jg_iconst (v := 2) dX4_day_123 (by decide) ?_
                      refine jg_callS (c4_within E (s2 u 57 0 0) ((g.2.2.2.1 x).2.2.2 (a + 3 * q)) 0 2) me_X4_within ml_X4_82 rfl (by decide) (by decide) rfl (Nat.le_of_ble_eq_true rfl) dX4_day_124 (kk_I (fun r_124 u_124 h_124 => ?_))
                      obtain ⟨rfl, rfl⟩ := h_124
                      refine jb_if_ne 133 dX4_day_127 (by decide) (fun h_127 => ?_) (fun h_127 => ?_)
                      · have ea : skF (g.2.2.2.1 x).2.2.2 a (q + 1) = true := by show (skF _ _ q && _) = true; rw [hsk, h_127]; rfl
                        refine jg_iinc (v := nI (q + 1)) dX4_day_133 rfl (nI_1 q) (by decide) rfl ?_
                        refine jg_goto 103 dX4_day_136 (by decide) ?_
                        exact ih (q + 1) (by omega) (by omega) ea
                      · have ea := sk_no h_127 b h_107
                        have e9 : fDay g (nI x) l (nI a) (nI b) w = (-2, wFt g 0) := by unfold fDay shk; rw [if_pos h_9, if_pos hc9, h33, cl_nI (show x < 2 ^ 31 by omega), if_pos h_72, if_neg h_86, cl_nI (show a < 2 ^ 31 by omega), cl_nI (show b < 2 ^ 31 by omega), if_neg (by rw [ea]; decide)]
                        refine jg_bipush (v := -2) dX4_day_130 (by decide) ?_
                        exact jg_iret (rfl) dX4_day_132 ⟨_, rfl, ⟨by rw [e9] <;> rfl, by rw [e9]; exact hI.ft 0, RF.rf.put (by omega)⟩⟩
                exact jg_weak (gLe_s (gLe_s (gLe_s (gLe_s (gLe_s (gLe_s (gLe_n (gLe_s (gLe_s (gLe_n gLe_nil)))))))))) (cut_103 (b + 1) 0 (by omega) (by omega) rfl)
              · have e9 : fDay g (nI x) l (nI a) (nI b) w = (-3, wFt g 0) := by unfold fDay shk; rw [if_pos h_9, if_pos hc9, h33, cl_nI (show x < 2 ^ 31 by omega), if_pos h_72, if_pos h_86]
                refine jg_bipush (v := -3) dX4_day_89 (by decide) ?_
                exact jg_iret (rfl) dX4_day_91 ⟨_, rfl, ⟨by rw [e9] <;> rfl, by rw [e9]; exact hI.ft 0, RF.rf.put (by omega)⟩⟩
            · have e9 : fDay g (nI x) l i (nI b) w = (-10 - agF (g.2.2.2.1 x) l i (nI (3 * b)), wFt g (agF (g.2.2.2.1 x) l i (nI (3 * b)))) := by unfold fDay shk; rw [if_pos h_9, if_pos hc9, h33, cl_nI (show x < 2 ^ 31 by omega), if_neg h_72]
              refine jg_aload_n dX4_day_75 rfl rfl ?_
              refine jg_iload dX4_day_76 rfl ?_
              refine jg_callV (c4_fails E (s2 u 57 0 0) (agF (g.2.2.2.1 x) l i (nI (3 * b)))) me_X4_fails ml_X4_103 sh_57 rfl rfl (by decide) (by decide) rfl (Nat.le_of_ble_eq_true rfl) dX4_day_78 (kk_I (fun r_78 u_78 h_78 => ?_))
              obtain ⟨rfl, rfl⟩ := h_78
              rw [s2_s2]
              exact jg_iret (rfl) dX4_day_81 ⟨_, rfl, ⟨by rw [e9], by rw [e9]; exact hI.ft _, RF.rf.put (by omega)⟩⟩
          · have hw9 : (inR w 0 4 || inR w 10 15) = false := by rw [h_39, h_51]; rfl
            have hc9 : ¬ (inR l 0 2 = true ∧ inR n 0 20 = true ∧ (inR w 0 4 || inR w 10 15) = true) := fun z => by rw [hw9] at z; exact absurd z.2.2 (by decide)
            refine jg_bipush (v := -2) dX4_day_54 (by decide) ?_
            have e9 : fDay g (nI x) l i n w = (-2, wFt g 0) := by unfold fDay; rw [if_pos h_9, if_neg hc9]
            exact jg_iret (rfl) dX4_day_56 ⟨_, rfl, ⟨by rw [e9] <;> rfl, by rw [e9]; exact hI.ft 0, RF.rf.put (by omega)⟩⟩
  · refine jg_iconst (v := -1) dX4_day_12 (by decide) ?_
    have e9 : fDay g k l i n w = (-1, wFt g 0) := by unfold fDay; rw [if_neg (by rw [h_9]; decide)]
    exact jg_iret (rfl) dX4_day_13 ⟨_, rfl, ⟨by rw [e9] <;> rfl, by rw [e9]; exact hI.ft 0, RF.rf.put (by omega)⟩⟩
