theorem aGo_at {t : Nat → Int32} {b : Nat} (h : aGo t b = true) : aAt t b = 1 + 4 * nA t b := by
  unfold aGo at h; unfold aAt
  simp only [Bool.and_eq_true, Bool.or_eq_true, decide_eq_true_eq, Bool.not_eq_true'] at h
  rw [if_neg (fun z => by simp only [Bool.and_eq_true, decide_eq_true_eq] at z; rcases h.2 with y | y; omega; (rw [y] at z; exact absurd z.2 (by decide)))]
theorem oK_at {t : Nat → Int32} {b n q : Nat} (h : oK t b n q = true) : oAt t b n q = q + 1 + n := by
  unfold oK at h; unfold oAt
  simp only [Bool.and_eq_true, decide_eq_true_eq] at h
  rw [if_pos h.1, h.2]
theorem pF_le (t : Nat → Int32) (b : Nat) : (pF t b).2 ≤ 99 := by
  have h6 := nA_le t b
  have h1 := aS_le t b (2 + 4 * nA t b)
  have h2 := oN_le t b (nA t b) (1 + 4 * nA t b)
  have h3 := oN_le t b (nA t b) (2 + 5 * nA t b)
  unfold pF aAt oAt
  (repeat' split) <;> dsimp only <;> omega
/-- what the class has read -/
def TK (u v : Mm) (t : Nat → Int32) (b : Nat) : Prop := v 29 3 = nI (pF t b).2 ∧ v 29 4 = u 29 4 + nI (pE t b) ∧ (∀ k, k < 29 ∨ 44 < k → v k = u k) ∧ ((pF t b).1 = true → PlB 30 v (picT t (nA t b)) ∧ ∀ i, i < nA t b → v 34 i = u 29 4 + nI (i + 1))
set_option maxHeartbeats 4000000 in
set_option maxRecDepth 20000 in
theorem c1_takes (E : gT) (u : Mm) (t : Nat → Int32) (x a b : Nat) (hx4 : x < 4) (hab : a + b ≤ 60) (ht : ∀ i, i < b → u (46 + 2 * x + 1) (a + i) = t i) : Con E yX1_takes cX1_takes 4 (some .boolean) 4 [.ref (E.2.1 29), .ref (E.2.1 (46 + 2 * x + 1)), .int (nI a), .int (nI b)] u (kI (fun r u2 => r = bI (pF t b).1 ∧ TK u u2 t b)) := by
  have h6 := nA_le t b
  have hb : b ≤ 60 := by omega
  refine Con.of (lv := [some (.ref (E.2.1 29)), some (.ref (E.2.1 (46 + 2 * x + 1))), some (.int (nI a)), some (.int (nI b))]) (by decide +kernel) (Nat.le_of_ble_eq_true rfl) rfl ?_
  refine jg_aload_n dX1_takes_0 rfl rfl ?_
  refine jg_iload_n dX1_takes_1 rfl rfl ?_
  refine jg_aload_n dX1_takes_2 rfl rfl ?_
  refine jg_getr fk_X1_18 sh_29 rfl dX1_takes_3 ?_
  refine jg_iconst (v := 0) dX1_takes_6 (by decide) ?_
  refine jg_iload_n dX1_takes_7 rfl rfl ?_
  refine jg_copy a 0 b cp_X1_22 (pg_1 (sh_ok hx4)) sh_44 (rfl) (rfl) (rfl) (by omega) (by omega) (by decide) (Nat.le_of_ble_eq_true rfl) dX1_takes_8 ?_
  refine jg_aload_n dX1_takes_11 rfl rfl ?_
  refine jg_iload_n dX1_takes_12 rfl rfl ?_
  refine jg_puti fp_X1_28 sh_29 rfl dX1_takes_13 ?_
  refine jg_aload_n dX1_takes_16 rfl rfl ?_
  refine jg_iconst (v := 0) dX1_takes_17 (by decide) ?_
  refine jg_puti fp_X1_32 sh_29 rfl dX1_takes_18 ?_
  refine jg_aload_n dX1_takes_21 rfl rfl ?_
  refine jg_getr fk_X1_12 sh_29 rfl dX1_takes_22 ?_
  refine jg_iconst (v := 0) dX1_takes_25 (by decide) ?_
  refine jg_puti fp_X1_35 (pl_0 ipl_30) rfl dX1_takes_26 ?_
  obtain ⟨m0, hm0⟩ : ∃ z, z = s2 (s2 (s2 (sR u 44 (va_cpy (u (46 + 2 * x + 1)) (u 44) a 0 b)) 29 2 (nI b)) 29 3 0) 30 0 0 := ⟨_, rfl⟩
  rw [← hm0]
  have x0 : RX m0 t b 0 := ⟨by rw [hm0, s2_row (by decide), s2_self]; rfl, by rw [hm0, s2_row (by decide), s2_ne (by decide), s2_self], fun i hi => by rw [hm0, s2_row (by decide), s2_row (by decide), s2_row (by decide), sR_at, pk_cpy_in (by omega) (by omega)]; have := ht i hi; rw [show a + (i - 0) = a + i by omega]; exact this⟩
  have c0 : m0 30 0 = 0 := by rw [hm0, s2_self]
  have r0 : ∀ k, k < 29 ∨ 44 < k → m0 k = u k := fun k hk => by rw [hm0, s2_row (by omega), s2_row (by omega), s2_row (by omega), sR_row (by omega)]
  have g0 : m0 29 4 = u 29 4 := by rw [hm0, s2_row (by decide), s2_ne (by decide), s2_ne (by decide), sR_row (by decide)]
  refine jg_aload_n dX1_takes_29 rfl rfl ?_
  refine jg_bipush (v := 109) dX1_takes_30 (by decide) ?_
  refine jg_callV (c1_takesCode E m0 t b 0 hb (by omega) x0 109) me_X1_takesCode ml_X1_38 sh_29 rfl rfl (by decide) (by decide) rfl (Nat.le_of_ble_eq_true rfl) dX1_takes_32 (kk_I (fun r_32 u_32 h_32 => ?_))
  obtain ⟨rfl, a1⟩ := h_32
  refine jb_if_eq 76 dX1_takes_35 (by decide) (fun h_35 => ?_) (fun h_35 => ?_)
  · rw [if_neg (by rw [h_35]; decide)] at a1
    have e9 : pF t b = (false, 0) := by unfold pF; rw [if_neg (by rw [h_35]; decide)]
    have f3 := a1.2.2
    have f4 : u_32 29 4 = u 29 4 + nI (pE t b) := by rw [a1.2.1 4 (by decide), g0, show pE t b = 0 from if_neg (by rw [h_35]; decide)]; exact (Int32.add_zero _).symm
    have f5 : ∀ k, k < 29 ∨ 44 < k → u_32 k = u k := fun k hk => (a1.1 k (by omega)).trans (r0 k hk)
    refine jg_iconst (v := 0) dX1_takes_76 (by decide) ?_
    exact jg_iret (rfl) dX1_takes_77 ⟨_, rfl, ⟨by rw [e9]; rfl, by rw [e9]; exact f3, f4, f5, fun z => by rw [e9] at z; exact absurd (show false = true from z) (by decide)⟩⟩
  · rw [if_pos h_35] at a1
    have x1 := x0.af a1
    have e0 : pE t b = nA t b := if_pos h_35
    refine jg_aload_n dX1_takes_38 rfl rfl ?_
    refine jg_callV (c1_takesAreas E u_32 t b hb x1 (by rw [a1.1 30 (by decide)]; exact c0)) me_X1_takesAreas ml_X1_42 sh_29 rfl rfl (by decide) (by decide) rfl (Nat.le_of_ble_eq_true rfl) dX1_takes_39 (kk_I (fun r_39 u_39 h_39 => ?_))
    obtain ⟨rfl, hM, hA⟩ := h_39
    have f4 : u_39 29 4 = u 29 4 + nI (pE t b) := by rw [hM.2.2.1, a1.2.1 4 (by decide), g0, e0]
    have f5 : ∀ k, k < 29 ∨ 44 < k → u_39 k = u k := fun k hk => (hM.1 k (by omega)).trans ((a1.1 k (by omega)).trans (r0 k hk))
    refine jb_if_eq 76 dX1_takes_42 (by decide) (fun h_42 => ?_) (fun h_42 => ?_)
    · have e9 : pF t b = (false, aAt t b) := by unfold pF; rw [if_pos h_35, if_neg (by rw [h_42]; decide)]
      have f3 := hA
      refine jg_iconst (v := 0) dX1_takes_76 (by decide) ?_
      exact jg_iret (rfl) dX1_takes_77 ⟨_, rfl, ⟨by rw [e9]; rfl, by rw [e9]; exact f3, f4, f5, fun z => by rw [e9] at z; exact absurd (show false = true from z) (by decide)⟩⟩
    · rw [aGo_at h_42] at hA
      have h1 := aGo_1 h_42
      have x2 : RX u_39 t b (1 + 4 * nA t b) := ⟨hA, (hM.2.1 2 (by decide) (by decide)).trans x1.2.1, fun i hi => by rw [hM.1 44 (by omega)]; exact x1.2.2 i hi⟩
      refine jg_aload_n dX1_takes_45 rfl rfl ?_
      refine jg_iconst (v := 0) dX1_takes_46 (by decide) ?_
      refine jg_callV (c1_takesOrder E u_39 t b (1 + 4 * nA t b) hb (by omega) x2 (nA t b) 0 (by omega) h1 h6 hM.2.2.2.1) me_X1_takesOrder ml_X1_46 sh_29 rfl rfl (by decide) (by decide) rfl (Nat.le_of_ble_eq_true rfl) dX1_takes_47 (kk_I (fun r_47 u_47 h_47 => ?_))
      obtain ⟨rfl, o1, o2, o3, o4⟩ := h_47
      have f4 : u_47 29 4 = u 29 4 + nI (pE t b) := (o3 4 (by decide)).trans f4
      have f5 : ∀ k, k < 29 ∨ 44 < k → u_47 k = u k := fun k hk => (o2 k (by omega) (by omega)).trans (f5 k hk)
      refine jb_if_eq 76 dX1_takes_50 (by decide) (fun h_50 => ?_) (fun h_50 => ?_)
      · have e9 : pF t b = (false, oAt t b (nA t b) (1 + 4 * nA t b)) := by unfold pF; rw [if_pos h_35, if_pos h_42, if_neg (by rw [h_50]; decide)]
        have f3 := o1
        refine jg_iconst (v := 0) dX1_takes_76 (by decide) ?_
        exact jg_iret (rfl) dX1_takes_77 ⟨_, rfl, ⟨by rw [e9]; rfl, by rw [e9]; exact f3, f4, f5, fun z => by rw [e9] at z; exact absurd (show false = true from z) (by decide)⟩⟩
      · rw [oK_at h_50, show 1 + 4 * nA t b + 1 + nA t b = 2 + 5 * nA t b by omega] at o1
        have x3 : RX u_47 t b (2 + 5 * nA t b) := ⟨o1, (o3 2 (by decide)).trans x2.2.1, fun i hi => by rw [o2 44 (by decide) (by decide)]; exact x2.2.2 i hi⟩
        refine jg_aload_n dX1_takes_53 rfl rfl ?_
        refine jg_iconst (v := 1) dX1_takes_54 (by decide) ?_
        refine jg_callV (c1_takesOrder E u_47 t b (2 + 5 * nA t b) hb (by omega) x3 (nA t b) 1 (by omega) h1 h6 (by rw [o2 30 (by decide) (by decide)]; exact hM.2.2.2.1)) me_X1_takesOrder ml_X1_46 sh_29 rfl rfl (by decide) (by decide) rfl (Nat.le_of_ble_eq_true rfl) dX1_takes_55 (kk_I (fun r_55 u_55 h_55 => ?_))
        obtain ⟨rfl, p1, p2, p3, p4⟩ := h_55
        have f4 : u_55 29 4 = u 29 4 + nI (pE t b) := (p3 4 (by decide)).trans f4
        have f5 : ∀ k, k < 29 ∨ 44 < k → u_55 k = u k := fun k hk => (p2 k (by omega) (by omega)).trans (f5 k hk)
        refine jb_if_eq 76 dX1_takes_58 (by decide) (fun h_58 => ?_) (fun h_58 => ?_)
        · have e9 : pF t b = (false, oAt t b (nA t b) (2 + 5 * nA t b)) := by unfold pF; rw [if_pos h_35, if_pos h_42, if_pos h_50, if_neg (by rw [h_58]; decide)]
          have f3 := p1
          refine jg_iconst (v := 0) dX1_takes_76 (by decide) ?_
          exact jg_iret (rfl) dX1_takes_77 ⟨_, rfl, ⟨by rw [e9]; rfl, by rw [e9]; exact f3, f4, f5, fun z => by rw [e9] at z; exact absurd (show false = true from z) (by decide)⟩⟩
        · rw [oK_at h_58, show 2 + 5 * nA t b + 1 + nA t b = 3 + 6 * nA t b by omega] at p1
          have e8 : pF t b = (decide (3 + 6 * nA t b = b), 3 + 6 * nA t b) := by unfold pF; rw [if_pos h_35, if_pos h_42, if_pos h_50, if_pos h_58]
          refine jg_aload_n dX1_takes_61 rfl rfl ?_
          refine jg_geti fk_X1_32 sh_29 rfl dX1_takes_62 ?_
          refine jg_top (y := nI (3 + 6 * nA t b)) (p1) ?_
          refine jg_aload_n dX1_takes_65 rfl rfl ?_
          refine jg_geti fk_X1_28 sh_29 rfl dX1_takes_66 ?_
          refine jg_top (y := nI b) ((p3 2 (by decide)).trans x3.2.1) ?_
          refine jn_icmp_ne (3 + 6 * nA t b) b rfl rfl (by omega) (by omega) 76 dX1_takes_69 (by decide) (fun h_69 => ?_) (fun h_69 => ?_)
          · have e9 : pF t b = (false, 3 + 6 * nA t b) := by rw [e8, decide_eq_false h_69]
            have f3 := p1
            refine jg_iconst (v := 0) dX1_takes_76 (by decide) ?_
            exact jg_iret (rfl) dX1_takes_77 ⟨_, rfl, ⟨by rw [e9]; rfl, by rw [e9]; exact f3, f4, f5, fun z => by rw [e9] at z; exact absurd (show false = true from z) (by decide)⟩⟩
          · have e9 : pF t b = (true, 3 + 6 * nA t b) := by rw [e8, decide_eq_true h_69]
            refine jg_iconst (v := 1) dX1_takes_72 (by decide) ?_
            refine jg_goto 77 dX1_takes_73 (by decide) ?_
            exact jg_iret (rfl) dX1_takes_77 ⟨_, rfl, ⟨by rw [e9]; rfl, by rw [e9]; exact p1, f4, f5, fun _ => ⟨⟨by rw [p2 30 (by decide) (by decide), o2 30 (by decide) (by decide)]; exact hM.2.2.2.1, fun i hi => by rw [p2 31 (by decide) (by decide), o2 31 (by decide) (by decide), p2 32 (by decide) (by decide), o2 32 (by decide) (by decide), p2 33 (by decide) (by decide), o2 33 (by decide) (by decide), p2 36 (by decide) (by decide)]; exact ⟨(hM.2.2.2.2 i hi).1, (hM.2.2.2.2 i hi).2.1, (hM.2.2.2.2 i hi).2.2.1, (o4 h_50 i hi).trans (congrArg (fun z => nI (dv t z)) (by omega)), (p4 h_58 i hi).trans (congrArg (fun z => nI (dv t z)) (by omega))⟩⟩, fun i hi => by rw [p2 34 (by decide) (by decide), o2 34 (by decide) (by decide), (hM.2.2.2.2 i hi).2.2.2, a1.2.1 4 (by decide), g0]⟩⟩⟩
theorem InvC.ev {u v : Mm} {g : Gh} {e : Int32} (h : InvC u g) (hr : ∀ k, k < 29 ∨ 44 < k → v k = u k) (h4 : v 29 4 = e) : InvC v (g.1, g.2.1, e, g.2.2.2) := by
  obtain ⟨h1, h2, h3, h5, h6, h7, h8⟩ := h
  have f0 := hr 0 (by omega)
  exact ⟨h1.rows (fun k _ hk => hr k (by omega)), fun i hi => by rw [hr 5 (by omega)]; exact h2 i hi, h4, fun k hk => (h5 k hk).rows (hr _ (by omega)) (hr _ (by omega)), ⟨by rw [f0]; exact h6.1, fun i hi => by rw [hr 55 (by omega), hr 56 (by omega)]; exact h6.2 i hi⟩, by rw [f0]; exact h7, by rw [f0]; exact h8⟩
theorem InvC.map {u v w : Mm} {g : Gh} {p : Pic} {s : Nat → Int32} {e : Int32} (h : InvC u g) (hr : ∀ k, k < 29 ∨ 44 < k → v k = u k) (h4 : v 29 4 = e) (hF : PF 1 v w) (hL : PlL 1 w p) (h5 : ∀ i, i < pn p → w 5 i = s i) : InvC (s2 w 0 7 0) (p, s, e, g.2.2.2.1, (0, g.2.2.2.2.1.2), g.2.2.2.2.2.1, g.2.2.2.2.2.2) := by
  obtain ⟨-, -, -, y5, y6, y7, y8⟩ := h
  have f : ∀ k, k = 0 ∨ 44 < k → w k = u k := fun k hk => (hF k (by omega)).trans (hr k (by omega))
  refine ⟨hL.rows (fun k hk _ => s2_row (by omega)), fun i hi => by rw [s2_row (by decide)]; exact h5 i hi, by rw [s2_row (by decide), hF 29 (by omega)]; exact h4, fun k hk => (y5 k hk).rows (by rw [s2_row (by omega)]; exact f _ (by omega)) (by rw [s2_row (by omega)]; exact f _ (by omega)), ⟨s2_self _ _ _ _, fun i hi => absurd (show i < 0 from hi) (by omega)⟩, by rw [s2_ne (by decide), f 0 (by omega)]; exact y7, by rw [s2_ne (by decide), f 0 (by omega)]; exact y8⟩
set_option maxHeartbeats 4000000 in
set_option maxRecDepth 20000 in
theorem d3_map (E : gT) (u : Mm) (g : Gh) (hO : Ok g) (hI : InvC u g) (k l i n : Int32) : Con E yX3_map cX3_map 7 (some .int) 5 [.ref (E.2.1 0), .int k, .int l, .int i, .int n] u (kI (fun r u2 => r = (fMap g k l i n).1 ∧ InvC u2 (fMap g k l i n).2 ∧ CF u u2)) := by
  have hn := hO.1.1
  refine Con.of (lv := [some (.ref (E.2.1 0)), some (.int k), some (.int l), some (.int i), some (.int n), none, none]) (by decide +kernel) (Nat.le_of_ble_eq_true rfl) rfl ?_
  refine jg_aload_n dX3_map_0 rfl rfl ?_
  refine jg_iconst (v := 0) dX3_map_1 (by decide) ?_
  refine jg_puti fp_X3_45 sh_0 rfl dX3_map_2 ?_
  refine jg_iload_n dX3_map_5 rfl rfl ?_
  refine jg_callS (c3_isSheet E (s2 u 0 9 0) k) me_X3_isSheet ml_X3_49 rfl (by decide) (by decide) rfl (Nat.le_of_ble_eq_true rfl) dX3_map_6 (kk_I (fun r_6 u_6 h_6 => ?_))
  obtain ⟨rfl, rfl⟩ := h_6
  refine jb_if_ne 14 dX3_map_9 (by decide) (fun h_9 => ?_) (fun h_9 => ?_)
  · obtain ⟨x, hx, rfl⟩ := in4 h_9
    have hs := shC_z hI hx 0
    have h60 := (hO.2.2.1 x hx).2
    refine jg_iload_n dX3_map_14 rfl rfl ?_
    refine jg_callS (c3_isLane E (s2 u 0 9 0) l) me_X3_isLane ml_X3_53 rfl (by decide) (by decide) rfl (Nat.le_of_ble_eq_true rfl) dX3_map_15 (kk_I (fun r_15 u_15 h_15 => ?_))
    obtain ⟨rfl, rfl⟩ := h_15
    refine jb_if_ne 24 dX3_map_18 (by decide) (fun h_18 => ?_) (fun h_18 => ?_)
    · refine jg_aload_n dX3_map_24 rfl rfl ?_
      refine jg_getr fk_X3_30 sh_0 rfl dX3_map_25 ?_
      refine jg_iload_n dX3_map_28 rfl rfl ?_
      refine jg_aald x sh_45 (sh_at hx) (Nat.le_of_ble_eq_true rfl) (rfl) dX3_map_29 ?_
      refine jg_astore dX3_map_30 (by decide) rfl ?_
      refine jg_aload dX3_map_32 rfl ?_
      refine jg_iload_n dX3_map_34 rfl rfl ?_
      refine jg_callV (c2_faultAs E (sh_ok hx) (s2 u 0 9 0) l) me_X2_faultAs ml_X3_56 (pg_0 (sh_ok hx)) rfl rfl (by decide) (by decide) rfl (Nat.le_of_ble_eq_true rfl) dX3_map_35 (kk_I (fun r_35 u_35 h_35 => ?_))
      obtain ⟨rfl, rfl⟩ := h_35
      refine jg_top (y := faF (g.2.2.2.1 x) l) (faF_C hs) ?_
      refine jg_istore dX3_map_38 (by decide) rfl ?_
      refine jg_iload dX3_map_40 rfl ?_
      refine jg_if_ne 53 dX3_map_42 (by decide) (fun h_42 => ?_) (fun h_42 => ?_)
      · have e9 : fMap g (nI x) l i n = (-10 - (faF (g.2.2.2.1 x) l), wFt g (faF (g.2.2.2.1 x) l)) := by unfold fMap shk; rw [if_pos h_9, if_pos h_18, cl_nI (show x < 2 ^ 31 by omega), show agF (g.2.2.2.1 x) l i n = (faF (g.2.2.2.1 x) l) from if_neg h_42, if_neg (by first | decide | assumption)]
        refine jg_iload dX3_map_53 rfl ?_
        refine jg_if_ne 72 dX3_map_55 (by decide) (fun h_55 => ?_) (fun h_55 => absurd h_55 (h_42))
        refine jg_iload dX3_map_72 rfl ?_
        refine jg_if_eq 84 dX3_map_74 (by decide) (fun h_74 => absurd h_74 (h_42)) (fun h_74 => ?_)
        refine jg_aload_n dX3_map_77 rfl rfl ?_
        refine jg_iload dX3_map_78 rfl ?_
        refine jg_callV (c3_failed E (s2 u 0 9 0) (faF (g.2.2.2.1 x) l)) me_X3_failed ml_X3_64 sh_0 rfl rfl (by decide) (by decide) rfl (Nat.le_of_ble_eq_true rfl) dX3_map_80 (kk_I (fun r_80 u_80 h_80 => ?_))
        obtain ⟨rfl, rfl⟩ := h_80
        rw [s2_s2]
        exact jg_iret (rfl) dX3_map_83 ⟨_, rfl, ⟨by rw [e9], by rw [e9]; exact hI.ft _, CF.rf.put (by omega)⟩⟩
      · refine jg_iload dX3_map_45 rfl ?_
        refine jg_if_ge 53 dX3_map_47 (by decide) (fun h_47 => ?_) (fun h_47 => ?_)
        · refine jg_iload dX3_map_53 rfl ?_
          refine jg_if_ne 72 dX3_map_55 (by decide) (fun h_55 => absurd h_55 (not_not_intro h_42)) (fun h_55 => ?_)
          refine jg_aload dX3_map_58 rfl ?_
          refine jg_iload_n dX3_map_60 rfl rfl ?_
          refine jg_iload dX3_map_61 rfl ?_
          refine jg_callV (c2_hasCells E (sh_ok hx) (s2 u 0 9 0) i n) me_X2_hasCells ml_X3_60 (pg_0 (sh_ok hx)) rfl rfl (by decide) (by decide) rfl (Nat.le_of_ble_eq_true rfl) dX3_map_63 (kk_I (fun r_63 u_63 h_63 => ?_))
          obtain ⟨rfl, rfl⟩ := h_63
          refine jg_top (y := bI (hcF (g.2.2.2.1 x).2.2.1 i n)) (by rw [hs.2.2.1]; rfl) ?_
          refine jb_if_ne 72 dX3_map_66 (by decide) (fun h_66 => ?_) (fun h_66 => ?_)
          · have hag : agF (g.2.2.2.1 x) l i n = 0 := by unfold agF; rw [if_pos h_42, if_neg (Int32.not_lt.mpr h_47), if_pos h_66]
            obtain ⟨a, b, hab, rfl, rfl⟩ := hc_nat h60 h_66
            have e8 : fMap g (nI x) l (nI a) (nI b) = mapG g (tX (g.2.2.2.1 x) (nI a)) b := by unfold fMap shk; rw [if_pos h_9, if_pos h_18, cl_nI (show x < 2 ^ 31 by omega), if_pos hag, cl_nI (show b < 2 ^ 31 by omega)]
            refine jg_iload dX3_map_72 rfl ?_
            refine jg_if_eq 84 dX3_map_74 (by decide) (fun h_74 => ?_) (fun h_74 => absurd h_74 (not_not_intro h_42))
            refine jg_aload_n dX3_map_84 rfl rfl ?_
            refine jg_getr fk_X3_24 sh_0 rfl dX3_map_85 ?_
            refine jg_aload dX3_map_88 rfl ?_
            refine jg_getr fk_X3_67 (pg_0 (sh_ok hx)) rfl dX3_map_90 ?_
            refine jg_iload_n dX3_map_93 rfl rfl ?_
            refine jg_iload dX3_map_94 rfl ?_
            refine jg_callV (c1_takes E (s2 u 0 9 0) (tX (g.2.2.2.1 x) (nI a)) x a b hx (by omega) (fun q hq => by rw [hs.2.2.2 _ (by omega)]; show _ = (g.2.2.2.1 x).2.2.2 (cl (nI a) + q); rw [cl_nI (show a < 2 ^ 31 by omega)])) me_X1_takes ml_X3_70 sh_29 rfl rfl (by decide) (by decide) rfl (Nat.le_of_ble_eq_true rfl) dX3_map_96 (kk_I (fun r_96 u_96 h_96 => ?_))
            obtain ⟨rfl, k3, k4, k5, k6⟩ := h_96
            have hle := pF_le (tX (g.2.2.2.1 x) (nI a)) b
            rw [s2_row (by decide), hI.2.2.1] at k4
            refine jb_if_ne 113 dX3_map_99 (by decide) (fun h_99 => ?_) (fun h_99 => ?_)
            · have e9 : fMap g (nI x) l (nI a) (nI b) = (nI (nA (tX (g.2.2.2.1 x) (nI a)) b), (picT (tX (g.2.2.2.1 x) (nI a)) (nA (tX (g.2.2.2.1 x) (nI a)) b), (fun i => g.2.2.1 + nI (i + 1)), g.2.2.1 + nI (pE (tX (g.2.2.2.1 x) (nI a)) b), g.2.2.2.1, (0, g.2.2.2.2.1.2), g.2.2.2.2.2.1, 0)) := by rw [e8]; unfold mapG; rw [if_pos h_99]
              obtain ⟨k7, k8⟩ := k6 h_99
              obtain ⟨k9, -⟩ := picT_ok h_99
              refine jg_aload_n dX3_map_113 rfl rfl ?_
              refine jg_getr fk_X3_14 sh_0 rfl dX3_map_114 ?_
              refine jg_aload_n dX3_map_117 rfl rfl ?_
              refine jg_getr fk_X3_24 sh_0 rfl dX3_map_118 ?_
              refine jg_getr fk_X3_77 sh_29 rfl dX3_map_121 ?_
              refine jg_callV (c0_becomeLike E ipl_1 ipl_30 (by decide) u_96 _ k9 k7) me_X0_becomeLike ml_X3_80 (pl_0 ipl_1) rfl rfl (by decide) (by decide) rfl (Nat.le_of_ble_eq_true rfl) dX3_map_124 (kk_V (fun u_124 h_124 => ?_))
              obtain ⟨hF, hL, h5⟩ := h_124
              refine jg_aload_n dX3_map_127 rfl rfl ?_
              refine jg_iconst (v := 0) dX3_map_128 (by decide) ?_
              refine jg_puti fp_X3_84 sh_0 rfl dX3_map_129 ?_
              refine jg_aload_n dX3_map_132 rfl rfl ?_
              refine jg_getr fk_X3_14 sh_0 rfl dX3_map_133 ?_
              refine jg_geti fk_X3_87 (pl_0 ipl_1) rfl dX3_map_136 ?_
              refine jg_top (y := nI (nA (tX (g.2.2.2.1 x) (nI a)) b)) (by rw [s2_row (by decide)]; exact hL.1.1) ?_
              exact jg_iret (rfl) dX3_map_139 ⟨_, rfl, ⟨by rw [e9], by rw [e9]; exact (hI.ft 0).map k5 k4 hF hL (fun q hq => by have z := k9.1; rw [h5 q (by omega)]; have y := k8 q hq; rw [s2_row (by decide), hI.2.2.1] at y; exact y), fun r hr => by rw [s2_row (by omega), hF r (by omega), k5 r (by omega), s2_row (by omega)]⟩⟩
            · have e9 : fMap g (nI x) l (nI a) (nI b) = (-100 - nI (pF (tX (g.2.2.2.1 x) (nI a)) b).2, (g.1, g.2.1, g.2.2.1 + nI (pE (tX (g.2.2.2.1 x) (nI a)) b), g.2.2.2.1, g.2.2.2.2.1, g.2.2.2.2.2.1, 0)) := by rw [e8]; unfold mapG; rw [if_neg (by rw [h_99]; decide)]
              refine jg_bipush (v := -100) dX3_map_102 (by decide) ?_
              refine jg_aload_n dX3_map_104 rfl rfl ?_
              refine jg_getr fk_X3_24 sh_0 rfl dX3_map_105 ?_
              refine jg_geti fk_X3_74 sh_29 rfl dX3_map_108 ?_
              refine jg_top (y := nI ((pF (tX (g.2.2.2.1 x) (nI a)) b).2)) (k3) ?_
              refine jg_isub dX3_map_111 ?_
              exact jg_iret (rfl) dX3_map_112 ⟨_, rfl, ⟨by rw [e9], by rw [e9]; exact (hI.ft 0).ev k5 k4, fun r hr => by rw [k5 r (by omega), s2_row (by omega)]⟩⟩
          · have e9 : fMap g (nI x) l i n = (-10 - 3, wFt g 3) := by unfold fMap shk; rw [if_pos h_9, if_pos h_18, cl_nI (show x < 2 ^ 31 by omega), show agF (g.2.2.2.1 x) l i n = 3 from by unfold agF; rw [if_pos h_42, if_neg (Int32.not_lt.mpr h_47), if_neg (by rw [h_66]; decide)], if_neg (by first | decide | assumption)]
            refine jg_iconst (v := 3) dX3_map_69 (by decide) ?_
            refine jg_istore dX3_map_70 (by decide) rfl ?_
            refine jg_iload dX3_map_72 rfl ?_
            refine jg_if_eq 84 dX3_map_74 (by decide) (fun h_74 => absurd h_74 (by decide)) (fun h_74 => ?_)
            refine jg_aload_n dX3_map_77 rfl rfl ?_
            refine jg_iload dX3_map_78 rfl ?_
            refine jg_callV (c3_failed E (s2 u 0 9 0) 3) me_X3_failed ml_X3_64 sh_0 rfl rfl (by decide) (by decide) rfl (Nat.le_of_ble_eq_true rfl) dX3_map_80 (kk_I (fun r_80 u_80 h_80 => ?_))
            obtain ⟨rfl, rfl⟩ := h_80
            rw [s2_s2]
            exact jg_iret (rfl) dX3_map_83 ⟨_, rfl, ⟨by rw [e9], by rw [e9]; exact hI.ft _, CF.rf.put (by omega)⟩⟩
        · have e9 : fMap g (nI x) l i n = (-10 - 4, wFt g 4) := by unfold fMap shk; rw [if_pos h_9, if_pos h_18, cl_nI (show x < 2 ^ 31 by omega), show agF (g.2.2.2.1 x) l i n = 4 from by unfold agF; rw [if_pos h_42, if_pos (Int32.not_le.mp h_47)], if_neg (by first | decide | assumption)]
          refine jg_iconst (v := 4) dX3_map_50 (by decide) ?_
          refine jg_istore dX3_map_51 (by decide) rfl ?_
          refine jg_iload dX3_map_53 rfl ?_
          refine jg_if_ne 72 dX3_map_55 (by decide) (fun h_55 => ?_) (fun h_55 => absurd h_55 (by decide))
          refine jg_iload dX3_map_72 rfl ?_
          refine jg_if_eq 84 dX3_map_74 (by decide) (fun h_74 => absurd h_74 (by decide)) (fun h_74 => ?_)
          refine jg_aload_n dX3_map_77 rfl rfl ?_
          refine jg_iload dX3_map_78 rfl ?_
          refine jg_callV (c3_failed E (s2 u 0 9 0) 4) me_X3_failed ml_X3_64 sh_0 rfl rfl (by decide) (by decide) rfl (Nat.le_of_ble_eq_true rfl) dX3_map_80 (kk_I (fun r_80 u_80 h_80 => ?_))
          obtain ⟨rfl, rfl⟩ := h_80
          rw [s2_s2]
          exact jg_iret (rfl) dX3_map_83 ⟨_, rfl, ⟨by rw [e9], by rw [e9]; exact hI.ft _, CF.rf.put (by omega)⟩⟩
    · refine jg_bipush (v := -2) dX3_map_21 (by decide) ?_
      have e9 : fMap g (nI x) l i n = (-2, wFt g 0) := by unfold fMap; rw [if_pos h_9, if_neg (by rw [h_18]; decide)]
      exact jg_iret (rfl) dX3_map_23 ⟨_, rfl, ⟨by rw [e9] <;> rfl, by rw [e9]; exact hI.ft 0, CF.rf.put (by omega)⟩⟩
  · refine jg_iconst (v := -1) dX3_map_12 (by decide) ?_
    have e9 : fMap g k l i n = (-1, wFt g 0) := by unfold fMap; rw [if_neg (by rw [h_9]; decide)]
    exact jg_iret (rfl) dX3_map_13 ⟨_, rfl, ⟨by rw [e9] <;> rfl, by rw [e9]; exact hI.ft 0, CF.rf.put (by omega)⟩⟩
