/-- a areas are read -/
def BM (u v : Mm) (t : Nat → Int32) (n : Nat) : Prop := (∀ k, k ≠ 57 → k < 66 ∨ 69 < k → v k = u k) ∧ (∀ j, j ≠ 6 → j ≠ 12 → j ≠ 13 → v 57 j = u 57 j) ∧ v 57 6 = u 57 6 + nI n ∧ v 57 13 = nI n ∧ ∀ i, i < n → v 66 i = nI (kv t (2 + 4 * i)) ∧ v 67 i = nI (dv t (3 + 4 * i)) ∧ v 68 i = nI (dv t (4 + 4 * i)) ∧ v 69 i = u 57 6 + nI (i + 1)
theorem BM.af {u v w : Mm} {t : Nat → Int32} {n a q : Nat} (h : BM u v t n) (f : AtM v w a q) : BM u w t n := by
  obtain ⟨h1, h2, h3, h4, h5⟩ := h
  refine ⟨fun k hk z => (f.1 k hk).trans (h1 k hk z), fun j a1 a2 a3 => (f.2.1 j a2).trans (h2 j a1 a2 a3), (f.2.1 6 (by decide)).trans h3, (f.2.1 13 (by decide)).trans h4, fun i hi => ?_⟩
  rw [f.1 66 (by decide), f.1 67 (by decide), f.1 68 (by decide), f.1 69 (by decide)]; exact h5 i hi
theorem BM.br {u v w : Mm} {t : Nat → Int32} {n a : Nat} (h : BM u v t n) (f : BRf v w n) (g : BRg v w t a (2 + 4 * n) n) : BM u w t (n + 1) := by
  obtain ⟨h1, h2, h3, h4, h5⟩ := h
  obtain ⟨g1, g2, g3, g4, g5, g6, g7⟩ := g
  refine ⟨fun k hk z => (f.1 k hk z).trans (h1 k hk z), fun j a1 a2 a3 => (f.2.1 j a1 a2 a3).trans (h2 j a1 a2 a3), by rw [g2, h3, nI_as], g3, fun i hi => ?_⟩
  by_cases e : i = n
  · subst e; exact ⟨g4, by rw [g5]; congr 2; omega, by rw [g6]; congr 2; omega, by rw [g7, h3, nI_as]⟩
  · rw [f.2.2 66 (by decide) (by decide) i e, f.2.2 67 (by decide) (by decide) i e, f.2.2 68 (by decide) (by decide) i e, f.2.2 69 (by decide) (by decide) i e]; exact h5 i (by omega)
theorem BM.bad {u v w : Mm} {t : Nat → Int32} {n a p : Nat} (h : BM u v t n) (f : BRf v w n) (g : BRb v w a p) : BM u w t n := by
  obtain ⟨h1, h2, h3, h4, h5⟩ := h
  refine ⟨fun k hk z => (f.1 k hk z).trans (h1 k hk z), fun j a1 a2 a3 => (f.2.1 j a1 a2 a3).trans (h2 j a1 a2 a3), g.2.1.trans h3, g.2.2.trans h4, fun i hi => ?_⟩
  rw [f.2.2 66 (by decide) (by decide) i (by omega), f.2.2 67 (by decide) (by decide) i (by omega), f.2.2 68 (by decide) (by decide) i (by omega), f.2.2 69 (by decide) (by decide) i (by omega)]; exact h5 i hi
/-- what the reference has read -/
def TM (u v : Mm) (t : Nat → Int32) (a b : Nat) : Prop := v 57 12 = nI (a + (pF t b).2) ∧ v 57 6 = u 57 6 + nI (pE t b) ∧ (∀ k, k ≠ 57 → k < 66 ∨ 70 < k → v k = u k) ∧ (∀ j, j ≠ 6 → j ≠ 12 → j ≠ 13 → v 57 j = u 57 j) ∧ ((pF t b).1 = true → v 57 13 = nI (nA t b) ∧ ∀ i, i < nA t b → v 66 i = nI (kv t (2 + 4 * i)) ∧ v 67 i = nI (dv t (3 + 4 * i)) ∧ v 68 i = nI (dv t (4 + 4 * i)) ∧ v 69 i = u 57 6 + nI (i + 1) ∧ v 70 i = nI (dv t (2 + 4 * nA t b + i)) ∧ v 70 (6 + i) = nI (dv t (3 + 5 * nA t b + i)))
set_option maxHeartbeats 4000000 in
set_option maxRecDepth 20000 in
theorem c4_readAll (E : gT) (u : Mm) (t : Nat → Int32) (a b : Nat) (hb : a + b ≤ 240) (hx : RY u t a b 0) : Con E yX4_readAll cX4_readAll 2 (some .boolean) 3 [.ref (E.2.1 57), .int (nI (a + b))] u (kI (fun r u2 => r = bI (pF t b).1 ∧ TM u u2 t a b)) := by
  have h6 := nA_le t b
  have x0 : RY (s2 u 57 13 0) t a b 0 := ⟨by rw [s2_ne (by decide)]; exact hx.1, fun i hi => by rw [s2_row (by decide)]; exact hx.2 i hi⟩
  refine Con.of (lv := [some (.ref (E.2.1 57)), some (.int (nI (a + b)))]) (by decide +kernel) (Nat.le_of_ble_eq_true rfl) rfl ?_
  refine jg_aload_n dX4_readAll_0 rfl rfl ?_
  refine jg_iconst (v := 0) dX4_readAll_1 (by decide) ?_
  refine jg_puti fp_X4_110 sh_57 rfl dX4_readAll_2 ?_
  refine jg_aload_n dX4_readAll_5 rfl rfl ?_
  refine jg_iload_n dX4_readAll_6 rfl rfl ?_
  refine jg_bipush (v := 109) dX4_readAll_7 (by decide) ?_
  refine jg_callV (c4_isSign E (s2 u 57 13 0) t a b 0 hb (by omega) x0 109) me_X4_isSign ml_X4_116 sh_57 rfl rfl (by decide) (by decide) rfl (Nat.le_of_ble_eq_true rfl) dX4_readAll_9 (kk_I (fun r_9 u_9 h_9 => ?_))
  obtain ⟨rfl, a1⟩ := h_9
  refine jb_if_ne 17 dX4_readAll_12 (by decide) (fun h_12 => ?_) (fun h_12 => ?_)
  · rw [if_pos h_12] at a1
    have x1 := x0.af a1
    have e0 : pE t b = nA t b := if_pos h_12
    have hB0 : BM u u_9 t 0 := ⟨fun k h1 _ => by rw [a1.1 k h1, s2_row h1], fun j _ h2 h3 => by rw [a1.2.1 j h2, s2_ne h3], by rw [a1.2.1 6 (by decide), s2_ne (by decide)]; exact (Int32.add_zero _).symm, by rw [a1.2.1 13 (by decide), s2_self]; rfl, fun i h => by omega⟩
    have cut_17 : ∀ (m c : Nat) (x : Mm), c ≤ 6 → 6 < c + m → (∀ j, j < c → aOk t b j = true) → BM u x t c → RY x t a b (1 + 4 * c) → G E cX4_readAll 2 (yX4_readAll).cls (some .boolean) 3 (kI (fun r u2 => r = bI (pF t b).1 ∧ TM u u2 t a b)) 17 [some (.ref (E.2.1 57)), some (.int (nI (a + b)))] [] x := by
      intro m
      induction m with
      | zero => intro c x h1 h2; omega
      | succ m ih =>
        intro c x hc hm hok hM hxx
        refine jg_aload_n dX4_readAll_17 rfl rfl ?_
        refine jg_geti fk_X4_110 sh_57 rfl dX4_readAll_18 ?_
        refine jg_top (y := nI c) (hM.2.2.2.1) ?_
        refine jn_if_eq c rfl (by omega) 55 dX4_readAll_21 (by decide) (fun h_21 => ?_) (fun h_21 => ?_)
        · have hcs : c = 0 ∨ sg t b (1 + 4 * c) 59 = true := Or.inl h_21
          refine jg_aload_n dX4_readAll_55 rfl rfl ?_
          refine jg_iload_n dX4_readAll_56 rfl rfl ?_
          refine jg_bipush (v := 59) dX4_readAll_57 (by decide) ?_
          refine jg_callV (c4_isSign E x t a b (1 + 4 * c) hb (by omega) hxx 59) me_X4_isSign ml_X4_116 sh_57 rfl rfl (by decide) (by decide) rfl (Nat.le_of_ble_eq_true rfl) dX4_readAll_59 (kk_I (fun r_59 u_59 h_59 => ?_))
          obtain ⟨rfl, a2⟩ := h_59
          refine jb_if_eq 73 dX4_readAll_62 (by decide) (fun h_62 => ?_) (fun h_62 => ?_)
          · rw [if_neg (by rw [h_62]; decide)] at a2
            have hc0 : c = 0 := by rcases hcs with z | z; exact z; (rw [h_62] at z; exact absurd z (by decide))
            have en : nA t b = c := nA_at hc hok (fun _ => by simp [aOk, h_62])
            have hM := hM.af a2
            have e9 : pF t b = (false, 1 + 4 * c) := by unfold pF; rw [if_pos h_12, if_neg (by simp [aGo, en, hc0])]; simp [aAt, en, h_62]
            have f3 := a2.2.2
            rw [← en] at hM
            have f4 : u_59 57 6 = u 57 6 + nI (pE t b) := by rw [hM.2.2.1, e0]
            have f5 : ∀ k, k ≠ 57 → k < 66 ∨ 70 < k → u_59 k = u k := fun k h1 h2 => hM.1 k h1 (by omega)
            have f6 : ∀ j, j ≠ 6 → j ≠ 12 → j ≠ 13 → u_59 57 j = u 57 j := fun j j1 j2 j3 => hM.2.1 j j1 j2 j3
            refine jg_iconst (v := 0) dX4_readAll_73 (by decide) ?_
            exact jg_iret (rfl) dX4_readAll_74 ⟨_, rfl, ⟨by rw [e9]; rfl, by rw [e9]; exact f3, f4, f5, f6, fun z => by rw [e9] at z; exact absurd (show false = true from z) (by decide)⟩⟩
          · rw [if_pos h_62] at a2
            have hM := hM.af a2
            have hxx := hxx.af a2
            have hc5 : c < 6 := by rcases hcs with z | z <;> omega
            refine jg_aload_n dX4_readAll_65 rfl rfl ?_
            refine jg_iload_n dX4_readAll_66 rfl rfl ?_
            refine jg_callV (c4_readArea E u_59 t a b (2 + 4 * c) hb (by omega) (by rw [show 2 + 4 * c = 1 + 4 * c + 1 by omega]; exact hxx) c hc5 hM.2.2.2.1) me_X4_readArea ml_X4_120 sh_57 rfl rfl (by decide) (by decide) rfl (Nat.le_of_ble_eq_true rfl) dX4_readAll_67 (kk_I (fun r_67 u_67 h_67 => ?_))
            obtain ⟨rfl, a3, a4, a5⟩ := h_67
            refine jb_if_ne 17 dX4_readAll_70 (by decide) (fun h_70 => ?_) (fun h_70 => ?_)
            · have a4 := a4 h_70
              have hM2 := hM.br a3 a4
              exact ih (c + 1) _ (by omega) (by omega) (fun j h => by by_cases e : j = c; (subst e; simp [aOk, h_62, h_70]); exact hok j (by omega)) hM2 (by rw [show 1 + 4 * (c + 1) = 2 + 4 * c + 3 by omega]; exact ⟨a4.1, fun i hi => by rw [a3.1 60 (by decide) (by omega)]; exact hxx.2 i hi⟩)
            · have a5 := a5 h_70
              have en : nA t b = c := nA_at hc hok (fun _ => by simp [aOk, h_70])
              have hM := hM.bad a3 a5
              have e9 : pF t b = (false, aS t b (2 + 4 * c)) := by unfold pF; rw [if_pos h_12, if_neg (by simp [aGo, en, h_62]; omega)]; simp only [aAt, en]; rw [if_pos (by simp [h_62]; omega)]
              have f3 := a5.1
              rw [← en] at hM
              have f4 : u_67 57 6 = u 57 6 + nI (pE t b) := by rw [hM.2.2.1, e0]
              have f5 : ∀ k, k ≠ 57 → k < 66 ∨ 70 < k → u_67 k = u k := fun k h1 h2 => hM.1 k h1 (by omega)
              have f6 : ∀ j, j ≠ 6 → j ≠ 12 → j ≠ 13 → u_67 57 j = u 57 j := fun j j1 j2 j3 => hM.2.1 j j1 j2 j3
              refine jg_iconst (v := 0) dX4_readAll_73 (by decide) ?_
              exact jg_iret (rfl) dX4_readAll_74 ⟨_, rfl, ⟨by rw [e9]; rfl, by rw [e9]; exact f3, f4, f5, f6, fun z => by rw [e9] at z; exact absurd (show false = true from z) (by decide)⟩⟩
        · refine jg_aload_n dX4_readAll_24 rfl rfl ?_
          refine jg_geti fk_X4_110 sh_57 rfl dX4_readAll_25 ?_
          refine jg_top (y := nI c) (hM.2.2.2.1) ?_
          refine jg_bipush (v := 6) dX4_readAll_28 (by decide) ?_
          refine jn_icmp_ge c 6 rfl rfl (by omega) (by omega) 75 dX4_readAll_30 (by decide) (fun h_30 => ?_) (fun h_30 => ?_)
          · have e6 : c = 6 := by omega
            have en : nA t b = c := nA_at hc hok (fun z => by omega)
            have hgo : aGo t b = true := by simp [aGo, en, e6]
            rw [← en] at hM hxx
            have h1 := aGo_1 hgo
            have f4 : x 57 6 = u 57 6 + nI (pE t b) := by rw [hM.2.2.1, e0]
            refine jg_aload_n dX4_readAll_75 rfl rfl ?_
            refine jg_iload_n dX4_readAll_76 rfl rfl ?_
            refine jg_iconst (v := 0) dX4_readAll_77 (by decide) ?_
            refine jg_callV (c4_readOrderNext E x t a b (1 + 4 * nA t b) hb (by omega) hxx (nA t b) 0 (by omega) h1 h6 hM.2.2.2.1) me_X4_readOrderNext ml_X4_122 sh_57 rfl rfl (by decide) (by decide) rfl (Nat.le_of_ble_eq_true rfl) dX4_readAll_78 (kk_I (fun r_78 u_78 h_78 => ?_))
            obtain ⟨rfl, o1, o2, o3, o5, o4⟩ := h_78
            have f4 : u_78 57 6 = u 57 6 + nI (pE t b) := (o3 6 (by decide)).trans f4
            have f5 : ∀ k, k ≠ 57 → k < 66 ∨ 70 < k → u_78 k = u k := fun k h1 h2 => (o2 k h1 (by omega)).trans (hM.1 k h1 (by omega))
            have f6 : ∀ j, j ≠ 6 → j ≠ 12 → j ≠ 13 → u_78 57 j = u 57 j := fun j j1 j2 j3 => (o3 j j2).trans (hM.2.1 j j1 j2 j3)
            refine jb_if_eq 106 dX4_readAll_81 (by decide) (fun h_81 => ?_) (fun h_81 => ?_)
            · have e9 : pF t b = (false, oAt t b (nA t b) (1 + 4 * nA t b)) := by unfold pF; rw [if_pos h_12, if_pos hgo, if_neg (by rw [h_81]; decide)]
              have f3 := o1
              refine jg_iconst (v := 0) dX4_readAll_106 (by decide) ?_
              exact jg_iret (rfl) dX4_readAll_107 ⟨_, rfl, ⟨by rw [e9]; rfl, by rw [e9]; exact f3, f4, f5, f6, fun z => by rw [e9] at z; exact absurd (show false = true from z) (by decide)⟩⟩
            · rw [oK_at h_81, show 1 + 4 * nA t b + 1 + nA t b = 2 + 5 * nA t b by omega] at o1
              have x3 : RY u_78 t a b (2 + 5 * nA t b) := ⟨o1, fun i hi => by rw [o2 60 (by decide) (by decide)]; exact hxx.2 i hi⟩
              refine jg_aload_n dX4_readAll_84 rfl rfl ?_
              refine jg_iload_n dX4_readAll_85 rfl rfl ?_
              refine jg_bipush (v := 6) dX4_readAll_86 (by decide) ?_
              refine jg_callV (c4_readOrderNext E u_78 t a b (2 + 5 * nA t b) hb (by omega) x3 (nA t b) 6 (by omega) h1 h6 ((o3 13 (by decide)).trans hM.2.2.2.1)) me_X4_readOrderNext ml_X4_122 sh_57 rfl rfl (by decide) (by decide) rfl (Nat.le_of_ble_eq_true rfl) dX4_readAll_88 (kk_I (fun r_88 u_88 h_88 => ?_))
              obtain ⟨rfl, p1, p2, p3, p5, p4⟩ := h_88
              have f4 : u_88 57 6 = u 57 6 + nI (pE t b) := (p3 6 (by decide)).trans f4
              have f5 : ∀ k, k ≠ 57 → k < 66 ∨ 70 < k → u_88 k = u k := fun k h1 h2 => (p2 k h1 (by omega)).trans (f5 k h1 h2)
              have f6 : ∀ j, j ≠ 6 → j ≠ 12 → j ≠ 13 → u_88 57 j = u 57 j := fun j j1 j2 j3 => (p3 j j2).trans (f6 j j1 j2 j3)
              refine jb_if_eq 106 dX4_readAll_91 (by decide) (fun h_91 => ?_) (fun h_91 => ?_)
              · have e9 : pF t b = (false, oAt t b (nA t b) (2 + 5 * nA t b)) := by unfold pF; rw [if_pos h_12, if_pos hgo, if_pos h_81, if_neg (by rw [h_91]; decide)]
                have f3 := p1
                refine jg_iconst (v := 0) dX4_readAll_106 (by decide) ?_
                exact jg_iret (rfl) dX4_readAll_107 ⟨_, rfl, ⟨by rw [e9]; rfl, by rw [e9]; exact f3, f4, f5, f6, fun z => by rw [e9] at z; exact absurd (show false = true from z) (by decide)⟩⟩
              · rw [oK_at h_91, show 2 + 5 * nA t b + 1 + nA t b = 3 + 6 * nA t b by omega] at p1
                have e8 : pF t b = (decide (3 + 6 * nA t b = b), 3 + 6 * nA t b) := by unfold pF; rw [if_pos h_12, if_pos hgo, if_pos h_81, if_pos h_91]
                refine jg_aload_n dX4_readAll_94 rfl rfl ?_
                refine jg_geti fk_X4_89 sh_57 rfl dX4_readAll_95 ?_
                refine jg_top (y := nI (a + (3 + 6 * nA t b))) (p1) ?_
                refine jg_iload_n dX4_readAll_98 rfl rfl ?_
                refine jn_icmp_ne (a + (3 + 6 * nA t b)) (a + b) rfl rfl (by omega) (by omega) 106 dX4_readAll_99 (by decide) (fun h_99 => ?_) (fun h_99 => ?_)
                · have e9 : pF t b = (false, 3 + 6 * nA t b) := by rw [e8, decide_eq_false (by omega)]
                  have f3 := p1
                  refine jg_iconst (v := 0) dX4_readAll_106 (by decide) ?_
                  exact jg_iret (rfl) dX4_readAll_107 ⟨_, rfl, ⟨by rw [e9]; rfl, by rw [e9]; exact f3, f4, f5, f6, fun z => by rw [e9] at z; exact absurd (show false = true from z) (by decide)⟩⟩
                · have e9 : pF t b = (true, 3 + 6 * nA t b) := by rw [e8, decide_eq_true (by omega)]
                  refine jg_iconst (v := 1) dX4_readAll_102 (by decide) ?_
                  refine jg_goto 107 dX4_readAll_103 (by decide) ?_
                  exact jg_iret (rfl) dX4_readAll_107 ⟨_, rfl, ⟨by rw [e9]; rfl, by rw [e9]; exact p1, f4, f5, f6, fun _ => ⟨(p3 13 (by decide)).trans ((o3 13 (by decide)).trans hM.2.2.2.1), fun i hi => ⟨by rw [p2 66 (by decide) (by decide), o2 66 (by decide) (by decide)]; exact (hM.2.2.2.2 i hi).1, by rw [p2 67 (by decide) (by decide), o2 67 (by decide) (by decide)]; exact (hM.2.2.2.2 i hi).2.1, by rw [p2 68 (by decide) (by decide), o2 68 (by decide) (by decide)]; exact (hM.2.2.2.2 i hi).2.2.1, by rw [p2 69 (by decide) (by decide), o2 69 (by decide) (by decide)]; exact (hM.2.2.2.2 i hi).2.2.2, by rw [p5 i (by omega)]; have z := o4 h_81 i hi; rw [Nat.zero_add] at z; exact z.trans (congrArg (fun z => nI (dv t z)) (by omega)), (p4 h_91 i hi).trans (congrArg (fun z => nI (dv t z)) (by omega))⟩⟩⟩⟩
          · have hc5 : c < 6 := by omega
            refine jg_aload_n dX4_readAll_33 rfl rfl ?_
            refine jg_geti fk_X4_89 sh_57 rfl dX4_readAll_34 ?_
            refine jg_top (y := nI (a + (1 + 4 * c))) (hxx.1) ?_
            refine jg_iload_n dX4_readAll_37 rfl rfl ?_
            refine jn_icmp_ge (a + (1 + 4 * c)) (a + b) rfl rfl (by omega) (by omega) 75 dX4_readAll_38 (by decide) (fun h_38 => ?_) (fun h_38 => ?_)
            · have hs9 : sg t b (1 + 4 * c) 59 = false := sg_n1 (by omega)
              have en : nA t b = c := nA_at hc hok (fun _ => by simp [aOk, hs9])
              have hgo : aGo t b = true := by simp [aGo, en, hs9]; omega
              rw [← en] at hM hxx
              have h1 := aGo_1 hgo
              have f4 : x 57 6 = u 57 6 + nI (pE t b) := by rw [hM.2.2.1, e0]
              refine jg_aload_n dX4_readAll_75 rfl rfl ?_
              refine jg_iload_n dX4_readAll_76 rfl rfl ?_
              refine jg_iconst (v := 0) dX4_readAll_77 (by decide) ?_
              refine jg_callV (c4_readOrderNext E x t a b (1 + 4 * nA t b) hb (by omega) hxx (nA t b) 0 (by omega) h1 h6 hM.2.2.2.1) me_X4_readOrderNext ml_X4_122 sh_57 rfl rfl (by decide) (by decide) rfl (Nat.le_of_ble_eq_true rfl) dX4_readAll_78 (kk_I (fun r_78 u_78 h_78 => ?_))
              obtain ⟨rfl, o1, o2, o3, o5, o4⟩ := h_78
              have f4 : u_78 57 6 = u 57 6 + nI (pE t b) := (o3 6 (by decide)).trans f4
              have f5 : ∀ k, k ≠ 57 → k < 66 ∨ 70 < k → u_78 k = u k := fun k h1 h2 => (o2 k h1 (by omega)).trans (hM.1 k h1 (by omega))
              have f6 : ∀ j, j ≠ 6 → j ≠ 12 → j ≠ 13 → u_78 57 j = u 57 j := fun j j1 j2 j3 => (o3 j j2).trans (hM.2.1 j j1 j2 j3)
              refine jb_if_eq 106 dX4_readAll_81 (by decide) (fun h_81 => ?_) (fun h_81 => ?_)
              · have e9 : pF t b = (false, oAt t b (nA t b) (1 + 4 * nA t b)) := by unfold pF; rw [if_pos h_12, if_pos hgo, if_neg (by rw [h_81]; decide)]
                have f3 := o1
                refine jg_iconst (v := 0) dX4_readAll_106 (by decide) ?_
                exact jg_iret (rfl) dX4_readAll_107 ⟨_, rfl, ⟨by rw [e9]; rfl, by rw [e9]; exact f3, f4, f5, f6, fun z => by rw [e9] at z; exact absurd (show false = true from z) (by decide)⟩⟩
              · rw [oK_at h_81, show 1 + 4 * nA t b + 1 + nA t b = 2 + 5 * nA t b by omega] at o1
                have x3 : RY u_78 t a b (2 + 5 * nA t b) := ⟨o1, fun i hi => by rw [o2 60 (by decide) (by decide)]; exact hxx.2 i hi⟩
                refine jg_aload_n dX4_readAll_84 rfl rfl ?_
                refine jg_iload_n dX4_readAll_85 rfl rfl ?_
                refine jg_bipush (v := 6) dX4_readAll_86 (by decide) ?_
                refine jg_callV (c4_readOrderNext E u_78 t a b (2 + 5 * nA t b) hb (by omega) x3 (nA t b) 6 (by omega) h1 h6 ((o3 13 (by decide)).trans hM.2.2.2.1)) me_X4_readOrderNext ml_X4_122 sh_57 rfl rfl (by decide) (by decide) rfl (Nat.le_of_ble_eq_true rfl) dX4_readAll_88 (kk_I (fun r_88 u_88 h_88 => ?_))
                obtain ⟨rfl, p1, p2, p3, p5, p4⟩ := h_88
                have f4 : u_88 57 6 = u 57 6 + nI (pE t b) := (p3 6 (by decide)).trans f4
                have f5 : ∀ k, k ≠ 57 → k < 66 ∨ 70 < k → u_88 k = u k := fun k h1 h2 => (p2 k h1 (by omega)).trans (f5 k h1 h2)
                have f6 : ∀ j, j ≠ 6 → j ≠ 12 → j ≠ 13 → u_88 57 j = u 57 j := fun j j1 j2 j3 => (p3 j j2).trans (f6 j j1 j2 j3)
                refine jb_if_eq 106 dX4_readAll_91 (by decide) (fun h_91 => ?_) (fun h_91 => ?_)
                · have e9 : pF t b = (false, oAt t b (nA t b) (2 + 5 * nA t b)) := by unfold pF; rw [if_pos h_12, if_pos hgo, if_pos h_81, if_neg (by rw [h_91]; decide)]
                  have f3 := p1
                  refine jg_iconst (v := 0) dX4_readAll_106 (by decide) ?_
                  exact jg_iret (rfl) dX4_readAll_107 ⟨_, rfl, ⟨by rw [e9]; rfl, by rw [e9]; exact f3, f4, f5, f6, fun z => by rw [e9] at z; exact absurd (show false = true from z) (by decide)⟩⟩
                · rw [oK_at h_91, show 2 + 5 * nA t b + 1 + nA t b = 3 + 6 * nA t b by omega] at p1
                  have e8 : pF t b = (decide (3 + 6 * nA t b = b), 3 + 6 * nA t b) := by unfold pF; rw [if_pos h_12, if_pos hgo, if_pos h_81, if_pos h_91]
                  refine jg_aload_n dX4_readAll_94 rfl rfl ?_
                  refine jg_geti fk_X4_89 sh_57 rfl dX4_readAll_95 ?_
                  refine jg_top (y := nI (a + (3 + 6 * nA t b))) (p1) ?_
                  refine jg_iload_n dX4_readAll_98 rfl rfl ?_
                  refine jn_icmp_ne (a + (3 + 6 * nA t b)) (a + b) rfl rfl (by omega) (by omega) 106 dX4_readAll_99 (by decide) (fun h_99 => ?_) (fun h_99 => ?_)
                  · have e9 : pF t b = (false, 3 + 6 * nA t b) := by rw [e8, decide_eq_false (by omega)]
                    have f3 := p1
                    refine jg_iconst (v := 0) dX4_readAll_106 (by decide) ?_
                    exact jg_iret (rfl) dX4_readAll_107 ⟨_, rfl, ⟨by rw [e9]; rfl, by rw [e9]; exact f3, f4, f5, f6, fun z => by rw [e9] at z; exact absurd (show false = true from z) (by decide)⟩⟩
                  · have e9 : pF t b = (true, 3 + 6 * nA t b) := by rw [e8, decide_eq_true (by omega)]
                    refine jg_iconst (v := 1) dX4_readAll_102 (by decide) ?_
                    refine jg_goto 107 dX4_readAll_103 (by decide) ?_
                    exact jg_iret (rfl) dX4_readAll_107 ⟨_, rfl, ⟨by rw [e9]; rfl, by rw [e9]; exact p1, f4, f5, f6, fun _ => ⟨(p3 13 (by decide)).trans ((o3 13 (by decide)).trans hM.2.2.2.1), fun i hi => ⟨by rw [p2 66 (by decide) (by decide), o2 66 (by decide) (by decide)]; exact (hM.2.2.2.2 i hi).1, by rw [p2 67 (by decide) (by decide), o2 67 (by decide) (by decide)]; exact (hM.2.2.2.2 i hi).2.1, by rw [p2 68 (by decide) (by decide), o2 68 (by decide) (by decide)]; exact (hM.2.2.2.2 i hi).2.2.1, by rw [p2 69 (by decide) (by decide), o2 69 (by decide) (by decide)]; exact (hM.2.2.2.2 i hi).2.2.2, by rw [p5 i (by omega)]; have z := o4 h_81 i hi; rw [Nat.zero_add] at z; exact z.trans (congrArg (fun z => nI (dv t z)) (by omega)), (p4 h_91 i hi).trans (congrArg (fun z => nI (dv t z)) (by omega))⟩⟩⟩⟩
            · have hqb : 1 + 4 * c < b := by omega
              refine jg_aload_n dX4_readAll_41 rfl rfl ?_
              refine jg_getr fk_X4_16 sh_57 rfl dX4_readAll_42 ?_
              refine jg_aload_n dX4_readAll_45 rfl rfl ?_
              refine jg_geti fk_X4_89 sh_57 rfl dX4_readAll_46 ?_
              refine jg_top (y := nI (a + (1 + 4 * c))) (hxx.1) ?_
              refine jg_ld (a + (1 + 4 * c)) sh_60 (by omega) (rfl) dX4_readAll_49 ?_
              refine jg_top (y := t (1 + 4 * c)) (hxx.2 _ hqb) ?_
              refine jg_bipush (v := 59) dX4_readAll_50 (by decide) ?_
              refine jg_icmp_ne 75 dX4_readAll_52 (by decide) (fun h_52 => ?_) (fun h_52 => ?_)
              · have hs9 : sg t b (1 + 4 * c) 59 = false := sg_n2 h_52
                have en : nA t b = c := nA_at hc hok (fun _ => by simp [aOk, hs9])
                have hgo : aGo t b = true := by simp [aGo, en, hs9]; omega
                rw [← en] at hM hxx
                have h1 := aGo_1 hgo
                have f4 : x 57 6 = u 57 6 + nI (pE t b) := by rw [hM.2.2.1, e0]
                refine jg_aload_n dX4_readAll_75 rfl rfl ?_
                refine jg_iload_n dX4_readAll_76 rfl rfl ?_
                refine jg_iconst (v := 0) dX4_readAll_77 (by decide) ?_
                refine jg_callV (c4_readOrderNext E x t a b (1 + 4 * nA t b) hb (by omega) hxx (nA t b) 0 (by omega) h1 h6 hM.2.2.2.1) me_X4_readOrderNext ml_X4_122 sh_57 rfl rfl (by decide) (by decide) rfl (Nat.le_of_ble_eq_true rfl) dX4_readAll_78 (kk_I (fun r_78 u_78 h_78 => ?_))
                obtain ⟨rfl, o1, o2, o3, o5, o4⟩ := h_78
                have f4 : u_78 57 6 = u 57 6 + nI (pE t b) := (o3 6 (by decide)).trans f4
                have f5 : ∀ k, k ≠ 57 → k < 66 ∨ 70 < k → u_78 k = u k := fun k h1 h2 => (o2 k h1 (by omega)).trans (hM.1 k h1 (by omega))
                have f6 : ∀ j, j ≠ 6 → j ≠ 12 → j ≠ 13 → u_78 57 j = u 57 j := fun j j1 j2 j3 => (o3 j j2).trans (hM.2.1 j j1 j2 j3)
                refine jb_if_eq 106 dX4_readAll_81 (by decide) (fun h_81 => ?_) (fun h_81 => ?_)
                · have e9 : pF t b = (false, oAt t b (nA t b) (1 + 4 * nA t b)) := by unfold pF; rw [if_pos h_12, if_pos hgo, if_neg (by rw [h_81]; decide)]
                  have f3 := o1
                  refine jg_iconst (v := 0) dX4_readAll_106 (by decide) ?_
                  exact jg_iret (rfl) dX4_readAll_107 ⟨_, rfl, ⟨by rw [e9]; rfl, by rw [e9]; exact f3, f4, f5, f6, fun z => by rw [e9] at z; exact absurd (show false = true from z) (by decide)⟩⟩
                · rw [oK_at h_81, show 1 + 4 * nA t b + 1 + nA t b = 2 + 5 * nA t b by omega] at o1
                  have x3 : RY u_78 t a b (2 + 5 * nA t b) := ⟨o1, fun i hi => by rw [o2 60 (by decide) (by decide)]; exact hxx.2 i hi⟩
                  refine jg_aload_n dX4_readAll_84 rfl rfl ?_
                  refine jg_iload_n dX4_readAll_85 rfl rfl ?_
                  refine jg_bipush (v := 6) dX4_readAll_86 (by decide) ?_
                  refine jg_callV (c4_readOrderNext E u_78 t a b (2 + 5 * nA t b) hb (by omega) x3 (nA t b) 6 (by omega) h1 h6 ((o3 13 (by decide)).trans hM.2.2.2.1)) me_X4_readOrderNext ml_X4_122 sh_57 rfl rfl (by decide) (by decide) rfl (Nat.le_of_ble_eq_true rfl) dX4_readAll_88 (kk_I (fun r_88 u_88 h_88 => ?_))
                  obtain ⟨rfl, p1, p2, p3, p5, p4⟩ := h_88
                  have f4 : u_88 57 6 = u 57 6 + nI (pE t b) := (p3 6 (by decide)).trans f4
                  have f5 : ∀ k, k ≠ 57 → k < 66 ∨ 70 < k → u_88 k = u k := fun k h1 h2 => (p2 k h1 (by omega)).trans (f5 k h1 h2)
                  have f6 : ∀ j, j ≠ 6 → j ≠ 12 → j ≠ 13 → u_88 57 j = u 57 j := fun j j1 j2 j3 => (p3 j j2).trans (f6 j j1 j2 j3)
                  refine jb_if_eq 106 dX4_readAll_91 (by decide) (fun h_91 => ?_) (fun h_91 => ?_)
                  · have e9 : pF t b = (false, oAt t b (nA t b) (2 + 5 * nA t b)) := by unfold pF; rw [if_pos h_12, if_pos hgo, if_pos h_81, if_neg (by rw [h_91]; decide)]
                    have f3 := p1
                    refine jg_iconst (v := 0) dX4_readAll_106 (by decide) ?_
                    exact jg_iret (rfl) dX4_readAll_107 ⟨_, rfl, ⟨by rw [e9]; rfl, by rw [e9]; exact f3, f4, f5, f6, fun z => by rw [e9] at z; exact absurd (show false = true from z) (by decide)⟩⟩
                  · rw [oK_at h_91, show 2 + 5 * nA t b + 1 + nA t b = 3 + 6 * nA t b by omega] at p1
                    have e8 : pF t b = (decide (3 + 6 * nA t b = b), 3 + 6 * nA t b) := by unfold pF; rw [if_pos h_12, if_pos hgo, if_pos h_81, if_pos h_91]
                    refine jg_aload_n dX4_readAll_94 rfl rfl ?_
                    refine jg_geti fk_X4_89 sh_57 rfl dX4_readAll_95 ?_
                    refine jg_top (y := nI (a + (3 + 6 * nA t b))) (p1) ?_
                    refine jg_iload_n dX4_readAll_98 rfl rfl ?_
                    refine jn_icmp_ne (a + (3 + 6 * nA t b)) (a + b) rfl rfl (by omega) (by omega) 106 dX4_readAll_99 (by decide) (fun h_99 => ?_) (fun h_99 => ?_)
                    · have e9 : pF t b = (false, 3 + 6 * nA t b) := by rw [e8, decide_eq_false (by omega)]
                      have f3 := p1
                      refine jg_iconst (v := 0) dX4_readAll_106 (by decide) ?_
                      exact jg_iret (rfl) dX4_readAll_107 ⟨_, rfl, ⟨by rw [e9]; rfl, by rw [e9]; exact f3, f4, f5, f6, fun z => by rw [e9] at z; exact absurd (show false = true from z) (by decide)⟩⟩
                    · have e9 : pF t b = (true, 3 + 6 * nA t b) := by rw [e8, decide_eq_true (by omega)]
                      refine jg_iconst (v := 1) dX4_readAll_102 (by decide) ?_
                      refine jg_goto 107 dX4_readAll_103 (by decide) ?_
                      exact jg_iret (rfl) dX4_readAll_107 ⟨_, rfl, ⟨by rw [e9]; rfl, by rw [e9]; exact p1, f4, f5, f6, fun _ => ⟨(p3 13 (by decide)).trans ((o3 13 (by decide)).trans hM.2.2.2.1), fun i hi => ⟨by rw [p2 66 (by decide) (by decide), o2 66 (by decide) (by decide)]; exact (hM.2.2.2.2 i hi).1, by rw [p2 67 (by decide) (by decide), o2 67 (by decide) (by decide)]; exact (hM.2.2.2.2 i hi).2.1, by rw [p2 68 (by decide) (by decide), o2 68 (by decide) (by decide)]; exact (hM.2.2.2.2 i hi).2.2.1, by rw [p2 69 (by decide) (by decide), o2 69 (by decide) (by decide)]; exact (hM.2.2.2.2 i hi).2.2.2, by rw [p5 i (by omega)]; have z := o4 h_81 i hi; rw [Nat.zero_add] at z; exact z.trans (congrArg (fun z => nI (dv t z)) (by omega)), (p4 h_91 i hi).trans (congrArg (fun z => nI (dv t z)) (by omega))⟩⟩⟩⟩
              · have hcs : c = 0 ∨ sg t b (1 + 4 * c) 59 = true := Or.inr (sg_y hqb h_52)
                refine jg_aload_n dX4_readAll_55 rfl rfl ?_
                refine jg_iload_n dX4_readAll_56 rfl rfl ?_
                refine jg_bipush (v := 59) dX4_readAll_57 (by decide) ?_
                refine jg_callV (c4_isSign E x t a b (1 + 4 * c) hb (by omega) hxx 59) me_X4_isSign ml_X4_116 sh_57 rfl rfl (by decide) (by decide) rfl (Nat.le_of_ble_eq_true rfl) dX4_readAll_59 (kk_I (fun r_59 u_59 h_59 => ?_))
                obtain ⟨rfl, a2⟩ := h_59
                refine jb_if_eq 73 dX4_readAll_62 (by decide) (fun h_62 => ?_) (fun h_62 => ?_)
                · rw [if_neg (by rw [h_62]; decide)] at a2
                  have hc0 : c = 0 := by rcases hcs with z | z; exact z; (rw [h_62] at z; exact absurd z (by decide))
                  have en : nA t b = c := nA_at hc hok (fun _ => by simp [aOk, h_62])
                  have hM := hM.af a2
                  have e9 : pF t b = (false, 1 + 4 * c) := by unfold pF; rw [if_pos h_12, if_neg (by simp [aGo, en, hc0])]; simp [aAt, en, h_62]
                  have f3 := a2.2.2
                  rw [← en] at hM
                  have f4 : u_59 57 6 = u 57 6 + nI (pE t b) := by rw [hM.2.2.1, e0]
                  have f5 : ∀ k, k ≠ 57 → k < 66 ∨ 70 < k → u_59 k = u k := fun k h1 h2 => hM.1 k h1 (by omega)
                  have f6 : ∀ j, j ≠ 6 → j ≠ 12 → j ≠ 13 → u_59 57 j = u 57 j := fun j j1 j2 j3 => hM.2.1 j j1 j2 j3
                  refine jg_iconst (v := 0) dX4_readAll_73 (by decide) ?_
                  exact jg_iret (rfl) dX4_readAll_74 ⟨_, rfl, ⟨by rw [e9]; rfl, by rw [e9]; exact f3, f4, f5, f6, fun z => by rw [e9] at z; exact absurd (show false = true from z) (by decide)⟩⟩
                · rw [if_pos h_62] at a2
                  have hM := hM.af a2
                  have hxx := hxx.af a2
                  have hc5 : c < 6 := by rcases hcs with z | z <;> omega
                  refine jg_aload_n dX4_readAll_65 rfl rfl ?_
                  refine jg_iload_n dX4_readAll_66 rfl rfl ?_
                  refine jg_callV (c4_readArea E u_59 t a b (2 + 4 * c) hb (by omega) (by rw [show 2 + 4 * c = 1 + 4 * c + 1 by omega]; exact hxx) c hc5 hM.2.2.2.1) me_X4_readArea ml_X4_120 sh_57 rfl rfl (by decide) (by decide) rfl (Nat.le_of_ble_eq_true rfl) dX4_readAll_67 (kk_I (fun r_67 u_67 h_67 => ?_))
                  obtain ⟨rfl, a3, a4, a5⟩ := h_67
                  refine jb_if_ne 17 dX4_readAll_70 (by decide) (fun h_70 => ?_) (fun h_70 => ?_)
                  · have a4 := a4 h_70
                    have hM2 := hM.br a3 a4
                    exact ih (c + 1) _ (by omega) (by omega) (fun j h => by by_cases e : j = c; (subst e; simp [aOk, h_62, h_70]); exact hok j (by omega)) hM2 (by rw [show 1 + 4 * (c + 1) = 2 + 4 * c + 3 by omega]; exact ⟨a4.1, fun i hi => by rw [a3.1 60 (by decide) (by omega)]; exact hxx.2 i hi⟩)
                  · have a5 := a5 h_70
                    have en : nA t b = c := nA_at hc hok (fun _ => by simp [aOk, h_70])
                    have hM := hM.bad a3 a5
                    have e9 : pF t b = (false, aS t b (2 + 4 * c)) := by unfold pF; rw [if_pos h_12, if_neg (by simp [aGo, en, h_62]; omega)]; simp only [aAt, en]; rw [if_pos (by simp [h_62]; omega)]
                    have f3 := a5.1
                    rw [← en] at hM
                    have f4 : u_67 57 6 = u 57 6 + nI (pE t b) := by rw [hM.2.2.1, e0]
                    have f5 : ∀ k, k ≠ 57 → k < 66 ∨ 70 < k → u_67 k = u k := fun k h1 h2 => hM.1 k h1 (by omega)
                    have f6 : ∀ j, j ≠ 6 → j ≠ 12 → j ≠ 13 → u_67 57 j = u 57 j := fun j j1 j2 j3 => hM.2.1 j j1 j2 j3
                    refine jg_iconst (v := 0) dX4_readAll_73 (by decide) ?_
                    exact jg_iret (rfl) dX4_readAll_74 ⟨_, rfl, ⟨by rw [e9]; rfl, by rw [e9]; exact f3, f4, f5, f6, fun z => by rw [e9] at z; exact absurd (show false = true from z) (by decide)⟩⟩
    exact cut_17 7 0 u_9 (by omega) (by omega) (fun j h => by omega) hB0 x1
  · rw [if_neg (by rw [h_12]; decide)] at a1
    have e9 : pF t b = (false, 0) := by unfold pF; rw [if_neg (by rw [h_12]; decide)]
    have f3 := a1.2.2
    have f4 : u_9 57 6 = u 57 6 + nI (pE t b) := by rw [a1.2.1 6 (by decide), s2_ne (by decide), show pE t b = 0 from if_neg (by rw [h_12]; decide)]; exact (Int32.add_zero _).symm
    have f5 : ∀ k, k ≠ 57 → k < 66 ∨ 70 < k → u_9 k = u k := fun k h1 h2 => by rw [a1.1 k h1, s2_row h1]
    have f6 : ∀ j, j ≠ 6 → j ≠ 12 → j ≠ 13 → u_9 57 j = u 57 j := fun j j1 j2 j3 => by rw [a1.2.1 j j2, s2_ne j3]
    refine jg_iconst (v := 0) dX4_readAll_15 (by decide) ?_
    exact jg_iret (rfl) dX4_readAll_16 ⟨_, rfl, ⟨by rw [e9]; rfl, by rw [e9]; exact f3, f4, f5, f6, fun z => by rw [e9] at z; exact absurd (show false = true from z) (by decide)⟩⟩
theorem InvM.ev {u v : Mm} {g : Gh} {e : Int32} (h : InvM u g) (hr : ∀ k, k ≠ 57 → k < 66 ∨ 70 < k → v k = u k) (h0 : ∀ j, j ≠ 6 → j ≠ 12 → j ≠ 13 → v 57 j = u 57 j) (h4 : v 57 6 = e) : InvM v (g.1, g.2.1, e, g.2.2.2) := by
  obtain ⟨h1, h2, h3, h5, h6, h7, h8⟩ := h
  exact ⟨h1.rows (h0 5 (by decide) (by decide) (by decide)) (fun k hk => hr k (by omega) (by omega)), fun i hi => by rw [hr 64 (by decide) (by omega)]; exact h2 i hi, h4, fun k hk => (h5 k hk).rows (hr _ (by decide) (by omega)) (hr _ (by decide) (by omega)) (hr _ (by decide) (by omega)), ⟨by rw [h0 31 (by decide) (by decide) (by decide)]; exact h6.1, fun i hi => by rw [hr 78 (by decide) (by omega), hr 79 (by decide) (by omega)]; exact h6.2 i hi⟩, by rw [h0 1 (by decide) (by decide) (by decide)]; exact h7, by rw [h0 0 (by decide) (by decide) (by decide)]; exact h8⟩
theorem InvM.map {u v w : Mm} {g : Gh} {t : Nat → Int32} {a b : Nat} (h : InvM u g) (hk : TM u v t a b) (hok : (pF t b).1 = true) (hy : ∀ k, k < 61 ∨ 65 < k → w k = s2 v 57 5 (nI (nA t b)) k) (hc : ∀ q, q < nA t b → w 61 q = v 66 q ∧ w 62 q = v 67 q ∧ w 63 q = v 68 q ∧ w 64 q = v 69 q ∧ w 65 q = v 70 q ∧ w 65 (6 + q) = v 70 (6 + q)) : InvM (s2 w 57 31 0) (picT t (nA t b), (fun i => u 57 6 + nI (i + 1)), u 57 6 + nI (pE t b), g.2.2.2.1, (0, g.2.2.2.2.1.2), g.2.2.2.2.2.1, g.2.2.2.2.2.2) := by
  obtain ⟨-, -, -, y5, y6, y7, y8⟩ := h
  obtain ⟨k1, k2, k3, k4, k5⟩ := hk
  obtain ⟨k6, k7⟩ := k5 hok
  have f57 : ∀ j, j ≠ 31 → j ≠ 5 → s2 w 57 31 0 57 j = v 57 j := fun j h1 h2 => by rw [s2_ne h1, hy 57 (by omega), s2_ne h2]
  have fr : ∀ k, k = 58 ∨ k = 59 ∨ k = 60 → s2 w 57 31 0 k = u k := fun k hk => by rw [s2_row (by omega), hy k (by omega), s2_row (by omega)]; exact k3 k (by omega) (by omega)
  refine ⟨⟨by rw [s2_ne (by decide), hy 57 (by omega), s2_self]; rfl, fun i hi => ?_⟩, fun i hi => ?_, by rw [f57 6 (by decide) (by decide)]; exact k2, fun k hk => (y5 k hk).rows (fr _ (by omega)) (fr _ (by omega)) (fr _ (by omega)), ⟨s2_self _ _ _ _, fun i hi => absurd (show i < 0 from hi) (by omega)⟩, by rw [f57 1 (by decide) (by decide), k4 1 (by decide) (by decide) (by decide)]; exact y7, by rw [f57 0 (by decide) (by decide), k4 0 (by decide) (by decide) (by decide)]; exact y8⟩
  · obtain ⟨c1, c2, c3, c4, c5, c6⟩ := hc i hi
    obtain ⟨d1, d2, d3, d4, d5, d6⟩ := k7 i hi
    rw [s2_row (by decide), s2_row (by decide), s2_row (by decide), s2_row (by decide)]
    exact ⟨c1.trans d1, c2.trans d2, c3.trans d3, c5.trans d5, c6.trans d6⟩
  · rw [s2_row (by decide), (hc i hi).2.2.2.1]; exact (k7 i hi).2.2.2.1
set_option maxHeartbeats 4000000 in
set_option maxRecDepth 20000 in
theorem d4_map (E : gT) (u : Mm) (g : Gh) (hO : Ok g) (hI : InvM u g) (k l i n : Int32) : Con E yX4_map cX4_map 8 (some .int) 4 [.ref (E.2.1 57), .int k, .int l, .int i, .int n] u (kI (fun r u2 => r = (fMap g k l i n).1 ∧ InvM u2 (fMap g k l i n).2 ∧ RF u u2)) := by
  have hn := hO.1.1
  refine Con.of (lv := [some (.ref (E.2.1 57)), some (.int k), some (.int l), some (.int i), some (.int n), none, none, none]) (by decide +kernel) (Nat.le_of_ble_eq_true rfl) rfl ?_
  refine jg_aload_n dX4_map_0 rfl rfl ?_
  refine jg_iconst (v := 0) dX4_map_1 (by decide) ?_
  refine jg_puti fp_X4_76 sh_57 rfl dX4_map_2 ?_
  refine jg_iload_n dX4_map_5 rfl rfl ?_
  refine jg_callS (c4_isSheet E (s2 u 57 0 0) k) me_X4_isSheet ml_X4_92 rfl (by decide) (by decide) rfl (Nat.le_of_ble_eq_true rfl) dX4_map_6 (kk_I (fun r_6 u_6 h_6 => ?_))
  obtain ⟨rfl, rfl⟩ := h_6
  refine jb_if_ne 14 dX4_map_9 (by decide) (fun h_9 => ?_) (fun h_9 => ?_)
  · obtain ⟨x, hx, rfl⟩ := in4 h_9
    have hs := shM_z hI hx 0
    obtain ⟨hl0, h60⟩ := hO.2.2.1 x hx
    refine jg_iload_n dX4_map_14 rfl rfl ?_
    refine jg_callS (c4_isSort E (s2 u 57 0 0) l) me_X4_isSort ml_X4_96 rfl (by decide) (by decide) rfl (Nat.le_of_ble_eq_true rfl) dX4_map_15 (kk_I (fun r_15 u_15 h_15 => ?_))
    obtain ⟨rfl, rfl⟩ := h_15
    refine jb_if_ne 24 dX4_map_18 (by decide) (fun h_18 => ?_) (fun h_18 => ?_)
    · refine jg_aload_n dX4_map_24 rfl rfl ?_
      refine jg_iload_n dX4_map_25 rfl rfl ?_
      refine jg_iload_n dX4_map_26 rfl rfl ?_
      refine jg_iload_n dX4_map_27 rfl rfl ?_
      refine jg_iload dX4_map_28 rfl ?_
      refine jg_callV (c4_against E (s2 u 57 0 0) x hx (g.2.2.2.1 x) hs hl0 l i n) me_X4_against ml_X4_99 sh_57 rfl rfl (by decide) (by decide) rfl (Nat.le_of_ble_eq_true rfl) dX4_map_30 (kk_I (fun r_30 u_30 h_30 => ?_))
      obtain ⟨rfl, rfl⟩ := h_30
      refine jg_istore dX4_map_33 (by decide) rfl ?_
      refine jg_iload dX4_map_35 rfl ?_
      refine jg_if_eq 47 dX4_map_37 (by decide) (fun h_37 => ?_) (fun h_37 => ?_)
      · obtain ⟨-, -, hcx⟩ := agF_hc h_37
        have hag := h_37
        obtain ⟨a, b, hab, rfl, rfl⟩ := hc_nat h60 hcx
        have e8 : fMap g (nI x) l (nI a) (nI b) = mapG g (tX (g.2.2.2.1 x) (nI a)) b := by unfold fMap shk; rw [if_pos h_9, if_pos h_18, cl_nI (show x < 2 ^ 31 by omega), if_pos hag, cl_nI (show b < 2 ^ 31 by omega)]
        refine jg_bipush (v := 60) dX4_map_47 (by decide) ?_
        refine jg_iload_n dX4_map_49 rfl rfl ?_
        refine jg_imulE (z := nI (60 * x)) dX4_map_50 (pk_mul 60 x) ?_
        refine jg_iload_n dX4_map_51 rfl rfl ?_
        refine jg_iaddE (z := nI ((60 * x) + a)) dX4_map_52 (nI_add (60 * x) a) ?_
        refine jg_istore dX4_map_53 (by decide) rfl ?_
        refine jg_aload_n dX4_map_55 rfl rfl ?_
        refine jg_iload dX4_map_56 rfl ?_
        refine jg_puti fp_X4_89 sh_57 rfl dX4_map_58 ?_
        refine jg_aload_n dX4_map_61 rfl rfl ?_
        refine jg_iload dX4_map_62 rfl ?_
        refine jg_iload dX4_map_64 rfl ?_
        refine jg_iaddE (z := nI (((60 * x) + a) + b)) dX4_map_66 (nI_add ((60 * x) + a) b) ?_
        refine jg_callV (c4_readAll E (s2 (s2 u 57 0 0) 57 12 (nI (60 * x + a))) (tX (g.2.2.2.1 x) (nI a)) (60 * x + a) b (by omega) ⟨s2_self _ _ _ _, fun q hq => by rw [s2_row (by decide), Nat.add_assoc, hs.2.2 _ (by omega)]; show _ = (g.2.2.2.1 x).2.2.2 (cl (nI a) + q); rw [cl_nI (show a < 2 ^ 31 by omega)]⟩) me_X4_readAll ml_X4_107 sh_57 rfl rfl (by decide) (by decide) rfl (Nat.le_of_ble_eq_true rfl) dX4_map_67 (kk_I (fun r_67 u_67 h_67 => ?_))
        obtain ⟨rfl, hTM⟩ := h_67
        have hle := pF_le (tX (g.2.2.2.1 x) (nI a)) b
        have hTZ := hTM
        have k4 : u_67 57 6 = g.2.2.1 + nI (pE (tX (g.2.2.2.1 x) (nI a)) b) := by rw [hTM.2.1, s2_ne (by decide), s2_ne (by decide), hI.2.2.1]
        have k5 := hTM.2.2.1
        have k6 := hTM.2.2.2.1
        refine jb_if_ne 84 dX4_map_70 (by decide) (fun h_70 => ?_) (fun h_70 => ?_)
        · have e9 : fMap g (nI x) l (nI a) (nI b) = (nI (nA (tX (g.2.2.2.1 x) (nI a)) b), (picT (tX (g.2.2.2.1 x) (nI a)) (nA (tX (g.2.2.2.1 x) (nI a)) b), (fun i => g.2.2.1 + nI (i + 1)), g.2.2.1 + nI (pE (tX (g.2.2.2.1 x) (nI a)) b), g.2.2.2.1, (0, g.2.2.2.2.1.2), g.2.2.2.2.2.1, 0)) := by rw [e8]; unfold mapG; rw [if_pos h_70]
          obtain ⟨k7, k8⟩ := hTM.2.2.2.2 h_70
          have h6 := nA_le (tX (g.2.2.2.1 x) (nI a)) b
          refine jg_aload_n dX4_map_84 rfl rfl ?_
          refine jg_aload_n dX4_map_85 rfl rfl ?_
          refine jg_geti fk_X4_110 sh_57 rfl dX4_map_86 ?_
          refine jg_top (y := nI (nA (tX (g.2.2.2.1 x) (nI a)) b)) (k7) ?_
          refine jg_puti fp_X4_86 sh_57 rfl dX4_map_89 ?_
          refine jg_iconst (v := 0) dX4_map_92 (by decide) ?_
          refine jg_istore dX4_map_93 (by decide) rfl ?_
          have cut_95 : ∀ (m c : Nat) (y : Mm), c ≤ nA (tX (g.2.2.2.1 x) (nI a)) b → nA (tX (g.2.2.2.1 x) (nI a)) b < c + m → (∀ k, k < 61 ∨ 65 < k → y k = s2 u_67 57 5 (nI (nA (tX (g.2.2.2.1 x) (nI a)) b)) k) → (∀ q, q < c → y 61 q = u_67 66 q ∧ y 62 q = u_67 67 q ∧ y 63 q = u_67 68 q ∧ y 64 q = u_67 69 q ∧ y 65 q = u_67 70 q ∧ y 65 (6 + q) = u_67 70 (6 + q)) → G E cX4_map 8 (yX4_map).cls (some .int) 4 (kI (fun r u2 => r = (fMap g (nI x) l (nI a) (nI b)).1 ∧ InvM u2 (fMap g (nI x) l (nI a) (nI b)).2 ∧ RF u u2)) 95 [some (.ref (E.2.1 57)), some (.int (nI x)), some (.int l), some (.int (nI a)), some (.int (nI b)), none, none, some (.int (nI c))] [] y := by
            intro m
            induction m with
            | zero => intro c y h1 h2; omega
            | succ m ih =>
              intro c y hc hm hy hcp
              refine jg_iload dX4_map_95 rfl ?_
              refine jg_aload_n dX4_map_97 rfl rfl ?_
              refine jg_geti fk_X4_86 sh_57 rfl dX4_map_98 ?_
              refine jg_top (y := nI (nA (tX (g.2.2.2.1 x) (nI a)) b)) (by rw [hy 57 (by omega), s2_self]) ?_
              refine jn_icmp_ge c (nA (tX (g.2.2.2.1 x) (nI a)) b) rfl rfl (by omega) (by omega) 200 dX4_map_101 (by decide) (fun h_101 => ?_) (fun h_101 => ?_)
              · obtain rfl : c = nA (tX (g.2.2.2.1 x) (nI a)) b := by omega
                refine jg_aload_n dX4_map_200 rfl rfl ?_
                refine jg_iconst (v := 0) dX4_map_201 (by decide) ?_
                refine jg_puti fp_X4_113 sh_57 rfl dX4_map_202 ?_
                refine jg_aload_n dX4_map_205 rfl rfl ?_
                refine jg_geti fk_X4_86 sh_57 rfl dX4_map_206 ?_
                refine jg_top (y := nI (nA (tX (g.2.2.2.1 x) (nI a)) b)) (by rw [s2_ne (by decide), hy 57 (by omega), s2_self]) ?_
                exact jg_iret (rfl) dX4_map_209 ⟨_, rfl, ⟨by rw [e9], by rw [e9]; have zz := InvM.map (g := wFt g 0) (u := (s2 (s2 u 57 0 0) 57 12 (nI (60 * x + a)))) (InvM.eq (hI.ft 0) (fun k hk => s2_row (by omega)) (fun j hj => s2_ne (by omega))) hTM h_70 hy hcp; rw [s2_ne (by decide), s2_ne (by decide), hI.2.2.1] at zz; exact zz, fun r hr => by rw [s2_row (by omega), hy r (by omega), s2_row (by omega), k5 r (by omega) (by omega), s2_row (by omega), s2_row (by omega)]⟩⟩
              · have hcn : c < nA (tX (g.2.2.2.1 x) (nI a)) b := by omega
                refine jg_aload_n dX4_map_104 rfl rfl ?_
                refine jg_getr fk_X4_19 sh_57 rfl dX4_map_105 ?_
                refine jg_iload dX4_map_108 rfl ?_
                refine jg_aload_n dX4_map_110 rfl rfl ?_
                refine jg_getr fk_X4_34 sh_57 rfl dX4_map_111 ?_
                refine jg_iload dX4_map_114 rfl ?_
                refine jg_ld c sh_66 (by omega) (rfl) dX4_map_116 ?_
                refine jg_st c sh_61 (by omega) (rfl) dX4_map_117 ?_
                refine jg_aload_n dX4_map_118 rfl rfl ?_
                refine jg_getr fk_X4_22 sh_57 rfl dX4_map_119 ?_
                refine jg_iload dX4_map_122 rfl ?_
                refine jg_aload_n dX4_map_124 rfl rfl ?_
                refine jg_getr fk_X4_37 sh_57 rfl dX4_map_125 ?_
                refine jg_iload dX4_map_128 rfl ?_
                refine jg_ld c sh_67 (by omega) (rfl) dX4_map_130 ?_
                refine jg_st c sh_62 (by omega) (rfl) dX4_map_131 ?_
                refine jg_aload_n dX4_map_132 rfl rfl ?_
                refine jg_getr fk_X4_25 sh_57 rfl dX4_map_133 ?_
                refine jg_iload dX4_map_136 rfl ?_
                refine jg_aload_n dX4_map_138 rfl rfl ?_
                refine jg_getr fk_X4_40 sh_57 rfl dX4_map_139 ?_
                refine jg_iload dX4_map_142 rfl ?_
                refine jg_ld c sh_68 (by omega) (rfl) dX4_map_144 ?_
                refine jg_st c sh_63 (by omega) (rfl) dX4_map_145 ?_
                refine jg_aload_n dX4_map_146 rfl rfl ?_
                refine jg_getr fk_X4_28 sh_57 rfl dX4_map_147 ?_
                refine jg_iload dX4_map_150 rfl ?_
                refine jg_aload_n dX4_map_152 rfl rfl ?_
                refine jg_getr fk_X4_43 sh_57 rfl dX4_map_153 ?_
                refine jg_iload dX4_map_156 rfl ?_
                refine jg_ld c sh_69 (by omega) (rfl) dX4_map_158 ?_
                refine jg_st c sh_64 (by omega) (rfl) dX4_map_159 ?_
                refine jg_aload_n dX4_map_160 rfl rfl ?_
                refine jg_getr fk_X4_31 sh_57 rfl dX4_map_161 ?_
                refine jg_iload dX4_map_164 rfl ?_
                refine jg_aload_n dX4_map_166 rfl rfl ?_
                refine jg_getr fk_X4_46 sh_57 rfl dX4_map_167 ?_
                refine jg_iload dX4_map_170 rfl ?_
                refine jg_ld c sh_70 (by omega) (rfl) dX4_map_172 ?_
                refine jg_st c sh_65 (by omega) (rfl) dX4_map_173 ?_
                refine jg_aload_n dX4_map_174 rfl rfl ?_
                refine jg_getr fk_X4_31 sh_57 rfl dX4_map_175 ?_
                refine jg_bipush (v := 6) dX4_map_178 (by decide) ?_
                refine jg_iload dX4_map_180 rfl ?_
                refine jg_iaddE (z := nI (6 + c)) dX4_map_182 (nI_add 6 c) ?_
                refine jg_aload_n dX4_map_183 rfl rfl ?_
                refine jg_getr fk_X4_46 sh_57 rfl dX4_map_184 ?_
                refine jg_bipush (v := 6) dX4_map_187 (by decide) ?_
                refine jg_iload dX4_map_189 rfl ?_
                refine jg_iaddE (z := nI (6 + c)) dX4_map_191 (nI_add 6 c) ?_
                refine jg_ld (6 + c) sh_70 (by omega) (rfl) dX4_map_192 ?_
                refine jg_st (6 + c) sh_65 (by omega) (rfl) dX4_map_193 ?_
                refine jg_iinc (v := nI (c + 1)) dX4_map_194 rfl (nI_1 c) (by decide) rfl ?_
                refine jg_goto 95 dX4_map_197 (by decide) ?_
                have y66 := hy 66 (by omega)
                have y67 := hy 67 (by omega)
                have y68 := hy 68 (by omega)
                have y69 := hy 69 (by omega)
                have y70 := hy 70 (by omega)
                rw [s2_row (by decide)] at y66 y67 y68 y69 y70
                exact ih (c + 1) _ (by omega) (by omega) (fun k h => by rw [s2_row (by omega), s2_row (by omega), s2_row (by omega), s2_row (by omega), s2_row (by omega), s2_row (by omega)]; exact hy k h) (fun q h => by simp only [s2_row (show (61 : Nat) ≠ 65 by decide), s2_row (show (61 : Nat) ≠ 64 by decide), s2_row (show (61 : Nat) ≠ 63 by decide), s2_row (show (61 : Nat) ≠ 62 by decide), s2_row (show (62 : Nat) ≠ 65 by decide), s2_row (show (62 : Nat) ≠ 64 by decide), s2_row (show (62 : Nat) ≠ 63 by decide), s2_row (show (62 : Nat) ≠ 61 by decide), s2_row (show (63 : Nat) ≠ 65 by decide), s2_row (show (63 : Nat) ≠ 64 by decide), s2_row (show (63 : Nat) ≠ 62 by decide), s2_row (show (63 : Nat) ≠ 61 by decide), s2_row (show (64 : Nat) ≠ 65 by decide), s2_row (show (64 : Nat) ≠ 63 by decide), s2_row (show (64 : Nat) ≠ 62 by decide), s2_row (show (64 : Nat) ≠ 61 by decide), s2_row (show (65 : Nat) ≠ 64 by decide), s2_row (show (65 : Nat) ≠ 63 by decide), s2_row (show (65 : Nat) ≠ 62 by decide), s2_row (show (65 : Nat) ≠ 61 by decide), s2_row (show (66 : Nat) ≠ 61 by decide), s2_row (show (67 : Nat) ≠ 61 by decide), s2_row (show (67 : Nat) ≠ 62 by decide), s2_row (show (68 : Nat) ≠ 61 by decide), s2_row (show (68 : Nat) ≠ 62 by decide), s2_row (show (68 : Nat) ≠ 63 by decide), s2_row (show (69 : Nat) ≠ 61 by decide), s2_row (show (69 : Nat) ≠ 62 by decide), s2_row (show (69 : Nat) ≠ 63 by decide), s2_row (show (69 : Nat) ≠ 64 by decide), s2_row (show (70 : Nat) ≠ 61 by decide), s2_row (show (70 : Nat) ≠ 62 by decide), s2_row (show (70 : Nat) ≠ 63 by decide), s2_row (show (70 : Nat) ≠ 64 by decide), s2_row (show (70 : Nat) ≠ 65 by decide), y66, y67, y68, y69, y70]; by_cases e : q = c; (subst e; exact ⟨s2_self _ _ _ _, s2_self _ _ _ _, s2_self _ _ _ _, s2_self _ _ _ _, by rw [s2_ne (by omega), s2_self], s2_self _ _ _ _⟩); (rw [s2_ne e, s2_ne e, s2_ne e, s2_ne e, s2_ne (by omega), s2_ne (by omega), s2_ne (by omega), s2_ne (by omega)]; exact hcp q (by omega)))
          exact jg_weak (gLe_s (gLe_s (gLe_s (gLe_s (gLe_s (gLe_n (gLe_n (gLe_s gLe_nil)))))))) (cut_95 (nA (tX (g.2.2.2.1 x) (nI a)) b + 1) 0 _ (by omega) (by omega) (fun _ _ => rfl) (fun q h => by omega))
        · have e9 : fMap g (nI x) l (nI a) (nI b) = (-100 - nI (pF (tX (g.2.2.2.1 x) (nI a)) b).2, (g.1, g.2.1, g.2.2.1 + nI (pE (tX (g.2.2.2.1 x) (nI a)) b), g.2.2.2.1, g.2.2.2.2.1, g.2.2.2.2.2.1, 0)) := by rw [e8]; unfold mapG; rw [if_neg (by rw [h_70]; decide)]
          refine jg_bipush (v := -100) dX4_map_73 (by decide) ?_
          refine jg_aload_n dX4_map_75 rfl rfl ?_
          refine jg_geti fk_X4_89 sh_57 rfl dX4_map_76 ?_
          refine jg_top (y := nI (60 * x + a + (pF (tX (g.2.2.2.1 x) (nI a)) b).2)) (hTM.1) ?_
          refine jg_iload dX4_map_79 rfl ?_
          refine jg_isubE (z := nI (pF (tX (g.2.2.2.1 x) (nI a)) b).2) dX4_map_81 (by rw [pk_sub (by omega)]; congr 1; omega) ?_
          refine jg_isub dX4_map_82 ?_
          exact jg_iret (rfl) dX4_map_83 ⟨_, rfl, ⟨by rw [e9], by rw [e9]; exact InvM.ev (g := wFt g 0) (u := s2 u 57 0 0) (hI.ft 0) (fun k h1 h2 => by rw [k5 k h1 h2, s2_row h1]) (fun j j1 j2 j3 => by rw [k6 j j1 j2 j3, s2_ne j2]) k4, fun r hr => by rw [k5 r (by omega) (by omega), s2_row (by omega), s2_row (by omega)]⟩⟩
      · have e9 : fMap g (nI x) l i n = (-10 - agF (g.2.2.2.1 x) l i n, wFt g (agF (g.2.2.2.1 x) l i n)) := by unfold fMap shk; rw [if_pos h_9, if_pos h_18, cl_nI (show x < 2 ^ 31 by omega), if_neg h_37]
        refine jg_aload_n dX4_map_40 rfl rfl ?_
        refine jg_iload dX4_map_41 rfl ?_
        refine jg_callV (c4_fails E (s2 u 57 0 0) (agF (g.2.2.2.1 x) l i n)) me_X4_fails ml_X4_103 sh_57 rfl rfl (by decide) (by decide) rfl (Nat.le_of_ble_eq_true rfl) dX4_map_43 (kk_I (fun r_43 u_43 h_43 => ?_))
        obtain ⟨rfl, rfl⟩ := h_43
        rw [s2_s2]
        exact jg_iret (rfl) dX4_map_46 ⟨_, rfl, ⟨by rw [e9], by rw [e9]; exact hI.ft _, RF.rf.put (by omega)⟩⟩
    · refine jg_bipush (v := -2) dX4_map_21 (by decide) ?_
      have e9 : fMap g (nI x) l i n = (-2, wFt g 0) := by unfold fMap; rw [if_pos h_9, if_neg (by rw [h_18]; decide)]
      exact jg_iret (rfl) dX4_map_23 ⟨_, rfl, ⟨by rw [e9] <;> rfl, by rw [e9]; exact hI.ft 0, RF.rf.put (by omega)⟩⟩
  · refine jg_iconst (v := -1) dX4_map_12 (by decide) ?_
    have e9 : fMap g k l i n = (-1, wFt g 0) := by unfold fMap; rw [if_neg (by rw [h_9]; decide)]
    exact jg_iret (rfl) dX4_map_13 ⟨_, rfl, ⟨by rw [e9] <;> rfl, by rw [e9]; exact hI.ft 0, RF.rf.put (by omega)⟩⟩
