/-- what looking for the least may change of the reference -/
def LR (u v : Mm) : Prop := (∀ k, k ≠ 57 → k ≠ 65 → k ≠ 71 → k ≠ 72 → k ≠ 73 → k ≠ 76 → k ≠ 77 → v k = u k) ∧ (∀ j, j ≠ 22 → j ≠ 23 → j ≠ 28 → j ≠ 29 → j ≠ 30 → v 57 j = u 57 j) ∧ ∀ x, x < 6 → v 65 x = u 65 x
theorem LR.rf {u : Mm} : LR u u := ⟨fun _ _ _ _ _ _ _ _ => rfl, fun _ _ _ _ _ _ => rfl, fun _ _ => rfl⟩
theorem LR.tr {u v w : Mm} (h : LR u v) (h2 : LR v w) : LR u w := ⟨fun k a b c d e f g => (h2.1 k a b c d e f g).trans (h.1 k a b c d e f g), fun j a b c d e => (h2.2.1 j a b c d e).trans (h.2.1 j a b c d e), fun x hx => (h2.2.2 x hx).trans (h.2.2 x hx)⟩
theorem MF.lr {u v : Mm} (h : MF u v) : LR u v := ⟨fun k a b c d e f g => h.1 k a c d e, fun j a b c d e => h.2 j a b, fun x hx => by rw [h.1 65 (by decide) (by decide) (by decide) (by decide)]⟩
theorem LR.fld {u v : Mm} {j : Nat} {x : Int32} (h : LR u v) (hj : j = 28 ∨ j = 29 ∨ j = 30) : LR u (s2 v 57 j x) := ⟨fun k a b c d e f g => by rw [s2_row a]; exact h.1 k a b c d e f g, fun i a b c d e => by rw [s2_ne (by omega)]; exact h.2.1 i a b c d e, fun y hy => by rw [s2_row (by decide)]; exact h.2.2 y hy⟩
theorem LR.row {u v : Mm} {k j : Nat} {x : Int32} (h : LR u v) (hk : k = 76 ∨ k = 77) : LR u (s2 v k j x) := ⟨fun a h1 h2 h3 h4 h5 h6 h7 => by rw [s2_row (by omega)]; exact h.1 a h1 h2 h3 h4 h5 h6 h7, fun i a b c d e => by rw [s2_row (by omega)]; exact h.2.1 i a b c d e, fun y hy => by rw [s2_row (by omega)]; exact h.2.2 y hy⟩
theorem LR.ord {u v : Mm} {j : Nat} {x : Int32} (h : LR u v) (hj : 6 ≤ j) : LR u (s2 v 65 j x) := ⟨fun a h1 h2 h3 h4 h5 h6 h7 => by rw [s2_row h2]; exact h.1 a h1 h2 h3 h4 h5 h6 h7, fun i a b c d e => by rw [s2_row (by decide)]; exact h.2.1 i a b c d e, fun y hy => by rw [s2_ne (by omega)]; exact h.2.2 y hy⟩
theorem LR.rf2 {u v : Mm} (h : LR u v) : RF u v := fun k hk => h.1 k (by omega) (by omega) (by omega) (by omega) (by omega) (by omega) (by omega)
theorem MdB.lr {u v : Mm} {p : Pic} {o : Nat → Nat} (h : MdB u p) (f : LR u v) (hn : pn p ≤ 6) (ho : ∀ x, x < pn p → v 65 (6 + x) = nI (o x)) : MdB v (wO p o) := h.od7 (f.2.1 5 (by decide) (by decide) (by decide) (by decide) (by decide)) (fun k hk => f.1 k (by omega) (by omega) (by omega) (by omega) (by omega) (by omega) (by omega)) f.2.2 hn ho
theorem wO_same (p : Pic) : wO p (p 7) = p := by
  funext j
  unfold wO
  by_cases h : j = 7
  · rw [if_pos h, h]
  · rw [if_neg h]
theorem InvM.lr {u v : Mm} {g : Gh} (h : InvM u g) (f : LR u v) (hM : MdB v g.1) : InvM v g := by
  obtain ⟨-, h2, h3, h4, h5, h6, h7⟩ := h
  have f9 : ∀ k, k = 58 ∨ k = 59 ∨ k = 60 ∨ k = 64 ∨ k = 78 ∨ k = 79 → v k = u k := fun k hk => f.1 k (by omega) (by omega) (by omega) (by omega) (by omega) (by omega) (by omega)
  have f0 : ∀ j, j = 0 ∨ j = 1 ∨ j = 6 ∨ j = 31 → v 57 j = u 57 j := fun j hj => f.2.1 j (by omega) (by omega) (by omega) (by omega) (by omega)
  exact ⟨hM, fun i hi => by rw [f9 64 (by omega)]; exact h2 i hi, (f0 6 (by omega)).trans h3, fun k hk => (h4 k hk).rows (f9 _ (by omega)) (f9 _ (by omega)) (f9 _ (by omega)), ⟨(f0 31 (by omega)).trans h5.1, fun i hi => by rw [f9 78 (by omega), f9 79 (by omega)]; exact h5.2 i hi⟩, (f0 1 (by omega)).trans h6, (f0 0 (by omega)).trans h7⟩
set_option maxHeartbeats 4000000 in
set_option maxRecDepth 20000 in
theorem c4_findLeast (E : gT) (u : Mm) (p : Pic) (hp : PicOk p) (h1 : 1 ≤ pn p) (h1w : ∀ a, a < pn p → 1 ≤ p 3 a) (hM : MdB u p) (w : Nat) (hw : w ≤ 9999) : Con E yX4_findLeast cX4_findLeast 4 none 3 [.ref (E.2.1 57), .int (nI w)] u (kV (fun u2 => LR u u2 ∧ MdB u2 p ∧ u2 57 28 = lsI p (fcN (pn p)) ∧ u2 57 29 = nI (fcN (pn p)) ∧ u2 57 30 = nI (smF p w (fcN (pn p))) ∧ ∀ i, i < pn p → u2 77 i = nI (od (pn p) (biF p (fcN (pn p))) i))) := by
  have hn := hp.1
  have hT := fc_pos (pn p) (by omega)
  refine Con.of (lv := [some (.ref (E.2.1 57)), some (.int (nI w)), none, none]) (by decide +kernel) (Nat.le_of_ble_eq_true rfl) rfl ?_
  refine jg_iconst (v := 0) dX4_findLeast_0 (by decide) ?_
  refine jg_istore_n dX4_findLeast_1 rfl (by decide) rfl ?_
  have cut_2 : ∀ (m i : Nat) (x : Mm), i ≤ pn p → pn p < i + m → LR u x → x 57 = u 57 → (∀ q, q < i → x 76 q = nI (p 7 q) ∧ x 65 (6 + q) = nI q) → (∀ q, i ≤ q → q < pn p → x 65 (6 + q) = u 65 (6 + q)) → G E cX4_findLeast 4 (yX4_findLeast).cls none 3 (kV (fun u2 => LR u u2 ∧ MdB u2 p ∧ u2 57 28 = lsI p (fcN (pn p)) ∧ u2 57 29 = nI (fcN (pn p)) ∧ u2 57 30 = nI (smF p w (fcN (pn p))) ∧ ∀ i, i < pn p → u2 77 i = nI (od (pn p) (biF p (fcN (pn p))) i))) 2 [some (.ref (E.2.1 57)), some (.int (nI w)), some (.int (nI i)), none] [] x := by
    intro m
    induction m with
    | zero => intro i x h1 h2; omega
    | succ m ih =>
      intro i x hi hm hLR h57 hk h65o
      refine jg_iload_n dX4_findLeast_2 rfl rfl ?_
      refine jg_aload_n dX4_findLeast_3 rfl rfl ?_
      refine jg_geti fk_X4_86 sh_57 rfl dX4_findLeast_4 ?_
      refine jg_top (y := nI (pn p)) (by rw [h57]; exact hM.1) ?_
      refine jn_icmp_ge i (pn p) rfl rfl (by omega) (by omega) 41 dX4_findLeast_7 (by decide) (fun h_7 => ?_) (fun h_7 => ?_)
      · obtain rfl : i = pn p := by omega
        refine jg_aload_n dX4_findLeast_41 rfl rfl ?_
        refine jg_bipush (v := -9) dX4_findLeast_42 (by decide) ?_
        refine jg_puti fp_X4_217 sh_57 rfl dX4_findLeast_44 ?_
        refine jg_aload_n dX4_findLeast_47 rfl rfl ?_
        refine jg_iconst (v := 0) dX4_findLeast_48 (by decide) ?_
        refine jg_puti fp_X4_220 sh_57 rfl dX4_findLeast_49 ?_
        refine jg_aload_n dX4_findLeast_52 rfl rfl ?_
        refine jg_iconst (v := 0) dX4_findLeast_53 (by decide) ?_
        refine jg_puti fp_X4_223 sh_57 rfl dX4_findLeast_54 ?_
        refine jg_iconst (v := 1) dX4_findLeast_57 (by decide) ?_
        refine jg_istore_n dX4_findLeast_58 rfl (by decide) rfl ?_
        have cut_59 : ∀ (m t : Nat) (x : Mm), t ≤ fcN (pn p) → fcN (pn p) < t + m → LR u x → (∀ q, q < pn p → x 76 q = nI (p 7 q)) → MdB x (wO p (od (pn p) t)) → x 57 28 = lsI p t → x 57 29 = nI t → x 57 30 = nI (smF p w t) → (1 ≤ t → ∀ i, i < pn p → x 77 i = nI (od (pn p) (biF p t) i)) → G E cX4_findLeast 4 (yX4_findLeast).cls none 3 (kV (fun u2 => LR u u2 ∧ MdB u2 p ∧ u2 57 28 = lsI p (fcN (pn p)) ∧ u2 57 29 = nI (fcN (pn p)) ∧ u2 57 30 = nI (smF p w (fcN (pn p))) ∧ ∀ i, i < pn p → u2 77 i = nI (od (pn p) (biF p (fcN (pn p))) i))) 59 [some (.ref (E.2.1 57)), some (.int (nI w)), some (.int (bI (decide (t < fcN (pn p))))), none] [] x := by
          intro m
          induction m with
          | zero => intro t x h1 h2; omega
          | succ m ih2 =>
            intro t x ht hm hLR hk76 hB hls hall hsm hk77
            refine jg_iload_n dX4_findLeast_59 rfl rfl ?_
            refine jb_if_eq 181 dX4_findLeast_60 (by decide) (fun h_60 => ?_) (fun h_60 => ?_)
            · obtain rfl : t = fcN (pn p) := by have z := of_decide_eq_false h_60; omega
              refine jg_iconst (v := 0) dX4_findLeast_181 (by decide) ?_
              refine jg_istore_n dX4_findLeast_182 rfl (by decide) rfl ?_
              have cut_183 : ∀ (m i : Nat) (y : Mm), i ≤ pn p → pn p < i + m → LR u y → y 57 = x 57 → y 77 = x 77 → (∀ q, q < pn p → y 76 q = nI (p 7 q)) → (∀ q, q < i → y 65 (6 + q) = nI (p 7 q)) → G E cX4_findLeast 4 (yX4_findLeast).cls none 3 (kV (fun u2 => LR u u2 ∧ MdB u2 p ∧ u2 57 28 = lsI p (fcN (pn p)) ∧ u2 57 29 = nI (fcN (pn p)) ∧ u2 57 30 = nI (smF p w (fcN (pn p))) ∧ ∀ i, i < pn p → u2 77 i = nI (od (pn p) (biF p (fcN (pn p))) i))) 183 [some (.ref (E.2.1 57)), some (.int (nI w)), none, some (.int (nI i))] [] y := by
                intro m
                induction m with
                | zero => intro i y h1 h2; omega
                | succ m ih4 =>
                  intro i y hi hm4 yL y57 y77 y76 yo
                  refine jg_iload_n dX4_findLeast_183 rfl rfl ?_
                  refine jg_aload_n dX4_findLeast_184 rfl rfl ?_
                  refine jg_geti fk_X4_86 sh_57 rfl dX4_findLeast_185 ?_
                  refine jg_top (y := nI (pn p)) ((yL.2.1 5 (by decide) (by decide) (by decide) (by decide) (by decide)).trans hM.1) ?_
                  refine jn_icmp_ge i (pn p) rfl rfl (by omega) (by omega) 212 dX4_findLeast_188 (by decide) (fun h_188 => ?_) (fun h_188 => ?_)
                  · obtain rfl : i = pn p := by omega
                    exact jg_vret dX4_findLeast_212 ⟨rfl, ⟨yL, by have z := hM.lr yL hn (o := p 7) (fun q hq => yo q hq); rw [wO_same] at z; exact z, by rw [y57]; exact hls, by rw [y57]; exact hall, by rw [y57]; exact hsm, fun q hq => by rw [y77]; exact hk77 (by have := (fc_pos (pn p) (by omega)).1; omega) q hq⟩⟩
                  · refine jg_aload_n dX4_findLeast_191 rfl rfl ?_
                    refine jg_getr fk_X4_31 sh_57 rfl dX4_findLeast_192 ?_
                    refine jg_bipush (v := 6) dX4_findLeast_195 (by decide) ?_
                    refine jg_iload_n dX4_findLeast_197 rfl rfl ?_
                    refine jg_iaddE (z := nI (6 + i)) dX4_findLeast_198 (nI_add 6 i) ?_
                    refine jg_aload_n dX4_findLeast_199 rfl rfl ?_
                    refine jg_getr fk_X4_64 sh_57 rfl dX4_findLeast_200 ?_
                    refine jg_iload_n dX4_findLeast_203 rfl rfl ?_
                    refine jg_ld i sh_76 (by omega) (rfl) dX4_findLeast_204 ?_
                    refine jg_top (y := nI (p 7 i)) (y76 i h_188) ?_
                    refine jg_st (6 + i) sh_65 (by omega) (rfl) dX4_findLeast_205 ?_
                    refine jg_iinc (v := nI (i + 1)) dX4_findLeast_206 rfl (nI_1 i) (by decide) rfl ?_
                    refine jg_goto 183 dX4_findLeast_209 (by decide) ?_
                    exact ih4 (i + 1) _ (by omega) (by omega) (yL.ord (by omega)) (by rw [s2_row (by decide)]; exact y57) (by rw [s2_row (by decide)]; exact y77) (fun q hq => by rw [s2_row (by decide)]; exact y76 q hq) (fun q h => by by_cases e : q = i; (subst e; exact s2_self _ _ _ _); (rw [s2_ne (by omega)]; exact yo q (by omega)))
              exact jg_weak (gLe_s (gLe_s (gLe_n (gLe_s gLe_nil)))) (cut_183 (pn p + 1) 0 x (by omega) (by omega) hLR rfl rfl hk76 (fun q h => by omega))
            · have htT := of_decide_eq_true h_60
              have ba := arF_le hp t
              have bb := arF_le hp (biF p t)
              have bs := sm_le p w t
              refine jg_aload_n dX4_findLeast_63 rfl rfl ?_
              refine jg_callV (c4_findPlaces E x (wO p (od (pn p) t)) (wO_ok hp (od_pm _ t)) hB (fun a ha => h1w a ha)) me_X4_findPlaces ml_X4_164 sh_57 rfl rfl (by decide) (by decide) rfl (Nat.le_of_ble_eq_true rfl) dX4_findLeast_64 (kk_V (fun u_64 h_64 => ?_))
              obtain ⟨hF, hX⟩ := h_64
              refine jg_aload_n dX4_findLeast_67 rfl rfl ?_
              refine jg_dup dX4_findLeast_68 rfl ?_
              refine jg_geti fk_X4_220 sh_57 rfl dX4_findLeast_69 ?_
              refine jg_top (y := nI t) ((hF.2 29 (by decide) (by decide)).trans hall) ?_
              refine jg_iconst (v := 1) dX4_findLeast_72 (by decide) ?_
              refine jg_iaddE (z := nI (t + 1)) dX4_findLeast_73 (nI_add t 1) ?_
              refine jg_puti fp_X4_220 sh_57 rfl dX4_findLeast_74 ?_
              refine jg_aload_n dX4_findLeast_77 rfl rfl ?_
              refine jg_dup dX4_findLeast_78 rfl ?_
              refine jg_geti fk_X4_223 sh_57 rfl dX4_findLeast_79 ?_
              refine jg_top (y := nI (smF p w t)) (by rw [s2_ne (by decide), hF.2 30 (by decide) (by decide)]; exact hsm) ?_
              refine jg_aload_n dX4_findLeast_82 rfl rfl ?_
              refine jg_geti fk_X4_136 sh_57 rfl dX4_findLeast_83 ?_
              refine jg_top (y := nI (brP (wO p (od (pn p) t)))) (by rw [s2_ne (by decide)]; exact hX.2.1) ?_
              refine jg_aload_n dX4_findLeast_86 rfl rfl ?_
              refine jg_geti fk_X4_139 sh_57 rfl dX4_findLeast_87 ?_
              refine jg_top (y := nI (dpP (wO p (od (pn p) t)))) (by rw [s2_ne (by decide)]; exact hX.2.2) ?_
              refine jg_imulE (z := nI (arF p t)) dX4_findLeast_90 (pk_mul _ _) ?_
              refine jg_iload_n dX4_findLeast_91 rfl rfl ?_
              refine jn_icmp_gt (arF p t) w rfl rfl (by omega) (by omega) 99 dX4_findLeast_92 (by decide) (fun h_92 => ?_) (fun h_92 => ?_)
              · have eF : smF p w (t + 1) = smF p w t + 0 := by show _ + (if _ then 1 else 0) = _; rw [if_neg (by omega)]
                refine jg_iconst (v := 0) dX4_findLeast_99 (by decide) ?_
                refine jg_iaddE (z := nI (smF p w (t + 1))) dX4_findLeast_100 ((nI_add (smF p w t) 0).trans (congrArg nI eF.symm)) ?_
                refine jg_puti fp_X4_223 sh_57 rfl dX4_findLeast_101 ?_
                obtain ⟨v1, hv1⟩ : ∃ z, z = s2 (s2 u_64 57 29 (nI (t + 1))) 57 30 (nI (smF p w (t + 1))) := ⟨_, rfl⟩
                rw [← hv1]
                have hr1 : ∀ k, k ≠ 57 → v1 k = u_64 k := fun k hk => by rw [hv1, s2_row hk, s2_row hk]
                have hf1 : ∀ j, j ≠ 29 → j ≠ 30 → v1 57 j = u_64 57 j := fun j a b => by rw [hv1, s2_ne b, s2_ne a]
                have hLR1 : LR u v1 := by rw [hv1]; exact ((hLR.tr hF.lr).fld (by omega)).fld (by omega)
                have h29 : v1 57 29 = nI (t + 1) := by rw [hv1, s2_ne (by decide), s2_self]
                have h30 : v1 57 30 = nI (smF p w (t + 1)) := by rw [hv1, s2_self]
                have h65 : ∀ z, z < pn p → v1 65 (6 + z) = nI (od (pn p) t z) := fun z hz => by rw [hr1 65 (by decide), hF.1 65 (by decide) (by decide) (by decide) (by decide)]; exact (hB.2 z hz).2.2.2.2
                have h76 : ∀ z, z < pn p → v1 76 z = nI (p 7 z) := fun z hz => by rw [hr1 76 (by decide), hF.1 76 (by decide) (by decide) (by decide) (by decide)]; exact hk76 z hz
                have h77 : 1 ≤ t → ∀ z, z < pn p → v1 77 z = nI (od (pn p) (biF p t) z) := fun q z hz => by rw [hr1 77 (by decide), hF.1 77 (by decide) (by decide) (by decide) (by decide)]; exact hk77 q z hz
                have h28 : v1 57 28 = lsI p t := by rw [hf1 28 (by decide) (by decide), hF.2 28 (by decide) (by decide)]; exact hls
                refine jg_aload_n dX4_findLeast_104 rfl rfl ?_
                refine jg_geti fk_X4_217 sh_57 rfl dX4_findLeast_105 ?_
                refine jg_top (y := lsI p t) (h28) ?_
                refine jg_bipush (v := -9) dX4_findLeast_108 (by decide) ?_
                refine jg_icmp_eq 129 dX4_findLeast_110 (by decide) (fun h_110 => ?_) (fun h_110 => ?_)
                · have hup : t = 0 ∨ arF p t < arF p (biF p t) := by rcases Nat.eq_zero_or_pos t with z | z; exact Or.inl z; (rw [ls_at z] at h_110; exact absurd h_110 (oI_ne (by decide) (by omega)))
                  refine jg_aload_n dX4_findLeast_129 rfl rfl ?_
                  refine jg_aload_n dX4_findLeast_130 rfl rfl ?_
                  refine jg_geti fk_X4_136 sh_57 rfl dX4_findLeast_131 ?_
                  refine jg_top (y := nI (brP (wO p (od (pn p) t)))) (by rw [hf1 22 (by decide) (by decide)]; exact hX.2.1) ?_
                  refine jg_aload_n dX4_findLeast_134 rfl rfl ?_
                  refine jg_geti fk_X4_139 sh_57 rfl dX4_findLeast_135 ?_
                  refine jg_top (y := nI (dpP (wO p (od (pn p) t)))) (by rw [hf1 23 (by decide) (by decide)]; exact hX.2.2) ?_
                  refine jg_imulE (z := nI (arF p t)) dX4_findLeast_138 (pk_mul _ _) ?_
                  refine jg_puti fp_X4_217 sh_57 rfl dX4_findLeast_139 ?_
                  refine jg_iconst (v := 0) dX4_findLeast_142 (by decide) ?_
                  refine jg_istore_n dX4_findLeast_143 rfl (by decide) rfl ?_
                  have cut_144 : ∀ (m i : Nat) (y : Mm), i ≤ pn p → pn p < i + m → (∀ k, k ≠ 77 → y k = s2 v1 57 28 (nI (arF p t)) k) → (∀ q, q < i → y 77 q = nI (od (pn p) t q)) → G E cX4_findLeast 4 (yX4_findLeast).cls none 3 (kV (fun u2 => LR u u2 ∧ MdB u2 p ∧ u2 57 28 = lsI p (fcN (pn p)) ∧ u2 57 29 = nI (fcN (pn p)) ∧ u2 57 30 = nI (smF p w (fcN (pn p))) ∧ ∀ i, i < pn p → u2 77 i = nI (od (pn p) (biF p (fcN (pn p))) i))) 144 [some (.ref (E.2.1 57)), some (.int (nI w)), none, some (.int (nI i))] [] y := by
                    intro m
                    induction m with
                    | zero => intro i y h1 h2; omega
                    | succ m ih3 =>
                      intro i y hi hm3 hy hbo
                      refine jg_iload_n dX4_findLeast_144 rfl rfl ?_
                      refine jg_aload_n dX4_findLeast_145 rfl rfl ?_
                      refine jg_geti fk_X4_86 sh_57 rfl dX4_findLeast_146 ?_
                      refine jg_top (y := nI (pn p)) (by rw [hy 57 (by decide), s2_ne (by decide)]; exact (hLR1.2.1 5 (by decide) (by decide) (by decide) (by decide) (by decide)).trans hM.1) ?_
                      refine jn_icmp_ge i (pn p) rfl rfl (by omega) (by omega) 173 dX4_findLeast_149 (by decide) (fun h_149 => ?_) (fun h_149 => ?_)
                      · obtain rfl : i = pn p := by omega
                        have yLR : LR u y := ⟨fun k a b c d e f g => by rw [hy k g, s2_row a]; exact hLR1.1 k a b c d e f g, fun j a b c d e => by rw [hy 57 (by decide), s2_ne c]; exact hLR1.2.1 j a b c d e, fun z hz => by rw [hy 65 (by decide), s2_row (by decide)]; exact hLR1.2.2 z hz⟩
                        have y65 : ∀ z, z < pn p → y 65 (6 + z) = nI (od (pn p) t z) := fun z hz => by rw [hy 65 (by decide), s2_row (by decide)]; exact h65 z hz
                        have y76 : ∀ z, z < pn p → y 76 z = nI (p 7 z) := fun z hz => by rw [hy 76 (by decide), s2_row (by decide)]; exact h76 z hz
                        have y28 : y 57 28 = lsI p (t + 1) := by rw [hy 57 (by decide), s2_self, ls_at (show 1 ≤ t + 1 by omega), bi_new hup]
                        have y29 : y 57 29 = nI (t + 1) := by rw [hy 57 (by decide), s2_ne (by decide)]; exact h29
                        have y30 : y 57 30 = nI (smF p w (t + 1)) := by rw [hy 57 (by decide), s2_ne (by decide)]; exact h30
                        have y77 : ∀ z, z < pn p → y 77 z = nI (od (pn p) (biF p (t + 1)) z) := fun z hz => by rw [bi_new hup]; exact hbo z hz
                        refine jg_aload_n dX4_findLeast_173 rfl rfl ?_
                        refine jg_callV (c4_goesOn E y (pn p) (od (pn p) t) h1 hn ((yLR.2.1 5 (by decide) (by decide) (by decide) (by decide) (by decide)).trans hM.1) y65 (fun z hz => by have := (od_pm (pn p) t).1 z hz; omega)) me_X4_goesOn ml_X4_226 sh_57 rfl rfl (by decide) (by decide) rfl (Nat.le_of_ble_eq_true rfl) dX4_findLeast_174 (kk_I (fun r_174 u_174 h_174 => ?_))
                        obtain ⟨rfl, g1, g2, g3⟩ := h_174
                        refine jg_top (y := bI (decide (t + 1 < fcN (pn p)))) (congrArg bI (od_last h1 hn t htT)) ?_
                        refine jg_istore_n dX4_findLeast_177 rfl (by decide) rfl ?_
                        refine jg_goto 59 dX4_findLeast_178 (by decide) ?_
                        exact jg_weak (gLe_s (gLe_s (gLe_s (gLe_n gLe_nil)))) (ih2 (t + 1) _ (by omega) (by omega) ⟨fun k a b c d e f g => by rw [g1 k b]; exact yLR.1 k a b c d e f g, fun j a b c d e => by rw [g1 57 (by decide)]; exact yLR.2.1 j a b c d e, fun z hz => by rw [g2 z hz]; exact yLR.2.2 z hz⟩ (fun q hq => by rw [g1 76 (by decide)]; exact y76 q hq) (hM.lr ⟨fun k a b c d e f g => by rw [g1 k b]; exact yLR.1 k a b c d e f g, fun j a b c d e => by rw [g1 57 (by decide)]; exact yLR.2.1 j a b c d e, fun z hz => by rw [g2 z hz]; exact yLR.2.2 z hz⟩ hn (fun q hq => g3 q hq)) (by rw [g1 57 (by decide)]; exact y28) (by rw [g1 57 (by decide)]; exact y29) (by rw [g1 57 (by decide)]; exact y30) (fun _ i hi => by rw [g1 77 (by decide)]; exact y77 i hi))
                      · refine jg_aload_n dX4_findLeast_152 rfl rfl ?_
                        refine jg_getr fk_X4_67 sh_57 rfl dX4_findLeast_153 ?_
                        refine jg_iload_n dX4_findLeast_156 rfl rfl ?_
                        refine jg_aload_n dX4_findLeast_157 rfl rfl ?_
                        refine jg_getr fk_X4_31 sh_57 rfl dX4_findLeast_158 ?_
                        refine jg_bipush (v := 6) dX4_findLeast_161 (by decide) ?_
                        refine jg_iload_n dX4_findLeast_163 rfl rfl ?_
                        refine jg_iaddE (z := nI (6 + i)) dX4_findLeast_164 (nI_add 6 i) ?_
                        refine jg_ld (6 + i) sh_65 (by omega) (rfl) dX4_findLeast_165 ?_
                        refine jg_top (y := nI (od (pn p) t i)) (by rw [hy 65 (by decide), s2_row (by decide)]; exact h65 i h_149) ?_
                        refine jg_st i sh_77 (by omega) (rfl) dX4_findLeast_166 ?_
                        refine jg_iinc (v := nI (i + 1)) dX4_findLeast_167 rfl (nI_1 i) (by decide) rfl ?_
                        refine jg_goto 144 dX4_findLeast_170 (by decide) ?_
                        exact ih3 (i + 1) _ (by omega) (by omega) (fun k h => by rw [s2_row h]; exact hy k h) (fun q h => by by_cases e : q = i; (subst e; exact s2_self _ _ _ _); (rw [s2_ne e]; exact hbo q (by omega)))
                  exact jg_weak (gLe_s (gLe_s (gLe_n (gLe_s gLe_nil)))) (cut_144 (pn p + 1) 0 _ (by omega) (by omega) (fun _ _ => rfl) (fun q h => by omega))
                · have ht1 : 1 ≤ t := by rcases Nat.eq_zero_or_pos t with z | z; (subst z; exact absurd rfl h_110); exact z
                  refine jg_aload_n dX4_findLeast_113 rfl rfl ?_
                  refine jg_geti fk_X4_136 sh_57 rfl dX4_findLeast_114 ?_
                  refine jg_top (y := nI (brP (wO p (od (pn p) t)))) (by rw [hf1 22 (by decide) (by decide)]; exact hX.2.1) ?_
                  refine jg_aload_n dX4_findLeast_117 rfl rfl ?_
                  refine jg_geti fk_X4_139 sh_57 rfl dX4_findLeast_118 ?_
                  refine jg_top (y := nI (dpP (wO p (od (pn p) t)))) (by rw [hf1 23 (by decide) (by decide)]; exact hX.2.2) ?_
                  refine jg_imulE (z := nI (arF p t)) dX4_findLeast_121 (pk_mul _ _) ?_
                  refine jg_aload_n dX4_findLeast_122 rfl rfl ?_
                  refine jg_geti fk_X4_217 sh_57 rfl dX4_findLeast_123 ?_
                  refine jg_top (y := nI (arF p (biF p t))) (h28.trans (ls_at ht1)) ?_
                  refine jn_icmp_ge (arF p t) (arF p (biF p t)) rfl rfl (by omega) (by omega) 173 dX4_findLeast_126 (by decide) (fun h_126 => ?_) (fun h_126 => ?_)
                  · have hnu : ¬ (t = 0 ∨ arF p t < arF p (biF p t)) := by omega
                    have eL : lsI p (t + 1) = lsI p t := by rw [ls_at ht1, ls_at (show 1 ≤ t + 1 by omega), bi_old hnu]
                    obtain ⟨y, hy⟩ : ∃ z, z = v1 := ⟨_, rfl⟩
                    rw [← hy]
                    have yLR : LR u y := by rw [hy]; exact hLR1
                    have y65 : ∀ z, z < pn p → y 65 (6 + z) = nI (od (pn p) t z) := by rw [hy]; exact h65
                    have y76 : ∀ z, z < pn p → y 76 z = nI (p 7 z) := by rw [hy]; exact h76
                    have y28 : y 57 28 = lsI p (t + 1) := by rw [hy, eL]; exact h28
                    have y29 : y 57 29 = nI (t + 1) := by rw [hy]; exact h29
                    have y30 : y 57 30 = nI (smF p w (t + 1)) := by rw [hy]; exact h30
                    have y77 : ∀ z, z < pn p → y 77 z = nI (od (pn p) (biF p (t + 1)) z) := by rw [hy, bi_old hnu]; exact h77 ht1
                    refine jg_aload_n dX4_findLeast_173 rfl rfl ?_
                    refine jg_callV (c4_goesOn E y (pn p) (od (pn p) t) h1 hn ((yLR.2.1 5 (by decide) (by decide) (by decide) (by decide) (by decide)).trans hM.1) y65 (fun z hz => by have := (od_pm (pn p) t).1 z hz; omega)) me_X4_goesOn ml_X4_226 sh_57 rfl rfl (by decide) (by decide) rfl (Nat.le_of_ble_eq_true rfl) dX4_findLeast_174 (kk_I (fun r_174 u_174 h_174 => ?_))
                    obtain ⟨rfl, g1, g2, g3⟩ := h_174
                    refine jg_top (y := bI (decide (t + 1 < fcN (pn p)))) (congrArg bI (od_last h1 hn t htT)) ?_
                    refine jg_istore_n dX4_findLeast_177 rfl (by decide) rfl ?_
                    refine jg_goto 59 dX4_findLeast_178 (by decide) ?_
                    exact jg_weak (gLe_s (gLe_s (gLe_s (gLe_n gLe_nil)))) (ih2 (t + 1) _ (by omega) (by omega) ⟨fun k a b c d e f g => by rw [g1 k b]; exact yLR.1 k a b c d e f g, fun j a b c d e => by rw [g1 57 (by decide)]; exact yLR.2.1 j a b c d e, fun z hz => by rw [g2 z hz]; exact yLR.2.2 z hz⟩ (fun q hq => by rw [g1 76 (by decide)]; exact y76 q hq) (hM.lr ⟨fun k a b c d e f g => by rw [g1 k b]; exact yLR.1 k a b c d e f g, fun j a b c d e => by rw [g1 57 (by decide)]; exact yLR.2.1 j a b c d e, fun z hz => by rw [g2 z hz]; exact yLR.2.2 z hz⟩ hn (fun q hq => g3 q hq)) (by rw [g1 57 (by decide)]; exact y28) (by rw [g1 57 (by decide)]; exact y29) (by rw [g1 57 (by decide)]; exact y30) (fun _ i hi => by rw [g1 77 (by decide)]; exact y77 i hi))
                  · have hup : t = 0 ∨ arF p t < arF p (biF p t) := Or.inr h_126
                    refine jg_aload_n dX4_findLeast_129 rfl rfl ?_
                    refine jg_aload_n dX4_findLeast_130 rfl rfl ?_
                    refine jg_geti fk_X4_136 sh_57 rfl dX4_findLeast_131 ?_
                    refine jg_top (y := nI (brP (wO p (od (pn p) t)))) (by rw [hf1 22 (by decide) (by decide)]; exact hX.2.1) ?_
                    refine jg_aload_n dX4_findLeast_134 rfl rfl ?_
                    refine jg_geti fk_X4_139 sh_57 rfl dX4_findLeast_135 ?_
                    refine jg_top (y := nI (dpP (wO p (od (pn p) t)))) (by rw [hf1 23 (by decide) (by decide)]; exact hX.2.2) ?_
                    refine jg_imulE (z := nI (arF p t)) dX4_findLeast_138 (pk_mul _ _) ?_
                    refine jg_puti fp_X4_217 sh_57 rfl dX4_findLeast_139 ?_
                    refine jg_iconst (v := 0) dX4_findLeast_142 (by decide) ?_
                    refine jg_istore_n dX4_findLeast_143 rfl (by decide) rfl ?_
                    have cut_144 : ∀ (m i : Nat) (y : Mm), i ≤ pn p → pn p < i + m → (∀ k, k ≠ 77 → y k = s2 v1 57 28 (nI (arF p t)) k) → (∀ q, q < i → y 77 q = nI (od (pn p) t q)) → G E cX4_findLeast 4 (yX4_findLeast).cls none 3 (kV (fun u2 => LR u u2 ∧ MdB u2 p ∧ u2 57 28 = lsI p (fcN (pn p)) ∧ u2 57 29 = nI (fcN (pn p)) ∧ u2 57 30 = nI (smF p w (fcN (pn p))) ∧ ∀ i, i < pn p → u2 77 i = nI (od (pn p) (biF p (fcN (pn p))) i))) 144 [some (.ref (E.2.1 57)), some (.int (nI w)), none, some (.int (nI i))] [] y := by
                      intro m
                      induction m with
                      | zero => intro i y h1 h2; omega
                      | succ m ih3 =>
                        intro i y hi hm3 hy hbo
                        refine jg_iload_n dX4_findLeast_144 rfl rfl ?_
                        refine jg_aload_n dX4_findLeast_145 rfl rfl ?_
                        refine jg_geti fk_X4_86 sh_57 rfl dX4_findLeast_146 ?_
                        refine jg_top (y := nI (pn p)) (by rw [hy 57 (by decide), s2_ne (by decide)]; exact (hLR1.2.1 5 (by decide) (by decide) (by decide) (by decide) (by decide)).trans hM.1) ?_
                        refine jn_icmp_ge i (pn p) rfl rfl (by omega) (by omega) 173 dX4_findLeast_149 (by decide) (fun h_149 => ?_) (fun h_149 => ?_)
                        · obtain rfl : i = pn p := by omega
                          have yLR : LR u y := ⟨fun k a b c d e f g => by rw [hy k g, s2_row a]; exact hLR1.1 k a b c d e f g, fun j a b c d e => by rw [hy 57 (by decide), s2_ne c]; exact hLR1.2.1 j a b c d e, fun z hz => by rw [hy 65 (by decide), s2_row (by decide)]; exact hLR1.2.2 z hz⟩
                          have y65 : ∀ z, z < pn p → y 65 (6 + z) = nI (od (pn p) t z) := fun z hz => by rw [hy 65 (by decide), s2_row (by decide)]; exact h65 z hz
                          have y76 : ∀ z, z < pn p → y 76 z = nI (p 7 z) := fun z hz => by rw [hy 76 (by decide), s2_row (by decide)]; exact h76 z hz
                          have y28 : y 57 28 = lsI p (t + 1) := by rw [hy 57 (by decide), s2_self, ls_at (show 1 ≤ t + 1 by omega), bi_new hup]
                          have y29 : y 57 29 = nI (t + 1) := by rw [hy 57 (by decide), s2_ne (by decide)]; exact h29
                          have y30 : y 57 30 = nI (smF p w (t + 1)) := by rw [hy 57 (by decide), s2_ne (by decide)]; exact h30
                          have y77 : ∀ z, z < pn p → y 77 z = nI (od (pn p) (biF p (t + 1)) z) := fun z hz => by rw [bi_new hup]; exact hbo z hz
                          refine jg_aload_n dX4_findLeast_173 rfl rfl ?_
                          refine jg_callV (c4_goesOn E y (pn p) (od (pn p) t) h1 hn ((yLR.2.1 5 (by decide) (by decide) (by decide) (by decide) (by decide)).trans hM.1) y65 (fun z hz => by have := (od_pm (pn p) t).1 z hz; omega)) me_X4_goesOn ml_X4_226 sh_57 rfl rfl (by decide) (by decide) rfl (Nat.le_of_ble_eq_true rfl) dX4_findLeast_174 (kk_I (fun r_174 u_174 h_174 => ?_))
                          obtain ⟨rfl, g1, g2, g3⟩ := h_174
                          refine jg_top (y := bI (decide (t + 1 < fcN (pn p)))) (congrArg bI (od_last h1 hn t htT)) ?_
                          refine jg_istore_n dX4_findLeast_177 rfl (by decide) rfl ?_
                          refine jg_goto 59 dX4_findLeast_178 (by decide) ?_
                          exact jg_weak (gLe_s (gLe_s (gLe_s (gLe_n gLe_nil)))) (ih2 (t + 1) _ (by omega) (by omega) ⟨fun k a b c d e f g => by rw [g1 k b]; exact yLR.1 k a b c d e f g, fun j a b c d e => by rw [g1 57 (by decide)]; exact yLR.2.1 j a b c d e, fun z hz => by rw [g2 z hz]; exact yLR.2.2 z hz⟩ (fun q hq => by rw [g1 76 (by decide)]; exact y76 q hq) (hM.lr ⟨fun k a b c d e f g => by rw [g1 k b]; exact yLR.1 k a b c d e f g, fun j a b c d e => by rw [g1 57 (by decide)]; exact yLR.2.1 j a b c d e, fun z hz => by rw [g2 z hz]; exact yLR.2.2 z hz⟩ hn (fun q hq => g3 q hq)) (by rw [g1 57 (by decide)]; exact y28) (by rw [g1 57 (by decide)]; exact y29) (by rw [g1 57 (by decide)]; exact y30) (fun _ i hi => by rw [g1 77 (by decide)]; exact y77 i hi))
                        · refine jg_aload_n dX4_findLeast_152 rfl rfl ?_
                          refine jg_getr fk_X4_67 sh_57 rfl dX4_findLeast_153 ?_
                          refine jg_iload_n dX4_findLeast_156 rfl rfl ?_
                          refine jg_aload_n dX4_findLeast_157 rfl rfl ?_
                          refine jg_getr fk_X4_31 sh_57 rfl dX4_findLeast_158 ?_
                          refine jg_bipush (v := 6) dX4_findLeast_161 (by decide) ?_
                          refine jg_iload_n dX4_findLeast_163 rfl rfl ?_
                          refine jg_iaddE (z := nI (6 + i)) dX4_findLeast_164 (nI_add 6 i) ?_
                          refine jg_ld (6 + i) sh_65 (by omega) (rfl) dX4_findLeast_165 ?_
                          refine jg_top (y := nI (od (pn p) t i)) (by rw [hy 65 (by decide), s2_row (by decide)]; exact h65 i h_149) ?_
                          refine jg_st i sh_77 (by omega) (rfl) dX4_findLeast_166 ?_
                          refine jg_iinc (v := nI (i + 1)) dX4_findLeast_167 rfl (nI_1 i) (by decide) rfl ?_
                          refine jg_goto 144 dX4_findLeast_170 (by decide) ?_
                          exact ih3 (i + 1) _ (by omega) (by omega) (fun k h => by rw [s2_row h]; exact hy k h) (fun q h => by by_cases e : q = i; (subst e; exact s2_self _ _ _ _); (rw [s2_ne e]; exact hbo q (by omega)))
                    exact jg_weak (gLe_s (gLe_s (gLe_n (gLe_s gLe_nil)))) (cut_144 (pn p + 1) 0 _ (by omega) (by omega) (fun _ _ => rfl) (fun q h => by omega))
              · have eF : smF p w (t + 1) = smF p w t + 1 := by show _ + (if _ then 1 else 0) = _; rw [if_pos h_92]
                refine jg_iconst (v := 1) dX4_findLeast_95 (by decide) ?_
                refine jg_goto 100 dX4_findLeast_96 (by decide) ?_
                refine jg_iaddE (z := nI (smF p w (t + 1))) dX4_findLeast_100 ((nI_add (smF p w t) 1).trans (congrArg nI eF.symm)) ?_
                refine jg_puti fp_X4_223 sh_57 rfl dX4_findLeast_101 ?_
                obtain ⟨v1, hv1⟩ : ∃ z, z = s2 (s2 u_64 57 29 (nI (t + 1))) 57 30 (nI (smF p w (t + 1))) := ⟨_, rfl⟩
                rw [← hv1]
                have hr1 : ∀ k, k ≠ 57 → v1 k = u_64 k := fun k hk => by rw [hv1, s2_row hk, s2_row hk]
                have hf1 : ∀ j, j ≠ 29 → j ≠ 30 → v1 57 j = u_64 57 j := fun j a b => by rw [hv1, s2_ne b, s2_ne a]
                have hLR1 : LR u v1 := by rw [hv1]; exact ((hLR.tr hF.lr).fld (by omega)).fld (by omega)
                have h29 : v1 57 29 = nI (t + 1) := by rw [hv1, s2_ne (by decide), s2_self]
                have h30 : v1 57 30 = nI (smF p w (t + 1)) := by rw [hv1, s2_self]
                have h65 : ∀ z, z < pn p → v1 65 (6 + z) = nI (od (pn p) t z) := fun z hz => by rw [hr1 65 (by decide), hF.1 65 (by decide) (by decide) (by decide) (by decide)]; exact (hB.2 z hz).2.2.2.2
                have h76 : ∀ z, z < pn p → v1 76 z = nI (p 7 z) := fun z hz => by rw [hr1 76 (by decide), hF.1 76 (by decide) (by decide) (by decide) (by decide)]; exact hk76 z hz
                have h77 : 1 ≤ t → ∀ z, z < pn p → v1 77 z = nI (od (pn p) (biF p t) z) := fun q z hz => by rw [hr1 77 (by decide), hF.1 77 (by decide) (by decide) (by decide) (by decide)]; exact hk77 q z hz
                have h28 : v1 57 28 = lsI p t := by rw [hf1 28 (by decide) (by decide), hF.2 28 (by decide) (by decide)]; exact hls
                refine jg_aload_n dX4_findLeast_104 rfl rfl ?_
                refine jg_geti fk_X4_217 sh_57 rfl dX4_findLeast_105 ?_
                refine jg_top (y := lsI p t) (h28) ?_
                refine jg_bipush (v := -9) dX4_findLeast_108 (by decide) ?_
                refine jg_icmp_eq 129 dX4_findLeast_110 (by decide) (fun h_110 => ?_) (fun h_110 => ?_)
                · have hup : t = 0 ∨ arF p t < arF p (biF p t) := by rcases Nat.eq_zero_or_pos t with z | z; exact Or.inl z; (rw [ls_at z] at h_110; exact absurd h_110 (oI_ne (by decide) (by omega)))
                  refine jg_aload_n dX4_findLeast_129 rfl rfl ?_
                  refine jg_aload_n dX4_findLeast_130 rfl rfl ?_
                  refine jg_geti fk_X4_136 sh_57 rfl dX4_findLeast_131 ?_
                  refine jg_top (y := nI (brP (wO p (od (pn p) t)))) (by rw [hf1 22 (by decide) (by decide)]; exact hX.2.1) ?_
                  refine jg_aload_n dX4_findLeast_134 rfl rfl ?_
                  refine jg_geti fk_X4_139 sh_57 rfl dX4_findLeast_135 ?_
                  refine jg_top (y := nI (dpP (wO p (od (pn p) t)))) (by rw [hf1 23 (by decide) (by decide)]; exact hX.2.2) ?_
                  refine jg_imulE (z := nI (arF p t)) dX4_findLeast_138 (pk_mul _ _) ?_
                  refine jg_puti fp_X4_217 sh_57 rfl dX4_findLeast_139 ?_
                  refine jg_iconst (v := 0) dX4_findLeast_142 (by decide) ?_
                  refine jg_istore_n dX4_findLeast_143 rfl (by decide) rfl ?_
                  have cut_144 : ∀ (m i : Nat) (y : Mm), i ≤ pn p → pn p < i + m → (∀ k, k ≠ 77 → y k = s2 v1 57 28 (nI (arF p t)) k) → (∀ q, q < i → y 77 q = nI (od (pn p) t q)) → G E cX4_findLeast 4 (yX4_findLeast).cls none 3 (kV (fun u2 => LR u u2 ∧ MdB u2 p ∧ u2 57 28 = lsI p (fcN (pn p)) ∧ u2 57 29 = nI (fcN (pn p)) ∧ u2 57 30 = nI (smF p w (fcN (pn p))) ∧ ∀ i, i < pn p → u2 77 i = nI (od (pn p) (biF p (fcN (pn p))) i))) 144 [some (.ref (E.2.1 57)), some (.int (nI w)), none, some (.int (nI i))] [] y := by
                    intro m
                    induction m with
                    | zero => intro i y h1 h2; omega
                    | succ m ih3 =>
                      intro i y hi hm3 hy hbo
                      refine jg_iload_n dX4_findLeast_144 rfl rfl ?_
                      refine jg_aload_n dX4_findLeast_145 rfl rfl ?_
                      refine jg_geti fk_X4_86 sh_57 rfl dX4_findLeast_146 ?_
                      refine jg_top (y := nI (pn p)) (by rw [hy 57 (by decide), s2_ne (by decide)]; exact (hLR1.2.1 5 (by decide) (by decide) (by decide) (by decide) (by decide)).trans hM.1) ?_
                      refine jn_icmp_ge i (pn p) rfl rfl (by omega) (by omega) 173 dX4_findLeast_149 (by decide) (fun h_149 => ?_) (fun h_149 => ?_)
                      · obtain rfl : i = pn p := by omega
                        have yLR : LR u y := ⟨fun k a b c d e f g => by rw [hy k g, s2_row a]; exact hLR1.1 k a b c d e f g, fun j a b c d e => by rw [hy 57 (by decide), s2_ne c]; exact hLR1.2.1 j a b c d e, fun z hz => by rw [hy 65 (by decide), s2_row (by decide)]; exact hLR1.2.2 z hz⟩
                        have y65 : ∀ z, z < pn p → y 65 (6 + z) = nI (od (pn p) t z) := fun z hz => by rw [hy 65 (by decide), s2_row (by decide)]; exact h65 z hz
                        have y76 : ∀ z, z < pn p → y 76 z = nI (p 7 z) := fun z hz => by rw [hy 76 (by decide), s2_row (by decide)]; exact h76 z hz
                        have y28 : y 57 28 = lsI p (t + 1) := by rw [hy 57 (by decide), s2_self, ls_at (show 1 ≤ t + 1 by omega), bi_new hup]
                        have y29 : y 57 29 = nI (t + 1) := by rw [hy 57 (by decide), s2_ne (by decide)]; exact h29
                        have y30 : y 57 30 = nI (smF p w (t + 1)) := by rw [hy 57 (by decide), s2_ne (by decide)]; exact h30
                        have y77 : ∀ z, z < pn p → y 77 z = nI (od (pn p) (biF p (t + 1)) z) := fun z hz => by rw [bi_new hup]; exact hbo z hz
                        refine jg_aload_n dX4_findLeast_173 rfl rfl ?_
                        refine jg_callV (c4_goesOn E y (pn p) (od (pn p) t) h1 hn ((yLR.2.1 5 (by decide) (by decide) (by decide) (by decide) (by decide)).trans hM.1) y65 (fun z hz => by have := (od_pm (pn p) t).1 z hz; omega)) me_X4_goesOn ml_X4_226 sh_57 rfl rfl (by decide) (by decide) rfl (Nat.le_of_ble_eq_true rfl) dX4_findLeast_174 (kk_I (fun r_174 u_174 h_174 => ?_))
                        obtain ⟨rfl, g1, g2, g3⟩ := h_174
                        refine jg_top (y := bI (decide (t + 1 < fcN (pn p)))) (congrArg bI (od_last h1 hn t htT)) ?_
                        refine jg_istore_n dX4_findLeast_177 rfl (by decide) rfl ?_
                        refine jg_goto 59 dX4_findLeast_178 (by decide) ?_
                        exact jg_weak (gLe_s (gLe_s (gLe_s (gLe_n gLe_nil)))) (ih2 (t + 1) _ (by omega) (by omega) ⟨fun k a b c d e f g => by rw [g1 k b]; exact yLR.1 k a b c d e f g, fun j a b c d e => by rw [g1 57 (by decide)]; exact yLR.2.1 j a b c d e, fun z hz => by rw [g2 z hz]; exact yLR.2.2 z hz⟩ (fun q hq => by rw [g1 76 (by decide)]; exact y76 q hq) (hM.lr ⟨fun k a b c d e f g => by rw [g1 k b]; exact yLR.1 k a b c d e f g, fun j a b c d e => by rw [g1 57 (by decide)]; exact yLR.2.1 j a b c d e, fun z hz => by rw [g2 z hz]; exact yLR.2.2 z hz⟩ hn (fun q hq => g3 q hq)) (by rw [g1 57 (by decide)]; exact y28) (by rw [g1 57 (by decide)]; exact y29) (by rw [g1 57 (by decide)]; exact y30) (fun _ i hi => by rw [g1 77 (by decide)]; exact y77 i hi))
                      · refine jg_aload_n dX4_findLeast_152 rfl rfl ?_
                        refine jg_getr fk_X4_67 sh_57 rfl dX4_findLeast_153 ?_
                        refine jg_iload_n dX4_findLeast_156 rfl rfl ?_
                        refine jg_aload_n dX4_findLeast_157 rfl rfl ?_
                        refine jg_getr fk_X4_31 sh_57 rfl dX4_findLeast_158 ?_
                        refine jg_bipush (v := 6) dX4_findLeast_161 (by decide) ?_
                        refine jg_iload_n dX4_findLeast_163 rfl rfl ?_
                        refine jg_iaddE (z := nI (6 + i)) dX4_findLeast_164 (nI_add 6 i) ?_
                        refine jg_ld (6 + i) sh_65 (by omega) (rfl) dX4_findLeast_165 ?_
                        refine jg_top (y := nI (od (pn p) t i)) (by rw [hy 65 (by decide), s2_row (by decide)]; exact h65 i h_149) ?_
                        refine jg_st i sh_77 (by omega) (rfl) dX4_findLeast_166 ?_
                        refine jg_iinc (v := nI (i + 1)) dX4_findLeast_167 rfl (nI_1 i) (by decide) rfl ?_
                        refine jg_goto 144 dX4_findLeast_170 (by decide) ?_
                        exact ih3 (i + 1) _ (by omega) (by omega) (fun k h => by rw [s2_row h]; exact hy k h) (fun q h => by by_cases e : q = i; (subst e; exact s2_self _ _ _ _); (rw [s2_ne e]; exact hbo q (by omega)))
                  exact jg_weak (gLe_s (gLe_s (gLe_n (gLe_s gLe_nil)))) (cut_144 (pn p + 1) 0 _ (by omega) (by omega) (fun _ _ => rfl) (fun q h => by omega))
                · have ht1 : 1 ≤ t := by rcases Nat.eq_zero_or_pos t with z | z; (subst z; exact absurd rfl h_110); exact z
                  refine jg_aload_n dX4_findLeast_113 rfl rfl ?_
                  refine jg_geti fk_X4_136 sh_57 rfl dX4_findLeast_114 ?_
                  refine jg_top (y := nI (brP (wO p (od (pn p) t)))) (by rw [hf1 22 (by decide) (by decide)]; exact hX.2.1) ?_
                  refine jg_aload_n dX4_findLeast_117 rfl rfl ?_
                  refine jg_geti fk_X4_139 sh_57 rfl dX4_findLeast_118 ?_
                  refine jg_top (y := nI (dpP (wO p (od (pn p) t)))) (by rw [hf1 23 (by decide) (by decide)]; exact hX.2.2) ?_
                  refine jg_imulE (z := nI (arF p t)) dX4_findLeast_121 (pk_mul _ _) ?_
                  refine jg_aload_n dX4_findLeast_122 rfl rfl ?_
                  refine jg_geti fk_X4_217 sh_57 rfl dX4_findLeast_123 ?_
                  refine jg_top (y := nI (arF p (biF p t))) (h28.trans (ls_at ht1)) ?_
                  refine jn_icmp_ge (arF p t) (arF p (biF p t)) rfl rfl (by omega) (by omega) 173 dX4_findLeast_126 (by decide) (fun h_126 => ?_) (fun h_126 => ?_)
                  · have hnu : ¬ (t = 0 ∨ arF p t < arF p (biF p t)) := by omega
                    have eL : lsI p (t + 1) = lsI p t := by rw [ls_at ht1, ls_at (show 1 ≤ t + 1 by omega), bi_old hnu]
                    obtain ⟨y, hy⟩ : ∃ z, z = v1 := ⟨_, rfl⟩
                    rw [← hy]
                    have yLR : LR u y := by rw [hy]; exact hLR1
                    have y65 : ∀ z, z < pn p → y 65 (6 + z) = nI (od (pn p) t z) := by rw [hy]; exact h65
                    have y76 : ∀ z, z < pn p → y 76 z = nI (p 7 z) := by rw [hy]; exact h76
                    have y28 : y 57 28 = lsI p (t + 1) := by rw [hy, eL]; exact h28
                    have y29 : y 57 29 = nI (t + 1) := by rw [hy]; exact h29
                    have y30 : y 57 30 = nI (smF p w (t + 1)) := by rw [hy]; exact h30
                    have y77 : ∀ z, z < pn p → y 77 z = nI (od (pn p) (biF p (t + 1)) z) := by rw [hy, bi_old hnu]; exact h77 ht1
                    refine jg_aload_n dX4_findLeast_173 rfl rfl ?_
                    refine jg_callV (c4_goesOn E y (pn p) (od (pn p) t) h1 hn ((yLR.2.1 5 (by decide) (by decide) (by decide) (by decide) (by decide)).trans hM.1) y65 (fun z hz => by have := (od_pm (pn p) t).1 z hz; omega)) me_X4_goesOn ml_X4_226 sh_57 rfl rfl (by decide) (by decide) rfl (Nat.le_of_ble_eq_true rfl) dX4_findLeast_174 (kk_I (fun r_174 u_174 h_174 => ?_))
                    obtain ⟨rfl, g1, g2, g3⟩ := h_174
                    refine jg_top (y := bI (decide (t + 1 < fcN (pn p)))) (congrArg bI (od_last h1 hn t htT)) ?_
                    refine jg_istore_n dX4_findLeast_177 rfl (by decide) rfl ?_
                    refine jg_goto 59 dX4_findLeast_178 (by decide) ?_
                    exact jg_weak (gLe_s (gLe_s (gLe_s (gLe_n gLe_nil)))) (ih2 (t + 1) _ (by omega) (by omega) ⟨fun k a b c d e f g => by rw [g1 k b]; exact yLR.1 k a b c d e f g, fun j a b c d e => by rw [g1 57 (by decide)]; exact yLR.2.1 j a b c d e, fun z hz => by rw [g2 z hz]; exact yLR.2.2 z hz⟩ (fun q hq => by rw [g1 76 (by decide)]; exact y76 q hq) (hM.lr ⟨fun k a b c d e f g => by rw [g1 k b]; exact yLR.1 k a b c d e f g, fun j a b c d e => by rw [g1 57 (by decide)]; exact yLR.2.1 j a b c d e, fun z hz => by rw [g2 z hz]; exact yLR.2.2 z hz⟩ hn (fun q hq => g3 q hq)) (by rw [g1 57 (by decide)]; exact y28) (by rw [g1 57 (by decide)]; exact y29) (by rw [g1 57 (by decide)]; exact y30) (fun _ i hi => by rw [g1 77 (by decide)]; exact y77 i hi))
                  · have hup : t = 0 ∨ arF p t < arF p (biF p t) := Or.inr h_126
                    refine jg_aload_n dX4_findLeast_129 rfl rfl ?_
                    refine jg_aload_n dX4_findLeast_130 rfl rfl ?_
                    refine jg_geti fk_X4_136 sh_57 rfl dX4_findLeast_131 ?_
                    refine jg_top (y := nI (brP (wO p (od (pn p) t)))) (by rw [hf1 22 (by decide) (by decide)]; exact hX.2.1) ?_
                    refine jg_aload_n dX4_findLeast_134 rfl rfl ?_
                    refine jg_geti fk_X4_139 sh_57 rfl dX4_findLeast_135 ?_
                    refine jg_top (y := nI (dpP (wO p (od (pn p) t)))) (by rw [hf1 23 (by decide) (by decide)]; exact hX.2.2) ?_
                    refine jg_imulE (z := nI (arF p t)) dX4_findLeast_138 (pk_mul _ _) ?_
                    refine jg_puti fp_X4_217 sh_57 rfl dX4_findLeast_139 ?_
                    refine jg_iconst (v := 0) dX4_findLeast_142 (by decide) ?_
                    refine jg_istore_n dX4_findLeast_143 rfl (by decide) rfl ?_
                    have cut_144 : ∀ (m i : Nat) (y : Mm), i ≤ pn p → pn p < i + m → (∀ k, k ≠ 77 → y k = s2 v1 57 28 (nI (arF p t)) k) → (∀ q, q < i → y 77 q = nI (od (pn p) t q)) → G E cX4_findLeast 4 (yX4_findLeast).cls none 3 (kV (fun u2 => LR u u2 ∧ MdB u2 p ∧ u2 57 28 = lsI p (fcN (pn p)) ∧ u2 57 29 = nI (fcN (pn p)) ∧ u2 57 30 = nI (smF p w (fcN (pn p))) ∧ ∀ i, i < pn p → u2 77 i = nI (od (pn p) (biF p (fcN (pn p))) i))) 144 [some (.ref (E.2.1 57)), some (.int (nI w)), none, some (.int (nI i))] [] y := by
                      intro m
                      induction m with
                      | zero => intro i y h1 h2; omega
                      | succ m ih3 =>
                        intro i y hi hm3 hy hbo
                        refine jg_iload_n dX4_findLeast_144 rfl rfl ?_
                        refine jg_aload_n dX4_findLeast_145 rfl rfl ?_
                        refine jg_geti fk_X4_86 sh_57 rfl dX4_findLeast_146 ?_
                        refine jg_top (y := nI (pn p)) (by rw [hy 57 (by decide), s2_ne (by decide)]; exact (hLR1.2.1 5 (by decide) (by decide) (by decide) (by decide) (by decide)).trans hM.1) ?_
                        refine jn_icmp_ge i (pn p) rfl rfl (by omega) (by omega) 173 dX4_findLeast_149 (by decide) (fun h_149 => ?_) (fun h_149 => ?_)
                        · obtain rfl : i = pn p := by omega
                          have yLR : LR u y := ⟨fun k a b c d e f g => by rw [hy k g, s2_row a]; exact hLR1.1 k a b c d e f g, fun j a b c d e => by rw [hy 57 (by decide), s2_ne c]; exact hLR1.2.1 j a b c d e, fun z hz => by rw [hy 65 (by decide), s2_row (by decide)]; exact hLR1.2.2 z hz⟩
                          have y65 : ∀ z, z < pn p → y 65 (6 + z) = nI (od (pn p) t z) := fun z hz => by rw [hy 65 (by decide), s2_row (by decide)]; exact h65 z hz
                          have y76 : ∀ z, z < pn p → y 76 z = nI (p 7 z) := fun z hz => by rw [hy 76 (by decide), s2_row (by decide)]; exact h76 z hz
                          have y28 : y 57 28 = lsI p (t + 1) := by rw [hy 57 (by decide), s2_self, ls_at (show 1 ≤ t + 1 by omega), bi_new hup]
                          have y29 : y 57 29 = nI (t + 1) := by rw [hy 57 (by decide), s2_ne (by decide)]; exact h29
                          have y30 : y 57 30 = nI (smF p w (t + 1)) := by rw [hy 57 (by decide), s2_ne (by decide)]; exact h30
                          have y77 : ∀ z, z < pn p → y 77 z = nI (od (pn p) (biF p (t + 1)) z) := fun z hz => by rw [bi_new hup]; exact hbo z hz
                          refine jg_aload_n dX4_findLeast_173 rfl rfl ?_
                          refine jg_callV (c4_goesOn E y (pn p) (od (pn p) t) h1 hn ((yLR.2.1 5 (by decide) (by decide) (by decide) (by decide) (by decide)).trans hM.1) y65 (fun z hz => by have := (od_pm (pn p) t).1 z hz; omega)) me_X4_goesOn ml_X4_226 sh_57 rfl rfl (by decide) (by decide) rfl (Nat.le_of_ble_eq_true rfl) dX4_findLeast_174 (kk_I (fun r_174 u_174 h_174 => ?_))
                          obtain ⟨rfl, g1, g2, g3⟩ := h_174
                          refine jg_top (y := bI (decide (t + 1 < fcN (pn p)))) (congrArg bI (od_last h1 hn t htT)) ?_
                          refine jg_istore_n dX4_findLeast_177 rfl (by decide) rfl ?_
                          refine jg_goto 59 dX4_findLeast_178 (by decide) ?_
                          exact jg_weak (gLe_s (gLe_s (gLe_s (gLe_n gLe_nil)))) (ih2 (t + 1) _ (by omega) (by omega) ⟨fun k a b c d e f g => by rw [g1 k b]; exact yLR.1 k a b c d e f g, fun j a b c d e => by rw [g1 57 (by decide)]; exact yLR.2.1 j a b c d e, fun z hz => by rw [g2 z hz]; exact yLR.2.2 z hz⟩ (fun q hq => by rw [g1 76 (by decide)]; exact y76 q hq) (hM.lr ⟨fun k a b c d e f g => by rw [g1 k b]; exact yLR.1 k a b c d e f g, fun j a b c d e => by rw [g1 57 (by decide)]; exact yLR.2.1 j a b c d e, fun z hz => by rw [g2 z hz]; exact yLR.2.2 z hz⟩ hn (fun q hq => g3 q hq)) (by rw [g1 57 (by decide)]; exact y28) (by rw [g1 57 (by decide)]; exact y29) (by rw [g1 57 (by decide)]; exact y30) (fun _ i hi => by rw [g1 77 (by decide)]; exact y77 i hi))
                        · refine jg_aload_n dX4_findLeast_152 rfl rfl ?_
                          refine jg_getr fk_X4_67 sh_57 rfl dX4_findLeast_153 ?_
                          refine jg_iload_n dX4_findLeast_156 rfl rfl ?_
                          refine jg_aload_n dX4_findLeast_157 rfl rfl ?_
                          refine jg_getr fk_X4_31 sh_57 rfl dX4_findLeast_158 ?_
                          refine jg_bipush (v := 6) dX4_findLeast_161 (by decide) ?_
                          refine jg_iload_n dX4_findLeast_163 rfl rfl ?_
                          refine jg_iaddE (z := nI (6 + i)) dX4_findLeast_164 (nI_add 6 i) ?_
                          refine jg_ld (6 + i) sh_65 (by omega) (rfl) dX4_findLeast_165 ?_
                          refine jg_top (y := nI (od (pn p) t i)) (by rw [hy 65 (by decide), s2_row (by decide)]; exact h65 i h_149) ?_
                          refine jg_st i sh_77 (by omega) (rfl) dX4_findLeast_166 ?_
                          refine jg_iinc (v := nI (i + 1)) dX4_findLeast_167 rfl (nI_1 i) (by decide) rfl ?_
                          refine jg_goto 144 dX4_findLeast_170 (by decide) ?_
                          exact ih3 (i + 1) _ (by omega) (by omega) (fun k h => by rw [s2_row h]; exact hy k h) (fun q h => by by_cases e : q = i; (subst e; exact s2_self _ _ _ _); (rw [s2_ne e]; exact hbo q (by omega)))
                    exact jg_weak (gLe_s (gLe_s (gLe_n (gLe_s gLe_nil)))) (cut_144 (pn p + 1) 0 _ (by omega) (by omega) (fun _ _ => rfl) (fun q h => by omega))
        have hLR2 := ((hLR.fld (j := 28) (x := -9) (by omega)).fld (j := 29) (x := 0) (by omega)).fld (j := 30) (x := 0) (by omega)
        have c0 := cut_59 (fcN (pn p) + 1) 0 _ (by omega) (by omega) hLR2 (fun q hq => by rw [s2_row (by decide), s2_row (by decide), s2_row (by decide)]; exact (hk q hq).1) (hM.lr hLR2 hn (fun q hq => by rw [s2_row (by decide), s2_row (by decide), s2_row (by decide)]; exact (hk q hq).2)) (by rw [s2_ne (by decide), s2_ne (by decide), s2_self]; rfl) (by rw [s2_ne (by decide), s2_self]; rfl) (by rw [s2_self]; rfl) (fun z => by omega)
        rw [show bI (decide (0 < fcN (pn p))) = 1 by simp [bI]; omega] at c0
        exact jg_weak (gLe_s (gLe_s (gLe_s (gLe_n gLe_nil)))) c0
      · refine jg_aload_n dX4_findLeast_10 rfl rfl ?_
        refine jg_getr fk_X4_64 sh_57 rfl dX4_findLeast_11 ?_
        refine jg_iload_n dX4_findLeast_14 rfl rfl ?_
        refine jg_aload_n dX4_findLeast_15 rfl rfl ?_
        refine jg_getr fk_X4_31 sh_57 rfl dX4_findLeast_16 ?_
        refine jg_bipush (v := 6) dX4_findLeast_19 (by decide) ?_
        refine jg_iload_n dX4_findLeast_21 rfl rfl ?_
        refine jg_iaddE (z := nI (6 + i)) dX4_findLeast_22 (nI_add 6 i) ?_
        refine jg_ld (6 + i) sh_65 (by omega) (rfl) dX4_findLeast_23 ?_
        refine jg_top (y := nI (p 7 i)) (by rw [h65o i (Nat.le_refl _) h_7]; exact (hM.2 i h_7).2.2.2.2) ?_
        refine jg_st i sh_76 (by omega) (rfl) dX4_findLeast_24 ?_
        refine jg_aload_n dX4_findLeast_25 rfl rfl ?_
        refine jg_getr fk_X4_31 sh_57 rfl dX4_findLeast_26 ?_
        refine jg_bipush (v := 6) dX4_findLeast_29 (by decide) ?_
        refine jg_iload_n dX4_findLeast_31 rfl rfl ?_
        refine jg_iaddE (z := nI (6 + i)) dX4_findLeast_32 (nI_add 6 i) ?_
        refine jg_iload_n dX4_findLeast_33 rfl rfl ?_
        refine jg_st (6 + i) sh_65 (by omega) (rfl) dX4_findLeast_34 ?_
        refine jg_iinc (v := nI (i + 1)) dX4_findLeast_35 rfl (nI_1 i) (by decide) rfl ?_
        refine jg_goto 2 dX4_findLeast_38 (by decide) ?_
        exact ih (i + 1) _ (by omega) (by omega) ((hLR.row (by omega)).ord (by omega)) (by rw [s2_row (by decide), s2_row (by decide)]; exact h57) (fun q h => by by_cases e : q = i; (subst e; exact ⟨by rw [s2_row (by decide), s2_self], s2_self _ _ _ _⟩); (rw [s2_row (a := 76) (by decide), s2_ne e, s2_ne (by omega), s2_row (by decide)]; exact hk q (by omega))) (fun q a b => by rw [s2_ne (by omega), s2_row (by decide)]; exact h65o q (by omega) b)
  exact cut_2 (pn p + 1) 0 u (by omega) (by omega) LR.rf rfl (fun q h => by omega) (fun _ _ _ => rfl)
set_option maxHeartbeats 4000000 in
set_option maxRecDepth 20000 in
theorem d4_least (E : gT) (u : Mm) (g : Gh) (hO : Ok g) (hI : InvM u g) (k : Int32) : Con E yX4_least cX4_least 2 (some .int) 4 [.ref (E.2.1 57), .int k] u (kI (fun r u2 => r = (fLeast g k).1 ∧ InvM u2 (fLeast g k).2 ∧ RF u u2)) := by
  have hn := hO.1.1
  refine Con.of (lv := [some (.ref (E.2.1 57)), some (.int k)]) (by decide +kernel) (Nat.le_of_ble_eq_true rfl) rfl ?_
  refine jg_iload_n dX4_least_0 rfl rfl ?_
  refine jg_iconst (v := -1) dX4_least_1 (by decide) ?_
  refine jg_iconst (v := 5) dX4_least_2 (by decide) ?_
  refine jg_callS (c4_within E u k (-1) 5) me_X4_within ml_X4_82 rfl (by decide) (by decide) rfl (Nat.le_of_ble_eq_true rfl) dX4_least_3 (kk_I (fun r_3 u_3 h_3 => ?_))
  obtain ⟨rfl, rfl⟩ := h_3
  refine jb_if_ne 12 dX4_least_6 (by decide) (fun h_6 => ?_) (fun h_6 => ?_)
  · refine jg_aload_n dX4_least_12 rfl rfl ?_
    refine jg_geti fk_X4_86 sh_57 rfl dX4_least_13 ?_
    refine jg_top (y := nI (pn g.1)) (hI.1.1) ?_
    refine jn_if_ne (pn g.1) rfl (by omega) 22 dX4_least_16 (by decide) (fun h_16 => ?_) (fun h_16 => ?_)
    · refine jg_aload_n dX4_least_22 rfl rfl ?_
      refine jg_iconst (v := 0) dX4_least_23 (by decide) ?_
      refine jg_callV (c4_findLeast E u g.1 hO.1 (by omega) (fun a ha => (hO.2.1 a ha).2) hI.1 0 (by omega)) me_X4_findLeast ml_X4_230 sh_57 rfl rfl (by decide) (by decide) rfl (Nat.le_of_ble_eq_true rfl) dX4_least_24 (kk_V (fun u_24 h_24 => ?_))
      obtain ⟨hLR, hM2, e28, e29, e30, e77⟩ := h_24
      have hJ := hI.lr hLR hM2
      refine jg_iload_n dX4_least_27 rfl rfl ?_
      refine jg_iconst (v := -1) dX4_least_28 (by decide) ?_
      refine jg_icmp_ne 39 dX4_least_29 (by decide) (fun h_29 => ?_) (fun h_29 => ?_)
      · obtain ⟨j, hj, rfl⟩ := k_nat h_6 h_29
        refine jg_iload_n dX4_least_39 rfl rfl ?_
        refine jg_aload_n dX4_least_40 rfl rfl ?_
        refine jg_geti fk_X4_86 sh_57 rfl dX4_least_41 ?_
        refine jg_top (y := nI (pn g.1)) (hJ.1.1) ?_
        refine jn_icmp_ge j (pn g.1) rfl rfl (by omega) (by omega) 56 dX4_least_44 (by decide) (fun h_44 => ?_) (fun h_44 => ?_)
        · have e9 : (fLeast g (nI j)).1 = -9 := by unfold fLeast; rw [if_pos h_6, if_neg h_16, if_neg h_29, if_neg (fun z => by obtain ⟨q, z1, z2⟩ := inN_nat (by omega) z; have := (nI_eq (by omega) (by omega)).mp z2; omega)]
          refine jg_bipush (v := -9) dX4_least_56 (by decide) ?_
          exact jg_iret (rfl) dX4_least_58 ⟨_, rfl, ⟨by rw [e9], hJ, hLR.rf2⟩⟩
        · have e9 : (fLeast g (nI j)).1 = nI (od (pn g.1) (biF g.1 (fcN (pn g.1))) j) := by unfold fLeast; rw [if_pos h_6, if_neg h_16, if_neg h_29, if_pos (inN_of h_44 (by omega)), cl_nI (by omega)]
          refine jg_aload_n dX4_least_47 rfl rfl ?_
          refine jg_getr fk_X4_67 sh_57 rfl dX4_least_48 ?_
          refine jg_iload_n dX4_least_51 rfl rfl ?_
          refine jg_ld j sh_77 (by omega) (rfl) dX4_least_52 ?_
          refine jg_top (y := nI (od (pn g.1) (biF g.1 (fcN (pn g.1))) j)) (e77 j h_44) ?_
          refine jg_goto 58 dX4_least_53 (by decide) ?_
          exact jg_iret (rfl) dX4_least_58 ⟨_, rfl, ⟨by rw [e9], hJ, hLR.rf2⟩⟩
      · have e9 : (fLeast g k).1 = nI (arF g.1 (biF g.1 (fcN (pn g.1)))) := by unfold fLeast; rw [if_pos h_6, if_neg h_16, if_pos h_29]
        refine jg_aload_n dX4_least_32 rfl rfl ?_
        refine jg_geti fk_X4_217 sh_57 rfl dX4_least_33 ?_
        refine jg_top (y := nI (arF g.1 (biF g.1 (fcN (pn g.1))))) (e28.trans (ls_at (fc_pos (pn g.1) (by omega)).1)) ?_
        refine jg_goto 58 dX4_least_36 (by decide) ?_
        exact jg_iret (rfl) dX4_least_58 ⟨_, rfl, ⟨by rw [e9], hJ, hLR.rf2⟩⟩
    · refine jg_bipush (v := -3) dX4_least_19 (by decide) ?_
      exact jg_iret (rfl) dX4_least_21 ⟨_, rfl, ⟨by simp [fLeast, *], hI, RF.rf⟩⟩
  · refine jg_bipush (v := -2) dX4_least_9 (by decide) ?_
    exact jg_iret (rfl) dX4_least_11 ⟨_, rfl, ⟨by simp [fLeast, *], hI, RF.rf⟩⟩
set_option maxHeartbeats 4000000 in
set_option maxRecDepth 20000 in
theorem c4_inLeastTerms (E : gT) (u : Mm) (a b : Nat) (w : Int32) (hb : 1 ≤ b) (hb2 : b ≤ 720) (ha : a ≤ 720) : Con E yX4_inLeastTerms cX4_inLeastTerms 11 (some .long) 0 [.long (lN a), .long (lN b), .int w] u (kL (fun r u2 => r = lN ((if w = 0 then a else b) / Nat.gcd b a) ∧ u = u2)) := by
  refine Con.of (lv := [some (.long (lN a)), none, some (.long (lN b)), none, some (.int w), none, none, none, none, none, none]) (by decide +kernel) (Nat.le_of_ble_eq_true rfl) rfl ?_
  refine jg_lload_n dX4_inLeastTerms_0 rfl rfl ?_
  refine jg_lstore dX4_inLeastTerms_1 (by decide) rfl ?_
  refine jg_lload_n dX4_inLeastTerms_3 rfl rfl ?_
  refine jg_lstore dX4_inLeastTerms_4 (by decide) rfl ?_
  have cut_6 : ∀ (m A B : Nat), B < m → A ≤ 720 → B ≤ 720 → (B = 0 → 1 ≤ A) → Nat.gcd A B = Nat.gcd b a → G E cX4_inLeastTerms 11 (yX4_inLeastTerms).cls (some .long) 0 (kL (fun r u2 => r = lN ((if w = 0 then a else b) / Nat.gcd b a) ∧ u = u2)) 6 [some (.long (lN a)), none, some (.long (lN b)), none, some (.int w), some (.long (lN A)), none, some (.long (lN B)), none, none, none] [] u := by
    intro m
    induction m with
    | zero => intro A B h1; omega
    | succ m ih =>
      intro A B hm hA hB hA1 hg
      refine jg_lload dX4_inLeastTerms_6 rfl ?_
      refine jg_lconst (v := 0) dX4_inLeastTerms_8 (by decide) ?_
      refine jg_lcmp dX4_inLeastTerms_9 ?_
      refine jg_if_eq 31 dX4_inLeastTerms_10 (by decide) (fun h_10 => ?_) (fun h_10 => ?_)
      · obtain rfl : B = 0 := (lN_eq (by omega) (by omega)).mp ((lg_cmp_eq _ _).mp h_10)
        have eg : A = Nat.gcd b a := by rw [← hg, Nat.gcd_zero_right]
        have hG : 1 ≤ Nat.gcd b a := Nat.gcd_pos_of_pos_left _ (by omega)
        refine jg_iload dX4_inLeastTerms_31 rfl ?_
        refine jg_if_ne 43 dX4_inLeastTerms_33 (by decide) (fun h_33 => ?_) (fun h_33 => ?_)
        · refine jg_lload_n dX4_inLeastTerms_43 rfl rfl ?_
          refine jg_lload dX4_inLeastTerms_44 rfl ?_
          refine jg_ldivE (z := lN (b / A)) dX4_inLeastTerms_46 (fun z => by have := (lN_eq (b := 0) (by omega) (by omega)).mp z; omega) (pk_lDiv (by omega) (by omega) (by omega)) ?_
          exact jg_lret dX4_inLeastTerms_47 ⟨_, rfl, ⟨by rw [eg]; first | rw [if_pos h_33] | rw [if_neg h_33], rfl⟩⟩
        · refine jg_lload_n dX4_inLeastTerms_36 rfl rfl ?_
          refine jg_lload dX4_inLeastTerms_37 rfl ?_
          refine jg_ldivE (z := lN (a / A)) dX4_inLeastTerms_39 (fun z => by have := (lN_eq (b := 0) (by omega) (by omega)).mp z; omega) (pk_lDiv (by omega) (by omega) (by omega)) ?_
          refine jg_goto 47 dX4_inLeastTerms_40 (by decide) ?_
          exact jg_lret dX4_inLeastTerms_47 ⟨_, rfl, ⟨by rw [eg]; first | rw [if_pos h_33] | rw [if_neg h_33], rfl⟩⟩
      · have hB0 : B ≠ 0 := fun z => by subst z; exact h_10 rfl
        have hlt := Nat.mod_lt A (show 0 < B by omega)
        refine jg_lload dX4_inLeastTerms_13 rfl ?_
        refine jg_lload dX4_inLeastTerms_15 rfl ?_
        refine jg_lremE (z := lN (A % B)) dX4_inLeastTerms_17 (fun z => hB0 ((lN_eq (by omega) (by omega)).mp z)) (pk_lRem (by omega) (by omega) (by omega)) ?_
        refine jg_lstore dX4_inLeastTerms_18 (by decide) rfl ?_
        refine jg_lload dX4_inLeastTerms_20 rfl ?_
        refine jg_lstore dX4_inLeastTerms_22 (by decide) rfl ?_
        refine jg_lload dX4_inLeastTerms_24 rfl ?_
        refine jg_lstore dX4_inLeastTerms_26 (by decide) rfl ?_
        refine jg_goto 6 dX4_inLeastTerms_28 (by decide) ?_
        exact jg_weak (gLe_s (gLe_n (gLe_s (gLe_n (gLe_s (gLe_s (gLe_n (gLe_s (gLe_n (gLe_n (gLe_n gLe_nil))))))))))) (ih B (A % B) (by omega) (by omega) (by omega) (by omega) (by rw [← hg, Nat.gcd_comm A B, Nat.gcd_rec B A, Nat.gcd_comm]))
  exact cut_6 (b + 1) a b (by omega) ha hb2 (by omega) (Nat.gcd_comm a b)
set_option maxHeartbeats 4000000 in
set_option maxRecDepth 20000 in
theorem d4_odds (E : gT) (u : Mm) (g : Gh) (hO : Ok g) (hI : InvM u g) (v w : Int32) : Con E yX4_odds cX4_odds 3 (some .long) 4 [.ref (E.2.1 57), .int v, .int w] u (kL (fun r u2 => r = (fOdds g v w).1 ∧ InvM u2 (fOdds g v w).2 ∧ RF u u2)) := by
  have hn := hO.1.1
  refine Con.of (lv := [some (.ref (E.2.1 57)), some (.int v), some (.int w)]) (by decide +kernel) (Nat.le_of_ble_eq_true rfl) rfl ?_
  refine jg_iload_n dX4_odds_0 rfl rfl ?_
  refine jg_iconst (v := 0) dX4_odds_1 (by decide) ?_
  refine jg_sipush (v := 9999) dX4_odds_2 (by decide) ?_
  refine jg_callS (c4_within E u v 0 9999) me_X4_within ml_X4_82 rfl (by decide) (by decide) rfl (Nat.le_of_ble_eq_true rfl) dX4_odds_5 (kk_I (fun r_5 u_5 h_5 => ?_))
  obtain ⟨rfl, rfl⟩ := h_5
  refine jb_if_eq 27 dX4_odds_8 (by decide) (fun h_8 => ?_) (fun h_8 => ?_)
  · have e9 : (fOdds g v w).1 = -9223372036854775808 := by simp only [fOdds]; rw [if_neg (fun z => by rw [h_8] at z; exact absurd z.1 (by decide))]
    refine jg_ldc2 kl_X4_80 dX4_odds_27 ?_
    exact jg_lret dX4_odds_30 ⟨_, rfl, ⟨by rw [e9], hI, RF.rf⟩⟩
  · obtain ⟨x, -, hx, rfl⟩ := inR_nat (lo := 0) (hi := 9999) (by omega) h_8 (by omega)
    refine jg_iload_n dX4_odds_11 rfl rfl ?_
    refine jg_iconst (v := 0) dX4_odds_12 (by decide) ?_
    refine jg_iconst (v := 1) dX4_odds_13 (by decide) ?_
    refine jg_callS (c4_within E u w 0 1) me_X4_within ml_X4_82 rfl (by decide) (by decide) rfl (Nat.le_of_ble_eq_true rfl) dX4_odds_14 (kk_I (fun r_14 u_14 h_14 => ?_))
    obtain ⟨rfl, rfl⟩ := h_14
    refine jb_if_eq 27 dX4_odds_17 (by decide) (fun h_17 => ?_) (fun h_17 => ?_)
    · have e9 : (fOdds g (nI x) w).1 = -9223372036854775808 := by simp only [fOdds]; rw [if_neg (fun z => by rw [h_17] at z; exact absurd z.2 (by decide))]
      refine jg_ldc2 kl_X4_80 dX4_odds_27 ?_
      exact jg_lret dX4_odds_30 ⟨_, rfl, ⟨by rw [e9], hI, RF.rf⟩⟩
    · have hc9 : inR (nI x) 0 9999 = true ∧ inR w 0 1 = true := ⟨h_8, h_17⟩
      refine jg_aload_n dX4_odds_20 rfl rfl ?_
      refine jg_geti fk_X4_86 sh_57 rfl dX4_odds_21 ?_
      refine jg_top (y := nI (pn g.1)) (hI.1.1) ?_
      refine jn_if_ne (pn g.1) rfl (by omega) 31 dX4_odds_24 (by decide) (fun h_24 => ?_) (fun h_24 => ?_)
      · have hT := fc_pos (pn g.1) (by omega)
        have hS := sm_le g.1 x (fcN (pn g.1))
        refine jg_aload_n dX4_odds_31 rfl rfl ?_
        refine jg_iload_n dX4_odds_32 rfl rfl ?_
        refine jg_callV (c4_findLeast E u g.1 hO.1 (by omega) (fun a ha => (hO.2.1 a ha).2) hI.1 x hx) me_X4_findLeast ml_X4_230 sh_57 rfl rfl (by decide) (by decide) rfl (Nat.le_of_ble_eq_true rfl) dX4_odds_33 (kk_V (fun u_33 h_33 => ?_))
        obtain ⟨hLR, hM2, e28, e29, e30, e77⟩ := h_33
        have hJ := hI.lr hLR hM2
        refine jg_aload_n dX4_odds_36 rfl rfl ?_
        refine jg_geti fk_X4_223 sh_57 rfl dX4_odds_37 ?_
        refine jg_top (y := nI (smF g.1 x (fcN (pn g.1)))) (e30) ?_
        refine jg_i2l (v := lN (smF g.1 x (fcN (pn g.1)))) dX4_odds_40 (nI_l (by omega)) ?_
        refine jg_aload_n dX4_odds_41 rfl rfl ?_
        refine jg_geti fk_X4_220 sh_57 rfl dX4_odds_42 ?_
        refine jg_top (y := nI (fcN (pn g.1))) (e29) ?_
        refine jg_i2l (v := lN (fcN (pn g.1))) dX4_odds_45 (nI_l (by omega)) ?_
        refine jg_iload_n dX4_odds_46 rfl rfl ?_
        refine jg_callS (c4_inLeastTerms E u_33 (smF g.1 x (fcN (pn g.1))) (fcN (pn g.1)) w hT.1 hT.2 (by omega)) me_X4_inLeastTerms ml_X4_237 rfl (by decide) (by decide) rfl (Nat.le_of_ble_eq_true rfl) dX4_odds_47 (kk_L (fun r_47 u_47 h_47 => ?_))
        obtain ⟨rfl, rfl⟩ := h_47
        exact jg_lret dX4_odds_50 ⟨_, rfl, ⟨by simp only [fOdds]; rw [if_pos hc9, if_neg h_24, cl_nI (by omega)]; by_cases e : w = 0; (rw [if_pos e, if_pos e]); (rw [if_neg e, if_neg e]), hJ, hLR.rf2⟩⟩
      · have e9 : (fOdds g (nI x) w).1 = -9223372036854775808 := by simp only [fOdds]; rw [if_pos hc9, if_pos h_24]
        refine jg_ldc2 kl_X4_80 dX4_odds_27 ?_
        exact jg_lret dX4_odds_30 ⟨_, rfl, ⟨by rw [e9], hI, RF.rf⟩⟩
