set_option maxHeartbeats 4000000 in
set_option maxRecDepth 20000 in
theorem c0_stepOrder (E : gT) {b : Nat} (hb : isPl b) (u : Mm) (n : Nat) (o : Nat → Nat) (h1 : 1 ≤ n) (hn : n ≤ 6) (hu : u b 0 = nI n) (ho : ∀ x, x < n → u (b + 7) x = nI (o x)) (hB : ∀ x, x < n → o x < 6) : Con E yX0_stepOrder cX0_stepOrder 6 none 1 [.ref (E.2.1 b)] u (kV (fun u2 => (∀ k, k ≠ b + 7 → u2 k = u k) ∧ ∀ x, x < n → u2 (b + 7) x = nI (nextP n o x))) := by
  refine Con.of (lv := [some (.ref (E.2.1 b)), none, none, none, none, none]) (by decide +kernel) (Nat.le_of_ble_eq_true rfl) rfl ?_
  refine jg_aload_n dX0_stepOrder_0 rfl rfl ?_
  refine jg_getr fk_X0_26 (pl_0 hb) rfl dX0_stepOrder_1 ?_
  refine jg_iconst (v := 1) dX0_stepOrder_4 (by decide) ?_
  refine jg_aald 1 (pl_5 hb) rfl (Nat.le_of_ble_eq_true rfl) rfl dX0_stepOrder_5 ?_
  refine jg_astore_n dX0_stepOrder_6 rfl (by decide) rfl ?_
  refine jg_aload_n dX0_stepOrder_7 rfl rfl ?_
  refine jg_geti fk_X0_41 (pl_0 hb) rfl dX0_stepOrder_8 ?_
  refine jg_top (y := nI n) (hu) ?_
  refine jg_iconst (v := 2) dX0_stepOrder_11 (by decide) ?_
  refine jg_isubE (z := dI (n - 1)) dX0_stepOrder_12 (dI_2 h1) ?_
  refine jg_istore_n dX0_stepOrder_13 rfl (by decide) rfl ?_
  have cut_14 : ∀ (m t : Nat), t < m → t ≤ n - 1 → kf o t = kf o (n - 1) → G E cX0_stepOrder 6 (yX0_stepOrder).cls none 1 (kV (fun u2 => (∀ k, k ≠ b + 7 → u2 k = u k) ∧ ∀ x, x < n → u2 (b + 7) x = nI (nextP n o x))) 14 [some (.ref (E.2.1 b)), some (.ref (E.2.1 (b + 7))), some (.int (dI t)), none, none, none] [] u := by
    intro m
    induction m with
    | zero => intro t h; omega
    | succ m ih =>
      intro t hm ht hk
      refine jg_iload_n dX0_stepOrder_14 rfl rfl ?_
      refine jg_if_lt 35 dX0_stepOrder_15 (by decide) (fun h_15 => ?_) (fun h_15 => ?_)
      · obtain rfl : t = 0 := by rcases t with _ | s; rfl; rw [dI_s] at h_15; exact absurd h_15 (nI_pos (by omega))
        refine jg_iload_n dX0_stepOrder_35 rfl rfl ?_
        refine jg_if_ge 40 dX0_stepOrder_36 (by decide) (fun h_36 => absurd h_36 (by decide)) (fun h_36 => ?_)
        exact jg_vret dX0_stepOrder_39 ⟨rfl, ⟨fun _ _ => rfl, fun x hx => by unfold nextP; rw [← hk]; exact ho x hx⟩⟩
      · obtain ⟨s, rfl⟩ : ∃ s, t = s + 1 := by rcases t with _ | s; exact absurd dI_0 h_15; exact ⟨s, rfl⟩
        rw [dI_s]
        have hs0 := hB s (by omega)
        have hs1 := hB (s + 1) (by omega)
        refine jg_aload_n dX0_stepOrder_18 rfl rfl ?_
        refine jg_iload_n dX0_stepOrder_19 rfl rfl ?_
        refine jg_ld s (pl_7 hb) (by omega) (rfl) dX0_stepOrder_20 ?_
        refine jg_top (y := nI (o s)) (ho s (by omega)) ?_
        refine jg_aload_n dX0_stepOrder_21 rfl rfl ?_
        refine jg_iload_n dX0_stepOrder_22 rfl rfl ?_
        refine jg_iconst (v := 1) dX0_stepOrder_23 (by decide) ?_
        refine jg_iaddE (z := nI (s + 1)) dX0_stepOrder_24 (nI_add s 1) ?_
        refine jg_ld (s + 1) (pl_7 hb) (by omega) (rfl) dX0_stepOrder_25 ?_
        refine jg_top (y := nI (o (s + 1))) (ho (s + 1) (by omega)) ?_
        refine jn_icmp_le (o s) (o (s + 1)) rfl rfl (by omega) (by omega) 35 dX0_stepOrder_26 (by decide) (fun h_26 => ?_) (fun h_26 => ?_)
        · have ek : kf o (n - 1) = some s := by rw [← hk]; show (if _ then _ else _) = _; rw [if_neg (by omega)]
          refine jg_iload_n dX0_stepOrder_35 rfl rfl ?_
          refine jg_if_ge 40 dX0_stepOrder_36 (by decide) (fun h_36 => ?_) (fun h_36 => absurd h_36 (fun q => q (nI_pos' (by omega))))
          refine jg_aload_n dX0_stepOrder_40 rfl rfl ?_
          refine jg_geti fk_X0_41 (pl_0 hb) rfl dX0_stepOrder_41 ?_
          refine jg_top (y := nI n) (hu) ?_
          refine jg_iconst (v := 1) dX0_stepOrder_44 (by decide) ?_
          refine jg_isubE (z := nI (n - 1)) dX0_stepOrder_45 (pk_sub (a := n) (b := 1) h1) ?_
          refine jg_istore_n dX0_stepOrder_46 rfl (by decide) rfl ?_
          have cut_47 : ∀ (m j : Nat), j < m → s + 1 ≤ j → j ≤ n - 1 → jf o s j = jf o s (n - 1) → G E cX0_stepOrder 6 (yX0_stepOrder).cls none 1 (kV (fun u2 => (∀ k, k ≠ b + 7 → u2 k = u k) ∧ ∀ x, x < n → u2 (b + 7) x = nI (nextP n o x))) 47 [some (.ref (E.2.1 b)), some (.ref (E.2.1 (b + 7))), some (.int (nI s)), some (.int (nI j)), none, none] [] u := by
            intro m
            induction m with
            | zero => intro j h; omega
            | succ m ih2 =>
              intro j hm2 hj1 hj2 hjf
              refine jg_iload_n dX0_stepOrder_47 rfl rfl ?_
              refine jg_iload_n dX0_stepOrder_48 rfl rfl ?_
              refine jg_iconst (v := 1) dX0_stepOrder_49 (by decide) ?_
              refine jg_iaddE (z := nI (s + 1)) dX0_stepOrder_50 (nI_add s 1) ?_
              refine jn_icmp_le j (s + 1) rfl rfl (by omega) (by omega) 69 dX0_stepOrder_51 (by decide) (fun h_51 => ?_) (fun h_51 => ?_)
              · have ej : jf o s (n - 1) = j := by rw [← hjf]; exact jf_stop (by omega) (Or.inl h_51)
                refine jg_aload_n dX0_stepOrder_69 rfl rfl ?_
                refine jg_iload_n dX0_stepOrder_70 rfl rfl ?_
                refine jg_iload_n dX0_stepOrder_71 rfl rfl ?_
                refine jg_callS (c0_swap E (pl_7 hb) u s j (by omega) (by omega)) me_X0_swap ml_X0_54 rfl (by decide) (by decide) rfl (Nat.le_of_ble_eq_true rfl) dX0_stepOrder_72 (kk_V (fun u_72 h_72 => ?_))
                obtain rfl := h_72
                refine jg_aload_n dX0_stepOrder_75 rfl rfl ?_
                refine jg_geti fk_X0_41 (pl_0 hb) rfl dX0_stepOrder_76 ?_
                refine jg_top (y := nI n) (by rw [s2_row (by omega), s2_row (by omega)]; exact hu) ?_
                refine jg_iconst (v := 1) dX0_stepOrder_79 (by decide) ?_
                refine jg_isubE (z := nI (n - 1)) dX0_stepOrder_80 (pk_sub (a := n) (b := 1) h1) ?_
                refine jg_istore dX0_stepOrder_81 (by decide) rfl ?_
                refine jg_iload_n dX0_stepOrder_83 rfl rfl ?_
                refine jg_iconst (v := 1) dX0_stepOrder_84 (by decide) ?_
                refine jg_iaddE (z := nI (s + 1)) dX0_stepOrder_85 (nI_add s 1) ?_
                refine jg_istore dX0_stepOrder_86 (by decide) rfl ?_
                have cut_88 : ∀ (M f l q : Nat) (oo : Nat → Nat) (v : Mm), f ≤ l + 1 → l + 1 < f + M → l < n → l ≤ f + q → (∀ k, k ≠ b + 7 → v k = u k) → (∀ x, x < n → v (b + 7) x = nI (oo x)) → rvF q oo f l = nextP n o → G E cX0_stepOrder 6 (yX0_stepOrder).cls none 1 (kV (fun u2 => (∀ k, k ≠ b + 7 → u2 k = u k) ∧ ∀ x, x < n → u2 (b + 7) x = nI (nextP n o x))) 88 [some (.ref (E.2.1 b)), some (.ref (E.2.1 (b + 7))), some (.int (nI s)), some (.int (nI j)), some (.int (nI l)), some (.int (nI f))] [] v := by
                  intro M
                  induction M with
                  | zero => intro f l q oo v h1 h2; omega
                  | succ M ih3 =>
                    intro f l q oo v hf hM hl hq hfr hv hT
                    refine jg_iload dX0_stepOrder_88 rfl ?_
                    refine jg_iload dX0_stepOrder_90 rfl ?_
                    refine jn_icmp_ge f l rfl rfl (by omega) (by omega) 112 dX0_stepOrder_92 (by decide) (fun h_92 => ?_) (fun h_92 => ?_)
                    · exact jg_vret dX0_stepOrder_112 ⟨rfl, ⟨hfr, fun x hx => by rw [hv x hx, ← hT, rv_stop (by omega)]⟩⟩
                    · refine jg_aload_n dX0_stepOrder_95 rfl rfl ?_
                      refine jg_iload dX0_stepOrder_96 rfl ?_
                      refine jg_iload dX0_stepOrder_98 rfl ?_
                      refine jg_callS (c0_swap E (pl_7 hb) v f l (by omega) (by omega)) me_X0_swap ml_X0_54 rfl (by decide) (by decide) rfl (Nat.le_of_ble_eq_true rfl) dX0_stepOrder_100 (kk_V (fun u_100 h_100 => ?_))
                      obtain rfl := h_100
                      refine jg_iinc (v := nI (l - 1)) dX0_stepOrder_103 rfl ((dI_m l).trans (by unfold dI; exact pk_sub (a := l) (b := 1) (by omega))) (by decide) rfl ?_
                      refine jg_iinc (v := nI (f + 1)) dX0_stepOrder_106 rfl (nI_1 f) (by decide) rfl ?_
                      refine jg_goto 88 dX0_stepOrder_109 (by decide) ?_
                      obtain ⟨q, rfl⟩ : ∃ z, q = z + 1 := ⟨q - 1, by omega⟩
                      exact ih3 (f + 1) (l - 1) q (swF oo f l) _ (by omega) (by omega) (by omega) (by omega) (fun k hk9 => by rw [s2_row hk9, s2_row hk9]; exact hfr k hk9) (sw_row hv (by omega) hl) (by rw [← hT, rv_go h_92])
                exact cut_88 (n + 1) (s + 1) (n - 1) n (swF o s j) _ (by omega) (by omega) (by omega) (by omega) (fun k hk9 => by rw [s2_row hk9, s2_row hk9]) (sw_row ho (by omega) (by omega)) (by unfold nextP; rw [ek]; show _ = rvF n (swF o s (jf o s (n - 1))) (s + 1) (n - 1); rw [ej])
              · have hj9 := hB j (by omega)
                refine jg_aload_n dX0_stepOrder_54 rfl rfl ?_
                refine jg_iload_n dX0_stepOrder_55 rfl rfl ?_
                refine jg_ld j (pl_7 hb) (by omega) (rfl) dX0_stepOrder_56 ?_
                refine jg_top (y := nI (o j)) (ho j (by omega)) ?_
                refine jg_aload_n dX0_stepOrder_57 rfl rfl ?_
                refine jg_iload_n dX0_stepOrder_58 rfl rfl ?_
                refine jg_ld s (pl_7 hb) (by omega) (rfl) dX0_stepOrder_59 ?_
                refine jg_top (y := nI (o s)) (ho s (by omega)) ?_
                refine jn_icmp_ge (o j) (o s) rfl rfl (by omega) (by omega) 69 dX0_stepOrder_60 (by decide) (fun h_60 => ?_) (fun h_60 => ?_)
                · have ej : jf o s (n - 1) = j := by rw [← hjf]; exact jf_stop (by omega) (Or.inr h_60)
                  refine jg_aload_n dX0_stepOrder_69 rfl rfl ?_
                  refine jg_iload_n dX0_stepOrder_70 rfl rfl ?_
                  refine jg_iload_n dX0_stepOrder_71 rfl rfl ?_
                  refine jg_callS (c0_swap E (pl_7 hb) u s j (by omega) (by omega)) me_X0_swap ml_X0_54 rfl (by decide) (by decide) rfl (Nat.le_of_ble_eq_true rfl) dX0_stepOrder_72 (kk_V (fun u_72 h_72 => ?_))
                  obtain rfl := h_72
                  refine jg_aload_n dX0_stepOrder_75 rfl rfl ?_
                  refine jg_geti fk_X0_41 (pl_0 hb) rfl dX0_stepOrder_76 ?_
                  refine jg_top (y := nI n) (by rw [s2_row (by omega), s2_row (by omega)]; exact hu) ?_
                  refine jg_iconst (v := 1) dX0_stepOrder_79 (by decide) ?_
                  refine jg_isubE (z := nI (n - 1)) dX0_stepOrder_80 (pk_sub (a := n) (b := 1) h1) ?_
                  refine jg_istore dX0_stepOrder_81 (by decide) rfl ?_
                  refine jg_iload_n dX0_stepOrder_83 rfl rfl ?_
                  refine jg_iconst (v := 1) dX0_stepOrder_84 (by decide) ?_
                  refine jg_iaddE (z := nI (s + 1)) dX0_stepOrder_85 (nI_add s 1) ?_
                  refine jg_istore dX0_stepOrder_86 (by decide) rfl ?_
                  have cut_88 : ∀ (M f l q : Nat) (oo : Nat → Nat) (v : Mm), f ≤ l + 1 → l + 1 < f + M → l < n → l ≤ f + q → (∀ k, k ≠ b + 7 → v k = u k) → (∀ x, x < n → v (b + 7) x = nI (oo x)) → rvF q oo f l = nextP n o → G E cX0_stepOrder 6 (yX0_stepOrder).cls none 1 (kV (fun u2 => (∀ k, k ≠ b + 7 → u2 k = u k) ∧ ∀ x, x < n → u2 (b + 7) x = nI (nextP n o x))) 88 [some (.ref (E.2.1 b)), some (.ref (E.2.1 (b + 7))), some (.int (nI s)), some (.int (nI j)), some (.int (nI l)), some (.int (nI f))] [] v := by
                    intro M
                    induction M with
                    | zero => intro f l q oo v h1 h2; omega
                    | succ M ih3 =>
                      intro f l q oo v hf hM hl hq hfr hv hT
                      refine jg_iload dX0_stepOrder_88 rfl ?_
                      refine jg_iload dX0_stepOrder_90 rfl ?_
                      refine jn_icmp_ge f l rfl rfl (by omega) (by omega) 112 dX0_stepOrder_92 (by decide) (fun h_92 => ?_) (fun h_92 => ?_)
                      · exact jg_vret dX0_stepOrder_112 ⟨rfl, ⟨hfr, fun x hx => by rw [hv x hx, ← hT, rv_stop (by omega)]⟩⟩
                      · refine jg_aload_n dX0_stepOrder_95 rfl rfl ?_
                        refine jg_iload dX0_stepOrder_96 rfl ?_
                        refine jg_iload dX0_stepOrder_98 rfl ?_
                        refine jg_callS (c0_swap E (pl_7 hb) v f l (by omega) (by omega)) me_X0_swap ml_X0_54 rfl (by decide) (by decide) rfl (Nat.le_of_ble_eq_true rfl) dX0_stepOrder_100 (kk_V (fun u_100 h_100 => ?_))
                        obtain rfl := h_100
                        refine jg_iinc (v := nI (l - 1)) dX0_stepOrder_103 rfl ((dI_m l).trans (by unfold dI; exact pk_sub (a := l) (b := 1) (by omega))) (by decide) rfl ?_
                        refine jg_iinc (v := nI (f + 1)) dX0_stepOrder_106 rfl (nI_1 f) (by decide) rfl ?_
                        refine jg_goto 88 dX0_stepOrder_109 (by decide) ?_
                        obtain ⟨q, rfl⟩ : ∃ z, q = z + 1 := ⟨q - 1, by omega⟩
                        exact ih3 (f + 1) (l - 1) q (swF oo f l) _ (by omega) (by omega) (by omega) (by omega) (fun k hk9 => by rw [s2_row hk9, s2_row hk9]; exact hfr k hk9) (sw_row hv (by omega) hl) (by rw [← hT, rv_go h_92])
                  exact cut_88 (n + 1) (s + 1) (n - 1) n (swF o s j) _ (by omega) (by omega) (by omega) (by omega) (fun k hk9 => by rw [s2_row hk9, s2_row hk9]) (sw_row ho (by omega) (by omega)) (by unfold nextP; rw [ek]; show _ = rvF n (swF o s (jf o s (n - 1))) (s + 1) (n - 1); rw [ej])
                · have ej : True := trivial
                  refine jg_iinc (v := nI (j - 1)) dX0_stepOrder_63 rfl ((dI_m j).trans (by unfold dI; exact pk_sub (a := j) (b := 1) (by omega))) (by decide) rfl ?_
                  refine jg_goto 47 dX0_stepOrder_66 (by decide) ?_
                  exact ih2 (j - 1) (by omega) (by omega) (by omega) (by rw [← hjf, jf_go (by omega) h_60])
          exact cut_47 (n + 1) (n - 1) (by omega) (by omega) (Nat.le_refl _) rfl
        · have ek : kf o (s + 1) = kf o s := by show (if _ then _ else _) = _; rw [if_pos h_26]
          refine jg_iinc (v := dI s) dX0_stepOrder_29 rfl (dI_m s) (by decide) rfl ?_
          refine jg_goto 14 dX0_stepOrder_32 (by decide) ?_
          exact ih s (by omega) (by omega) (by rw [← hk, ek])
  exact cut_14 (n + 1) (n - 1) (by omega) (Nat.le_refl _) rfl
