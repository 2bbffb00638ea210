set_option maxHeartbeats 4000000 in
set_option maxRecDepth 20000 in
theorem c_X0_init (D : va_G) (c3 : C3) (h0 : Nat) : ICon D c3 yX0_init cX0_init 1 { frames := 1, cells := 13, slots := 70, locals := 12 } [(h0, .inr (0, [.int 0, .null, .null, .null, .null, .null, .null, .null, .null, .null, .int 0, .int 0]))] h0 (fun ws => ∃ al, ws = wPl c3 h0 al) := by
  refine ICon.of (lv := [some (.ref h0)]) (by decide +kernel) rfl (Nat.le_of_ble_eq_true rfl) rfl ?_
  refine ji_aload_n dX0_init_0 rfl rfl ?_
  refine ji_obj oi_X0 oi_w (Nat.le_of_ble_eq_true rfl) (Nat.le_of_ble_eq_true rfl) dX0_init_1 ?_
  refine ji_aload_n dX0_init_4 rfl rfl ?_
  refine ji_bipush (v := 6) dX0_init_5 (by decide) ?_
  refine ji_newi (N := 6) (by decide) rfl ai_w (by decide) (Nat.le_of_ble_eq_true rfl) (Nat.le_of_ble_eq_true rfl) dX0_init_7 (fun q7 => ?_)
  refine ji_put (fs' := [.int 0, .ref q7, .null, .null, .null, .null, .null, .null, .null, .null, .int 0, .int 0]) fq_X0_9 rfl rfl (Nat.le_of_ble_eq_true rfl) rfl dX0_init_9 ?_
  refine ji_aload_n dX0_init_12 rfl rfl ?_
  refine ji_bipush (v := 6) dX0_init_13 (by decide) ?_
  refine ji_newi (N := 6) (by decide) rfl ai_w (by decide) (Nat.le_of_ble_eq_true rfl) (Nat.le_of_ble_eq_true rfl) dX0_init_15 (fun q15 => ?_)
  refine ji_put (fs' := [.int 0, .ref q7, .ref q15, .null, .null, .null, .null, .null, .null, .null, .int 0, .int 0]) fq_X0_15 rfl rfl (Nat.le_of_ble_eq_true rfl) rfl dX0_init_17 ?_
  refine ji_aload_n dX0_init_20 rfl rfl ?_
  refine ji_bipush (v := 6) dX0_init_21 (by decide) ?_
  refine ji_newi (N := 6) (by decide) rfl ai_w (by decide) (Nat.le_of_ble_eq_true rfl) (Nat.le_of_ble_eq_true rfl) dX0_init_23 (fun q23 => ?_)
  refine ji_put (fs' := [.int 0, .ref q7, .ref q15, .ref q23, .null, .null, .null, .null, .null, .null, .int 0, .int 0]) fq_X0_18 rfl rfl (Nat.le_of_ble_eq_true rfl) rfl dX0_init_25 ?_
  refine ji_aload_n dX0_init_28 rfl rfl ?_
  refine ji_bipush (v := 6) dX0_init_29 (by decide) ?_
  refine ji_newi (N := 6) (by decide) rfl ai_w (by decide) (Nat.le_of_ble_eq_true rfl) (Nat.le_of_ble_eq_true rfl) dX0_init_31 (fun q31 => ?_)
  refine ji_put (fs' := [.int 0, .ref q7, .ref q15, .ref q23, .ref q31, .null, .null, .null, .null, .null, .int 0, .int 0]) fq_X0_21 rfl rfl (Nat.le_of_ble_eq_true rfl) rfl dX0_init_33 ?_
  refine ji_aload_n dX0_init_36 rfl rfl ?_
  refine ji_iconst (v := 2) dX0_init_37 (by decide) ?_
  refine ji_bipush (v := 6) dX0_init_38 (by decide) ?_
  refine ji_mna cl_mna ai_w (Nat.le_of_ble_eq_true rfl) (Nat.le_of_ble_eq_true rfl) dX0_init_40 (fun q40 q40a q40b => ?_)
  refine ji_put (fs' := [.int 0, .ref q7, .ref q15, .ref q23, .ref q31, .ref q40, .null, .null, .null, .null, .int 0, .int 0]) fq_X0_26 rfl rfl (Nat.le_of_ble_eq_true rfl) rfl dX0_init_44 ?_
  refine ji_aload_n dX0_init_47 rfl rfl ?_
  refine ji_iconst (v := 2) dX0_init_48 (by decide) ?_
  refine ji_bipush (v := 6) dX0_init_49 (by decide) ?_
  refine ji_mna cl_mna ai_w (Nat.le_of_ble_eq_true rfl) (Nat.le_of_ble_eq_true rfl) dX0_init_51 (fun q51 q51a q51b => ?_)
  refine ji_put (fs' := [.int 0, .ref q7, .ref q15, .ref q23, .ref q31, .ref q40, .ref q51, .null, .null, .null, .int 0, .int 0]) fq_X0_29 rfl rfl (Nat.le_of_ble_eq_true rfl) rfl dX0_init_55 ?_
  refine ji_aload_n dX0_init_58 rfl rfl ?_
  refine ji_bipush (v := 6) dX0_init_59 (by decide) ?_
  refine ji_newi (N := 6) (by decide) rfl ai_w (by decide) (Nat.le_of_ble_eq_true rfl) (Nat.le_of_ble_eq_true rfl) dX0_init_61 (fun q61 => ?_)
  refine ji_put (fs' := [.int 0, .ref q7, .ref q15, .ref q23, .ref q31, .ref q40, .ref q51, .ref q61, .null, .null, .int 0, .int 0]) fq_X0_32 rfl rfl (Nat.le_of_ble_eq_true rfl) rfl dX0_init_63 ?_
  refine ji_aload_n dX0_init_66 rfl rfl ?_
  refine ji_bipush (v := 6) dX0_init_67 (by decide) ?_
  refine ji_newi (N := 6) (by decide) rfl ai_w (by decide) (Nat.le_of_ble_eq_true rfl) (Nat.le_of_ble_eq_true rfl) dX0_init_69 (fun q69 => ?_)
  refine ji_put (fs' := [.int 0, .ref q7, .ref q15, .ref q23, .ref q31, .ref q40, .ref q51, .ref q61, .ref q69, .null, .int 0, .int 0]) fq_X0_35 rfl rfl (Nat.le_of_ble_eq_true rfl) rfl dX0_init_71 ?_
  refine ji_aload_n dX0_init_74 rfl rfl ?_
  refine ji_bipush (v := 6) dX0_init_75 (by decide) ?_
  refine ji_newi (N := 6) (by decide) rfl ai_w (by decide) (Nat.le_of_ble_eq_true rfl) (Nat.le_of_ble_eq_true rfl) dX0_init_77 (fun q77 => ?_)
  refine ji_put (fs' := [.int 0, .ref q7, .ref q15, .ref q23, .ref q31, .ref q40, .ref q51, .ref q61, .ref q69, .ref q77, .int 0, .int 0]) fq_X0_38 rfl rfl (Nat.le_of_ble_eq_true rfl) rfl dX0_init_79 ?_
  exact ji_ret dX0_init_82 rfl rfl ⟨fun k => ([0, q7, q15, q23, q31, q40, q40a, q40b, q51, q51a, q51b, q61, q69, q77] : List Nat).getD k 0, rfl⟩
set_option maxHeartbeats 4000000 in
set_option maxRecDepth 20000 in
theorem c_X2_init (D : va_G) (c3 : C3) (h0 : Nat) : ICon D c3 yX2_init cX2_init 1 { frames := 1, cells := 1, slots := 60, locals := 12 } [(h0, .inr (2, [.int 0, .int 0, .int 0, .null]))] h0 (fun ws => ∃ qc, ws = wSt c3 h0 qc) := by
  refine ICon.of (lv := [some (.ref h0)]) (by decide +kernel) rfl (Nat.le_of_ble_eq_true rfl) rfl ?_
  refine ji_aload_n dX2_init_0 rfl rfl ?_
  refine ji_obj oi_X2 oi_w (Nat.le_of_ble_eq_true rfl) (Nat.le_of_ble_eq_true rfl) dX2_init_1 ?_
  refine ji_aload_n dX2_init_4 rfl rfl ?_
  refine ji_bipush (v := 60) dX2_init_5 (by decide) ?_
  refine ji_newi (N := 60) (by decide) rfl ai_w (by decide) (Nat.le_of_ble_eq_true rfl) (Nat.le_of_ble_eq_true rfl) dX2_init_7 (fun q7 => ?_)
  refine ji_put (fs' := [.int 0, .int 0, .int 0, .ref q7]) fq_X2_9 rfl rfl (Nat.le_of_ble_eq_true rfl) rfl dX2_init_9 ?_
  exact ji_ret dX2_init_12 rfl rfl ⟨q7, rfl⟩
set_option maxHeartbeats 4000000 in
set_option maxRecDepth 20000 in
theorem c_X1_init (D : va_G) (c3 : C3) (h0 : Nat) : ICon D c3 yX1_init cX1_init 1 { frames := 2, cells := 15, slots := 142, locals := 32 } [(h0, .inr (1, [.null, .null, .int 0, .int 0, .int 0]))] h0 (fun ws => ∃ q al qc, ws = wRdr c3 h0 q al qc) := by
  refine ICon.of (lv := [some (.ref h0)]) (by decide +kernel) rfl (Nat.le_of_ble_eq_true rfl) rfl ?_
  refine ji_aload_n dX1_init_0 rfl rfl ?_
  refine ji_obj oi_X1 oi_w (Nat.le_of_ble_eq_true rfl) (Nat.le_of_ble_eq_true rfl) dX1_init_1 ?_
  refine ji_aload_n dX1_init_4 rfl rfl ?_
  refine ji_new nw_X1_9 (Nat.le_of_ble_eq_true rfl) (Nat.le_of_ble_eq_true rfl) dX1_init_5 (fun q5 => ?_)
  refine ji_dup dX1_init_8 rfl ?_
  refine ji_call (c_X0_init D c3 q5) mi_X0 rfl mj_X0 (fun U h => h.1.2.2.1) ⟨Nat.le_of_ble_eq_true rfl, Nat.le_of_ble_eq_true rfl⟩ ⟨Nat.le_of_ble_eq_true rfl, Nat.le_of_ble_eq_true rfl⟩ (Nat.le_of_ble_eq_true rfl) dX1_init_9 (fun w9 k9 => ?_)
  obtain ⟨al9, rfl⟩ := k9
  refine ji_put (fs' := [.ref q5, .null, .int 0, .int 0, .int 0]) fq_X1_12 rfl rfl (Nat.le_of_ble_eq_true rfl) rfl dX1_init_12 ?_
  refine ji_aload_n dX1_init_15 rfl rfl ?_
  refine ji_bipush (v := 60) dX1_init_16 (by decide) ?_
  refine ji_newi (N := 60) (by decide) rfl ai_w (by decide) (Nat.le_of_ble_eq_true rfl) (Nat.le_of_ble_eq_true rfl) dX1_init_18 (fun q18 => ?_)
  refine ji_put (fs' := [.ref q5, .ref q18, .int 0, .int 0, .int 0]) fq_X1_18 rfl rfl (Nat.le_of_ble_eq_true rfl) rfl dX1_init_20 ?_
  exact ji_ret dX1_init_23 rfl rfl ⟨q5, al9, q18, rfl⟩
