set_option maxHeartbeats 4000000 in
set_option maxRecDepth 20000 in
theorem c_X3_init (D : va_G) (c3 : C3) (h0 : Nat) : ICon D c3 yX3_init cX3_init 2 { frames := 3, cells := 56, slots := 593, locals := 52 } [(h0, .inr (3, [.null, .null, .null, .null, .null, .null, .null, .int 0, .int 0, .int 0]))] h0 (fun ws => ∃ al : Nat → Nat, al 0 = h0 ∧ ws = wAO c3 al) := by
  refine ICon.of (lv := [some (.ref h0), none]) (by decide +kernel) rfl (Nat.le_of_ble_eq_true rfl) rfl ?_
  refine ji_aload_n dX3_init_0 rfl rfl ?_
  refine ji_obj oi_X3 oi_w (Nat.le_of_ble_eq_true rfl) (Nat.le_of_ble_eq_true rfl) dX3_init_1 ?_
  refine ji_aload_n dX3_init_4 rfl rfl ?_
  refine ji_new nw_X3_11 (Nat.le_of_ble_eq_true rfl) (Nat.le_of_ble_eq_true rfl) dX3_init_5 (fun q5 => ?_)
  refine ji_dup dX3_init_8 rfl ?_
  refine ji_call (c_X0_init D c3 q5) mi_X0 rfl mj_X0 (fun U h => h.1.1) ⟨Nat.le_of_ble_eq_true rfl, Nat.le_of_ble_eq_true rfl⟩ ⟨Nat.le_of_ble_eq_true rfl, Nat.le_of_ble_eq_true rfl⟩ (Nat.le_of_ble_eq_true rfl) dX3_init_9 (fun w9 k9 => ?_)
  obtain ⟨al9, rfl⟩ := k9
  refine ji_put (fs' := [.ref q5, .null, .null, .null, .null, .null, .null, .int 0, .int 0, .int 0]) fq_X3_14 rfl rfl (Nat.le_of_ble_eq_true rfl) rfl dX3_init_12 ?_
  refine ji_aload_n dX3_init_15 rfl rfl ?_
  refine ji_new nw_X3_11 (Nat.le_of_ble_eq_true rfl) (Nat.le_of_ble_eq_true rfl) dX3_init_16 (fun q16 => ?_)
  refine ji_dup dX3_init_19 rfl ?_
  refine ji_call (c_X0_init D c3 q16) mi_X0 rfl mj_X0 (fun U h => h.1.1) ⟨Nat.le_of_ble_eq_true rfl, Nat.le_of_ble_eq_true rfl⟩ ⟨Nat.le_of_ble_eq_true rfl, Nat.le_of_ble_eq_true rfl⟩ (Nat.le_of_ble_eq_true rfl) dX3_init_20 (fun w20 k20 => ?_)
  obtain ⟨al20, rfl⟩ := k20
  refine ji_put (fs' := [.ref q5, .ref q16, .null, .null, .null, .null, .null, .int 0, .int 0, .int 0]) fq_X3_18 rfl rfl (Nat.le_of_ble_eq_true rfl) rfl dX3_init_23 ?_
  refine ji_aload_n dX3_init_26 rfl rfl ?_
  refine ji_new nw_X3_21 (Nat.le_of_ble_eq_true rfl) (Nat.le_of_ble_eq_true rfl) dX3_init_27 (fun q27 => ?_)
  refine ji_dup dX3_init_30 rfl ?_
  refine ji_call (c_X1_init D c3 q27) mi_X1 rfl mj_X1 (fun U h => h.1.2.1) ⟨Nat.le_of_ble_eq_true rfl, Nat.le_of_ble_eq_true rfl⟩ ⟨Nat.le_of_ble_eq_true rfl, Nat.le_of_ble_eq_true rfl⟩ (Nat.le_of_ble_eq_true rfl) dX3_init_31 (fun w31 k31 => ?_)
  obtain ⟨p31, al31, c31, rfl⟩ := k31
  refine ji_put (fs' := [.ref q5, .ref q16, .ref q27, .null, .null, .null, .null, .int 0, .int 0, .int 0]) fq_X3_24 rfl rfl (Nat.le_of_ble_eq_true rfl) rfl dX3_init_34 ?_
  refine ji_aload_n dX3_init_37 rfl rfl ?_
  refine ji_iconst (v := 4) dX3_init_38 (by decide) ?_
  refine ji_anew cl_sheet (N := 4) (by decide) rfl (by decide) (Nat.le_of_ble_eq_true rfl) (Nat.le_of_ble_eq_true rfl) dX3_init_39 (fun q39 => ?_)
  refine ji_put (fs' := [.ref q5, .ref q16, .ref q27, .ref q39, .null, .null, .null, .int 0, .int 0, .int 0]) fq_X3_30 rfl rfl (Nat.le_of_ble_eq_true rfl) rfl dX3_init_42 ?_
  refine ji_aload_n dX3_init_45 rfl rfl ?_
  refine ji_bipush (v := 6) dX3_init_46 (by decide) ?_
  refine ji_newi (N := 6) (by decide) rfl ai_w (by decide) (Nat.le_of_ble_eq_true rfl) (Nat.le_of_ble_eq_true rfl) dX3_init_48 (fun q48 => ?_)
  refine ji_put (fs' := [.ref q5, .ref q16, .ref q27, .ref q39, .ref q48, .null, .null, .int 0, .int 0, .int 0]) fq_X3_34 rfl rfl (Nat.le_of_ble_eq_true rfl) rfl dX3_init_50 ?_
  refine ji_aload_n dX3_init_53 rfl rfl ?_
  refine ji_bipush (v := 8) dX3_init_54 (by decide) ?_
  refine ji_newi (N := 8) (by decide) rfl ai_w (by decide) (Nat.le_of_ble_eq_true rfl) (Nat.le_of_ble_eq_true rfl) dX3_init_56 (fun q56 => ?_)
  refine ji_put (fs' := [.ref q5, .ref q16, .ref q27, .ref q39, .ref q48, .ref q56, .null, .int 0, .int 0, .int 0]) fq_X3_38 rfl rfl (Nat.le_of_ble_eq_true rfl) rfl dX3_init_58 ?_
  refine ji_aload_n dX3_init_61 rfl rfl ?_
  refine ji_bipush (v := 8) dX3_init_62 (by decide) ?_
  refine ji_newi (N := 8) (by decide) rfl ai_w (by decide) (Nat.le_of_ble_eq_true rfl) (Nat.le_of_ble_eq_true rfl) dX3_init_64 (fun q64 => ?_)
  refine ji_put (fs' := [.ref q5, .ref q16, .ref q27, .ref q39, .ref q48, .ref q56, .ref q64, .int 0, .int 0, .int 0]) fq_X3_41 rfl rfl (Nat.le_of_ble_eq_true rfl) rfl dX3_init_66 ?_
  refine ji_w (ws' := (h0, .inr (3, [.ref q5, .ref q16, .ref q27, .ref q39, .ref q48, .ref q56, .ref q64, .int 0, .int 0, .int 0])) :: (q39, .inl (c3.2.1, 4, .inr (.inr (.inr (.inr (fun _ => none)))))) :: (((((([] ++ wPl c3 q5 al9) ++ wPl c3 q16 al20) ++ wRdr c3 q27 p31 al31 c31) ++ [(q48, .inl (c3.1, 6, .inl (fun _ => 0)))]) ++ [(q56, .inl (c3.1, 8, .inl (fun _ => 0)))]) ++ [(q64, .inl (c3.1, 8, .inl (fun _ => 0)))])) rfl ?_
  refine ji_iconst (v := 0) dX3_init_69 (by decide) ?_
  refine ji_istore_n dX3_init_70 rfl (by decide) rfl ?_
  refine ji_iload_n dX3_init_71 rfl rfl ?_
  refine ji_iconst (v := 4) dX3_init_72 (by decide) ?_
  refine ji_ge_n 95 (by decide) dX3_init_73 (by decide) ?_
  refine ji_aload_n dX3_init_76 rfl rfl ?_
  refine ji_get fk_X3_30 rfl dX3_init_77 ?_
  refine ji_iload_n dX3_init_80 rfl rfl ?_
  refine ji_new nw_X3_28 (Nat.le_of_ble_eq_true rfl) (Nat.le_of_ble_eq_true rfl) dX3_init_81 (fun q81 => ?_)
  refine ji_dup dX3_init_84 rfl ?_
  refine ji_call (c_X2_init D c3 q81) mi_X2 rfl mj_X2 (fun U h => h.1.2.2.2) ⟨Nat.le_of_ble_eq_true rfl, Nat.le_of_ble_eq_true rfl⟩ ⟨Nat.le_of_ble_eq_true rfl, Nat.le_of_ble_eq_true rfl⟩ (Nat.le_of_ble_eq_true rfl) dX3_init_85 (fun w85 k85 => ?_)
  obtain ⟨c85, rfl⟩ := k85
  refine ji_rot ?_
  refine ji_aast 1 2 rfl rfl (by unfold vp_in; decide) (ws' := (h0, .inr (3, [.ref q5, .ref q16, .ref q27, .ref q39, .ref q48, .ref q56, .ref q64, .int 0, .int 0, .int 0])) :: (q39, .inl (c3.2.1, 4, .inr (.inr (.inr (.inr (va_up (fun _ => none) ((0 : Int32)).toNatClampNeg (some q81))))))) :: (wSt c3 q81 c85 ++ (((((([] ++ wPl c3 q5 al9) ++ wPl c3 q16 al20) ++ wRdr c3 q27 p31 al31 c31) ++ [(q48, .inl (c3.1, 6, .inl (fun _ => 0)))]) ++ [(q56, .inl (c3.1, 8, .inl (fun _ => 0)))]) ++ [(q64, .inl (c3.1, 8, .inl (fun _ => 0)))]))) rfl dX3_init_88 ?_
  refine ji_iinc (v := 1) dX3_init_89 rfl (by decide) (by decide) rfl ?_
  refine ji_goto 71 dX3_init_92 (by decide) ?_
  refine ji_iload_n dX3_init_71 rfl rfl ?_
  refine ji_iconst (v := 4) dX3_init_72 (by decide) ?_
  refine ji_ge_n 95 (by decide) dX3_init_73 (by decide) ?_
  refine ji_aload_n dX3_init_76 rfl rfl ?_
  refine ji_get fk_X3_30 rfl dX3_init_77 ?_
  refine ji_iload_n dX3_init_80 rfl rfl ?_
  refine ji_new nw_X3_28 (Nat.le_of_ble_eq_true rfl) (Nat.le_of_ble_eq_true rfl) dX3_init_81 (fun q81_1 => ?_)
  refine ji_dup dX3_init_84 rfl ?_
  refine ji_call (c_X2_init D c3 q81_1) mi_X2 rfl mj_X2 (fun U h => h.1.2.2.2) ⟨Nat.le_of_ble_eq_true rfl, Nat.le_of_ble_eq_true rfl⟩ ⟨Nat.le_of_ble_eq_true rfl, Nat.le_of_ble_eq_true rfl⟩ (Nat.le_of_ble_eq_true rfl) dX3_init_85 (fun w85_1 k85_1 => ?_)
  obtain ⟨c85_1, rfl⟩ := k85_1
  refine ji_rot ?_
  refine ji_aast 1 2 rfl rfl (by unfold vp_in; decide) (ws' := (h0, .inr (3, [.ref q5, .ref q16, .ref q27, .ref q39, .ref q48, .ref q56, .ref q64, .int 0, .int 0, .int 0])) :: (q39, .inl (c3.2.1, 4, .inr (.inr (.inr (.inr (va_up (va_up (fun _ => none) ((0 : Int32)).toNatClampNeg (some q81)) ((1 : Int32)).toNatClampNeg (some q81_1))))))) :: (wSt c3 q81_1 c85_1 ++ (wSt c3 q81 c85 ++ (((((([] ++ wPl c3 q5 al9) ++ wPl c3 q16 al20) ++ wRdr c3 q27 p31 al31 c31) ++ [(q48, .inl (c3.1, 6, .inl (fun _ => 0)))]) ++ [(q56, .inl (c3.1, 8, .inl (fun _ => 0)))]) ++ [(q64, .inl (c3.1, 8, .inl (fun _ => 0)))])))) rfl dX3_init_88 ?_
  refine ji_iinc (v := 2) dX3_init_89 rfl (by decide) (by decide) rfl ?_
  refine ji_goto 71 dX3_init_92 (by decide) ?_
  refine ji_iload_n dX3_init_71 rfl rfl ?_
  refine ji_iconst (v := 4) dX3_init_72 (by decide) ?_
  refine ji_ge_n 95 (by decide) dX3_init_73 (by decide) ?_
  refine ji_aload_n dX3_init_76 rfl rfl ?_
  refine ji_get fk_X3_30 rfl dX3_init_77 ?_
  refine ji_iload_n dX3_init_80 rfl rfl ?_
  refine ji_new nw_X3_28 (Nat.le_of_ble_eq_true rfl) (Nat.le_of_ble_eq_true rfl) dX3_init_81 (fun q81_2 => ?_)
  refine ji_dup dX3_init_84 rfl ?_
  refine ji_call (c_X2_init D c3 q81_2) mi_X2 rfl mj_X2 (fun U h => h.1.2.2.2) ⟨Nat.le_of_ble_eq_true rfl, Nat.le_of_ble_eq_true rfl⟩ ⟨Nat.le_of_ble_eq_true rfl, Nat.le_of_ble_eq_true rfl⟩ (Nat.le_of_ble_eq_true rfl) dX3_init_85 (fun w85_2 k85_2 => ?_)
  obtain ⟨c85_2, rfl⟩ := k85_2
  refine ji_rot ?_
  refine ji_aast 1 2 rfl rfl (by unfold vp_in; decide) (ws' := (h0, .inr (3, [.ref q5, .ref q16, .ref q27, .ref q39, .ref q48, .ref q56, .ref q64, .int 0, .int 0, .int 0])) :: (q39, .inl (c3.2.1, 4, .inr (.inr (.inr (.inr (va_up (va_up (va_up (fun _ => none) ((0 : Int32)).toNatClampNeg (some q81)) ((1 : Int32)).toNatClampNeg (some q81_1)) ((2 : Int32)).toNatClampNeg (some q81_2))))))) :: (wSt c3 q81_2 c85_2 ++ (wSt c3 q81_1 c85_1 ++ (wSt c3 q81 c85 ++ (((((([] ++ wPl c3 q5 al9) ++ wPl c3 q16 al20) ++ wRdr c3 q27 p31 al31 c31) ++ [(q48, .inl (c3.1, 6, .inl (fun _ => 0)))]) ++ [(q56, .inl (c3.1, 8, .inl (fun _ => 0)))]) ++ [(q64, .inl (c3.1, 8, .inl (fun _ => 0)))]))))) rfl dX3_init_88 ?_
  refine ji_iinc (v := 3) dX3_init_89 rfl (by decide) (by decide) rfl ?_
  refine ji_goto 71 dX3_init_92 (by decide) ?_
  refine ji_iload_n dX3_init_71 rfl rfl ?_
  refine ji_iconst (v := 4) dX3_init_72 (by decide) ?_
  refine ji_ge_n 95 (by decide) dX3_init_73 (by decide) ?_
  refine ji_aload_n dX3_init_76 rfl rfl ?_
  refine ji_get fk_X3_30 rfl dX3_init_77 ?_
  refine ji_iload_n dX3_init_80 rfl rfl ?_
  refine ji_new nw_X3_28 (Nat.le_of_ble_eq_true rfl) (Nat.le_of_ble_eq_true rfl) dX3_init_81 (fun q81_3 => ?_)
  refine ji_dup dX3_init_84 rfl ?_
  refine ji_call (c_X2_init D c3 q81_3) mi_X2 rfl mj_X2 (fun U h => h.1.2.2.2) ⟨Nat.le_of_ble_eq_true rfl, Nat.le_of_ble_eq_true rfl⟩ ⟨Nat.le_of_ble_eq_true rfl, Nat.le_of_ble_eq_true rfl⟩ (Nat.le_of_ble_eq_true rfl) dX3_init_85 (fun w85_3 k85_3 => ?_)
  obtain ⟨c85_3, rfl⟩ := k85_3
  refine ji_rot ?_
  refine ji_aast 1 2 rfl rfl (by unfold vp_in; decide) (ws' := (h0, .inr (3, [.ref q5, .ref q16, .ref q27, .ref q39, .ref q48, .ref q56, .ref q64, .int 0, .int 0, .int 0])) :: (q39, .inl (c3.2.1, 4, .inr (.inr (.inr (.inr (va_up (va_up (va_up (va_up (fun _ => none) ((0 : Int32)).toNatClampNeg (some q81)) ((1 : Int32)).toNatClampNeg (some q81_1)) ((2 : Int32)).toNatClampNeg (some q81_2)) ((3 : Int32)).toNatClampNeg (some q81_3))))))) :: (wSt c3 q81_3 c85_3 ++ (wSt c3 q81_2 c85_2 ++ (wSt c3 q81_1 c85_1 ++ (wSt c3 q81 c85 ++ (((((([] ++ wPl c3 q5 al9) ++ wPl c3 q16 al20) ++ wRdr c3 q27 p31 al31 c31) ++ [(q48, .inl (c3.1, 6, .inl (fun _ => 0)))]) ++ [(q56, .inl (c3.1, 8, .inl (fun _ => 0)))]) ++ [(q64, .inl (c3.1, 8, .inl (fun _ => 0)))])))))) rfl dX3_init_88 ?_
  refine ji_iinc (v := 4) dX3_init_89 rfl (by decide) (by decide) rfl ?_
  refine ji_goto 71 dX3_init_92 (by decide) ?_
  refine ji_iload_n dX3_init_71 rfl rfl ?_
  refine ji_iconst (v := 4) dX3_init_72 (by decide) ?_
  refine ji_ge_y 95 (by decide) dX3_init_73 (by decide) ?_
  rw [sh4_f]
  exact ji_ret dX3_init_95 rfl rfl ⟨fun k => ([h0, q5, al9 1, al9 2, al9 3, al9 4, al9 5, al9 6, al9 7, al9 8, al9 9, al9 10, al9 11, al9 12, al9 13, q16, al20 1, al20 2, al20 3, al20 4, al20 5, al20 6, al20 7, al20 8, al20 9, al20 10, al20 11, al20 12, al20 13, q27, p31, al31 1, al31 2, al31 3, al31 4, al31 5, al31 6, al31 7, al31 8, al31 9, al31 10, al31 11, al31 12, al31 13, c31, q39, q81, c85, q81_1, c85_1, q81_2, c85_2, q81_3, c85_3, q48, q56, q64] : List Nat).getD k 0, rfl, rfl⟩
