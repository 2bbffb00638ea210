set_option maxHeartbeats 4000000 in
set_option maxRecDepth 20000 in
theorem c_X4_init (D : va_G) (c3 : C3) (h0 : Nat) : ICon D c3 yX4_init cX4_init 1 { frames := 1, cells := 22, slots := 396, locals := 12 } [(h0, .inr (4, [.int 0, .int 0, .null, .null, .null, .int 0, .int 0, .null, .null, .null, .null, .null, .int 0, .int 0, .null, .null, .null, .null, .null, .null, .null, .null, .int 0, .int 0, .null, .null, .null, .null, .int 0, .int 0, .int 0, .int 0, .null, .null]))] h0 (fun ws => ∃ al : Nat → Nat, al 57 = h0 ∧ ws = wMd c3 al) := by
  refine ICon.of (lv := [some (.ref h0)]) (by decide +kernel) rfl (Nat.le_of_ble_eq_true rfl) rfl ?_
  refine ji_aload_n dX4_init_0 rfl rfl ?_
  refine ji_obj oi_X4 oi_w (Nat.le_of_ble_eq_true rfl) (Nat.le_of_ble_eq_true rfl) dX4_init_1 ?_
  refine ji_aload_n dX4_init_4 rfl rfl ?_
  refine ji_iconst (v := 4) dX4_init_5 (by decide) ?_
  refine ji_newi (N := 4) (by decide) rfl ai_w (by decide) (Nat.le_of_ble_eq_true rfl) (Nat.le_of_ble_eq_true rfl) dX4_init_6 (fun q6 => ?_)
  refine ji_dup dX4_init_8 rfl ?_
  refine ji_iconst (v := 0) dX4_init_9 (by decide) ?_
  refine ji_bipush (v := -9) dX4_init_10 (by decide) ?_
  refine ji_iast 1 rfl (by unfold vp_in; decide) (ws' := (h0, .inr (4, [.int 0, .int 0, .null, .null, .null, .int 0, .int 0, .null, .null, .null, .null, .null, .int 0, .int 0, .null, .null, .null, .null, .null, .null, .null, .null, .int 0, .int 0, .null, .null, .null, .null, .int 0, .int 0, .int 0, .int 0, .null, .null])) :: ([] ++ [(q6, .inl (c3.1, 4, .inl (upd (fun _ => 0) ((0 : Int32)).toNatClampNeg (-9))))])) rfl dX4_init_12 ?_
  refine ji_dup dX4_init_13 rfl ?_
  refine ji_iconst (v := 1) dX4_init_14 (by decide) ?_
  refine ji_bipush (v := -9) dX4_init_15 (by decide) ?_
  refine ji_iast 1 rfl (by unfold vp_in; decide) (ws' := (h0, .inr (4, [.int 0, .int 0, .null, .null, .null, .int 0, .int 0, .null, .null, .null, .null, .null, .int 0, .int 0, .null, .null, .null, .null, .null, .null, .null, .null, .int 0, .int 0, .null, .null, .null, .null, .int 0, .int 0, .int 0, .int 0, .null, .null])) :: ([] ++ [(q6, .inl (c3.1, 4, .inl (upd (upd (fun _ => 0) ((0 : Int32)).toNatClampNeg (-9)) ((1 : Int32)).toNatClampNeg (-9))))])) rfl dX4_init_17 ?_
  refine ji_dup dX4_init_18 rfl ?_
  refine ji_iconst (v := 2) dX4_init_19 (by decide) ?_
  refine ji_bipush (v := -9) dX4_init_20 (by decide) ?_
  refine ji_iast 1 rfl (by unfold vp_in; decide) (ws' := (h0, .inr (4, [.int 0, .int 0, .null, .null, .null, .int 0, .int 0, .null, .null, .null, .null, .null, .int 0, .int 0, .null, .null, .null, .null, .null, .null, .null, .null, .int 0, .int 0, .null, .null, .null, .null, .int 0, .int 0, .int 0, .int 0, .null, .null])) :: ([] ++ [(q6, .inl (c3.1, 4, .inl (upd (upd (upd (fun _ => 0) ((0 : Int32)).toNatClampNeg (-9)) ((1 : Int32)).toNatClampNeg (-9)) ((2 : Int32)).toNatClampNeg (-9))))])) rfl dX4_init_22 ?_
  refine ji_dup dX4_init_23 rfl ?_
  refine ji_iconst (v := 3) dX4_init_24 (by decide) ?_
  refine ji_bipush (v := -9) dX4_init_25 (by decide) ?_
  refine ji_iast 1 rfl (by unfold vp_in; decide) (ws' := (h0, .inr (4, [.int 0, .int 0, .null, .null, .null, .int 0, .int 0, .null, .null, .null, .null, .null, .int 0, .int 0, .null, .null, .null, .null, .null, .null, .null, .null, .int 0, .int 0, .null, .null, .null, .null, .int 0, .int 0, .int 0, .int 0, .null, .null])) :: ([] ++ [(q6, .inl (c3.1, 4, .inl (upd (upd (upd (upd (fun _ => 0) ((0 : Int32)).toNatClampNeg (-9)) ((1 : Int32)).toNatClampNeg (-9)) ((2 : Int32)).toNatClampNeg (-9)) ((3 : Int32)).toNatClampNeg (-9))))])) rfl dX4_init_27 ?_
  refine ji_put (fs' := [.int 0, .int 0, .ref q6, .null, .null, .int 0, .int 0, .null, .null, .null, .null, .null, .int 0, .int 0, .null, .null, .null, .null, .null, .null, .null, .null, .int 0, .int 0, .null, .null, .null, .null, .int 0, .int 0, .int 0, .int 0, .null, .null]) fq_X4_9 rfl rfl (Nat.le_of_ble_eq_true rfl) rfl dX4_init_28 ?_
  refine ji_aload_n dX4_init_31 rfl rfl ?_
  refine ji_iconst (v := 4) dX4_init_32 (by decide) ?_
  refine ji_newi (N := 4) (by decide) rfl ai_w (by decide) (Nat.le_of_ble_eq_true rfl) (Nat.le_of_ble_eq_true rfl) dX4_init_33 (fun q33 => ?_)
  refine ji_put (fs' := [.int 0, .int 0, .ref q6, .ref q33, .null, .int 0, .int 0, .null, .null, .null, .null, .null, .int 0, .int 0, .null, .null, .null, .null, .null, .null, .null, .null, .int 0, .int 0, .null, .null, .null, .null, .int 0, .int 0, .int 0, .int 0, .null, .null]) fq_X4_13 rfl rfl (Nat.le_of_ble_eq_true rfl) rfl dX4_init_35 ?_
  refine ji_aload_n dX4_init_38 rfl rfl ?_
  refine ji_sipush (v := 240) dX4_init_39 (by decide) ?_
  refine ji_newi (N := 240) (by decide) rfl ai_w (by decide) (Nat.le_of_ble_eq_true rfl) (Nat.le_of_ble_eq_true rfl) dX4_init_42 (fun q42 => ?_)
  refine ji_put (fs' := [.int 0, .int 0, .ref q6, .ref q33, .ref q42, .int 0, .int 0, .null, .null, .null, .null, .null, .int 0, .int 0, .null, .null, .null, .null, .null, .null, .null, .null, .int 0, .int 0, .null, .null, .null, .null, .int 0, .int 0, .int 0, .int 0, .null, .null]) fq_X4_16 rfl rfl (Nat.le_of_ble_eq_true rfl) rfl dX4_init_44 ?_
  refine ji_aload_n dX4_init_47 rfl rfl ?_
  refine ji_bipush (v := 6) dX4_init_48 (by decide) ?_
  refine ji_newi (N := 6) (by decide) rfl ai_w (by decide) (Nat.le_of_ble_eq_true rfl) (Nat.le_of_ble_eq_true rfl) dX4_init_50 (fun q50 => ?_)
  refine ji_put (fs' := [.int 0, .int 0, .ref q6, .ref q33, .ref q42, .int 0, .int 0, .ref q50, .null, .null, .null, .null, .int 0, .int 0, .null, .null, .null, .null, .null, .null, .null, .null, .int 0, .int 0, .null, .null, .null, .null, .int 0, .int 0, .int 0, .int 0, .null, .null]) fq_X4_19 rfl rfl (Nat.le_of_ble_eq_true rfl) rfl dX4_init_52 ?_
  refine ji_aload_n dX4_init_55 rfl rfl ?_
  refine ji_bipush (v := 6) dX4_init_56 (by decide) ?_
  refine ji_newi (N := 6) (by decide) rfl ai_w (by decide) (Nat.le_of_ble_eq_true rfl) (Nat.le_of_ble_eq_true rfl) dX4_init_58 (fun q58 => ?_)
  refine ji_put (fs' := [.int 0, .int 0, .ref q6, .ref q33, .ref q42, .int 0, .int 0, .ref q50, .ref q58, .null, .null, .null, .int 0, .int 0, .null, .null, .null, .null, .null, .null, .null, .null, .int 0, .int 0, .null, .null, .null, .null, .int 0, .int 0, .int 0, .int 0, .null, .null]) fq_X4_22 rfl rfl (Nat.le_of_ble_eq_true rfl) rfl dX4_init_60 ?_
  refine ji_aload_n dX4_init_63 rfl rfl ?_
  refine ji_bipush (v := 6) dX4_init_64 (by decide) ?_
  refine ji_newi (N := 6) (by decide) rfl ai_w (by decide) (Nat.le_of_ble_eq_true rfl) (Nat.le_of_ble_eq_true rfl) dX4_init_66 (fun q66 => ?_)
  refine ji_put (fs' := [.int 0, .int 0, .ref q6, .ref q33, .ref q42, .int 0, .int 0, .ref q50, .ref q58, .ref q66, .null, .null, .int 0, .int 0, .null, .null, .null, .null, .null, .null, .null, .null, .int 0, .int 0, .null, .null, .null, .null, .int 0, .int 0, .int 0, .int 0, .null, .null]) fq_X4_25 rfl rfl (Nat.le_of_ble_eq_true rfl) rfl dX4_init_68 ?_
  refine ji_aload_n dX4_init_71 rfl rfl ?_
  refine ji_bipush (v := 6) dX4_init_72 (by decide) ?_
  refine ji_newi (N := 6) (by decide) rfl ai_w (by decide) (Nat.le_of_ble_eq_true rfl) (Nat.le_of_ble_eq_true rfl) dX4_init_74 (fun q74 => ?_)
  refine ji_put (fs' := [.int 0, .int 0, .ref q6, .ref q33, .ref q42, .int 0, .int 0, .ref q50, .ref q58, .ref q66, .ref q74, .null, .int 0, .int 0, .null, .null, .null, .null, .null, .null, .null, .null, .int 0, .int 0, .null, .null, .null, .null, .int 0, .int 0, .int 0, .int 0, .null, .null]) fq_X4_28 rfl rfl (Nat.le_of_ble_eq_true rfl) rfl dX4_init_76 ?_
  refine ji_aload_n dX4_init_79 rfl rfl ?_
  refine ji_bipush (v := 12) dX4_init_80 (by decide) ?_
  refine ji_newi (N := 12) (by decide) rfl ai_w (by decide) (Nat.le_of_ble_eq_true rfl) (Nat.le_of_ble_eq_true rfl) dX4_init_82 (fun q82 => ?_)
  refine ji_put (fs' := [.int 0, .int 0, .ref q6, .ref q33, .ref q42, .int 0, .int 0, .ref q50, .ref q58, .ref q66, .ref q74, .ref q82, .int 0, .int 0, .null, .null, .null, .null, .null, .null, .null, .null, .int 0, .int 0, .null, .null, .null, .null, .int 0, .int 0, .int 0, .int 0, .null, .null]) fq_X4_31 rfl rfl (Nat.le_of_ble_eq_true rfl) rfl dX4_init_84 ?_
  refine ji_aload_n dX4_init_87 rfl rfl ?_
  refine ji_bipush (v := 6) dX4_init_88 (by decide) ?_
  refine ji_newi (N := 6) (by decide) rfl ai_w (by decide) (Nat.le_of_ble_eq_true rfl) (Nat.le_of_ble_eq_true rfl) dX4_init_90 (fun q90 => ?_)
  refine ji_put (fs' := [.int 0, .int 0, .ref q6, .ref q33, .ref q42, .int 0, .int 0, .ref q50, .ref q58, .ref q66, .ref q74, .ref q82, .int 0, .int 0, .ref q90, .null, .null, .null, .null, .null, .null, .null, .int 0, .int 0, .null, .null, .null, .null, .int 0, .int 0, .int 0, .int 0, .null, .null]) fq_X4_34 rfl rfl (Nat.le_of_ble_eq_true rfl) rfl dX4_init_92 ?_
  refine ji_aload_n dX4_init_95 rfl rfl ?_
  refine ji_bipush (v := 6) dX4_init_96 (by decide) ?_
  refine ji_newi (N := 6) (by decide) rfl ai_w (by decide) (Nat.le_of_ble_eq_true rfl) (Nat.le_of_ble_eq_true rfl) dX4_init_98 (fun q98 => ?_)
  refine ji_put (fs' := [.int 0, .int 0, .ref q6, .ref q33, .ref q42, .int 0, .int 0, .ref q50, .ref q58, .ref q66, .ref q74, .ref q82, .int 0, .int 0, .ref q90, .ref q98, .null, .null, .null, .null, .null, .null, .int 0, .int 0, .null, .null, .null, .null, .int 0, .int 0, .int 0, .int 0, .null, .null]) fq_X4_37 rfl rfl (Nat.le_of_ble_eq_true rfl) rfl dX4_init_100 ?_
  refine ji_aload_n dX4_init_103 rfl rfl ?_
  refine ji_bipush (v := 6) dX4_init_104 (by decide) ?_
  refine ji_newi (N := 6) (by decide) rfl ai_w (by decide) (Nat.le_of_ble_eq_true rfl) (Nat.le_of_ble_eq_true rfl) dX4_init_106 (fun q106 => ?_)
  refine ji_put (fs' := [.int 0, .int 0, .ref q6, .ref q33, .ref q42, .int 0, .int 0, .ref q50, .ref q58, .ref q66, .ref q74, .ref q82, .int 0, .int 0, .ref q90, .ref q98, .ref q106, .null, .null, .null, .null, .null, .int 0, .int 0, .null, .null, .null, .null, .int 0, .int 0, .int 0, .int 0, .null, .null]) fq_X4_40 rfl rfl (Nat.le_of_ble_eq_true rfl) rfl dX4_init_108 ?_
  refine ji_aload_n dX4_init_111 rfl rfl ?_
  refine ji_bipush (v := 6) dX4_init_112 (by decide) ?_
  refine ji_newi (N := 6) (by decide) rfl ai_w (by decide) (Nat.le_of_ble_eq_true rfl) (Nat.le_of_ble_eq_true rfl) dX4_init_114 (fun q114 => ?_)
  refine ji_put (fs' := [.int 0, .int 0, .ref q6, .ref q33, .ref q42, .int 0, .int 0, .ref q50, .ref q58, .ref q66, .ref q74, .ref q82, .int 0, .int 0, .ref q90, .ref q98, .ref q106, .ref q114, .null, .null, .null, .null, .int 0, .int 0, .null, .null, .null, .null, .int 0, .int 0, .int 0, .int 0, .null, .null]) fq_X4_43 rfl rfl (Nat.le_of_ble_eq_true rfl) rfl dX4_init_116 ?_
  refine ji_aload_n dX4_init_119 rfl rfl ?_
  refine ji_bipush (v := 12) dX4_init_120 (by decide) ?_
  refine ji_newi (N := 12) (by decide) rfl ai_w (by decide) (Nat.le_of_ble_eq_true rfl) (Nat.le_of_ble_eq_true rfl) dX4_init_122 (fun q122 => ?_)
  refine ji_put (fs' := [.int 0, .int 0, .ref q6, .ref q33, .ref q42, .int 0, .int 0, .ref q50, .ref q58, .ref q66, .ref q74, .ref q82, .int 0, .int 0, .ref q90, .ref q98, .ref q106, .ref q114, .ref q122, .null, .null, .null, .int 0, .int 0, .null, .null, .null, .null, .int 0, .int 0, .int 0, .int 0, .null, .null]) fq_X4_46 rfl rfl (Nat.le_of_ble_eq_true rfl) rfl dX4_init_124 ?_
  refine ji_aload_n dX4_init_127 rfl rfl ?_
  refine ji_bipush (v := 6) dX4_init_128 (by decide) ?_
  refine ji_newi (N := 6) (by decide) rfl ai_w (by decide) (Nat.le_of_ble_eq_true rfl) (Nat.le_of_ble_eq_true rfl) dX4_init_130 (fun q130 => ?_)
  refine ji_put (fs' := [.int 0, .int 0, .ref q6, .ref q33, .ref q42, .int 0, .int 0, .ref q50, .ref q58, .ref q66, .ref q74, .ref q82, .int 0, .int 0, .ref q90, .ref q98, .ref q106, .ref q114, .ref q122, .ref q130, .null, .null, .int 0, .int 0, .null, .null, .null, .null, .int 0, .int 0, .int 0, .int 0, .null, .null]) fq_X4_49 rfl rfl (Nat.le_of_ble_eq_true rfl) rfl dX4_init_132 ?_
  refine ji_aload_n dX4_init_135 rfl rfl ?_
  refine ji_bipush (v := 6) dX4_init_136 (by decide) ?_
  refine ji_newi (N := 6) (by decide) rfl ai_w (by decide) (Nat.le_of_ble_eq_true rfl) (Nat.le_of_ble_eq_true rfl) dX4_init_138 (fun q138 => ?_)
  refine ji_put (fs' := [.int 0, .int 0, .ref q6, .ref q33, .ref q42, .int 0, .int 0, .ref q50, .ref q58, .ref q66, .ref q74, .ref q82, .int 0, .int 0, .ref q90, .ref q98, .ref q106, .ref q114, .ref q122, .ref q130, .ref q138, .null, .int 0, .int 0, .null, .null, .null, .null, .int 0, .int 0, .int 0, .int 0, .null, .null]) fq_X4_52 rfl rfl (Nat.le_of_ble_eq_true rfl) rfl dX4_init_140 ?_
  refine ji_aload_n dX4_init_143 rfl rfl ?_
  refine ji_bipush (v := 6) dX4_init_144 (by decide) ?_
  refine ji_newi (N := 6) (by decide) rfl ai_w (by decide) (Nat.le_of_ble_eq_true rfl) (Nat.le_of_ble_eq_true rfl) dX4_init_146 (fun q146 => ?_)
  refine ji_put (fs' := [.int 0, .int 0, .ref q6, .ref q33, .ref q42, .int 0, .int 0, .ref q50, .ref q58, .ref q66, .ref q74, .ref q82, .int 0, .int 0, .ref q90, .ref q98, .ref q106, .ref q114, .ref q122, .ref q130, .ref q138, .ref q146, .int 0, .int 0, .null, .null, .null, .null, .int 0, .int 0, .int 0, .int 0, .null, .null]) fq_X4_55 rfl rfl (Nat.le_of_ble_eq_true rfl) rfl dX4_init_148 ?_
  refine ji_aload_n dX4_init_151 rfl rfl ?_
  refine ji_bipush (v := 6) dX4_init_152 (by decide) ?_
  refine ji_newi (N := 6) (by decide) rfl ai_w (by decide) (Nat.le_of_ble_eq_true rfl) (Nat.le_of_ble_eq_true rfl) dX4_init_154 (fun q154 => ?_)
  refine ji_put (fs' := [.int 0, .int 0, .ref q6, .ref q33, .ref q42, .int 0, .int 0, .ref q50, .ref q58, .ref q66, .ref q74, .ref q82, .int 0, .int 0, .ref q90, .ref q98, .ref q106, .ref q114, .ref q122, .ref q130, .ref q138, .ref q146, .int 0, .int 0, .ref q154, .null, .null, .null, .int 0, .int 0, .int 0, .int 0, .null, .null]) fq_X4_58 rfl rfl (Nat.le_of_ble_eq_true rfl) rfl dX4_init_156 ?_
  refine ji_aload_n dX4_init_159 rfl rfl ?_
  refine ji_bipush (v := 24) dX4_init_160 (by decide) ?_
  refine ji_newi (N := 24) (by decide) rfl ai_w (by decide) (Nat.le_of_ble_eq_true rfl) (Nat.le_of_ble_eq_true rfl) dX4_init_162 (fun q162 => ?_)
  refine ji_put (fs' := [.int 0, .int 0, .ref q6, .ref q33, .ref q42, .int 0, .int 0, .ref q50, .ref q58, .ref q66, .ref q74, .ref q82, .int 0, .int 0, .ref q90, .ref q98, .ref q106, .ref q114, .ref q122, .ref q130, .ref q138, .ref q146, .int 0, .int 0, .ref q154, .ref q162, .null, .null, .int 0, .int 0, .int 0, .int 0, .null, .null]) fq_X4_61 rfl rfl (Nat.le_of_ble_eq_true rfl) rfl dX4_init_164 ?_
  refine ji_aload_n dX4_init_167 rfl rfl ?_
  refine ji_bipush (v := 6) dX4_init_168 (by decide) ?_
  refine ji_newi (N := 6) (by decide) rfl ai_w (by decide) (Nat.le_of_ble_eq_true rfl) (Nat.le_of_ble_eq_true rfl) dX4_init_170 (fun q170 => ?_)
  refine ji_put (fs' := [.int 0, .int 0, .ref q6, .ref q33, .ref q42, .int 0, .int 0, .ref q50, .ref q58, .ref q66, .ref q74, .ref q82, .int 0, .int 0, .ref q90, .ref q98, .ref q106, .ref q114, .ref q122, .ref q130, .ref q138, .ref q146, .int 0, .int 0, .ref q154, .ref q162, .ref q170, .null, .int 0, .int 0, .int 0, .int 0, .null, .null]) fq_X4_64 rfl rfl (Nat.le_of_ble_eq_true rfl) rfl dX4_init_172 ?_
  refine ji_aload_n dX4_init_175 rfl rfl ?_
  refine ji_bipush (v := 6) dX4_init_176 (by decide) ?_
  refine ji_newi (N := 6) (by decide) rfl ai_w (by decide) (Nat.le_of_ble_eq_true rfl) (Nat.le_of_ble_eq_true rfl) dX4_init_178 (fun q178 => ?_)
  refine ji_put (fs' := [.int 0, .int 0, .ref q6, .ref q33, .ref q42, .int 0, .int 0, .ref q50, .ref q58, .ref q66, .ref q74, .ref q82, .int 0, .int 0, .ref q90, .ref q98, .ref q106, .ref q114, .ref q122, .ref q130, .ref q138, .ref q146, .int 0, .int 0, .ref q154, .ref q162, .ref q170, .ref q178, .int 0, .int 0, .int 0, .int 0, .null, .null]) fq_X4_67 rfl rfl (Nat.le_of_ble_eq_true rfl) rfl dX4_init_180 ?_
  refine ji_aload_n dX4_init_183 rfl rfl ?_
  refine ji_bipush (v := 8) dX4_init_184 (by decide) ?_
  refine ji_newi (N := 8) (by decide) rfl ai_w (by decide) (Nat.le_of_ble_eq_true rfl) (Nat.le_of_ble_eq_true rfl) dX4_init_186 (fun q186 => ?_)
  refine ji_put (fs' := [.int 0, .int 0, .ref q6, .ref q33, .ref q42, .int 0, .int 0, .ref q50, .ref q58, .ref q66, .ref q74, .ref q82, .int 0, .int 0, .ref q90, .ref q98, .ref q106, .ref q114, .ref q122, .ref q130, .ref q138, .ref q146, .int 0, .int 0, .ref q154, .ref q162, .ref q170, .ref q178, .int 0, .int 0, .int 0, .int 0, .ref q186, .null]) fq_X4_70 rfl rfl (Nat.le_of_ble_eq_true rfl) rfl dX4_init_188 ?_
  refine ji_aload_n dX4_init_191 rfl rfl ?_
  refine ji_bipush (v := 8) dX4_init_192 (by decide) ?_
  refine ji_newi (N := 8) (by decide) rfl ai_w (by decide) (Nat.le_of_ble_eq_true rfl) (Nat.le_of_ble_eq_true rfl) dX4_init_194 (fun q194 => ?_)
  refine ji_put (fs' := [.int 0, .int 0, .ref q6, .ref q33, .ref q42, .int 0, .int 0, .ref q50, .ref q58, .ref q66, .ref q74, .ref q82, .int 0, .int 0, .ref q90, .ref q98, .ref q106, .ref q114, .ref q122, .ref q130, .ref q138, .ref q146, .int 0, .int 0, .ref q154, .ref q162, .ref q170, .ref q178, .int 0, .int 0, .int 0, .int 0, .ref q186, .ref q194]) fq_X4_73 rfl rfl (Nat.le_of_ble_eq_true rfl) rfl dX4_init_196 ?_
  exact ji_ret dX4_init_199 rfl rfl ⟨fun k => ([h0, q6, q33, q42, q50, q58, q66, q74, q82, q90, q98, q106, q114, q122, q130, q138, q146, q154, q162, q170, q178, q186, q194] : List Nat).getD (k - 57) 0, rfl, rfl⟩
