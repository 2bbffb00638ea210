theorem fq_X0_9 : gPF RX0 9 0 1 (.array .int) := ⟨(RX0, TX0, 12), rfl, by decide, gw_at 90 (by decide +kernel) rfl, uwX0, ⟨tyX0, tyX0_ok⟩, nmX0, rfl, rfl, tyX0_ok 1 (by decide)⟩
theorem fq_X0_15 : gPF RX0 15 0 2 (.array .int) := ⟨(RX0, TX0, 12), rfl, by decide, gw_at 93 (by decide +kernel) rfl, uwX0, ⟨tyX0, tyX0_ok⟩, nmX0, rfl, rfl, tyX0_ok 2 (by decide)⟩
theorem fq_X0_18 : gPF RX0 18 0 3 (.array .int) := ⟨(RX0, TX0, 12), rfl, by decide, gw_at 96 (by decide +kernel) rfl, uwX0, ⟨tyX0, tyX0_ok⟩, nmX0, rfl, rfl, tyX0_ok 3 (by decide)⟩
theorem fq_X0_21 : gPF RX0 21 0 4 (.array .int) := ⟨(RX0, TX0, 12), rfl, by decide, gw_at 99 (by decide +kernel) rfl, uwX0, ⟨tyX0, tyX0_ok⟩, nmX0, rfl, rfl, tyX0_ok 4 (by decide)⟩
theorem fq_X0_26 : gPF RX0 26 0 5 (.array (.array .int)) := ⟨(RX0, TX0, 12), rfl, by decide, gw_at 102 (by decide +kernel) rfl, uwX0, ⟨tyX0, tyX0_ok⟩, nmX0, rfl, rfl, tyX0_ok 5 (by decide)⟩
theorem fq_X0_29 : gPF RX0 29 0 6 (.array (.array .int)) := ⟨(RX0, TX0, 12), rfl, by decide, gw_at 105 (by decide +kernel) rfl, uwX0, ⟨tyX0, tyX0_ok⟩, nmX0, rfl, rfl, tyX0_ok 6 (by decide)⟩
theorem fq_X0_32 : gPF RX0 32 0 7 (.array .int) := ⟨(RX0, TX0, 12), rfl, by decide, gw_at 107 (by decide +kernel) rfl, uwX0, ⟨tyX0, tyX0_ok⟩, nmX0, rfl, rfl, tyX0_ok 7 (by decide)⟩
theorem fq_X0_35 : gPF RX0 35 0 8 (.array .int) := ⟨(RX0, TX0, 12), rfl, by decide, gw_at 109 (by decide +kernel) rfl, uwX0, ⟨tyX0, tyX0_ok⟩, nmX0, rfl, rfl, tyX0_ok 8 (by decide)⟩
theorem fq_X0_38 : gPF RX0 38 0 9 (.array .int) := ⟨(RX0, TX0, 12), rfl, by decide, gw_at 111 (by decide +kernel) rfl, uwX0, ⟨tyX0, tyX0_ok⟩, nmX0, rfl, rfl, tyX0_ok 9 (by decide)⟩
theorem fq_X1_12 : gPF RX1 12 1 0 (.object "AreaOrders$Plan") := ⟨(RX1, TX1, 5), rfl, by decide, gw_at 151 (by decide +kernel) rfl, uwX1, ⟨tyX1, tyX1_ok⟩, nmX1, rfl, rfl, tyX1_ok 0 (by decide)⟩
theorem fq_X1_18 : gPF RX1 18 1 1 (.array .int) := ⟨(RX1, TX1, 5), rfl, by decide, gw_at 153 (by decide +kernel) rfl, uwX1, ⟨tyX1, tyX1_ok⟩, nmX1, rfl, rfl, tyX1_ok 1 (by decide)⟩
theorem fq_X2_9 : gPF RX2 9 2 3 (.array .int) := ⟨(RX2, TX2, 4), rfl, by decide, gw_at 182 (by decide +kernel) rfl, uwX2, ⟨tyX2, tyX2_ok⟩, nmX2, rfl, rfl, tyX2_ok 3 (by decide)⟩
theorem fq_X3_14 : gPF RX3 14 3 0 (.object "AreaOrders$Plan") := ⟨(RX3, TX3, 10), rfl, by decide, gw_at 193 (by decide +kernel) rfl, uwX3, ⟨tyX3, tyX3_ok⟩, nmX3, rfl, rfl, tyX3_ok 0 (by decide)⟩
theorem fq_X3_18 : gPF RX3 18 3 1 (.object "AreaOrders$Plan") := ⟨(RX3, TX3, 10), rfl, by decide, gw_at 194 (by decide +kernel) rfl, uwX3, ⟨tyX3, tyX3_ok⟩, nmX3, rfl, rfl, tyX3_ok 1 (by decide)⟩
theorem fq_X3_24 : gPF RX3 24 3 2 (.object "AreaOrders$Reader") := ⟨(RX3, TX3, 10), rfl, by decide, gw_at 195 (by decide +kernel) rfl, uwX3, ⟨tyX3, tyX3_ok⟩, nmX3, rfl, rfl, tyX3_ok 2 (by decide)⟩
theorem fq_X3_30 : gPF RX3 30 3 3 (.array (.object "AreaOrders$Sheet")) := ⟨(RX3, TX3, 10), rfl, by decide, gw_at 196 (by decide +kernel) rfl, uwX3, ⟨tyX3, tyX3_ok⟩, nmX3, rfl, rfl, tyX3_ok 3 (by decide)⟩
theorem fq_X3_34 : gPF RX3 34 3 4 (.array .int) := ⟨(RX3, TX3, 10), rfl, by decide, gw_at 197 (by decide +kernel) rfl, uwX3, ⟨tyX3, tyX3_ok⟩, nmX3, rfl, rfl, tyX3_ok 4 (by decide)⟩
theorem fq_X3_38 : gPF RX3 38 3 5 (.array .int) := ⟨(RX3, TX3, 10), rfl, by decide, gw_at 198 (by decide +kernel) rfl, uwX3, ⟨tyX3, tyX3_ok⟩, nmX3, rfl, rfl, tyX3_ok 5 (by decide)⟩
theorem fq_X3_41 : gPF RX3 41 3 6 (.array .int) := ⟨(RX3, TX3, 10), rfl, by decide, gw_at 199 (by decide +kernel) rfl, uwX3, ⟨tyX3, tyX3_ok⟩, nmX3, rfl, rfl, tyX3_ok 6 (by decide)⟩
theorem fq_X4_9 : gPF RX4 9 4 2 (.array .int) := ⟨(RX4, TX4, 34), rfl, by decide, gw_at 592 (by decide +kernel) rfl, uwX4, ⟨tyX4, tyX4_ok⟩, nmX4, rfl, rfl, tyX4_ok 2 (by decide)⟩
theorem fq_X4_13 : gPF RX4 13 4 3 (.array .int) := ⟨(RX4, TX4, 34), rfl, by decide, gw_at 593 (by decide +kernel) rfl, uwX4, ⟨tyX4, tyX4_ok⟩, nmX4, rfl, rfl, tyX4_ok 3 (by decide)⟩
theorem fq_X4_16 : gPF RX4 16 4 4 (.array .int) := ⟨(RX4, TX4, 34), rfl, by decide, gw_at 594 (by decide +kernel) rfl, uwX4, ⟨tyX4, tyX4_ok⟩, nmX4, rfl, rfl, tyX4_ok 4 (by decide)⟩
theorem fq_X4_19 : gPF RX4 19 4 7 (.array .int) := ⟨(RX4, TX4, 34), rfl, by decide, gw_at 597 (by decide +kernel) rfl, uwX4, ⟨tyX4, tyX4_ok⟩, nmX4, rfl, rfl, tyX4_ok 7 (by decide)⟩
theorem fq_X4_22 : gPF RX4 22 4 8 (.array .int) := ⟨(RX4, TX4, 34), rfl, by decide, gw_at 598 (by decide +kernel) rfl, uwX4, ⟨tyX4, tyX4_ok⟩, nmX4, rfl, rfl, tyX4_ok 8 (by decide)⟩
theorem fq_X4_25 : gPF RX4 25 4 9 (.array .int) := ⟨(RX4, TX4, 34), rfl, by decide, gw_at 599 (by decide +kernel) rfl, uwX4, ⟨tyX4, tyX4_ok⟩, nmX4, rfl, rfl, tyX4_ok 9 (by decide)⟩
theorem fq_X4_28 : gPF RX4 28 4 10 (.array .int) := ⟨(RX4, TX4, 34), rfl, by decide, gw_at 600 (by decide +kernel) rfl, uwX4, ⟨tyX4, tyX4_ok⟩, nmX4, rfl, rfl, tyX4_ok 10 (by decide)⟩
theorem fq_X4_31 : gPF RX4 31 4 11 (.array .int) := ⟨(RX4, TX4, 34), rfl, by decide, gw_at 601 (by decide +kernel) rfl, uwX4, ⟨tyX4, tyX4_ok⟩, nmX4, rfl, rfl, tyX4_ok 11 (by decide)⟩
theorem fq_X4_34 : gPF RX4 34 4 14 (.array .int) := ⟨(RX4, TX4, 34), rfl, by decide, gw_at 604 (by decide +kernel) rfl, uwX4, ⟨tyX4, tyX4_ok⟩, nmX4, rfl, rfl, tyX4_ok 14 (by decide)⟩
theorem fq_X4_37 : gPF RX4 37 4 15 (.array .int) := ⟨(RX4, TX4, 34), rfl, by decide, gw_at 605 (by decide +kernel) rfl, uwX4, ⟨tyX4, tyX4_ok⟩, nmX4, rfl, rfl, tyX4_ok 15 (by decide)⟩
theorem fq_X4_40 : gPF RX4 40 4 16 (.array .int) := ⟨(RX4, TX4, 34), rfl, by decide, gw_at 606 (by decide +kernel) rfl, uwX4, ⟨tyX4, tyX4_ok⟩, nmX4, rfl, rfl, tyX4_ok 16 (by decide)⟩
theorem fq_X4_43 : gPF RX4 43 4 17 (.array .int) := ⟨(RX4, TX4, 34), rfl, by decide, gw_at 607 (by decide +kernel) rfl, uwX4, ⟨tyX4, tyX4_ok⟩, nmX4, rfl, rfl, tyX4_ok 17 (by decide)⟩
theorem fq_X4_46 : gPF RX4 46 4 18 (.array .int) := ⟨(RX4, TX4, 34), rfl, by decide, gw_at 608 (by decide +kernel) rfl, uwX4, ⟨tyX4, tyX4_ok⟩, nmX4, rfl, rfl, tyX4_ok 18 (by decide)⟩
theorem fq_X4_49 : gPF RX4 49 4 19 (.array .int) := ⟨(RX4, TX4, 34), rfl, by decide, gw_at 609 (by decide +kernel) rfl, uwX4, ⟨tyX4, tyX4_ok⟩, nmX4, rfl, rfl, tyX4_ok 19 (by decide)⟩
theorem fq_X4_52 : gPF RX4 52 4 20 (.array .int) := ⟨(RX4, TX4, 34), rfl, by decide, gw_at 610 (by decide +kernel) rfl, uwX4, ⟨tyX4, tyX4_ok⟩, nmX4, rfl, rfl, tyX4_ok 20 (by decide)⟩
theorem fq_X4_55 : gPF RX4 55 4 21 (.array .int) := ⟨(RX4, TX4, 34), rfl, by decide, gw_at 611 (by decide +kernel) rfl, uwX4, ⟨tyX4, tyX4_ok⟩, nmX4, rfl, rfl, tyX4_ok 21 (by decide)⟩
theorem fq_X4_58 : gPF RX4 58 4 24 (.array .int) := ⟨(RX4, TX4, 34), rfl, by decide, gw_at 614 (by decide +kernel) rfl, uwX4, ⟨tyX4, tyX4_ok⟩, nmX4, rfl, rfl, tyX4_ok 24 (by decide)⟩
theorem fq_X4_61 : gPF RX4 61 4 25 (.array .int) := ⟨(RX4, TX4, 34), rfl, by decide, gw_at 615 (by decide +kernel) rfl, uwX4, ⟨tyX4, tyX4_ok⟩, nmX4, rfl, rfl, tyX4_ok 25 (by decide)⟩
theorem fq_X4_64 : gPF RX4 64 4 26 (.array .int) := ⟨(RX4, TX4, 34), rfl, by decide, gw_at 616 (by decide +kernel) rfl, uwX4, ⟨tyX4, tyX4_ok⟩, nmX4, rfl, rfl, tyX4_ok 26 (by decide)⟩
theorem fq_X4_67 : gPF RX4 67 4 27 (.array .int) := ⟨(RX4, TX4, 34), rfl, by decide, gw_at 617 (by decide +kernel) rfl, uwX4, ⟨tyX4, tyX4_ok⟩, nmX4, rfl, rfl, tyX4_ok 27 (by decide)⟩
theorem fq_X4_70 : gPF RX4 70 4 32 (.array .int) := ⟨(RX4, TX4, 34), rfl, by decide, gw_at 622 (by decide +kernel) rfl, uwX4, ⟨tyX4, tyX4_ok⟩, nmX4, rfl, rfl, tyX4_ok 32 (by decide)⟩
theorem fq_X4_73 : gPF RX4 73 4 33 (.array .int) := ⟨(RX4, TX4, 34), rfl, by decide, gw_at 623 (by decide +kernel) rfl, uwX4, ⟨tyX4, tyX4_ok⟩, nmX4, rfl, rfl, tyX4_ok 33 (by decide)⟩
theorem oi_w : Cond.instanceMethod objectInit ∈ gWd ∧ Cond.code objectInit ⟨#[0xb1]⟩ 1 none ∈ gWd := ⟨gw_at 77 (by decide +kernel) rfl, gw_at 78 (by decide +kernel) rfl⟩
theorem ai_w : Cond.arrayClass .int ∈ gWd := gw_at 142 (by decide +kernel) rfl
theorem oi_X3 : Cond.methodLink RX3 5 objectInit ∈ gWd := gw_at 76 (by decide +kernel) rfl
theorem oi_X0 : Cond.methodLink RX0 3 objectInit ∈ gWd := gw_at 84 (by decide +kernel) rfl
theorem oi_X1 : Cond.methodLink RX1 3 objectInit ∈ gWd := gw_at 148 (by decide +kernel) rfl
theorem oi_X2 : Cond.methodLink RX2 3 objectInit ∈ gWd := gw_at 176 (by decide +kernel) rfl
theorem oi_X4 : Cond.methodLink RX4 1 objectInit ∈ gWd := gw_at 589 (by decide +kernel) rfl
theorem df_X0 : ∀ j, j < 12 → defaultValue (tyX0 j) = vp_V [.int 0, .null, .null, .null, .null, .null, .null, .null, .null, .null, .int 0, .int 0] j := by
  intro j hj
  rcases (show j = 0 ∨ j = 1 ∨ j = 2 ∨ j = 3 ∨ j = 4 ∨ j = 5 ∨ j = 6 ∨ j = 7 ∨ j = 8 ∨ j = 9 ∨ j = 10 ∨ j = 11 by omega) with rfl | rfl | rfl | rfl | rfl | rfl | rfl | rfl | rfl | rfl | rfl | rfl <;> rfl
theorem df_X1 : ∀ j, j < 5 → defaultValue (tyX1 j) = vp_V [.null, .null, .int 0, .int 0, .int 0] j := by
  intro j hj
  rcases (show j = 0 ∨ j = 1 ∨ j = 2 ∨ j = 3 ∨ j = 4 by omega) with rfl | rfl | rfl | rfl | rfl <;> rfl
theorem df_X2 : ∀ j, j < 4 → defaultValue (tyX2 j) = vp_V [.int 0, .int 0, .int 0, .null] j := by
  intro j hj
  rcases (show j = 0 ∨ j = 1 ∨ j = 2 ∨ j = 3 by omega) with rfl | rfl | rfl | rfl <;> rfl
theorem df_X3 : ∀ j, j < 10 → defaultValue (tyX3 j) = vp_V [.null, .null, .null, .null, .null, .null, .null, .int 0, .int 0, .int 0] j := by
  intro j hj
  rcases (show j = 0 ∨ j = 1 ∨ j = 2 ∨ j = 3 ∨ j = 4 ∨ j = 5 ∨ j = 6 ∨ j = 7 ∨ j = 8 ∨ j = 9 by omega) with rfl | rfl | rfl | rfl | rfl | rfl | rfl | rfl | rfl | rfl <;> rfl
theorem df_X4 : ∀ j, j < 34 → defaultValue (tyX4 j) = vp_V [.int 0, .int 0, .null, .null, .null, .int 0, .int 0, .null, .null, .null, .null, .null, .int 0, .int 0, .null, .null, .null, .null, .null, .null, .null, .null, .int 0, .int 0, .null, .null, .null, .null, .int 0, .int 0, .int 0, .int 0, .null, .null] j := by
  intro j hj
  rcases (show j = 0 ∨ j = 1 ∨ j = 2 ∨ j = 3 ∨ j = 4 ∨ j = 5 ∨ j = 6 ∨ j = 7 ∨ j = 8 ∨ j = 9 ∨ j = 10 ∨ j = 11 ∨ j = 12 ∨ j = 13 ∨ j = 14 ∨ j = 15 ∨ j = 16 ∨ j = 17 ∨ j = 18 ∨ j = 19 ∨ j = 20 ∨ j = 21 ∨ j = 22 ∨ j = 23 ∨ j = 24 ∨ j = 25 ∨ j = 26 ∨ j = 27 ∨ j = 28 ∨ j = 29 ∨ j = 30 ∨ j = 31 ∨ j = 32 ∨ j = 33 by omega) with rfl | rfl | rfl | rfl | rfl | rfl | rfl | rfl | rfl | rfl | rfl | rfl | rfl | rfl | rfl | rfl | rfl | rfl | rfl | rfl | rfl | rfl | rfl | rfl | rfl | rfl | rfl | rfl | rfl | rfl | rfl | rfl | rfl | rfl <;> rfl
theorem nw_L_7 : gNw RL 7 3 10 [.null, .null, .null, .null, .null, .null, .null, .int 0, .int 0, .int 0] := ⟨(RX3, TX3, 10), rfl, rfl, gw_at 71 (by decide +kernel) rfl, gw_at 72 (by decide +kernel) rfl, gw_at 63 (by decide +kernel) rfl, uwX3, tyX3, tyX3_ok, df_X3⟩
theorem nw_X3_11 : gNw RX3 11 0 12 [.int 0, .null, .null, .null, .null, .null, .null, .null, .null, .null, .int 0, .int 0] := ⟨(RX0, TX0, 12), rfl, rfl, gw_at 79 (by decide +kernel) rfl, gw_at 80 (by decide +kernel) rfl, gw_at 64 (by decide +kernel) rfl, uwX0, tyX0, tyX0_ok, df_X0⟩
theorem cl_mna : Cond.classLink RX0 24 "[[I" ∈ gWd := gw_at 85 (by decide +kernel) rfl
theorem nw_X3_21 : gNw RX3 21 1 5 [.null, .null, .int 0, .int 0, .int 0] := ⟨(RX1, TX1, 5), rfl, rfl, gw_at 143 (by decide +kernel) rfl, gw_at 144 (by decide +kernel) rfl, gw_at 65 (by decide +kernel) rfl, uwX1, tyX1, tyX1_ok, df_X1⟩
theorem nw_X1_9 : gNw RX1 9 0 12 [.int 0, .null, .null, .null, .null, .null, .null, .null, .null, .null, .int 0, .int 0] := ⟨(RX0, TX0, 12), rfl, rfl, gw_at 149 (by decide +kernel) rfl, gw_at 80 (by decide +kernel) rfl, gw_at 64 (by decide +kernel) rfl, uwX0, tyX0, tyX0_ok, df_X0⟩
theorem nw_X3_28 : gNw RX3 28 2 4 [.int 0, .int 0, .int 0, .null] := ⟨(RX2, TX2, 4), rfl, rfl, gw_at 170 (by decide +kernel) rfl, gw_at 172 (by decide +kernel) rfl, gw_at 66 (by decide +kernel) rfl, uwX2, tyX2, tyX2_ok, df_X2⟩
theorem cl_sheet : Cond.classLink RX3 28 RX2 ∈ gWd := gw_at 170 (by decide +kernel) rfl
theorem nw_L_10 : gNw RL 10 4 34 [.int 0, .int 0, .null, .null, .null, .int 0, .int 0, .null, .null, .null, .null, .null, .int 0, .int 0, .null, .null, .null, .null, .null, .null, .null, .null, .int 0, .int 0, .null, .null, .null, .null, .int 0, .int 0, .int 0, .int 0, .null, .null] := ⟨(RX4, TX4, 34), rfl, rfl, gw_at 584 (by decide +kernel) rfl, gw_at 585 (by decide +kernel) rfl, gw_at 67 (by decide +kernel) rfl, uwX4, tyX4, tyX4_ok, df_X4⟩
theorem mi_X0 : mE yX0_init cX0_init 1 none 0 := ⟨gw_at 64 (by decide +kernel) rfl, gw_at 83 (by decide +kernel) rfl, by decide +kernel, by decide +kernel, by decide +kernel⟩
theorem mj_X0 : Cond.instanceMethod yX0_init ∈ gWd := gw_at 82 (by decide +kernel) rfl
theorem mi_X1 : mE yX1_init cX1_init 1 none 0 := ⟨gw_at 65 (by decide +kernel) rfl, gw_at 147 (by decide +kernel) rfl, by decide +kernel, by decide +kernel, by decide +kernel⟩
theorem mj_X1 : Cond.instanceMethod yX1_init ∈ gWd := gw_at 146 (by decide +kernel) rfl
theorem mi_X2 : mE yX2_init cX2_init 1 none 0 := ⟨gw_at 66 (by decide +kernel) rfl, gw_at 175 (by decide +kernel) rfl, by decide +kernel, by decide +kernel, by decide +kernel⟩
theorem mj_X2 : Cond.instanceMethod yX2_init ∈ gWd := gw_at 174 (by decide +kernel) rfl
theorem mi_X3 : mE yX3_init cX3_init 2 none 0 := ⟨gw_at 63 (by decide +kernel) rfl, gw_at 75 (by decide +kernel) rfl, by decide +kernel, by decide +kernel, by decide +kernel⟩
theorem mj_X3 : Cond.instanceMethod yX3_init ∈ gWd := gw_at 74 (by decide +kernel) rfl
theorem mi_X4 : mE yX4_init cX4_init 1 none 0 := ⟨gw_at 67 (by decide +kernel) rfl, gw_at 588 (by decide +kernel) rfl, by decide +kernel, by decide +kernel, by decide +kernel⟩
theorem mj_X4 : Cond.instanceMethod yX4_init ∈ gWd := gw_at 587 (by decide +kernel) rfl
def wPl (c3 : C3) (h0 : Nat) (al : Nat → Nat) : va_W := [(h0, .inr (0, [.int 0, .ref (al 1), .ref (al 2), .ref (al 3), .ref (al 4), .ref (al 5), .ref (al 8), .ref (al 11), .ref (al 12), .ref (al 13), .int 0, .int 0])), (al 1, .inl (c3.1, 6, .inl (fun _ => 0))), (al 2, .inl (c3.1, 6, .inl (fun _ => 0))), (al 3, .inl (c3.1, 6, .inl (fun _ => 0))), (al 4, .inl (c3.1, 6, .inl (fun _ => 0))), (al 5, .inl (c3.2.2, 2, .inr (.inr (.inr (.inr (fun i => ([al 6, al 7] : List Nat)[i]?)))))), (al 6, .inl (c3.1, 6, .inl (fun _ => 0))), (al 7, .inl (c3.1, 6, .inl (fun _ => 0))), (al 8, .inl (c3.2.2, 2, .inr (.inr (.inr (.inr (fun i => ([al 9, al 10] : List Nat)[i]?)))))), (al 9, .inl (c3.1, 6, .inl (fun _ => 0))), (al 10, .inl (c3.1, 6, .inl (fun _ => 0))), (al 11, .inl (c3.1, 6, .inl (fun _ => 0))), (al 12, .inl (c3.1, 6, .inl (fun _ => 0))), (al 13, .inl (c3.1, 6, .inl (fun _ => 0)))]
def wRdr (c3 : C3) (h0 q : Nat) (al : Nat → Nat) (qc : Nat) : va_W := (h0, .inr (1, [.ref q, .ref qc, .int 0, .int 0, .int 0])) :: (wPl c3 q al ++ [(qc, .inl (c3.1, 60, .inl (fun _ => 0)))])
def wSt (c3 : C3) (h0 qc : Nat) : va_W := [(h0, .inr (2, [.int 0, .int 0, .int 0, .ref qc])), (qc, .inl (c3.1, 60, .inl (fun _ => 0)))]
def wAO (c3 : C3) (al : Nat → Nat) : va_W := (al 0, .inr (3, [.ref (al 1), .ref (al 15), .ref (al 29), .ref (al 45), .ref (al 54), .ref (al 55), .ref (al 56), .int 0, .int 0, .int 0])) :: (al 45, .inl (c3.2.1, 4, .inr (.inr (.inr (.inr (fun i => ([al 46, al 48, al 50, al 52] : List Nat)[i]?)))))) :: (wSt c3 (al 52) (al 53) ++ (wSt c3 (al 50) (al 51) ++ (wSt c3 (al 48) (al 49) ++ (wSt c3 (al 46) (al 47) ++ (((((([] ++ wPl c3 (al 1) (fun k => al (1 + k))) ++ wPl c3 (al 15) (fun k => al (15 + k))) ++ wRdr c3 (al 29) (al 30) (fun k => al (30 + k)) (al 44)) ++ [(al 54, .inl (c3.1, 6, .inl (fun _ => 0)))]) ++ [(al 55, .inl (c3.1, 8, .inl (fun _ => 0)))]) ++ [(al 56, .inl (c3.1, 8, .inl (fun _ => 0)))])))))
def srt : Nat → Int32 := upd (upd (upd (upd (fun _ => 0) ((0 : Int32)).toNatClampNeg (-9)) ((1 : Int32)).toNatClampNeg (-9)) ((2 : Int32)).toNatClampNeg (-9)) ((3 : Int32)).toNatClampNeg (-9)
def wMd (c3 : C3) (al : Nat → Nat) : va_W := (al 57, .inr (4, [.int 0, .int 0, .ref (al 58), .ref (al 59), .ref (al 60), .int 0, .int 0, .ref (al 61), .ref (al 62), .ref (al 63), .ref (al 64), .ref (al 65), .int 0, .int 0, .ref (al 66), .ref (al 67), .ref (al 68), .ref (al 69), .ref (al 70), .ref (al 71), .ref (al 72), .ref (al 73), .int 0, .int 0, .ref (al 74), .ref (al 75), .ref (al 76), .ref (al 77), .int 0, .int 0, .int 0, .int 0, .ref (al 78), .ref (al 79)])) :: (((((((((((((((((((((([] ++ [(al 58, .inl (c3.1, 4, .inl (srt)))]) ++ [(al 59, .inl (c3.1, 4, .inl (fun _ => 0)))]) ++ [(al 60, .inl (c3.1, 240, .inl (fun _ => 0)))]) ++ [(al 61, .inl (c3.1, 6, .inl (fun _ => 0)))]) ++ [(al 62, .inl (c3.1, 6, .inl (fun _ => 0)))]) ++ [(al 63, .inl (c3.1, 6, .inl (fun _ => 0)))]) ++ [(al 64, .inl (c3.1, 6, .inl (fun _ => 0)))]) ++ [(al 65, .inl (c3.1, 12, .inl (fun _ => 0)))]) ++ [(al 66, .inl (c3.1, 6, .inl (fun _ => 0)))]) ++ [(al 67, .inl (c3.1, 6, .inl (fun _ => 0)))]) ++ [(al 68, .inl (c3.1, 6, .inl (fun _ => 0)))]) ++ [(al 69, .inl (c3.1, 6, .inl (fun _ => 0)))]) ++ [(al 70, .inl (c3.1, 12, .inl (fun _ => 0)))]) ++ [(al 71, .inl (c3.1, 6, .inl (fun _ => 0)))]) ++ [(al 72, .inl (c3.1, 6, .inl (fun _ => 0)))]) ++ [(al 73, .inl (c3.1, 6, .inl (fun _ => 0)))]) ++ [(al 74, .inl (c3.1, 6, .inl (fun _ => 0)))]) ++ [(al 75, .inl (c3.1, 24, .inl (fun _ => 0)))]) ++ [(al 76, .inl (c3.1, 6, .inl (fun _ => 0)))]) ++ [(al 77, .inl (c3.1, 6, .inl (fun _ => 0)))]) ++ [(al 78, .inl (c3.1, 8, .inl (fun _ => 0)))]) ++ [(al 79, .inl (c3.1, 8, .inl (fun _ => 0)))])
theorem sh4_f (a b c d : Nat) : va_up (va_up (va_up (va_up (fun _ => (none : Option Nat)) ((0 : Int32)).toNatClampNeg (some a)) ((1 : Int32)).toNatClampNeg (some b)) ((2 : Int32)).toNatClampNeg (some c)) ((3 : Int32)).toNatClampNeg (some d) = (fun i => ([a, b, c, d] : List Nat)[i]?) := by
  funext i
  have h0 : ((0 : Int32)).toNatClampNeg = 0 := rfl
  have h1 : ((1 : Int32)).toNatClampNeg = 1 := rfl
  have h2 : ((2 : Int32)).toNatClampNeg = 2 := rfl
  have h3 : ((3 : Int32)).toNatClampNeg = 3 := rfl
  rw [h0, h1, h2, h3]
  match i with
  | 0 => rfl
  | 1 => rfl
  | 2 => rfl
  | 3 => rfl
  | i + 4 => simp [va_up]
