/-- at least 0 and below c -/
def inN (a c : Int32) : Bool := !decide (a < 0) && !decide (c ≤ a)
/-- of lo .. hi -/
def inR (a lo hi : Int32) : Bool := !decide (a < lo) && !decide (hi < a)
set_option maxHeartbeats 4000000 in
set_option maxRecDepth 20000 in
theorem c0_hasArea (E : gT) {b : Nat} (hb : isPl b) (u : Mm) (a : Int32) : Con E yX0_hasArea cX0_hasArea 2 (some .boolean) 0 [.ref (E.2.1 b), .int a] u (kI (fun r u2 => r = bI (inN a (u b 0)) ∧ u = u2)) := by
  refine Con.of (lv := [some (.ref (E.2.1 b)), some (.int a)]) (by decide +kernel) (Nat.le_of_ble_eq_true rfl) rfl ?_
  refine jg_iload_n dX0_hasArea_0 rfl rfl ?_
  refine jg_if_lt 16 dX0_hasArea_1 (by decide) (fun h_1 => ?_) (fun h_1 => ?_)
  · refine jg_iconst (v := 0) dX0_hasArea_16 (by decide) ?_
    exact jg_iret (rfl) dX0_hasArea_17 ⟨_, rfl, ⟨by simp [bI, inN, *], rfl⟩⟩
  · refine jg_iload_n dX0_hasArea_4 rfl rfl ?_
    refine jg_aload_n dX0_hasArea_5 rfl rfl ?_
    refine jg_geti fk_X0_41 (pl_0 hb) rfl dX0_hasArea_6 ?_
    refine jg_icmp_ge 16 dX0_hasArea_9 (by decide) (fun h_9 => ?_) (fun h_9 => ?_)
    · refine jg_iconst (v := 0) dX0_hasArea_16 (by decide) ?_
      exact jg_iret (rfl) dX0_hasArea_17 ⟨_, rfl, ⟨by simp [bI, inN, *], rfl⟩⟩
    · refine jg_iconst (v := 1) dX0_hasArea_12 (by decide) ?_
      refine jg_goto 17 dX0_hasArea_13 (by decide) ?_
      exact jg_iret (rfl) dX0_hasArea_17 ⟨_, rfl, ⟨by simp [bI, inN, *], rfl⟩⟩
set_option maxHeartbeats 4000000 in
set_option maxRecDepth 20000 in
theorem c0_hasPlaceBehind (E : gT) {b : Nat} (hb : isPl b) (u : Mm) (a : Int32) : Con E yX0_hasPlaceBehind cX0_hasPlaceBehind 2 (some .boolean) 0 [.ref (E.2.1 b), .int a] u (kI (fun r u2 => r = bI (inN a (u b 0 - 1)) ∧ u = u2)) := by
  refine Con.of (lv := [some (.ref (E.2.1 b)), some (.int a)]) (by decide +kernel) (Nat.le_of_ble_eq_true rfl) rfl ?_
  refine jg_iload_n dX0_hasPlaceBehind_0 rfl rfl ?_
  refine jg_if_lt 18 dX0_hasPlaceBehind_1 (by decide) (fun h_1 => ?_) (fun h_1 => ?_)
  · refine jg_iconst (v := 0) dX0_hasPlaceBehind_18 (by decide) ?_
    exact jg_iret (rfl) dX0_hasPlaceBehind_19 ⟨_, rfl, ⟨by simp [bI, inN, *], rfl⟩⟩
  · refine jg_iload_n dX0_hasPlaceBehind_4 rfl rfl ?_
    refine jg_aload_n dX0_hasPlaceBehind_5 rfl rfl ?_
    refine jg_geti fk_X0_41 (pl_0 hb) rfl dX0_hasPlaceBehind_6 ?_
    refine jg_iconst (v := 1) dX0_hasPlaceBehind_9 (by decide) ?_
    refine jg_isub dX0_hasPlaceBehind_10 ?_
    refine jg_icmp_ge 18 dX0_hasPlaceBehind_11 (by decide) (fun h_11 => ?_) (fun h_11 => ?_)
    · refine jg_iconst (v := 0) dX0_hasPlaceBehind_18 (by decide) ?_
      exact jg_iret (rfl) dX0_hasPlaceBehind_19 ⟨_, rfl, ⟨by simp [bI, inN, *], rfl⟩⟩
    · refine jg_iconst (v := 1) dX0_hasPlaceBehind_14 (by decide) ?_
      refine jg_goto 19 dX0_hasPlaceBehind_15 (by decide) ?_
      exact jg_iret (rfl) dX0_hasPlaceBehind_19 ⟨_, rfl, ⟨by simp [bI, inN, *], rfl⟩⟩
set_option maxHeartbeats 4000000 in
set_option maxRecDepth 20000 in
theorem c0_meet (E : gT) (u : Mm) (a la b lb : Int32) : Con E yX0_meet cX0_meet 4 (some .boolean) 0 [.int a, .int la, .int b, .int lb] u (kI (fun r u2 => r = bI (decide (a + la = b) || decide (b + lb = a)) ∧ u = u2)) := by
  refine Con.of (lv := [some (.int a), some (.int la), some (.int b), some (.int lb)]) (by decide +kernel) (Nat.le_of_ble_eq_true rfl) rfl ?_
  refine jg_iload_n dX0_meet_0 rfl rfl ?_
  refine jg_iload_n dX0_meet_1 rfl rfl ?_
  refine jg_iadd dX0_meet_2 ?_
  refine jg_iload_n dX0_meet_3 rfl rfl ?_
  refine jg_icmp_eq 14 dX0_meet_4 (by decide) (fun h_4 => ?_) (fun h_4 => ?_)
  · refine jg_iconst (v := 1) dX0_meet_14 (by decide) ?_
    refine jg_goto 19 dX0_meet_15 (by decide) ?_
    exact jg_iret (rfl) dX0_meet_19 ⟨_, rfl, ⟨by simp [bI, *], rfl⟩⟩
  · refine jg_iload_n dX0_meet_7 rfl rfl ?_
    refine jg_iload_n dX0_meet_8 rfl rfl ?_
    refine jg_iadd dX0_meet_9 ?_
    refine jg_iload_n dX0_meet_10 rfl rfl ?_
    refine jg_icmp_ne 18 dX0_meet_11 (by decide) (fun h_11 => ?_) (fun h_11 => ?_)
    · refine jg_iconst (v := 0) dX0_meet_18 (by decide) ?_
      exact jg_iret (rfl) dX0_meet_19 ⟨_, rfl, ⟨by simp [bI, *], rfl⟩⟩
    · refine jg_iconst (v := 1) dX0_meet_14 (by decide) ?_
      refine jg_goto 19 dX0_meet_15 (by decide) ?_
      exact jg_iret (rfl) dX0_meet_19 ⟨_, rfl, ⟨by simp [bI, *], rfl⟩⟩
set_option maxHeartbeats 4000000 in
set_option maxRecDepth 20000 in
theorem c0_share (E : gT) (u : Mm) (a la b lb : Int32) : Con E yX0_share cX0_share 4 (some .boolean) 0 [.int a, .int la, .int b, .int lb] u (kI (fun r u2 => r = bI (!decide (b + lb ≤ a) && !decide (a + la ≤ b)) ∧ u = u2)) := by
  refine Con.of (lv := [some (.int a), some (.int la), some (.int b), some (.int lb)]) (by decide +kernel) (Nat.le_of_ble_eq_true rfl) rfl ?_
  refine jg_iload_n dX0_share_0 rfl rfl ?_
  refine jg_iload_n dX0_share_1 rfl rfl ?_
  refine jg_iload_n dX0_share_2 rfl rfl ?_
  refine jg_iadd dX0_share_3 ?_
  refine jg_icmp_ge 18 dX0_share_4 (by decide) (fun h_4 => ?_) (fun h_4 => ?_)
  · refine jg_iconst (v := 0) dX0_share_18 (by decide) ?_
    exact jg_iret (rfl) dX0_share_19 ⟨_, rfl, ⟨by simp [bI, *], rfl⟩⟩
  · refine jg_iload_n dX0_share_7 rfl rfl ?_
    refine jg_iload_n dX0_share_8 rfl rfl ?_
    refine jg_iload_n dX0_share_9 rfl rfl ?_
    refine jg_iadd dX0_share_10 ?_
    refine jg_icmp_ge 18 dX0_share_11 (by decide) (fun h_11 => ?_) (fun h_11 => ?_)
    · refine jg_iconst (v := 0) dX0_share_18 (by decide) ?_
      exact jg_iret (rfl) dX0_share_19 ⟨_, rfl, ⟨by simp [bI, *], rfl⟩⟩
    · refine jg_iconst (v := 1) dX0_share_14 (by decide) ?_
      refine jg_goto 19 dX0_share_15 (by decide) ?_
      exact jg_iret (rfl) dX0_share_19 ⟨_, rfl, ⟨by simp [bI, *], rfl⟩⟩
set_option maxHeartbeats 4000000 in
set_option maxRecDepth 20000 in
theorem c2_faultAs (E : gT) {b : Nat} (hb : isSh b) (u : Mm) (a : Int32) : Con E yX2_faultAs cX2_faultAs 2 (some .int) 0 [.ref (E.2.1 b), .int a] u (kI (fun r u2 => r = (if u b 0 = 0 then 1 else if u b 1 = a then 0 else 2) ∧ u = u2)) := by
  refine Con.of (lv := [some (.ref (E.2.1 b)), some (.int a)]) (by decide +kernel) (Nat.le_of_ble_eq_true rfl) rfl ?_
  refine jg_aload_n dX2_faultAs_0 rfl rfl ?_
  refine jg_geti fk_X2_15 (pg_0 hb) rfl dX2_faultAs_1 ?_
  refine jg_if_ne 9 dX2_faultAs_4 (by decide) (fun h_4 => ?_) (fun h_4 => ?_)
  · refine jg_aload_n dX2_faultAs_9 rfl rfl ?_
    refine jg_geti fk_X2_19 (pg_0 hb) rfl dX2_faultAs_10 ?_
    refine jg_iload_n dX2_faultAs_13 rfl rfl ?_
    refine jg_icmp_ne 21 dX2_faultAs_14 (by decide) (fun h_14 => ?_) (fun h_14 => ?_)
    · refine jg_iconst (v := 2) dX2_faultAs_21 (by decide) ?_
      exact jg_iret (rfl) dX2_faultAs_22 ⟨_, rfl, ⟨by simp [*], rfl⟩⟩
    · refine jg_iconst (v := 0) dX2_faultAs_17 (by decide) ?_
      refine jg_goto 22 dX2_faultAs_18 (by decide) ?_
      exact jg_iret (rfl) dX2_faultAs_22 ⟨_, rfl, ⟨by simp [*], rfl⟩⟩
  · refine jg_iconst (v := 1) dX2_faultAs_7 (by decide) ?_
    exact jg_iret (rfl) dX2_faultAs_8 ⟨_, rfl, ⟨by simp [*], rfl⟩⟩
set_option maxHeartbeats 4000000 in
set_option maxRecDepth 20000 in
theorem c2_hasCell (E : gT) {b : Nat} (hb : isSh b) (u : Mm) (a : Int32) : Con E yX2_hasCell cX2_hasCell 2 (some .boolean) 0 [.ref (E.2.1 b), .int a] u (kI (fun r u2 => r = bI (inN a (u b 2)) ∧ u = u2)) := by
  refine Con.of (lv := [some (.ref (E.2.1 b)), some (.int a)]) (by decide +kernel) (Nat.le_of_ble_eq_true rfl) rfl ?_
  refine jg_iload_n dX2_hasCell_0 rfl rfl ?_
  refine jg_if_lt 16 dX2_hasCell_1 (by decide) (fun h_1 => ?_) (fun h_1 => ?_)
  · refine jg_iconst (v := 0) dX2_hasCell_16 (by decide) ?_
    exact jg_iret (rfl) dX2_hasCell_17 ⟨_, rfl, ⟨by simp [bI, inN, *], rfl⟩⟩
  · refine jg_iload_n dX2_hasCell_4 rfl rfl ?_
    refine jg_aload_n dX2_hasCell_5 rfl rfl ?_
    refine jg_geti fk_X2_23 (pg_0 hb) rfl dX2_hasCell_6 ?_
    refine jg_icmp_ge 16 dX2_hasCell_9 (by decide) (fun h_9 => ?_) (fun h_9 => ?_)
    · refine jg_iconst (v := 0) dX2_hasCell_16 (by decide) ?_
      exact jg_iret (rfl) dX2_hasCell_17 ⟨_, rfl, ⟨by simp [bI, inN, *], rfl⟩⟩
    · refine jg_iconst (v := 1) dX2_hasCell_12 (by decide) ?_
      refine jg_goto 17 dX2_hasCell_13 (by decide) ?_
      exact jg_iret (rfl) dX2_hasCell_17 ⟨_, rfl, ⟨by simp [bI, inN, *], rfl⟩⟩
set_option maxHeartbeats 4000000 in
set_option maxRecDepth 20000 in
theorem c2_hasCells (E : gT) {b : Nat} (hb : isSh b) (u : Mm) (i n : Int32) : Con E yX2_hasCells cX2_hasCells 3 (some .boolean) 0 [.ref (E.2.1 b), .int i, .int n] u (kI (fun r u2 => r = bI (!decide (i < 0) && !decide (u b 2 < i) && !decide (n < 0) && !decide (u b 2 - i < n)) ∧ u = u2)) := by
  refine Con.of (lv := [some (.ref (E.2.1 b)), some (.int i), some (.int n)]) (by decide +kernel) (Nat.le_of_ble_eq_true rfl) rfl ?_
  refine jg_iload_n dX2_hasCells_0 rfl rfl ?_
  refine jg_if_lt 30 dX2_hasCells_1 (by decide) (fun h_1 => ?_) (fun h_1 => ?_)
  · refine jg_iconst (v := 0) dX2_hasCells_30 (by decide) ?_
    exact jg_iret (rfl) dX2_hasCells_31 ⟨_, rfl, ⟨by simp [bI, *], rfl⟩⟩
  · refine jg_iload_n dX2_hasCells_4 rfl rfl ?_
    refine jg_aload_n dX2_hasCells_5 rfl rfl ?_
    refine jg_geti fk_X2_23 (pg_0 hb) rfl dX2_hasCells_6 ?_
    refine jg_icmp_gt 30 dX2_hasCells_9 (by decide) (fun h_9 => ?_) (fun h_9 => ?_)
    · refine jg_iconst (v := 0) dX2_hasCells_30 (by decide) ?_
      exact jg_iret (rfl) dX2_hasCells_31 ⟨_, rfl, ⟨by simp [bI, *], rfl⟩⟩
    · refine jg_iload_n dX2_hasCells_12 rfl rfl ?_
      refine jg_if_lt 30 dX2_hasCells_13 (by decide) (fun h_13 => ?_) (fun h_13 => ?_)
      · refine jg_iconst (v := 0) dX2_hasCells_30 (by decide) ?_
        exact jg_iret (rfl) dX2_hasCells_31 ⟨_, rfl, ⟨by simp [bI, *], rfl⟩⟩
      · refine jg_iload_n dX2_hasCells_16 rfl rfl ?_
        refine jg_aload_n dX2_hasCells_17 rfl rfl ?_
        refine jg_geti fk_X2_23 (pg_0 hb) rfl dX2_hasCells_18 ?_
        refine jg_iload_n dX2_hasCells_21 rfl rfl ?_
        refine jg_isub dX2_hasCells_22 ?_
        refine jg_icmp_gt 30 dX2_hasCells_23 (by decide) (fun h_23 => ?_) (fun h_23 => ?_)
        · refine jg_iconst (v := 0) dX2_hasCells_30 (by decide) ?_
          exact jg_iret (rfl) dX2_hasCells_31 ⟨_, rfl, ⟨by simp [bI, *], rfl⟩⟩
        · refine jg_iconst (v := 1) dX2_hasCells_26 (by decide) ?_
          refine jg_goto 31 dX2_hasCells_27 (by decide) ?_
          exact jg_iret (rfl) dX2_hasCells_31 ⟨_, rfl, ⟨by simp [bI, *], rfl⟩⟩
set_option maxHeartbeats 4000000 in
set_option maxRecDepth 20000 in
theorem c3_isSheet (E : gT) (u : Mm) (a : Int32) : Con E yX3_isSheet cX3_isSheet 1 (some .boolean) 0 [.int a] u (kI (fun r u2 => r = bI (inN a 4) ∧ u = u2)) := by
  refine Con.of (lv := [some (.int a)]) (by decide +kernel) (Nat.le_of_ble_eq_true rfl) rfl ?_
  refine jg_iload_n dX3_isSheet_0 rfl rfl ?_
  refine jg_if_lt 13 dX3_isSheet_1 (by decide) (fun h_1 => ?_) (fun h_1 => ?_)
  · refine jg_iconst (v := 0) dX3_isSheet_13 (by decide) ?_
    exact jg_iret (rfl) dX3_isSheet_14 ⟨_, rfl, ⟨by simp [bI, inN, *], rfl⟩⟩
  · refine jg_iload_n dX3_isSheet_4 rfl rfl ?_
    refine jg_iconst (v := 4) dX3_isSheet_5 (by decide) ?_
    refine jg_icmp_ge 13 dX3_isSheet_6 (by decide) (fun h_6 => ?_) (fun h_6 => ?_)
    · refine jg_iconst (v := 0) dX3_isSheet_13 (by decide) ?_
      exact jg_iret (rfl) dX3_isSheet_14 ⟨_, rfl, ⟨by simp [bI, inN, *], rfl⟩⟩
    · refine jg_iconst (v := 1) dX3_isSheet_9 (by decide) ?_
      refine jg_goto 14 dX3_isSheet_10 (by decide) ?_
      exact jg_iret (rfl) dX3_isSheet_14 ⟨_, rfl, ⟨by simp [bI, inN, *], rfl⟩⟩
set_option maxHeartbeats 4000000 in
set_option maxRecDepth 20000 in
theorem c3_isLane (E : gT) (u : Mm) (a : Int32) : Con E yX3_isLane cX3_isLane 1 (some .boolean) 0 [.int a] u (kI (fun r u2 => r = bI (inR a 0 2) ∧ u = u2)) := by
  refine Con.of (lv := [some (.int a)]) (by decide +kernel) (Nat.le_of_ble_eq_true rfl) rfl ?_
  refine jg_iload_n dX3_isLane_0 rfl rfl ?_
  refine jg_if_lt 13 dX3_isLane_1 (by decide) (fun h_1 => ?_) (fun h_1 => ?_)
  · refine jg_iconst (v := 0) dX3_isLane_13 (by decide) ?_
    exact jg_iret (rfl) dX3_isLane_14 ⟨_, rfl, ⟨by simp [bI, inR, *], rfl⟩⟩
  · refine jg_iload_n dX3_isLane_4 rfl rfl ?_
    refine jg_iconst (v := 2) dX3_isLane_5 (by decide) ?_
    refine jg_icmp_gt 13 dX3_isLane_6 (by decide) (fun h_6 => ?_) (fun h_6 => ?_)
    · refine jg_iconst (v := 0) dX3_isLane_13 (by decide) ?_
      exact jg_iret (rfl) dX3_isLane_14 ⟨_, rfl, ⟨by simp [bI, inR, *], rfl⟩⟩
    · refine jg_iconst (v := 1) dX3_isLane_9 (by decide) ?_
      refine jg_goto 14 dX3_isLane_10 (by decide) ?_
      exact jg_iret (rfl) dX3_isLane_14 ⟨_, rfl, ⟨by simp [bI, inR, *], rfl⟩⟩
set_option maxHeartbeats 4000000 in
set_option maxRecDepth 20000 in
theorem c3_isOrder (E : gT) (u : Mm) (a : Int32) : Con E yX3_isOrder cX3_isOrder 1 (some .boolean) 0 [.int a] u (kI (fun r u2 => r = bI (decide (a = 0) || decide (a = 1)) ∧ u = u2)) := by
  refine Con.of (lv := [some (.int a)]) (by decide +kernel) (Nat.le_of_ble_eq_true rfl) rfl ?_
  refine jg_iload_n dX3_isOrder_0 rfl rfl ?_
  refine jg_if_eq 9 dX3_isOrder_1 (by decide) (fun h_1 => ?_) (fun h_1 => ?_)
  · refine jg_iconst (v := 1) dX3_isOrder_9 (by decide) ?_
    refine jg_goto 14 dX3_isOrder_10 (by decide) ?_
    exact jg_iret (rfl) dX3_isOrder_14 ⟨_, rfl, ⟨by simp [bI, *], rfl⟩⟩
  · refine jg_iload_n dX3_isOrder_4 rfl rfl ?_
    refine jg_iconst (v := 1) dX3_isOrder_5 (by decide) ?_
    refine jg_icmp_ne 13 dX3_isOrder_6 (by decide) (fun h_6 => ?_) (fun h_6 => ?_)
    · refine jg_iconst (v := 0) dX3_isOrder_13 (by decide) ?_
      exact jg_iret (rfl) dX3_isOrder_14 ⟨_, rfl, ⟨by simp [bI, *], rfl⟩⟩
    · refine jg_iconst (v := 1) dX3_isOrder_9 (by decide) ?_
      refine jg_goto 14 dX3_isOrder_10 (by decide) ?_
      exact jg_iret (rfl) dX3_isOrder_14 ⟨_, rfl, ⟨by simp [bI, *], rfl⟩⟩
set_option maxHeartbeats 4000000 in
set_option maxRecDepth 20000 in
theorem c3_isWidth (E : gT) (u : Mm) (a : Int32) : Con E yX3_isWidth cX3_isWidth 1 (some .boolean) 0 [.int a] u (kI (fun r u2 => r = bI (inR a 1 9) ∧ u = u2)) := by
  refine Con.of (lv := [some (.int a)]) (by decide +kernel) (Nat.le_of_ble_eq_true rfl) rfl ?_
  refine jg_iload_n dX3_isWidth_0 rfl rfl ?_
  refine jg_iconst (v := 1) dX3_isWidth_1 (by decide) ?_
  refine jg_icmp_lt 15 dX3_isWidth_2 (by decide) (fun h_2 => ?_) (fun h_2 => ?_)
  · refine jg_iconst (v := 0) dX3_isWidth_15 (by decide) ?_
    exact jg_iret (rfl) dX3_isWidth_16 ⟨_, rfl, ⟨by simp [bI, inR, *], rfl⟩⟩
  · refine jg_iload_n dX3_isWidth_5 rfl rfl ?_
    refine jg_bipush (v := 9) dX3_isWidth_6 (by decide) ?_
    refine jg_icmp_gt 15 dX3_isWidth_8 (by decide) (fun h_8 => ?_) (fun h_8 => ?_)
    · refine jg_iconst (v := 0) dX3_isWidth_15 (by decide) ?_
      exact jg_iret (rfl) dX3_isWidth_16 ⟨_, rfl, ⟨by simp [bI, inR, *], rfl⟩⟩
    · refine jg_iconst (v := 1) dX3_isWidth_11 (by decide) ?_
      refine jg_goto 16 dX3_isWidth_12 (by decide) ?_
      exact jg_iret (rfl) dX3_isWidth_16 ⟨_, rfl, ⟨by simp [bI, inR, *], rfl⟩⟩
set_option maxHeartbeats 4000000 in
set_option maxRecDepth 20000 in
theorem c3_isPlot (E : gT) (u : Mm) (a : Int32) : Con E yX3_isPlot cX3_isPlot 1 (some .boolean) 0 [.int a] u (kI (fun r u2 => r = bI (inR a 1 9) ∧ u = u2)) := by
  refine Con.of (lv := [some (.int a)]) (by decide +kernel) (Nat.le_of_ble_eq_true rfl) rfl ?_
  refine jg_iload_n dX3_isPlot_0 rfl rfl ?_
  refine jg_iconst (v := 1) dX3_isPlot_1 (by decide) ?_
  refine jg_icmp_lt 15 dX3_isPlot_2 (by decide) (fun h_2 => ?_) (fun h_2 => ?_)
  · refine jg_iconst (v := 0) dX3_isPlot_15 (by decide) ?_
    exact jg_iret (rfl) dX3_isPlot_16 ⟨_, rfl, ⟨by simp [bI, inR, *], rfl⟩⟩
  · refine jg_iload_n dX3_isPlot_5 rfl rfl ?_
    refine jg_bipush (v := 9) dX3_isPlot_6 (by decide) ?_
    refine jg_icmp_gt 15 dX3_isPlot_8 (by decide) (fun h_8 => ?_) (fun h_8 => ?_)
    · refine jg_iconst (v := 0) dX3_isPlot_15 (by decide) ?_
      exact jg_iret (rfl) dX3_isPlot_16 ⟨_, rfl, ⟨by simp [bI, inR, *], rfl⟩⟩
    · refine jg_iconst (v := 1) dX3_isPlot_11 (by decide) ?_
      refine jg_goto 16 dX3_isPlot_12 (by decide) ?_
      exact jg_iret (rfl) dX3_isPlot_16 ⟨_, rfl, ⟨by simp [bI, inR, *], rfl⟩⟩
set_option maxHeartbeats 4000000 in
set_option maxRecDepth 20000 in
theorem c3_isTold (E : gT) (u : Mm) (a : Int32) : Con E yX3_isTold cX3_isTold 1 (some .boolean) 0 [.int a] u (kI (fun r u2 => r = bI (inR a 0 20) ∧ u = u2)) := by
  refine Con.of (lv := [some (.int a)]) (by decide +kernel) (Nat.le_of_ble_eq_true rfl) rfl ?_
  refine jg_iload_n dX3_isTold_0 rfl rfl ?_
  refine jg_if_lt 14 dX3_isTold_1 (by decide) (fun h_1 => ?_) (fun h_1 => ?_)
  · refine jg_iconst (v := 0) dX3_isTold_14 (by decide) ?_
    exact jg_iret (rfl) dX3_isTold_15 ⟨_, rfl, ⟨by simp [bI, inR, *], rfl⟩⟩
  · refine jg_iload_n dX3_isTold_4 rfl rfl ?_
    refine jg_bipush (v := 20) dX3_isTold_5 (by decide) ?_
    refine jg_icmp_gt 14 dX3_isTold_7 (by decide) (fun h_7 => ?_) (fun h_7 => ?_)
    · refine jg_iconst (v := 0) dX3_isTold_14 (by decide) ?_
      exact jg_iret (rfl) dX3_isTold_15 ⟨_, rfl, ⟨by simp [bI, inR, *], rfl⟩⟩
    · refine jg_iconst (v := 1) dX3_isTold_10 (by decide) ?_
      refine jg_goto 15 dX3_isTold_11 (by decide) ?_
      exact jg_iret (rfl) dX3_isTold_15 ⟨_, rfl, ⟨by simp [bI, inR, *], rfl⟩⟩
set_option maxHeartbeats 4000000 in
set_option maxRecDepth 20000 in
theorem c3_failed (E : gT) (u : Mm) (a : Int32) : Con E yX3_failed cX3_failed 2 (some .int) 0 [.ref (E.2.1 0), .int a] u (kI (fun r u2 => r = -10 - a ∧ u2 = s2 u 0 9 a)) := by
  refine Con.of (lv := [some (.ref (E.2.1 0)), some (.int a)]) (by decide +kernel) (Nat.le_of_ble_eq_true rfl) rfl ?_
  refine jg_aload_n dX3_failed_0 rfl rfl ?_
  refine jg_iload_n dX3_failed_1 rfl rfl ?_
  refine jg_puti fp_X3_45 sh_0 rfl dX3_failed_2 ?_
  refine jg_bipush (v := -10) dX3_failed_5 (by decide) ?_
  refine jg_iload_n dX3_failed_7 rfl rfl ?_
  refine jg_isub dX3_failed_8 ?_
  exact jg_iret (rfl) dX3_failed_9 ⟨_, rfl, ⟨rfl, rfl⟩⟩
set_option maxHeartbeats 4000000 in
set_option maxRecDepth 20000 in
theorem c3_leave (E : gT) (u : Mm) (a : Int32) : Con E yX3_leave cX3_leave 2 none 0 [.ref (E.2.1 0), .int a] u (kV (fun u2 => u2 = s2 u 0 8 (31 * u 0 8 + a))) := by
  refine Con.of (lv := [some (.ref (E.2.1 0)), some (.int a)]) (by decide +kernel) (Nat.le_of_ble_eq_true rfl) rfl ?_
  refine jg_aload_n dX3_leave_0 rfl rfl ?_
  refine jg_bipush (v := 31) dX3_leave_1 (by decide) ?_
  refine jg_aload_n dX3_leave_3 rfl rfl ?_
  refine jg_geti fk_X3_256 sh_0 rfl dX3_leave_4 ?_
  refine jg_imul dX3_leave_7 ?_
  refine jg_iload_n dX3_leave_8 rfl rfl ?_
  refine jg_iadd dX3_leave_9 ?_
  refine jg_puti fp_X3_256 sh_0 rfl dX3_leave_10 ?_
  exact jg_vret dX3_leave_13 ⟨rfl, rfl⟩
