theorem q_dcB {p q : Int32} : ((nI 0 ≤ p ∧ p ≤ nI 399) ∧ (nI 0 ≤ q ∧ q ≤ nI 399) ∧ p ≤ q) ↔ ((nI 0 ≤ p ∧ p ≤ nI 399) ∧ (p ≤ q ∧ q ≤ nI 399)) := by
  constructor
  · intro ⟨h1, h2, h3⟩
    exact ⟨h1, h3, h2.2⟩
  · intro ⟨h1, h2, h3⟩
    exact ⟨h1, ⟨Int32.le_trans h1.1 h2, h3⟩, h2⟩
theorem q_dcA {d p q : Int32} : ((nI 0 ≤ d ∧ d ≤ nI 399) ∧ ((nI 0 ≤ p ∧ p ≤ nI 399) ∧ (p ≤ q ∧ q ≤ nI 399)) ∧ d < p) ↔ ((nI 0 ≤ d ∧ d ≤ nI 399) ∧ (d < p ∧ p ≤ nI 399) ∧ (p ≤ q ∧ q ≤ nI 399)) := by
  constructor
  · intro ⟨h1, h2, h3⟩
    exact ⟨h1, ⟨h3, h2.1.2⟩, h2.2⟩
  · intro ⟨h1, h2, h3⟩
    exact ⟨h1, ⟨⟨Int32.le_trans h1.1 (Int32.le_of_lt h2.1), h2.2⟩, h3⟩, h2.1⟩
set_option maxRecDepth 100000 in
theorem k_X11_areDays {ev : mv_E} {h : mv_H} {p : Int32} {q : Int32}   : mv_K ev mX11_areDays [.int p, .int q] h (some (.int (mv_b ((nI 0 ≤ p ∧ p ≤ nI 399) ∧ (p ≤ q ∧ q ≤ nI 399))))) h := by
  refine mv_Kof ?_
  show mv_g ev mX11_areDays 0 [.int p, .int q] [] h _
  refine mv_iload_n dX11_areDays_0 rfl ?_
  refine mv_cS1 dX11_areDays_1 lk_X11_areDays_136 (Nat.le_of_ble_eq_true rfl) (Nat.le_of_ble_eq_true rfl) (k_X11_isDay (ev := ev)) ?_
  refine mv_if_eq (tgt := 23) dX11_areDays_4 (by decide) (fun c4 => ?_) (fun c4 => ?_)
  · have c4 : ¬ (nI 0 ≤ p ∧ p ≤ nI 399) := (mv_b_0 _).mp c4
    refine mv_iconst (v := nI 0) dX11_areDays_23 (by decide) ?_
    exact mv_iret dX11_areDays_24 rfl rfl ⟨(congrArg (fun z => some (Value.int z)) (by first | exact (mv_b_t (q_dcB.mp ⟨c4, c11, Int32.not_lt.mp c16⟩)).symm | exact (mv_b_f (fun z => c4 z.1)).symm | exact (mv_b_f (fun z => c11 (q_dcB.mpr z).2.1)).symm | exact (mv_b_f (fun z => absurd z.2.1 (Int32.not_le.mpr c16))).symm)), rfl⟩
  · have c4 : nI 0 ≤ p ∧ p ≤ nI 399 := Classical.byContradiction (fun z => c4 ((mv_b_0 _).mpr z))
    refine mv_iload_n dX11_areDays_7 rfl ?_
    refine mv_cS1 dX11_areDays_8 lk_X11_areDays_136 (Nat.le_of_ble_eq_true rfl) (Nat.le_of_ble_eq_true rfl) (k_X11_isDay (ev := ev)) ?_
    refine mv_if_eq (tgt := 23) dX11_areDays_11 (by decide) (fun c11 => ?_) (fun c11 => ?_)
    · have c11 : ¬ (nI 0 ≤ q ∧ q ≤ nI 399) := (mv_b_0 _).mp c11
      refine mv_iconst (v := nI 0) dX11_areDays_23 (by decide) ?_
      exact mv_iret dX11_areDays_24 rfl rfl ⟨(congrArg (fun z => some (Value.int z)) (by first | exact (mv_b_t (q_dcB.mp ⟨c4, c11, Int32.not_lt.mp c16⟩)).symm | exact (mv_b_f (fun z => c4 z.1)).symm | exact (mv_b_f (fun z => c11 (q_dcB.mpr z).2.1)).symm | exact (mv_b_f (fun z => absurd z.2.1 (Int32.not_le.mpr c16))).symm)), rfl⟩
    · have c11 : nI 0 ≤ q ∧ q ≤ nI 399 := Classical.byContradiction (fun z => c11 ((mv_b_0 _).mpr z))
      refine mv_iload_n dX11_areDays_14 rfl ?_
      refine mv_iload_n dX11_areDays_15 rfl ?_
      refine mv_icmp_gt (tgt := 23) dX11_areDays_16 (by decide) (fun c16 => ?_) (fun c16 => ?_)
      · skip
        refine mv_iconst (v := nI 0) dX11_areDays_23 (by decide) ?_
        exact mv_iret dX11_areDays_24 rfl rfl ⟨(congrArg (fun z => some (Value.int z)) (by first | exact (mv_b_t (q_dcB.mp ⟨c4, c11, Int32.not_lt.mp c16⟩)).symm | exact (mv_b_f (fun z => c4 z.1)).symm | exact (mv_b_f (fun z => c11 (q_dcB.mpr z).2.1)).symm | exact (mv_b_f (fun z => absurd z.2.1 (Int32.not_le.mpr c16))).symm)), rfl⟩
      · skip
        refine mv_iconst (v := nI 1) dX11_areDays_19 (by decide) ?_
        refine mv_goto (tgt := 24) dX11_areDays_20 (by decide) ?_
        exact mv_iret dX11_areDays_24 rfl rfl ⟨(congrArg (fun z => some (Value.int z)) (by first | exact (mv_b_t (q_dcB.mp ⟨c4, c11, Int32.not_lt.mp c16⟩)).symm | exact (mv_b_f (fun z => c4 z.1)).symm | exact (mv_b_f (fun z => c11 (q_dcB.mpr z).2.1)).symm | exact (mv_b_f (fun z => absurd z.2.1 (Int32.not_le.mpr c16))).symm)), rfl⟩
set_option maxRecDepth 100000 in
theorem k_X11_areDaysAfter {ev : mv_E} {h : mv_H} {d : Int32} {p : Int32} {q : Int32}   : mv_K ev mX11_areDaysAfter [.int d, .int p, .int q] h (some (.int (mv_b ((nI 0 ≤ d ∧ d ≤ nI 399) ∧ (d < p ∧ p ≤ nI 399) ∧ (p ≤ q ∧ q ≤ nI 399))))) h := by
  refine mv_Kof ?_
  show mv_g ev mX11_areDaysAfter 0 [.int d, .int p, .int q] [] h _
  refine mv_iload_n dX11_areDaysAfter_0 rfl ?_
  refine mv_cS1 dX11_areDaysAfter_1 lk_X11_areDaysAfter_136 (Nat.le_of_ble_eq_true rfl) (Nat.le_of_ble_eq_true rfl) (k_X11_isDay (ev := ev)) ?_
  refine mv_if_eq (tgt := 24) dX11_areDaysAfter_4 (by decide) (fun c4 => ?_) (fun c4 => ?_)
  · have c4 : ¬ (nI 0 ≤ d ∧ d ≤ nI 399) := (mv_b_0 _).mp c4
    refine mv_iconst (v := nI 0) dX11_areDaysAfter_24 (by decide) ?_
    exact mv_iret dX11_areDaysAfter_25 rfl rfl ⟨(congrArg (fun z => some (Value.int z)) (by first | exact (mv_b_t (q_dcA.mp ⟨c4, c12, Int32.not_le.mp c17⟩)).symm | exact (mv_b_f (fun z => c4 z.1)).symm | exact (mv_b_f (fun z => c12 (q_dcA.mpr z).2.1)).symm | exact (mv_b_f (fun z => absurd z.2.1.1 (Int32.not_lt.mpr c17))).symm)), rfl⟩
  · have c4 : nI 0 ≤ d ∧ d ≤ nI 399 := Classical.byContradiction (fun z => c4 ((mv_b_0 _).mpr z))
    refine mv_iload_n dX11_areDaysAfter_7 rfl ?_
    refine mv_iload_n dX11_areDaysAfter_8 rfl ?_
    refine mv_cS2 dX11_areDaysAfter_9 lk_X11_areDaysAfter_189 (Nat.le_of_ble_eq_true rfl) (Nat.le_of_ble_eq_true rfl) (k_X11_areDays (ev := ev)) ?_
    refine mv_if_eq (tgt := 24) dX11_areDaysAfter_12 (by decide) (fun c12 => ?_) (fun c12 => ?_)
    · have c12 : ¬ ((nI 0 ≤ p ∧ p ≤ nI 399) ∧ (p ≤ q ∧ q ≤ nI 399)) := (mv_b_0 _).mp c12
      refine mv_iconst (v := nI 0) dX11_areDaysAfter_24 (by decide) ?_
      exact mv_iret dX11_areDaysAfter_25 rfl rfl ⟨(congrArg (fun z => some (Value.int z)) (by first | exact (mv_b_t (q_dcA.mp ⟨c4, c12, Int32.not_le.mp c17⟩)).symm | exact (mv_b_f (fun z => c4 z.1)).symm | exact (mv_b_f (fun z => c12 (q_dcA.mpr z).2.1)).symm | exact (mv_b_f (fun z => absurd z.2.1.1 (Int32.not_lt.mpr c17))).symm)), rfl⟩
    · have c12 : (nI 0 ≤ p ∧ p ≤ nI 399) ∧ (p ≤ q ∧ q ≤ nI 399) := Classical.byContradiction (fun z => c12 ((mv_b_0 _).mpr z))
      refine mv_iload_n dX11_areDaysAfter_15 rfl ?_
      refine mv_iload_n dX11_areDaysAfter_16 rfl ?_
      refine mv_icmp_le (tgt := 24) dX11_areDaysAfter_17 (by decide) (fun c17 => ?_) (fun c17 => ?_)
      · skip
        refine mv_iconst (v := nI 0) dX11_areDaysAfter_24 (by decide) ?_
        exact mv_iret dX11_areDaysAfter_25 rfl rfl ⟨(congrArg (fun z => some (Value.int z)) (by first | exact (mv_b_t (q_dcA.mp ⟨c4, c12, Int32.not_le.mp c17⟩)).symm | exact (mv_b_f (fun z => c4 z.1)).symm | exact (mv_b_f (fun z => c12 (q_dcA.mpr z).2.1)).symm | exact (mv_b_f (fun z => absurd z.2.1.1 (Int32.not_lt.mpr c17))).symm)), rfl⟩
      · skip
        refine mv_iconst (v := nI 1) dX11_areDaysAfter_20 (by decide) ?_
        refine mv_goto (tgt := 25) dX11_areDaysAfter_21 (by decide) ?_
        exact mv_iret dX11_areDaysAfter_25 rfl rfl ⟨(congrArg (fun z => some (Value.int z)) (by first | exact (mv_b_t (q_dcA.mp ⟨c4, c12, Int32.not_le.mp c17⟩)).symm | exact (mv_b_f (fun z => c4 z.1)).symm | exact (mv_b_f (fun z => c12 (q_dcA.mpr z).2.1)).symm | exact (mv_b_f (fun z => absurd z.2.1.1 (Int32.not_lt.mpr c17))).symm)), rfl⟩
set_option maxRecDepth 100000 in
theorem k_X11_areTownBounds {ev : mv_E} {h : mv_H} {x : Int32} {lc : Int32} {sc : Int32} {a : Int32} {e : Int32}   : mv_K ev mX11_areTownBounds [.int x, .int lc, .int sc, .int a, .int e] h (some (.int (mv_b ((nI 1 ≤ x ∧ x ≤ nI 9) ∧ (nI 1 ≤ lc ∧ lc ≤ nI 999) ∧ (nI 1 ≤ sc ∧ sc ≤ nI 9999) ∧ (nI 1 ≤ a ∧ a ≤ nI 399) ∧ (a ≤ e ∧ e ≤ nI 399))))) h := by
  refine mv_Kof ?_
  show mv_g ev mX11_areTownBounds 0 [.int x, .int lc, .int sc, .int a, .int e] [] h _
  refine mv_iload_n dX11_areTownBounds_0 rfl ?_
  refine mv_cS1 dX11_areTownBounds_1 lk_X11_areTownBounds_130 (Nat.le_of_ble_eq_true rfl) (Nat.le_of_ble_eq_true rfl) (k_X11_isSize (ev := ev)) ?_
  refine mv_if_eq (tgt := 47) dX11_areTownBounds_4 (by decide) (fun c4 => ?_) (fun c4 => ?_)
  · have c4 : ¬ (nI 1 ≤ x ∧ x ≤ nI 9) := (mv_b_0 _).mp c4
    refine mv_iconst (v := nI 0) dX11_areTownBounds_47 (by decide) ?_
    exact mv_iret dX11_areTownBounds_48 rfl rfl ⟨(congrArg (fun z => some (Value.int z)) (by first | exact (mv_b_t ⟨c4, c15, c26, ⟨Int32.not_lt.mp c31, c40.1.2⟩, c40.2⟩).symm | exact (mv_b_f (fun z => c4 z.1)).symm | exact (mv_b_f (fun z => c15 z.2.1)).symm | exact (mv_b_f (fun z => c26 z.2.2.1)).symm | exact (mv_b_f (fun z => absurd z.2.2.2.1.1 (Int32.not_le.mpr c31))).symm | exact (mv_b_f (fun z => c40 ⟨⟨Int32.le_trans (show nI 0 ≤ nI 1 by decide) z.2.2.2.1.1, z.2.2.2.1.2⟩, z.2.2.2.2⟩)).symm)), rfl⟩
  · have c4 : nI 1 ≤ x ∧ x ≤ nI 9 := Classical.byContradiction (fun z => c4 ((mv_b_0 _).mpr z))
    refine mv_iload_n dX11_areTownBounds_7 rfl ?_
    refine mv_iconst (v := nI 1) dX11_areTownBounds_8 (by decide) ?_
    refine mv_sipush (v := nI 999) dX11_areTownBounds_9 (by decide) ?_
    refine mv_cS3 dX11_areTownBounds_12 lk_X11_areTownBounds_96 (Nat.le_of_ble_eq_true rfl) (Nat.le_of_ble_eq_true rfl) (k_X11_within (ev := ev)) ?_
    refine mv_if_eq (tgt := 47) dX11_areTownBounds_15 (by decide) (fun c15 => ?_) (fun c15 => ?_)
    · have c15 : ¬ ((nI 1) ≤ lc ∧ lc ≤ (nI 999)) := (mv_b_0 _).mp c15
      refine mv_iconst (v := nI 0) dX11_areTownBounds_47 (by decide) ?_
      exact mv_iret dX11_areTownBounds_48 rfl rfl ⟨(congrArg (fun z => some (Value.int z)) (by first | exact (mv_b_t ⟨c4, c15, c26, ⟨Int32.not_lt.mp c31, c40.1.2⟩, c40.2⟩).symm | exact (mv_b_f (fun z => c4 z.1)).symm | exact (mv_b_f (fun z => c15 z.2.1)).symm | exact (mv_b_f (fun z => c26 z.2.2.1)).symm | exact (mv_b_f (fun z => absurd z.2.2.2.1.1 (Int32.not_le.mpr c31))).symm | exact (mv_b_f (fun z => c40 ⟨⟨Int32.le_trans (show nI 0 ≤ nI 1 by decide) z.2.2.2.1.1, z.2.2.2.1.2⟩, z.2.2.2.2⟩)).symm)), rfl⟩
    · have c15 : (nI 1) ≤ lc ∧ lc ≤ (nI 999) := Classical.byContradiction (fun z => c15 ((mv_b_0 _).mpr z))
      refine mv_iload_n dX11_areTownBounds_18 rfl ?_
      refine mv_iconst (v := nI 1) dX11_areTownBounds_19 (by decide) ?_
      refine mv_sipush (v := nI 9999) dX11_areTownBounds_20 (by decide) ?_
      refine mv_cS3 dX11_areTownBounds_23 lk_X11_areTownBounds_96 (Nat.le_of_ble_eq_true rfl) (Nat.le_of_ble_eq_true rfl) (k_X11_within (ev := ev)) ?_
      refine mv_if_eq (tgt := 47) dX11_areTownBounds_26 (by decide) (fun c26 => ?_) (fun c26 => ?_)
      · have c26 : ¬ ((nI 1) ≤ sc ∧ sc ≤ (nI 9999)) := (mv_b_0 _).mp c26
        refine mv_iconst (v := nI 0) dX11_areTownBounds_47 (by decide) ?_
        exact mv_iret dX11_areTownBounds_48 rfl rfl ⟨(congrArg (fun z => some (Value.int z)) (by first | exact (mv_b_t ⟨c4, c15, c26, ⟨Int32.not_lt.mp c31, c40.1.2⟩, c40.2⟩).symm | exact (mv_b_f (fun z => c4 z.1)).symm | exact (mv_b_f (fun z => c15 z.2.1)).symm | exact (mv_b_f (fun z => c26 z.2.2.1)).symm | exact (mv_b_f (fun z => absurd z.2.2.2.1.1 (Int32.not_le.mpr c31))).symm | exact (mv_b_f (fun z => c40 ⟨⟨Int32.le_trans (show nI 0 ≤ nI 1 by decide) z.2.2.2.1.1, z.2.2.2.1.2⟩, z.2.2.2.2⟩)).symm)), rfl⟩
      · have c26 : (nI 1) ≤ sc ∧ sc ≤ (nI 9999) := Classical.byContradiction (fun z => c26 ((mv_b_0 _).mpr z))
        refine mv_iload_n dX11_areTownBounds_29 rfl ?_
        refine mv_iconst (v := nI 1) dX11_areTownBounds_30 (by decide) ?_
        refine mv_icmp_lt (tgt := 47) dX11_areTownBounds_31 (by decide) (fun c31 => ?_) (fun c31 => ?_)
        · skip
          refine mv_iconst (v := nI 0) dX11_areTownBounds_47 (by decide) ?_
          exact mv_iret dX11_areTownBounds_48 rfl rfl ⟨(congrArg (fun z => some (Value.int z)) (by first | exact (mv_b_t ⟨c4, c15, c26, ⟨Int32.not_lt.mp c31, c40.1.2⟩, c40.2⟩).symm | exact (mv_b_f (fun z => c4 z.1)).symm | exact (mv_b_f (fun z => c15 z.2.1)).symm | exact (mv_b_f (fun z => c26 z.2.2.1)).symm | exact (mv_b_f (fun z => absurd z.2.2.2.1.1 (Int32.not_le.mpr c31))).symm | exact (mv_b_f (fun z => c40 ⟨⟨Int32.le_trans (show nI 0 ≤ nI 1 by decide) z.2.2.2.1.1, z.2.2.2.1.2⟩, z.2.2.2.2⟩)).symm)), rfl⟩
        · skip
          refine mv_iload_n dX11_areTownBounds_34 rfl ?_
          refine mv_iload dX11_areTownBounds_35 rfl ?_
          refine mv_cS2 dX11_areTownBounds_37 lk_X11_areTownBounds_189 (Nat.le_of_ble_eq_true rfl) (Nat.le_of_ble_eq_true rfl) (k_X11_areDays (ev := ev)) ?_
          refine mv_if_eq (tgt := 47) dX11_areTownBounds_40 (by decide) (fun c40 => ?_) (fun c40 => ?_)
          · have c40 : ¬ ((nI 0 ≤ a ∧ a ≤ nI 399) ∧ (a ≤ e ∧ e ≤ nI 399)) := (mv_b_0 _).mp c40
            refine mv_iconst (v := nI 0) dX11_areTownBounds_47 (by decide) ?_
            exact mv_iret dX11_areTownBounds_48 rfl rfl ⟨(congrArg (fun z => some (Value.int z)) (by first | exact (mv_b_t ⟨c4, c15, c26, ⟨Int32.not_lt.mp c31, c40.1.2⟩, c40.2⟩).symm | exact (mv_b_f (fun z => c4 z.1)).symm | exact (mv_b_f (fun z => c15 z.2.1)).symm | exact (mv_b_f (fun z => c26 z.2.2.1)).symm | exact (mv_b_f (fun z => absurd z.2.2.2.1.1 (Int32.not_le.mpr c31))).symm | exact (mv_b_f (fun z => c40 ⟨⟨Int32.le_trans (show nI 0 ≤ nI 1 by decide) z.2.2.2.1.1, z.2.2.2.1.2⟩, z.2.2.2.2⟩)).symm)), rfl⟩
          · have c40 : (nI 0 ≤ a ∧ a ≤ nI 399) ∧ (a ≤ e ∧ e ≤ nI 399) := Classical.byContradiction (fun z => c40 ((mv_b_0 _).mpr z))
            refine mv_iconst (v := nI 1) dX11_areTownBounds_43 (by decide) ?_
            refine mv_goto (tgt := 48) dX11_areTownBounds_44 (by decide) ?_
            exact mv_iret dX11_areTownBounds_48 rfl rfl ⟨(congrArg (fun z => some (Value.int z)) (by first | exact (mv_b_t ⟨c4, c15, c26, ⟨Int32.not_lt.mp c31, c40.1.2⟩, c40.2⟩).symm | exact (mv_b_f (fun z => c4 z.1)).symm | exact (mv_b_f (fun z => c15 z.2.1)).symm | exact (mv_b_f (fun z => c26 z.2.2.1)).symm | exact (mv_b_f (fun z => absurd z.2.2.2.1.1 (Int32.not_le.mpr c31))).symm | exact (mv_b_f (fun z => c40 ⟨⟨Int32.le_trans (show nI 0 ≤ nI 1 by decide) z.2.2.2.1.1, z.2.2.2.1.2⟩, z.2.2.2.2⟩)).symm)), rfl⟩
set_option maxRecDepth 100000 in
theorem k_X11_feed_R1 {ev : mv_E} {h : mv_H} {m : Int32} {bb : Int64}  (hno : ¬ ((nI 1 ≤ m ∧ m ≤ nI 8))) : mv_K ev mX11_feed [.ref 0, .int m, .long bb] h (some (.int (-1002))) h := by
  refine mv_Kof ?_
  show mv_g ev mX11_feed 0 [.ref 0, .int m, .long bb, .null] [] h _
  refine mv_iload_n dX11_feed_0 rfl ?_
  refine mv_iconst (v := nI 1) dX11_feed_1 (by decide) ?_
  refine mv_bipush (v := nI 8) dX11_feed_2 (by decide) ?_
  refine mv_cS3 dX11_feed_4 lk_X11_feed_96 (Nat.le_of_ble_eq_true rfl) (Nat.le_of_ble_eq_true rfl) (k_X11_within (ev := ev)) ?_
  refine mv_if_ne (tgt := 14) dX11_feed_7 (by decide) (fun c7 => ?_) (fun c7 => ?_)
  · have c7 : (nI 1) ≤ m ∧ m ≤ (nI 8) := Classical.byContradiction (fun z => c7 ((mv_b_0 _).mpr z))
    exact absurd (by assumption) hno
  · have c7 : ¬ ((nI 1) ≤ m ∧ m ≤ (nI 8)) := (mv_b_0 _).mp c7
    refine mv_sipush (v := (-1002)) dX11_feed_10 (by decide) ?_
    exact mv_iret dX11_feed_13 rfl rfl ⟨rfl, rfl⟩
set_option maxRecDepth 100000 in
theorem k_X11_feed_R2 {ev : mv_E} {h : mv_H} {n : Nat} {a0 : Nat} {cl : Nat} {fa : Nat} {fp : Int32} {k : Nat} {bb : Int64} (H0 : h[0]? = some (.inr (11, [.ref 1, .ref 3, .ref 7, .ref 11, .ref 21, .ref 22, .ref 32, .ref 34, .ref 42, .ref 45, .ref 48]))) (H3 : h[3]? = some (.inr (6, [.ref 4, .ref 5, .ref 6, .int (nI n), .int (nI a0), .int (nI cl), .int (nI fa), .int fp]))) (hn : n ≤ 160) (hk1 : 1 ≤ k) (hk8 : k ≤ 8) (hno : ¬ (k + n ≤ 160)) : mv_K ev mX11_feed [.ref 0, .int (nI k), .long bb] h (some (.int (-1004))) h := by
  refine mv_Kof ?_
  show mv_g ev mX11_feed 0 [.ref 0, .int (nI k), .long bb, .null] [] h _
  refine mv_iload_n dX11_feed_0 rfl ?_
  refine mv_iconst (v := nI 1) dX11_feed_1 (by decide) ?_
  refine mv_bipush (v := nI 8) dX11_feed_2 (by decide) ?_
  refine mv_cS3 dX11_feed_4 lk_X11_feed_96 (Nat.le_of_ble_eq_true rfl) (Nat.le_of_ble_eq_true rfl) (k_X11_within (ev := ev)) ?_
  refine mv_if_ne (tgt := 14) dX11_feed_7 (by decide) (fun c7 => ?_) (fun z => absurd z ((fun z => (mv_b_0 _).mp z (mv_in_i (by omega) (by omega) (by omega)))))
  refine mv_aload_n dX11_feed_14 rfl ?_
  refine mv_getf (ci := 11) (f := 1) dX11_feed_15 H0 rfl (by decide) wd_377 rfl ?_
  refine mv_iload_n dX11_feed_18 rfl ?_
  refine mv_cV1 (ci := 6) dX11_feed_19 lk_X11_feed_100 H3 rfl (Nat.le_of_ble_eq_true rfl) (Nat.le_of_ble_eq_true rfl) (k_X6_hasRoomFor (ev := ev) H3 hn (by omega)) ?_
  refine mv_if_ne (tgt := 29) dX11_feed_22 (by decide) (fun c22 => ?_) (fun c22 => ?_)
  · have c22 : k + n ≤ 160 := Classical.byContradiction (fun z => c22 ((mv_b_0 _).mpr z))
    exact absurd (by assumption) hno
  · have c22 : ¬ (k + n ≤ 160) := (mv_b_0 _).mp c22
    refine mv_sipush (v := (-1004)) dX11_feed_25 (by decide) ?_
    exact mv_iret dX11_feed_28 rfl rfl ⟨rfl, rfl⟩
set_option maxRecDepth 100000 in
theorem k_X11_feed_G {ev : mv_E} {h : mv_H} {n : Nat} {tx : Nat → Nat} {a0 : Nat} {cl : Nat} {fa : Nat} {fp : Int32} {k : Nat} {bb : Int64} (H0 : h[0]? = some (.inr (11, [.ref 1, .ref 3, .ref 7, .ref 11, .ref 21, .ref 22, .ref 32, .ref 34, .ref 42, .ref 45, .ref 48]))) (H3 : h[3]? = some (.inr (6, [.ref 4, .ref 5, .ref 6, .int (nI n), .int (nI a0), .int (nI cl), .int (nI fa), .int fp]))) (H4 : h[4]? = some (.inl (0, 160, .inl (fun j => nI (tx j))))) (hn : n ≤ 160) (hk1 : 1 ≤ k) (hk8 : k ≤ 8) (hkn : k + n ≤ 160) : ∃ h2, mv_K ev mX11_feed [.ref 0, .int (nI k), .long bb] h (some (.int (nI (n + k)))) h2 ∧ mv_fra [3, 4] h h2 ∧ h2[3]? = some (.inr (6, [.ref 4, .ref 5, .ref 6, .int (nI (n + k)), .int (nI a0), .int (nI cl), .int (nI fa), .int fp])) ∧ h2[4]? = some (.inl (0, 160, .inl (fun j => nI (q_ap bb k n tx j)))) := by
  suffices g0 : mv_g ev mX11_feed 0 (mv_ent [.ref 0, .int (nI k), .long bb] (mv_ml mX11_feed)) [] h (fun r g => r = some (.int (nI (n + k))) ∧ mv_fra [3, 4] h g ∧ g[3]? = some (.inr (6, [.ref 4, .ref 5, .ref 6, .int (nI (n + k)), .int (nI a0), .int (nI cl), .int (nI fa), .int fp])) ∧ g[4]? = some (.inl (0, 160, .inl (fun j => nI (q_ap bb k n tx j))))) from (by obtain ⟨r0, h0, K0, q0, Q0⟩ := mv_Kex g0; subst q0; exact ⟨h0, K0, Q0⟩)
  show mv_g ev mX11_feed 0 [.ref 0, .int (nI k), .long bb, .null] [] h _
  have fr : mv_fra [3, 4] h h := mv_fra.rf
  refine mv_iload_n dX11_feed_0 rfl ?_
  refine mv_iconst (v := nI 1) dX11_feed_1 (by decide) ?_
  refine mv_bipush (v := nI 8) dX11_feed_2 (by decide) ?_
  refine mv_cS3 dX11_feed_4 lk_X11_feed_96 (Nat.le_of_ble_eq_true rfl) (Nat.le_of_ble_eq_true rfl) (k_X11_within (ev := ev)) ?_
  refine mv_if_ne (tgt := 14) dX11_feed_7 (by decide) (fun c7 => ?_) (fun z => absurd z ((fun z => (mv_b_0 _).mp z (mv_in_i (by omega) (by omega) (by omega)))))
  refine mv_aload_n dX11_feed_14 rfl ?_
  refine mv_getf (ci := 11) (f := 1) dX11_feed_15 H0 rfl (by decide) wd_377 rfl ?_
  refine mv_iload_n dX11_feed_18 rfl ?_
  refine mv_cV1 (ci := 6) dX11_feed_19 lk_X11_feed_100 H3 rfl (Nat.le_of_ble_eq_true rfl) (Nat.le_of_ble_eq_true rfl) (k_X6_hasRoomFor (ev := ev) H3 hn (by omega)) ?_
  refine mv_if_ne (tgt := 29) dX11_feed_22 (by decide) (fun c22 => ?_) (fun z => absurd z ((fun z => (mv_b_0 _).mp z hkn)))
  refine mv_aload_n dX11_feed_29 rfl ?_
  refine mv_getf (ci := 11) (f := 1) dX11_feed_30 H0 rfl (by decide) wd_377 rfl ?_
  refine mv_iload_n dX11_feed_33 rfl ?_
  refine mv_lload_n dX11_feed_34 rfl ?_
  obtain ⟨h1, K2, f3, y4, y5⟩ := (k_X6_append (ev := ev) (n := n) (tx := tx) (a0 := a0) (cl := cl) (fa := fa) (fp := fp) (k := k) (bb := bb) H3 H4 hkn hk8)
  refine mv_cV2 (ci := 6) dX11_feed_35 lk_X11_feed_104 H3 rfl (Nat.le_of_ble_eq_true rfl) (Nat.le_of_ble_eq_true rfl) K2 ?_
  have H0 := f3.get (by decide) H0
  have H3 : h1[3]? = some (.inr (6, [.ref 4, .ref 5, .ref 6, .int (nI (n + k)), .int (nI a0), .int (nI cl), .int (nI fa), .int fp])) := y4
  have H4 : h1[4]? = some (.inl (0, 160, .inl (fun j => nI (q_ap bb k n tx j)))) := y5
  have fr := fr.trans f3 (by decide)
  exact mv_iret dX11_feed_38 rfl rfl ⟨rfl, fr, H3, H4⟩
set_option maxRecDepth 100000 in
theorem k_X11_law_G {ev : mv_E} {h : mv_H} {n : Nat} {tx : Nat → Nat} {dr : Nat → Int32} {ti : Nat → Nat} {a0 : Nat} {cl : Nat} {fa : Nat} {fp : Int32} {lw : Nat → Int32} (H0 : h[0]? = some (.inr (11, [.ref 1, .ref 3, .ref 7, .ref 11, .ref 21, .ref 22, .ref 32, .ref 34, .ref 42, .ref 45, .ref 48]))) (H3 : h[3]? = some (.inr (6, [.ref 4, .ref 5, .ref 6, .int (nI n), .int (nI a0), .int (nI cl), .int (nI fa), .int fp]))) (H4 : h[4]? = some (.inl (0, 160, .inl (fun j => nI (tx j))))) (H5 : h[5]? = some (.inl (0, 8, .inl dr))) (H6 : h[6]? = some (.inl (2, 7, .inl (fun j => nI (ti j))))) (HL : h[1]? = some (.inr (5, [.ref 2]))) (HV : h[2]? = some (.inl (0, 8, .inl lw))) (hn : n ≤ 160) (htx : ∀ i, tx i < 256) (hti : ∀ i, ti i ≤ 1) (hE : q_E ev) : ∃ h2, mv_K ev mX11_law [.ref 0] h (some (.int (q_pa (q_pv n tx dr ti)))) h2 ∧ mv_fra [3, 5, 6, 2] h h2 ∧ h2[3]? = some (.inr (6, [.ref 4, .ref 5, .ref 6, .int (nI 0), .int (nI (q_pv n tx dr ti).1.1), .int (nI (q_pv n tx dr ti).2.1), .int (nI (q_pv n tx dr ti).1.2.1), .int (q_pv n tx dr ti).1.2.2.1])) ∧ h2[5]? = some (.inl (0, 8, .inl (q_pv n tx dr ti).1.2.2.2)) ∧ h2[6]? = some (.inl (2, 7, .inl (fun j => nI ((q_pv n tx dr ti).2.2 j)))) ∧ h2[2]? = some (.inl (0, 8, .inl (q_pl (q_pv n tx dr ti) lw))) := by
  suffices g0 : mv_g ev mX11_law 0 (mv_ent [.ref 0] (mv_ml mX11_law)) [] h (fun r g => r = some (.int (q_pa (q_pv n tx dr ti))) ∧ mv_fra [3, 5, 6, 2] h g ∧ g[3]? = some (.inr (6, [.ref 4, .ref 5, .ref 6, .int (nI 0), .int (nI (q_pv n tx dr ti).1.1), .int (nI (q_pv n tx dr ti).2.1), .int (nI (q_pv n tx dr ti).1.2.1), .int (q_pv n tx dr ti).1.2.2.1])) ∧ g[5]? = some (.inl (0, 8, .inl (q_pv n tx dr ti).1.2.2.2)) ∧ g[6]? = some (.inl (2, 7, .inl (fun j => nI ((q_pv n tx dr ti).2.2 j)))) ∧ g[2]? = some (.inl (0, 8, .inl (q_pl (q_pv n tx dr ti) lw)))) from (by obtain ⟨r0, h0, K0, q0, Q0⟩ := mv_Kex g0; subst q0; exact ⟨h0, K0, Q0⟩)
  show mv_g ev mX11_law 0 [.ref 0] [] h _
  have fr : mv_fra [3, 5, 6, 2] h h := mv_fra.rf
  refine mv_aload_n dX11_law_0 rfl ?_
  refine mv_getf (ci := 11) (f := 1) dX11_law_1 H0 rfl (by decide) wd_377 rfl ?_
  refine mv_aload_n dX11_law_4 rfl ?_
  refine mv_getf (ci := 11) (f := 0) dX11_law_5 H0 rfl (by decide) wd_376 rfl ?_
  obtain ⟨h1, K2, f3, y4, y5, y6, y7⟩ := (k_X6_becomeLaw (ev := ev) (n := n) (tx := tx) (dr := dr) (ti := ti) (a0 := a0) (cl := cl) (fa := fa) (fp := fp) (lw := lw) H3 H4 H5 H6 HL HV hn htx hti hE)
  refine mv_cV1 (ci := 6) dX11_law_8 lk_X11_law_108 H3 rfl (Nat.le_of_ble_eq_true rfl) (Nat.le_of_ble_eq_true rfl) K2 ?_
  have H0 := f3.get (by decide) H0
  have H3 : h1[3]? = some (.inr (6, [.ref 4, .ref 5, .ref 6, .int (nI 0), .int (nI (q_pv n tx dr ti).1.1), .int (nI (q_pv n tx dr ti).2.1), .int (nI (q_pv n tx dr ti).1.2.1), .int (q_pv n tx dr ti).1.2.2.1])) := y4
  have H4 := f3.get (by decide) H4
  have H5 : h1[5]? = some (.inl (0, 8, .inl (q_pv n tx dr ti).1.2.2.2)) := y5
  have H6 : h1[6]? = some (.inl (2, 7, .inl (fun j => nI ((q_pv n tx dr ti).2.2 j)))) := y6
  have HL := f3.get (by decide) HL
  have HV : h1[2]? = some (.inl (0, 8, .inl (q_pl (q_pv n tx dr ti) lw))) := y7
  have fr := fr.trans f3 (by decide)
  exact mv_iret dX11_law_11 rfl rfl ⟨rfl, fr, H3, H5, H6, HV⟩
set_option maxRecDepth 100000 in
theorem k_X11_fault_G {ev : mv_E} {h : mv_H} {n : Nat} {a0 : Nat} {cl : Nat} {fa : Nat} {fp : Int32} (H0 : h[0]? = some (.inr (11, [.ref 1, .ref 3, .ref 7, .ref 11, .ref 21, .ref 22, .ref 32, .ref 34, .ref 42, .ref 45, .ref 48]))) (H3 : h[3]? = some (.inr (6, [.ref 4, .ref 5, .ref 6, .int (nI n), .int (nI a0), .int (nI cl), .int (nI fa), .int fp])))  : mv_K ev mX11_fault [.ref 0] h (some (.int fp)) h := by
  refine mv_Kof ?_
  show mv_g ev mX11_fault 0 [.ref 0] [] h _
  refine mv_aload_n dX11_fault_0 rfl ?_
  refine mv_getf (ci := 11) (f := 1) dX11_fault_1 H0 rfl (by decide) wd_377 rfl ?_
  refine mv_cV0 (ci := 6) dX11_fault_4 lk_X11_fault_112 H3 rfl (Nat.le_of_ble_eq_true rfl) (Nat.le_of_ble_eq_true rfl) (k_X6_placeOfFault (ev := ev) H3) ?_
  exact mv_iret dX11_fault_7 rfl rfl ⟨rfl, rfl⟩
set_option maxRecDepth 100000 in
theorem k_X11_told_R1 {ev : mv_E} {h : mv_H} {m : Int32}  (hno : ¬ ((nI 0 ≤ m ∧ m ≤ nI 7))) : mv_K ev mX11_told [.ref 0, .int m] h (some (.int (-1002))) h := by
  refine mv_Kof ?_
  show mv_g ev mX11_told 0 [.ref 0, .int m] [] h _
  refine mv_iload_n dX11_told_0 rfl ?_
  refine mv_iconst (v := nI 0) dX11_told_1 (by decide) ?_
  refine mv_bipush (v := nI 7) dX11_told_2 (by decide) ?_
  refine mv_cS3 dX11_told_4 lk_X11_told_96 (Nat.le_of_ble_eq_true rfl) (Nat.le_of_ble_eq_true rfl) (k_X11_within (ev := ev)) ?_
  refine mv_if_eq (tgt := 21) dX11_told_7 (by decide) (fun c7 => ?_) (fun c7 => ?_)
  · have c7 : ¬ ((nI 0) ≤ m ∧ m ≤ (nI 7)) := (mv_b_0 _).mp c7
    refine mv_sipush (v := (-1002)) dX11_told_21 (by decide) ?_
    exact mv_iret dX11_told_24 rfl rfl ⟨rfl, rfl⟩
  · have c7 : (nI 0) ≤ m ∧ m ≤ (nI 7) := Classical.byContradiction (fun z => c7 ((mv_b_0 _).mpr z))
    exact absurd (by assumption) hno
set_option maxRecDepth 100000 in
theorem k_X11_told_G {ev : mv_E} {h : mv_H} {lw : Nat → Int32} {k : Nat} (H0 : h[0]? = some (.inr (11, [.ref 1, .ref 3, .ref 7, .ref 11, .ref 21, .ref 22, .ref 32, .ref 34, .ref 42, .ref 45, .ref 48]))) (HL : h[1]? = some (.inr (5, [.ref 2]))) (HV : h[2]? = some (.inl (0, 8, .inl lw))) (hk : k < 8) : mv_K ev mX11_told [.ref 0, .int (nI k)] h (some (.int (lw k))) h := by
  refine mv_Kof ?_
  show mv_g ev mX11_told 0 [.ref 0, .int (nI k)] [] h _
  refine mv_iload_n dX11_told_0 rfl ?_
  refine mv_iconst (v := nI 0) dX11_told_1 (by decide) ?_
  refine mv_bipush (v := nI 7) dX11_told_2 (by decide) ?_
  refine mv_cS3 dX11_told_4 lk_X11_told_96 (Nat.le_of_ble_eq_true rfl) (Nat.le_of_ble_eq_true rfl) (k_X11_within (ev := ev)) ?_
  refine mv_if_eq (tgt := 21) dX11_told_7 (by decide) (fun z => absurd z ((fun z => (mv_b_0 _).mp z (mv_in_i (by omega) (by omega) (by omega))))) (fun c7 => ?_)
  refine mv_aload_n dX11_told_10 rfl ?_
  refine mv_getf (ci := 11) (f := 0) dX11_told_11 H0 rfl (by decide) wd_376 rfl ?_
  refine mv_iload_n dX11_told_14 rfl ?_
  refine mv_cV1 (ci := 5) dX11_told_15 lk_X11_told_116 HL rfl (Nat.le_of_ble_eq_true rfl) (Nat.le_of_ble_eq_true rfl) (k_X5_value (ev := ev) HL HV (by omega)) ?_
  refine mv_goto (tgt := 24) dX11_told_18 (by decide) ?_
  exact mv_iret dX11_told_24 rfl rfl ⟨rfl, rfl⟩
set_option maxRecDepth 100000 in
theorem k_X11_cells_R1 {ev : mv_E} {h : mv_H} {p : Int32} {m : Int32}  (hno : ¬ ((nI 0 ≤ p ∧ p ≤ nI 63))) : mv_K ev mX11_cells [.ref 0, .int p, .int m] h (some (.int (-1001))) h := by
  refine mv_Kof ?_
  show mv_g ev mX11_cells 0 [.ref 0, .int p, .int m] [] h _
  refine mv_iload_n dX11_cells_0 rfl ?_
  refine mv_cS1 dX11_cells_1 lk_X11_cells_120 (Nat.le_of_ble_eq_true rfl) (Nat.le_of_ble_eq_true rfl) (k_X11_isPlace (ev := ev)) ?_
  refine mv_if_ne (tgt := 11) dX11_cells_4 (by decide) (fun c4 => ?_) (fun c4 => ?_)
  · have c4 : nI 0 ≤ p ∧ p ≤ nI 63 := Classical.byContradiction (fun z => c4 ((mv_b_0 _).mpr z))
    exact absurd (by assumption) hno
  · have c4 : ¬ (nI 0 ≤ p ∧ p ≤ nI 63) := (mv_b_0 _).mp c4
    refine mv_sipush (v := (-1001)) dX11_cells_7 (by decide) ?_
    exact mv_iret dX11_cells_10 rfl rfl ⟨rfl, rfl⟩
set_option maxRecDepth 100000 in
theorem k_X11_cells_R2 {ev : mv_E} {h : mv_H} {p : Nat} {m : Int32}  (hp : p < 64) (hno : ¬ ((nI 0 ≤ m ∧ m ≤ nI 7))) : mv_K ev mX11_cells [.ref 0, .int (nI p), .int m] h (some (.int (-1002))) h := by
  refine mv_Kof ?_
  show mv_g ev mX11_cells 0 [.ref 0, .int (nI p), .int m] [] h _
  refine mv_iload_n dX11_cells_0 rfl ?_
  refine mv_cS1 dX11_cells_1 lk_X11_cells_120 (Nat.le_of_ble_eq_true rfl) (Nat.le_of_ble_eq_true rfl) (k_X11_isPlace (ev := ev)) ?_
  refine mv_if_ne (tgt := 11) dX11_cells_4 (by decide) (fun c4 => ?_) (fun z => absurd z ((fun z => (mv_b_0 _).mp z (mv_in_i (by omega) (by omega) (by omega)))))
  refine mv_iload_n dX11_cells_11 rfl ?_
  refine mv_cS1 dX11_cells_12 lk_X11_cells_123 (Nat.le_of_ble_eq_true rfl) (Nat.le_of_ble_eq_true rfl) (k_X11_isDistance (ev := ev)) ?_
  refine mv_if_eq (tgt := 26) dX11_cells_15 (by decide) (fun c15 => ?_) (fun c15 => ?_)
  · have c15 : ¬ (nI 0 ≤ m ∧ m ≤ nI 7) := (mv_b_0 _).mp c15
    refine mv_sipush (v := (-1002)) dX11_cells_26 (by decide) ?_
    exact mv_iret dX11_cells_29 rfl rfl ⟨rfl, rfl⟩
  · have c15 : nI 0 ≤ m ∧ m ≤ nI 7 := Classical.byContradiction (fun z => c15 ((mv_b_0 _).mpr z))
    exact absurd (by assumption) hno
set_option maxRecDepth 100000 in
theorem k_X11_cells_G {ev : mv_E} {h : mv_H} {p : Nat} {m : Nat}  (hp : p < 64) (hm0 : m < 8) : mv_K ev mX11_cells [.ref 0, .int (nI p), .int (nI m)] h (some (.int (nI (t_near p m)))) h := by
  refine mv_Kof ?_
  show mv_g ev mX11_cells 0 [.ref 0, .int (nI p), .int (nI m)] [] h _
  refine mv_iload_n dX11_cells_0 rfl ?_
  refine mv_cS1 dX11_cells_1 lk_X11_cells_120 (Nat.le_of_ble_eq_true rfl) (Nat.le_of_ble_eq_true rfl) (k_X11_isPlace (ev := ev)) ?_
  refine mv_if_ne (tgt := 11) dX11_cells_4 (by decide) (fun c4 => ?_) (fun z => absurd z ((fun z => (mv_b_0 _).mp z (mv_in_i (by omega) (by omega) (by omega)))))
  refine mv_iload_n dX11_cells_11 rfl ?_
  refine mv_cS1 dX11_cells_12 lk_X11_cells_123 (Nat.le_of_ble_eq_true rfl) (Nat.le_of_ble_eq_true rfl) (k_X11_isDistance (ev := ev)) ?_
  refine mv_if_eq (tgt := 26) dX11_cells_15 (by decide) (fun z => absurd z ((fun z => (mv_b_0 _).mp z (mv_in_i (by omega) (by omega) (by omega))))) (fun c15 => ?_)
  refine mv_iload_n dX11_cells_18 rfl ?_
  refine mv_iload_n dX11_cells_19 rfl ?_
  refine mv_cS2 dX11_cells_20 lk_X11_cells_126 (Nat.le_of_ble_eq_true rfl) (Nat.le_of_ble_eq_true rfl) (k_X11_howManyNear (ev := ev) (by omega) (by omega)) ?_
  refine mv_goto (tgt := 29) dX11_cells_23 (by decide) ?_
  exact mv_iret dX11_cells_29 rfl rfl ⟨rfl, rfl⟩
set_option maxRecDepth 100000 in
theorem k_X11_greater_R1 {ev : mv_E} {h : mv_H} {x : Int32}  (hno : ¬ ((nI 1 ≤ x ∧ x ≤ nI 9))) : mv_K ev mX11_greater [.ref 0, .int x] h (some (.int (-1002))) h := by
  refine mv_Kof ?_
  show mv_g ev mX11_greater 0 [.ref 0, .int x] [] h _
  refine mv_iload_n dX11_greater_0 rfl ?_
  refine mv_cS1 dX11_greater_1 lk_X11_greater_130 (Nat.le_of_ble_eq_true rfl) (Nat.le_of_ble_eq_true rfl) (k_X11_isSize (ev := ev)) ?_
  refine mv_if_eq (tgt := 18) dX11_greater_4 (by decide) (fun c4 => ?_) (fun c4 => ?_)
  · have c4 : ¬ (nI 1 ≤ x ∧ x ≤ nI 9) := (mv_b_0 _).mp c4
    refine mv_sipush (v := (-1002)) dX11_greater_18 (by decide) ?_
    exact mv_iret dX11_greater_21 rfl rfl ⟨rfl, rfl⟩
  · have c4 : nI 1 ≤ x ∧ x ≤ nI 9 := Classical.byContradiction (fun z => c4 ((mv_b_0 _).mpr z))
    exact absurd (by assumption) hno
set_option maxRecDepth 100000 in
theorem k_X11_greater_G {ev : mv_E} {h : mv_H} {lw : Nat → Int32} {G : Nat} {x : Nat} (H0 : h[0]? = some (.inr (11, [.ref 1, .ref 3, .ref 7, .ref 11, .ref 21, .ref 22, .ref 32, .ref 34, .ref 42, .ref 45, .ref 48]))) (HL : h[1]? = some (.inr (5, [.ref 2]))) (HV : h[2]? = some (.inl (0, 8, .inl lw))) (hG : lw 1 = nI G) (hGb : G ≤ 99) (hz1 : 1 ≤ x) (hz9 : x ≤ 9) : mv_K ev mX11_greater [.ref 0, .int (nI x)] h (some (.int (nI (t_gr G (x - 1))))) h := by
  refine mv_Kof ?_
  show mv_g ev mX11_greater 0 [.ref 0, .int (nI x)] [] h _
  refine mv_iload_n dX11_greater_0 rfl ?_
  refine mv_cS1 dX11_greater_1 lk_X11_greater_130 (Nat.le_of_ble_eq_true rfl) (Nat.le_of_ble_eq_true rfl) (k_X11_isSize (ev := ev)) ?_
  refine mv_if_eq (tgt := 18) dX11_greater_4 (by decide) (fun z => absurd z ((fun z => (mv_b_0 _).mp z (mv_in_i (by omega) (by omega) (by omega))))) (fun c4 => ?_)
  refine mv_aload_n dX11_greater_7 rfl ?_
  refine mv_getf (ci := 11) (f := 0) dX11_greater_8 H0 rfl (by decide) wd_376 rfl ?_
  refine mv_iload_n dX11_greater_11 rfl ?_
  refine mv_cV1 (ci := 5) dX11_greater_12 lk_X11_greater_133 HL rfl (Nat.le_of_ble_eq_true rfl) (Nat.le_of_ble_eq_true rfl) (k_X5_shareFrom (ev := ev) HL HV hG hGb hz1 hz9) ?_
  refine mv_goto (tgt := 21) dX11_greater_15 (by decide) ?_
  exact mv_iret dX11_greater_21 rfl rfl ⟨rfl, rfl⟩
set_option maxRecDepth 100000 in
theorem k_X11_shake_R1 {ev : mv_E} {h : mv_H} {d : Int32} {p : Int32} {x : Int32}  (hno : ¬ ((nI 0 ≤ p ∧ p ≤ nI 63))) : mv_K ev mX11_shake [.ref 0, .int d, .int p, .int x] h (some (.int (-1001))) h := by
  refine mv_Kof ?_
  show mv_g ev mX11_shake 0 [.ref 0, .int d, .int p, .int x] [] h _
  refine mv_iload_n dX11_shake_0 rfl ?_
  refine mv_cS1 dX11_shake_1 lk_X11_shake_120 (Nat.le_of_ble_eq_true rfl) (Nat.le_of_ble_eq_true rfl) (k_X11_isPlace (ev := ev)) ?_
  refine mv_if_ne (tgt := 11) dX11_shake_4 (by decide) (fun c4 => ?_) (fun c4 => ?_)
  · have c4 : nI 0 ≤ p ∧ p ≤ nI 63 := Classical.byContradiction (fun z => c4 ((mv_b_0 _).mpr z))
    exact absurd (by assumption) hno
  · have c4 : ¬ (nI 0 ≤ p ∧ p ≤ nI 63) := (mv_b_0 _).mp c4
    refine mv_sipush (v := (-1001)) dX11_shake_7 (by decide) ?_
    exact mv_iret dX11_shake_10 rfl rfl ⟨rfl, rfl⟩
set_option maxRecDepth 100000 in
theorem k_X11_shake_R2 {ev : mv_E} {h : mv_H} {d : Int32} {x : Int32} {p : Nat}  (hp : p < 64) (hno : ¬ ((nI 0 ≤ d ∧ d ≤ nI 399) ∧ (nI 1 ≤ x ∧ x ≤ nI 9))) : mv_K ev mX11_shake [.ref 0, .int d, .int (nI p), .int x] h (some (.int (-1002))) h := by
  refine mv_Kof ?_
  show mv_g ev mX11_shake 0 [.ref 0, .int d, .int (nI p), .int x] [] h _
  refine mv_iload_n dX11_shake_0 rfl ?_
  refine mv_cS1 dX11_shake_1 lk_X11_shake_120 (Nat.le_of_ble_eq_true rfl) (Nat.le_of_ble_eq_true rfl) (k_X11_isPlace (ev := ev)) ?_
  refine mv_if_ne (tgt := 11) dX11_shake_4 (by decide) (fun c4 => ?_) (fun z => absurd z ((fun z => (mv_b_0 _).mp z (mv_in_i (by omega) (by omega) (by omega)))))
  refine mv_iload_n dX11_shake_11 rfl ?_
  refine mv_cS1 dX11_shake_12 lk_X11_shake_136 (Nat.le_of_ble_eq_true rfl) (Nat.le_of_ble_eq_true rfl) (k_X11_isDay (ev := ev)) ?_
  refine mv_if_eq (tgt := 25) dX11_shake_15 (by decide) (fun c15 => ?_) (fun c15 => ?_)
  · have c15 : ¬ (nI 0 ≤ d ∧ d ≤ nI 399) := (mv_b_0 _).mp c15
    refine mv_sipush (v := (-1002)) dX11_shake_25 (by decide) ?_
    exact mv_iret dX11_shake_28 rfl rfl ⟨rfl, rfl⟩
  · have c15 : nI 0 ≤ d ∧ d ≤ nI 399 := Classical.byContradiction (fun z => c15 ((mv_b_0 _).mpr z))
    refine mv_iload_n dX11_shake_18 rfl ?_
    refine mv_cS1 dX11_shake_19 lk_X11_shake_130 (Nat.le_of_ble_eq_true rfl) (Nat.le_of_ble_eq_true rfl) (k_X11_isSize (ev := ev)) ?_
    refine mv_if_ne (tgt := 29) dX11_shake_22 (by decide) (fun c22 => ?_) (fun c22 => ?_)
    · have c22 : nI 1 ≤ x ∧ x ≤ nI 9 := Classical.byContradiction (fun z => c22 ((mv_b_0 _).mpr z))
      exact absurd (by refine ⟨?_, ?_⟩ <;> assumption) hno
    · have c22 : ¬ (nI 1 ≤ x ∧ x ≤ nI 9) := (mv_b_0 _).mp c22
      refine mv_sipush (v := (-1002)) dX11_shake_25 (by decide) ?_
      exact mv_iret dX11_shake_28 rfl rfl ⟨rfl, rfl⟩
set_option maxRecDepth 100000 in
theorem k_X11_shake_R3 {ev : mv_E} {h : mv_H} {b : t_B} {t : Nat} {d : Nat} {p : Nat} {x : Nat} (H0 : h[0]? = some (.inr (11, [.ref 1, .ref 3, .ref 7, .ref 11, .ref 21, .ref 22, .ref 32, .ref 34, .ref 42, .ref 45, .ref 48]))) (HB : h[7]? = some (.inr (0, [.ref 8, .ref 9, .ref 10, .int (nI b.1), .int (nI t), .int (nI b.2.1)]))) (hp : p < 64) (hd : d ≤ 399) (hz1 : 1 ≤ x) (hz9 : x ≤ 9) (ht : t ≤ 399) (hno : ¬ (t ≤ d)) : mv_K ev mX11_shake [.ref 0, .int (nI d), .int (nI p), .int (nI x)] h (some (.int (-1003))) h := by
  refine mv_Kof ?_
  show mv_g ev mX11_shake 0 [.ref 0, .int (nI d), .int (nI p), .int (nI x)] [] h _
  refine mv_iload_n dX11_shake_0 rfl ?_
  refine mv_cS1 dX11_shake_1 lk_X11_shake_120 (Nat.le_of_ble_eq_true rfl) (Nat.le_of_ble_eq_true rfl) (k_X11_isPlace (ev := ev)) ?_
  refine mv_if_ne (tgt := 11) dX11_shake_4 (by decide) (fun c4 => ?_) (fun z => absurd z ((fun z => (mv_b_0 _).mp z (mv_in_i (by omega) (by omega) (by omega)))))
  refine mv_iload_n dX11_shake_11 rfl ?_
  refine mv_cS1 dX11_shake_12 lk_X11_shake_136 (Nat.le_of_ble_eq_true rfl) (Nat.le_of_ble_eq_true rfl) (k_X11_isDay (ev := ev)) ?_
  refine mv_if_eq (tgt := 25) dX11_shake_15 (by decide) (fun z => absurd z ((fun z => (mv_b_0 _).mp z (mv_in_i (by omega) (by omega) (by omega))))) (fun c15 => ?_)
  refine mv_iload_n dX11_shake_18 rfl ?_
  refine mv_cS1 dX11_shake_19 lk_X11_shake_130 (Nat.le_of_ble_eq_true rfl) (Nat.le_of_ble_eq_true rfl) (k_X11_isSize (ev := ev)) ?_
  refine mv_if_ne (tgt := 29) dX11_shake_22 (by decide) (fun c22 => ?_) (fun z => absurd z ((fun z => (mv_b_0 _).mp z (mv_in_i (by omega) (by omega) (by omega)))))
  refine mv_aload_n dX11_shake_29 rfl ?_
  refine mv_getf (ci := 11) (f := 2) dX11_shake_30 H0 rfl (by decide) wd_378 rfl ?_
  refine mv_cV0 (ci := 0) dX11_shake_33 lk_X11_shake_139 HB rfl (Nat.le_of_ble_eq_true rfl) (Nat.le_of_ble_eq_true rfl) (k_X0_today (ev := ev) HB) ?_
  refine mv_iload_n dX11_shake_36 rfl ?_
  refine mv_icmp_le (tgt := 44) dX11_shake_37 (by decide) (fun c37 => ?_) (fun c37 => ?_)
  · have c37 : t ≤ d := (nI_leI (by omega) (by omega)).mp c37
    exact absurd (by assumption) hno
  · have c37 : ¬ (t ≤ d) := fun z => c37 ((nI_leI (by omega) (by omega)).mpr z)
    refine mv_sipush (v := (-1003)) dX11_shake_40 (by decide) ?_
    exact mv_iret dX11_shake_43 rfl rfl ⟨rfl, rfl⟩
set_option maxRecDepth 100000 in
theorem k_X11_shake_R4 {ev : mv_E} {h : mv_H} {b : t_B} {t : Nat} {d : Nat} {p : Nat} {x : Nat} (H0 : h[0]? = some (.inr (11, [.ref 1, .ref 3, .ref 7, .ref 11, .ref 21, .ref 22, .ref 32, .ref 34, .ref 42, .ref 45, .ref 48]))) (HB : h[7]? = some (.inr (0, [.ref 8, .ref 9, .ref 10, .int (nI b.1), .int (nI t), .int (nI b.2.1)]))) (hp : p < 64) (hd : d ≤ 399) (hz1 : 1 ≤ x) (hz9 : x ≤ 9) (htd : t ≤ d) (hn : b.1 ≤ 60) (hno : ¬ (b.1 < 60)) : mv_K ev mX11_shake [.ref 0, .int (nI d), .int (nI p), .int (nI x)] h (some (.int (-1004))) h := by
  refine mv_Kof ?_
  show mv_g ev mX11_shake 0 [.ref 0, .int (nI d), .int (nI p), .int (nI x)] [] h _
  refine mv_iload_n dX11_shake_0 rfl ?_
  refine mv_cS1 dX11_shake_1 lk_X11_shake_120 (Nat.le_of_ble_eq_true rfl) (Nat.le_of_ble_eq_true rfl) (k_X11_isPlace (ev := ev)) ?_
  refine mv_if_ne (tgt := 11) dX11_shake_4 (by decide) (fun c4 => ?_) (fun z => absurd z ((fun z => (mv_b_0 _).mp z (mv_in_i (by omega) (by omega) (by omega)))))
  refine mv_iload_n dX11_shake_11 rfl ?_
  refine mv_cS1 dX11_shake_12 lk_X11_shake_136 (Nat.le_of_ble_eq_true rfl) (Nat.le_of_ble_eq_true rfl) (k_X11_isDay (ev := ev)) ?_
  refine mv_if_eq (tgt := 25) dX11_shake_15 (by decide) (fun z => absurd z ((fun z => (mv_b_0 _).mp z (mv_in_i (by omega) (by omega) (by omega))))) (fun c15 => ?_)
  refine mv_iload_n dX11_shake_18 rfl ?_
  refine mv_cS1 dX11_shake_19 lk_X11_shake_130 (Nat.le_of_ble_eq_true rfl) (Nat.le_of_ble_eq_true rfl) (k_X11_isSize (ev := ev)) ?_
  refine mv_if_ne (tgt := 29) dX11_shake_22 (by decide) (fun c22 => ?_) (fun z => absurd z ((fun z => (mv_b_0 _).mp z (mv_in_i (by omega) (by omega) (by omega)))))
  refine mv_aload_n dX11_shake_29 rfl ?_
  refine mv_getf (ci := 11) (f := 2) dX11_shake_30 H0 rfl (by decide) wd_378 rfl ?_
  refine mv_cV0 (ci := 0) dX11_shake_33 lk_X11_shake_139 HB rfl (Nat.le_of_ble_eq_true rfl) (Nat.le_of_ble_eq_true rfl) (k_X0_today (ev := ev) HB) ?_
  refine mv_iload_n dX11_shake_36 rfl ?_
  refine mv_icmp_le (tgt := 44) dX11_shake_37 (by decide) (fun c37 => ?_) (fun z => absurd (((nI_leI (by omega) (by omega)).mpr htd)) z)
  refine mv_aload_n dX11_shake_44 rfl ?_
  refine mv_getf (ci := 11) (f := 2) dX11_shake_45 H0 rfl (by decide) wd_378 rfl ?_
  refine mv_cV0 (ci := 0) dX11_shake_48 lk_X11_shake_142 HB rfl (Nat.le_of_ble_eq_true rfl) (Nat.le_of_ble_eq_true rfl) (k_X0_isFull (ev := ev) HB (by omega)) ?_
  refine mv_if_eq (tgt := 58) dX11_shake_51 (by decide) (fun c51 => ?_) (fun c51 => ?_)
  · have c51 : ¬ (60 ≤ b.1) := (mv_b_0 _).mp c51
    exact absurd (by omega) hno
  · have c51 : 60 ≤ b.1 := Classical.byContradiction (fun z => c51 ((mv_b_0 _).mpr z))
    refine mv_sipush (v := (-1004)) dX11_shake_54 (by decide) ?_
    exact mv_iret dX11_shake_57 rfl rfl ⟨rfl, rfl⟩
set_option maxRecDepth 100000 in
theorem k_X11_shake_G {ev : mv_E} {h : mv_H} {b : t_B} {t : Nat} {d : Nat} {p : Nat} {x : Nat} (H0 : h[0]? = some (.inr (11, [.ref 1, .ref 3, .ref 7, .ref 11, .ref 21, .ref 22, .ref 32, .ref 34, .ref 42, .ref 45, .ref 48]))) (HB : h[7]? = some (.inr (0, [.ref 8, .ref 9, .ref 10, .int (nI b.1), .int (nI t), .int (nI b.2.1)]))) (H8 : h[8]? = some (.inl (0, 60, .inl (fun j => nI (b.2.2.1 j))))) (H9 : h[9]? = some (.inl (0, 60, .inl (fun j => nI (b.2.2.2.1 j))))) (H10 : h[10]? = some (.inl (0, 60, .inl (fun j => nI (b.2.2.2.2 j))))) (hp : p < 64) (hd : d ≤ 399) (hz1 : 1 ≤ x) (hz9 : x ≤ 9) (htd : t ≤ d) (hn : b.1 < 60) : ∃ h2, mv_K ev mX11_shake [.ref 0, .int (nI d), .int (nI p), .int (nI x)] h (some (.int (nI b.1))) h2 ∧ mv_fra [7, 8, 9, 10] h h2 ∧ h2[7]? = some (.inr (0, [.ref 8, .ref 9, .ref 10, .int (nI (q_wr b d p x).1), .int (nI d), .int (nI (q_wr b d p x).2.1)])) ∧ h2[8]? = some (.inl (0, 60, .inl (fun j => nI ((q_wr b d p x).2.2.1 j)))) ∧ h2[9]? = some (.inl (0, 60, .inl (fun j => nI ((q_wr b d p x).2.2.2.1 j)))) ∧ h2[10]? = some (.inl (0, 60, .inl (fun j => nI ((q_wr b d p x).2.2.2.2 j)))) := by
  suffices g0 : mv_g ev mX11_shake 0 (mv_ent [.ref 0, .int (nI d), .int (nI p), .int (nI x)] (mv_ml mX11_shake)) [] h (fun r g => r = some (.int (nI b.1)) ∧ mv_fra [7, 8, 9, 10] h g ∧ g[7]? = some (.inr (0, [.ref 8, .ref 9, .ref 10, .int (nI (q_wr b d p x).1), .int (nI d), .int (nI (q_wr b d p x).2.1)])) ∧ g[8]? = some (.inl (0, 60, .inl (fun j => nI ((q_wr b d p x).2.2.1 j)))) ∧ g[9]? = some (.inl (0, 60, .inl (fun j => nI ((q_wr b d p x).2.2.2.1 j)))) ∧ g[10]? = some (.inl (0, 60, .inl (fun j => nI ((q_wr b d p x).2.2.2.2 j))))) from (by obtain ⟨r0, h0, K0, q0, Q0⟩ := mv_Kex g0; subst q0; exact ⟨h0, K0, Q0⟩)
  show mv_g ev mX11_shake 0 [.ref 0, .int (nI d), .int (nI p), .int (nI x)] [] h _
  have fr : mv_fra [7, 8, 9, 10] h h := mv_fra.rf
  refine mv_iload_n dX11_shake_0 rfl ?_
  refine mv_cS1 dX11_shake_1 lk_X11_shake_120 (Nat.le_of_ble_eq_true rfl) (Nat.le_of_ble_eq_true rfl) (k_X11_isPlace (ev := ev)) ?_
  refine mv_if_ne (tgt := 11) dX11_shake_4 (by decide) (fun c4 => ?_) (fun z => absurd z ((fun z => (mv_b_0 _).mp z (mv_in_i (by omega) (by omega) (by omega)))))
  refine mv_iload_n dX11_shake_11 rfl ?_
  refine mv_cS1 dX11_shake_12 lk_X11_shake_136 (Nat.le_of_ble_eq_true rfl) (Nat.le_of_ble_eq_true rfl) (k_X11_isDay (ev := ev)) ?_
  refine mv_if_eq (tgt := 25) dX11_shake_15 (by decide) (fun z => absurd z ((fun z => (mv_b_0 _).mp z (mv_in_i (by omega) (by omega) (by omega))))) (fun c15 => ?_)
  refine mv_iload_n dX11_shake_18 rfl ?_
  refine mv_cS1 dX11_shake_19 lk_X11_shake_130 (Nat.le_of_ble_eq_true rfl) (Nat.le_of_ble_eq_true rfl) (k_X11_isSize (ev := ev)) ?_
  refine mv_if_ne (tgt := 29) dX11_shake_22 (by decide) (fun c22 => ?_) (fun z => absurd z ((fun z => (mv_b_0 _).mp z (mv_in_i (by omega) (by omega) (by omega)))))
  refine mv_aload_n dX11_shake_29 rfl ?_
  refine mv_getf (ci := 11) (f := 2) dX11_shake_30 H0 rfl (by decide) wd_378 rfl ?_
  refine mv_cV0 (ci := 0) dX11_shake_33 lk_X11_shake_139 HB rfl (Nat.le_of_ble_eq_true rfl) (Nat.le_of_ble_eq_true rfl) (k_X0_today (ev := ev) HB) ?_
  refine mv_iload_n dX11_shake_36 rfl ?_
  refine mv_icmp_le (tgt := 44) dX11_shake_37 (by decide) (fun c37 => ?_) (fun z => absurd (((nI_leI (by omega) (by omega)).mpr htd)) z)
  refine mv_aload_n dX11_shake_44 rfl ?_
  refine mv_getf (ci := 11) (f := 2) dX11_shake_45 H0 rfl (by decide) wd_378 rfl ?_
  refine mv_cV0 (ci := 0) dX11_shake_48 lk_X11_shake_142 HB rfl (Nat.le_of_ble_eq_true rfl) (Nat.le_of_ble_eq_true rfl) (k_X0_isFull (ev := ev) HB (by omega)) ?_
  refine mv_if_eq (tgt := 58) dX11_shake_51 (by decide) (fun c51 => ?_) (fun z => absurd (((mv_b_0 _).mpr (by omega))) z)
  refine mv_aload_n dX11_shake_58 rfl ?_
  refine mv_getf (ci := 11) (f := 2) dX11_shake_59 H0 rfl (by decide) wd_378 rfl ?_
  refine mv_iload_n dX11_shake_62 rfl ?_
  refine mv_iload_n dX11_shake_63 rfl ?_
  refine mv_iload_n dX11_shake_64 rfl ?_
  obtain ⟨h1, K2, f3, y4, y5, y6, y7⟩ := (k_X0_write (ev := ev) (b := b) (t := t) (d := d) (p := p) (z := x) HB H8 H9 H10 hn)
  refine mv_cV3 (ci := 0) dX11_shake_65 lk_X11_shake_146 HB rfl (Nat.le_of_ble_eq_true rfl) (Nat.le_of_ble_eq_true rfl) K2 ?_
  have H0 := f3.get (by decide) H0
  have HB : h1[7]? = some (.inr (0, [.ref 8, .ref 9, .ref 10, .int (nI (q_wr b d p x).1), .int (nI d), .int (nI (q_wr b d p x).2.1)])) := y4
  have H8 : h1[8]? = some (.inl (0, 60, .inl (fun j => nI ((q_wr b d p x).2.2.1 j)))) := y5
  have H9 : h1[9]? = some (.inl (0, 60, .inl (fun j => nI ((q_wr b d p x).2.2.2.1 j)))) := y6
  have H10 : h1[10]? = some (.inl (0, 60, .inl (fun j => nI ((q_wr b d p x).2.2.2.2 j)))) := y7
  have fr := fr.trans f3 (by decide)
  exact mv_iret dX11_shake_68 rfl rfl ⟨rfl, fr, HB, H8, H9, H10⟩
set_option maxRecDepth 100000 in
theorem k_X11_seed_R1 {ev : mv_E} {h : mv_H} {v : Int32}  (hno : ¬ (0 ≤ v)) : mv_K ev mX11_seed [.ref 0, .int v] h (some (.int (-1002))) h := by
  refine mv_Kof ?_
  show mv_g ev mX11_seed 0 [.ref 0, .int v] [] h _
  refine mv_iload_n dX11_seed_0 rfl ?_
  refine mv_if_ge (tgt := 10) dX11_seed_1 (by decide) (fun c1 => ?_) (fun c1 => ?_)
  · skip
    exact absurd (by assumption) hno
  · skip
    refine mv_sipush (v := (-1002)) dX11_seed_4 (by decide) ?_
    refine mv_goto (tgt := 18) dX11_seed_7 (by decide) ?_
    exact mv_iret dX11_seed_18 rfl rfl ⟨rfl, rfl⟩
set_option maxRecDepth 100000 in
theorem k_X11_seed_G {ev : mv_E} {h : mv_H} {b : t_B} {t : Nat} {v : Nat} (H0 : h[0]? = some (.inr (11, [.ref 1, .ref 3, .ref 7, .ref 11, .ref 21, .ref 22, .ref 32, .ref 34, .ref 42, .ref 45, .ref 48]))) (HB : h[7]? = some (.inr (0, [.ref 8, .ref 9, .ref 10, .int (nI b.1), .int (nI t), .int (nI b.2.1)]))) (hv : v < 2147483648) : ∃ h2, mv_K ev mX11_seed [.ref 0, .int (nI v)] h (some (.int (nI b.2.1))) h2 ∧ mv_fra [7] h h2 ∧ h2[7]? = some (.inr (0, [.ref 8, .ref 9, .ref 10, .int (nI (b.1, v, b.2.2).1), .int (nI t), .int (nI (b.1, v, b.2.2).2.1)])) := by
  suffices g0 : mv_g ev mX11_seed 0 (mv_ent [.ref 0, .int (nI v)] (mv_ml mX11_seed)) [] h (fun r g => r = some (.int (nI b.2.1)) ∧ mv_fra [7] h g ∧ g[7]? = some (.inr (0, [.ref 8, .ref 9, .ref 10, .int (nI (b.1, v, b.2.2).1), .int (nI t), .int (nI (b.1, v, b.2.2).2.1)]))) from (by obtain ⟨r0, h0, K0, q0, Q0⟩ := mv_Kex g0; subst q0; exact ⟨h0, K0, Q0⟩)
  show mv_g ev mX11_seed 0 [.ref 0, .int (nI v)] [] h _
  have fr : mv_fra [7] h h := mv_fra.rf
  refine mv_iload_n dX11_seed_0 rfl ?_
  refine mv_if_ge (tgt := 10) dX11_seed_1 (by decide) (fun c1 => ?_) (fun z => absurd ((Int32.not_lt.mp (nI_pos (by omega)))) z)
  refine mv_aload_n dX11_seed_10 rfl ?_
  refine mv_getf (ci := 11) (f := 2) dX11_seed_11 H0 rfl (by decide) wd_378 rfl ?_
  refine mv_iload_n dX11_seed_14 rfl ?_
  obtain ⟨h1, K2, f3, y4⟩ := (k_X0_changeSeed (ev := ev) (b := b) (t := t) (v := v) HB)
  refine mv_cV1 (ci := 0) dX11_seed_15 lk_X11_seed_150 HB rfl (Nat.le_of_ble_eq_true rfl) (Nat.le_of_ble_eq_true rfl) K2 ?_
  have H0 := f3.get (by decide) H0
  have HB : h1[7]? = some (.inr (0, [.ref 8, .ref 9, .ref 10, .int (nI b.1), .int (nI t), .int (nI v)])) := y4
  have fr := fr.trans f3 (by decide)
  exact mv_iret dX11_seed_18 rfl rfl ⟨rfl, fr, HB⟩
set_option maxRecDepth 100000 in
theorem k_X11_run_R1 {ev : mv_E} {h : mv_H} {m : Int32}  (hno : ¬ ((nI 1 ≤ m ∧ m ≤ nI 399))) : mv_K ev mX11_run [.ref 0, .int m] h (some (.int (-1002))) h := by
  refine mv_Kof ?_
  show mv_g ev mX11_run 0 [.ref 0, .int m] [] h _
  refine mv_iload_n dX11_run_0 rfl ?_
  refine mv_iconst (v := nI 1) dX11_run_1 (by decide) ?_
  refine mv_sipush (v := nI 399) dX11_run_2 (by decide) ?_
  refine mv_cS3 dX11_run_5 lk_X11_run_96 (Nat.le_of_ble_eq_true rfl) (Nat.le_of_ble_eq_true rfl) (k_X11_within (ev := ev)) ?_
  refine mv_if_ne (tgt := 15) dX11_run_8 (by decide) (fun c8 => ?_) (fun c8 => ?_)
  · have c8 : (nI 1) ≤ m ∧ m ≤ (nI 399) := Classical.byContradiction (fun z => c8 ((mv_b_0 _).mpr z))
    exact absurd (by assumption) hno
  · have c8 : ¬ ((nI 1) ≤ m ∧ m ≤ (nI 399)) := (mv_b_0 _).mp c8
    refine mv_sipush (v := (-1002)) dX11_run_11 (by decide) ?_
    exact mv_iret dX11_run_14 rfl rfl ⟨rfl, rfl⟩
set_option maxRecDepth 100000 in
theorem k_X11_run_R2 {ev : mv_E} {h : mv_H} {b : t_B} {t : Nat} {n : Nat} (H0 : h[0]? = some (.inr (11, [.ref 1, .ref 3, .ref 7, .ref 11, .ref 21, .ref 22, .ref 32, .ref 34, .ref 42, .ref 45, .ref 48]))) (HB : h[7]? = some (.inr (0, [.ref 8, .ref 9, .ref 10, .int (nI b.1), .int (nI t), .int (nI b.2.1)]))) (hn1 : 1 ≤ n) (hn : n ≤ 399) (hb60 : b.1 ≤ 60) (hno : ¬ (b.1 < 60)) : mv_K ev mX11_run [.ref 0, .int (nI n)] h (some (.int (-1004))) h := by
  refine mv_Kof ?_
  show mv_g ev mX11_run 0 [.ref 0, .int (nI n)] [] h _
  refine mv_iload_n dX11_run_0 rfl ?_
  refine mv_iconst (v := nI 1) dX11_run_1 (by decide) ?_
  refine mv_sipush (v := nI 399) dX11_run_2 (by decide) ?_
  refine mv_cS3 dX11_run_5 lk_X11_run_96 (Nat.le_of_ble_eq_true rfl) (Nat.le_of_ble_eq_true rfl) (k_X11_within (ev := ev)) ?_
  refine mv_if_ne (tgt := 15) dX11_run_8 (by decide) (fun c8 => ?_) (fun z => absurd z ((fun z => (mv_b_0 _).mp z (mv_in_i (by omega) (by omega) (by omega)))))
  refine mv_aload_n dX11_run_15 rfl ?_
  refine mv_getf (ci := 11) (f := 2) dX11_run_16 H0 rfl (by decide) wd_378 rfl ?_
  refine mv_cV0 (ci := 0) dX11_run_19 lk_X11_run_142 HB rfl (Nat.le_of_ble_eq_true rfl) (Nat.le_of_ble_eq_true rfl) (k_X0_isFull (ev := ev) HB (by omega)) ?_
  refine mv_if_eq (tgt := 31) dX11_run_22 (by decide) (fun c22 => ?_) (fun c22 => ?_)
  · have c22 : ¬ (60 ≤ b.1) := (mv_b_0 _).mp c22
    exact absurd (by omega) hno
  · have c22 : 60 ≤ b.1 := Classical.byContradiction (fun z => c22 ((mv_b_0 _).mpr z))
    refine mv_sipush (v := (-1004)) dX11_run_25 (by decide) ?_
    refine mv_goto (tgt := 43) dX11_run_28 (by decide) ?_
    exact mv_iret dX11_run_43 rfl rfl ⟨rfl, rfl⟩
set_option maxRecDepth 100000 in
theorem k_X11_run_G {ev : mv_E} {h : mv_H} {b : t_B} {t : Nat} {n : Nat} {lw : Nat → Int32} {ln : Nat → Nat} (H0 : h[0]? = some (.inr (11, [.ref 1, .ref 3, .ref 7, .ref 11, .ref 21, .ref 22, .ref 32, .ref 34, .ref 42, .ref 45, .ref 48]))) (HB : h[7]? = some (.inr (0, [.ref 8, .ref 9, .ref 10, .int (nI b.1), .int (nI t), .int (nI b.2.1)]))) (H8 : h[8]? = some (.inl (0, 60, .inl (fun j => nI (b.2.2.1 j))))) (H9 : h[9]? = some (.inl (0, 60, .inl (fun j => nI (b.2.2.2.1 j))))) (H10 : h[10]? = some (.inl (0, 60, .inl (fun j => nI (b.2.2.2.2 j))))) (HL : h[1]? = some (.inr (5, [.ref 2]))) (HV : h[2]? = some (.inl (0, 8, .inl lw))) (hb : q_BI t b) (ht : t ≤ 399) (hn1 : 1 ≤ n) (hn : n ≤ 399) (hw : q_LW lw ln) (hb60 : b.1 < 60) : ∃ h2, mv_K ev mX11_run [.ref 0, .int (nI n)] h (some (.int (nI ((q_rn (ln 0) (ln 1) (ln 2) (ln 3) (ln 4) (min 399 (t + n) - t) t b).2.1 - b.1)))) h2 ∧ mv_fra [7, 8, 9, 10] h h2 ∧ h2[7]? = some (.inr (0, [.ref 8, .ref 9, .ref 10, .int (nI (q_rn (ln 0) (ln 1) (ln 2) (ln 3) (ln 4) (min 399 (t + n) - t) t b).2.1), .int (nI (q_rn (ln 0) (ln 1) (ln 2) (ln 3) (ln 4) (min 399 (t + n) - t) t b).1), .int (nI (q_rn (ln 0) (ln 1) (ln 2) (ln 3) (ln 4) (min 399 (t + n) - t) t b).2.2.1)])) ∧ h2[8]? = some (.inl (0, 60, .inl (fun j => nI ((q_rn (ln 0) (ln 1) (ln 2) (ln 3) (ln 4) (min 399 (t + n) - t) t b).2.2.2.1 j)))) ∧ h2[9]? = some (.inl (0, 60, .inl (fun j => nI ((q_rn (ln 0) (ln 1) (ln 2) (ln 3) (ln 4) (min 399 (t + n) - t) t b).2.2.2.2.1 j)))) ∧ h2[10]? = some (.inl (0, 60, .inl (fun j => nI ((q_rn (ln 0) (ln 1) (ln 2) (ln 3) (ln 4) (min 399 (t + n) - t) t b).2.2.2.2.2 j)))) := by
  suffices g0 : mv_g ev mX11_run 0 (mv_ent [.ref 0, .int (nI n)] (mv_ml mX11_run)) [] h (fun r g => r = some (.int (nI ((q_rn (ln 0) (ln 1) (ln 2) (ln 3) (ln 4) (min 399 (t + n) - t) t b).2.1 - b.1))) ∧ mv_fra [7, 8, 9, 10] h g ∧ g[7]? = some (.inr (0, [.ref 8, .ref 9, .ref 10, .int (nI (q_rn (ln 0) (ln 1) (ln 2) (ln 3) (ln 4) (min 399 (t + n) - t) t b).2.1), .int (nI (q_rn (ln 0) (ln 1) (ln 2) (ln 3) (ln 4) (min 399 (t + n) - t) t b).1), .int (nI (q_rn (ln 0) (ln 1) (ln 2) (ln 3) (ln 4) (min 399 (t + n) - t) t b).2.2.1)])) ∧ g[8]? = some (.inl (0, 60, .inl (fun j => nI ((q_rn (ln 0) (ln 1) (ln 2) (ln 3) (ln 4) (min 399 (t + n) - t) t b).2.2.2.1 j)))) ∧ g[9]? = some (.inl (0, 60, .inl (fun j => nI ((q_rn (ln 0) (ln 1) (ln 2) (ln 3) (ln 4) (min 399 (t + n) - t) t b).2.2.2.2.1 j)))) ∧ g[10]? = some (.inl (0, 60, .inl (fun j => nI ((q_rn (ln 0) (ln 1) (ln 2) (ln 3) (ln 4) (min 399 (t + n) - t) t b).2.2.2.2.2 j))))) from (by obtain ⟨r0, h0, K0, q0, Q0⟩ := mv_Kex g0; subst q0; exact ⟨h0, K0, Q0⟩)
  show mv_g ev mX11_run 0 [.ref 0, .int (nI n)] [] h _
  have fr : mv_fra [7, 8, 9, 10] h h := mv_fra.rf
  refine mv_iload_n dX11_run_0 rfl ?_
  refine mv_iconst (v := nI 1) dX11_run_1 (by decide) ?_
  refine mv_sipush (v := nI 399) dX11_run_2 (by decide) ?_
  refine mv_cS3 dX11_run_5 lk_X11_run_96 (Nat.le_of_ble_eq_true rfl) (Nat.le_of_ble_eq_true rfl) (k_X11_within (ev := ev)) ?_
  refine mv_if_ne (tgt := 15) dX11_run_8 (by decide) (fun c8 => ?_) (fun z => absurd z ((fun z => (mv_b_0 _).mp z (mv_in_i (by omega) (by omega) (by omega)))))
  refine mv_aload_n dX11_run_15 rfl ?_
  refine mv_getf (ci := 11) (f := 2) dX11_run_16 H0 rfl (by decide) wd_378 rfl ?_
  refine mv_cV0 (ci := 0) dX11_run_19 lk_X11_run_142 HB rfl (Nat.le_of_ble_eq_true rfl) (Nat.le_of_ble_eq_true rfl) (k_X0_isFull (ev := ev) HB (by omega)) ?_
  refine mv_if_eq (tgt := 31) dX11_run_22 (by decide) (fun c22 => ?_) (fun z => absurd (((mv_b_0 _).mpr (by omega))) z)
  refine mv_aload_n dX11_run_31 rfl ?_
  refine mv_getf (ci := 11) (f := 2) dX11_run_32 H0 rfl (by decide) wd_378 rfl ?_
  refine mv_iload_n dX11_run_35 rfl ?_
  refine mv_aload_n dX11_run_36 rfl ?_
  refine mv_getf (ci := 11) (f := 0) dX11_run_37 H0 rfl (by decide) wd_376 rfl ?_
  obtain ⟨h1, K2, f3, y4, y5, y6, y7⟩ := (k_X0_goOn (ev := ev) (b := b) (t := t) (n := n) (lw := lw) (ln := ln) HB H8 H9 H10 HL HV hb ht hn hw)
  refine mv_cV2 (ci := 0) dX11_run_40 lk_X11_run_153 HB rfl (Nat.le_of_ble_eq_true rfl) (Nat.le_of_ble_eq_true rfl) K2 ?_
  have H0 := f3.get (by decide) H0
  have HB : h1[7]? = some (.inr (0, [.ref 8, .ref 9, .ref 10, .int (nI (q_rn (ln 0) (ln 1) (ln 2) (ln 3) (ln 4) (min 399 (t + n) - t) t b).2.1), .int (nI (q_rn (ln 0) (ln 1) (ln 2) (ln 3) (ln 4) (min 399 (t + n) - t) t b).1), .int (nI (q_rn (ln 0) (ln 1) (ln 2) (ln 3) (ln 4) (min 399 (t + n) - t) t b).2.2.1)])) := y4
  have H8 : h1[8]? = some (.inl (0, 60, .inl (fun j => nI ((q_rn (ln 0) (ln 1) (ln 2) (ln 3) (ln 4) (min 399 (t + n) - t) t b).2.2.2.1 j)))) := y5
  have H9 : h1[9]? = some (.inl (0, 60, .inl (fun j => nI ((q_rn (ln 0) (ln 1) (ln 2) (ln 3) (ln 4) (min 399 (t + n) - t) t b).2.2.2.2.1 j)))) := y6
  have H10 : h1[10]? = some (.inl (0, 60, .inl (fun j => nI ((q_rn (ln 0) (ln 1) (ln 2) (ln 3) (ln 4) (min 399 (t + n) - t) t b).2.2.2.2.2 j)))) := y7
  have HL := f3.get (by decide) HL
  have HV := f3.get (by decide) HV
  have fr := fr.trans f3 (by decide)
  exact mv_iret dX11_run_43 rfl rfl ⟨rfl, fr, HB, H8, H9, H10⟩
set_option maxRecDepth 100000 in
theorem k_X11_about_R1 {ev : mv_E} {h : mv_H} {b : t_B} {t : Nat} {k : Int32} {w : Int32} (H0 : h[0]? = some (.inr (11, [.ref 1, .ref 3, .ref 7, .ref 11, .ref 21, .ref 22, .ref 32, .ref 34, .ref 42, .ref 45, .ref 48]))) (HB : h[7]? = some (.inr (0, [.ref 8, .ref 9, .ref 10, .int (nI b.1), .int (nI t), .int (nI b.2.1)]))) (hno : ¬ ((0 ≤ k ∧ k < nI b.1 ∧ k < nI 60))) : mv_K ev mX11_about [.ref 0, .int k, .int w] h (some (.int (-1001))) h := by
  refine mv_Kof ?_
  show mv_g ev mX11_about 0 [.ref 0, .int k, .int w] [] h _
  refine mv_aload_n dX11_about_0 rfl ?_
  refine mv_getf (ci := 11) (f := 2) dX11_about_1 H0 rfl (by decide) wd_378 rfl ?_
  refine mv_iload_n dX11_about_4 rfl ?_
  refine mv_cV1 (ci := 0) dX11_about_5 lk_X11_about_157 HB rfl (Nat.le_of_ble_eq_true rfl) (Nat.le_of_ble_eq_true rfl) (k_X0_hasI (ev := ev) HB) ?_
  refine mv_if_ne (tgt := 15) dX11_about_8 (by decide) (fun c8 => ?_) (fun c8 => ?_)
  · have c8 : 0 ≤ k ∧ k < nI b.1 ∧ k < nI 60 := Classical.byContradiction (fun z => c8 ((mv_b_0 _).mpr z))
    exact absurd (by assumption) hno
  · have c8 : ¬ (0 ≤ k ∧ k < nI b.1 ∧ k < nI 60) := (mv_b_0 _).mp c8
    refine mv_sipush (v := (-1001)) dX11_about_11 (by decide) ?_
    exact mv_iret dX11_about_14 rfl rfl ⟨rfl, rfl⟩
def q_abA (b : t_B) (k : Nat) (w : Int32) : Int32 := if w = nI 0 then nI (b.2.2.1 k) else if w = nI 1 then nI (b.2.2.2.1 k) else if w = nI 2 then nI (b.2.2.2.2 k) else -1002
def q_coA (a0 a1 a2 a3 a4 a5 a6 : Nat) (w : Int32) : Int32 := if w = nI 0 then nI a0 else if w = nI 1 then nI a1 else if w = nI 2 then nI a2 else if w = nI 3 then nI a3 else if w = nI 4 then nI a4 else if w = nI 5 then nI a5 else if w = nI 6 then nI a6 else -1002
noncomputable def q_omA (lw : Nat → Int32) (ln : Nat → Nat) (s : q_S) (wa : Nat → Nat) (cf ct : Nat → Int32) (rr : Nat → Nat) (k : Nat) (w : Int32) : Int32 := if w = nI 0 then nI (s.2.1 k) else if w = nI 1 then nI (s.2.2.1 k) else if w = nI 2 then nI (s.2.2.2.1 k) else if w = nI 3 then nI (s.2.2.2.2 k) else if w = nI 4 then nI (q_ow lw ln rr (s.2.2.1 k)) else if w = nI 5 then mv_q (q_ev lw ln s wa cf ct rr k) else -1002
noncomputable def q_scA (ln : Nat → Nat) (c : q_C) (b : t_B) (k : Nat) (w : Int32) : Int32 := if w = nI 0 then q_hit c b k else if w = nI 1 then nI (q_al ln c b k) else if w = nI 2 then q_sc ln c b k else -1002
set_option maxRecDepth 100000 in
theorem k_X11_about_G {ev : mv_E} {h : mv_H} {b : t_B} {t : Nat} {k : Nat} {w : Int32} (H0 : h[0]? = some (.inr (11, [.ref 1, .ref 3, .ref 7, .ref 11, .ref 21, .ref 22, .ref 32, .ref 34, .ref 42, .ref 45, .ref 48]))) (HB : h[7]? = some (.inr (0, [.ref 8, .ref 9, .ref 10, .int (nI b.1), .int (nI t), .int (nI b.2.1)]))) (H8 : h[8]? = some (.inl (0, 60, .inl (fun j => nI (b.2.2.1 j))))) (H9 : h[9]? = some (.inl (0, 60, .inl (fun j => nI (b.2.2.2.1 j))))) (H10 : h[10]? = some (.inl (0, 60, .inl (fun j => nI (b.2.2.2.2 j))))) (hk : k < b.1) (hn : b.1 ≤ 60) : mv_K ev mX11_about [.ref 0, .int (nI k), .int w] h (some (.int (q_abA b k w))) h := by
  refine mv_Kof ?_
  show mv_g ev mX11_about 0 [.ref 0, .int (nI k), .int w] [] h _
  refine mv_aload_n dX11_about_0 rfl ?_
  refine mv_getf (ci := 11) (f := 2) dX11_about_1 H0 rfl (by decide) wd_378 rfl ?_
  refine mv_iload_n dX11_about_4 rfl ?_
  refine mv_cV1 (ci := 0) dX11_about_5 lk_X11_about_157 HB rfl (Nat.le_of_ble_eq_true rfl) (Nat.le_of_ble_eq_true rfl) (k_X0_has (ev := ev) HB hk hn) ?_
  refine mv_if_ne (tgt := 15) dX11_about_8 (by decide) (fun c8 => ?_) (fun z => absurd z ((by decide)))
  refine mv_iload_n dX11_about_15 rfl ?_
  by_cases z16_0 : w = nI 0
  · subst z16_0
    refine mv_tswIn (tgt := 44) dX11_about_16 (by decide) (by decide) rfl (by decide) ?_
    refine mv_aload_n dX11_about_44 rfl ?_
    refine mv_getf (ci := 11) (f := 2) dX11_about_45 H0 rfl (by decide) wd_378 rfl ?_
    refine mv_iload_n dX11_about_48 rfl ?_
    refine mv_cV1 (ci := 0) dX11_about_49 lk_X11_about_160 HB rfl (Nat.le_of_ble_eq_true rfl) (Nat.le_of_ble_eq_true rfl) (k_X0_dayOf (ev := ev) HB H8 (by omega) (by omega)) ?_
    have e9 : q_abA b k (nI 0) = nI (b.2.2.1 k) := (if_pos rfl)
    exact mv_iret dX11_about_52 rfl rfl ⟨(by rw [e9]), rfl⟩
  · skip
    by_cases z16_1 : w = nI 1
    · subst z16_1
      refine mv_tswIn (tgt := 53) dX11_about_16 (by decide) (by decide) rfl (by decide) ?_
      refine mv_aload_n dX11_about_53 rfl ?_
      refine mv_getf (ci := 11) (f := 2) dX11_about_54 H0 rfl (by decide) wd_378 rfl ?_
      refine mv_iload_n dX11_about_57 rfl ?_
      refine mv_cV1 (ci := 0) dX11_about_58 lk_X11_about_163 HB rfl (Nat.le_of_ble_eq_true rfl) (Nat.le_of_ble_eq_true rfl) (k_X0_placeOf (ev := ev) HB H9 (by omega) (by omega)) ?_
      have e9 : q_abA b k (nI 1) = nI (b.2.2.2.1 k) := ((if_neg (show ¬ (nI 1) = nI 0 by decide)).trans (if_pos rfl))
      exact mv_iret dX11_about_61 rfl rfl ⟨(by rw [e9]), rfl⟩
    · skip
      by_cases z16_2 : w = nI 2
      · subst z16_2
        refine mv_tswIn (tgt := 62) dX11_about_16 (by decide) (by decide) rfl (by decide) ?_
        refine mv_aload_n dX11_about_62 rfl ?_
        refine mv_getf (ci := 11) (f := 2) dX11_about_63 H0 rfl (by decide) wd_378 rfl ?_
        refine mv_iload_n dX11_about_66 rfl ?_
        refine mv_cV1 (ci := 0) dX11_about_67 lk_X11_about_166 HB rfl (Nat.le_of_ble_eq_true rfl) (Nat.le_of_ble_eq_true rfl) (k_X0_sizeOf (ev := ev) HB H10 (by omega) (by omega)) ?_
        have e9 : q_abA b k (nI 2) = nI (b.2.2.2.2 k) := ((if_neg (show ¬ (nI 2) = nI 0 by decide)).trans ((if_neg (show ¬ (nI 2) = nI 1 by decide)).trans (if_pos rfl)))
        exact mv_iret dX11_about_70 rfl rfl ⟨(by rw [e9]), rfl⟩
      · skip
        refine mv_tswOut (tgt := 71) dX11_about_16 (by have t0 := mv_tn z16_0 (by decide); have t1 := mv_tn z16_1 (by decide); have t2 := mv_tn z16_2 (by decide); omega) (by decide) ?_
        refine mv_sipush (v := (-1002)) dX11_about_71 (by decide) ?_
        have e9 : q_abA b k w = -1002 := ((if_neg (show ¬ w = nI 0 by assumption)).trans ((if_neg (show ¬ w = nI 1 by assumption)).trans (if_neg (show ¬ w = nI 2 by assumption))))
        exact mv_iret dX11_about_74 rfl rfl ⟨(by rw [e9]), rfl⟩
set_option maxRecDepth 100000 in
theorem k_X11_count_G {ev : mv_E} {h : mv_H} {n : Nat} {a0 : Nat} {cl : Nat} {fa : Nat} {fp : Int32} {b : t_B} {t : Nat} {s : q_S} {rc : Nat} {c : q_C} {wo : q_W} {w : Int32} (H0 : h[0]? = some (.inr (11, [.ref 1, .ref 3, .ref 7, .ref 11, .ref 21, .ref 22, .ref 32, .ref 34, .ref 42, .ref 45, .ref 48]))) (H3 : h[3]? = some (.inr (6, [.ref 4, .ref 5, .ref 6, .int (nI n), .int (nI a0), .int (nI cl), .int (nI fa), .int fp]))) (HB : h[7]? = some (.inr (0, [.ref 8, .ref 9, .ref 10, .int (nI b.1), .int (nI t), .int (nI b.2.1)]))) (HS : h[22]? = some (.inr (7, [.ref 1, .ref 23, .ref 24, .ref 25, .ref 26, .int (nI s.1), .ref 27, .ref 28, .ref 29, .ref 30, .int (nI rc), .ref 31]))) (HC : h[34]? = some (.inr (1, [.ref 21, .ref 7, .ref 35, .ref 36, .ref 37, .ref 38, .ref 39, .ref 40, .ref 41, .int (nI c.1)]))) (HW : h[48]? = some (.inr (10, [.ref 21, .ref 49, .ref 50, .ref 51, .int (nI wo.1)])))  : mv_K ev mX11_count [.ref 0, .int w] h (some (.int (q_coA b.1 s.1 c.1 wo.1 t n rc w))) h := by
  refine mv_Kof ?_
  show mv_g ev mX11_count 0 [.ref 0, .int w] [] h _
  refine mv_iload_n dX11_count_0 rfl ?_
  by_cases z1_0 : w = nI 0
  · subst z1_0
    refine mv_tswIn (tgt := 44) dX11_count_1 (by decide) (by decide) rfl (by decide) ?_
    refine mv_aload_n dX11_count_44 rfl ?_
    refine mv_getf (ci := 11) (f := 2) dX11_count_45 H0 rfl (by decide) wd_378 rfl ?_
    refine mv_cV0 (ci := 0) dX11_count_48 lk_X11_count_169 HB rfl (Nat.le_of_ble_eq_true rfl) (Nat.le_of_ble_eq_true rfl) (k_X0_size (ev := ev) HB) ?_
    have e9 : q_coA b.1 s.1 c.1 wo.1 t n rc (nI 0) = nI b.1 := (if_pos rfl)
    exact mv_iret dX11_count_51 rfl rfl ⟨(by rw [e9]), rfl⟩
  · skip
    by_cases z1_1 : w = nI 1
    · subst z1_1
      refine mv_tswIn (tgt := 52) dX11_count_1 (by decide) (by decide) rfl (by decide) ?_
      refine mv_aload_n dX11_count_52 rfl ?_
      refine mv_getf (ci := 11) (f := 5) dX11_count_53 H0 rfl (by decide) wd_381 rfl ?_
      refine mv_cV0 (ci := 7) dX11_count_56 lk_X11_count_172 HS rfl (Nat.le_of_ble_eq_true rfl) (Nat.le_of_ble_eq_true rfl) (k_X7_size (ev := ev) HS) ?_
      have e9 : q_coA b.1 s.1 c.1 wo.1 t n rc (nI 1) = nI s.1 := ((if_neg (show ¬ (nI 1) = nI 0 by decide)).trans (if_pos rfl))
      exact mv_iret dX11_count_59 rfl rfl ⟨(by rw [e9]), rfl⟩
    · skip
      by_cases z1_2 : w = nI 2
      · subst z1_2
        refine mv_tswIn (tgt := 60) dX11_count_1 (by decide) (by decide) rfl (by decide) ?_
        refine mv_aload_n dX11_count_60 rfl ?_
        refine mv_getf (ci := 11) (f := 7) dX11_count_61 H0 rfl (by decide) wd_383 rfl ?_
        refine mv_cV0 (ci := 1) dX11_count_64 lk_X11_count_173 HC rfl (Nat.le_of_ble_eq_true rfl) (Nat.le_of_ble_eq_true rfl) (k_X1_size (ev := ev) HC) ?_
        have e9 : q_coA b.1 s.1 c.1 wo.1 t n rc (nI 2) = nI c.1 := ((if_neg (show ¬ (nI 2) = nI 0 by decide)).trans ((if_neg (show ¬ (nI 2) = nI 1 by decide)).trans (if_pos rfl)))
        exact mv_iret dX11_count_67 rfl rfl ⟨(by rw [e9]), rfl⟩
      · skip
        by_cases z1_3 : w = nI 3
        · subst z1_3
          refine mv_tswIn (tgt := 68) dX11_count_1 (by decide) (by decide) rfl (by decide) ?_
          refine mv_aload_n dX11_count_68 rfl ?_
          refine mv_getf (ci := 11) (f := 10) dX11_count_69 H0 rfl (by decide) wd_386 rfl ?_
          refine mv_cV0 (ci := 10) dX11_count_72 lk_X11_count_174 HW rfl (Nat.le_of_ble_eq_true rfl) (Nat.le_of_ble_eq_true rfl) (k_X10_size (ev := ev) HW) ?_
          have e9 : q_coA b.1 s.1 c.1 wo.1 t n rc (nI 3) = nI wo.1 := ((if_neg (show ¬ (nI 3) = nI 0 by decide)).trans ((if_neg (show ¬ (nI 3) = nI 1 by decide)).trans ((if_neg (show ¬ (nI 3) = nI 2 by decide)).trans (if_pos rfl))))
          exact mv_iret dX11_count_75 rfl rfl ⟨(by rw [e9]), rfl⟩
        · skip
          by_cases z1_4 : w = nI 4
          · subst z1_4
            refine mv_tswIn (tgt := 76) dX11_count_1 (by decide) (by decide) rfl (by decide) ?_
            refine mv_aload_n dX11_count_76 rfl ?_
            refine mv_getf (ci := 11) (f := 2) dX11_count_77 H0 rfl (by decide) wd_378 rfl ?_
            refine mv_cV0 (ci := 0) dX11_count_80 lk_X11_count_139 HB rfl (Nat.le_of_ble_eq_true rfl) (Nat.le_of_ble_eq_true rfl) (k_X0_today (ev := ev) HB) ?_
            have e9 : q_coA b.1 s.1 c.1 wo.1 t n rc (nI 4) = nI t := ((if_neg (show ¬ (nI 4) = nI 0 by decide)).trans ((if_neg (show ¬ (nI 4) = nI 1 by decide)).trans ((if_neg (show ¬ (nI 4) = nI 2 by decide)).trans ((if_neg (show ¬ (nI 4) = nI 3 by decide)).trans (if_pos rfl)))))
            exact mv_iret dX11_count_83 rfl rfl ⟨(by rw [e9]), rfl⟩
          · skip
            by_cases z1_5 : w = nI 5
            · subst z1_5
              refine mv_tswIn (tgt := 84) dX11_count_1 (by decide) (by decide) rfl (by decide) ?_
              refine mv_aload_n dX11_count_84 rfl ?_
              refine mv_getf (ci := 11) (f := 1) dX11_count_85 H0 rfl (by decide) wd_377 rfl ?_
              refine mv_cV0 (ci := 6) dX11_count_88 lk_X11_count_175 H3 rfl (Nat.le_of_ble_eq_true rfl) (Nat.le_of_ble_eq_true rfl) (k_X6_size (ev := ev) H3) ?_
              have e9 : q_coA b.1 s.1 c.1 wo.1 t n rc (nI 5) = nI n := ((if_neg (show ¬ (nI 5) = nI 0 by decide)).trans ((if_neg (show ¬ (nI 5) = nI 1 by decide)).trans ((if_neg (show ¬ (nI 5) = nI 2 by decide)).trans ((if_neg (show ¬ (nI 5) = nI 3 by decide)).trans ((if_neg (show ¬ (nI 5) = nI 4 by decide)).trans (if_pos rfl))))))
              exact mv_iret dX11_count_91 rfl rfl ⟨(by rw [e9]), rfl⟩
            · skip
              by_cases z1_6 : w = nI 6
              · subst z1_6
                refine mv_tswIn (tgt := 92) dX11_count_1 (by decide) (by decide) rfl (by decide) ?_
                refine mv_aload_n dX11_count_92 rfl ?_
                refine mv_getf (ci := 11) (f := 5) dX11_count_93 H0 rfl (by decide) wd_381 rfl ?_
                refine mv_cV0 (ci := 7) dX11_count_96 lk_X11_count_176 HS rfl (Nat.le_of_ble_eq_true rfl) (Nat.le_of_ble_eq_true rfl) (k_X7_rainyDays (ev := ev) HS) ?_
                have e9 : q_coA b.1 s.1 c.1 wo.1 t n rc (nI 6) = nI rc := ((if_neg (show ¬ (nI 6) = nI 0 by decide)).trans ((if_neg (show ¬ (nI 6) = nI 1 by decide)).trans ((if_neg (show ¬ (nI 6) = nI 2 by decide)).trans ((if_neg (show ¬ (nI 6) = nI 3 by decide)).trans ((if_neg (show ¬ (nI 6) = nI 4 by decide)).trans ((if_neg (show ¬ (nI 6) = nI 5 by decide)).trans (if_pos rfl)))))))
                exact mv_iret dX11_count_99 rfl rfl ⟨(by rw [e9]), rfl⟩
              · skip
                refine mv_tswOut (tgt := 100) dX11_count_1 (by have t0 := mv_tn z1_0 (by decide); have t1 := mv_tn z1_1 (by decide); have t2 := mv_tn z1_2 (by decide); have t3 := mv_tn z1_3 (by decide); have t4 := mv_tn z1_4 (by decide); have t5 := mv_tn z1_5 (by decide); have t6 := mv_tn z1_6 (by decide); omega) (by decide) ?_
                refine mv_sipush (v := (-1002)) dX11_count_100 (by decide) ?_
                have e9 : q_coA b.1 s.1 c.1 wo.1 t n rc w = -1002 := ((if_neg (show ¬ w = nI 0 by assumption)).trans ((if_neg (show ¬ w = nI 1 by assumption)).trans ((if_neg (show ¬ w = nI 2 by assumption)).trans ((if_neg (show ¬ w = nI 3 by assumption)).trans ((if_neg (show ¬ w = nI 4 by assumption)).trans ((if_neg (show ¬ w = nI 5 by assumption)).trans (if_neg (show ¬ w = nI 6 by assumption))))))))
                exact mv_iret dX11_count_103 rfl rfl ⟨(by rw [e9]), rfl⟩
set_option maxRecDepth 100000 in
theorem k_X11_odds_R1 {ev : mv_E} {h : mv_H} {d : Int32} {p : Int32} {m : Int32} {x : Int32} {a : Int32} {e : Int32}  (hno : ¬ ((nI 0 ≤ p ∧ p ≤ nI 63))) : mv_K ev mX11_odds [.ref 0, .int d, .int p, .int m, .int x, .int a, .int e] h (some (.int (-1001))) h := by
  refine mv_Kof ?_
  show mv_g ev mX11_odds 0 [.ref 0, .int d, .int p, .int m, .int x, .int a, .int e] [] h _
  refine mv_iload_n dX11_odds_0 rfl ?_
  refine mv_cS1 dX11_odds_1 lk_X11_odds_120 (Nat.le_of_ble_eq_true rfl) (Nat.le_of_ble_eq_true rfl) (k_X11_isPlace (ev := ev)) ?_
  refine mv_if_ne (tgt := 11) dX11_odds_4 (by decide) (fun c4 => ?_) (fun c4 => ?_)
  · have c4 : nI 0 ≤ p ∧ p ≤ nI 63 := Classical.byContradiction (fun z => c4 ((mv_b_0 _).mpr z))
    exact absurd (by assumption) hno
  · have c4 : ¬ (nI 0 ≤ p ∧ p ≤ nI 63) := (mv_b_0 _).mp c4
    refine mv_sipush (v := (-1001)) dX11_odds_7 (by decide) ?_
    exact mv_iret dX11_odds_10 rfl rfl ⟨rfl, rfl⟩
set_option maxRecDepth 100000 in
theorem k_X11_odds_R2 {ev : mv_E} {h : mv_H} {d : Int32} {m : Int32} {x : Int32} {a : Int32} {e : Int32} {p : Nat}  (hp : p < 64) (hno : ¬ ((nI 0 ≤ d ∧ d ≤ nI 399) ∧ (nI 0 ≤ m ∧ m ≤ nI 7) ∧ (nI 1 ≤ x ∧ x ≤ nI 9) ∧ (d < a ∧ a ≤ nI 399) ∧ (a ≤ e ∧ e ≤ nI 399))) : mv_K ev mX11_odds [.ref 0, .int d, .int (nI p), .int m, .int x, .int a, .int e] h (some (.int (-1002))) h := by
  refine mv_Kof ?_
  show mv_g ev mX11_odds 0 [.ref 0, .int d, .int (nI p), .int m, .int x, .int a, .int e] [] h _
  refine mv_iload_n dX11_odds_0 rfl ?_
  refine mv_cS1 dX11_odds_1 lk_X11_odds_120 (Nat.le_of_ble_eq_true rfl) (Nat.le_of_ble_eq_true rfl) (k_X11_isPlace (ev := ev)) ?_
  refine mv_if_ne (tgt := 11) dX11_odds_4 (by decide) (fun c4 => ?_) (fun z => absurd z ((fun z => (mv_b_0 _).mp z (mv_in_i (by omega) (by omega) (by omega)))))
  refine mv_iload_n dX11_odds_11 rfl ?_
  refine mv_cS1 dX11_odds_12 lk_X11_odds_123 (Nat.le_of_ble_eq_true rfl) (Nat.le_of_ble_eq_true rfl) (k_X11_isDistance (ev := ev)) ?_
  refine mv_if_eq (tgt := 37) dX11_odds_15 (by decide) (fun c15 => ?_) (fun c15 => ?_)
  · have c15 : ¬ (nI 0 ≤ m ∧ m ≤ nI 7) := (mv_b_0 _).mp c15
    refine mv_sipush (v := (-1002)) dX11_odds_37 (by decide) ?_
    exact mv_iret dX11_odds_40 rfl rfl ⟨rfl, rfl⟩
  · have c15 : nI 0 ≤ m ∧ m ≤ nI 7 := Classical.byContradiction (fun z => c15 ((mv_b_0 _).mpr z))
    refine mv_iload dX11_odds_18 rfl ?_
    refine mv_cS1 dX11_odds_20 lk_X11_odds_130 (Nat.le_of_ble_eq_true rfl) (Nat.le_of_ble_eq_true rfl) (k_X11_isSize (ev := ev)) ?_
    refine mv_if_eq (tgt := 37) dX11_odds_23 (by decide) (fun c23 => ?_) (fun c23 => ?_)
    · have c23 : ¬ (nI 1 ≤ x ∧ x ≤ nI 9) := (mv_b_0 _).mp c23
      refine mv_sipush (v := (-1002)) dX11_odds_37 (by decide) ?_
      exact mv_iret dX11_odds_40 rfl rfl ⟨rfl, rfl⟩
    · have c23 : nI 1 ≤ x ∧ x ≤ nI 9 := Classical.byContradiction (fun z => c23 ((mv_b_0 _).mpr z))
      refine mv_iload_n dX11_odds_26 rfl ?_
      refine mv_iload dX11_odds_27 rfl ?_
      refine mv_iload dX11_odds_29 rfl ?_
      refine mv_cS3 dX11_odds_31 lk_X11_odds_179 (Nat.le_of_ble_eq_true rfl) (Nat.le_of_ble_eq_true rfl) (k_X11_areDaysAfter (ev := ev)) ?_
      refine mv_if_ne (tgt := 41) dX11_odds_34 (by decide) (fun c34 => ?_) (fun c34 => ?_)
      · have c34 : (nI 0 ≤ d ∧ d ≤ nI 399) ∧ (d < a ∧ a ≤ nI 399) ∧ (a ≤ e ∧ e ≤ nI 399) := Classical.byContradiction (fun z => c34 ((mv_b_0 _).mpr z))
        exact absurd ⟨c34.1, c15, c23, c34.2.1, c34.2.2⟩ hno
      · have c34 : ¬ ((nI 0 ≤ d ∧ d ≤ nI 399) ∧ (d < a ∧ a ≤ nI 399) ∧ (a ≤ e ∧ e ≤ nI 399)) := (mv_b_0 _).mp c34
        refine mv_sipush (v := (-1002)) dX11_odds_37 (by decide) ?_
        exact mv_iret dX11_odds_40 rfl rfl ⟨rfl, rfl⟩
set_option maxRecDepth 100000 in
theorem k_X11_odds_G {ev : mv_E} {h : mv_H} {lw : Nat → Int32} {ln : Nat → Nat} {b : t_B} {t : Nat} {d : Nat} {p : Nat} {m : Nat} {x : Nat} {a : Nat} {e : Nat} {dd : Nat} (H0 : h[0]? = some (.inr (11, [.ref 1, .ref 3, .ref 7, .ref 11, .ref 21, .ref 22, .ref 32, .ref 34, .ref 42, .ref 45, .ref 48]))) (HF : h[21]? = some (.inr (3, [.ref 1, .ref 7]))) (HL : h[1]? = some (.inr (5, [.ref 2]))) (HV : h[2]? = some (.inl (0, 8, .inl lw))) (HB : h[7]? = some (.inr (0, [.ref 8, .ref 9, .ref 10, .int (nI b.1), .int (nI t), .int (nI b.2.1)]))) (H8 : h[8]? = some (.inl (0, 60, .inl (fun j => nI (b.2.2.1 j))))) (H9 : h[9]? = some (.inl (0, 60, .inl (fun j => nI (b.2.2.2.1 j))))) (H10 : h[10]? = some (.inl (0, 60, .inl (fun j => nI (b.2.2.2.2 j))))) (hw : q_LW lw ln) (hb : q_BI dd b) (hp : p < 64) (hm0 : m < 8) (hz1 : 1 ≤ x) (hz9 : x ≤ 9) (hda : d < a) (hae : a ≤ e) (he : e ≤ 399) : mv_K ev mX11_odds [.ref 0, .int (nI d), .int (nI p), .int (nI m), .int (nI x), .int (nI a), .int (nI e)] h (some (.int (nI (q_od ln b p m x a e (q_ut b (nI d)))))) h := by
  refine mv_Kof ?_
  show mv_g ev mX11_odds 0 [.ref 0, .int (nI d), .int (nI p), .int (nI m), .int (nI x), .int (nI a), .int (nI e)] [] h _
  refine mv_iload_n dX11_odds_0 rfl ?_
  refine mv_cS1 dX11_odds_1 lk_X11_odds_120 (Nat.le_of_ble_eq_true rfl) (Nat.le_of_ble_eq_true rfl) (k_X11_isPlace (ev := ev)) ?_
  refine mv_if_ne (tgt := 11) dX11_odds_4 (by decide) (fun c4 => ?_) (fun z => absurd z ((fun z => (mv_b_0 _).mp z (mv_in_i (by omega) (by omega) (by omega)))))
  refine mv_iload_n dX11_odds_11 rfl ?_
  refine mv_cS1 dX11_odds_12 lk_X11_odds_123 (Nat.le_of_ble_eq_true rfl) (Nat.le_of_ble_eq_true rfl) (k_X11_isDistance (ev := ev)) ?_
  refine mv_if_eq (tgt := 37) dX11_odds_15 (by decide) (fun z => absurd z ((fun z => (mv_b_0 _).mp z (mv_in_i (by omega) (by omega) (by omega))))) (fun c15 => ?_)
  refine mv_iload dX11_odds_18 rfl ?_
  refine mv_cS1 dX11_odds_20 lk_X11_odds_130 (Nat.le_of_ble_eq_true rfl) (Nat.le_of_ble_eq_true rfl) (k_X11_isSize (ev := ev)) ?_
  refine mv_if_eq (tgt := 37) dX11_odds_23 (by decide) (fun z => absurd z ((fun z => (mv_b_0 _).mp z (mv_in_i (by omega) (by omega) (by omega))))) (fun c23 => ?_)
  refine mv_iload_n dX11_odds_26 rfl ?_
  refine mv_iload dX11_odds_27 rfl ?_
  refine mv_iload dX11_odds_29 rfl ?_
  refine mv_cS3 dX11_odds_31 lk_X11_odds_179 (Nat.le_of_ble_eq_true rfl) (Nat.le_of_ble_eq_true rfl) (k_X11_areDaysAfter (ev := ev)) ?_
  refine mv_if_ne (tgt := 41) dX11_odds_34 (by decide) (fun c34 => ?_) (fun z => absurd z ((fun z => (mv_b_0 _).mp z ⟨mv_in_i (Nat.zero_le _) (by omega) (by decide), ⟨(nI_ltI (by omega) (by omega)).mpr (by omega), (nI_leI (by omega) (by decide)).mpr (by omega)⟩, (nI_leI (by omega) (by omega)).mpr (by omega), (nI_leI (by omega) (by decide)).mpr (by omega)⟩)))
  refine mv_aload_n dX11_odds_41 rfl ?_
  refine mv_getf (ci := 11) (f := 4) dX11_odds_42 H0 rfl (by decide) wd_380 rfl ?_
  refine mv_iload_n dX11_odds_45 rfl ?_
  refine mv_iload_n dX11_odds_46 rfl ?_
  refine mv_iload_n dX11_odds_47 rfl ?_
  refine mv_iload dX11_odds_48 rfl ?_
  refine mv_iload dX11_odds_50 rfl ?_
  refine mv_iload dX11_odds_52 rfl ?_
  refine mv_cV6 (ci := 3) dX11_odds_54 lk_X11_odds_182 HF rfl (Nat.le_of_ble_eq_true rfl) (Nat.le_of_ble_eq_true rfl) (k_X3_odds (ev := ev) HF HL HV HB H8 H9 H10 hw hb (by omega) (by omega) (by omega) (by omega) (by omega) (by omega) ((nI_ltI (by omega) (by omega)).mpr (by omega))) ?_
  exact mv_iret dX11_odds_57 rfl rfl ⟨rfl, rfl⟩
set_option maxRecDepth 100000 in
theorem k_X11_watch_R1 {ev : mv_E} {h : mv_H} {k : Int32} {p : Int32} {a : Int32} {e : Int32}  (hno : ¬ ((nI 0 ≤ k ∧ k ≤ nI 7) ∧ (nI 0 ≤ p ∧ p ≤ nI 63))) : mv_K ev mX11_watch [.ref 0, .int k, .int p, .int a, .int e] h (some (.int (-1001))) h := by
  refine mv_Kof ?_
  show mv_g ev mX11_watch 0 [.ref 0, .int k, .int p, .int a, .int e] [] h _
  refine mv_iload_n dX11_watch_0 rfl ?_
  refine mv_cS1 dX11_watch_1 lk_X11_watch_186 (Nat.le_of_ble_eq_true rfl) (Nat.le_of_ble_eq_true rfl) (k_X11_isKind (ev := ev)) ?_
  refine mv_if_eq (tgt := 14) dX11_watch_4 (by decide) (fun c4 => ?_) (fun c4 => ?_)
  · have c4 : ¬ (nI 0 ≤ k ∧ k ≤ nI 7) := (mv_b_0 _).mp c4
    refine mv_sipush (v := (-1001)) dX11_watch_14 (by decide) ?_
    exact mv_iret dX11_watch_17 rfl rfl ⟨rfl, rfl⟩
  · have c4 : nI 0 ≤ k ∧ k ≤ nI 7 := Classical.byContradiction (fun z => c4 ((mv_b_0 _).mpr z))
    refine mv_iload_n dX11_watch_7 rfl ?_
    refine mv_cS1 dX11_watch_8 lk_X11_watch_120 (Nat.le_of_ble_eq_true rfl) (Nat.le_of_ble_eq_true rfl) (k_X11_isPlace (ev := ev)) ?_
    refine mv_if_ne (tgt := 18) dX11_watch_11 (by decide) (fun c11 => ?_) (fun c11 => ?_)
    · have c11 : nI 0 ≤ p ∧ p ≤ nI 63 := Classical.byContradiction (fun z => c11 ((mv_b_0 _).mpr z))
      exact absurd (by refine ⟨?_, ?_⟩ <;> assumption) hno
    · have c11 : ¬ (nI 0 ≤ p ∧ p ≤ nI 63) := (mv_b_0 _).mp c11
      refine mv_sipush (v := (-1001)) dX11_watch_14 (by decide) ?_
      exact mv_iret dX11_watch_17 rfl rfl ⟨rfl, rfl⟩
set_option maxRecDepth 100000 in
theorem k_X11_watch_R2 {ev : mv_E} {h : mv_H} {k : Nat} {p : Nat} {a : Int32} {e : Int32}  (hk : k < 8) (hp : p < 64) (hno : ¬ (a = -1 ∨ (nI 0 ≤ a ∧ a ≤ nI 399) ∧ (a ≤ e ∧ e ≤ nI 399))) : mv_K ev mX11_watch [.ref 0, .int (nI k), .int (nI p), .int a, .int e] h (some (.int (-1002))) h := by
  refine mv_Kof ?_
  show mv_g ev mX11_watch 0 [.ref 0, .int (nI k), .int (nI p), .int a, .int e] [] h _
  refine mv_iload_n dX11_watch_0 rfl ?_
  refine mv_cS1 dX11_watch_1 lk_X11_watch_186 (Nat.le_of_ble_eq_true rfl) (Nat.le_of_ble_eq_true rfl) (k_X11_isKind (ev := ev)) ?_
  refine mv_if_eq (tgt := 14) dX11_watch_4 (by decide) (fun z => absurd z ((fun z => (mv_b_0 _).mp z (mv_in_i (by omega) (by omega) (by omega))))) (fun c4 => ?_)
  refine mv_iload_n dX11_watch_7 rfl ?_
  refine mv_cS1 dX11_watch_8 lk_X11_watch_120 (Nat.le_of_ble_eq_true rfl) (Nat.le_of_ble_eq_true rfl) (k_X11_isPlace (ev := ev)) ?_
  refine mv_if_ne (tgt := 18) dX11_watch_11 (by decide) (fun c11 => ?_) (fun z => absurd z ((fun z => (mv_b_0 _).mp z (mv_in_i (by omega) (by omega) (by omega)))))
  refine mv_iload_n dX11_watch_18 rfl ?_
  refine mv_iconst (v := (-1)) dX11_watch_19 (by decide) ?_
  refine mv_icmp_eq (tgt := 36) dX11_watch_20 (by decide) (fun c20 => ?_) (fun c20 => ?_)
  · skip
    exact absurd (by first | exact Or.inl c20 | exact Or.inr c29) hno
  · skip
    refine mv_iload_n dX11_watch_23 rfl ?_
    refine mv_iload dX11_watch_24 rfl ?_
    refine mv_cS2 dX11_watch_26 lk_X11_watch_189 (Nat.le_of_ble_eq_true rfl) (Nat.le_of_ble_eq_true rfl) (k_X11_areDays (ev := ev)) ?_
    refine mv_if_ne (tgt := 36) dX11_watch_29 (by decide) (fun c29 => ?_) (fun c29 => ?_)
    · have c29 : (nI 0 ≤ a ∧ a ≤ nI 399) ∧ (a ≤ e ∧ e ≤ nI 399) := Classical.byContradiction (fun z => c29 ((mv_b_0 _).mpr z))
      exact absurd (by first | exact Or.inl c20 | exact Or.inr c29) hno
    · have c29 : ¬ ((nI 0 ≤ a ∧ a ≤ nI 399) ∧ (a ≤ e ∧ e ≤ nI 399)) := (mv_b_0 _).mp c29
      refine mv_sipush (v := (-1002)) dX11_watch_32 (by decide) ?_
      exact mv_iret dX11_watch_35 rfl rfl ⟨rfl, rfl⟩
set_option maxRecDepth 100000 in
theorem k_X11_watch_G {ev : mv_E} {h : mv_H} {s : q_S} {wa : Nat → Nat} {cf : Nat → Int32} {ct : Nat → Int32} {rc : Nat} {k : Nat} {p : Nat} {a : Int32} {e : Int32} (H0 : h[0]? = some (.inr (11, [.ref 1, .ref 3, .ref 7, .ref 11, .ref 21, .ref 22, .ref 32, .ref 34, .ref 42, .ref 45, .ref 48]))) (HS : h[22]? = some (.inr (7, [.ref 1, .ref 23, .ref 24, .ref 25, .ref 26, .int (nI s.1), .ref 27, .ref 28, .ref 29, .ref 30, .int (nI rc), .ref 31]))) (S27 : h[27]? = some (.inl (0, 8, .inl (fun j => nI (wa j))))) (S28 : h[28]? = some (.inl (0, 8, .inl cf))) (S29 : h[29]? = some (.inl (0, 8, .inl ct))) (hk : k < 8) (hp : p < 64) (hwi : q_WI wa cf ct) (hab : (a = -1 ∨ (nI 0 ≤ a ∧ a ≤ nI 399) ∧ (a ≤ e ∧ e ≤ nI 399))) : ∃ h2, mv_K ev mX11_watch [.ref 0, .int (nI k), .int (nI p), .int a, .int e] h (some (.int (nI (q_cd cf ct k)))) h2 ∧ mv_fra [27, 28, 29] h h2 ∧ h2[27]? = some (.inl (0, 8, .inl (fun j => nI ((t_up wa k p) j)))) ∧ h2[28]? = some (.inl (0, 8, .inl (upd cf k a))) ∧ h2[29]? = some (.inl (0, 8, .inl (upd ct k e))) := by
  suffices g0 : mv_g ev mX11_watch 0 (mv_ent [.ref 0, .int (nI k), .int (nI p), .int a, .int e] (mv_ml mX11_watch)) [] h (fun r g => r = some (.int (nI (q_cd cf ct k))) ∧ mv_fra [27, 28, 29] h g ∧ g[27]? = some (.inl (0, 8, .inl (fun j => nI ((t_up wa k p) j)))) ∧ g[28]? = some (.inl (0, 8, .inl (upd cf k a))) ∧ g[29]? = some (.inl (0, 8, .inl (upd ct k e)))) from (by obtain ⟨r0, h0, K0, q0, Q0⟩ := mv_Kex g0; subst q0; exact ⟨h0, K0, Q0⟩)
  show mv_g ev mX11_watch 0 [.ref 0, .int (nI k), .int (nI p), .int a, .int e] [] h _
  have fr : mv_fra [27, 28, 29] h h := mv_fra.rf
  refine mv_iload_n dX11_watch_0 rfl ?_
  refine mv_cS1 dX11_watch_1 lk_X11_watch_186 (Nat.le_of_ble_eq_true rfl) (Nat.le_of_ble_eq_true rfl) (k_X11_isKind (ev := ev)) ?_
  refine mv_if_eq (tgt := 14) dX11_watch_4 (by decide) (fun z => absurd z ((fun z => (mv_b_0 _).mp z (mv_in_i (by omega) (by omega) (by omega))))) (fun c4 => ?_)
  refine mv_iload_n dX11_watch_7 rfl ?_
  refine mv_cS1 dX11_watch_8 lk_X11_watch_120 (Nat.le_of_ble_eq_true rfl) (Nat.le_of_ble_eq_true rfl) (k_X11_isPlace (ev := ev)) ?_
  refine mv_if_ne (tgt := 18) dX11_watch_11 (by decide) (fun c11 => ?_) (fun z => absurd z ((fun z => (mv_b_0 _).mp z (mv_in_i (by omega) (by omega) (by omega)))))
  refine mv_iload_n dX11_watch_18 rfl ?_
  refine mv_iconst (v := (-1)) dX11_watch_19 (by decide) ?_
  refine mv_icmp_eq (tgt := 36) dX11_watch_20 (by decide) (fun c20 => ?_) (fun c20 => ?_)
  · skip
    refine mv_aload_n dX11_watch_36 rfl ?_
    refine mv_getf (ci := 11) (f := 5) dX11_watch_37 H0 rfl (by decide) wd_381 rfl ?_
    refine mv_iload_n dX11_watch_40 rfl ?_
    refine mv_iload_n dX11_watch_41 rfl ?_
    refine mv_iload_n dX11_watch_42 rfl ?_
    refine mv_iload dX11_watch_43 rfl ?_
    obtain ⟨h1, K2, f3, y4, y5, y6⟩ := (k_X7_watchKind (ev := ev) (s := s) (wa := wa) (cf := cf) (ct := ct) (rc := rc) (k := k) (p := p) (a := a) (c := e) HS S27 S28 S29 hk hwi)
    refine mv_cV4 (ci := 7) dX11_watch_45 lk_X11_watch_193 HS rfl (Nat.le_of_ble_eq_true rfl) (Nat.le_of_ble_eq_true rfl) K2 ?_
    have H0 := f3.get (by decide) H0
    have HS := f3.get (by decide) HS
    have S27 : h1[27]? = some (.inl (0, 8, .inl (fun j => nI ((t_up wa k p) j)))) := y4
    have S28 : h1[28]? = some (.inl (0, 8, .inl (upd cf k a))) := y5
    have S29 : h1[29]? = some (.inl (0, 8, .inl (upd ct k e))) := y6
    have fr := fr.trans f3 (by decide)
    exact mv_iret dX11_watch_48 rfl rfl ⟨rfl, fr, S27, S28, S29⟩
  · skip
    refine mv_iload_n dX11_watch_23 rfl ?_
    refine mv_iload dX11_watch_24 rfl ?_
    refine mv_cS2 dX11_watch_26 lk_X11_watch_189 (Nat.le_of_ble_eq_true rfl) (Nat.le_of_ble_eq_true rfl) (k_X11_areDays (ev := ev)) ?_
    refine mv_if_ne (tgt := 36) dX11_watch_29 (by decide) (fun c29 => ?_) (fun z => absurd z ((fun z => (mv_b_0 _).mp z (hab.resolve_left c20))))
    refine mv_aload_n dX11_watch_36 rfl ?_
    refine mv_getf (ci := 11) (f := 5) dX11_watch_37 H0 rfl (by decide) wd_381 rfl ?_
    refine mv_iload_n dX11_watch_40 rfl ?_
    refine mv_iload_n dX11_watch_41 rfl ?_
    refine mv_iload_n dX11_watch_42 rfl ?_
    refine mv_iload dX11_watch_43 rfl ?_
    obtain ⟨h7, K8, f9, y10, y11, y12⟩ := (k_X7_watchKind (ev := ev) (s := s) (wa := wa) (cf := cf) (ct := ct) (rc := rc) (k := k) (p := p) (a := a) (c := e) HS S27 S28 S29 hk hwi)
    refine mv_cV4 (ci := 7) dX11_watch_45 lk_X11_watch_193 HS rfl (Nat.le_of_ble_eq_true rfl) (Nat.le_of_ble_eq_true rfl) K8 ?_
    have H0 := f9.get (by decide) H0
    have HS := f9.get (by decide) HS
    have S27 : h7[27]? = some (.inl (0, 8, .inl (fun j => nI ((t_up wa k p) j)))) := y10
    have S28 : h7[28]? = some (.inl (0, 8, .inl (upd cf k a))) := y11
    have S29 : h7[29]? = some (.inl (0, 8, .inl (upd ct k e))) := y12
    have fr := fr.trans f9 (by decide)
    exact mv_iret dX11_watch_48 rfl rfl ⟨rfl, fr, S27, S28, S29⟩
set_option maxRecDepth 100000 in
theorem k_X11_rain_R1 {ev : mv_E} {h : mv_H} {d : Int32} {y : Int32}  (hno : ¬ ((nI 0 ≤ d ∧ d ≤ nI 399))) : mv_K ev mX11_rain [.ref 0, .int d, .int y] h (some (.int (-1002))) h := by
  refine mv_Kof ?_
  show mv_g ev mX11_rain 0 [.ref 0, .int d, .int y] [] h _
  refine mv_iload_n dX11_rain_0 rfl ?_
  refine mv_cS1 dX11_rain_1 lk_X11_rain_136 (Nat.le_of_ble_eq_true rfl) (Nat.le_of_ble_eq_true rfl) (k_X11_isDay (ev := ev)) ?_
  refine mv_if_eq (tgt := 19) dX11_rain_4 (by decide) (fun c4 => ?_) (fun c4 => ?_)
  · have c4 : ¬ (nI 0 ≤ d ∧ d ≤ nI 399) := (mv_b_0 _).mp c4
    refine mv_sipush (v := (-1002)) dX11_rain_19 (by decide) ?_
    exact mv_iret dX11_rain_22 rfl rfl ⟨rfl, rfl⟩
  · have c4 : nI 0 ≤ d ∧ d ≤ nI 399 := Classical.byContradiction (fun z => c4 ((mv_b_0 _).mpr z))
    exact absurd (by assumption) hno
set_option maxRecDepth 100000 in
theorem k_X11_rain_G {ev : mv_E} {h : mv_H} {s : q_S} {rr : Nat → Nat} {d : Nat} {v : Nat} (H0 : h[0]? = some (.inr (11, [.ref 1, .ref 3, .ref 7, .ref 11, .ref 21, .ref 22, .ref 32, .ref 34, .ref 42, .ref 45, .ref 48]))) (HS : h[22]? = some (.inr (7, [.ref 1, .ref 23, .ref 24, .ref 25, .ref 26, .int (nI s.1), .ref 27, .ref 28, .ref 29, .ref 30, .int (nI (q_cr rr 400)), .ref 31]))) (S30 : h[30]? = some (.inl (2, 400, .inl (fun j => nI (rr j))))) (hr : ∀ d, rr d ≤ 1) (hd : d ≤ 399) (hv : v ≤ 1) : ∃ h2, mv_K ev mX11_rain [.ref 0, .int (nI d), .int (nI v)] h (some (.int (nI (rr d)))) h2 ∧ mv_fra [22, 30] h h2 ∧ h2[22]? = some (.inr (7, [.ref 1, .ref 23, .ref 24, .ref 25, .ref 26, .int (nI s.1), .ref 27, .ref 28, .ref 29, .ref 30, .int (nI (q_cr (t_up rr d v) 400)), .ref 31])) ∧ h2[30]? = some (.inl (2, 400, .inl (fun j => nI ((t_up rr d v) j)))) := by
  suffices g0 : mv_g ev mX11_rain 0 (mv_ent [.ref 0, .int (nI d), .int (nI v)] (mv_ml mX11_rain)) [] h (fun r g => r = some (.int (nI (rr d))) ∧ mv_fra [22, 30] h g ∧ g[22]? = some (.inr (7, [.ref 1, .ref 23, .ref 24, .ref 25, .ref 26, .int (nI s.1), .ref 27, .ref 28, .ref 29, .ref 30, .int (nI (q_cr (t_up rr d v) 400)), .ref 31])) ∧ g[30]? = some (.inl (2, 400, .inl (fun j => nI ((t_up rr d v) j))))) from (by obtain ⟨r0, h0, K0, q0, Q0⟩ := mv_Kex g0; subst q0; exact ⟨h0, K0, Q0⟩)
  show mv_g ev mX11_rain 0 [.ref 0, .int (nI d), .int (nI v)] [] h _
  have fr : mv_fra [22, 30] h h := mv_fra.rf
  refine mv_iload_n dX11_rain_0 rfl ?_
  refine mv_cS1 dX11_rain_1 lk_X11_rain_136 (Nat.le_of_ble_eq_true rfl) (Nat.le_of_ble_eq_true rfl) (k_X11_isDay (ev := ev)) ?_
  refine mv_if_eq (tgt := 19) dX11_rain_4 (by decide) (fun z => absurd z ((fun z => (mv_b_0 _).mp z (mv_in_i (by omega) (by omega) (by omega))))) (fun c4 => ?_)
  refine mv_aload_n dX11_rain_7 rfl ?_
  refine mv_getf (ci := 11) (f := 5) dX11_rain_8 H0 rfl (by decide) wd_381 rfl ?_
  refine mv_iload_n dX11_rain_11 rfl ?_
  refine mv_iload_n dX11_rain_12 rfl ?_
  obtain ⟨h1, K2, f3, y4, y5⟩ := (k_X7_changeRain (ev := ev) (s := s) (rr := rr) (d := d) (v := v) HS S30 (by omega) (by omega) (by omega))
  refine mv_cV2 (ci := 7) dX11_rain_13 lk_X11_rain_197 HS rfl (Nat.le_of_ble_eq_true rfl) (Nat.le_of_ble_eq_true rfl) K2 ?_
  have H0 := f3.get (by decide) H0
  have HS : h1[22]? = some (.inr (7, [.ref 1, .ref 23, .ref 24, .ref 25, .ref 26, .int (nI s.1), .ref 27, .ref 28, .ref 29, .ref 30, .int (nI (q_cr (t_up rr d v) 400)), .ref 31])) := y4
  have S30 : h1[30]? = some (.inl (2, 400, .inl (fun j => nI ((t_up rr d v) j)))) := y5
  have fr := fr.trans f3 (by decide)
  refine mv_goto (tgt := 22) dX11_rain_16 (by decide) ?_
  exact mv_iret dX11_rain_22 rfl rfl ⟨rfl, fr, HS, S30⟩
set_option maxRecDepth 100000 in
theorem k_X11_sign_R1 {ev : mv_E} {h : mv_H} {k : Int32} {d : Int32} {p : Int32} {w : Int32}  (hno : ¬ ((nI 0 ≤ k ∧ k ≤ nI 7) ∧ (nI 0 ≤ p ∧ p ≤ nI 63))) : mv_K ev mX11_sign [.ref 0, .int k, .int d, .int p, .int w] h (some (.int (-1001))) h := by
  refine mv_Kof ?_
  show mv_g ev mX11_sign 0 [.ref 0, .int k, .int d, .int p, .int w] [] h _
  refine mv_iload_n dX11_sign_0 rfl ?_
  refine mv_cS1 dX11_sign_1 lk_X11_sign_186 (Nat.le_of_ble_eq_true rfl) (Nat.le_of_ble_eq_true rfl) (k_X11_isKind (ev := ev)) ?_
  refine mv_if_eq (tgt := 14) dX11_sign_4 (by decide) (fun c4 => ?_) (fun c4 => ?_)
  · have c4 : ¬ (nI 0 ≤ k ∧ k ≤ nI 7) := (mv_b_0 _).mp c4
    refine mv_sipush (v := (-1001)) dX11_sign_14 (by decide) ?_
    exact mv_iret dX11_sign_17 rfl rfl ⟨rfl, rfl⟩
  · have c4 : nI 0 ≤ k ∧ k ≤ nI 7 := Classical.byContradiction (fun z => c4 ((mv_b_0 _).mpr z))
    refine mv_iload_n dX11_sign_7 rfl ?_
    refine mv_cS1 dX11_sign_8 lk_X11_sign_120 (Nat.le_of_ble_eq_true rfl) (Nat.le_of_ble_eq_true rfl) (k_X11_isPlace (ev := ev)) ?_
    refine mv_if_ne (tgt := 18) dX11_sign_11 (by decide) (fun c11 => ?_) (fun c11 => ?_)
    · have c11 : nI 0 ≤ p ∧ p ≤ nI 63 := Classical.byContradiction (fun z => c11 ((mv_b_0 _).mpr z))
      exact absurd (by refine ⟨?_, ?_⟩ <;> assumption) hno
    · have c11 : ¬ (nI 0 ≤ p ∧ p ≤ nI 63) := (mv_b_0 _).mp c11
      refine mv_sipush (v := (-1001)) dX11_sign_14 (by decide) ?_
      exact mv_iret dX11_sign_17 rfl rfl ⟨rfl, rfl⟩
set_option maxRecDepth 100000 in
theorem k_X11_sign_R2 {ev : mv_E} {h : mv_H} {k : Nat} {p : Nat} {d : Int32} {w : Int32}  (hk : k < 8) (hp : p < 64) (hno : ¬ ((nI 0 ≤ d ∧ d ≤ nI 399) ∧ (d ≤ w ∧ w ≤ nI 399))) : mv_K ev mX11_sign [.ref 0, .int (nI k), .int d, .int (nI p), .int w] h (some (.int (-1002))) h := by
  refine mv_Kof ?_
  show mv_g ev mX11_sign 0 [.ref 0, .int (nI k), .int d, .int (nI p), .int w] [] h _
  refine mv_iload_n dX11_sign_0 rfl ?_
  refine mv_cS1 dX11_sign_1 lk_X11_sign_186 (Nat.le_of_ble_eq_true rfl) (Nat.le_of_ble_eq_true rfl) (k_X11_isKind (ev := ev)) ?_
  refine mv_if_eq (tgt := 14) dX11_sign_4 (by decide) (fun z => absurd z ((fun z => (mv_b_0 _).mp z (mv_in_i (by omega) (by omega) (by omega))))) (fun c4 => ?_)
  refine mv_iload_n dX11_sign_7 rfl ?_
  refine mv_cS1 dX11_sign_8 lk_X11_sign_120 (Nat.le_of_ble_eq_true rfl) (Nat.le_of_ble_eq_true rfl) (k_X11_isPlace (ev := ev)) ?_
  refine mv_if_ne (tgt := 18) dX11_sign_11 (by decide) (fun c11 => ?_) (fun z => absurd z ((fun z => (mv_b_0 _).mp z (mv_in_i (by omega) (by omega) (by omega)))))
  refine mv_iload_n dX11_sign_18 rfl ?_
  refine mv_iload dX11_sign_19 rfl ?_
  refine mv_cS2 dX11_sign_21 lk_X11_sign_189 (Nat.le_of_ble_eq_true rfl) (Nat.le_of_ble_eq_true rfl) (k_X11_areDays (ev := ev)) ?_
  refine mv_if_ne (tgt := 31) dX11_sign_24 (by decide) (fun c24 => ?_) (fun c24 => ?_)
  · have c24 : (nI 0 ≤ d ∧ d ≤ nI 399) ∧ (d ≤ w ∧ w ≤ nI 399) := Classical.byContradiction (fun z => c24 ((mv_b_0 _).mpr z))
    exact absurd c24 hno
  · have c24 : ¬ ((nI 0 ≤ d ∧ d ≤ nI 399) ∧ (d ≤ w ∧ w ≤ nI 399)) := (mv_b_0 _).mp c24
    refine mv_sipush (v := (-1002)) dX11_sign_27 (by decide) ?_
    exact mv_iret dX11_sign_30 rfl rfl ⟨rfl, rfl⟩
set_option maxRecDepth 100000 in
theorem k_X11_sign_R3 {ev : mv_E} {h : mv_H} {s : q_S} {rc : Nat} {k : Nat} {d : Nat} {p : Nat} {w : Nat} (H0 : h[0]? = some (.inr (11, [.ref 1, .ref 3, .ref 7, .ref 11, .ref 21, .ref 22, .ref 32, .ref 34, .ref 42, .ref 45, .ref 48]))) (HS : h[22]? = some (.inr (7, [.ref 1, .ref 23, .ref 24, .ref 25, .ref 26, .int (nI s.1), .ref 27, .ref 28, .ref 29, .ref 30, .int (nI rc), .ref 31]))) (hk : k < 8) (hp : p < 64) (hdw : d ≤ w) (hw3 : w ≤ 399) (hn : s.1 ≤ 100) (hno : ¬ (s.1 < 100)) : mv_K ev mX11_sign [.ref 0, .int (nI k), .int (nI d), .int (nI p), .int (nI w)] h (some (.int (-1004))) h := by
  refine mv_Kof ?_
  show mv_g ev mX11_sign 0 [.ref 0, .int (nI k), .int (nI d), .int (nI p), .int (nI w)] [] h _
  refine mv_iload_n dX11_sign_0 rfl ?_
  refine mv_cS1 dX11_sign_1 lk_X11_sign_186 (Nat.le_of_ble_eq_true rfl) (Nat.le_of_ble_eq_true rfl) (k_X11_isKind (ev := ev)) ?_
  refine mv_if_eq (tgt := 14) dX11_sign_4 (by decide) (fun z => absurd z ((fun z => (mv_b_0 _).mp z (mv_in_i (by omega) (by omega) (by omega))))) (fun c4 => ?_)
  refine mv_iload_n dX11_sign_7 rfl ?_
  refine mv_cS1 dX11_sign_8 lk_X11_sign_120 (Nat.le_of_ble_eq_true rfl) (Nat.le_of_ble_eq_true rfl) (k_X11_isPlace (ev := ev)) ?_
  refine mv_if_ne (tgt := 18) dX11_sign_11 (by decide) (fun c11 => ?_) (fun z => absurd z ((fun z => (mv_b_0 _).mp z (mv_in_i (by omega) (by omega) (by omega)))))
  refine mv_iload_n dX11_sign_18 rfl ?_
  refine mv_iload dX11_sign_19 rfl ?_
  refine mv_cS2 dX11_sign_21 lk_X11_sign_189 (Nat.le_of_ble_eq_true rfl) (Nat.le_of_ble_eq_true rfl) (k_X11_areDays (ev := ev)) ?_
  refine mv_if_ne (tgt := 31) dX11_sign_24 (by decide) (fun c24 => ?_) (fun z => absurd z ((fun z => (mv_b_0 _).mp z ⟨mv_in_i (Nat.zero_le _) (by omega) (by decide), (nI_leI (by omega) (by omega)).mpr (by omega), (nI_leI (by omega) (by decide)).mpr (by omega)⟩)))
  refine mv_aload_n dX11_sign_31 rfl ?_
  refine mv_getf (ci := 11) (f := 5) dX11_sign_32 H0 rfl (by decide) wd_381 rfl ?_
  refine mv_cV0 (ci := 7) dX11_sign_35 lk_X11_sign_201 HS rfl (Nat.le_of_ble_eq_true rfl) (Nat.le_of_ble_eq_true rfl) (k_X7_isFull (ev := ev) HS (by omega)) ?_
  refine mv_if_eq (tgt := 47) dX11_sign_38 (by decide) (fun c38 => ?_) (fun c38 => ?_)
  · have c38 : ¬ (100 ≤ s.1) := (mv_b_0 _).mp c38
    exact absurd (by omega) hno
  · have c38 : 100 ≤ s.1 := Classical.byContradiction (fun z => c38 ((mv_b_0 _).mpr z))
    refine mv_sipush (v := (-1004)) dX11_sign_41 (by decide) ?_
    refine mv_goto (tgt := 59) dX11_sign_44 (by decide) ?_
    exact mv_iret dX11_sign_59 rfl rfl ⟨rfl, rfl⟩
set_option maxRecDepth 100000 in
theorem k_X11_sign_G {ev : mv_E} {h : mv_H} {s : q_S} {rc : Nat} {k : Nat} {d : Nat} {p : Nat} {w : Nat} (H0 : h[0]? = some (.inr (11, [.ref 1, .ref 3, .ref 7, .ref 11, .ref 21, .ref 22, .ref 32, .ref 34, .ref 42, .ref 45, .ref 48]))) (HS : h[22]? = some (.inr (7, [.ref 1, .ref 23, .ref 24, .ref 25, .ref 26, .int (nI s.1), .ref 27, .ref 28, .ref 29, .ref 30, .int (nI rc), .ref 31]))) (S23 : h[23]? = some (.inl (0, 100, .inl (fun j => nI (s.2.1 j))))) (S24 : h[24]? = some (.inl (0, 100, .inl (fun j => nI (s.2.2.1 j))))) (S25 : h[25]? = some (.inl (0, 100, .inl (fun j => nI (s.2.2.2.1 j))))) (S26 : h[26]? = some (.inl (0, 100, .inl (fun j => nI (s.2.2.2.2 j))))) (hk : k < 8) (hp : p < 64) (hdw : d ≤ w) (hw3 : w ≤ 399) (hn : s.1 < 100) : ∃ h2, mv_K ev mX11_sign [.ref 0, .int (nI k), .int (nI d), .int (nI p), .int (nI w)] h (some (.int (nI s.1))) h2 ∧ mv_fra [22, 23, 24, 25, 26] h h2 ∧ h2[22]? = some (.inr (7, [.ref 1, .ref 23, .ref 24, .ref 25, .ref 26, .int (nI (q_sw s k d p w).1), .ref 27, .ref 28, .ref 29, .ref 30, .int (nI rc), .ref 31])) ∧ h2[23]? = some (.inl (0, 100, .inl (fun j => nI ((q_sw s k d p w).2.1 j)))) ∧ h2[24]? = some (.inl (0, 100, .inl (fun j => nI ((q_sw s k d p w).2.2.1 j)))) ∧ h2[25]? = some (.inl (0, 100, .inl (fun j => nI ((q_sw s k d p w).2.2.2.1 j)))) ∧ h2[26]? = some (.inl (0, 100, .inl (fun j => nI ((q_sw s k d p w).2.2.2.2 j)))) := by
  suffices g0 : mv_g ev mX11_sign 0 (mv_ent [.ref 0, .int (nI k), .int (nI d), .int (nI p), .int (nI w)] (mv_ml mX11_sign)) [] h (fun r g => r = some (.int (nI s.1)) ∧ mv_fra [22, 23, 24, 25, 26] h g ∧ g[22]? = some (.inr (7, [.ref 1, .ref 23, .ref 24, .ref 25, .ref 26, .int (nI (q_sw s k d p w).1), .ref 27, .ref 28, .ref 29, .ref 30, .int (nI rc), .ref 31])) ∧ g[23]? = some (.inl (0, 100, .inl (fun j => nI ((q_sw s k d p w).2.1 j)))) ∧ g[24]? = some (.inl (0, 100, .inl (fun j => nI ((q_sw s k d p w).2.2.1 j)))) ∧ g[25]? = some (.inl (0, 100, .inl (fun j => nI ((q_sw s k d p w).2.2.2.1 j)))) ∧ g[26]? = some (.inl (0, 100, .inl (fun j => nI ((q_sw s k d p w).2.2.2.2 j))))) from (by obtain ⟨r0, h0, K0, q0, Q0⟩ := mv_Kex g0; subst q0; exact ⟨h0, K0, Q0⟩)
  show mv_g ev mX11_sign 0 [.ref 0, .int (nI k), .int (nI d), .int (nI p), .int (nI w)] [] h _
  have fr : mv_fra [22, 23, 24, 25, 26] h h := mv_fra.rf
  refine mv_iload_n dX11_sign_0 rfl ?_
  refine mv_cS1 dX11_sign_1 lk_X11_sign_186 (Nat.le_of_ble_eq_true rfl) (Nat.le_of_ble_eq_true rfl) (k_X11_isKind (ev := ev)) ?_
  refine mv_if_eq (tgt := 14) dX11_sign_4 (by decide) (fun z => absurd z ((fun z => (mv_b_0 _).mp z (mv_in_i (by omega) (by omega) (by omega))))) (fun c4 => ?_)
  refine mv_iload_n dX11_sign_7 rfl ?_
  refine mv_cS1 dX11_sign_8 lk_X11_sign_120 (Nat.le_of_ble_eq_true rfl) (Nat.le_of_ble_eq_true rfl) (k_X11_isPlace (ev := ev)) ?_
  refine mv_if_ne (tgt := 18) dX11_sign_11 (by decide) (fun c11 => ?_) (fun z => absurd z ((fun z => (mv_b_0 _).mp z (mv_in_i (by omega) (by omega) (by omega)))))
  refine mv_iload_n dX11_sign_18 rfl ?_
  refine mv_iload dX11_sign_19 rfl ?_
  refine mv_cS2 dX11_sign_21 lk_X11_sign_189 (Nat.le_of_ble_eq_true rfl) (Nat.le_of_ble_eq_true rfl) (k_X11_areDays (ev := ev)) ?_
  refine mv_if_ne (tgt := 31) dX11_sign_24 (by decide) (fun c24 => ?_) (fun z => absurd z ((fun z => (mv_b_0 _).mp z ⟨mv_in_i (Nat.zero_le _) (by omega) (by decide), (nI_leI (by omega) (by omega)).mpr (by omega), (nI_leI (by omega) (by decide)).mpr (by omega)⟩)))
  refine mv_aload_n dX11_sign_31 rfl ?_
  refine mv_getf (ci := 11) (f := 5) dX11_sign_32 H0 rfl (by decide) wd_381 rfl ?_
  refine mv_cV0 (ci := 7) dX11_sign_35 lk_X11_sign_201 HS rfl (Nat.le_of_ble_eq_true rfl) (Nat.le_of_ble_eq_true rfl) (k_X7_isFull (ev := ev) HS (by omega)) ?_
  refine mv_if_eq (tgt := 47) dX11_sign_38 (by decide) (fun c38 => ?_) (fun z => absurd (((mv_b_0 _).mpr (by omega))) z)
  refine mv_aload_n dX11_sign_47 rfl ?_
  refine mv_getf (ci := 11) (f := 5) dX11_sign_48 H0 rfl (by decide) wd_381 rfl ?_
  refine mv_iload_n dX11_sign_51 rfl ?_
  refine mv_iload_n dX11_sign_52 rfl ?_
  refine mv_iload_n dX11_sign_53 rfl ?_
  refine mv_iload dX11_sign_54 rfl ?_
  obtain ⟨h1, K2, f3, y4, y5, y6, y7, y8⟩ := (k_X7_write (ev := ev) (s := s) (rc := rc) (k := k) (d := d) (p := p) (w := w) HS S23 S24 S25 S26 hn)
  refine mv_cV4 (ci := 7) dX11_sign_56 lk_X11_sign_202 HS rfl (Nat.le_of_ble_eq_true rfl) (Nat.le_of_ble_eq_true rfl) K2 ?_
  have H0 := f3.get (by decide) H0
  have HS : h1[22]? = some (.inr (7, [.ref 1, .ref 23, .ref 24, .ref 25, .ref 26, .int (nI (q_sw s k d p w).1), .ref 27, .ref 28, .ref 29, .ref 30, .int (nI rc), .ref 31])) := y4
  have S23 : h1[23]? = some (.inl (0, 100, .inl (fun j => nI ((q_sw s k d p w).2.1 j)))) := y5
  have S24 : h1[24]? = some (.inl (0, 100, .inl (fun j => nI ((q_sw s k d p w).2.2.1 j)))) := y6
  have S25 : h1[25]? = some (.inl (0, 100, .inl (fun j => nI ((q_sw s k d p w).2.2.2.1 j)))) := y7
  have S26 : h1[26]? = some (.inl (0, 100, .inl (fun j => nI ((q_sw s k d p w).2.2.2.2 j)))) := y8
  have fr := fr.trans f3 (by decide)
  exact mv_iret dX11_sign_59 rfl rfl ⟨rfl, fr, HS, S23, S24, S25, S26⟩
set_option maxRecDepth 100000 in
theorem k_X11_omen_R1 {ev : mv_E} {h : mv_H} {s : q_S} {rc : Nat} {k : Int32} {w : Int32} (H0 : h[0]? = some (.inr (11, [.ref 1, .ref 3, .ref 7, .ref 11, .ref 21, .ref 22, .ref 32, .ref 34, .ref 42, .ref 45, .ref 48]))) (HS : h[22]? = some (.inr (7, [.ref 1, .ref 23, .ref 24, .ref 25, .ref 26, .int (nI s.1), .ref 27, .ref 28, .ref 29, .ref 30, .int (nI rc), .ref 31]))) (hno : ¬ ((0 ≤ k ∧ k < nI s.1 ∧ k < nI 100))) : mv_K ev mX11_omen [.ref 0, .int k, .int w] h (some (.int (-1001))) h := by
  refine mv_Kof ?_
  show mv_g ev mX11_omen 0 [.ref 0, .int k, .int w] [] h _
  refine mv_aload_n dX11_omen_0 rfl ?_
  refine mv_getf (ci := 11) (f := 5) dX11_omen_1 H0 rfl (by decide) wd_381 rfl ?_
  refine mv_iload_n dX11_omen_4 rfl ?_
  refine mv_cV1 (ci := 7) dX11_omen_5 lk_X11_omen_204 HS rfl (Nat.le_of_ble_eq_true rfl) (Nat.le_of_ble_eq_true rfl) (k_X7_hasI (ev := ev) HS) ?_
  refine mv_if_ne (tgt := 15) dX11_omen_8 (by decide) (fun c8 => ?_) (fun c8 => ?_)
  · have c8 : 0 ≤ k ∧ k < nI s.1 ∧ k < nI 100 := Classical.byContradiction (fun z => c8 ((mv_b_0 _).mpr z))
    exact absurd (by assumption) hno
  · have c8 : ¬ (0 ≤ k ∧ k < nI s.1 ∧ k < nI 100) := (mv_b_0 _).mp c8
    refine mv_sipush (v := (-1001)) dX11_omen_11 (by decide) ?_
    exact mv_iret dX11_omen_14 rfl rfl ⟨rfl, rfl⟩
set_option maxRecDepth 100000 in
theorem k_X11_omen_G {ev : mv_E} {h : mv_H} {s : q_S} {wa : Nat → Nat} {cf : Nat → Int32} {ct : Nat → Int32} {rr : Nat → Nat} {rc : Nat} {lw : Nat → Int32} {ln : Nat → Nat} {k : Nat} {w : Int32} (H0 : h[0]? = some (.inr (11, [.ref 1, .ref 3, .ref 7, .ref 11, .ref 21, .ref 22, .ref 32, .ref 34, .ref 42, .ref 45, .ref 48]))) (HL : h[1]? = some (.inr (5, [.ref 2]))) (HV : h[2]? = some (.inl (0, 8, .inl lw))) (HS : h[22]? = some (.inr (7, [.ref 1, .ref 23, .ref 24, .ref 25, .ref 26, .int (nI s.1), .ref 27, .ref 28, .ref 29, .ref 30, .int (nI rc), .ref 31]))) (S23 : h[23]? = some (.inl (0, 100, .inl (fun j => nI (s.2.1 j))))) (S24 : h[24]? = some (.inl (0, 100, .inl (fun j => nI (s.2.2.1 j))))) (S25 : h[25]? = some (.inl (0, 100, .inl (fun j => nI (s.2.2.2.1 j))))) (S26 : h[26]? = some (.inl (0, 100, .inl (fun j => nI (s.2.2.2.2 j))))) (S27 : h[27]? = some (.inl (0, 8, .inl (fun j => nI (wa j))))) (S28 : h[28]? = some (.inl (0, 8, .inl cf))) (S29 : h[29]? = some (.inl (0, 8, .inl ct))) (S30 : h[30]? = some (.inl (2, 400, .inl (fun j => nI (rr j))))) (hw : q_LW lw ln) (hsi : q_SI s) (hr : ∀ d, rr d ≤ 1) (hwi : q_WI wa cf ct) (hk : k < s.1) : mv_K ev mX11_omen [.ref 0, .int (nI k), .int w] h (some (.int (q_omA lw ln s wa cf ct rr k w))) h := by
  refine mv_Kof ?_
  show mv_g ev mX11_omen 0 [.ref 0, .int (nI k), .int w] [] h _
  have n0 := hsi.1
  refine mv_aload_n dX11_omen_0 rfl ?_
  refine mv_getf (ci := 11) (f := 5) dX11_omen_1 H0 rfl (by decide) wd_381 rfl ?_
  refine mv_iload_n dX11_omen_4 rfl ?_
  refine mv_cV1 (ci := 7) dX11_omen_5 lk_X11_omen_204 HS rfl (Nat.le_of_ble_eq_true rfl) (Nat.le_of_ble_eq_true rfl) (k_X7_has (ev := ev) HS hk n0) ?_
  refine mv_if_ne (tgt := 15) dX11_omen_8 (by decide) (fun c8 => ?_) (fun z => absurd z ((by decide)))
  refine mv_iload_n dX11_omen_15 rfl ?_
  by_cases z16_0 : w = nI 0
  · subst z16_0
    refine mv_tswIn (tgt := 56) dX11_omen_16 (by decide) (by decide) rfl (by decide) ?_
    refine mv_aload_n dX11_omen_56 rfl ?_
    refine mv_getf (ci := 11) (f := 5) dX11_omen_57 H0 rfl (by decide) wd_381 rfl ?_
    refine mv_iload_n dX11_omen_60 rfl ?_
    refine mv_cV1 (ci := 7) dX11_omen_61 lk_X11_omen_205 HS rfl (Nat.le_of_ble_eq_true rfl) (Nat.le_of_ble_eq_true rfl) (k_X7_kindOf (ev := ev) HS S23 (by omega) (by omega)) ?_
    have e9 : q_omA lw ln s wa cf ct rr k (nI 0) = nI (s.2.1 k) := (if_pos rfl)
    exact mv_iret dX11_omen_64 rfl rfl ⟨(by rw [e9]), rfl⟩
  · skip
    by_cases z16_1 : w = nI 1
    · subst z16_1
      refine mv_tswIn (tgt := 65) dX11_omen_16 (by decide) (by decide) rfl (by decide) ?_
      refine mv_aload_n dX11_omen_65 rfl ?_
      refine mv_getf (ci := 11) (f := 5) dX11_omen_66 H0 rfl (by decide) wd_381 rfl ?_
      refine mv_iload_n dX11_omen_69 rfl ?_
      refine mv_cV1 (ci := 7) dX11_omen_70 lk_X11_omen_208 HS rfl (Nat.le_of_ble_eq_true rfl) (Nat.le_of_ble_eq_true rfl) (k_X7_dayOf (ev := ev) HS S24 (by omega) (by omega)) ?_
      have e9 : q_omA lw ln s wa cf ct rr k (nI 1) = nI (s.2.2.1 k) := ((if_neg (show ¬ (nI 1) = nI 0 by decide)).trans (if_pos rfl))
      exact mv_iret dX11_omen_73 rfl rfl ⟨(by rw [e9]), rfl⟩
    · skip
      by_cases z16_2 : w = nI 2
      · subst z16_2
        refine mv_tswIn (tgt := 74) dX11_omen_16 (by decide) (by decide) rfl (by decide) ?_
        refine mv_aload_n dX11_omen_74 rfl ?_
        refine mv_getf (ci := 11) (f := 5) dX11_omen_75 H0 rfl (by decide) wd_381 rfl ?_
        refine mv_iload_n dX11_omen_78 rfl ?_
        refine mv_cV1 (ci := 7) dX11_omen_79 lk_X11_omen_209 HS rfl (Nat.le_of_ble_eq_true rfl) (Nat.le_of_ble_eq_true rfl) (k_X7_placeOf (ev := ev) HS S25 (by omega) (by omega)) ?_
        have e9 : q_omA lw ln s wa cf ct rr k (nI 2) = nI (s.2.2.2.1 k) := ((if_neg (show ¬ (nI 2) = nI 0 by decide)).trans ((if_neg (show ¬ (nI 2) = nI 1 by decide)).trans (if_pos rfl)))
        exact mv_iret dX11_omen_82 rfl rfl ⟨(by rw [e9]), rfl⟩
      · skip
        by_cases z16_3 : w = nI 3
        · subst z16_3
          refine mv_tswIn (tgt := 83) dX11_omen_16 (by decide) (by decide) rfl (by decide) ?_
          refine mv_aload_n dX11_omen_83 rfl ?_
          refine mv_getf (ci := 11) (f := 5) dX11_omen_84 H0 rfl (by decide) wd_381 rfl ?_
          refine mv_iload_n dX11_omen_87 rfl ?_
          refine mv_cV1 (ci := 7) dX11_omen_88 lk_X11_omen_210 HS rfl (Nat.le_of_ble_eq_true rfl) (Nat.le_of_ble_eq_true rfl) (k_X7_writtenOf (ev := ev) HS S26 (by omega) (by omega)) ?_
          have e9 : q_omA lw ln s wa cf ct rr k (nI 3) = nI (s.2.2.2.2 k) := ((if_neg (show ¬ (nI 3) = nI 0 by decide)).trans ((if_neg (show ¬ (nI 3) = nI 1 by decide)).trans ((if_neg (show ¬ (nI 3) = nI 2 by decide)).trans (if_pos rfl))))
          exact mv_iret dX11_omen_91 rfl rfl ⟨(by rw [e9]), rfl⟩
        · skip
          by_cases z16_4 : w = nI 4
          · subst z16_4
            refine mv_tswIn (tgt := 92) dX11_omen_16 (by decide) (by decide) rfl (by decide) ?_
            refine mv_aload_n dX11_omen_92 rfl ?_
            refine mv_getf (ci := 11) (f := 5) dX11_omen_93 H0 rfl (by decide) wd_381 rfl ?_
            refine mv_iload_n dX11_omen_96 rfl ?_
            refine mv_cV1 (ci := 7) dX11_omen_97 lk_X11_omen_213 HS rfl (Nat.le_of_ble_eq_true rfl) (Nat.le_of_ble_eq_true rfl) (k_X7_owedOf (ev := ev) HL HV HS S24 S30 hw hsi hr hk) ?_
            have e9 : q_omA lw ln s wa cf ct rr k (nI 4) = nI (q_ow lw ln rr (s.2.2.1 k)) := ((if_neg (show ¬ (nI 4) = nI 0 by decide)).trans ((if_neg (show ¬ (nI 4) = nI 1 by decide)).trans ((if_neg (show ¬ (nI 4) = nI 2 by decide)).trans ((if_neg (show ¬ (nI 4) = nI 3 by decide)).trans (if_pos rfl)))))
            exact mv_iret dX11_omen_100 rfl rfl ⟨(by rw [e9]), rfl⟩
          · skip
            by_cases z16_5 : w = nI 5
            · subst z16_5
              refine mv_tswIn (tgt := 101) dX11_omen_16 (by decide) (by decide) rfl (by decide) ?_
              refine mv_aload_n dX11_omen_101 rfl ?_
              refine mv_getf (ci := 11) (f := 5) dX11_omen_102 H0 rfl (by decide) wd_381 rfl ?_
              refine mv_iload_n dX11_omen_105 rfl ?_
              refine mv_cV1 (ci := 7) dX11_omen_106 lk_X11_omen_216 HS rfl (Nat.le_of_ble_eq_true rfl) (Nat.le_of_ble_eq_true rfl) (k_X7_isEven (ev := ev) HL HV HS S23 S24 S25 S26 S27 S28 S29 S30 hw hsi hr hwi hk) ?_
              refine mv_if_eq (tgt := 116) dX11_omen_109 (by decide) (fun c109 => ?_) (fun c109 => ?_)
              · have c109 : ¬ (q_ev lw ln s wa cf ct rr k) := (mv_q_0 _).mp c109
                refine mv_iconst (v := nI 0) dX11_omen_116 (by decide) ?_
                have e9 : q_omA lw ln s wa cf ct rr k (nI 5) = mv_q (q_ev lw ln s wa cf ct rr k) := ((if_neg (show ¬ (nI 5) = nI 0 by decide)).trans ((if_neg (show ¬ (nI 5) = nI 1 by decide)).trans ((if_neg (show ¬ (nI 5) = nI 2 by decide)).trans ((if_neg (show ¬ (nI 5) = nI 3 by decide)).trans ((if_neg (show ¬ (nI 5) = nI 4 by decide)).trans (if_pos rfl))))))
                have e8 := mv_q_f c109
                exact mv_iret dX11_omen_117 rfl rfl ⟨(by rw [e9, e8]; rfl), rfl⟩
              · have c109 : q_ev lw ln s wa cf ct rr k := Classical.byContradiction (fun z => c109 ((mv_q_0 _).mpr z))
                refine mv_iconst (v := nI 1) dX11_omen_112 (by decide) ?_
                refine mv_goto (tgt := 117) dX11_omen_113 (by decide) ?_
                have e9 : q_omA lw ln s wa cf ct rr k (nI 5) = mv_q (q_ev lw ln s wa cf ct rr k) := ((if_neg (show ¬ (nI 5) = nI 0 by decide)).trans ((if_neg (show ¬ (nI 5) = nI 1 by decide)).trans ((if_neg (show ¬ (nI 5) = nI 2 by decide)).trans ((if_neg (show ¬ (nI 5) = nI 3 by decide)).trans ((if_neg (show ¬ (nI 5) = nI 4 by decide)).trans (if_pos rfl))))))
                have e8 := mv_q_t c109
                exact mv_iret dX11_omen_117 rfl rfl ⟨(by rw [e9, e8]; rfl), rfl⟩
            · skip
              refine mv_tswOut (tgt := 118) dX11_omen_16 (by have t0 := mv_tn z16_0 (by decide); have t1 := mv_tn z16_1 (by decide); have t2 := mv_tn z16_2 (by decide); have t3 := mv_tn z16_3 (by decide); have t4 := mv_tn z16_4 (by decide); have t5 := mv_tn z16_5 (by decide); omega) (by decide) ?_
              refine mv_sipush (v := (-1002)) dX11_omen_118 (by decide) ?_
              have e9 : q_omA lw ln s wa cf ct rr k w = -1002 := ((if_neg (show ¬ w = nI 0 by assumption)).trans ((if_neg (show ¬ w = nI 1 by assumption)).trans ((if_neg (show ¬ w = nI 2 by assumption)).trans ((if_neg (show ¬ w = nI 3 by assumption)).trans ((if_neg (show ¬ w = nI 4 by assumption)).trans (if_neg (show ¬ w = nI 5 by assumption)))))))
              exact mv_iret dX11_omen_121 rfl rfl ⟨(by rw [e9]), rfl⟩
set_option maxRecDepth 100000 in
theorem k_X11_rate_R1 {ev : mv_E} {h : mv_H} {k : Int32} {w : Int32}  (hno : ¬ ((nI 0 ≤ k ∧ k ≤ nI 7))) : mv_K ev mX11_rate [.ref 0, .int k, .int w] h (some (.int (-1001))) h := by
  refine mv_Kof ?_
  show mv_g ev mX11_rate 0 [.ref 0, .int k, .int w] [] h _
  refine mv_iload_n dX11_rate_0 rfl ?_
  refine mv_cS1 dX11_rate_1 lk_X11_rate_186 (Nat.le_of_ble_eq_true rfl) (Nat.le_of_ble_eq_true rfl) (k_X11_isKind (ev := ev)) ?_
  refine mv_if_ne (tgt := 11) dX11_rate_4 (by decide) (fun c4 => ?_) (fun c4 => ?_)
  · have c4 : nI 0 ≤ k ∧ k ≤ nI 7 := Classical.byContradiction (fun z => c4 ((mv_b_0 _).mpr z))
    exact absurd (by assumption) hno
  · have c4 : ¬ (nI 0 ≤ k ∧ k ≤ nI 7) := (mv_b_0 _).mp c4
    refine mv_sipush (v := (-1001)) dX11_rate_7 (by decide) ?_
    exact mv_iret dX11_rate_10 rfl rfl ⟨rfl, rfl⟩
set_option maxRecDepth 100000 in
theorem k_X11_rate_R2 {ev : mv_E} {h : mv_H} {k : Nat} {w : Int32}  (hk : k < 8) (hno : ¬ ((nI 0 ≤ w ∧ w ≤ nI 2))) : mv_K ev mX11_rate [.ref 0, .int (nI k), .int w] h (some (.int (-1002))) h := by
  refine mv_Kof ?_
  show mv_g ev mX11_rate 0 [.ref 0, .int (nI k), .int w] [] h _
  refine mv_iload_n dX11_rate_0 rfl ?_
  refine mv_cS1 dX11_rate_1 lk_X11_rate_186 (Nat.le_of_ble_eq_true rfl) (Nat.le_of_ble_eq_true rfl) (k_X11_isKind (ev := ev)) ?_
  refine mv_if_ne (tgt := 11) dX11_rate_4 (by decide) (fun c4 => ?_) (fun z => absurd z ((fun z => (mv_b_0 _).mp z (mv_in_i (by omega) (by omega) (by omega)))))
  refine mv_iload_n dX11_rate_11 rfl ?_
  refine mv_iconst (v := nI 0) dX11_rate_12 (by decide) ?_
  refine mv_iconst (v := nI 2) dX11_rate_13 (by decide) ?_
  refine mv_cS3 dX11_rate_14 lk_X11_rate_96 (Nat.le_of_ble_eq_true rfl) (Nat.le_of_ble_eq_true rfl) (k_X11_within (ev := ev)) ?_
  refine mv_if_ne (tgt := 24) dX11_rate_17 (by decide) (fun c17 => ?_) (fun c17 => ?_)
  · have c17 : (nI 0) ≤ w ∧ w ≤ (nI 2) := Classical.byContradiction (fun z => c17 ((mv_b_0 _).mpr z))
    exact absurd (by assumption) hno
  · have c17 : ¬ ((nI 0) ≤ w ∧ w ≤ (nI 2)) := (mv_b_0 _).mp c17
    refine mv_sipush (v := (-1002)) dX11_rate_20 (by decide) ?_
    exact mv_iret dX11_rate_23 rfl rfl ⟨rfl, rfl⟩
set_option maxRecDepth 100000 in
theorem k_X11_rate_R3 {ev : mv_E} {h : mv_H} {s : q_S} {cf : Nat → Int32} {rc : Nat} {k : Nat} (H0 : h[0]? = some (.inr (11, [.ref 1, .ref 3, .ref 7, .ref 11, .ref 21, .ref 22, .ref 32, .ref 34, .ref 42, .ref 45, .ref 48]))) (HS : h[22]? = some (.inr (7, [.ref 1, .ref 23, .ref 24, .ref 25, .ref 26, .int (nI s.1), .ref 27, .ref 28, .ref 29, .ref 30, .int (nI rc), .ref 31]))) (S28 : h[28]? = some (.inl (0, 8, .inl cf))) (hk : k < 8) (hno : ¬ (cf k ≠ -1)) : mv_K ev mX11_rate [.ref 0, .int (nI k), .int (nI 0)] h (some (.int (-1003))) h := by
  refine mv_Kof ?_
  show mv_g ev mX11_rate 0 [.ref 0, .int (nI k), .int (nI 0)] [] h _
  refine mv_iload_n dX11_rate_0 rfl ?_
  refine mv_cS1 dX11_rate_1 lk_X11_rate_186 (Nat.le_of_ble_eq_true rfl) (Nat.le_of_ble_eq_true rfl) (k_X11_isKind (ev := ev)) ?_
  refine mv_if_ne (tgt := 11) dX11_rate_4 (by decide) (fun c4 => ?_) (fun z => absurd z ((fun z => (mv_b_0 _).mp z (mv_in_i (by omega) (by omega) (by omega)))))
  refine mv_iload_n dX11_rate_11 rfl ?_
  refine mv_iconst (v := nI 0) dX11_rate_12 (by decide) ?_
  refine mv_iconst (v := nI 2) dX11_rate_13 (by decide) ?_
  refine mv_cS3 dX11_rate_14 lk_X11_rate_96 (Nat.le_of_ble_eq_true rfl) (Nat.le_of_ble_eq_true rfl) (k_X11_within (ev := ev)) ?_
  refine mv_if_ne (tgt := 24) dX11_rate_17 (by decide) (fun c17 => ?_) (fun z => absurd z ((fun z => (mv_b_0 _).mp z (mv_in_i (by omega) (by omega) (by omega)))))
  refine mv_iload_n dX11_rate_24 rfl ?_
  refine mv_iconst (v := nI 2) dX11_rate_25 (by decide) ?_
  refine mv_icmp_ne (tgt := 38) dX11_rate_26 (by decide) (fun c26 => ?_) (fun z => absurd z ((by decide)))
  refine mv_iload_n dX11_rate_38 rfl ?_
  refine mv_if_ne (tgt := 57) dX11_rate_39 (by decide) (fun z => absurd ((by decide)) z) (fun c39 => ?_)
  refine mv_aload_n dX11_rate_42 rfl ?_
  refine mv_getf (ci := 11) (f := 5) dX11_rate_43 H0 rfl (by decide) wd_381 rfl ?_
  refine mv_iload_n dX11_rate_46 rfl ?_
  refine mv_cV1 (ci := 7) dX11_rate_47 lk_X11_rate_222 HS rfl (Nat.le_of_ble_eq_true rfl) (Nat.le_of_ble_eq_true rfl) (k_X7_isCounted (ev := ev) HS S28 (by omega)) ?_
  refine mv_if_ne (tgt := 57) dX11_rate_50 (by decide) (fun c50 => ?_) (fun c50 => ?_)
  · have c50 : cf k ≠ -1 := Classical.byContradiction (fun z => c50 ((mv_b_0 _).mpr z))
    exact absurd c50 hno
  · have c50 : ¬ (cf k ≠ -1) := (mv_b_0 _).mp c50
    refine mv_sipush (v := (-1003)) dX11_rate_53 (by decide) ?_
    exact mv_iret dX11_rate_56 rfl rfl ⟨rfl, rfl⟩
set_option maxRecDepth 100000 in
theorem k_X11_rate_G0 {ev : mv_E} {h : mv_H} {s : q_S} {wa : Nat → Nat} {cf : Nat → Int32} {ct : Nat → Int32} {rr : Nat → Nat} {rc : Nat} {ok : Nat → Nat} {lw : Nat → Int32} {ln : Nat → Nat} {k : Nat} (H0 : h[0]? = some (.inr (11, [.ref 1, .ref 3, .ref 7, .ref 11, .ref 21, .ref 22, .ref 32, .ref 34, .ref 42, .ref 45, .ref 48]))) (HL : h[1]? = some (.inr (5, [.ref 2]))) (HV : h[2]? = some (.inl (0, 8, .inl lw))) (HS : h[22]? = some (.inr (7, [.ref 1, .ref 23, .ref 24, .ref 25, .ref 26, .int (nI s.1), .ref 27, .ref 28, .ref 29, .ref 30, .int (nI rc), .ref 31]))) (S23 : h[23]? = some (.inl (0, 100, .inl (fun j => nI (s.2.1 j))))) (S24 : h[24]? = some (.inl (0, 100, .inl (fun j => nI (s.2.2.1 j))))) (S25 : h[25]? = some (.inl (0, 100, .inl (fun j => nI (s.2.2.2.1 j))))) (S26 : h[26]? = some (.inl (0, 100, .inl (fun j => nI (s.2.2.2.2 j))))) (S27 : h[27]? = some (.inl (0, 8, .inl (fun j => nI (wa j))))) (S28 : h[28]? = some (.inl (0, 8, .inl cf))) (S29 : h[29]? = some (.inl (0, 8, .inl ct))) (S30 : h[30]? = some (.inl (2, 400, .inl (fun j => nI (rr j))))) (S31 : h[31]? = some (.inl (0, 400, .inl (fun j => nI (ok j))))) (hw : q_LW lw ln) (hsi : q_SI s) (hr : ∀ d, rr d ≤ 1) (hwi : q_WI wa cf ct) (hok : ∀ d, ok d < 256) (hk : k < 8) (hc : cf k ≠ -1) : ∃ h2, mv_K ev mX11_rate [.ref 0, .int (nI k), .int (nI 0)] h (some (.int (nI (q_ra (q_oks lw ln s wa cf ct rr ok) cf ct k)))) h2 ∧ mv_fra [31] h h2 ∧ h2[31]? = some (.inl (0, 400, .inl (fun j => nI ((q_oks lw ln s wa cf ct rr ok) j)))) := by
  suffices g0 : mv_g ev mX11_rate 0 (mv_ent [.ref 0, .int (nI k), .int (nI 0)] (mv_ml mX11_rate)) [] h (fun r g => r = some (.int (nI (q_ra (q_oks lw ln s wa cf ct rr ok) cf ct k))) ∧ mv_fra [31] h g ∧ g[31]? = some (.inl (0, 400, .inl (fun j => nI ((q_oks lw ln s wa cf ct rr ok) j))))) from (by obtain ⟨r0, h0, K0, q0, Q0⟩ := mv_Kex g0; subst q0; exact ⟨h0, K0, Q0⟩)
  show mv_g ev mX11_rate 0 [.ref 0, .int (nI k), .int (nI 0)] [] h _
  have fr : mv_fra [31] h h := mv_fra.rf
  refine mv_iload_n dX11_rate_0 rfl ?_
  refine mv_cS1 dX11_rate_1 lk_X11_rate_186 (Nat.le_of_ble_eq_true rfl) (Nat.le_of_ble_eq_true rfl) (k_X11_isKind (ev := ev)) ?_
  refine mv_if_ne (tgt := 11) dX11_rate_4 (by decide) (fun c4 => ?_) (fun z => absurd z ((fun z => (mv_b_0 _).mp z (mv_in_i (by omega) (by omega) (by omega)))))
  refine mv_iload_n dX11_rate_11 rfl ?_
  refine mv_iconst (v := nI 0) dX11_rate_12 (by decide) ?_
  refine mv_iconst (v := nI 2) dX11_rate_13 (by decide) ?_
  refine mv_cS3 dX11_rate_14 lk_X11_rate_96 (Nat.le_of_ble_eq_true rfl) (Nat.le_of_ble_eq_true rfl) (k_X11_within (ev := ev)) ?_
  refine mv_if_ne (tgt := 24) dX11_rate_17 (by decide) (fun c17 => ?_) (fun z => absurd z ((fun z => (mv_b_0 _).mp z (mv_in_i (by omega) (by omega) (by omega)))))
  refine mv_iload_n dX11_rate_24 rfl ?_
  refine mv_iconst (v := nI 2) dX11_rate_25 (by decide) ?_
  refine mv_icmp_ne (tgt := 38) dX11_rate_26 (by decide) (fun c26 => ?_) (fun z => absurd z ((by decide)))
  refine mv_iload_n dX11_rate_38 rfl ?_
  refine mv_if_ne (tgt := 57) dX11_rate_39 (by decide) (fun z => absurd ((by decide)) z) (fun c39 => ?_)
  refine mv_aload_n dX11_rate_42 rfl ?_
  refine mv_getf (ci := 11) (f := 5) dX11_rate_43 H0 rfl (by decide) wd_381 rfl ?_
  refine mv_iload_n dX11_rate_46 rfl ?_
  refine mv_cV1 (ci := 7) dX11_rate_47 lk_X11_rate_222 HS rfl (Nat.le_of_ble_eq_true rfl) (Nat.le_of_ble_eq_true rfl) (k_X7_isCounted (ev := ev) HS S28 (by omega)) ?_
  refine mv_if_ne (tgt := 57) dX11_rate_50 (by decide) (fun c50 => ?_) (fun z => absurd z ((fun z => (mv_b_0 _).mp z hc)))
  refine mv_aload_n dX11_rate_57 rfl ?_
  refine mv_getf (ci := 11) (f := 5) dX11_rate_58 H0 rfl (by decide) wd_381 rfl ?_
  obtain ⟨h1, K2, f3, y4⟩ := (k_X7_findOddDays (ev := ev) (s := s) (wa := wa) (cf := cf) (ct := ct) (rr := rr) (rc := rc) (ok := ok) (lw := lw) (ln := ln) HL HV HS S23 S24 S25 S26 S27 S28 S29 S30 S31 hw hsi hr hwi)
  refine mv_cV0 (ci := 7) dX11_rate_61 lk_X11_rate_225 HS rfl (Nat.le_of_ble_eq_true rfl) (Nat.le_of_ble_eq_true rfl) K2 ?_
  have H0 := f3.get (by decide) H0
  have HL := f3.get (by decide) HL
  have HV := f3.get (by decide) HV
  have HS := f3.get (by decide) HS
  have S23 := f3.get (by decide) S23
  have S24 := f3.get (by decide) S24
  have S25 := f3.get (by decide) S25
  have S26 := f3.get (by decide) S26
  have S27 := f3.get (by decide) S27
  have S28 := f3.get (by decide) S28
  have S29 := f3.get (by decide) S29
  have S30 := f3.get (by decide) S30
  have S31 : h1[31]? = some (.inl (0, 400, .inl (fun j => nI ((q_oks lw ln s wa cf ct rr ok) j)))) := y4
  have fr := fr.trans f3 (by decide)
  refine mv_iload_n dX11_rate_64 rfl ?_
  refine mv_if_ne (tgt := 79) dX11_rate_65 (by decide) (fun z => absurd ((by decide)) z) (fun c65 => ?_)
  refine mv_aload_n dX11_rate_68 rfl ?_
  refine mv_getf (ci := 11) (f := 5) dX11_rate_69 H0 rfl (by decide) wd_381 rfl ?_
  refine mv_iload_n dX11_rate_72 rfl ?_
  refine mv_cV1 (ci := 7) dX11_rate_73 lk_X11_rate_228 HS rfl (Nat.le_of_ble_eq_true rfl) (Nat.le_of_ble_eq_true rfl) (k_X7_rateOf (ev := ev) HS S28 S29 S31 hk (q_oks_lt hsi hok) hwi) ?_
  refine mv_goto (tgt := 87) dX11_rate_76 (by decide) ?_
  exact mv_iret dX11_rate_87 rfl rfl ⟨rfl, fr, S31⟩
set_option maxRecDepth 100000 in
theorem k_X11_rate_G1 {ev : mv_E} {h : mv_H} {s : q_S} {wa : Nat → Nat} {cf : Nat → Int32} {ct : Nat → Int32} {rr : Nat → Nat} {rc : Nat} {ok : Nat → Nat} {lw : Nat → Int32} {ln : Nat → Nat} {k : Nat} (H0 : h[0]? = some (.inr (11, [.ref 1, .ref 3, .ref 7, .ref 11, .ref 21, .ref 22, .ref 32, .ref 34, .ref 42, .ref 45, .ref 48]))) (HL : h[1]? = some (.inr (5, [.ref 2]))) (HV : h[2]? = some (.inl (0, 8, .inl lw))) (HS : h[22]? = some (.inr (7, [.ref 1, .ref 23, .ref 24, .ref 25, .ref 26, .int (nI s.1), .ref 27, .ref 28, .ref 29, .ref 30, .int (nI rc), .ref 31]))) (S23 : h[23]? = some (.inl (0, 100, .inl (fun j => nI (s.2.1 j))))) (S24 : h[24]? = some (.inl (0, 100, .inl (fun j => nI (s.2.2.1 j))))) (S25 : h[25]? = some (.inl (0, 100, .inl (fun j => nI (s.2.2.2.1 j))))) (S26 : h[26]? = some (.inl (0, 100, .inl (fun j => nI (s.2.2.2.2 j))))) (S27 : h[27]? = some (.inl (0, 8, .inl (fun j => nI (wa j))))) (S28 : h[28]? = some (.inl (0, 8, .inl cf))) (S29 : h[29]? = some (.inl (0, 8, .inl ct))) (S30 : h[30]? = some (.inl (2, 400, .inl (fun j => nI (rr j))))) (S31 : h[31]? = some (.inl (0, 400, .inl (fun j => nI (ok j))))) (hw : q_LW lw ln) (hsi : q_SI s) (hr : ∀ d, rr d ≤ 1) (hwi : q_WI wa cf ct) (hok : ∀ d, ok d < 256) (hk : k < 8) : ∃ h2, mv_K ev mX11_rate [.ref 0, .int (nI k), .int (nI 1)] h (some (.int (nI (q_on (q_oks lw ln s wa cf ct rr ok) k 400)))) h2 ∧ mv_fra [31] h h2 ∧ h2[31]? = some (.inl (0, 400, .inl (fun j => nI ((q_oks lw ln s wa cf ct rr ok) j)))) := by
  suffices g0 : mv_g ev mX11_rate 0 (mv_ent [.ref 0, .int (nI k), .int (nI 1)] (mv_ml mX11_rate)) [] h (fun r g => r = some (.int (nI (q_on (q_oks lw ln s wa cf ct rr ok) k 400))) ∧ mv_fra [31] h g ∧ g[31]? = some (.inl (0, 400, .inl (fun j => nI ((q_oks lw ln s wa cf ct rr ok) j))))) from (by obtain ⟨r0, h0, K0, q0, Q0⟩ := mv_Kex g0; subst q0; exact ⟨h0, K0, Q0⟩)
  show mv_g ev mX11_rate 0 [.ref 0, .int (nI k), .int (nI 1)] [] h _
  have fr : mv_fra [31] h h := mv_fra.rf
  refine mv_iload_n dX11_rate_0 rfl ?_
  refine mv_cS1 dX11_rate_1 lk_X11_rate_186 (Nat.le_of_ble_eq_true rfl) (Nat.le_of_ble_eq_true rfl) (k_X11_isKind (ev := ev)) ?_
  refine mv_if_ne (tgt := 11) dX11_rate_4 (by decide) (fun c4 => ?_) (fun z => absurd z ((fun z => (mv_b_0 _).mp z (mv_in_i (by omega) (by omega) (by omega)))))
  refine mv_iload_n dX11_rate_11 rfl ?_
  refine mv_iconst (v := nI 0) dX11_rate_12 (by decide) ?_
  refine mv_iconst (v := nI 2) dX11_rate_13 (by decide) ?_
  refine mv_cS3 dX11_rate_14 lk_X11_rate_96 (Nat.le_of_ble_eq_true rfl) (Nat.le_of_ble_eq_true rfl) (k_X11_within (ev := ev)) ?_
  refine mv_if_ne (tgt := 24) dX11_rate_17 (by decide) (fun c17 => ?_) (fun z => absurd z ((fun z => (mv_b_0 _).mp z (mv_in_i (by omega) (by omega) (by omega)))))
  refine mv_iload_n dX11_rate_24 rfl ?_
  refine mv_iconst (v := nI 2) dX11_rate_25 (by decide) ?_
  refine mv_icmp_ne (tgt := 38) dX11_rate_26 (by decide) (fun c26 => ?_) (fun z => absurd z ((by decide)))
  refine mv_iload_n dX11_rate_38 rfl ?_
  refine mv_if_ne (tgt := 57) dX11_rate_39 (by decide) (fun c39 => ?_) (fun z => absurd z ((by decide)))
  refine mv_aload_n dX11_rate_57 rfl ?_
  refine mv_getf (ci := 11) (f := 5) dX11_rate_58 H0 rfl (by decide) wd_381 rfl ?_
  obtain ⟨h1, K2, f3, y4⟩ := (k_X7_findOddDays (ev := ev) (s := s) (wa := wa) (cf := cf) (ct := ct) (rr := rr) (rc := rc) (ok := ok) (lw := lw) (ln := ln) HL HV HS S23 S24 S25 S26 S27 S28 S29 S30 S31 hw hsi hr hwi)
  refine mv_cV0 (ci := 7) dX11_rate_61 lk_X11_rate_225 HS rfl (Nat.le_of_ble_eq_true rfl) (Nat.le_of_ble_eq_true rfl) K2 ?_
  have H0 := f3.get (by decide) H0
  have HL := f3.get (by decide) HL
  have HV := f3.get (by decide) HV
  have HS := f3.get (by decide) HS
  have S23 := f3.get (by decide) S23
  have S24 := f3.get (by decide) S24
  have S25 := f3.get (by decide) S25
  have S26 := f3.get (by decide) S26
  have S27 := f3.get (by decide) S27
  have S28 := f3.get (by decide) S28
  have S29 := f3.get (by decide) S29
  have S30 := f3.get (by decide) S30
  have S31 : h1[31]? = some (.inl (0, 400, .inl (fun j => nI ((q_oks lw ln s wa cf ct rr ok) j)))) := y4
  have fr := fr.trans f3 (by decide)
  refine mv_iload_n dX11_rate_64 rfl ?_
  refine mv_if_ne (tgt := 79) dX11_rate_65 (by decide) (fun c65 => ?_) (fun z => absurd z ((by decide)))
  refine mv_aload_n dX11_rate_79 rfl ?_
  refine mv_getf (ci := 11) (f := 5) dX11_rate_80 H0 rfl (by decide) wd_381 rfl ?_
  refine mv_iload_n dX11_rate_83 rfl ?_
  refine mv_cV1 (ci := 7) dX11_rate_84 lk_X11_rate_231 HS rfl (Nat.le_of_ble_eq_true rfl) (Nat.le_of_ble_eq_true rfl) (k_X7_oddDays (ev := ev) HS S31 hk (q_oks_lt hsi hok)) ?_
  exact mv_iret dX11_rate_87 rfl rfl ⟨rfl, fr, S31⟩
set_option maxRecDepth 100000 in
theorem k_X11_rate_G2 {ev : mv_E} {h : mv_H} {s : q_S} {wa : Nat → Nat} {cf : Nat → Int32} {ct : Nat → Int32} {rc : Nat} {k : Nat} (H0 : h[0]? = some (.inr (11, [.ref 1, .ref 3, .ref 7, .ref 11, .ref 21, .ref 22, .ref 32, .ref 34, .ref 42, .ref 45, .ref 48]))) (HS : h[22]? = some (.inr (7, [.ref 1, .ref 23, .ref 24, .ref 25, .ref 26, .int (nI s.1), .ref 27, .ref 28, .ref 29, .ref 30, .int (nI rc), .ref 31]))) (S28 : h[28]? = some (.inl (0, 8, .inl cf))) (S29 : h[29]? = some (.inl (0, 8, .inl ct))) (hk : k < 8) (hwi : q_WI wa cf ct) : mv_K ev mX11_rate [.ref 0, .int (nI k), .int (nI 2)] h (some (.int (nI (q_cd cf ct k)))) h := by
  refine mv_Kof ?_
  show mv_g ev mX11_rate 0 [.ref 0, .int (nI k), .int (nI 2)] [] h _
  refine mv_iload_n dX11_rate_0 rfl ?_
  refine mv_cS1 dX11_rate_1 lk_X11_rate_186 (Nat.le_of_ble_eq_true rfl) (Nat.le_of_ble_eq_true rfl) (k_X11_isKind (ev := ev)) ?_
  refine mv_if_ne (tgt := 11) dX11_rate_4 (by decide) (fun c4 => ?_) (fun z => absurd z ((fun z => (mv_b_0 _).mp z (mv_in_i (by omega) (by omega) (by omega)))))
  refine mv_iload_n dX11_rate_11 rfl ?_
  refine mv_iconst (v := nI 0) dX11_rate_12 (by decide) ?_
  refine mv_iconst (v := nI 2) dX11_rate_13 (by decide) ?_
  refine mv_cS3 dX11_rate_14 lk_X11_rate_96 (Nat.le_of_ble_eq_true rfl) (Nat.le_of_ble_eq_true rfl) (k_X11_within (ev := ev)) ?_
  refine mv_if_ne (tgt := 24) dX11_rate_17 (by decide) (fun c17 => ?_) (fun z => absurd z ((fun z => (mv_b_0 _).mp z (mv_in_i (by omega) (by omega) (by omega)))))
  refine mv_iload_n dX11_rate_24 rfl ?_
  refine mv_iconst (v := nI 2) dX11_rate_25 (by decide) ?_
  refine mv_icmp_ne (tgt := 38) dX11_rate_26 (by decide) (fun z => absurd ((by decide)) z) (fun c26 => ?_)
  refine mv_aload_n dX11_rate_29 rfl ?_
  refine mv_getf (ci := 11) (f := 5) dX11_rate_30 H0 rfl (by decide) wd_381 rfl ?_
  refine mv_iload_n dX11_rate_33 rfl ?_
  refine mv_cV1 (ci := 7) dX11_rate_34 lk_X11_rate_219 HS rfl (Nat.le_of_ble_eq_true rfl) (Nat.le_of_ble_eq_true rfl) (k_X7_countedDays (ev := ev) HS S28 S29 hk hwi) ?_
  exact mv_iret dX11_rate_37 rfl rfl ⟨rfl, rfl⟩
