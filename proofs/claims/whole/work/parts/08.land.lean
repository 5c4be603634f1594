set_option maxRecDepth 100000 in
theorem k_X11_within {ev : mv_E} {h : mv_H} {x : Int32} {lo : Int32} {hi : Int32}   : mv_K ev mX11_within [.int x, .int lo, .int hi] h (some (.int (mv_b (lo ≤ x ∧ x ≤ hi)))) h := by
  refine mv_Kof ?_
  show mv_g ev mX11_within 0 [.int x, .int lo, .int hi] [] h _
  refine mv_iload_n dX11_within_0 rfl ?_
  refine mv_iload_n dX11_within_1 rfl ?_
  refine mv_icmp_lt (tgt := 14) dX11_within_2 (by decide) (fun c2 => ?_) (fun c2 => ?_)
  · skip
    refine mv_iconst (v := nI 0) dX11_within_14 (by decide) ?_
    exact mv_iret dX11_within_15 rfl rfl ⟨(congrArg (fun z => some (Value.int z)) (by first | exact (mv_b_t ⟨Int32.not_lt.mp c2, Int32.not_lt.mp c7⟩).symm | exact (mv_b_f (fun z => absurd z.1 (Int32.not_le.mpr c2))).symm | exact (mv_b_f (fun z => absurd z.2 (Int32.not_le.mpr c7))).symm)), rfl⟩
  · skip
    refine mv_iload_n dX11_within_5 rfl ?_
    refine mv_iload_n dX11_within_6 rfl ?_
    refine mv_icmp_gt (tgt := 14) dX11_within_7 (by decide) (fun c7 => ?_) (fun c7 => ?_)
    · skip
      refine mv_iconst (v := nI 0) dX11_within_14 (by decide) ?_
      exact mv_iret dX11_within_15 rfl rfl ⟨(congrArg (fun z => some (Value.int z)) (by first | exact (mv_b_t ⟨Int32.not_lt.mp c2, Int32.not_lt.mp c7⟩).symm | exact (mv_b_f (fun z => absurd z.1 (Int32.not_le.mpr c2))).symm | exact (mv_b_f (fun z => absurd z.2 (Int32.not_le.mpr c7))).symm)), rfl⟩
    · skip
      refine mv_iconst (v := nI 1) dX11_within_10 (by decide) ?_
      refine mv_goto (tgt := 15) dX11_within_11 (by decide) ?_
      exact mv_iret dX11_within_15 rfl rfl ⟨(congrArg (fun z => some (Value.int z)) (by first | exact (mv_b_t ⟨Int32.not_lt.mp c2, Int32.not_lt.mp c7⟩).symm | exact (mv_b_f (fun z => absurd z.1 (Int32.not_le.mpr c2))).symm | exact (mv_b_f (fun z => absurd z.2 (Int32.not_le.mpr c7))).symm)), rfl⟩
set_option maxRecDepth 100000 in
theorem k_X11_isPlace {ev : mv_E} {h : mv_H} {x : Int32}   : mv_K ev mX11_isPlace [.int x] h (some (.int (mv_b (nI 0 ≤ x ∧ x ≤ nI 63)))) h := by
  refine mv_Kof ?_
  show mv_g ev mX11_isPlace 0 [.int x] [] h _
  refine mv_iload_n dX11_isPlace_0 rfl ?_
  refine mv_iconst (v := nI 0) dX11_isPlace_1 (by decide) ?_
  refine mv_bipush (v := nI 63) dX11_isPlace_2 (by decide) ?_
  refine mv_cS3 dX11_isPlace_4 lk_X11_isPlace_96 (Nat.le_of_ble_eq_true rfl) (Nat.le_of_ble_eq_true rfl) (k_X11_within (ev := ev)) ?_
  exact mv_iret dX11_isPlace_7 rfl (mv_b_nar _) ⟨rfl, rfl⟩
set_option maxRecDepth 100000 in
theorem k_X11_isDistance {ev : mv_E} {h : mv_H} {x : Int32}   : mv_K ev mX11_isDistance [.int x] h (some (.int (mv_b (nI 0 ≤ x ∧ x ≤ nI 7)))) h := by
  refine mv_Kof ?_
  show mv_g ev mX11_isDistance 0 [.int x] [] h _
  refine mv_iload_n dX11_isDistance_0 rfl ?_
  refine mv_iconst (v := nI 0) dX11_isDistance_1 (by decide) ?_
  refine mv_bipush (v := nI 7) dX11_isDistance_2 (by decide) ?_
  refine mv_cS3 dX11_isDistance_4 lk_X11_isDistance_96 (Nat.le_of_ble_eq_true rfl) (Nat.le_of_ble_eq_true rfl) (k_X11_within (ev := ev)) ?_
  exact mv_iret dX11_isDistance_7 rfl (mv_b_nar _) ⟨rfl, rfl⟩
set_option maxRecDepth 100000 in
theorem k_X11_isDay {ev : mv_E} {h : mv_H} {x : Int32}   : mv_K ev mX11_isDay [.int x] h (some (.int (mv_b (nI 0 ≤ x ∧ x ≤ nI 399)))) h := by
  refine mv_Kof ?_
  show mv_g ev mX11_isDay 0 [.int x] [] h _
  refine mv_iload_n dX11_isDay_0 rfl ?_
  refine mv_iconst (v := nI 0) dX11_isDay_1 (by decide) ?_
  refine mv_sipush (v := nI 399) dX11_isDay_2 (by decide) ?_
  refine mv_cS3 dX11_isDay_5 lk_X11_isDay_96 (Nat.le_of_ble_eq_true rfl) (Nat.le_of_ble_eq_true rfl) (k_X11_within (ev := ev)) ?_
  exact mv_iret dX11_isDay_8 rfl (mv_b_nar _) ⟨rfl, rfl⟩
set_option maxRecDepth 100000 in
theorem k_X11_isSize {ev : mv_E} {h : mv_H} {x : Int32}   : mv_K ev mX11_isSize [.int x] h (some (.int (mv_b (nI 1 ≤ x ∧ x ≤ nI 9)))) h := by
  refine mv_Kof ?_
  show mv_g ev mX11_isSize 0 [.int x] [] h _
  refine mv_iload_n dX11_isSize_0 rfl ?_
  refine mv_iconst (v := nI 1) dX11_isSize_1 (by decide) ?_
  refine mv_bipush (v := nI 9) dX11_isSize_2 (by decide) ?_
  refine mv_cS3 dX11_isSize_4 lk_X11_isSize_96 (Nat.le_of_ble_eq_true rfl) (Nat.le_of_ble_eq_true rfl) (k_X11_within (ev := ev)) ?_
  exact mv_iret dX11_isSize_7 rfl (mv_b_nar _) ⟨rfl, rfl⟩
set_option maxRecDepth 100000 in
theorem k_X11_isKind {ev : mv_E} {h : mv_H} {x : Int32}   : mv_K ev mX11_isKind [.int x] h (some (.int (mv_b (nI 0 ≤ x ∧ x ≤ nI 7)))) h := by
  refine mv_Kof ?_
  show mv_g ev mX11_isKind 0 [.int x] [] h _
  refine mv_iload_n dX11_isKind_0 rfl ?_
  refine mv_iconst (v := nI 0) dX11_isKind_1 (by decide) ?_
  refine mv_bipush (v := nI 7) dX11_isKind_2 (by decide) ?_
  refine mv_cS3 dX11_isKind_4 lk_X11_isKind_96 (Nat.le_of_ble_eq_true rfl) (Nat.le_of_ble_eq_true rfl) (k_X11_within (ev := ev)) ?_
  exact mv_iret dX11_isKind_7 rfl (mv_b_nar _) ⟨rfl, rfl⟩
set_option maxRecDepth 100000 in
theorem k_X11_isKindSet {ev : mv_E} {h : mv_H} {x : Int32}   : mv_K ev mX11_isKindSet [.int x] h (some (.int (mv_b (nI 0 ≤ x ∧ x ≤ nI 255)))) h := by
  refine mv_Kof ?_
  show mv_g ev mX11_isKindSet 0 [.int x] [] h _
  refine mv_iload_n dX11_isKindSet_0 rfl ?_
  refine mv_iconst (v := nI 0) dX11_isKindSet_1 (by decide) ?_
  refine mv_sipush (v := nI 255) dX11_isKindSet_2 (by decide) ?_
  refine mv_cS3 dX11_isKindSet_5 lk_X11_isKindSet_96 (Nat.le_of_ble_eq_true rfl) (Nat.le_of_ble_eq_true rfl) (k_X11_within (ev := ev)) ?_
  exact mv_iret dX11_isKindSet_8 rfl (mv_b_nar _) ⟨rfl, rfl⟩
set_option maxRecDepth 100000 in
theorem k_X11_isWindow {ev : mv_E} {h : mv_H} {x : Int32}   : mv_K ev mX11_isWindow [.int x] h (some (.int (mv_b (nI 1 ≤ x ∧ x ≤ nI 60)))) h := by
  refine mv_Kof ?_
  show mv_g ev mX11_isWindow 0 [.int x] [] h _
  refine mv_iload_n dX11_isWindow_0 rfl ?_
  refine mv_iconst (v := nI 1) dX11_isWindow_1 (by decide) ?_
  refine mv_bipush (v := nI 60) dX11_isWindow_2 (by decide) ?_
  refine mv_cS3 dX11_isWindow_4 lk_X11_isWindow_96 (Nat.le_of_ble_eq_true rfl) (Nat.le_of_ble_eq_true rfl) (k_X11_within (ev := ev)) ?_
  exact mv_iret dX11_isWindow_7 rfl (mv_b_nar _) ⟨rfl, rfl⟩
set_option maxRecDepth 100000 in
theorem k_X11_isThousandth {ev : mv_E} {h : mv_H} {x : Int32}   : mv_K ev mX11_isThousandth [.int x] h (some (.int (mv_b (nI 0 ≤ x ∧ x ≤ nI 1000)))) h := by
  refine mv_Kof ?_
  show mv_g ev mX11_isThousandth 0 [.int x] [] h _
  refine mv_iload_n dX11_isThousandth_0 rfl ?_
  refine mv_iconst (v := nI 0) dX11_isThousandth_1 (by decide) ?_
  refine mv_sipush (v := nI 1000) dX11_isThousandth_2 (by decide) ?_
  refine mv_cS3 dX11_isThousandth_5 lk_X11_isThousandth_96 (Nat.le_of_ble_eq_true rfl) (Nat.le_of_ble_eq_true rfl) (k_X11_within (ev := ev)) ?_
  exact mv_iret dX11_isThousandth_8 rfl (mv_b_nar _) ⟨rfl, rfl⟩
theorem mv_lL {a : Nat} {p : Int32} (h : a < 2 ^ 31) : lN a ≤ p.toInt64 ↔ nI a ≤ p := by rw [← nI_l h, mv_l_le]
theorem mv_lR {a : Nat} {p : Int32} (h : a < 2 ^ 31) : p.toInt64 ≤ lN a ↔ p ≤ nI a := by rw [← nI_l h, mv_l_le]
set_option maxRecDepth 100000 in
theorem k_X12_in {ev : mv_E} {h : mv_H} {u : Int64} {v : Int64} {w : Int64}   : mv_K ev mX12_in [.long u, .long v, .long w] h (some (.int (mv_b (v ≤ u ∧ u ≤ w)))) h := by
  refine mv_Kof ?_
  show mv_g ev mX12_in 0 [.long u, .null, .long v, .null, .long w, .null] [] h _
  refine mv_lload_n dX12_in_0 rfl ?_
  refine mv_lload_n dX12_in_1 rfl ?_
  refine mv_lcmp dX12_in_2 ?_
  refine mv_if_lt (tgt := 17) dX12_in_3 (by decide) (fun c3 => ?_) (fun c3 => ?_)
  · have c3 := (lg_cmp_lt _ _).mp c3
    refine mv_iconst (v := nI 0) dX12_in_17 (by decide) ?_
    exact mv_iret dX12_in_18 rfl rfl ⟨(congrArg (fun z => some (Value.int z)) (by first | exact (mv_b_t ⟨Int64.not_lt.mp c3, Int64.not_lt.mp c10⟩).symm | exact (mv_b_f (fun z => absurd z.1 (Int64.not_le.mpr c3))).symm | exact (mv_b_f (fun z => absurd z.2 (Int64.not_le.mpr c10))).symm)), rfl⟩
  · have c3 := fun z => c3 ((lg_cmp_lt _ _).mpr z)
    refine mv_lload_n dX12_in_6 rfl ?_
    refine mv_lload dX12_in_7 rfl ?_
    refine mv_lcmp dX12_in_9 ?_
    refine mv_if_gt (tgt := 17) dX12_in_10 (by decide) (fun c10 => ?_) (fun c10 => ?_)
    · have c10 := (lg_cmp_gt _ _).mp c10
      refine mv_iconst (v := nI 0) dX12_in_17 (by decide) ?_
      exact mv_iret dX12_in_18 rfl rfl ⟨(congrArg (fun z => some (Value.int z)) (by first | exact (mv_b_t ⟨Int64.not_lt.mp c3, Int64.not_lt.mp c10⟩).symm | exact (mv_b_f (fun z => absurd z.1 (Int64.not_le.mpr c3))).symm | exact (mv_b_f (fun z => absurd z.2 (Int64.not_le.mpr c10))).symm)), rfl⟩
    · have c10 := fun z => c10 ((lg_cmp_gt _ _).mpr z)
      refine mv_iconst (v := nI 1) dX12_in_13 (by decide) ?_
      refine mv_goto (tgt := 18) dX12_in_14 (by decide) ?_
      exact mv_iret dX12_in_18 rfl rfl ⟨(congrArg (fun z => some (Value.int z)) (by first | exact (mv_b_t ⟨Int64.not_lt.mp c3, Int64.not_lt.mp c10⟩).symm | exact (mv_b_f (fun z => absurd z.1 (Int64.not_le.mpr c3))).symm | exact (mv_b_f (fun z => absurd z.2 (Int64.not_le.mpr c10))).symm)), rfl⟩
set_option maxRecDepth 100000 in
theorem k_X12_isPlace {ev : mv_E} {h : mv_H} {x : Int32}   : mv_K ev mX12_isPlace [.int x] h (some (.int (mv_b (nI 0 ≤ x ∧ x ≤ nI 63)))) h := by
  refine mv_Kof ?_
  show mv_g ev mX12_isPlace 0 [.int x] [] h _
  refine mv_iload_n dX12_isPlace_0 rfl ?_
  refine mv_i2l dX12_isPlace_1 ?_
  refine mv_lconst (v := lN 0) dX12_isPlace_2 rfl ?_
  refine mv_ldc2 (v := lN 63) dX12_isPlace_3 wd_1330 ?_
  refine mv_cS3 dX12_isPlace_6 lk_X12_isPlace_107 (Nat.le_of_ble_eq_true rfl) (Nat.le_of_ble_eq_true rfl) (k_X12_in (ev := ev)) ?_
  exact mv_iret dX12_isPlace_9 rfl (mv_b_nar _) ⟨(congrArg (fun z => some (Value.int z)) (mv_b_c (and_congr (mv_lL (by decide)) (mv_lR (by decide))))), rfl⟩
set_option maxRecDepth 100000 in
theorem k_X12_isDay {ev : mv_E} {h : mv_H} {x : Int32}   : mv_K ev mX12_isDay [.int x] h (some (.int (mv_b (nI 0 ≤ x ∧ x ≤ nI 399)))) h := by
  refine mv_Kof ?_
  show mv_g ev mX12_isDay 0 [.int x] [] h _
  refine mv_iload_n dX12_isDay_0 rfl ?_
  refine mv_i2l dX12_isDay_1 ?_
  refine mv_lconst (v := lN 0) dX12_isDay_2 rfl ?_
  refine mv_ldc2 (v := lN 399) dX12_isDay_3 wd_1423 ?_
  refine mv_cS3 dX12_isDay_6 lk_X12_isDay_107 (Nat.le_of_ble_eq_true rfl) (Nat.le_of_ble_eq_true rfl) (k_X12_in (ev := ev)) ?_
  exact mv_iret dX12_isDay_9 rfl (mv_b_nar _) ⟨(congrArg (fun z => some (Value.int z)) (mv_b_c (and_congr (mv_lL (by decide)) (mv_lR (by decide))))), rfl⟩
set_option maxRecDepth 100000 in
theorem k_X12_isSize {ev : mv_E} {h : mv_H} {x : Int32}   : mv_K ev mX12_isSize [.int x] h (some (.int (mv_b (nI 1 ≤ x ∧ x ≤ nI 9)))) h := by
  refine mv_Kof ?_
  show mv_g ev mX12_isSize 0 [.int x] [] h _
  refine mv_iload_n dX12_isSize_0 rfl ?_
  refine mv_i2l dX12_isSize_1 ?_
  refine mv_lconst (v := lN 1) dX12_isSize_2 rfl ?_
  refine mv_ldc2 (v := lN 9) dX12_isSize_3 wd_1409 ?_
  refine mv_cS3 dX12_isSize_6 lk_X12_isSize_107 (Nat.le_of_ble_eq_true rfl) (Nat.le_of_ble_eq_true rfl) (k_X12_in (ev := ev)) ?_
  exact mv_iret dX12_isSize_9 rfl (mv_b_nar _) ⟨(congrArg (fun z => some (Value.int z)) (mv_b_c (and_congr (mv_lL (by decide)) (mv_lR (by decide))))), rfl⟩
set_option maxRecDepth 100000 in
theorem k_X12_isNear {ev : mv_E} {h : mv_H} {x : Int32}   : mv_K ev mX12_isNear [.int x] h (some (.int (mv_b (nI 0 ≤ x ∧ x ≤ nI 7)))) h := by
  refine mv_Kof ?_
  show mv_g ev mX12_isNear 0 [.int x] [] h _
  refine mv_iload_n dX12_isNear_0 rfl ?_
  refine mv_i2l dX12_isNear_1 ?_
  refine mv_lconst (v := lN 0) dX12_isNear_2 rfl ?_
  refine mv_ldc2 (v := lN 7) dX12_isNear_3 wd_1337 ?_
  refine mv_cS3 dX12_isNear_6 lk_X12_isNear_107 (Nat.le_of_ble_eq_true rfl) (Nat.le_of_ble_eq_true rfl) (k_X12_in (ev := ev)) ?_
  exact mv_iret dX12_isNear_9 rfl (mv_b_nar _) ⟨(congrArg (fun z => some (Value.int z)) (mv_b_c (and_congr (mv_lL (by decide)) (mv_lR (by decide))))), rfl⟩
set_option maxRecDepth 100000 in
theorem k_X12_isKind {ev : mv_E} {h : mv_H} {x : Int32}   : mv_K ev mX12_isKind [.int x] h (some (.int (mv_b (nI 0 ≤ x ∧ x ≤ nI 7)))) h := by
  refine mv_Kof ?_
  show mv_g ev mX12_isKind 0 [.int x] [] h _
  refine mv_iload_n dX12_isKind_0 rfl ?_
  refine mv_i2l dX12_isKind_1 ?_
  refine mv_lconst (v := lN 0) dX12_isKind_2 rfl ?_
  refine mv_ldc2 (v := lN 7) dX12_isKind_3 wd_1337 ?_
  refine mv_cS3 dX12_isKind_6 lk_X12_isKind_107 (Nat.le_of_ble_eq_true rfl) (Nat.le_of_ble_eq_true rfl) (k_X12_in (ev := ev)) ?_
  exact mv_iret dX12_isKind_9 rfl (mv_b_nar _) ⟨(congrArg (fun z => some (Value.int z)) (mv_b_c (and_congr (mv_lL (by decide)) (mv_lR (by decide))))), rfl⟩
set_option maxRecDepth 100000 in
theorem k_X12_isWide {ev : mv_E} {h : mv_H} {x : Int32}   : mv_K ev mX12_isWide [.int x] h (some (.int (mv_b (nI 1 ≤ x ∧ x ≤ nI 60)))) h := by
  refine mv_Kof ?_
  show mv_g ev mX12_isWide 0 [.int x] [] h _
  refine mv_iload_n dX12_isWide_0 rfl ?_
  refine mv_i2l dX12_isWide_1 ?_
  refine mv_lconst (v := lN 1) dX12_isWide_2 rfl ?_
  refine mv_ldc2 (v := lN 60) dX12_isWide_3 wd_1550 ?_
  refine mv_cS3 dX12_isWide_6 lk_X12_isWide_107 (Nat.le_of_ble_eq_true rfl) (Nat.le_of_ble_eq_true rfl) (k_X12_in (ev := ev)) ?_
  exact mv_iret dX12_isWide_9 rfl (mv_b_nar _) ⟨(congrArg (fun z => some (Value.int z)) (mv_b_c (and_congr (mv_lL (by decide)) (mv_lR (by decide))))), rfl⟩
set_option maxRecDepth 100000 in
theorem k_X12_far {ev : mv_E} {h : mv_H} {p : Nat} {q : Nat}  (hp : p < 64) (hq : q < 64) : mv_K ev mX12_far [.int (nI p), .int (nI q)] h (some (.int (nI (t_far p q)))) h := by
  refine mv_Kof ?_
  show mv_g ev mX12_far 0 [.int (nI p), .int (nI q), .null, .null] [] h _
  have b1 : t_ab (p / 8) (q / 8) < 8 := t_ab_lt (by omega) (by omega)
  have b2 : t_ab (p % 8) (q % 8) < 8 := t_ab_lt (by omega) (by omega)
  refine mv_iload_n dX12_far_0 rfl ?_
  refine mv_bipush (v := nI 8) dX12_far_1 (by decide) ?_
  refine mv_idiv dX12_far_3 (by decide) ?_
  refine mv_topI (y := nI (p / 8)) (pk_div (by omega) (by omega) (by omega)) ?_
  refine mv_iload_n dX12_far_4 rfl ?_
  refine mv_bipush (v := nI 8) dX12_far_5 (by decide) ?_
  refine mv_idiv dX12_far_7 (by decide) ?_
  refine mv_topI (y := nI (q / 8)) (pk_div (by omega) (by omega) (by omega)) ?_
  refine mv_isub dX12_far_8 ?_
  refine mv_istore_n dX12_far_9 (by decide) ?_
  refine mv_iload_n dX12_far_10 rfl ?_
  refine mv_bipush (v := nI 8) dX12_far_11 (by decide) ?_
  refine mv_irem dX12_far_13 (by decide) ?_
  refine mv_topI (y := nI (p % 8)) (pk_rem (by omega) (by omega) (by omega)) ?_
  refine mv_iload_n dX12_far_14 rfl ?_
  refine mv_bipush (v := nI 8) dX12_far_15 (by decide) ?_
  refine mv_irem dX12_far_17 (by decide) ?_
  refine mv_topI (y := nI (q % 8)) (pk_rem (by omega) (by omega) (by omega)) ?_
  refine mv_isub dX12_far_18 ?_
  refine mv_istore_n dX12_far_19 (by decide) ?_
  refine mv_iload_n dX12_far_20 rfl ?_
  refine mv_if_ge (tgt := 29) dX12_far_21 (by decide) (fun c21 => ?_) (fun c21 => ?_)
  · skip
    refine mv_iload_n dX12_far_29 rfl ?_
    refine mv_topI (y := nI (t_ab (p / 8) (q / 8))) (by first | exact mv_absP (by omega) (by omega) c21 | exact mv_absN (by omega) (by omega) c21) ?_
    refine mv_istore_n dX12_far_30 (by decide) ?_
    refine mv_iload_n dX12_far_31 rfl ?_
    refine mv_if_ge (tgt := 40) dX12_far_32 (by decide) (fun c32 => ?_) (fun c32 => ?_)
    · skip
      refine mv_iload_n dX12_far_40 rfl ?_
      refine mv_topI (y := nI (t_ab (p % 8) (q % 8))) (by first | exact mv_absP (by omega) (by omega) c32 | exact mv_absN (by omega) (by omega) c32) ?_
      refine mv_istore_n dX12_far_41 (by decide) ?_
      refine mv_iload_n dX12_far_42 rfl ?_
      refine mv_iload_n dX12_far_43 rfl ?_
      refine mv_icmp_le (tgt := 51) dX12_far_44 (by decide) (fun c44 => ?_) (fun c44 => ?_)
      · have c44 : t_ab (p / 8) (q / 8) ≤ t_ab (p % 8) (q % 8) := (nI_leI (by omega) (by omega)).mp c44
        refine mv_iload_n dX12_far_51 rfl ?_
        exact mv_iret dX12_far_52 rfl rfl ⟨(congrArg (fun z => some (Value.int z)) (congrArg nI (by unfold t_far; first | rw [Nat.max_eq_left (by omega)] | rw [Nat.max_eq_right (by omega)]))), rfl⟩
      · have c44 : ¬ (t_ab (p / 8) (q / 8) ≤ t_ab (p % 8) (q % 8)) := fun z => c44 ((nI_leI (by omega) (by omega)).mpr z)
        refine mv_iload_n dX12_far_47 rfl ?_
        refine mv_goto (tgt := 52) dX12_far_48 (by decide) ?_
        exact mv_iret dX12_far_52 rfl rfl ⟨(congrArg (fun z => some (Value.int z)) (congrArg nI (by unfold t_far; first | rw [Nat.max_eq_left (by omega)] | rw [Nat.max_eq_right (by omega)]))), rfl⟩
    · skip
      refine mv_iload_n dX12_far_35 rfl ?_
      refine mv_ineg dX12_far_36 ?_
      refine mv_goto (tgt := 41) dX12_far_37 (by decide) ?_
      refine mv_topI (y := nI (t_ab (p % 8) (q % 8))) (by first | exact mv_absP (by omega) (by omega) c32 | exact mv_absN (by omega) (by omega) c32) ?_
      refine mv_istore_n dX12_far_41 (by decide) ?_
      refine mv_iload_n dX12_far_42 rfl ?_
      refine mv_iload_n dX12_far_43 rfl ?_
      refine mv_icmp_le (tgt := 51) dX12_far_44 (by decide) (fun c44 => ?_) (fun c44 => ?_)
      · have c44 : t_ab (p / 8) (q / 8) ≤ t_ab (p % 8) (q % 8) := (nI_leI (by omega) (by omega)).mp c44
        refine mv_iload_n dX12_far_51 rfl ?_
        exact mv_iret dX12_far_52 rfl rfl ⟨(congrArg (fun z => some (Value.int z)) (congrArg nI (by unfold t_far; first | rw [Nat.max_eq_left (by omega)] | rw [Nat.max_eq_right (by omega)]))), rfl⟩
      · have c44 : ¬ (t_ab (p / 8) (q / 8) ≤ t_ab (p % 8) (q % 8)) := fun z => c44 ((nI_leI (by omega) (by omega)).mpr z)
        refine mv_iload_n dX12_far_47 rfl ?_
        refine mv_goto (tgt := 52) dX12_far_48 (by decide) ?_
        exact mv_iret dX12_far_52 rfl rfl ⟨(congrArg (fun z => some (Value.int z)) (congrArg nI (by unfold t_far; first | rw [Nat.max_eq_left (by omega)] | rw [Nat.max_eq_right (by omega)]))), rfl⟩
  · skip
    refine mv_iload_n dX12_far_24 rfl ?_
    refine mv_ineg dX12_far_25 ?_
    refine mv_goto (tgt := 30) dX12_far_26 (by decide) ?_
    refine mv_topI (y := nI (t_ab (p / 8) (q / 8))) (by first | exact mv_absP (by omega) (by omega) c21 | exact mv_absN (by omega) (by omega) c21) ?_
    refine mv_istore_n dX12_far_30 (by decide) ?_
    refine mv_iload_n dX12_far_31 rfl ?_
    refine mv_if_ge (tgt := 40) dX12_far_32 (by decide) (fun c32 => ?_) (fun c32 => ?_)
    · skip
      refine mv_iload_n dX12_far_40 rfl ?_
      refine mv_topI (y := nI (t_ab (p % 8) (q % 8))) (by first | exact mv_absP (by omega) (by omega) c32 | exact mv_absN (by omega) (by omega) c32) ?_
      refine mv_istore_n dX12_far_41 (by decide) ?_
      refine mv_iload_n dX12_far_42 rfl ?_
      refine mv_iload_n dX12_far_43 rfl ?_
      refine mv_icmp_le (tgt := 51) dX12_far_44 (by decide) (fun c44 => ?_) (fun c44 => ?_)
      · have c44 : t_ab (p / 8) (q / 8) ≤ t_ab (p % 8) (q % 8) := (nI_leI (by omega) (by omega)).mp c44
        refine mv_iload_n dX12_far_51 rfl ?_
        exact mv_iret dX12_far_52 rfl rfl ⟨(congrArg (fun z => some (Value.int z)) (congrArg nI (by unfold t_far; first | rw [Nat.max_eq_left (by omega)] | rw [Nat.max_eq_right (by omega)]))), rfl⟩
      · have c44 : ¬ (t_ab (p / 8) (q / 8) ≤ t_ab (p % 8) (q % 8)) := fun z => c44 ((nI_leI (by omega) (by omega)).mpr z)
        refine mv_iload_n dX12_far_47 rfl ?_
        refine mv_goto (tgt := 52) dX12_far_48 (by decide) ?_
        exact mv_iret dX12_far_52 rfl rfl ⟨(congrArg (fun z => some (Value.int z)) (congrArg nI (by unfold t_far; first | rw [Nat.max_eq_left (by omega)] | rw [Nat.max_eq_right (by omega)]))), rfl⟩
    · skip
      refine mv_iload_n dX12_far_35 rfl ?_
      refine mv_ineg dX12_far_36 ?_
      refine mv_goto (tgt := 41) dX12_far_37 (by decide) ?_
      refine mv_topI (y := nI (t_ab (p % 8) (q % 8))) (by first | exact mv_absP (by omega) (by omega) c32 | exact mv_absN (by omega) (by omega) c32) ?_
      refine mv_istore_n dX12_far_41 (by decide) ?_
      refine mv_iload_n dX12_far_42 rfl ?_
      refine mv_iload_n dX12_far_43 rfl ?_
      refine mv_icmp_le (tgt := 51) dX12_far_44 (by decide) (fun c44 => ?_) (fun c44 => ?_)
      · have c44 : t_ab (p / 8) (q / 8) ≤ t_ab (p % 8) (q % 8) := (nI_leI (by omega) (by omega)).mp c44
        refine mv_iload_n dX12_far_51 rfl ?_
        exact mv_iret dX12_far_52 rfl rfl ⟨(congrArg (fun z => some (Value.int z)) (congrArg nI (by unfold t_far; first | rw [Nat.max_eq_left (by omega)] | rw [Nat.max_eq_right (by omega)]))), rfl⟩
      · have c44 : ¬ (t_ab (p / 8) (q / 8) ≤ t_ab (p % 8) (q % 8)) := fun z => c44 ((nI_leI (by omega) (by omega)).mpr z)
        refine mv_iload_n dX12_far_47 rfl ?_
        refine mv_goto (tgt := 52) dX12_far_48 (by decide) ?_
        exact mv_iret dX12_far_52 rfl rfl ⟨(congrArg (fun z => some (Value.int z)) (congrArg nI (by unfold t_far; first | rw [Nat.max_eq_left (by omega)] | rw [Nat.max_eq_right (by omega)]))), rfl⟩
def t_cN (p m k : Nat) : Nat := ((List.range k).filter (fun q => decide (t_far p q ≤ m))).length
theorem t_cN_s (p m k : Nat) : t_cN p m (k + 1) = t_cN p m k + (if t_far p k ≤ m then 1 else 0) := by
  unfold t_cN
  rw [List.range_succ, List.filter_append, List.length_append]
  by_cases h : t_far p k ≤ m <;> simp [h]
theorem t_cN_le (p m k : Nat) : t_cN p m k ≤ k := by
  unfold t_cN
  exact Nat.le_trans (List.length_filter_le _ _) (by simp)
def t_bN (p m q n k : Nat) : Nat := ((List.range k).filter (fun j => decide (t_far p j ≤ m) && decide (t_far q j ≤ n))).length
theorem t_bN_s (p m q n k : Nat) : t_bN p m q n (k + 1) = t_bN p m q n k + (if t_far p k ≤ m ∧ t_far q k ≤ n then 1 else 0) := by
  unfold t_bN
  rw [List.range_succ, List.filter_append, List.length_append]
  by_cases h : t_far p k ≤ m <;> by_cases h2 : t_far q k ≤ n <;> simp [h, h2]
theorem t_bN_le (p m q n k : Nat) : t_bN p m q n k ≤ k := by
  unfold t_bN
  exact Nat.le_trans (List.length_filter_le _ _) (by simp)
set_option maxRecDepth 100000 in
theorem l_X12_cellsOf {ev : mv_E} {h : mv_H} {p : Nat} {m : Nat}  (hp : p < 64) (hm0 : m < 8) : ∀ (fu : Nat) (c : Nat) (k : Nat), 64 < k + fu → (k ≤ 64) → (c = t_cN p m k) → mv_g ev mX12_cellsOf 4 [.int (nI p), .int (nI m), .int (nI c), .int (nI k)] [] h (fun r g => r = some (.int (nI (t_cN p m 64))) ∧ g = h) := by
  intro fu
  induction fu with
  | zero => intro c k hm hk hc; exact absurd hm (by omega)
  | succ fu ih =>
    intro c k hm hk hc
    refine mv_iload_n dX12_cellsOf_4 rfl ?_
    refine mv_bipush (v := nI 64) dX12_cellsOf_5 (by decide) ?_
    refine mv_icmp_ge (tgt := 33) dX12_cellsOf_7 (by decide) (fun c7 => ?_) (fun c7 => ?_)
    · have c7 : 64 ≤ k := (nI_leI (by omega) (by omega)).mp c7
      refine mv_iload_n dX12_cellsOf_33 rfl ?_
      exact mv_iret dX12_cellsOf_34 rfl rfl ⟨(congrArg (fun z => some (Value.int z)) (congrArg nI (by have e : k = 64 := (by omega); subst e; exact hc))), rfl⟩
    · have c7 : ¬ (64 ≤ k) := fun z => c7 ((nI_leI (by omega) (by omega)).mpr z)
      have b2 : t_far p k < 8 := t_far_lt hp (by omega)
      refine mv_iload_n dX12_cellsOf_10 rfl ?_
      refine mv_iload_n dX12_cellsOf_11 rfl ?_
      refine mv_iload_n dX12_cellsOf_12 rfl ?_
      refine mv_cS2 dX12_cellsOf_13 lk_X12_cellsOf_117 (Nat.le_of_ble_eq_true rfl) (Nat.le_of_ble_eq_true rfl) (k_X12_far (ev := ev) (by omega) (by omega)) ?_
      refine mv_iload_n dX12_cellsOf_16 rfl ?_
      refine mv_icmp_gt (tgt := 24) dX12_cellsOf_17 (by decide) (fun c17 => ?_) (fun c17 => ?_)
      · have c17 : m < t_far p k := (nI_ltI (by omega) (by omega)).mp c17
        refine mv_iconst (v := nI 0) dX12_cellsOf_24 (by decide) ?_
        refine mv_iadd dX12_cellsOf_25 ?_
        refine mv_topI (y := nI (c + 0)) (nI_add _ _) ?_
        refine mv_istore_n dX12_cellsOf_26 (by decide) ?_
        refine mv_iinc (v := nI (k + 1)) dX12_cellsOf_27 rfl (mv_inc k 1) (by decide) ?_
        refine mv_goto (tgt := 4) dX12_cellsOf_30 (by decide) ?_
        exact ih (c + 0) (k + 1) (by omega) (by omega) (by rw [t_cN_s, hc]; first | rw [if_pos (by omega)] | rw [if_neg (by omega)])
      · have c17 : ¬ (m < t_far p k) := fun z => c17 ((nI_ltI (by omega) (by omega)).mpr z)
        refine mv_iconst (v := nI 1) dX12_cellsOf_20 (by decide) ?_
        refine mv_goto (tgt := 25) dX12_cellsOf_21 (by decide) ?_
        refine mv_iadd dX12_cellsOf_25 ?_
        refine mv_topI (y := nI (c + 1)) (nI_add _ _) ?_
        refine mv_istore_n dX12_cellsOf_26 (by decide) ?_
        refine mv_iinc (v := nI (k + 1)) dX12_cellsOf_27 rfl (mv_inc k 1) (by decide) ?_
        refine mv_goto (tgt := 4) dX12_cellsOf_30 (by decide) ?_
        exact ih (c + 1) (k + 1) (by omega) (by omega) (by rw [t_cN_s, hc]; first | rw [if_pos (by omega)] | rw [if_neg (by omega)])
set_option maxRecDepth 100000 in
theorem k_X12_cellsOf {ev : mv_E} {h : mv_H} {p : Nat} {m : Nat}  (hp : p < 64) (hm0 : m < 8) : mv_K ev mX12_cellsOf [.int (nI p), .int (nI m)] h (some (.int (nI (t_cN p m 64)))) h := by
  refine mv_Kof ?_
  show mv_g ev mX12_cellsOf 0 [.int (nI p), .int (nI m), .null, .null] [] h _
  refine mv_iconst (v := nI 0) dX12_cellsOf_0 (by decide) ?_
  refine mv_istore_n dX12_cellsOf_1 (by decide) ?_
  refine mv_iconst (v := nI 0) dX12_cellsOf_2 (by decide) ?_
  refine mv_istore_n dX12_cellsOf_3 (by decide) ?_
  exact l_X12_cellsOf hp hm0 65 0 0 (by omega) (by omega) rfl
set_option maxRecDepth 100000 in
theorem l_X12_shared {ev : mv_E} {h : mv_H} {p : Nat} {m : Nat} {q : Nat} {n : Nat}  (hp : p < 64) (hm0 : m < 8) (hq : q < 64) (hn0 : n < 8) : ∀ (fu : Nat) (c : Nat) (k : Nat), 64 < k + fu → (k ≤ 64) → (c = t_bN p m q n k) → mv_g ev mX12_shared 6 [.int (nI p), .int (nI m), .int (nI q), .int (nI n), .int (nI c), .int (nI k)] [] h (fun r g => r = some (.int (nI (t_bN p m q n 64))) ∧ g = h) := by
  intro fu
  induction fu with
  | zero => intro c k hm hk hc; exact absurd hm (by omega)
  | succ fu ih =>
    intro c k hm hk hc
    refine mv_iload dX12_shared_6 rfl ?_
    refine mv_bipush (v := nI 64) dX12_shared_8 (by decide) ?_
    refine mv_icmp_ge (tgt := 49) dX12_shared_10 (by decide) (fun c10 => ?_) (fun c10 => ?_)
    · have c10 : 64 ≤ k := (nI_leI (by omega) (by omega)).mp c10
      refine mv_iload dX12_shared_49 rfl ?_
      exact mv_iret dX12_shared_51 rfl rfl ⟨(congrArg (fun z => some (Value.int z)) (congrArg nI (by have e : k = 64 := (by omega); subst e; exact hc))), rfl⟩
    · have c10 : ¬ (64 ≤ k) := fun z => c10 ((nI_leI (by omega) (by omega)).mpr z)
      have b2 : t_far p k < 8 := t_far_lt hp (by omega)
      have b3 : t_far q k < 8 := t_far_lt hq (by omega)
      refine mv_iload dX12_shared_13 rfl ?_
      refine mv_iload_n dX12_shared_15 rfl ?_
      refine mv_iload dX12_shared_16 rfl ?_
      refine mv_cS2 dX12_shared_18 lk_X12_shared_117 (Nat.le_of_ble_eq_true rfl) (Nat.le_of_ble_eq_true rfl) (k_X12_far (ev := ev) (by omega) (by omega)) ?_
      refine mv_iload_n dX12_shared_21 rfl ?_
      refine mv_icmp_gt (tgt := 39) dX12_shared_22 (by decide) (fun c22 => ?_) (fun c22 => ?_)
      · have c22 : m < t_far p k := (nI_ltI (by omega) (by omega)).mp c22
        refine mv_iconst (v := nI 0) dX12_shared_39 (by decide) ?_
        refine mv_iadd dX12_shared_40 ?_
        refine mv_topI (y := nI (c + 0)) (nI_add _ _) ?_
        refine mv_istore dX12_shared_41 (by decide) ?_
        refine mv_iinc (v := nI (k + 1)) dX12_shared_43 rfl (mv_inc k 1) (by decide) ?_
        refine mv_goto (tgt := 6) dX12_shared_46 (by decide) ?_
        exact ih (c + 0) (k + 1) (by omega) (by omega) (by rw [t_bN_s, hc]; first | rw [if_pos (by omega)] | rw [if_neg (by omega)])
      · have c22 : ¬ (m < t_far p k) := fun z => c22 ((nI_ltI (by omega) (by omega)).mpr z)
        refine mv_iload_n dX12_shared_25 rfl ?_
        refine mv_iload dX12_shared_26 rfl ?_
        refine mv_cS2 dX12_shared_28 lk_X12_shared_117 (Nat.le_of_ble_eq_true rfl) (Nat.le_of_ble_eq_true rfl) (k_X12_far (ev := ev) (by omega) (by omega)) ?_
        refine mv_iload_n dX12_shared_31 rfl ?_
        refine mv_icmp_gt (tgt := 39) dX12_shared_32 (by decide) (fun c32 => ?_) (fun c32 => ?_)
        · have c32 : n < t_far q k := (nI_ltI (by omega) (by omega)).mp c32
          refine mv_iconst (v := nI 0) dX12_shared_39 (by decide) ?_
          refine mv_iadd dX12_shared_40 ?_
          refine mv_topI (y := nI (c + 0)) (nI_add _ _) ?_
          refine mv_istore dX12_shared_41 (by decide) ?_
          refine mv_iinc (v := nI (k + 1)) dX12_shared_43 rfl (mv_inc k 1) (by decide) ?_
          refine mv_goto (tgt := 6) dX12_shared_46 (by decide) ?_
          exact ih (c + 0) (k + 1) (by omega) (by omega) (by rw [t_bN_s, hc]; first | rw [if_pos (by omega)] | rw [if_neg (by omega)])
        · have c32 : ¬ (n < t_far q k) := fun z => c32 ((nI_ltI (by omega) (by omega)).mpr z)
          refine mv_iconst (v := nI 1) dX12_shared_35 (by decide) ?_
          refine mv_goto (tgt := 40) dX12_shared_36 (by decide) ?_
          refine mv_iadd dX12_shared_40 ?_
          refine mv_topI (y := nI (c + 1)) (nI_add _ _) ?_
          refine mv_istore dX12_shared_41 (by decide) ?_
          refine mv_iinc (v := nI (k + 1)) dX12_shared_43 rfl (mv_inc k 1) (by decide) ?_
          refine mv_goto (tgt := 6) dX12_shared_46 (by decide) ?_
          exact ih (c + 1) (k + 1) (by omega) (by omega) (by rw [t_bN_s, hc]; first | rw [if_pos (by omega)] | rw [if_neg (by omega)])
set_option maxRecDepth 100000 in
theorem k_X12_shared {ev : mv_E} {h : mv_H} {p : Nat} {m : Nat} {q : Nat} {n : Nat}  (hp : p < 64) (hm0 : m < 8) (hq : q < 64) (hn0 : n < 8) : mv_K ev mX12_shared [.int (nI p), .int (nI m), .int (nI q), .int (nI n)] h (some (.int (nI (t_bN p m q n 64)))) h := by
  refine mv_Kof ?_
  show mv_g ev mX12_shared 0 [.int (nI p), .int (nI m), .int (nI q), .int (nI n), .null, .null] [] h _
  refine mv_iconst (v := nI 0) dX12_shared_0 (by decide) ?_
  refine mv_istore dX12_shared_1 (by decide) ?_
  refine mv_iconst (v := nI 0) dX12_shared_3 (by decide) ?_
  refine mv_istore dX12_shared_4 (by decide) ?_
  exact l_X12_shared hp hm0 hq hn0 65 0 0 (by omega) (by omega) rfl
theorem mv_low {x m y n : Nat} (hx : x < 2 ^ 20) (hm : m < 2 ^ 20) (hy : y < 2 ^ 20) (hn : n < 2 ^ 20) : (if nI 0 < (if nI x - nI m < nI y - nI n then nI y - nI n else nI x - nI m) then (if nI x - nI m < nI y - nI n then nI y - nI n else nI x - nI m) else nI 0) = nI (max (x - m) (y - n)) := by
  apply Int32.toInt_inj.mp
  have h1 := pk_sub_toInt (a := x) (b := m) (by omega) (by omega)
  have h2 := pk_sub_toInt (a := y) (b := n) (by omega) (by omega)
  have h0 : (nI 0).toInt = 0 := by decide
  have h3 : (nI (max (x - m) (y - n))).toInt = ((max (x - m) (y - n) : Nat) : Int) := nI_toInt (by omega)
  rw [h3]
  by_cases c1 : nI x - nI m < nI y - nI n
  · rw [if_pos c1]
    rw [Int32.lt_iff_toInt_lt, h1, h2] at c1
    by_cases c2 : nI 0 < nI y - nI n
    · rw [if_pos c2, h2]
      rw [Int32.lt_iff_toInt_lt, h0, h2] at c2
      omega
    · rw [if_neg c2, h0]
      rw [Int32.lt_iff_toInt_lt, h0, h2] at c2
      omega
  · rw [if_neg c1]
    rw [Int32.lt_iff_toInt_lt, h1, h2] at c1
    by_cases c2 : nI 0 < nI x - nI m
    · rw [if_pos c2, h1]
      rw [Int32.lt_iff_toInt_lt, h0, h1] at c2
      omega
    · rw [if_neg c2, h0]
      rw [Int32.lt_iff_toInt_lt, h0, h1] at c2
      omega
theorem mv_max0 {a b : Nat} (ha : a < 2 ^ 20) (hb : b < 2 ^ 20) : (if nI 0 < nI a - nI b then nI a - nI b else nI 0) = nI (a - b) := by
  have h1 := pk_sub_toInt (a := a) (b := b) (by omega) (by omega)
  by_cases c : nI 0 < nI a - nI b
  · rw [if_pos c]
    rw [Int32.lt_iff_toInt_lt, h1, show (nI 0).toInt = 0 from by decide] at c
    exact pk_sub (by omega)
  · rw [if_neg c]
    rw [Int32.lt_iff_toInt_lt, h1, show (nI 0).toInt = 0 from by decide] at c
    exact congrArg nI (by omega)
theorem mv_shp {a b : Nat} : nI a - nI b + nI 1 = nI (a + 1) - nI b := by
  rw [← nI_add, Int32.sub_eq_add_neg, Int32.sub_eq_add_neg, Int32.add_assoc, Int32.add_comm (-nI b) (nI 1), Int32.add_assoc]
def t_near (p m : Nat) : Nat := t_shl (p / 8) m (p / 8) m * t_shl (p % 8) m (p % 8) m
def t_nearB (p m q n : Nat) : Nat := t_shl (p / 8) m (q / 8) n * t_shl (p % 8) m (q % 8) n
theorem t_shl_le (x m y n : Nat) : t_shl x m y n ≤ 8 := by unfold t_shl; omega
theorem t_near_le (p m : Nat) : t_near p m ≤ 64 := Nat.mul_le_mul (t_shl_le _ _ _ _) (t_shl_le _ _ _ _)
theorem t_nearB_le (p m q n : Nat) : t_nearB p m q n ≤ 64 := Nat.mul_le_mul (t_shl_le _ _ _ _) (t_shl_le _ _ _ _)
set_option maxRecDepth 100000 in
theorem k_X11_distance {ev : mv_E} {h : mv_H} {p : Nat} {q : Nat}  (hp : p < 64) (hq : q < 64) : mv_K ev mX11_distance [.int (nI p), .int (nI q)] h (some (.int (nI (t_far p q)))) h := by
  refine mv_Kof ?_
  show mv_g ev mX11_distance 0 [.int (nI p), .int (nI q)] [] h _
  have b1 : t_ab (p / 8) (q / 8) < 8 := t_ab_lt (by omega) (by omega)
  have b2 : t_ab (p % 8) (q % 8) < 8 := t_ab_lt (by omega) (by omega)
  refine mv_iload_n dX11_distance_0 rfl ?_
  refine mv_bipush (v := nI 8) dX11_distance_1 (by decide) ?_
  refine mv_idiv dX11_distance_3 (by decide) ?_
  refine mv_topI (y := nI (p / 8)) (pk_div (by omega) (by omega) (by omega)) ?_
  refine mv_iload_n dX11_distance_4 rfl ?_
  refine mv_bipush (v := nI 8) dX11_distance_5 (by decide) ?_
  refine mv_idiv dX11_distance_7 (by decide) ?_
  refine mv_topI (y := nI (q / 8)) (pk_div (by omega) (by omega) (by omega)) ?_
  refine mv_isub dX11_distance_8 ?_
  refine mv_mabs dX11_distance_9 wd_902 (by decide) (Nat.le_of_ble_eq_true rfl) ?_
  refine mv_topI (y := nI (t_ab (p / 8) (q / 8))) (mv_abs0 (by omega) (by omega)) ?_
  refine mv_iload_n dX11_distance_12 rfl ?_
  refine mv_bipush (v := nI 8) dX11_distance_13 (by decide) ?_
  refine mv_irem dX11_distance_15 (by decide) ?_
  refine mv_topI (y := nI (p % 8)) (pk_rem (by omega) (by omega) (by omega)) ?_
  refine mv_iload_n dX11_distance_16 rfl ?_
  refine mv_bipush (v := nI 8) dX11_distance_17 (by decide) ?_
  refine mv_irem dX11_distance_19 (by decide) ?_
  refine mv_topI (y := nI (q % 8)) (pk_rem (by omega) (by omega) (by omega)) ?_
  refine mv_isub dX11_distance_20 ?_
  refine mv_mabs dX11_distance_21 wd_902 (by decide) (Nat.le_of_ble_eq_true rfl) ?_
  refine mv_topI (y := nI (t_ab (p % 8) (q % 8))) (mv_abs0 (by omega) (by omega)) ?_
  refine mv_mmax dX11_distance_24 wd_594 (by decide) (Nat.le_of_ble_eq_true rfl) ?_
  refine mv_topI (y := nI (max (t_ab (p / 8) (q / 8)) (t_ab (p % 8) (q % 8)))) (mv_nmax (by omega) (by omega)) ?_
  exact mv_iret dX11_distance_27 rfl rfl ⟨rfl, rfl⟩
set_option maxRecDepth 100000 in
theorem k_X11_sharedLength {ev : mv_E} {h : mv_H} {x : Nat} {m : Nat} {y : Nat} {n : Nat}  (hx : x < 64) (hm0 : m < 64) (hy : y < 64) (hn0 : n < 64) : mv_K ev mX11_sharedLength [.int (nI x), .int (nI m), .int (nI y), .int (nI n)] h (some (.int (nI (t_shl x m y n)))) h := by
  refine mv_Kof ?_
  show mv_g ev mX11_sharedLength 0 [.int (nI x), .int (nI m), .int (nI y), .int (nI n), .null, .null] [] h _
  refine mv_iconst (v := nI 0) dX11_sharedLength_0 (by decide) ?_
  refine mv_iload_n dX11_sharedLength_1 rfl ?_
  refine mv_iload_n dX11_sharedLength_2 rfl ?_
  refine mv_isub dX11_sharedLength_3 ?_
  refine mv_iload_n dX11_sharedLength_4 rfl ?_
  refine mv_iload_n dX11_sharedLength_5 rfl ?_
  refine mv_isub dX11_sharedLength_6 ?_
  refine mv_mmax dX11_sharedLength_7 wd_594 (by decide) (Nat.le_of_ble_eq_true rfl) ?_
  refine mv_mmax dX11_sharedLength_10 wd_594 (by decide) (Nat.le_of_ble_eq_true rfl) ?_
  refine mv_topI (y := nI (max (x - m) (y - n))) (mv_low (by omega) (by omega) (by omega) (by omega)) ?_
  refine mv_istore dX11_sharedLength_13 (by decide) ?_
  refine mv_bipush (v := nI 7) dX11_sharedLength_15 (by decide) ?_
  refine mv_iload_n dX11_sharedLength_17 rfl ?_
  refine mv_iload_n dX11_sharedLength_18 rfl ?_
  refine mv_iadd dX11_sharedLength_19 ?_
  refine mv_topI (y := nI (x + m)) (nI_add _ _) ?_
  refine mv_iload_n dX11_sharedLength_20 rfl ?_
  refine mv_iload_n dX11_sharedLength_21 rfl ?_
  refine mv_iadd dX11_sharedLength_22 ?_
  refine mv_topI (y := nI (y + n)) (nI_add _ _) ?_
  refine mv_mmin dX11_sharedLength_23 wd_597 (by decide) (Nat.le_of_ble_eq_true rfl) ?_
  refine mv_topI (y := nI (min (x + m) (y + n))) (mv_nmin (by omega) (by omega)) ?_
  refine mv_mmin dX11_sharedLength_26 wd_597 (by decide) (Nat.le_of_ble_eq_true rfl) ?_
  refine mv_topI (y := nI (min 7 (min (x + m) (y + n)))) (mv_nmin (by omega) (by omega)) ?_
  refine mv_istore dX11_sharedLength_29 (by decide) ?_
  refine mv_iconst (v := nI 0) dX11_sharedLength_31 (by decide) ?_
  refine mv_iload dX11_sharedLength_32 rfl ?_
  refine mv_iload dX11_sharedLength_34 rfl ?_
  refine mv_isub dX11_sharedLength_36 ?_
  refine mv_iconst (v := nI 1) dX11_sharedLength_37 (by decide) ?_
  refine mv_iadd dX11_sharedLength_38 ?_
  refine mv_topI (y := nI (min 7 (min (x + m) (y + n)) + 1) - nI (max (x - m) (y - n))) mv_shp ?_
  refine mv_mmax dX11_sharedLength_39 wd_594 (by decide) (Nat.le_of_ble_eq_true rfl) ?_
  refine mv_topI (y := nI (t_shl x m y n)) (mv_max0 (by omega) (by omega)) ?_
  exact mv_iret dX11_sharedLength_42 rfl rfl ⟨rfl, rfl⟩
set_option maxRecDepth 100000 in
theorem k_X11_howManyNear {ev : mv_E} {h : mv_H} {p : Nat} {m : Nat}  (hp : p < 64) (hm0 : m < 8) : mv_K ev mX11_howManyNear [.int (nI p), .int (nI m)] h (some (.int (nI (t_near p m)))) h := by
  refine mv_Kof ?_
  show mv_g ev mX11_howManyNear 0 [.int (nI p), .int (nI m)] [] h _
  refine mv_iload_n dX11_howManyNear_0 rfl ?_
  refine mv_bipush (v := nI 8) dX11_howManyNear_1 (by decide) ?_
  refine mv_idiv dX11_howManyNear_3 (by decide) ?_
  refine mv_topI (y := nI (p / 8)) (pk_div (by omega) (by omega) (by omega)) ?_
  refine mv_iload_n dX11_howManyNear_4 rfl ?_
  refine mv_iload_n dX11_howManyNear_5 rfl ?_
  refine mv_bipush (v := nI 8) dX11_howManyNear_6 (by decide) ?_
  refine mv_idiv dX11_howManyNear_8 (by decide) ?_
  refine mv_topI (y := nI (p / 8)) (pk_div (by omega) (by omega) (by omega)) ?_
  refine mv_iload_n dX11_howManyNear_9 rfl ?_
  refine mv_cS4 dX11_howManyNear_10 lk_X11_howManyNear_342 (Nat.le_of_ble_eq_true rfl) (Nat.le_of_ble_eq_true rfl) (k_X11_sharedLength (ev := ev) (by omega) (by omega) (by omega) (by omega)) ?_
  refine mv_iload_n dX11_howManyNear_13 rfl ?_
  refine mv_bipush (v := nI 8) dX11_howManyNear_14 (by decide) ?_
  refine mv_irem dX11_howManyNear_16 (by decide) ?_
  refine mv_topI (y := nI (p % 8)) (pk_rem (by omega) (by omega) (by omega)) ?_
  refine mv_iload_n dX11_howManyNear_17 rfl ?_
  refine mv_iload_n dX11_howManyNear_18 rfl ?_
  refine mv_bipush (v := nI 8) dX11_howManyNear_19 (by decide) ?_
  refine mv_irem dX11_howManyNear_21 (by decide) ?_
  refine mv_topI (y := nI (p % 8)) (pk_rem (by omega) (by omega) (by omega)) ?_
  refine mv_iload_n dX11_howManyNear_22 rfl ?_
  refine mv_cS4 dX11_howManyNear_23 lk_X11_howManyNear_342 (Nat.le_of_ble_eq_true rfl) (Nat.le_of_ble_eq_true rfl) (k_X11_sharedLength (ev := ev) (by omega) (by omega) (by omega) (by omega)) ?_
  refine mv_imul dX11_howManyNear_26 ?_
  refine mv_topI (y := nI ((t_shl (p / 8) m (p / 8) m) * (t_shl (p % 8) m (p % 8) m))) (pk_mul _ _) ?_
  exact mv_iret dX11_howManyNear_27 rfl rfl ⟨rfl, rfl⟩
set_option maxRecDepth 100000 in
theorem k_X11_howManyNearBoth {ev : mv_E} {h : mv_H} {p : Nat} {m : Nat} {q : Nat} {n : Nat}  (hp : p < 64) (hm0 : m < 8) (hq : q < 64) (hn0 : n < 8) : mv_K ev mX11_howManyNearBoth [.int (nI p), .int (nI m), .int (nI q), .int (nI n)] h (some (.int (nI (t_nearB p m q n)))) h := by
  refine mv_Kof ?_
  show mv_g ev mX11_howManyNearBoth 0 [.int (nI p), .int (nI m), .int (nI q), .int (nI n)] [] h _
  refine mv_iload_n dX11_howManyNearBoth_0 rfl ?_
  refine mv_bipush (v := nI 8) dX11_howManyNearBoth_1 (by decide) ?_
  refine mv_idiv dX11_howManyNearBoth_3 (by decide) ?_
  refine mv_topI (y := nI (p / 8)) (pk_div (by omega) (by omega) (by omega)) ?_
  refine mv_iload_n dX11_howManyNearBoth_4 rfl ?_
  refine mv_iload_n dX11_howManyNearBoth_5 rfl ?_
  refine mv_bipush (v := nI 8) dX11_howManyNearBoth_6 (by decide) ?_
  refine mv_idiv dX11_howManyNearBoth_8 (by decide) ?_
  refine mv_topI (y := nI (q / 8)) (pk_div (by omega) (by omega) (by omega)) ?_
  refine mv_iload_n dX11_howManyNearBoth_9 rfl ?_
  refine mv_cS4 dX11_howManyNearBoth_10 lk_X11_howManyNearBoth_342 (Nat.le_of_ble_eq_true rfl) (Nat.le_of_ble_eq_true rfl) (k_X11_sharedLength (ev := ev) (by omega) (by omega) (by omega) (by omega)) ?_
  refine mv_iload_n dX11_howManyNearBoth_13 rfl ?_
  refine mv_bipush (v := nI 8) dX11_howManyNearBoth_14 (by decide) ?_
  refine mv_irem dX11_howManyNearBoth_16 (by decide) ?_
  refine mv_topI (y := nI (p % 8)) (pk_rem (by omega) (by omega) (by omega)) ?_
  refine mv_iload_n dX11_howManyNearBoth_17 rfl ?_
  refine mv_iload_n dX11_howManyNearBoth_18 rfl ?_
  refine mv_bipush (v := nI 8) dX11_howManyNearBoth_19 (by decide) ?_
  refine mv_irem dX11_howManyNearBoth_21 (by decide) ?_
  refine mv_topI (y := nI (q % 8)) (pk_rem (by omega) (by omega) (by omega)) ?_
  refine mv_iload_n dX11_howManyNearBoth_22 rfl ?_
  refine mv_cS4 dX11_howManyNearBoth_23 lk_X11_howManyNearBoth_342 (Nat.le_of_ble_eq_true rfl) (Nat.le_of_ble_eq_true rfl) (k_X11_sharedLength (ev := ev) (by omega) (by omega) (by omega) (by omega)) ?_
  refine mv_imul dX11_howManyNearBoth_26 ?_
  refine mv_topI (y := nI ((t_shl (p / 8) m (q / 8) n) * (t_shl (p % 8) m (q % 8) n))) (pk_mul _ _) ?_
  exact mv_iret dX11_howManyNearBoth_27 rfl rfl ⟨rfl, rfl⟩
def t_plc (q n i : Nat) : Nat := ((q / 8 - n) + i / t_shl (q % 8) n (q % 8) n) * 8 + (q % 8 - n) + i % t_shl (q % 8) n (q % 8) n
set_option maxRecDepth 100000 in
theorem k_X11_placeNear {ev : mv_E} {h : mv_H} {q : Nat} {n : Nat} {i : Nat}  (hq : q < 64) (hn0 : n < 8) (hi : i < 64) : mv_K ev mX11_placeNear [.int (nI q), .int (nI n), .int (nI i)] h (some (.int (nI (t_plc q n i)))) h := by
  refine mv_Kof ?_
  show mv_g ev mX11_placeNear 0 [.int (nI q), .int (nI n), .int (nI i), .null, .null, .null] [] h _
  refine mv_iconst (v := nI 0) dX11_placeNear_0 (by decide) ?_
  refine mv_iload_n dX11_placeNear_1 rfl ?_
  refine mv_bipush (v := nI 8) dX11_placeNear_2 (by decide) ?_
  refine mv_idiv dX11_placeNear_4 (by decide) ?_
  refine mv_topI (y := nI (q / 8)) (pk_div (by omega) (by omega) (by omega)) ?_
  refine mv_iload_n dX11_placeNear_5 rfl ?_
  refine mv_isub dX11_placeNear_6 ?_
  refine mv_mmax dX11_placeNear_7 wd_594 (by decide) (Nat.le_of_ble_eq_true rfl) ?_
  refine mv_topI (y := nI (q / 8 - n)) (mv_max0 (by omega) (by omega)) ?_
  refine mv_istore_n dX11_placeNear_10 (by decide) ?_
  refine mv_iconst (v := nI 0) dX11_placeNear_11 (by decide) ?_
  refine mv_iload_n dX11_placeNear_12 rfl ?_
  refine mv_bipush (v := nI 8) dX11_placeNear_13 (by decide) ?_
  refine mv_irem dX11_placeNear_15 (by decide) ?_
  refine mv_topI (y := nI (q % 8)) (pk_rem (by omega) (by omega) (by omega)) ?_
  refine mv_iload_n dX11_placeNear_16 rfl ?_
  refine mv_isub dX11_placeNear_17 ?_
  refine mv_mmax dX11_placeNear_18 wd_594 (by decide) (Nat.le_of_ble_eq_true rfl) ?_
  refine mv_topI (y := nI (q % 8 - n)) (mv_max0 (by omega) (by omega)) ?_
  refine mv_istore dX11_placeNear_21 (by decide) ?_
  refine mv_iload_n dX11_placeNear_23 rfl ?_
  refine mv_bipush (v := nI 8) dX11_placeNear_24 (by decide) ?_
  refine mv_irem dX11_placeNear_26 (by decide) ?_
  refine mv_topI (y := nI (q % 8)) (pk_rem (by omega) (by omega) (by omega)) ?_
  refine mv_iload_n dX11_placeNear_27 rfl ?_
  refine mv_iload_n dX11_placeNear_28 rfl ?_
  refine mv_bipush (v := nI 8) dX11_placeNear_29 (by decide) ?_
  refine mv_irem dX11_placeNear_31 (by decide) ?_
  refine mv_topI (y := nI (q % 8)) (pk_rem (by omega) (by omega) (by omega)) ?_
  refine mv_iload_n dX11_placeNear_32 rfl ?_
  refine mv_cS4 dX11_placeNear_33 lk_X11_placeNear_342 (Nat.le_of_ble_eq_true rfl) (Nat.le_of_ble_eq_true rfl) (k_X11_sharedLength (ev := ev) (by omega) (by omega) (by omega) (by omega)) ?_
  refine mv_istore dX11_placeNear_36 (by decide) ?_
  have b1 := t_shl_le (q % 8) n (q % 8) n
  have b0 : 1 ≤ t_shl (q % 8) n (q % 8) n := by unfold t_shl; omega
  refine mv_iload dX11_placeNear_38 rfl ?_
  refine mv_iconst (v := nI 1) dX11_placeNear_40 (by decide) ?_
  refine mv_icmp_ge (tgt := 48) dX11_placeNear_41 (by decide) (fun c41 => ?_) (fun z => absurd ((nI_leI (by omega) (by omega)).mpr b0) z)
  refine mv_iload_n dX11_placeNear_48 rfl ?_
  refine mv_iload_n dX11_placeNear_49 rfl ?_
  refine mv_iload dX11_placeNear_50 rfl ?_
  refine mv_idiv dX11_placeNear_52 (by intro z; have z2 := (nI_eq (b := 0) (by omega) (by omega)).mp z; omega) ?_
  refine mv_topI (y := nI (i / (t_shl (q % 8) n (q % 8) n))) (pk_div (by omega) (by omega) (by omega)) ?_
  refine mv_iadd dX11_placeNear_53 ?_
  refine mv_topI (y := nI ((q / 8 - n) + (i / (t_shl (q % 8) n (q % 8) n)))) (nI_add _ _) ?_
  refine mv_bipush (v := nI 8) dX11_placeNear_54 (by decide) ?_
  refine mv_imul dX11_placeNear_56 ?_
  refine mv_topI (y := nI (((q / 8 - n) + (i / (t_shl (q % 8) n (q % 8) n))) * 8)) (pk_mul _ _) ?_
  refine mv_iload dX11_placeNear_57 rfl ?_
  refine mv_iadd dX11_placeNear_59 ?_
  refine mv_topI (y := nI ((((q / 8 - n) + (i / (t_shl (q % 8) n (q % 8) n))) * 8) + (q % 8 - n))) (nI_add _ _) ?_
  refine mv_iload_n dX11_placeNear_60 rfl ?_
  refine mv_iload dX11_placeNear_61 rfl ?_
  refine mv_irem dX11_placeNear_63 (by intro z; have z2 := (nI_eq (b := 0) (by omega) (by omega)).mp z; omega) ?_
  refine mv_topI (y := nI (i % (t_shl (q % 8) n (q % 8) n))) (pk_rem (by omega) (by omega) (by omega)) ?_
  refine mv_iadd dX11_placeNear_64 ?_
  refine mv_topI (y := nI (((((q / 8 - n) + (i / (t_shl (q % 8) n (q % 8) n))) * 8) + (q % 8 - n)) + (i % (t_shl (q % 8) n (q % 8) n)))) (nI_add _ _) ?_
  exact mv_iret dX11_placeNear_65 rfl rfl ⟨rfl, rfl⟩
