set_option maxRecDepth 100000 in
theorem k_X11_within {ev : mv_E} {h : mv_H} {x : Int32} {lo : Int32} {hi : Int32}   : mv_K ev mX11_within [.int x, .int lo, .int hi] h (some (.int (mv_b (lo ≤ x ∧ x ≤ hi)))) h := by
  refine mv_Kof ?_
  show mv_g ev mX11_within 0 [.int x, .int lo, .int hi] [] h _
  refine mv_iload_n dX11_within_0 rfl ?_
  refine mv_iload_n dX11_within_1 rfl ?_
  refine mv_icmp_lt (tgt := 14) dX11_within_2 (by decide) (fun c2 => ?_) (fun c2 => ?_)
  · skip
    refine mv_iconst (v := nI 0) dX11_within_14 (by decide) ?_
    exact mv_iret dX11_within_15 rfl rfl ⟨(congrArg (fun z => some (Value.int z)) (by first | exact (mv_b_t ⟨Int32.not_lt.mp c2, Int32.not_lt.mp c7⟩).symm | exact (mv_b_f (fun z => absurd z.1 (Int32.not_le.mpr c2))).symm | exact (mv_b_f (fun z => absurd z.2 (Int32.not_le.mpr c7))).symm)), rfl⟩
  · skip
    refine mv_iload_n dX11_within_5 rfl ?_
    refine mv_iload_n dX11_within_6 rfl ?_
    refine mv_icmp_gt (tgt := 14) dX11_within_7 (by decide) (fun c7 => ?_) (fun c7 => ?_)
    · skip
      refine mv_iconst (v := nI 0) dX11_within_14 (by decide) ?_
      exact mv_iret dX11_within_15 rfl rfl ⟨(congrArg (fun z => some (Value.int z)) (by first | exact (mv_b_t ⟨Int32.not_lt.mp c2, Int32.not_lt.mp c7⟩).symm | exact (mv_b_f (fun z => absurd z.1 (Int32.not_le.mpr c2))).symm | exact (mv_b_f (fun z => absurd z.2 (Int32.not_le.mpr c7))).symm)), rfl⟩
    · skip
      refine mv_iconst (v := nI 1) dX11_within_10 (by decide) ?_
      refine mv_goto (tgt := 15) dX11_within_11 (by decide) ?_
      exact mv_iret dX11_within_15 rfl rfl ⟨(congrArg (fun z => some (Value.int z)) (by first | exact (mv_b_t ⟨Int32.not_lt.mp c2, Int32.not_lt.mp c7⟩).symm | exact (mv_b_f (fun z => absurd z.1 (Int32.not_le.mpr c2))).symm | exact (mv_b_f (fun z => absurd z.2 (Int32.not_le.mpr c7))).symm)), rfl⟩
set_option maxRecDepth 100000 in
theorem k_X11_isPlace {ev : mv_E} {h : mv_H} {x : Int32}   : mv_K ev mX11_isPlace [.int x] h (some (.int (mv_b (nI 0 ≤ x ∧ x ≤ nI 63)))) h := by
  refine mv_Kof ?_
  show mv_g ev mX11_isPlace 0 [.int x] [] h _
  refine mv_iload_n dX11_isPlace_0 rfl ?_
  refine mv_iconst (v := nI 0) dX11_isPlace_1 (by decide) ?_
  refine mv_bipush (v := nI 63) dX11_isPlace_2 (by decide) ?_
  refine mv_cS3 dX11_isPlace_4 lk_X11_isPlace_96 (Nat.le_of_ble_eq_true rfl) (Nat.le_of_ble_eq_true rfl) (k_X11_within) ?_
  exact mv_iret dX11_isPlace_7 rfl (mv_b_nar _) ⟨rfl, rfl⟩
set_option maxRecDepth 100000 in
theorem k_X11_isDistance {ev : mv_E} {h : mv_H} {x : Int32}   : mv_K ev mX11_isDistance [.int x] h (some (.int (mv_b (nI 0 ≤ x ∧ x ≤ nI 7)))) h := by
  refine mv_Kof ?_
  show mv_g ev mX11_isDistance 0 [.int x] [] h _
  refine mv_iload_n dX11_isDistance_0 rfl ?_
  refine mv_iconst (v := nI 0) dX11_isDistance_1 (by decide) ?_
  refine mv_bipush (v := nI 7) dX11_isDistance_2 (by decide) ?_
  refine mv_cS3 dX11_isDistance_4 lk_X11_isDistance_96 (Nat.le_of_ble_eq_true rfl) (Nat.le_of_ble_eq_true rfl) (k_X11_within) ?_
  exact mv_iret dX11_isDistance_7 rfl (mv_b_nar _) ⟨rfl, rfl⟩
set_option maxRecDepth 100000 in
theorem k_X11_isDay {ev : mv_E} {h : mv_H} {x : Int32}   : mv_K ev mX11_isDay [.int x] h (some (.int (mv_b (nI 0 ≤ x ∧ x ≤ nI 399)))) h := by
  refine mv_Kof ?_
  show mv_g ev mX11_isDay 0 [.int x] [] h _
  refine mv_iload_n dX11_isDay_0 rfl ?_
  refine mv_iconst (v := nI 0) dX11_isDay_1 (by decide) ?_
  refine mv_sipush (v := nI 399) dX11_isDay_2 (by decide) ?_
  refine mv_cS3 dX11_isDay_5 lk_X11_isDay_96 (Nat.le_of_ble_eq_true rfl) (Nat.le_of_ble_eq_true rfl) (k_X11_within) ?_
  exact mv_iret dX11_isDay_8 rfl (mv_b_nar _) ⟨rfl, rfl⟩
set_option maxRecDepth 100000 in
theorem k_X11_isSize {ev : mv_E} {h : mv_H} {x : Int32}   : mv_K ev mX11_isSize [.int x] h (some (.int (mv_b (nI 1 ≤ x ∧ x ≤ nI 9)))) h := by
  refine mv_Kof ?_
  show mv_g ev mX11_isSize 0 [.int x] [] h _
  refine mv_iload_n dX11_isSize_0 rfl ?_
  refine mv_iconst (v := nI 1) dX11_isSize_1 (by decide) ?_
  refine mv_bipush (v := nI 9) dX11_isSize_2 (by decide) ?_
  refine mv_cS3 dX11_isSize_4 lk_X11_isSize_96 (Nat.le_of_ble_eq_true rfl) (Nat.le_of_ble_eq_true rfl) (k_X11_within) ?_
  exact mv_iret dX11_isSize_7 rfl (mv_b_nar _) ⟨rfl, rfl⟩
set_option maxRecDepth 100000 in
theorem k_X11_isKind {ev : mv_E} {h : mv_H} {x : Int32}   : mv_K ev mX11_isKind [.int x] h (some (.int (mv_b (nI 0 ≤ x ∧ x ≤ nI 7)))) h := by
  refine mv_Kof ?_
  show mv_g ev mX11_isKind 0 [.int x] [] h _
  refine mv_iload_n dX11_isKind_0 rfl ?_
  refine mv_iconst (v := nI 0) dX11_isKind_1 (by decide) ?_
  refine mv_bipush (v := nI 7) dX11_isKind_2 (by decide) ?_
  refine mv_cS3 dX11_isKind_4 lk_X11_isKind_96 (Nat.le_of_ble_eq_true rfl) (Nat.le_of_ble_eq_true rfl) (k_X11_within) ?_
  exact mv_iret dX11_isKind_7 rfl (mv_b_nar _) ⟨rfl, rfl⟩
set_option maxRecDepth 100000 in
theorem k_X11_isKindSet {ev : mv_E} {h : mv_H} {x : Int32}   : mv_K ev mX11_isKindSet [.int x] h (some (.int (mv_b (nI 0 ≤ x ∧ x ≤ nI 255)))) h := by
  refine mv_Kof ?_
  show mv_g ev mX11_isKindSet 0 [.int x] [] h _
  refine mv_iload_n dX11_isKindSet_0 rfl ?_
  refine mv_iconst (v := nI 0) dX11_isKindSet_1 (by decide) ?_
  refine mv_sipush (v := nI 255) dX11_isKindSet_2 (by decide) ?_
  refine mv_cS3 dX11_isKindSet_5 lk_X11_isKindSet_96 (Nat.le_of_ble_eq_true rfl) (Nat.le_of_ble_eq_true rfl) (k_X11_within) ?_
  exact mv_iret dX11_isKindSet_8 rfl (mv_b_nar _) ⟨rfl, rfl⟩
set_option maxRecDepth 100000 in
theorem k_X11_isWindow {ev : mv_E} {h : mv_H} {x : Int32}   : mv_K ev mX11_isWindow [.int x] h (some (.int (mv_b (nI 1 ≤ x ∧ x ≤ nI 60)))) h := by
  refine mv_Kof ?_
  show mv_g ev mX11_isWindow 0 [.int x] [] h _
  refine mv_iload_n dX11_isWindow_0 rfl ?_
  refine mv_iconst (v := nI 1) dX11_isWindow_1 (by decide) ?_
  refine mv_bipush (v := nI 60) dX11_isWindow_2 (by decide) ?_
  refine mv_cS3 dX11_isWindow_4 lk_X11_isWindow_96 (Nat.le_of_ble_eq_true rfl) (Nat.le_of_ble_eq_true rfl) (k_X11_within) ?_
  exact mv_iret dX11_isWindow_7 rfl (mv_b_nar _) ⟨rfl, rfl⟩
set_option maxRecDepth 100000 in
theorem k_X11_isThousandth {ev : mv_E} {h : mv_H} {x : Int32}   : mv_K ev mX11_isThousandth [.int x] h (some (.int (mv_b (nI 0 ≤ x ∧ x ≤ nI 1000)))) h := by
  refine mv_Kof ?_
  show mv_g ev mX11_isThousandth 0 [.int x] [] h _
  refine mv_iload_n dX11_isThousandth_0 rfl ?_
  refine mv_iconst (v := nI 0) dX11_isThousandth_1 (by decide) ?_
  refine mv_sipush (v := nI 1000) dX11_isThousandth_2 (by decide) ?_
  refine mv_cS3 dX11_isThousandth_5 lk_X11_isThousandth_96 (Nat.le_of_ble_eq_true rfl) (Nat.le_of_ble_eq_true rfl) (k_X11_within) ?_
  exact mv_iret dX11_isThousandth_8 rfl (mv_b_nar _) ⟨rfl, rfl⟩
theorem mv_lL {a : Nat} {p : Int32} (h : a < 2 ^ 31) : lN a ≤ p.toInt64 ↔ nI a ≤ p := by rw [← nI_l h, mv_l_le]
theorem mv_lR {a : Nat} {p : Int32} (h : a < 2 ^ 31) : p.toInt64 ≤ lN a ↔ p ≤ nI a := by rw [← nI_l h, mv_l_le]
set_option maxRecDepth 100000 in
theorem k_X12_in {ev : mv_E} {h : mv_H} {u : Int64} {v : Int64} {w : Int64}   : mv_K ev mX12_in [.long u, .long v, .long w] h (some (.int (mv_b (v ≤ u ∧ u ≤ w)))) h := by
  refine mv_Kof ?_
  show mv_g ev mX12_in 0 [.long u, .null, .long v, .null, .long w, .null] [] h _
  refine mv_lload_n dX12_in_0 rfl ?_
  refine mv_lload_n dX12_in_1 rfl ?_
  refine mv_lcmp dX12_in_2 ?_
  refine mv_if_lt (tgt := 17) dX12_in_3 (by decide) (fun c3 => ?_) (fun c3 => ?_)
  · have c3 := (lg_cmp_lt _ _).mp c3
    refine mv_iconst (v := nI 0) dX12_in_17 (by decide) ?_
    exact mv_iret dX12_in_18 rfl rfl ⟨(congrArg (fun z => some (Value.int z)) (by first | exact (mv_b_t ⟨Int64.not_lt.mp c3, Int64.not_lt.mp c10⟩).symm | exact (mv_b_f (fun z => absurd z.1 (Int64.not_le.mpr c3))).symm | exact (mv_b_f (fun z => absurd z.2 (Int64.not_le.mpr c10))).symm)), rfl⟩
  · have c3 := fun z => c3 ((lg_cmp_lt _ _).mpr z)
    refine mv_lload_n dX12_in_6 rfl ?_
    refine mv_lload dX12_in_7 rfl ?_
    refine mv_lcmp dX12_in_9 ?_
    refine mv_if_gt (tgt := 17) dX12_in_10 (by decide) (fun c10 => ?_) (fun c10 => ?_)
    · have c10 := (lg_cmp_gt _ _).mp c10
      refine mv_iconst (v := nI 0) dX12_in_17 (by decide) ?_
      exact mv_iret dX12_in_18 rfl rfl ⟨(congrArg (fun z => some (Value.int z)) (by first | exact (mv_b_t ⟨Int64.not_lt.mp c3, Int64.not_lt.mp c10⟩).symm | exact (mv_b_f (fun z => absurd z.1 (Int64.not_le.mpr c3))).symm | exact (mv_b_f (fun z => absurd z.2 (Int64.not_le.mpr c10))).symm)), rfl⟩
    · have c10 := fun z => c10 ((lg_cmp_gt _ _).mpr z)
      refine mv_iconst (v := nI 1) dX12_in_13 (by decide) ?_
      refine mv_goto (tgt := 18) dX12_in_14 (by decide) ?_
      exact mv_iret dX12_in_18 rfl rfl ⟨(congrArg (fun z => some (Value.int z)) (by first | exact (mv_b_t ⟨Int64.not_lt.mp c3, Int64.not_lt.mp c10⟩).symm | exact (mv_b_f (fun z => absurd z.1 (Int64.not_le.mpr c3))).symm | exact (mv_b_f (fun z => absurd z.2 (Int64.not_le.mpr c10))).symm)), rfl⟩
set_option maxRecDepth 100000 in
theorem k_X12_isPlace {ev : mv_E} {h : mv_H} {x : Int32}   : mv_K ev mX12_isPlace [.int x] h (some (.int (mv_b (nI 0 ≤ x ∧ x ≤ nI 63)))) h := by
  refine mv_Kof ?_
  show mv_g ev mX12_isPlace 0 [.int x] [] h _
  refine mv_iload_n dX12_isPlace_0 rfl ?_
  refine mv_i2l dX12_isPlace_1 ?_
  refine mv_lconst (v := lN 0) dX12_isPlace_2 rfl ?_
  refine mv_ldc2 (v := lN 63) dX12_isPlace_3 wd_1330 ?_
  refine mv_cS3 dX12_isPlace_6 lk_X12_isPlace_107 (Nat.le_of_ble_eq_true rfl) (Nat.le_of_ble_eq_true rfl) (k_X12_in) ?_
  exact mv_iret dX12_isPlace_9 rfl (mv_b_nar _) ⟨(congrArg (fun z => some (Value.int z)) (mv_b_c (and_congr (mv_lL (by decide)) (mv_lR (by decide))))), rfl⟩
set_option maxRecDepth 100000 in
theorem k_X12_isDay {ev : mv_E} {h : mv_H} {x : Int32}   : mv_K ev mX12_isDay [.int x] h (some (.int (mv_b (nI 0 ≤ x ∧ x ≤ nI 399)))) h := by
  refine mv_Kof ?_
  show mv_g ev mX12_isDay 0 [.int x] [] h _
  refine mv_iload_n dX12_isDay_0 rfl ?_
  refine mv_i2l dX12_isDay_1 ?_
  refine mv_lconst (v := lN 0) dX12_isDay_2 rfl ?_
  refine mv_ldc2 (v := lN 399) dX12_isDay_3 wd_1423 ?_
  refine mv_cS3 dX12_isDay_6 lk_X12_isDay_107 (Nat.le_of_ble_eq_true rfl) (Nat.le_of_ble_eq_true rfl) (k_X12_in) ?_
  exact mv_iret dX12_isDay_9 rfl (mv_b_nar _) ⟨(congrArg (fun z => some (Value.int z)) (mv_b_c (and_congr (mv_lL (by decide)) (mv_lR (by decide))))), rfl⟩
set_option maxRecDepth 100000 in
theorem k_X12_isSize {ev : mv_E} {h : mv_H} {x : Int32}   : mv_K ev mX12_isSize [.int x] h (some (.int (mv_b (nI 1 ≤ x ∧ x ≤ nI 9)))) h := by
  refine mv_Kof ?_
  show mv_g ev mX12_isSize 0 [.int x] [] h _
  refine mv_iload_n dX12_isSize_0 rfl ?_
  refine mv_i2l dX12_isSize_1 ?_
  refine mv_lconst (v := lN 1) dX12_isSize_2 rfl ?_
  refine mv_ldc2 (v := lN 9) dX12_isSize_3 wd_1409 ?_
  refine mv_cS3 dX12_isSize_6 lk_X12_isSize_107 (Nat.le_of_ble_eq_true rfl) (Nat.le_of_ble_eq_true rfl) (k_X12_in) ?_
  exact mv_iret dX12_isSize_9 rfl (mv_b_nar _) ⟨(congrArg (fun z => some (Value.int z)) (mv_b_c (and_congr (mv_lL (by decide)) (mv_lR (by decide))))), rfl⟩
set_option maxRecDepth 100000 in
theorem k_X12_isNear {ev : mv_E} {h : mv_H} {x : Int32}   : mv_K ev mX12_isNear [.int x] h (some (.int (mv_b (nI 0 ≤ x ∧ x ≤ nI 7)))) h := by
  refine mv_Kof ?_
  show mv_g ev mX12_isNear 0 [.int x] [] h _
  refine mv_iload_n dX12_isNear_0 rfl ?_
  refine mv_i2l dX12_isNear_1 ?_
  refine mv_lconst (v := lN 0) dX12_isNear_2 rfl ?_
  refine mv_ldc2 (v := lN 7) dX12_isNear_3 wd_1337 ?_
  refine mv_cS3 dX12_isNear_6 lk_X12_isNear_107 (Nat.le_of_ble_eq_true rfl) (Nat.le_of_ble_eq_true rfl) (k_X12_in) ?_
  exact mv_iret dX12_isNear_9 rfl (mv_b_nar _) ⟨(congrArg (fun z => some (Value.int z)) (mv_b_c (and_congr (mv_lL (by decide)) (mv_lR (by decide))))), rfl⟩
set_option maxRecDepth 100000 in
theorem k_X12_isKind {ev : mv_E} {h : mv_H} {x : Int32}   : mv_K ev mX12_isKind [.int x] h (some (.int (mv_b (nI 0 ≤ x ∧ x ≤ nI 7)))) h := by
  refine mv_Kof ?_
  show mv_g ev mX12_isKind 0 [.int x] [] h _
  refine mv_iload_n dX12_isKind_0 rfl ?_
  refine mv_i2l dX12_isKind_1 ?_
  refine mv_lconst (v := lN 0) dX12_isKind_2 rfl ?_
  refine mv_ldc2 (v := lN 7) dX12_isKind_3 wd_1337 ?_
  refine mv_cS3 dX12_isKind_6 lk_X12_isKind_107 (Nat.le_of_ble_eq_true rfl) (Nat.le_of_ble_eq_true rfl) (k_X12_in) ?_
  exact mv_iret dX12_isKind_9 rfl (mv_b_nar _) ⟨(congrArg (fun z => some (Value.int z)) (mv_b_c (and_congr (mv_lL (by decide)) (mv_lR (by decide))))), rfl⟩
set_option maxRecDepth 100000 in
theorem k_X12_isWide {ev : mv_E} {h : mv_H} {x : Int32}   : mv_K ev mX12_isWide [.int x] h (some (.int (mv_b (nI 1 ≤ x ∧ x ≤ nI 60)))) h := by
  refine mv_Kof ?_
  show mv_g ev mX12_isWide 0 [.int x] [] h _
  refine mv_iload_n dX12_isWide_0 rfl ?_
  refine mv_i2l dX12_isWide_1 ?_
  refine mv_lconst (v := lN 1) dX12_isWide_2 rfl ?_
  refine mv_ldc2 (v := lN 60) dX12_isWide_3 wd_1550 ?_
  refine mv_cS3 dX12_isWide_6 lk_X12_isWide_107 (Nat.le_of_ble_eq_true rfl) (Nat.le_of_ble_eq_true rfl) (k_X12_in) ?_
  exact mv_iret dX12_isWide_9 rfl (mv_b_nar _) ⟨(congrArg (fun z => some (Value.int z)) (mv_b_c (and_congr (mv_lL (by decide)) (mv_lR (by decide))))), rfl⟩
set_option maxRecDepth 100000 in
theorem k_X12_far {ev : mv_E} {h : mv_H} {p : Nat} {q : Nat}  (hp : p < 64) (hq : q < 64) : mv_K ev mX12_far [.int (nI p), .int (nI q)] h (some (.int (nI (t_far p q)))) h := by
  refine mv_Kof ?_
  show mv_g ev mX12_far 0 [.int (nI p), .int (nI q), .null, .null] [] h _
  have b1 : t_ab (p / 8) (q / 8) < 8 := t_ab_lt (by omega) (by omega)
  have b2 : t_ab (p % 8) (q % 8) < 8 := t_ab_lt (by omega) (by omega)
  refine mv_iload_n dX12_far_0 rfl ?_
  refine mv_bipush (v := nI 8) dX12_far_1 (by decide) ?_
  refine mv_idiv dX12_far_3 (by decide) ?_
  refine mv_topI (y := nI (p / 8)) (pk_div (by omega) (by omega) (by omega)) ?_
  refine mv_iload_n dX12_far_4 rfl ?_
  refine mv_bipush (v := nI 8) dX12_far_5 (by decide) ?_
  refine mv_idiv dX12_far_7 (by decide) ?_
  refine mv_topI (y := nI (q / 8)) (pk_div (by omega) (by omega) (by omega)) ?_
  refine mv_isub dX12_far_8 ?_
  refine mv_istore_n dX12_far_9 (by decide) ?_
  refine mv_iload_n dX12_far_10 rfl ?_
  refine mv_bipush (v := nI 8) dX12_far_11 (by decide) ?_
  refine mv_irem dX12_far_13 (by decide) ?_
  refine mv_topI (y := nI (p % 8)) (pk_rem (by omega) (by omega) (by omega)) ?_
  refine mv_iload_n dX12_far_14 rfl ?_
  refine mv_bipush (v := nI 8) dX12_far_15 (by decide) ?_
  refine mv_irem dX12_far_17 (by decide) ?_
  refine mv_topI (y := nI (q % 8)) (pk_rem (by omega) (by omega) (by omega)) ?_
  refine mv_isub dX12_far_18 ?_
  refine mv_istore_n dX12_far_19 (by decide) ?_
  refine mv_iload_n dX12_far_20 rfl ?_
  refine mv_if_ge (tgt := 29) dX12_far_21 (by decide) (fun c21 => ?_) (fun c21 => ?_)
  · skip
    refine mv_iload_n dX12_far_29 rfl ?_
    refine mv_topI (y := nI (t_ab (p / 8) (q / 8))) (by first | exact mv_absP (by omega) (by omega) c21 | exact mv_absN (by omega) (by omega) c21) ?_
    refine mv_istore_n dX12_far_30 (by decide) ?_
    refine mv_iload_n dX12_far_31 rfl ?_
    refine mv_if_ge (tgt := 40) dX12_far_32 (by decide) (fun c32 => ?_) (fun c32 => ?_)
    · skip
      refine mv_iload_n dX12_far_40 rfl ?_
      refine mv_topI (y := nI (t_ab (p % 8) (q % 8))) (by first | exact mv_absP (by omega) (by omega) c32 | exact mv_absN (by omega) (by omega) c32) ?_
      refine mv_istore_n dX12_far_41 (by decide) ?_
      refine mv_iload_n dX12_far_42 rfl ?_
      refine mv_iload_n dX12_far_43 rfl ?_
      refine mv_icmp_le (tgt := 51) dX12_far_44 (by decide) (fun c44 => ?_) (fun c44 => ?_)
      · have c44 : t_ab (p / 8) (q / 8) ≤ t_ab (p % 8) (q % 8) := (nI_leI (by omega) (by omega)).mp c44
        refine mv_iload_n dX12_far_51 rfl ?_
        exact mv_iret dX12_far_52 rfl rfl ⟨(congrArg (fun z => some (Value.int z)) (congrArg nI (by unfold t_far; first | rw [Nat.max_eq_left (by omega)] | rw [Nat.max_eq_right (by omega)]))), rfl⟩
      · have c44 : ¬ (t_ab (p / 8) (q / 8) ≤ t_ab (p % 8) (q % 8)) := fun z => c44 ((nI_leI (by omega) (by omega)).mpr z)
        refine mv_iload_n dX12_far_47 rfl ?_
        refine mv_goto (tgt := 52) dX12_far_48 (by decide) ?_
        exact mv_iret dX12_far_52 rfl rfl ⟨(congrArg (fun z => some (Value.int z)) (congrArg nI (by unfold t_far; first | rw [Nat.max_eq_left (by omega)] | rw [Nat.max_eq_right (by omega)]))), rfl⟩
    · skip
      refine mv_iload_n dX12_far_35 rfl ?_
      refine mv_ineg dX12_far_36 ?_
      refine mv_goto (tgt := 41) dX12_far_37 (by decide) ?_
      refine mv_topI (y := nI (t_ab (p % 8) (q % 8))) (by first | exact mv_absP (by omega) (by omega) c32 | exact mv_absN (by omega) (by omega) c32) ?_
      refine mv_istore_n dX12_far_41 (by decide) ?_
      refine mv_iload_n dX12_far_42 rfl ?_
      refine mv_iload_n dX12_far_43 rfl ?_
      refine mv_icmp_le (tgt := 51) dX12_far_44 (by decide) (fun c44 => ?_) (fun c44 => ?_)
      · have c44 : t_ab (p / 8) (q / 8) ≤ t_ab (p % 8) (q % 8) := (nI_leI (by omega) (by omega)).mp c44
        refine mv_iload_n dX12_far_51 rfl ?_
        exact mv_iret dX12_far_52 rfl rfl ⟨(congrArg (fun z => some (Value.int z)) (congrArg nI (by unfold t_far; first | rw [Nat.max_eq_left (by omega)] | rw [Nat.max_eq_right (by omega)]))), rfl⟩
      · have c44 : ¬ (t_ab (p / 8) (q / 8) ≤ t_ab (p % 8) (q % 8)) := fun z => c44 ((nI_leI (by omega) (by omega)).mpr z)
        refine mv_iload_n dX12_far_47 rfl ?_
        refine mv_goto (tgt := 52) dX12_far_48 (by decide) ?_
        exact mv_iret dX12_far_52 rfl rfl ⟨(congrArg (fun z => some (Value.int z)) (congrArg nI (by unfold t_far; first | rw [Nat.max_eq_left (by omega)] | rw [Nat.max_eq_right (by omega)]))), rfl⟩
  · skip
    refine mv_iload_n dX12_far_24 rfl ?_
    refine mv_ineg dX12_far_25 ?_
    refine mv_goto (tgt := 30) dX12_far_26 (by decide) ?_
    refine mv_topI (y := nI (t_ab (p / 8) (q / 8))) (by first | exact mv_absP (by omega) (by omega) c21 | exact mv_absN (by omega) (by omega) c21) ?_
    refine mv_istore_n dX12_far_30 (by decide) ?_
    refine mv_iload_n dX12_far_31 rfl ?_
    refine mv_if_ge (tgt := 40) dX12_far_32 (by decide) (fun c32 => ?_) (fun c32 => ?_)
    · skip
      refine mv_iload_n dX12_far_40 rfl ?_
      refine mv_topI (y := nI (t_ab (p % 8) (q % 8))) (by first | exact mv_absP (by omega) (by omega) c32 | exact mv_absN (by omega) (by omega) c32) ?_
      refine mv_istore_n dX12_far_41 (by decide) ?_
      refine mv_iload_n dX12_far_42 rfl ?_
      refine mv_iload_n dX12_far_43 rfl ?_
      refine mv_icmp_le (tgt := 51) dX12_far_44 (by decide) (fun c44 => ?_) (fun c44 => ?_)
      · have c44 : t_ab (p / 8) (q / 8) ≤ t_ab (p % 8) (q % 8) := (nI_leI (by omega) (by omega)).mp c44
        refine mv_iload_n dX12_far_51 rfl ?_
        exact mv_iret dX12_far_52 rfl rfl ⟨(congrArg (fun z => some (Value.int z)) (congrArg nI (by unfold t_far; first | rw [Nat.max_eq_left (by omega)] | rw [Nat.max_eq_right (by omega)]))), rfl⟩
      · have c44 : ¬ (t_ab (p / 8) (q / 8) ≤ t_ab (p % 8) (q % 8)) := fun z => c44 ((nI_leI (by omega) (by omega)).mpr z)
        refine mv_iload_n dX12_far_47 rfl ?_
        refine mv_goto (tgt := 52) dX12_far_48 (by decide) ?_
        exact mv_iret dX12_far_52 rfl rfl ⟨(congrArg (fun z => some (Value.int z)) (congrArg nI (by unfold t_far; first | rw [Nat.max_eq_left (by omega)] | rw [Nat.max_eq_right (by omega)]))), rfl⟩
    · skip
      refine mv_iload_n dX12_far_35 rfl ?_
      refine mv_ineg dX12_far_36 ?_
      refine mv_goto (tgt := 41) dX12_far_37 (by decide) ?_
      refine mv_topI (y := nI (t_ab (p % 8) (q % 8))) (by first | exact mv_absP (by omega) (by omega) c32 | exact mv_absN (by omega) (by omega) c32) ?_
      refine mv_istore_n dX12_far_41 (by decide) ?_
      refine mv_iload_n dX12_far_42 rfl ?_
      refine mv_iload_n dX12_far_43 rfl ?_
      refine mv_icmp_le (tgt := 51) dX12_far_44 (by decide) (fun c44 => ?_) (fun c44 => ?_)
      · have c44 : t_ab (p / 8) (q / 8) ≤ t_ab (p % 8) (q % 8) := (nI_leI (by omega) (by omega)).mp c44
        refine mv_iload_n dX12_far_51 rfl ?_
        exact mv_iret dX12_far_52 rfl rfl ⟨(congrArg (fun z => some (Value.int z)) (congrArg nI (by unfold t_far; first | rw [Nat.max_eq_left (by omega)] | rw [Nat.max_eq_right (by omega)]))), rfl⟩
      · have c44 : ¬ (t_ab (p / 8) (q / 8) ≤ t_ab (p % 8) (q % 8)) := fun z => c44 ((nI_leI (by omega) (by omega)).mpr z)
        refine mv_iload_n dX12_far_47 rfl ?_
        refine mv_goto (tgt := 52) dX12_far_48 (by decide) ?_
        exact mv_iret dX12_far_52 rfl rfl ⟨(congrArg (fun z => some (Value.int z)) (congrArg nI (by unfold t_far; first | rw [Nat.max_eq_left (by omega)] | rw [Nat.max_eq_right (by omega)]))), rfl⟩
def t_cN (p m k : Nat) : Nat := ((List.range k).filter (fun q => decide (t_far p q ≤ m))).length
theorem t_cN_s (p m k : Nat) : t_cN p m (k + 1) = t_cN p m k + (if t_far p k ≤ m then 1 else 0) := by
  unfold t_cN
  rw [List.range_succ, List.filter_append, List.length_append]
  by_cases h : t_far p k ≤ m <;> simp [h]
theorem t_cN_le (p m k : Nat) : t_cN p m k ≤ k := by
  unfold t_cN
  exact Nat.le_trans (List.length_filter_le _ _) (by simp)
def t_bN (p m q n k : Nat) : Nat := ((List.range k).filter (fun j => decide (t_far p j ≤ m) && decide (t_far q j ≤ n))).length
theorem t_bN_s (p m q n k : Nat) : t_bN p m q n (k + 1) = t_bN p m q n k + (if t_far p k ≤ m ∧ t_far q k ≤ n then 1 else 0) := by
  unfold t_bN
  rw [List.range_succ, List.filter_append, List.length_append]
  by_cases h : t_far p k ≤ m <;> by_cases h2 : t_far q k ≤ n <;> simp [h, h2]
theorem t_bN_le (p m q n k : Nat) : t_bN p m q n k ≤ k := by
  unfold t_bN
  exact Nat.le_trans (List.length_filter_le _ _) (by simp)
