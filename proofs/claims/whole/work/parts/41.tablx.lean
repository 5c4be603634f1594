set_option maxRecDepth 100000 in
theorem k_X12_window_R1 {ev : mv_E} {h : mv_H} {xt : Int32} {xf : Int32} {xa : Int32} {xo : Int64} {xe : Int32} {xu : Int32} {xs : Int32} {xg : Int32} {xc : Int32} {xw : Int32} {b : t_B} {t : Nat} {k : Int32} {w : Int32} {m : Int32} {set : Int32} (HX : h[52]? = some (.inr (12, [.ref 53, .ref 54, .int xt, .int xf, .int xa, .long xo, .int xe, .int xu, .ref 55, .int xs, .int (nI b.1), .ref 56, .ref 57, .ref 58, .int (nI t), .int (nI b.2.1), .ref 59, .ref 60, .ref 61, .ref 62, .int xg, .ref 63, .ref 64, .ref 65, .ref 66, .ref 67, .ref 68, .ref 69, .int xc, .ref 70, .ref 71, .ref 72, .ref 73, .ref 74, .ref 75, .int xw, .ref 76, .ref 77, .ref 78, .ref 79, .ref 80]))) (hn : b.1 ≤ 60) (hno : ¬ ((0 ≤ k ∧ k < nI b.1 ∧ k < nI 60))) : mv_K ev mX12_window [.ref 52, .int k, .int w, .int m, .int set] h (some (.int (-1001))) h := by
  refine mv_Kof ?_
  show mv_g ev mX12_window 0 [.ref 52, .int k, .int w, .int m, .int set, .null, .null, .null] [] h _
  refine mv_aload_n dX12_window_0 rfl ?_
  refine mv_iload_n dX12_window_1 rfl ?_
  refine mv_cV1 (ci := 12) dX12_window_2 lk_X12_window_246 HX rfl (Nat.le_of_ble_eq_true rfl) (Nat.le_of_ble_eq_true rfl) (k_X12_isShake (ev := ev) HX hn) ?_
  refine mv_if_ne (tgt := 12) dX12_window_5 (by decide) (fun c5 => ?_) (fun c5 => ?_)
  · have c5 : 0 ≤ k ∧ k < nI b.1 ∧ k < nI 60 := Classical.byContradiction (fun z => c5 ((mv_b_0 _).mpr z))
    exact absurd (by assumption) hno
  · have c5 : ¬ (0 ≤ k ∧ k < nI b.1 ∧ k < nI 60) := (mv_b_0 _).mp c5
    refine mv_sipush (v := (-1001)) dX12_window_8 (by decide) ?_
    exact mv_iret dX12_window_11 rfl rfl ⟨rfl, rfl⟩
set_option maxRecDepth 100000 in
theorem k_X12_window_R2 {ev : mv_E} {h : mv_H} {xt : Int32} {xf : Int32} {xa : Int32} {xo : Int64} {xe : Int32} {xu : Int32} {xs : Int32} {xg : Int32} {xc : Int32} {xw : Int32} {b : t_B} {t : Nat} {k : Nat} {w : Int32} {m : Int32} {set : Int32} (HX : h[52]? = some (.inr (12, [.ref 53, .ref 54, .int xt, .int xf, .int xa, .long xo, .int xe, .int xu, .ref 55, .int xs, .int (nI b.1), .ref 56, .ref 57, .ref 58, .int (nI t), .int (nI b.2.1), .ref 59, .ref 60, .ref 61, .ref 62, .int xg, .ref 63, .ref 64, .ref 65, .ref 66, .ref 67, .ref 68, .ref 69, .int xc, .ref 70, .ref 71, .ref 72, .ref 73, .ref 74, .ref 75, .int xw, .ref 76, .ref 77, .ref 78, .ref 79, .ref 80]))) (hk : k < b.1) (hn : b.1 ≤ 60) (hno : ¬ ((nI 1 ≤ w ∧ w ≤ nI 60) ∧ (nI 0 ≤ m ∧ m ≤ nI 7) ∧ (nI 0 ≤ set ∧ set ≤ nI 255))) : mv_K ev mX12_window [.ref 52, .int (nI k), .int w, .int m, .int set] h (some (.int (-1002))) h := by
  refine mv_Kof ?_
  show mv_g ev mX12_window 0 [.ref 52, .int (nI k), .int w, .int m, .int set, .null, .null, .null] [] h _
  refine mv_aload_n dX12_window_0 rfl ?_
  refine mv_iload_n dX12_window_1 rfl ?_
  refine mv_cV1 (ci := 12) dX12_window_2 lk_X12_window_246 HX rfl (Nat.le_of_ble_eq_true rfl) (Nat.le_of_ble_eq_true rfl) (k_X12_isShake (ev := ev) HX hn) ?_
  refine mv_if_ne (tgt := 12) dX12_window_5 (by decide) (fun c5 => ?_) (fun z => absurd z ((fun z => (mv_b_0 _).mp z ⟨Int32.not_lt.mp (nI_pos (by omega)), (nI_ltI (by omega) (by omega)).mpr (by omega), (nI_ltI (by omega) (by omega)).mpr (by omega)⟩)))
  refine mv_iload_n dX12_window_12 rfl ?_
  refine mv_cS1 dX12_window_13 lk_X12_window_309 (Nat.le_of_ble_eq_true rfl) (Nat.le_of_ble_eq_true rfl) (k_X12_isWide (ev := ev)) ?_
  refine mv_if_eq (tgt := 39) dX12_window_16 (by decide) (fun c16 => ?_) (fun c16 => ?_)
  · have c16 : ¬ (nI 1 ≤ w ∧ w ≤ nI 60) := (mv_b_0 _).mp c16
    refine mv_sipush (v := (-1002)) dX12_window_39 (by decide) ?_
    exact mv_iret dX12_window_42 rfl rfl ⟨rfl, rfl⟩
  · have c16 : nI 1 ≤ w ∧ w ≤ nI 60 := Classical.byContradiction (fun z => c16 ((mv_b_0 _).mpr z))
    refine mv_iload_n dX12_window_19 rfl ?_
    refine mv_cS1 dX12_window_20 lk_X12_window_125 (Nat.le_of_ble_eq_true rfl) (Nat.le_of_ble_eq_true rfl) (k_X12_isNear (ev := ev)) ?_
    refine mv_if_eq (tgt := 39) dX12_window_23 (by decide) (fun c23 => ?_) (fun c23 => ?_)
    · have c23 : ¬ (nI 0 ≤ m ∧ m ≤ nI 7) := (mv_b_0 _).mp c23
      refine mv_sipush (v := (-1002)) dX12_window_39 (by decide) ?_
      exact mv_iret dX12_window_42 rfl rfl ⟨rfl, rfl⟩
    · have c23 : nI 0 ≤ m ∧ m ≤ nI 7 := Classical.byContradiction (fun z => c23 ((mv_b_0 _).mpr z))
      refine mv_iload dX12_window_26 rfl ?_
      refine mv_i2l dX12_window_28 ?_
      refine mv_lconst (v := lN 0) dX12_window_29 rfl ?_
      refine mv_ldc2 (v := lN 255) dX12_window_30 wd_1349 ?_
      refine mv_cS3 dX12_window_33 lk_X12_window_107 (Nat.le_of_ble_eq_true rfl) (Nat.le_of_ble_eq_true rfl) (k_X12_in (ev := ev)) ?_
      refine mv_if_ne (tgt := 43) dX12_window_36 (by decide) (fun c36 => ?_) (fun c36 => ?_)
      · have c36 : nI 0 ≤ set ∧ set ≤ nI 255 := (and_congr (mv_lL (by decide)) (mv_lR (by decide))).mp (mv_b_ne c36)
        exact absurd (by refine ⟨?_, ?_, ?_⟩ <;> assumption) hno
      · have c36 : ¬ (nI 0 ≤ set ∧ set ≤ nI 255) := fun z => (mv_b_0 _).mp c36 ((and_congr (mv_lL (by decide)) (mv_lR (by decide))).mpr z)
        refine mv_sipush (v := (-1002)) dX12_window_39 (by decide) ?_
        exact mv_iret dX12_window_42 rfl rfl ⟨rfl, rfl⟩
set_option maxRecDepth 100000 in
theorem l_X12_window {ev : mv_E} {h : mv_H} {xt : Int32} {xf : Int32} {xa : Int32} {xo : Int64} {xe : Int32} {xu : Int32} {xs : Int32} {xc : Int32} {xw : Int32} {b : t_B} {t : Nat} {s : q_S} {k : Nat} {w : Nat} {m : Nat} {set : Nat} {dd : Nat} (HX : h[52]? = some (.inr (12, [.ref 53, .ref 54, .int xt, .int xf, .int xa, .long xo, .int xe, .int xu, .ref 55, .int xs, .int (nI b.1), .ref 56, .ref 57, .ref 58, .int (nI t), .int (nI b.2.1), .ref 59, .ref 60, .ref 61, .ref 62, .int (nI s.1), .ref 63, .ref 64, .ref 65, .ref 66, .ref 67, .ref 68, .ref 69, .int xc, .ref 70, .ref 71, .ref 72, .ref 73, .ref 74, .ref 75, .int xw, .ref 76, .ref 77, .ref 78, .ref 79, .ref 80]))) (X63 : h[63]? = some (.inl (0, 100, .inl (fun j => nI (s.2.1 j))))) (X64 : h[64]? = some (.inl (0, 100, .inl (fun j => nI (s.2.2.1 j))))) (X65 : h[65]? = some (.inl (0, 100, .inl (fun j => nI (s.2.2.2.1 j))))) (X56 : h[56]? = some (.inl (0, 60, .inl (fun j => nI (b.2.2.1 j))))) (X57 : h[57]? = some (.inl (0, 60, .inl (fun j => nI (b.2.2.2.1 j))))) (hk : k < b.1) (hb : q_BI dd b) (hsi : q_SI s) (hw1 : 1 ≤ w) (hw6 : w ≤ 60) (hm0 : m < 8) (hset : set < 256) : ∀ (fu : Nat) (v : Nat) (y : Nat), s.1 < y + fu → (y ≤ s.1) → (v = q_cnt (q_aP s (b.2.2.1 k) (b.2.2.2.1 k) w m set) y) → (v ≤ y) → mv_g ev mX12_window 49 [.ref 52, .int (nI k), .int (nI w), .int (nI m), .int (nI set), .int (nI v), .int (nI y), .null] [] h (fun r g => r = some (.int (nI (q_cnt (q_aP s (b.2.2.1 k) (b.2.2.2.1 k) w m set) s.1))) ∧ g = h) := by
  intro fu
  induction fu with
  | zero => intro v y hm hy hv hvb; exact absurd hm (by omega)
  | succ fu ih =>
    intro v y hm hy hv hvb
    have hn := hb.1
    have n0 := hsi.1
    have d1 := hb.2.2.1 k
    have d2 := hb.2.2.2.1 k
    have n1 := hsi.2.2.1 y
    have n2 := hsi.2.2.2.1 y
    have n3 := t_far_lt n2 d2
    have n4 := q_bt_lt set (s.2.1 y)
    refine mv_iload dX12_window_49 rfl ?_
    refine mv_aload_n dX12_window_51 rfl ?_
    refine mv_getf (ci := 12) (f := 20) dX12_window_52 HX rfl (by decide) wd_1219 rfl ?_
    refine mv_icmp_ge (tgt := 146) dX12_window_55 (by decide) (fun c55 => ?_) (fun c55 => ?_)
    · have c55 : s.1 ≤ y := (nI_leI (by omega) (by omega)).mp c55
      refine mv_iload dX12_window_146 rfl ?_
      exact mv_iret dX12_window_148 rfl rfl ⟨(congrArg (fun z => some (Value.int z)) (congrArg nI (by have e : y = s.1 := (by omega); subst e; exact hv))), rfl⟩
    · have c55 : ¬ (s.1 ≤ y) := fun z => c55 ((nI_leI (by omega) (by omega)).mpr z)
      refine mv_iload dX12_window_58 rfl ?_
      refine mv_aload_n dX12_window_60 rfl ?_
      refine mv_getf (ci := 12) (f := 21) dX12_window_61 HX rfl (by decide) wd_1220 rfl ?_
      refine mv_iload dX12_window_64 rfl ?_
      refine mv_iaN (j := y) (x := nI (s.2.1 y)) dX12_window_66 X63 rfl (by decide) (by omega) rfl ?_
      refine mv_ishr dX12_window_67 ?_
      refine mv_iconst (v := nI 1) dX12_window_68 (by decide) ?_
      refine mv_iand dX12_window_69 ?_
      refine mv_topI (y := nI (q_bt set (s.2.1 y))) (q_sb _ hset _ (hsi.2.1 y)) ?_
      refine mv_iconst (v := nI 1) dX12_window_70 (by decide) ?_
      refine mv_icmp_ne (tgt := 102) dX12_window_71 (by decide) (fun c71 => ?_) (fun c71 => ?_)
      · have c71 : ¬ (q_bt set (s.2.1 y) = 1) := fun z => c71 ((nI_eq (by omega) (by omega)).mpr z)
        refine mv_iconst (v := nI 0) dX12_window_102 (by decide) ?_
        refine mv_istore dX12_window_103 (by decide) ?_
        refine mv_iload dX12_window_105 rfl ?_
        refine mv_iload dX12_window_107 rfl ?_
        refine mv_if_eq (tgt := 136) dX12_window_109 (by decide) (fun c109 => ?_) (fun z => absurd ((by decide)) z)
        refine mv_iconst (v := nI 0) dX12_window_136 (by decide) ?_
        refine mv_iadd dX12_window_137 ?_
        refine mv_topI (y := nI (v + 0)) (nI_add _ _) ?_
        refine mv_istore dX12_window_138 (by decide) ?_
        refine mv_iinc (v := nI (y + 1)) dX12_window_140 rfl (mv_inc y 1) (by decide) ?_
        refine mv_goto (tgt := 49) dX12_window_143 (by decide) ?_
        refine mv_sub (lv' := [.ref 52, .int (nI k), .int (nI w), .int (nI m), .int (nI set), .int (nI (v + 0)), .int (nI (y + 1)), .null]) ⟨Or.inr rfl, Or.inr rfl, Or.inr rfl, Or.inr rfl, Or.inr rfl, Or.inr rfl, Or.inr rfl, Or.inl rfl, trivial⟩ ?_
        exact ih (v + 0) (y + 1) (by omega) (by omega) (by first | rw [q_cnt_y (P := (q_aP s (b.2.2.1 k) (b.2.2.2.1 k) w m set)) ⟨c71, c95, by omega⟩, ← hv] | (rw [q_cnt_n (P := (q_aP s (b.2.2.1 k) (b.2.2.2.1 k) w m set)) (fun z => c71 z.1), Nat.add_zero]; exact hv) | (rw [q_cnt_n (P := (q_aP s (b.2.2.1 k) (b.2.2.2.1 k) w m set)) (fun z => c95 z.2.1), Nat.add_zero]; exact hv) | (rw [q_cnt_n (P := (q_aP s (b.2.2.1 k) (b.2.2.2.1 k) w m set)) (fun z => absurd z.2.2 (by omega)), Nat.add_zero]; exact hv)) (by omega)
      · have c71 : q_bt set (s.2.1 y) = 1 := (nI_eq (by omega) (by omega)).mp c71
        refine mv_aload_n dX12_window_74 rfl ?_
        refine mv_getf (ci := 12) (f := 11) dX12_window_75 HX rfl (by decide) wd_1210 rfl ?_
        refine mv_iload_n dX12_window_78 rfl ?_
        refine mv_iaN (j := k) (x := nI (b.2.2.1 k)) dX12_window_79 X56 rfl (by decide) (by omega) rfl ?_
        refine mv_aload_n dX12_window_80 rfl ?_
        refine mv_getf (ci := 12) (f := 22) dX12_window_81 HX rfl (by decide) wd_1221 rfl ?_
        refine mv_iload dX12_window_84 rfl ?_
        refine mv_iaN (j := y) (x := nI (s.2.2.1 y)) dX12_window_86 X64 rfl (by decide) (by omega) rfl ?_
        refine mv_isub dX12_window_87 ?_
        refine mv_i2l dX12_window_88 ?_
        refine mv_lconst (v := lN 1) dX12_window_89 rfl ?_
        refine mv_iload_n dX12_window_90 rfl ?_
        refine mv_i2l dX12_window_91 ?_
        refine mv_topL (y := lN w) (nI_l (by omega)) ?_
        refine mv_cS3 dX12_window_92 lk_X12_window_107 (Nat.le_of_ble_eq_true rfl) (Nat.le_of_ble_eq_true rfl) (k_X12_in (ev := ev)) ?_
        refine mv_if_eq (tgt := 102) dX12_window_95 (by decide) (fun c95 => ?_) (fun c95 => ?_)
        · have c95 : ¬ (s.2.2.1 y < b.2.2.1 k ∧ b.2.2.1 k ≤ s.2.2.1 y + w) := fun z => (mv_b_0 _).mp c95 (((and_congr (mv_lL (by decide)) (mv_lR (by omega))).trans (q_wi d1 n1 (by omega))).mpr z)
          refine mv_iconst (v := nI 0) dX12_window_102 (by decide) ?_
          refine mv_istore dX12_window_103 (by decide) ?_
          refine mv_iload dX12_window_105 rfl ?_
          refine mv_iload dX12_window_107 rfl ?_
          refine mv_if_eq (tgt := 136) dX12_window_109 (by decide) (fun c109 => ?_) (fun z => absurd ((by decide)) z)
          refine mv_iconst (v := nI 0) dX12_window_136 (by decide) ?_
          refine mv_iadd dX12_window_137 ?_
          refine mv_topI (y := nI (v + 0)) (nI_add _ _) ?_
          refine mv_istore dX12_window_138 (by decide) ?_
          refine mv_iinc (v := nI (y + 1)) dX12_window_140 rfl (mv_inc y 1) (by decide) ?_
          refine mv_goto (tgt := 49) dX12_window_143 (by decide) ?_
          refine mv_sub (lv' := [.ref 52, .int (nI k), .int (nI w), .int (nI m), .int (nI set), .int (nI (v + 0)), .int (nI (y + 1)), .null]) ⟨Or.inr rfl, Or.inr rfl, Or.inr rfl, Or.inr rfl, Or.inr rfl, Or.inr rfl, Or.inr rfl, Or.inl rfl, trivial⟩ ?_
          exact ih (v + 0) (y + 1) (by omega) (by omega) (by first | rw [q_cnt_y (P := (q_aP s (b.2.2.1 k) (b.2.2.2.1 k) w m set)) ⟨c71, c95, by omega⟩, ← hv] | (rw [q_cnt_n (P := (q_aP s (b.2.2.1 k) (b.2.2.2.1 k) w m set)) (fun z => c71 z.1), Nat.add_zero]; exact hv) | (rw [q_cnt_n (P := (q_aP s (b.2.2.1 k) (b.2.2.2.1 k) w m set)) (fun z => c95 z.2.1), Nat.add_zero]; exact hv) | (rw [q_cnt_n (P := (q_aP s (b.2.2.1 k) (b.2.2.2.1 k) w m set)) (fun z => absurd z.2.2 (by omega)), Nat.add_zero]; exact hv)) (by omega)
        · have c95 := ((and_congr (mv_lL (by decide)) (mv_lR (by omega))).trans (q_wi d1 n1 (by omega))).mp (mv_b_ne c95)
          refine mv_iconst (v := nI 1) dX12_window_98 (by decide) ?_
          refine mv_goto (tgt := 103) dX12_window_99 (by decide) ?_
          refine mv_istore dX12_window_103 (by decide) ?_
          refine mv_iload dX12_window_105 rfl ?_
          refine mv_iload dX12_window_107 rfl ?_
          refine mv_if_eq (tgt := 136) dX12_window_109 (by decide) (fun z => absurd z ((by decide))) (fun c109 => ?_)
          refine mv_aload_n dX12_window_112 rfl ?_
          refine mv_getf (ci := 12) (f := 23) dX12_window_113 HX rfl (by decide) wd_1222 rfl ?_
          refine mv_iload dX12_window_116 rfl ?_
          refine mv_iaN (j := y) (x := nI (s.2.2.2.1 y)) dX12_window_118 X65 rfl (by decide) (by omega) rfl ?_
          refine mv_aload_n dX12_window_119 rfl ?_
          refine mv_getf (ci := 12) (f := 12) dX12_window_120 HX rfl (by decide) wd_1211 rfl ?_
          refine mv_iload_n dX12_window_123 rfl ?_
          refine mv_iaN (j := k) (x := nI (b.2.2.2.1 k)) dX12_window_124 X57 rfl (by decide) (by omega) rfl ?_
          refine mv_cS2 dX12_window_125 lk_X12_window_117 (Nat.le_of_ble_eq_true rfl) (Nat.le_of_ble_eq_true rfl) (k_X12_far (ev := ev) (by omega) (by omega)) ?_
          refine mv_iload_n dX12_window_128 rfl ?_
          refine mv_icmp_gt (tgt := 136) dX12_window_129 (by decide) (fun c129 => ?_) (fun c129 => ?_)
          · have c129 : m < t_far (s.2.2.2.1 y) (b.2.2.2.1 k) := (nI_ltI (by omega) (by omega)).mp c129
            refine mv_iconst (v := nI 0) dX12_window_136 (by decide) ?_
            refine mv_iadd dX12_window_137 ?_
            refine mv_topI (y := nI (v + 0)) (nI_add _ _) ?_
            refine mv_istore dX12_window_138 (by decide) ?_
            refine mv_iinc (v := nI (y + 1)) dX12_window_140 rfl (mv_inc y 1) (by decide) ?_
            refine mv_goto (tgt := 49) dX12_window_143 (by decide) ?_
            refine mv_sub (lv' := [.ref 52, .int (nI k), .int (nI w), .int (nI m), .int (nI set), .int (nI (v + 0)), .int (nI (y + 1)), .null]) ⟨Or.inr rfl, Or.inr rfl, Or.inr rfl, Or.inr rfl, Or.inr rfl, Or.inr rfl, Or.inr rfl, Or.inl rfl, trivial⟩ ?_
            exact ih (v + 0) (y + 1) (by omega) (by omega) (by first | rw [q_cnt_y (P := (q_aP s (b.2.2.1 k) (b.2.2.2.1 k) w m set)) ⟨c71, c95, by omega⟩, ← hv] | (rw [q_cnt_n (P := (q_aP s (b.2.2.1 k) (b.2.2.2.1 k) w m set)) (fun z => c71 z.1), Nat.add_zero]; exact hv) | (rw [q_cnt_n (P := (q_aP s (b.2.2.1 k) (b.2.2.2.1 k) w m set)) (fun z => c95 z.2.1), Nat.add_zero]; exact hv) | (rw [q_cnt_n (P := (q_aP s (b.2.2.1 k) (b.2.2.2.1 k) w m set)) (fun z => absurd z.2.2 (by omega)), Nat.add_zero]; exact hv)) (by omega)
          · have c129 : ¬ (m < t_far (s.2.2.2.1 y) (b.2.2.2.1 k)) := fun z => c129 ((nI_ltI (by omega) (by omega)).mpr z)
            refine mv_iconst (v := nI 1) dX12_window_132 (by decide) ?_
            refine mv_goto (tgt := 137) dX12_window_133 (by decide) ?_
            refine mv_iadd dX12_window_137 ?_
            refine mv_topI (y := nI (v + 1)) (nI_add _ _) ?_
            refine mv_istore dX12_window_138 (by decide) ?_
            refine mv_iinc (v := nI (y + 1)) dX12_window_140 rfl (mv_inc y 1) (by decide) ?_
            refine mv_goto (tgt := 49) dX12_window_143 (by decide) ?_
            refine mv_sub (lv' := [.ref 52, .int (nI k), .int (nI w), .int (nI m), .int (nI set), .int (nI (v + 1)), .int (nI (y + 1)), .null]) ⟨Or.inr rfl, Or.inr rfl, Or.inr rfl, Or.inr rfl, Or.inr rfl, Or.inr rfl, Or.inr rfl, Or.inl rfl, trivial⟩ ?_
            exact ih (v + 1) (y + 1) (by omega) (by omega) (by first | rw [q_cnt_y (P := (q_aP s (b.2.2.1 k) (b.2.2.2.1 k) w m set)) ⟨c71, c95, by omega⟩, ← hv] | (rw [q_cnt_n (P := (q_aP s (b.2.2.1 k) (b.2.2.2.1 k) w m set)) (fun z => c71 z.1), Nat.add_zero]; exact hv) | (rw [q_cnt_n (P := (q_aP s (b.2.2.1 k) (b.2.2.2.1 k) w m set)) (fun z => c95 z.2.1), Nat.add_zero]; exact hv) | (rw [q_cnt_n (P := (q_aP s (b.2.2.1 k) (b.2.2.2.1 k) w m set)) (fun z => absurd z.2.2 (by omega)), Nat.add_zero]; exact hv)) (by omega)
set_option maxRecDepth 100000 in
theorem k_X12_window_G {ev : mv_E} {h : mv_H} {xt : Int32} {xf : Int32} {xa : Int32} {xo : Int64} {xe : Int32} {xu : Int32} {xs : Int32} {xc : Int32} {xw : Int32} {b : t_B} {t : Nat} {s : q_S} {k : Nat} {w : Nat} {m : Nat} {set : Nat} {dd : Nat} (HX : h[52]? = some (.inr (12, [.ref 53, .ref 54, .int xt, .int xf, .int xa, .long xo, .int xe, .int xu, .ref 55, .int xs, .int (nI b.1), .ref 56, .ref 57, .ref 58, .int (nI t), .int (nI b.2.1), .ref 59, .ref 60, .ref 61, .ref 62, .int (nI s.1), .ref 63, .ref 64, .ref 65, .ref 66, .ref 67, .ref 68, .ref 69, .int xc, .ref 70, .ref 71, .ref 72, .ref 73, .ref 74, .ref 75, .int xw, .ref 76, .ref 77, .ref 78, .ref 79, .ref 80]))) (X63 : h[63]? = some (.inl (0, 100, .inl (fun j => nI (s.2.1 j))))) (X64 : h[64]? = some (.inl (0, 100, .inl (fun j => nI (s.2.2.1 j))))) (X65 : h[65]? = some (.inl (0, 100, .inl (fun j => nI (s.2.2.2.1 j))))) (X56 : h[56]? = some (.inl (0, 60, .inl (fun j => nI (b.2.2.1 j))))) (X57 : h[57]? = some (.inl (0, 60, .inl (fun j => nI (b.2.2.2.1 j))))) (hk : k < b.1) (hb : q_BI dd b) (hsi : q_SI s) (hw1 : 1 ≤ w) (hw6 : w ≤ 60) (hm0 : m < 8) (hset : set < 256) : mv_K ev mX12_window [.ref 52, .int (nI k), .int (nI w), .int (nI m), .int (nI set)] h (some (.int (nI (q_cnt (q_aP s (b.2.2.1 k) (b.2.2.2.1 k) w m set) s.1)))) h := by
  refine mv_Kof ?_
  show mv_g ev mX12_window 0 [.ref 52, .int (nI k), .int (nI w), .int (nI m), .int (nI set), .null, .null, .null] [] h _
  have hn := hb.1
  have n0 := hsi.1
  have d1 := hb.2.2.1 k
  have d2 := hb.2.2.2.1 k
  refine mv_aload_n dX12_window_0 rfl ?_
  refine mv_iload_n dX12_window_1 rfl ?_
  refine mv_cV1 (ci := 12) dX12_window_2 lk_X12_window_246 HX rfl (Nat.le_of_ble_eq_true rfl) (Nat.le_of_ble_eq_true rfl) (k_X12_isShake (ev := ev) HX hn) ?_
  refine mv_if_ne (tgt := 12) dX12_window_5 (by decide) (fun c5 => ?_) (fun z => absurd z ((fun z => (mv_b_0 _).mp z ⟨Int32.not_lt.mp (nI_pos (by omega)), (nI_ltI (by omega) (by omega)).mpr (by omega), (nI_ltI (by omega) (by omega)).mpr (by omega)⟩)))
  refine mv_iload_n dX12_window_12 rfl ?_
  refine mv_cS1 dX12_window_13 lk_X12_window_309 (Nat.le_of_ble_eq_true rfl) (Nat.le_of_ble_eq_true rfl) (k_X12_isWide (ev := ev)) ?_
  refine mv_if_eq (tgt := 39) dX12_window_16 (by decide) (fun z => absurd z ((fun z => (mv_b_0 _).mp z (mv_in_i (by omega) (by omega) (by omega))))) (fun c16 => ?_)
  refine mv_iload_n dX12_window_19 rfl ?_
  refine mv_cS1 dX12_window_20 lk_X12_window_125 (Nat.le_of_ble_eq_true rfl) (Nat.le_of_ble_eq_true rfl) (k_X12_isNear (ev := ev)) ?_
  refine mv_if_eq (tgt := 39) dX12_window_23 (by decide) (fun z => absurd z ((fun z => (mv_b_0 _).mp z (mv_in_i (by omega) (by omega) (by omega))))) (fun c23 => ?_)
  refine mv_iload dX12_window_26 rfl ?_
  refine mv_i2l dX12_window_28 ?_
  refine mv_topL (y := lN set) (nI_l (by omega)) ?_
  refine mv_lconst (v := lN 0) dX12_window_29 rfl ?_
  refine mv_ldc2 (v := lN 255) dX12_window_30 wd_1349 ?_
  refine mv_cS3 dX12_window_33 lk_X12_window_107 (Nat.le_of_ble_eq_true rfl) (Nat.le_of_ble_eq_true rfl) (k_X12_in (ev := ev)) ?_
  refine mv_if_ne (tgt := 43) dX12_window_36 (by decide) (fun c36 => ?_) (fun z => absurd z ((fun z => (mv_b_0 _).mp z ((and_congr (lN_leB (by omega) (by omega)) (lN_leB (by omega) (by omega))).mpr ⟨by omega, by omega⟩))))
  refine mv_iconst (v := nI 0) dX12_window_43 (by decide) ?_
  refine mv_istore dX12_window_44 (by decide) ?_
  refine mv_iconst (v := nI 0) dX12_window_46 (by decide) ?_
  refine mv_istore dX12_window_47 (by decide) ?_
  exact l_X12_window HX X63 X64 X65 X56 X57 hk hb hsi hw1 hw6 hm0 hset (s.1 + 1) 0 0 (by omega) (Nat.zero_le _) rfl (Nat.zero_le _)
set_option maxRecDepth 100000 in
theorem k_X12_chance_R1 {ev : mv_E} {h : mv_H} {w : Int32} {set : Int32}  (hno : ¬ ((nI 1 ≤ w ∧ w ≤ nI 60) ∧ (nI 0 ≤ set ∧ set ≤ nI 255))) : mv_K ev mX12_chance [.ref 52, .int w, .int set] h (some (.int (-1002))) h := by
  refine mv_Kof ?_
  show mv_g ev mX12_chance 0 [.ref 52, .int w, .int set, .null, .null, .null, .null] [] h _
  refine mv_iload_n dX12_chance_0 rfl ?_
  refine mv_cS1 dX12_chance_1 lk_X12_chance_309 (Nat.le_of_ble_eq_true rfl) (Nat.le_of_ble_eq_true rfl) (k_X12_isWide (ev := ev)) ?_
  refine mv_if_eq (tgt := 19) dX12_chance_4 (by decide) (fun c4 => ?_) (fun c4 => ?_)
  · have c4 : ¬ (nI 1 ≤ w ∧ w ≤ nI 60) := (mv_b_0 _).mp c4
    refine mv_sipush (v := (-1002)) dX12_chance_19 (by decide) ?_
    exact mv_iret dX12_chance_22 rfl rfl ⟨rfl, rfl⟩
  · have c4 : nI 1 ≤ w ∧ w ≤ nI 60 := Classical.byContradiction (fun z => c4 ((mv_b_0 _).mpr z))
    refine mv_iload_n dX12_chance_7 rfl ?_
    refine mv_i2l dX12_chance_8 ?_
    refine mv_lconst (v := lN 0) dX12_chance_9 rfl ?_
    refine mv_ldc2 (v := lN 255) dX12_chance_10 wd_1349 ?_
    refine mv_cS3 dX12_chance_13 lk_X12_chance_107 (Nat.le_of_ble_eq_true rfl) (Nat.le_of_ble_eq_true rfl) (k_X12_in (ev := ev)) ?_
    refine mv_if_ne (tgt := 23) dX12_chance_16 (by decide) (fun c16 => ?_) (fun c16 => ?_)
    · have c16 : nI 0 ≤ set ∧ set ≤ nI 255 := (and_congr (mv_lL (by decide)) (mv_lR (by decide))).mp (mv_b_ne c16)
      exact absurd (by refine ⟨?_, ?_⟩ <;> assumption) hno
    · have c16 : ¬ (nI 0 ≤ set ∧ set ≤ nI 255) := fun z => (mv_b_0 _).mp c16 ((and_congr (mv_lL (by decide)) (mv_lR (by decide))).mpr z)
      refine mv_sipush (v := (-1002)) dX12_chance_19 (by decide) ?_
      exact mv_iret dX12_chance_22 rfl rfl ⟨rfl, rfl⟩
/-- kind by kind, to one that is not counted -/
noncomputable def q_xch (ra : Nat → Nat) (F : Nat → (Nat → Nat) → (Nat → Nat)) (cf : Nat → Int32) (w set : Nat) : Nat → Nat → Nat → (Nat → Nat) → Int32 × (Nat → Nat)
  | 0, _, v, oa => (nI (1000000 - v), oa)
  | f + 1, k, v, oa => if q_bt set k = 1 then (if cf k = -1 then (-1003, oa) else q_xch ra F cf w set f (k + 1) (q_pw (ra k) w v) (F k oa)) else q_xch ra F cf w set f (k + 1) v oa
theorem q_xch_n {ra : Nat → Nat} {F : Nat → (Nat → Nat) → (Nat → Nat)} {cf : Nat → Int32} {w set f k v : Nat} {oa : Nat → Nat} (hf : 0 < f) (h : ¬ q_bt set k = 1) : q_xch ra F cf w set f k v oa = q_xch ra F cf w set (f - 1) (k + 1) v oa := by
  obtain ⟨g, rfl⟩ : ∃ g, f = g + 1 := ⟨f - 1, by omega⟩
  exact if_neg h
theorem q_xch_y {ra : Nat → Nat} {F : Nat → (Nat → Nat) → (Nat → Nat)} {cf : Nat → Int32} {w set f k v : Nat} {oa : Nat → Nat} (hf : 0 < f) (h : q_bt set k = 1) (h2 : ¬ cf k = -1) : q_xch ra F cf w set f k v oa = q_xch ra F cf w set (f - 1) (k + 1) (q_pw (ra k) w v) (F k oa) := by
  obtain ⟨g, rfl⟩ : ∃ g, f = g + 1 := ⟨f - 1, by omega⟩
  exact (if_pos h).trans (if_neg h2)
theorem q_xch_x {ra : Nat → Nat} {F : Nat → (Nat → Nat) → (Nat → Nat)} {cf : Nat → Int32} {w set f k v : Nat} {oa : Nat → Nat} (hf : 0 < f) (h : q_bt set k = 1) (h2 : cf k = -1) : q_xch ra F cf w set f k v oa = (-1003, oa) := by
  obtain ⟨g, rfl⟩ : ∃ g, f = g + 1 := ⟨f - 1, by omega⟩
  exact (if_pos h).trans (if_pos h2)
theorem q_xch_2 {ra : Nat → Nat} {F : Nat → (Nat → Nat) → (Nat → Nat)} {cf : Nat → Int32} {w set : Nat} (hF : ∀ k o, (∀ d, o d ≤ 1) → ∀ d, F k o d ≤ 1) (f : Nat) : ∀ k v oa, (∀ d, oa d ≤ 1) → ∀ d, (q_xch ra F cf w set f k v oa).2 d ≤ 1 := by
  induction f with
  | zero => intro k v oa h; exact h
  | succ f ih =>
    intro k v oa h
    by_cases c : q_bt set k = 1
    · by_cases c2 : cf k = -1
      · rw [q_xch_x (Nat.succ_pos f) c c2]; exact h
      · rw [q_xch_y (Nat.succ_pos f) c c2]; exact ih _ _ _ (hF k oa h)
    · rw [q_xch_n (Nat.succ_pos f) c]; exact ih _ _ _ h
theorem q_pw_0 (n v : Nat) (hv : v ≤ 1000000) : q_pw 0 n v = v := by
  induction n with
  | zero => rfl
  | succ n ih =>
    have e : q_pw 0 (n + 1) v = q_pw 0 n (q_le v 0) := rfl
    have e2 : q_le v 0 = v := by
      unfold q_le
      rw [Nat.sub_zero, Nat.mul_div_cancel v (by decide)]
    rw [e, e2, ih]
theorem q_xch_1 {ra : Nat → Nat} {F : Nat → (Nat → Nat) → (Nat → Nat)} {cf : Nat → Int32} {w set : Nat} (hac : q_aC cf set) (f : Nat) : ∀ k v oa, v ≤ 1000000 → k + f ≤ 8 → (q_xch ra F cf w set f k v oa).1 = nI (1000000 - q_ch ra w set f k v) := by
  induction f with
  | zero => intro k v oa _ _; rfl
  | succ f ih =>
    intro k v oa hv hk
    have e : q_ch ra w set (f + 1) k v = q_ch ra w set f (k + 1) (q_pw (if q_bt set k = 1 then ra k else 0) w v) := rfl
    by_cases c : q_bt set k = 1
    · rw [q_xch_y (Nat.succ_pos f) c (hac k (by omega) c), e, if_pos c]
      exact ih _ _ _ (q_pw_le _ _ _ hv) (by omega)
    · rw [q_xch_n (Nat.succ_pos f) c, e, if_neg c, q_pw_0 w v hv]
      exact ih _ _ _ hv (by omega)
theorem q_xch_0 {ra : Nat → Nat} {F : Nat → (Nat → Nat) → (Nat → Nat)} {cf : Nat → Int32} {w set : Nat} (f : Nat) : ∀ k v oa, (∃ i, k ≤ i ∧ i < k + f ∧ q_bt set i = 1 ∧ cf i = -1) → (q_xch ra F cf w set f k v oa).1 = -1003 := by
  induction f with
  | zero => intro k v oa ⟨i, h1, h2, _⟩; exact absurd h2 (by omega)
  | succ f ih =>
    intro k v oa ⟨i, h1, h2, h3, h4⟩
    by_cases c : q_bt set k = 1
    · by_cases c2 : cf k = -1
      · rw [q_xch_x (Nat.succ_pos f) c c2]
      · rw [q_xch_y (Nat.succ_pos f) c c2]
        have hne : i ≠ k := fun q => c2 (q ▸ h4)
        exact ih _ _ _ ⟨i, by omega, by omega, h3, h4⟩
    · rw [q_xch_n (Nat.succ_pos f) c]
      have hne : i ≠ k := fun q => c (q ▸ h3)
      exact ih _ _ _ ⟨i, by omega, by omega, h3, h4⟩
set_option maxRecDepth 100000 in
theorem l_X12_chanceI {ev : mv_E} {h : mv_H} {xt : Int32} {xf : Int32} {xa : Int32} {xo : Int64} {xe : Int32} {xu : Int32} {xs : Int32} {xc : Int32} {xw : Int32} {b : t_B} {t : Nat} {s : q_S} {wa : Nat → Nat} {cf : Nat → Int32} {ct : Nat → Int32} {rr : Nat → Nat} {lw : Nat → Int32} {ln : Nat → Nat} {w : Nat} {set : Nat} {oa : Nat → Nat}  (hw : q_LW lw ln) (hsi : q_SI s) (hr : ∀ d, rr d ≤ 1) (hwi : q_WI wa cf ct) (hw1 : 1 ≤ w) (hw6 : w ≤ 60) (hset : set < 256) (ho : ∀ d, oa d ≤ 1) : ∀ (fu : Nat) (y : Nat) (v0 : Nat) (oa2 : Nat → Nat) (rt : Nat) (v : Nat) (i : Nat), ∀ (g : mv_H), w < i + fu → mv_fra [67] h g → g[67]? = some (.inl (2, 400, .inl (fun j => nI (oa2 j)))) → g[52]? = some (.inr (12, [.ref 53, .ref 54, .int xt, .int xf, .int xa, .long xo, .int xe, .int xu, .ref 55, .int xs, .int (nI b.1), .ref 56, .ref 57, .ref 58, .int (nI t), .int (nI b.2.1), .ref 59, .ref 60, .ref 61, .ref 62, .int (nI s.1), .ref 63, .ref 64, .ref 65, .ref 66, .ref 67, .ref 68, .ref 69, .int xc, .ref 70, .ref 71, .ref 72, .ref 73, .ref 74, .ref 75, .int xw, .ref 76, .ref 77, .ref 78, .ref 79, .ref 80])) → g[59]? = some (.inl (0, 8, .inl (fun j => nI (wa j)))) → g[60]? = some (.inl (0, 8, .inl cf)) → g[61]? = some (.inl (0, 8, .inl ct)) → g[62]? = some (.inl (2, 400, .inl (fun j => nI (rr j)))) → g[63]? = some (.inl (0, 100, .inl (fun j => nI (s.2.1 j)))) → g[64]? = some (.inl (0, 100, .inl (fun j => nI (s.2.2.1 j)))) → g[65]? = some (.inl (0, 100, .inl (fun j => nI (s.2.2.2.1 j)))) → g[66]? = some (.inl (0, 100, .inl (fun j => nI (s.2.2.2.2 j)))) → g[53]? = some (.inl (0, 8, .inl lw)) → (i ≤ w) → (rt ≤ 1000000) → (v ≤ 1000000) → (q_pw rt (w - i) v = q_pw rt w v0) → (∀ (gx : mv_H), mv_fra [67] h gx → gx[67]? = some (.inl (2, 400, .inl (fun j => nI (oa2 j)))) → gx[52]? = some (.inr (12, [.ref 53, .ref 54, .int xt, .int xf, .int xa, .long xo, .int xe, .int xu, .ref 55, .int xs, .int (nI b.1), .ref 56, .ref 57, .ref 58, .int (nI t), .int (nI b.2.1), .ref 59, .ref 60, .ref 61, .ref 62, .int (nI s.1), .ref 63, .ref 64, .ref 65, .ref 66, .ref 67, .ref 68, .ref 69, .int xc, .ref 70, .ref 71, .ref 72, .ref 73, .ref 74, .ref 75, .int xw, .ref 76, .ref 77, .ref 78, .ref 79, .ref 80])) → gx[59]? = some (.inl (0, 8, .inl (fun j => nI (wa j)))) → gx[60]? = some (.inl (0, 8, .inl cf)) → gx[61]? = some (.inl (0, 8, .inl ct)) → gx[62]? = some (.inl (2, 400, .inl (fun j => nI (rr j)))) → gx[63]? = some (.inl (0, 100, .inl (fun j => nI (s.2.1 j)))) → gx[64]? = some (.inl (0, 100, .inl (fun j => nI (s.2.2.1 j)))) → gx[65]? = some (.inl (0, 100, .inl (fun j => nI (s.2.2.2.1 j)))) → gx[66]? = some (.inl (0, 100, .inl (fun j => nI (s.2.2.2.2 j)))) → gx[53]? = some (.inl (0, 8, .inl lw)) → mv_g ev mX12_chance 89 [.ref 52, .int (nI w), .int (nI set), .int (nI (q_pw rt w v0)), .int (nI y), .null, .null] [] gx (fun r g => r = some (.int (q_xch (q_ra (q_oks lw ln s wa cf ct rr (fun _ => 0)) cf ct) (fun k o => q_fd (q_ev lw ln s wa cf ct rr) s k (q_z o 400) s.1) cf w set 8 0 1000000 oa).1) ∧ mv_fra [67] h g ∧ g[67]? = some (.inl (2, 400, .inl (fun j => nI ((q_xch (q_ra (q_oks lw ln s wa cf ct rr (fun _ => 0)) cf ct) (fun k o => q_fd (q_ev lw ln s wa cf ct rr) s k (q_z o 400) s.1) cf w set 8 0 1000000 oa).2 j)))))) → mv_g ev mX12_chance 70 [.ref 52, .int (nI w), .int (nI set), .int (nI v), .int (nI y), .int (nI rt), .int (nI i)] [] g (fun r g => r = some (.int (q_xch (q_ra (q_oks lw ln s wa cf ct rr (fun _ => 0)) cf ct) (fun k o => q_fd (q_ev lw ln s wa cf ct rr) s k (q_z o 400) s.1) cf w set 8 0 1000000 oa).1) ∧ mv_fra [67] h g ∧ g[67]? = some (.inl (2, 400, .inl (fun j => nI ((q_xch (q_ra (q_oks lw ln s wa cf ct rr (fun _ => 0)) cf ct) (fun k o => q_fd (q_ev lw ln s wa cf ct rr) s k (q_z o 400) s.1) cf w set 8 0 1000000 oa).2 j))))) := by
  intro fu
  induction fu with
  | zero => intro y v0 oa2 rt v i g hm fr XO HX X59 X60 X61 X62 X63 X64 X65 X66 X53 hi hrt hvb hqi kx; exact absurd hm (by omega)
  | succ fu ih =>
    intro y v0 oa2 rt v i g hm fr XO HX X59 X60 X61 X62 X63 X64 X65 X66 X53 hi hrt hvb hqi kx
    refine mv_iload dX12_chance_70 rfl ?_
    refine mv_iload_n dX12_chance_72 rfl ?_
    refine mv_icmp_ge (tgt := 89) dX12_chance_73 (by decide) (fun c73 => ?_) (fun c73 => ?_)
    · have c73 : w ≤ i := (nI_leI (by omega) (by omega)).mp c73
      have e9 : v = q_pw rt w v0 := (by rw [← hqi, show w - i = 0 by omega]; rfl)
      rw [e9]
      refine mv_sub (lv' := [.ref 52, .int (nI w), .int (nI set), .int (nI (q_pw rt w v0)), .int (nI y), .null, .null]) ⟨Or.inr rfl, Or.inr rfl, Or.inr rfl, Or.inr rfl, Or.inr rfl, Or.inl rfl, Or.inl rfl, trivial⟩ ?_
      exact kx g fr XO HX X59 X60 X61 X62 X63 X64 X65 X66 X53
    · have c73 : ¬ (w ≤ i) := fun z => c73 ((nI_leI (by omega) (by omega)).mpr z)
      refine mv_iload_n dX12_chance_76 rfl ?_
      refine mv_iload dX12_chance_77 rfl ?_
      refine mv_cS2 dX12_chance_79 lk_X12_chance_268 (Nat.le_of_ble_eq_true rfl) (Nat.le_of_ble_eq_true rfl) (k_X12_lessened (ev := ev) hvb hrt) ?_
      refine mv_istore_n dX12_chance_82 (by decide) ?_
      refine mv_iinc (v := nI (i + 1)) dX12_chance_83 rfl (mv_inc i 1) (by decide) ?_
      refine mv_goto (tgt := 70) dX12_chance_86 (by decide) ?_
      exact ih y _ oa2 rt (q_le v rt) (i + 1) g (by omega) fr XO HX X59 X60 X61 X62 X63 X64 X65 X66 X53 (by omega) hrt (q_le_le _ _ hvb) (by rw [← hqi, q_pw_s (n := w - i) (by omega), Nat.sub_sub]) kx
set_option maxRecDepth 100000 in
theorem l_X12_chance {ev : mv_E} {h : mv_H} {xt : Int32} {xf : Int32} {xa : Int32} {xo : Int64} {xe : Int32} {xu : Int32} {xs : Int32} {xc : Int32} {xw : Int32} {b : t_B} {t : Nat} {s : q_S} {wa : Nat → Nat} {cf : Nat → Int32} {ct : Nat → Int32} {rr : Nat → Nat} {lw : Nat → Int32} {ln : Nat → Nat} {w : Nat} {set : Nat} {oa : Nat → Nat}  (hw : q_LW lw ln) (hsi : q_SI s) (hr : ∀ d, rr d ≤ 1) (hwi : q_WI wa cf ct) (hw1 : 1 ≤ w) (hw6 : w ≤ 60) (hset : set < 256) (ho : ∀ d, oa d ≤ 1) : ∀ (fu : Nat) (v : Nat) (y : Nat) (oa2 : Nat → Nat), ∀ (g : mv_H), 8 < y + fu → mv_fra [67] h g → g[67]? = some (.inl (2, 400, .inl (fun j => nI (oa2 j)))) → g[52]? = some (.inr (12, [.ref 53, .ref 54, .int xt, .int xf, .int xa, .long xo, .int xe, .int xu, .ref 55, .int xs, .int (nI b.1), .ref 56, .ref 57, .ref 58, .int (nI t), .int (nI b.2.1), .ref 59, .ref 60, .ref 61, .ref 62, .int (nI s.1), .ref 63, .ref 64, .ref 65, .ref 66, .ref 67, .ref 68, .ref 69, .int xc, .ref 70, .ref 71, .ref 72, .ref 73, .ref 74, .ref 75, .int xw, .ref 76, .ref 77, .ref 78, .ref 79, .ref 80])) → g[59]? = some (.inl (0, 8, .inl (fun j => nI (wa j)))) → g[60]? = some (.inl (0, 8, .inl cf)) → g[61]? = some (.inl (0, 8, .inl ct)) → g[62]? = some (.inl (2, 400, .inl (fun j => nI (rr j)))) → g[63]? = some (.inl (0, 100, .inl (fun j => nI (s.2.1 j)))) → g[64]? = some (.inl (0, 100, .inl (fun j => nI (s.2.2.1 j)))) → g[65]? = some (.inl (0, 100, .inl (fun j => nI (s.2.2.2.1 j)))) → g[66]? = some (.inl (0, 100, .inl (fun j => nI (s.2.2.2.2 j)))) → g[53]? = some (.inl (0, 8, .inl lw)) → (y ≤ 8) → (v ≤ 1000000) → (∀ d, oa2 d ≤ 1) → (q_xch (q_ra (q_oks lw ln s wa cf ct rr (fun _ => 0)) cf ct) (fun k o => q_fd (q_ev lw ln s wa cf ct rr) s k (q_z o 400) s.1) cf w set (8 - y) y v oa2 = (q_xch (q_ra (q_oks lw ln s wa cf ct rr (fun _ => 0)) cf ct) (fun k o => q_fd (q_ev lw ln s wa cf ct rr) s k (q_z o 400) s.1) cf w set 8 0 1000000 oa)) → mv_g ev mX12_chance 29 [.ref 52, .int (nI w), .int (nI set), .int (nI v), .int (nI y), .null, .null] [] g (fun r g => r = some (.int (q_xch (q_ra (q_oks lw ln s wa cf ct rr (fun _ => 0)) cf ct) (fun k o => q_fd (q_ev lw ln s wa cf ct rr) s k (q_z o 400) s.1) cf w set 8 0 1000000 oa).1) ∧ mv_fra [67] h g ∧ g[67]? = some (.inl (2, 400, .inl (fun j => nI ((q_xch (q_ra (q_oks lw ln s wa cf ct rr (fun _ => 0)) cf ct) (fun k o => q_fd (q_ev lw ln s wa cf ct rr) s k (q_z o 400) s.1) cf w set 8 0 1000000 oa).2 j))))) := by
  intro fu
  induction fu with
  | zero => intro v y oa2 g hm fr XO HX X59 X60 X61 X62 X63 X64 X65 X66 X53 hy hvb ho2 hq; exact absurd hm (by omega)
  | succ fu ih =>
    intro v y oa2 g hm fr XO HX X59 X60 X61 X62 X63 X64 X65 X66 X53 hy hvb ho2 hq
    have n4 := q_bt_lt set y
    have n1 := q_cd_le hwi y
    refine mv_iload dX12_chance_29 rfl ?_
    refine mv_bipush (v := nI 8) dX12_chance_31 (by decide) ?_
    refine mv_icmp_ge (tgt := 95) dX12_chance_33 (by decide) (fun c33 => ?_) (fun c33 => ?_)
    · have c33 : 8 ≤ y := (nI_leI (by omega) (by omega)).mp c33
      refine mv_ldc (v := nI 1000000) dX12_chance_95 wd_1414 ?_
      refine mv_iload_n dX12_chance_97 rfl ?_
      refine mv_isub dX12_chance_98 ?_
      refine mv_topI (y := nI (1000000 - v)) (pk_sub (by omega)) ?_
      have e9 : (q_xch (q_ra (q_oks lw ln s wa cf ct rr (fun _ => 0)) cf ct) (fun k o => q_fd (q_ev lw ln s wa cf ct rr) s k (q_z o 400) s.1) cf w set 8 0 1000000 oa) = (nI (1000000 - v), oa2) := (by rw [← hq, show 8 - y = 0 by omega]; rfl)
      exact mv_iret dX12_chance_99 rfl rfl ⟨(by rw [e9]), fr, (by rw [e9]; exact XO)⟩
    · have c33 : ¬ (8 ≤ y) := fun z => c33 ((nI_leI (by omega) (by omega)).mpr z)
      refine mv_iload_n dX12_chance_36 rfl ?_
      refine mv_iload dX12_chance_37 rfl ?_
      refine mv_ishr dX12_chance_39 ?_
      refine mv_iconst (v := nI 1) dX12_chance_40 (by decide) ?_
      refine mv_iand dX12_chance_41 ?_
      refine mv_topI (y := nI (q_bt set y)) (q_sb _ hset _ (by omega)) ?_
      refine mv_iconst (v := nI 1) dX12_chance_42 (by decide) ?_
      refine mv_icmp_ne (tgt := 89) dX12_chance_43 (by decide) (fun c43 => ?_) (fun c43 => ?_)
      · have c43 : ¬ (q_bt set y = 1) := fun z => c43 ((nI_eq (by omega) (by omega)).mpr z)
        refine mv_iinc (v := nI (y + 1)) dX12_chance_89 rfl (mv_inc y 1) (by decide) ?_
        refine mv_goto (tgt := 29) dX12_chance_92 (by decide) ?_
        exact ih v (y + 1) oa2 g (by omega) fr XO HX X59 X60 X61 X62 X63 X64 X65 X66 X53 (by omega) hvb ho2 (by rw [← hq, q_xch_n (f := 8 - y) (by omega) c43, Nat.sub_sub])
      · have c43 : q_bt set y = 1 := (nI_eq (by omega) (by omega)).mp c43
        refine mv_aload_n dX12_chance_46 rfl ?_
        refine mv_iload dX12_chance_47 rfl ?_
        refine mv_cV1 (ci := 12) dX12_chance_49 lk_X12_chance_285 HX rfl (Nat.le_of_ble_eq_true rfl) (Nat.le_of_ble_eq_true rfl) (k_X12_counted (ev := ev) HX X60 X61 (by omega) hwi) ?_
        refine mv_if_ne (tgt := 59) dX12_chance_52 (by decide) (fun c52 => ?_) (fun c52 => ?_)
        · have c52 : ¬ cf y = -1 := fun q => c52 (by rw [q_cd_0 q]; rfl)
          refine mv_aload_n dX12_chance_59 rfl ?_
          refine mv_iload dX12_chance_60 rfl ?_
          obtain ⟨h1, K2, f3, y4⟩ := (k_X12_rateOf (ev := ev) (xt := xt) (xf := xf) (xa := xa) (xo := xo) (xe := xe) (xu := xu) (xs := xs) (xc := xc) (xw := xw) (b := b) (t := t) (s := s) (wa := wa) (cf := cf) (ct := ct) (rr := rr) (lw := lw) (ln := ln) (k := y) (oa := oa2) HX X59 X60 X61 X62 X63 X64 X65 X66 X53 XO hw hsi hr hwi ho2 (by omega) c52)
          refine mv_cV1 (ci := 12) dX12_chance_62 lk_X12_chance_304 HX rfl (Nat.le_of_ble_eq_true rfl) (Nat.le_of_ble_eq_true rfl) K2 ?_
          have HX := f3.get (by decide) HX
          have X59 := f3.get (by decide) X59
          have X60 := f3.get (by decide) X60
          have X61 := f3.get (by decide) X61
          have X62 := f3.get (by decide) X62
          have X63 := f3.get (by decide) X63
          have X64 := f3.get (by decide) X64
          have X65 := f3.get (by decide) X65
          have X66 := f3.get (by decide) X66
          have X53 := f3.get (by decide) X53
          have XO : h1[67]? = some (.inl (2, 400, .inl (fun j => nI (q_fd (q_ev lw ln s wa cf ct rr) s y (q_z oa2 400) s.1 j)))) := y4
          have fr := fr.trans f3 (by decide)
          have n3 := q_ra_le (lw := lw) (ln := ln) (rr := rr) (ok := fun _ => 0) hsi hwi y
          refine mv_istore dX12_chance_65 (by decide) ?_
          refine mv_iconst (v := nI 0) dX12_chance_67 (by decide) ?_
          refine mv_istore dX12_chance_68 (by decide) ?_
          refine l_X12_chanceI hw hsi hr hwi hw1 hw6 hset ho (w + 1) y v (q_fd (q_ev lw ln s wa cf ct rr) s y (q_z oa2 400) s.1) (q_ra (q_oks lw ln s wa cf ct rr (fun _ => 0)) cf ct y) v 0 h1 (by omega) fr XO HX X59 X60 X61 X62 X63 X64 X65 X66 X53 (Nat.zero_le _) n3 hvb rfl ?_
          intro gx5 fr XO HX X59 X60 X61 X62 X63 X64 X65 X66 X53
          refine mv_iinc (v := nI (y + 1)) dX12_chance_89 rfl (mv_inc y 1) (by decide) ?_
          refine mv_goto (tgt := 29) dX12_chance_92 (by decide) ?_
          exact ih (q_pw (q_ra (q_oks lw ln s wa cf ct rr (fun _ => 0)) cf ct y) w v) (y + 1) (q_fd (q_ev lw ln s wa cf ct rr) s y (q_z oa2 400) s.1) gx5 (by omega) fr XO HX X59 X60 X61 X62 X63 X64 X65 X66 X53 (by omega) (q_pw_le _ _ _ hvb) (q_fd_le (q_z_l1 ho2 400) _) (by rw [← hq, q_xch_y (f := 8 - y) (by omega) c43 c52, Nat.sub_sub])
        · have c52 : cf y = -1 := Classical.byContradiction (fun q => absurd (q_cd_1 hwi q) (by have q2 := (nI_eq (b := 0) (by omega) (by omega)).mp c52; omega))
          refine mv_sipush (v := (-1003)) dX12_chance_55 (by decide) ?_
          have e9 : (q_xch (q_ra (q_oks lw ln s wa cf ct rr (fun _ => 0)) cf ct) (fun k o => q_fd (q_ev lw ln s wa cf ct rr) s k (q_z o 400) s.1) cf w set 8 0 1000000 oa) = (-1003, oa2) := (by rw [← hq]; exact q_xch_x (by omega) c43 c52)
          exact mv_iret dX12_chance_58 rfl rfl ⟨(by rw [e9]), fr, (by rw [e9]; exact XO)⟩
set_option maxRecDepth 100000 in
theorem k_X12_chance_G {ev : mv_E} {h : mv_H} {xt : Int32} {xf : Int32} {xa : Int32} {xo : Int64} {xe : Int32} {xu : Int32} {xs : Int32} {xc : Int32} {xw : Int32} {b : t_B} {t : Nat} {s : q_S} {wa : Nat → Nat} {cf : Nat → Int32} {ct : Nat → Int32} {rr : Nat → Nat} {lw : Nat → Int32} {ln : Nat → Nat} {w : Nat} {set : Nat} {oa : Nat → Nat} (HX : h[52]? = some (.inr (12, [.ref 53, .ref 54, .int xt, .int xf, .int xa, .long xo, .int xe, .int xu, .ref 55, .int xs, .int (nI b.1), .ref 56, .ref 57, .ref 58, .int (nI t), .int (nI b.2.1), .ref 59, .ref 60, .ref 61, .ref 62, .int (nI s.1), .ref 63, .ref 64, .ref 65, .ref 66, .ref 67, .ref 68, .ref 69, .int xc, .ref 70, .ref 71, .ref 72, .ref 73, .ref 74, .ref 75, .int xw, .ref 76, .ref 77, .ref 78, .ref 79, .ref 80]))) (X59 : h[59]? = some (.inl (0, 8, .inl (fun j => nI (wa j))))) (X60 : h[60]? = some (.inl (0, 8, .inl cf))) (X61 : h[61]? = some (.inl (0, 8, .inl ct))) (X62 : h[62]? = some (.inl (2, 400, .inl (fun j => nI (rr j))))) (X63 : h[63]? = some (.inl (0, 100, .inl (fun j => nI (s.2.1 j))))) (X64 : h[64]? = some (.inl (0, 100, .inl (fun j => nI (s.2.2.1 j))))) (X65 : h[65]? = some (.inl (0, 100, .inl (fun j => nI (s.2.2.2.1 j))))) (X66 : h[66]? = some (.inl (0, 100, .inl (fun j => nI (s.2.2.2.2 j))))) (X53 : h[53]? = some (.inl (0, 8, .inl lw))) (XO : h[67]? = some (.inl (2, 400, .inl (fun j => nI (oa j))))) (hw : q_LW lw ln) (hsi : q_SI s) (hr : ∀ d, rr d ≤ 1) (hwi : q_WI wa cf ct) (hw1 : 1 ≤ w) (hw6 : w ≤ 60) (hset : set < 256) (ho : ∀ d, oa d ≤ 1) : ∃ h2, mv_K ev mX12_chance [.ref 52, .int (nI w), .int (nI set)] h (some (.int (q_xch (q_ra (q_oks lw ln s wa cf ct rr (fun _ => 0)) cf ct) (fun k o => q_fd (q_ev lw ln s wa cf ct rr) s k (q_z o 400) s.1) cf w set 8 0 1000000 oa).1)) h2 ∧ mv_fra [67] h h2 ∧ h2[67]? = some (.inl (2, 400, .inl (fun j => nI ((q_xch (q_ra (q_oks lw ln s wa cf ct rr (fun _ => 0)) cf ct) (fun k o => q_fd (q_ev lw ln s wa cf ct rr) s k (q_z o 400) s.1) cf w set 8 0 1000000 oa).2 j)))) := by
  suffices g0 : mv_g ev mX12_chance 0 (mv_ent [.ref 52, .int (nI w), .int (nI set)] (mv_ml mX12_chance)) [] h (fun r g => r = some (.int (q_xch (q_ra (q_oks lw ln s wa cf ct rr (fun _ => 0)) cf ct) (fun k o => q_fd (q_ev lw ln s wa cf ct rr) s k (q_z o 400) s.1) cf w set 8 0 1000000 oa).1) ∧ mv_fra [67] h g ∧ g[67]? = some (.inl (2, 400, .inl (fun j => nI ((q_xch (q_ra (q_oks lw ln s wa cf ct rr (fun _ => 0)) cf ct) (fun k o => q_fd (q_ev lw ln s wa cf ct rr) s k (q_z o 400) s.1) cf w set 8 0 1000000 oa).2 j))))) from (by obtain ⟨r0, h0, K0, q0, Q0⟩ := mv_Kex g0; subst q0; exact ⟨h0, K0, Q0⟩)
  show mv_g ev mX12_chance 0 [.ref 52, .int (nI w), .int (nI set), .null, .null, .null, .null] [] h _
  have fr : mv_fra [67] h h := mv_fra.rf
  refine mv_iload_n dX12_chance_0 rfl ?_
  refine mv_cS1 dX12_chance_1 lk_X12_chance_309 (Nat.le_of_ble_eq_true rfl) (Nat.le_of_ble_eq_true rfl) (k_X12_isWide (ev := ev)) ?_
  refine mv_if_eq (tgt := 19) dX12_chance_4 (by decide) (fun z => absurd z ((fun z => (mv_b_0 _).mp z (mv_in_i (by omega) (by omega) (by omega))))) (fun c4 => ?_)
  refine mv_iload_n dX12_chance_7 rfl ?_
  refine mv_i2l dX12_chance_8 ?_
  refine mv_topL (y := lN set) (nI_l (by omega)) ?_
  refine mv_lconst (v := lN 0) dX12_chance_9 rfl ?_
  refine mv_ldc2 (v := lN 255) dX12_chance_10 wd_1349 ?_
  refine mv_cS3 dX12_chance_13 lk_X12_chance_107 (Nat.le_of_ble_eq_true rfl) (Nat.le_of_ble_eq_true rfl) (k_X12_in (ev := ev)) ?_
  refine mv_if_ne (tgt := 23) dX12_chance_16 (by decide) (fun c16 => ?_) (fun z => absurd z ((fun z => (mv_b_0 _).mp z ((and_congr (lN_leB (by omega) (by omega)) (lN_leB (by omega) (by omega))).mpr ⟨by omega, by omega⟩))))
  refine mv_ldc (v := nI 1000000) dX12_chance_23 wd_1414 ?_
  refine mv_istore_n dX12_chance_25 (by decide) ?_
  refine mv_iconst (v := nI 0) dX12_chance_26 (by decide) ?_
  refine mv_istore dX12_chance_27 (by decide) ?_
  exact l_X12_chance hw hsi hr hwi hw1 hw6 hset ho (8 + 1) 1000000 0 oa h (by omega) fr XO HX X59 X60 X61 X62 X63 X64 X65 X66 X53 (Nat.zero_le _) (Nat.le_refl _) ho rfl
def q_sh (b : t_B) (p m x a c n : Nat) : Prop := ∃ k, k < n ∧ (a ≤ b.2.2.1 k ∧ b.2.2.1 k ≤ c) ∧ q_su b p m x k
theorem q_sh_s {b : t_B} {p m x a c n : Nat} : q_sh b p m x a c (n + 1) ↔ q_sh b p m x a c n ∨ ((a ≤ b.2.2.1 n ∧ b.2.2.1 n ≤ c) ∧ q_su b p m x n) := by
  constructor
  · intro ⟨k, h1, h2⟩
    by_cases e : k = n
    · rw [e] at h2
      exact Or.inr h2
    · exact Or.inl ⟨k, by omega, h2⟩
  · intro h
    rcases h with ⟨k, h1, h2⟩ | h
    · exact ⟨k, by omega, h2⟩
    · exact ⟨n, by omega, h⟩
theorem q_sh_0 {b : t_B} {p m x a c : Nat} : ¬ q_sh b p m x a c 0 := fun ⟨k, h, _⟩ => absurd h (Nat.not_lt_zero _)
/-- what the class marks ahead of shakes is what the reference asks -/
theorem q_fm_i {b : t_B} {p m x w : Nat} {f : Nat → Nat} (n d : Nat) (hf : f d = 0) : q_fm b p m x w f n d = 1 ↔ q_sh b p m x (d + 1) (d + w) n := by
  induction n with
  | zero =>
    have e : q_fm b p m x w f 0 = f := rfl
    rw [e, hf]
    exact ⟨fun q => absurd q (by decide), fun q => absurd q q_sh_0⟩
  | succ n ih =>
    rw [q_sh_s, ← ih]
    by_cases c : q_su b p m x n
    · rw [q_fm_y c]
      unfold q_mk
      by_cases c2 : d < b.2.2.1 n ∧ b.2.2.1 n ≤ d + w
      · rw [if_pos c2]
        exact ⟨fun _ => Or.inr ⟨by omega, c⟩, fun _ => rfl⟩
      · rw [if_neg c2]
        exact ⟨fun q => Or.inl q, fun q => q.elim id (fun q2 => absurd q2.1 (by omega))⟩
    · rw [q_fm_n c]
      exact ⟨fun q => Or.inl q, fun q => q.elim id (fun q2 => absurd q2.2 c)⟩
set_option maxRecDepth 100000 in
theorem l_X12_isShaken {ev : mv_E} {h : mv_H} {xt : Int32} {xf : Int32} {xa : Int32} {xo : Int64} {xe : Int32} {xu : Int32} {xs : Int32} {xg : Int32} {xc : Int32} {xw : Int32} {b : t_B} {t : Nat} {p : Nat} {m : Nat} {x : Nat} {a : Nat} {c : Nat} {dd : Nat} (HX : h[52]? = some (.inr (12, [.ref 53, .ref 54, .int xt, .int xf, .int xa, .long xo, .int xe, .int xu, .ref 55, .int xs, .int (nI b.1), .ref 56, .ref 57, .ref 58, .int (nI t), .int (nI b.2.1), .ref 59, .ref 60, .ref 61, .ref 62, .int xg, .ref 63, .ref 64, .ref 65, .ref 66, .ref 67, .ref 68, .ref 69, .int xc, .ref 70, .ref 71, .ref 72, .ref 73, .ref 74, .ref 75, .int xw, .ref 76, .ref 77, .ref 78, .ref 79, .ref 80]))) (X56 : h[56]? = some (.inl (0, 60, .inl (fun j => nI (b.2.2.1 j))))) (X57 : h[57]? = some (.inl (0, 60, .inl (fun j => nI (b.2.2.2.1 j))))) (X58 : h[58]? = some (.inl (0, 60, .inl (fun j => nI (b.2.2.2.2 j))))) (hb : q_BI dd b) (hp : p < 64) (hm0 : m < 8) (hz9 : x ≤ 9) (ha : a < 1000) (hc : c < 1000) : ∀ (fu : Nat) (v : Nat) (y : Nat), b.1 < y + fu → (y ≤ b.1) → (v ≤ 1) → (v = 1 ↔ (q_sh b p m x a c y)) → mv_g ev mX12_isShaken 6 [.ref 52, .int (nI p), .int (nI m), .int (nI x), .int (nI a), .int (nI c), .int (nI v), .int (nI y)] [] h (fun r g => r = some (.int (mv_q (q_sh b p m x a c b.1))) ∧ g = h) := by
  intro fu
  induction fu with
  | zero => intro v y hm hy hvb hst; exact absurd hm (by omega)
  | succ fu ih =>
    intro v y hm hy hvb hst
    have n0 := hb.1
    have n1 := hb.2.2.1 y
    have n2 := hb.2.2.2.1 y
    have n3 := hb.2.2.2.2.1 y
    have n4 := t_far_lt hp n2
    refine mv_iload dX12_isShaken_6 rfl ?_
    refine mv_aload_n dX12_isShaken_8 rfl ?_
    refine mv_getf (ci := 12) (f := 10) dX12_isShaken_9 HX rfl (by decide) wd_1209 rfl ?_
    refine mv_icmp_ge (tgt := 79) dX12_isShaken_12 (by decide) (fun c12 => ?_) (fun c12 => ?_)
    · have c12 : b.1 ≤ y := (nI_leI (by omega) (by omega)).mp c12
      refine mv_iload dX12_isShaken_79 rfl ?_
      exact mv_iret dX12_isShaken_81 rfl (by have e : v = 0 ∨ v = 1 := (by omega); rcases e with rfl | rfl <;> rfl) ⟨(congrArg (fun z => some (Value.int z)) (by have e : y = b.1 := (by omega); subst e; by_cases q : v = 1; exact ((congrArg nI q).trans (mv_q_t (hst.mp q)).symm); exact ((congrArg nI (show v = 0 by omega)).trans (mv_q_f (fun q2 => q (hst.mpr q2))).symm))), rfl⟩
    · have c12 : ¬ (b.1 ≤ y) := fun z => c12 ((nI_leI (by omega) (by omega)).mpr z)
      refine mv_iload dX12_isShaken_15 rfl ?_
      refine mv_if_ne (tgt := 66) dX12_isShaken_17 (by decide) (fun c17 => ?_) (fun c17 => ?_)
      · have c17 : ¬ (v = 0) := fun z => c17 ((nI_eq (b := 0) (by omega) (by omega)).mpr z)
        refine mv_iconst (v := nI 1) dX12_isShaken_66 (by decide) ?_
        refine mv_goto (tgt := 71) dX12_isShaken_67 (by decide) ?_
        refine mv_istore dX12_isShaken_71 (by decide) ?_
        refine mv_iinc (v := nI (y + 1)) dX12_isShaken_73 rfl (mv_inc y 1) (by decide) ?_
        refine mv_goto (tgt := 6) dX12_isShaken_76 (by decide) ?_
        exact ih 1 (y + 1) (by omega) (by omega) (by omega) (by first | exact ⟨fun _ => q_sh_s.mpr (Or.inl (hst.mp (by omega))), fun _ => rfl⟩ | exact ⟨fun _ => q_sh_s.mpr (Or.inr ⟨c37, by omega, by rw [t_far_sym]; omega⟩), fun _ => rfl⟩ | exact ⟨fun q => absurd q (by decide), fun q => (q_sh_s.mp q).elim (fun q2 => absurd (hst.mpr q2) (by omega)) (fun q2 => by first | exact c37 q2.1 | exact absurd q2.2.1 (by omega) | exact absurd q2.2.2 (by rw [t_far_sym]; omega))⟩)
      · have c17 : v = 0 := (nI_eq (b := 0) (by omega) (by omega)).mp c17
        refine mv_aload_n dX12_isShaken_20 rfl ?_
        refine mv_getf (ci := 12) (f := 11) dX12_isShaken_21 HX rfl (by decide) wd_1210 rfl ?_
        refine mv_iload dX12_isShaken_24 rfl ?_
        refine mv_iaN (j := y) (x := nI (b.2.2.1 y)) dX12_isShaken_26 X56 rfl (by decide) (by omega) rfl ?_
        refine mv_i2l dX12_isShaken_27 ?_
        refine mv_topL (y := lN (b.2.2.1 y)) (nI_l (by omega)) ?_
        refine mv_iload dX12_isShaken_28 rfl ?_
        refine mv_i2l dX12_isShaken_30 ?_
        refine mv_topL (y := lN a) (nI_l (by omega)) ?_
        refine mv_iload dX12_isShaken_31 rfl ?_
        refine mv_i2l dX12_isShaken_33 ?_
        refine mv_topL (y := lN c) (nI_l (by omega)) ?_
        refine mv_cS3 dX12_isShaken_34 lk_X12_isShaken_107 (Nat.le_of_ble_eq_true rfl) (Nat.le_of_ble_eq_true rfl) (k_X12_in (ev := ev)) ?_
        refine mv_if_eq (tgt := 70) dX12_isShaken_37 (by decide) (fun c37 => ?_) (fun c37 => ?_)
        · have c37 : ¬ (a ≤ b.2.2.1 y ∧ b.2.2.1 y ≤ c) := fun q => (mv_b_0 _).mp c37 ((and_congr (lN_leB (by omega) (by omega)) (lN_leB (by omega) (by omega))).mpr q)
          refine mv_iconst (v := nI 0) dX12_isShaken_70 (by decide) ?_
          refine mv_istore dX12_isShaken_71 (by decide) ?_
          refine mv_iinc (v := nI (y + 1)) dX12_isShaken_73 rfl (mv_inc y 1) (by decide) ?_
          refine mv_goto (tgt := 6) dX12_isShaken_76 (by decide) ?_
          exact ih 0 (y + 1) (by omega) (by omega) (by omega) (by first | exact ⟨fun _ => q_sh_s.mpr (Or.inl (hst.mp (by omega))), fun _ => rfl⟩ | exact ⟨fun _ => q_sh_s.mpr (Or.inr ⟨c37, by omega, by rw [t_far_sym]; omega⟩), fun _ => rfl⟩ | exact ⟨fun q => absurd q (by decide), fun q => (q_sh_s.mp q).elim (fun q2 => absurd (hst.mpr q2) (by omega)) (fun q2 => by first | exact c37 q2.1 | exact absurd q2.2.1 (by omega) | exact absurd q2.2.2 (by rw [t_far_sym]; omega))⟩)
        · have c37 : a ≤ b.2.2.1 y ∧ b.2.2.1 y ≤ c := (and_congr (lN_leB (by omega) (by omega)) (lN_leB (by omega) (by omega))).mp (mv_b_ne c37)
          refine mv_aload_n dX12_isShaken_40 rfl ?_
          refine mv_getf (ci := 12) (f := 13) dX12_isShaken_41 HX rfl (by decide) wd_1212 rfl ?_
          refine mv_iload dX12_isShaken_44 rfl ?_
          refine mv_iaN (j := y) (x := nI (b.2.2.2.2 y)) dX12_isShaken_46 X58 rfl (by decide) (by omega) rfl ?_
          refine mv_iload_n dX12_isShaken_47 rfl ?_
          refine mv_icmp_lt (tgt := 70) dX12_isShaken_48 (by decide) (fun c48 => ?_) (fun c48 => ?_)
          · have c48 : b.2.2.2.2 y < x := (nI_ltI (by omega) (by omega)).mp c48
            refine mv_iconst (v := nI 0) dX12_isShaken_70 (by decide) ?_
            refine mv_istore dX12_isShaken_71 (by decide) ?_
            refine mv_iinc (v := nI (y + 1)) dX12_isShaken_73 rfl (mv_inc y 1) (by decide) ?_
            refine mv_goto (tgt := 6) dX12_isShaken_76 (by decide) ?_
            exact ih 0 (y + 1) (by omega) (by omega) (by omega) (by first | exact ⟨fun _ => q_sh_s.mpr (Or.inl (hst.mp (by omega))), fun _ => rfl⟩ | exact ⟨fun _ => q_sh_s.mpr (Or.inr ⟨c37, by omega, by rw [t_far_sym]; omega⟩), fun _ => rfl⟩ | exact ⟨fun q => absurd q (by decide), fun q => (q_sh_s.mp q).elim (fun q2 => absurd (hst.mpr q2) (by omega)) (fun q2 => by first | exact c37 q2.1 | exact absurd q2.2.1 (by omega) | exact absurd q2.2.2 (by rw [t_far_sym]; omega))⟩)
          · have c48 : ¬ (b.2.2.2.2 y < x) := fun z => c48 ((nI_ltI (by omega) (by omega)).mpr z)
            refine mv_iload_n dX12_isShaken_51 rfl ?_
            refine mv_aload_n dX12_isShaken_52 rfl ?_
            refine mv_getf (ci := 12) (f := 12) dX12_isShaken_53 HX rfl (by decide) wd_1211 rfl ?_
            refine mv_iload dX12_isShaken_56 rfl ?_
            refine mv_iaN (j := y) (x := nI (b.2.2.2.1 y)) dX12_isShaken_58 X57 rfl (by decide) (by omega) rfl ?_
            refine mv_cS2 dX12_isShaken_59 lk_X12_isShaken_117 (Nat.le_of_ble_eq_true rfl) (Nat.le_of_ble_eq_true rfl) (k_X12_far (ev := ev) (by omega) (by omega)) ?_
            refine mv_iload_n dX12_isShaken_62 rfl ?_
            refine mv_icmp_gt (tgt := 70) dX12_isShaken_63 (by decide) (fun c63 => ?_) (fun c63 => ?_)
            · have c63 : m < t_far p (b.2.2.2.1 y) := (nI_ltI (by omega) (by omega)).mp c63
              refine mv_iconst (v := nI 0) dX12_isShaken_70 (by decide) ?_
              refine mv_istore dX12_isShaken_71 (by decide) ?_
              refine mv_iinc (v := nI (y + 1)) dX12_isShaken_73 rfl (mv_inc y 1) (by decide) ?_
              refine mv_goto (tgt := 6) dX12_isShaken_76 (by decide) ?_
              exact ih 0 (y + 1) (by omega) (by omega) (by omega) (by first | exact ⟨fun _ => q_sh_s.mpr (Or.inl (hst.mp (by omega))), fun _ => rfl⟩ | exact ⟨fun _ => q_sh_s.mpr (Or.inr ⟨c37, by omega, by rw [t_far_sym]; omega⟩), fun _ => rfl⟩ | exact ⟨fun q => absurd q (by decide), fun q => (q_sh_s.mp q).elim (fun q2 => absurd (hst.mpr q2) (by omega)) (fun q2 => by first | exact c37 q2.1 | exact absurd q2.2.1 (by omega) | exact absurd q2.2.2 (by rw [t_far_sym]; omega))⟩)
            · have c63 : ¬ (m < t_far p (b.2.2.2.1 y)) := fun z => c63 ((nI_ltI (by omega) (by omega)).mpr z)
              refine mv_iconst (v := nI 1) dX12_isShaken_66 (by decide) ?_
              refine mv_goto (tgt := 71) dX12_isShaken_67 (by decide) ?_
              refine mv_istore dX12_isShaken_71 (by decide) ?_
              refine mv_iinc (v := nI (y + 1)) dX12_isShaken_73 rfl (mv_inc y 1) (by decide) ?_
              refine mv_goto (tgt := 6) dX12_isShaken_76 (by decide) ?_
              exact ih 1 (y + 1) (by omega) (by omega) (by omega) (by first | exact ⟨fun _ => q_sh_s.mpr (Or.inl (hst.mp (by omega))), fun _ => rfl⟩ | exact ⟨fun _ => q_sh_s.mpr (Or.inr ⟨c37, by omega, by rw [t_far_sym]; omega⟩), fun _ => rfl⟩ | exact ⟨fun q => absurd q (by decide), fun q => (q_sh_s.mp q).elim (fun q2 => absurd (hst.mpr q2) (by omega)) (fun q2 => by first | exact c37 q2.1 | exact absurd q2.2.1 (by omega) | exact absurd q2.2.2 (by rw [t_far_sym]; omega))⟩)
set_option maxRecDepth 100000 in
theorem k_X12_isShaken {ev : mv_E} {h : mv_H} {xt : Int32} {xf : Int32} {xa : Int32} {xo : Int64} {xe : Int32} {xu : Int32} {xs : Int32} {xg : Int32} {xc : Int32} {xw : Int32} {b : t_B} {t : Nat} {p : Nat} {m : Nat} {x : Nat} {a : Nat} {c : Nat} {dd : Nat} (HX : h[52]? = some (.inr (12, [.ref 53, .ref 54, .int xt, .int xf, .int xa, .long xo, .int xe, .int xu, .ref 55, .int xs, .int (nI b.1), .ref 56, .ref 57, .ref 58, .int (nI t), .int (nI b.2.1), .ref 59, .ref 60, .ref 61, .ref 62, .int xg, .ref 63, .ref 64, .ref 65, .ref 66, .ref 67, .ref 68, .ref 69, .int xc, .ref 70, .ref 71, .ref 72, .ref 73, .ref 74, .ref 75, .int xw, .ref 76, .ref 77, .ref 78, .ref 79, .ref 80]))) (X56 : h[56]? = some (.inl (0, 60, .inl (fun j => nI (b.2.2.1 j))))) (X57 : h[57]? = some (.inl (0, 60, .inl (fun j => nI (b.2.2.2.1 j))))) (X58 : h[58]? = some (.inl (0, 60, .inl (fun j => nI (b.2.2.2.2 j))))) (hb : q_BI dd b) (hp : p < 64) (hm0 : m < 8) (hz9 : x ≤ 9) (ha : a < 1000) (hc : c < 1000) : mv_K ev mX12_isShaken [.ref 52, .int (nI p), .int (nI m), .int (nI x), .int (nI a), .int (nI c)] h (some (.int (mv_q (q_sh b p m x a c b.1)))) h := by
  refine mv_Kof ?_
  show mv_g ev mX12_isShaken 0 [.ref 52, .int (nI p), .int (nI m), .int (nI x), .int (nI a), .int (nI c), .null, .null] [] h _
  have n0 := hb.1
  refine mv_iconst (v := nI 0) dX12_isShaken_0 (by decide) ?_
  refine mv_istore dX12_isShaken_1 (by decide) ?_
  refine mv_iconst (v := nI 0) dX12_isShaken_3 (by decide) ?_
  refine mv_istore dX12_isShaken_4 (by decide) ?_
  exact l_X12_isShaken HX X56 X57 X58 hb hp hm0 hz9 ha hc (b.1 + 1) 0 0 (by omega) (Nat.zero_le _) (Nat.zero_le _) ⟨fun q => absurd q (by decide), fun q => absurd q q_sh_0⟩
set_option maxRecDepth 100000 in
theorem k_X12_table_R1 {ev : mv_E} {h : mv_H} {k : Int32} {w : Int32} {m : Int32} {x : Int32} {i : Int32}  (hno : ¬ ((nI 0 ≤ k ∧ k ≤ nI 7))) : mv_K ev mX12_table [.ref 52, .int k, .int w, .int m, .int x, .int i] h (some (.int (-1001))) h := by
  refine mv_Kof ?_
  show mv_g ev mX12_table 0 [.ref 52, .int k, .int w, .int m, .int x, .int i, .null, .null, .null, .null] [] h _
  refine mv_iload_n dX12_table_0 rfl ?_
  refine mv_cS1 dX12_table_1 lk_X12_table_282 (Nat.le_of_ble_eq_true rfl) (Nat.le_of_ble_eq_true rfl) (k_X12_isKind (ev := ev)) ?_
  refine mv_if_ne (tgt := 11) dX12_table_4 (by decide) (fun c4 => ?_) (fun c4 => ?_)
  · have c4 : nI 0 ≤ k ∧ k ≤ nI 7 := Classical.byContradiction (fun z => c4 ((mv_b_0 _).mpr z))
    exact absurd (by assumption) hno
  · have c4 : ¬ (nI 0 ≤ k ∧ k ≤ nI 7) := (mv_b_0 _).mp c4
    refine mv_sipush (v := (-1001)) dX12_table_7 (by decide) ?_
    exact mv_iret dX12_table_10 rfl rfl ⟨rfl, rfl⟩
set_option maxRecDepth 100000 in
theorem k_X12_table_R2 {ev : mv_E} {h : mv_H} {k : Nat} {w : Int32} {m : Int32} {x : Int32} {i : Int32}  (hk : k < 8) (hno : ¬ ((nI 1 ≤ w ∧ w ≤ nI 60) ∧ (nI 0 ≤ m ∧ m ≤ nI 7) ∧ (nI 1 ≤ x ∧ x ≤ nI 9) ∧ (nI 0 ≤ i ∧ i ≤ nI 4))) : mv_K ev mX12_table [.ref 52, .int (nI k), .int w, .int m, .int x, .int i] h (some (.int (-1002))) h := by
  refine mv_Kof ?_
  show mv_g ev mX12_table 0 [.ref 52, .int (nI k), .int w, .int m, .int x, .int i, .null, .null, .null, .null] [] h _
  refine mv_iload_n dX12_table_0 rfl ?_
  refine mv_cS1 dX12_table_1 lk_X12_table_282 (Nat.le_of_ble_eq_true rfl) (Nat.le_of_ble_eq_true rfl) (k_X12_isKind (ev := ev)) ?_
  refine mv_if_ne (tgt := 11) dX12_table_4 (by decide) (fun c4 => ?_) (fun z => absurd z ((fun z => (mv_b_0 _).mp z (mv_in_i (by omega) (by omega) (by omega)))))
  refine mv_iload_n dX12_table_11 rfl ?_
  refine mv_cS1 dX12_table_12 lk_X12_table_309 (Nat.le_of_ble_eq_true rfl) (Nat.le_of_ble_eq_true rfl) (k_X12_isWide (ev := ev)) ?_
  refine mv_if_eq (tgt := 46) dX12_table_15 (by decide) (fun c15 => ?_) (fun c15 => ?_)
  · have c15 : ¬ (nI 1 ≤ w ∧ w ≤ nI 60) := (mv_b_0 _).mp c15
    refine mv_sipush (v := (-1002)) dX12_table_46 (by decide) ?_
    exact mv_iret dX12_table_49 rfl rfl ⟨rfl, rfl⟩
  · have c15 : nI 1 ≤ w ∧ w ≤ nI 60 := Classical.byContradiction (fun z => c15 ((mv_b_0 _).mpr z))
    refine mv_iload_n dX12_table_18 rfl ?_
    refine mv_cS1 dX12_table_19 lk_X12_table_125 (Nat.le_of_ble_eq_true rfl) (Nat.le_of_ble_eq_true rfl) (k_X12_isNear (ev := ev)) ?_
    refine mv_if_eq (tgt := 46) dX12_table_22 (by decide) (fun c22 => ?_) (fun c22 => ?_)
    · have c22 : ¬ (nI 0 ≤ m ∧ m ≤ nI 7) := (mv_b_0 _).mp c22
      refine mv_sipush (v := (-1002)) dX12_table_46 (by decide) ?_
      exact mv_iret dX12_table_49 rfl rfl ⟨rfl, rfl⟩
    · have c22 : nI 0 ≤ m ∧ m ≤ nI 7 := Classical.byContradiction (fun z => c22 ((mv_b_0 _).mpr z))
      refine mv_iload dX12_table_25 rfl ?_
      refine mv_cS1 dX12_table_27 lk_X12_table_204 (Nat.le_of_ble_eq_true rfl) (Nat.le_of_ble_eq_true rfl) (k_X12_isSize (ev := ev)) ?_
      refine mv_if_eq (tgt := 46) dX12_table_30 (by decide) (fun c30 => ?_) (fun c30 => ?_)
      · have c30 : ¬ (nI 1 ≤ x ∧ x ≤ nI 9) := (mv_b_0 _).mp c30
        refine mv_sipush (v := (-1002)) dX12_table_46 (by decide) ?_
        exact mv_iret dX12_table_49 rfl rfl ⟨rfl, rfl⟩
      · have c30 : nI 1 ≤ x ∧ x ≤ nI 9 := Classical.byContradiction (fun z => c30 ((mv_b_0 _).mpr z))
        refine mv_iload dX12_table_33 rfl ?_
        refine mv_i2l dX12_table_35 ?_
        refine mv_lconst (v := lN 0) dX12_table_36 rfl ?_
        refine mv_ldc2 (v := lN 4) dX12_table_37 wd_1559 ?_
        refine mv_cS3 dX12_table_40 lk_X12_table_107 (Nat.le_of_ble_eq_true rfl) (Nat.le_of_ble_eq_true rfl) (k_X12_in (ev := ev)) ?_
        refine mv_if_ne (tgt := 50) dX12_table_43 (by decide) (fun c43 => ?_) (fun c43 => ?_)
        · have c43 : nI 0 ≤ i ∧ i ≤ nI 4 := (and_congr (mv_lL (by decide)) (mv_lR (by decide))).mp (mv_b_ne c43)
          exact absurd (by refine ⟨?_, ?_, ?_, ?_⟩ <;> assumption) hno
        · have c43 : ¬ (nI 0 ≤ i ∧ i ≤ nI 4) := fun z => (mv_b_0 _).mp c43 ((and_congr (mv_lL (by decide)) (mv_lR (by decide))).mpr z)
          refine mv_sipush (v := (-1002)) dX12_table_46 (by decide) ?_
          exact mv_iret dX12_table_49 rfl rfl ⟨rfl, rfl⟩
set_option maxRecDepth 100000 in
theorem k_X12_table_R3 {ev : mv_E} {h : mv_H} {xt : Int32} {xf : Int32} {xa : Int32} {xo : Int64} {xe : Int32} {xu : Int32} {xs : Int32} {xc : Int32} {xw : Int32} {b : t_B} {t : Nat} {s : q_S} {wa : Nat → Nat} {cf : Nat → Int32} {ct : Nat → Int32} {k : Nat} {w : Nat} {m : Nat} {x : Nat} {i : Nat} (HX : h[52]? = some (.inr (12, [.ref 53, .ref 54, .int xt, .int xf, .int xa, .long xo, .int xe, .int xu, .ref 55, .int xs, .int (nI b.1), .ref 56, .ref 57, .ref 58, .int (nI t), .int (nI b.2.1), .ref 59, .ref 60, .ref 61, .ref 62, .int (nI s.1), .ref 63, .ref 64, .ref 65, .ref 66, .ref 67, .ref 68, .ref 69, .int xc, .ref 70, .ref 71, .ref 72, .ref 73, .ref 74, .ref 75, .int xw, .ref 76, .ref 77, .ref 78, .ref 79, .ref 80]))) (X60 : h[60]? = some (.inl (0, 8, .inl cf))) (X61 : h[61]? = some (.inl (0, 8, .inl ct))) (hk : k < 8) (hw1 : 1 ≤ w) (hw6 : w ≤ 60) (hm0 : m < 8) (hz1 : 1 ≤ x) (hz9 : x ≤ 9) (hi : i ≤ 4) (hwi : q_WI wa cf ct) (hno : ¬ (w < q_cd cf ct k)) : mv_K ev mX12_table [.ref 52, .int (nI k), .int (nI w), .int (nI m), .int (nI x), .int (nI i)] h (some (.int (-1003))) h := by
  refine mv_Kof ?_
  show mv_g ev mX12_table 0 [.ref 52, .int (nI k), .int (nI w), .int (nI m), .int (nI x), .int (nI i), .null, .null, .null, .null] [] h _
  have n1 := q_cd_le hwi k
  refine mv_iload_n dX12_table_0 rfl ?_
  refine mv_cS1 dX12_table_1 lk_X12_table_282 (Nat.le_of_ble_eq_true rfl) (Nat.le_of_ble_eq_true rfl) (k_X12_isKind (ev := ev)) ?_
  refine mv_if_ne (tgt := 11) dX12_table_4 (by decide) (fun c4 => ?_) (fun z => absurd z ((fun z => (mv_b_0 _).mp z (mv_in_i (by omega) (by omega) (by omega)))))
  refine mv_iload_n dX12_table_11 rfl ?_
  refine mv_cS1 dX12_table_12 lk_X12_table_309 (Nat.le_of_ble_eq_true rfl) (Nat.le_of_ble_eq_true rfl) (k_X12_isWide (ev := ev)) ?_
  refine mv_if_eq (tgt := 46) dX12_table_15 (by decide) (fun z => absurd z ((fun z => (mv_b_0 _).mp z (mv_in_i (by omega) (by omega) (by omega))))) (fun c15 => ?_)
  refine mv_iload_n dX12_table_18 rfl ?_
  refine mv_cS1 dX12_table_19 lk_X12_table_125 (Nat.le_of_ble_eq_true rfl) (Nat.le_of_ble_eq_true rfl) (k_X12_isNear (ev := ev)) ?_
  refine mv_if_eq (tgt := 46) dX12_table_22 (by decide) (fun z => absurd z ((fun z => (mv_b_0 _).mp z (mv_in_i (by omega) (by omega) (by omega))))) (fun c22 => ?_)
  refine mv_iload dX12_table_25 rfl ?_
  refine mv_cS1 dX12_table_27 lk_X12_table_204 (Nat.le_of_ble_eq_true rfl) (Nat.le_of_ble_eq_true rfl) (k_X12_isSize (ev := ev)) ?_
  refine mv_if_eq (tgt := 46) dX12_table_30 (by decide) (fun z => absurd z ((fun z => (mv_b_0 _).mp z (mv_in_i (by omega) (by omega) (by omega))))) (fun c30 => ?_)
  refine mv_iload dX12_table_33 rfl ?_
  refine mv_i2l dX12_table_35 ?_
  refine mv_topL (y := lN i) (nI_l (by omega)) ?_
  refine mv_lconst (v := lN 0) dX12_table_36 rfl ?_
  refine mv_ldc2 (v := lN 4) dX12_table_37 wd_1559 ?_
  refine mv_cS3 dX12_table_40 lk_X12_table_107 (Nat.le_of_ble_eq_true rfl) (Nat.le_of_ble_eq_true rfl) (k_X12_in (ev := ev)) ?_
  refine mv_if_ne (tgt := 50) dX12_table_43 (by decide) (fun c43 => ?_) (fun z => absurd z ((fun z => (mv_b_0 _).mp z ((and_congr (lN_leB (by omega) (by omega)) (lN_leB (by omega) (by omega))).mpr ⟨by omega, by omega⟩))))
  refine mv_aload_n dX12_table_50 rfl ?_
  refine mv_iload_n dX12_table_51 rfl ?_
  refine mv_cV1 (ci := 12) dX12_table_52 lk_X12_table_285 HX rfl (Nat.le_of_ble_eq_true rfl) (Nat.le_of_ble_eq_true rfl) (k_X12_counted (ev := ev) HX X60 X61 hk hwi) ?_
  refine mv_iload_n dX12_table_55 rfl ?_
  refine mv_icmp_gt (tgt := 63) dX12_table_56 (by decide) (fun c56 => ?_) (fun c56 => ?_)
  · have c56 : w < q_cd cf ct k := (nI_ltI (by omega) (by omega)).mp c56
    exact absurd c56 hno
  · have c56 : ¬ (w < q_cd cf ct k) := fun z => c56 ((nI_ltI (by omega) (by omega)).mpr z)
    refine mv_sipush (v := (-1003)) dX12_table_59 (by decide) ?_
    exact mv_iret dX12_table_62 rfl rfl ⟨rfl, rfl⟩
theorem q_th_0 {x y : Nat} (h : y = 0) : q_th x y = 0 := by
  unfold q_th
  rw [h, Nat.div_zero]
def q_4f (t : q_4) (f : Nat → Nat) : Nat → Nat := fun i => if i = 0 then t.1 else if i = 1 then t.2.1 else if i = 2 then t.2.2.1 else if i = 3 then t.2.2.2 else f i
theorem q_4f_0 (f : Nat → Nat) : q_4f (0, 0, 0, 0) (q_z f 4) = q_z f 4 := by
  funext i
  unfold q_4f q_z
  by_cases c : i < 4
  · rw [if_pos c]
    repeat' split
    all_goals rfl
  · rw [if_neg (show ¬ i = 0 by omega), if_neg (show ¬ i = 1 by omega), if_neg (show ¬ i = 2 by omega), if_neg (show ¬ i = 3 by omega)]
theorem q_4f_u (t : q_4) (f : Nat → Nat) {u v q : Nat} (h : (q = 0 ∧ u = 1 ∧ v = 1) ∨ (q = 1 ∧ u = 1 ∧ v = 0) ∨ (q = 2 ∧ u = 0 ∧ v = 1) ∨ (q = 3 ∧ u = 0 ∧ v = 0)) : t_up (q_4f t f) q (q_4f t f q + 1) = q_4f (q_pt u v t) f := by
  funext i
  have e : i = 0 ∨ i = 1 ∨ i = 2 ∨ i = 3 ∨ 4 ≤ i := by omega
  rcases h with ⟨rfl, rfl, rfl⟩ | ⟨rfl, rfl, rfl⟩ | ⟨rfl, rfl, rfl⟩ | ⟨rfl, rfl, rfl⟩ <;> rcases e with rfl | rfl | rfl | rfl | c
  all_goals first
    | rfl
    | (unfold t_up q_4f; rw [if_neg (by omega), if_neg (by omega), if_neg (by omega), if_neg (by omega), if_neg (by omega), if_neg (by omega), if_neg (by omega), if_neg (by omega), if_neg (by omega)])
    | skip
theorem q_on_o {lw : Nat → Int32} {ln : Nat → Nat} {s : q_S} {wa : Nat → Nat} {cf ct : Nat → Int32} {rr ok ok2 : Nat → Nat} (k : Nat) : q_on (q_oks lw ln s wa cf ct rr ok) k 400 = q_on (q_oks lw ln s wa cf ct rr ok2) k 400 := q_cnt_congr 400 (fun d hd => (q_oks_b (by omega)).trans (q_oks_b (by omega)).symm)
theorem q_on_0 {ok : Nat → Nat} {k : Nat} (n : Nat) (h : q_on ok k n = 0) : ∀ d, d < n → ¬ q_bt (ok d) k = 1 := by
  induction n with
  | zero => intro d hd; exact absurd hd (Nat.not_lt_zero _)
  | succ n ih =>
    intro d hd
    by_cases c : q_bt (ok n) k = 1
    · rw [q_on_y c] at h
      exact absurd h (Nat.succ_ne_zero _)
    · rw [q_on_n c] at h
      by_cases e : d = n
      · rw [e]; exact c
      · exact ih h d (by omega)
set_option maxRecDepth 100000 in
theorem l_X12_tableB4 {ev : mv_E} {h : mv_H} {xt : Int32} {xf : Int32} {xa : Int32} {xo : Int64} {xe : Int32} {xu : Int32} {xs : Int32} {xc : Int32} {xw : Int32} {b : t_B} {t : Nat} {s : q_S} {wa : Nat → Nat} {cf : Nat → Int32} {ct : Nat → Int32} {rr : Nat → Nat} {lw : Nat → Int32} {ln : Nat → Nat} {oa : Nat → Nat} {fo : Nat → Nat} {ok : Nat → Nat} {hs : Nat → Nat} {k : Nat} {w : Nat} {m : Nat} {x : Nat} {a1 : Nat} {c1 : Nat} {dd : Nat}  (hw : q_LW lw ln) (hsi : q_SI s) (hr : ∀ d, rr d ≤ 1) (hwi : q_WI wa cf ct) (hk : k < 8) (hw1 : 1 ≤ w) (hw6 : w ≤ 60) (hm0 : m < 8) (hz1 : 1 ≤ x) (hz9 : x ≤ 9) (ho : ∀ d, oa d ≤ 1) (hh : ∀ i, hs i ≤ 1) (hb : q_BI dd b) (hcw : w < q_cd cf ct k) (e1 : cf k = nI a1) (f1 : ct k = nI c1) (hc1 : c1 ≤ 399) (hac : a1 + w ≤ c1) : ∀ (fu : Nat) (y : Nat), ∀ (g : mv_H), c1 + 1 < y + fu → mv_fra [67, 69] h g → g[67]? = some (.inl (2, 400, .inl (fun j => nI (q_fd (q_ev lw ln s wa cf ct rr) s k (q_z oa 400) s.1 j)))) → g[69]? = some (.inl (0, 4, .inl (fun j => nI (q_4f (q_tb (q_oks lw ln s wa cf ct rr ok) (q_fm b (wa k) m x w (q_z hs 400) b.1) k a1 (y - a1)) (q_z fo 4) j)))) → g[52]? = some (.inr (12, [.ref 53, .ref 54, .int xt, .int xf, .int xa, .long xo, .int xe, .int xu, .ref 55, .int xs, .int (nI b.1), .ref 56, .ref 57, .ref 58, .int (nI t), .int (nI b.2.1), .ref 59, .ref 60, .ref 61, .ref 62, .int (nI s.1), .ref 63, .ref 64, .ref 65, .ref 66, .ref 67, .ref 68, .ref 69, .int xc, .ref 70, .ref 71, .ref 72, .ref 73, .ref 74, .ref 75, .int xw, .ref 76, .ref 77, .ref 78, .ref 79, .ref 80])) → g[59]? = some (.inl (0, 8, .inl (fun j => nI (wa j)))) → g[60]? = some (.inl (0, 8, .inl cf)) → g[61]? = some (.inl (0, 8, .inl ct)) → g[62]? = some (.inl (2, 400, .inl (fun j => nI (rr j)))) → g[63]? = some (.inl (0, 100, .inl (fun j => nI (s.2.1 j)))) → g[64]? = some (.inl (0, 100, .inl (fun j => nI (s.2.2.1 j)))) → g[65]? = some (.inl (0, 100, .inl (fun j => nI (s.2.2.2.1 j)))) → g[66]? = some (.inl (0, 100, .inl (fun j => nI (s.2.2.2.2 j)))) → g[56]? = some (.inl (0, 60, .inl (fun j => nI (b.2.2.1 j)))) → g[57]? = some (.inl (0, 60, .inl (fun j => nI (b.2.2.2.1 j)))) → g[58]? = some (.inl (0, 60, .inl (fun j => nI (b.2.2.2.2 j)))) → g[53]? = some (.inl (0, 8, .inl lw)) → (a1 ≤ y) → (y ≤ c1 - w + 1) → mv_g ev mX12_table 105 [.ref 52, .int (nI k), .int (nI w), .int (nI m), .int (nI x), .int (nI 4), .int (nI (q_on (q_oks lw ln s wa cf ct rr (fun _ => 0)) k 400)), .int (nI y), .null, .null] [] g (fun r g => r = some (.int (q_wo (q_tb (q_oks lw ln s wa cf ct rr ok) (q_fm b (wa k) m x w (q_z hs 400) b.1) k a1 (c1 - w + 1 - a1)))) ∧ mv_fra [67, 69] h g ∧ g[67]? = some (.inl (2, 400, .inl (fun j => nI (q_fd (q_ev lw ln s wa cf ct rr) s k (q_z oa 400) s.1 j)))) ∧ g[69]? = some (.inl (0, 4, .inl (fun j => nI (q_4f (q_tb (q_oks lw ln s wa cf ct rr ok) (q_fm b (wa k) m x w (q_z hs 400) b.1) k a1 (c1 - w + 1 - a1)) (q_z fo 4) j))))) := by
  intro fu
  induction fu with
  | zero => intro y g hm fr XO X69 HX X59 X60 X61 X62 X63 X64 X65 X66 X56 X57 X58 X53 hy hy2; exact absurd hm (by omega)
  | succ fu ih =>
    intro y g hm fr XO X69 HX X59 X60 X61 X62 X63 X64 X65 X66 X56 X57 X58 X53 hy hy2
    have n1 := q_cd_le hwi k
    have n5 := hwi.1 k
    have nh : ∀ i, (q_fm b (wa k) m x w (q_z hs 400) b.1) i ≤ 1 := q_fm_le (q_z_l1 hh 400) b.1
    have n2 := q_tb_le (ok := (q_oks lw ln s wa cf ct rr ok)) (hs := (q_fm b (wa k) m x w (q_z hs 400) b.1)) (k := k) (a := a1) nh (c1 - w + 1 - a1)
    have n6 := q_on_le (q_oks lw ln s wa cf ct rr (fun _ => 0)) k 400
    have on0 : q_on (q_oks lw ln s wa cf ct rr (fun _ => 0)) k 400 = 0 → ∀ d, d < 400 → ¬ q_bt ((q_oks lw ln s wa cf ct rr ok) d) k = 1 := fun q => q_on_0 400 ((q_on_o k).trans q)
    refine mv_iload dX12_table_105 rfl ?_
    refine mv_aload_n dX12_table_107 rfl ?_
    refine mv_getf (ci := 12) (f := 18) dX12_table_108 HX rfl (by decide) wd_1217 rfl ?_
    refine mv_iload_n dX12_table_111 rfl ?_
    refine mv_iaN (j := k) (x := nI c1) dX12_table_112 X61 rfl (by decide) (by omega) f1 ?_
    refine mv_iload_n dX12_table_113 rfl ?_
    refine mv_isub dX12_table_114 ?_
    refine mv_topI (y := nI (c1 - w)) (pk_sub (by omega)) ?_
    refine mv_icmp_gt (tgt := 194) dX12_table_115 (by decide) (fun c115 => ?_) (fun c115 => ?_)
    · have c115 : c1 - w < y := (nI_ltI (by omega) (by omega)).mp c115
      have ey : y = c1 - w + 1 := (by omega)
      subst ey
      refine mv_aload_n dX12_table_194 rfl ?_
      refine mv_getf (ci := 12) (f := 27) dX12_table_195 HX rfl (by decide) wd_1226 rfl ?_
      refine mv_iconst (v := nI 0) dX12_table_198 (by decide) ?_
      refine mv_iaN (j := 0) (x := nI (q_tb (q_oks lw ln s wa cf ct rr ok) (q_fm b (wa k) m x w (q_z hs 400) b.1) k a1 (c1 - w + 1 - a1)).1) dX12_table_199 X69 rfl (by decide) (by omega) rfl ?_
      refine mv_aload_n dX12_table_200 rfl ?_
      refine mv_getf (ci := 12) (f := 27) dX12_table_201 HX rfl (by decide) wd_1226 rfl ?_
      refine mv_iconst (v := nI 1) dX12_table_204 (by decide) ?_
      refine mv_iaN (j := 1) (x := nI (q_tb (q_oks lw ln s wa cf ct rr ok) (q_fm b (wa k) m x w (q_z hs 400) b.1) k a1 (c1 - w + 1 - a1)).2.1) dX12_table_205 X69 rfl (by decide) (by omega) rfl ?_
      refine mv_iadd dX12_table_206 ?_
      refine mv_topI (y := nI ((q_tb (q_oks lw ln s wa cf ct rr ok) (q_fm b (wa k) m x w (q_z hs 400) b.1) k a1 (c1 - w + 1 - a1)).1 + (q_tb (q_oks lw ln s wa cf ct rr ok) (q_fm b (wa k) m x w (q_z hs 400) b.1) k a1 (c1 - w + 1 - a1)).2.1)) (nI_add _ _) ?_
      refine mv_istore dX12_table_207 (by decide) ?_
      refine mv_aload_n dX12_table_209 rfl ?_
      refine mv_getf (ci := 12) (f := 27) dX12_table_210 HX rfl (by decide) wd_1226 rfl ?_
      refine mv_iconst (v := nI 2) dX12_table_213 (by decide) ?_
      refine mv_iaN (j := 2) (x := nI (q_tb (q_oks lw ln s wa cf ct rr ok) (q_fm b (wa k) m x w (q_z hs 400) b.1) k a1 (c1 - w + 1 - a1)).2.2.1) dX12_table_214 X69 rfl (by decide) (by omega) rfl ?_
      refine mv_aload_n dX12_table_215 rfl ?_
      refine mv_getf (ci := 12) (f := 27) dX12_table_216 HX rfl (by decide) wd_1226 rfl ?_
      refine mv_iconst (v := nI 3) dX12_table_219 (by decide) ?_
      refine mv_iaN (j := 3) (x := nI (q_tb (q_oks lw ln s wa cf ct rr ok) (q_fm b (wa k) m x w (q_z hs 400) b.1) k a1 (c1 - w + 1 - a1)).2.2.2) dX12_table_220 X69 rfl (by decide) (by omega) rfl ?_
      refine mv_iadd dX12_table_221 ?_
      refine mv_topI (y := nI ((q_tb (q_oks lw ln s wa cf ct rr ok) (q_fm b (wa k) m x w (q_z hs 400) b.1) k a1 (c1 - w + 1 - a1)).2.2.1 + (q_tb (q_oks lw ln s wa cf ct rr ok) (q_fm b (wa k) m x w (q_z hs 400) b.1) k a1 (c1 - w + 1 - a1)).2.2.2)) (nI_add _ _) ?_
      refine mv_istore dX12_table_222 (by decide) ?_
      refine mv_iload dX12_table_224 rfl ?_
      refine mv_if_ne (tgt := 233) dX12_table_226 (by decide) (fun c226 => ?_) (fun c226 => ?_)
      · have c226 : ¬ ((q_tb (q_oks lw ln s wa cf ct rr ok) (q_fm b (wa k) m x w (q_z hs 400) b.1) k a1 (c1 - w + 1 - a1)).1 + (q_tb (q_oks lw ln s wa cf ct rr ok) (q_fm b (wa k) m x w (q_z hs 400) b.1) k a1 (c1 - w + 1 - a1)).2.1 = 0) := fun z => c226 ((nI_eq (b := 0) (by omega) (by omega)).mpr z)
        refine mv_sipush (v := nI 1000) dX12_table_233 (by decide) ?_
        refine mv_aload_n dX12_table_236 rfl ?_
        refine mv_getf (ci := 12) (f := 27) dX12_table_237 HX rfl (by decide) wd_1226 rfl ?_
        refine mv_iconst (v := nI 0) dX12_table_240 (by decide) ?_
        refine mv_iaN (j := 0) (x := nI (q_tb (q_oks lw ln s wa cf ct rr ok) (q_fm b (wa k) m x w (q_z hs 400) b.1) k a1 (c1 - w + 1 - a1)).1) dX12_table_241 X69 rfl (by decide) (by omega) rfl ?_
        refine mv_imul dX12_table_242 ?_
        refine mv_topI (y := nI (1000 * (q_tb (q_oks lw ln s wa cf ct rr ok) (q_fm b (wa k) m x w (q_z hs 400) b.1) k a1 (c1 - w + 1 - a1)).1)) (pk_mul _ _) ?_
        refine mv_iload dX12_table_243 rfl ?_
        refine mv_idiv dX12_table_245 (by intro z; have z2 := (nI_eq (b := 0) (by omega) (by omega)).mp z; omega) ?_
        refine mv_topI (y := nI ((1000 * (q_tb (q_oks lw ln s wa cf ct rr ok) (q_fm b (wa k) m x w (q_z hs 400) b.1) k a1 (c1 - w + 1 - a1)).1) / ((q_tb (q_oks lw ln s wa cf ct rr ok) (q_fm b (wa k) m x w (q_z hs 400) b.1) k a1 (c1 - w + 1 - a1)).1 + (q_tb (q_oks lw ln s wa cf ct rr ok) (q_fm b (wa k) m x w (q_z hs 400) b.1) k a1 (c1 - w + 1 - a1)).2.1))) (pk_div (by omega) (by omega) (by omega)) ?_
        refine mv_iload dX12_table_246 rfl ?_
        refine mv_if_ne (tgt := 255) dX12_table_248 (by decide) (fun c248 => ?_) (fun c248 => ?_)
        · have c248 : ¬ ((q_tb (q_oks lw ln s wa cf ct rr ok) (q_fm b (wa k) m x w (q_z hs 400) b.1) k a1 (c1 - w + 1 - a1)).2.2.1 + (q_tb (q_oks lw ln s wa cf ct rr ok) (q_fm b (wa k) m x w (q_z hs 400) b.1) k a1 (c1 - w + 1 - a1)).2.2.2 = 0) := fun z => c248 ((nI_eq (b := 0) (by omega) (by omega)).mpr z)
          refine mv_sipush (v := nI 1000) dX12_table_255 (by decide) ?_
          refine mv_aload_n dX12_table_258 rfl ?_
          refine mv_getf (ci := 12) (f := 27) dX12_table_259 HX rfl (by decide) wd_1226 rfl ?_
          refine mv_iconst (v := nI 2) dX12_table_262 (by decide) ?_
          refine mv_iaN (j := 2) (x := nI (q_tb (q_oks lw ln s wa cf ct rr ok) (q_fm b (wa k) m x w (q_z hs 400) b.1) k a1 (c1 - w + 1 - a1)).2.2.1) dX12_table_263 X69 rfl (by decide) (by omega) rfl ?_
          refine mv_imul dX12_table_264 ?_
          refine mv_topI (y := nI (1000 * (q_tb (q_oks lw ln s wa cf ct rr ok) (q_fm b (wa k) m x w (q_z hs 400) b.1) k a1 (c1 - w + 1 - a1)).2.2.1)) (pk_mul _ _) ?_
          refine mv_iload dX12_table_265 rfl ?_
          refine mv_idiv dX12_table_267 (by intro z; have z2 := (nI_eq (b := 0) (by omega) (by omega)).mp z; omega) ?_
          refine mv_topI (y := nI ((1000 * (q_tb (q_oks lw ln s wa cf ct rr ok) (q_fm b (wa k) m x w (q_z hs 400) b.1) k a1 (c1 - w + 1 - a1)).2.2.1) / ((q_tb (q_oks lw ln s wa cf ct rr ok) (q_fm b (wa k) m x w (q_z hs 400) b.1) k a1 (c1 - w + 1 - a1)).2.2.1 + (q_tb (q_oks lw ln s wa cf ct rr ok) (q_fm b (wa k) m x w (q_z hs 400) b.1) k a1 (c1 - w + 1 - a1)).2.2.2))) (pk_div (by omega) (by omega) (by omega)) ?_
          refine mv_isub dX12_table_268 ?_
          refine mv_istore dX12_table_269 (by decide) ?_
          refine mv_iload dX12_table_271 rfl ?_
          refine mv_iconst (v := nI 4) dX12_table_273 (by decide) ?_
          refine mv_icmp_ne (tgt := 282) dX12_table_274 (by decide) (fun z => absurd ((by decide)) z) (fun c274 => ?_)
          refine mv_iload dX12_table_277 rfl ?_
          refine mv_goto (tgt := 289) dX12_table_279 (by decide) ?_
          exact mv_iret dX12_table_289 rfl rfl ⟨(congrArg (fun z => some (Value.int z)) (by unfold q_wo; first | rfl | (rw [q_th_0 c226]; rfl) | (rw [q_th_0 c248]; rfl) | rw [q_th_0 c226, q_th_0 c248])), fr, XO, X69⟩
        · have c248 : (q_tb (q_oks lw ln s wa cf ct rr ok) (q_fm b (wa k) m x w (q_z hs 400) b.1) k a1 (c1 - w + 1 - a1)).2.2.1 + (q_tb (q_oks lw ln s wa cf ct rr ok) (q_fm b (wa k) m x w (q_z hs 400) b.1) k a1 (c1 - w + 1 - a1)).2.2.2 = 0 := (nI_eq (b := 0) (by omega) (by omega)).mp c248
          refine mv_iconst (v := nI 0) dX12_table_251 (by decide) ?_
          refine mv_goto (tgt := 268) dX12_table_252 (by decide) ?_
          refine mv_isub dX12_table_268 ?_
          refine mv_istore dX12_table_269 (by decide) ?_
          refine mv_iload dX12_table_271 rfl ?_
          refine mv_iconst (v := nI 4) dX12_table_273 (by decide) ?_
          refine mv_icmp_ne (tgt := 282) dX12_table_274 (by decide) (fun z => absurd ((by decide)) z) (fun c274 => ?_)
          refine mv_iload dX12_table_277 rfl ?_
          refine mv_goto (tgt := 289) dX12_table_279 (by decide) ?_
          exact mv_iret dX12_table_289 rfl rfl ⟨(congrArg (fun z => some (Value.int z)) (by unfold q_wo; first | rfl | (rw [q_th_0 c226]; rfl) | (rw [q_th_0 c248]; rfl) | rw [q_th_0 c226, q_th_0 c248])), fr, XO, X69⟩
      · have c226 : (q_tb (q_oks lw ln s wa cf ct rr ok) (q_fm b (wa k) m x w (q_z hs 400) b.1) k a1 (c1 - w + 1 - a1)).1 + (q_tb (q_oks lw ln s wa cf ct rr ok) (q_fm b (wa k) m x w (q_z hs 400) b.1) k a1 (c1 - w + 1 - a1)).2.1 = 0 := (nI_eq (b := 0) (by omega) (by omega)).mp c226
        refine mv_iconst (v := nI 0) dX12_table_229 (by decide) ?_
        refine mv_goto (tgt := 246) dX12_table_230 (by decide) ?_
        refine mv_iload dX12_table_246 rfl ?_
        refine mv_if_ne (tgt := 255) dX12_table_248 (by decide) (fun c248 => ?_) (fun c248 => ?_)
        · have c248 : ¬ ((q_tb (q_oks lw ln s wa cf ct rr ok) (q_fm b (wa k) m x w (q_z hs 400) b.1) k a1 (c1 - w + 1 - a1)).2.2.1 + (q_tb (q_oks lw ln s wa cf ct rr ok) (q_fm b (wa k) m x w (q_z hs 400) b.1) k a1 (c1 - w + 1 - a1)).2.2.2 = 0) := fun z => c248 ((nI_eq (b := 0) (by omega) (by omega)).mpr z)
          refine mv_sipush (v := nI 1000) dX12_table_255 (by decide) ?_
          refine mv_aload_n dX12_table_258 rfl ?_
          refine mv_getf (ci := 12) (f := 27) dX12_table_259 HX rfl (by decide) wd_1226 rfl ?_
          refine mv_iconst (v := nI 2) dX12_table_262 (by decide) ?_
          refine mv_iaN (j := 2) (x := nI (q_tb (q_oks lw ln s wa cf ct rr ok) (q_fm b (wa k) m x w (q_z hs 400) b.1) k a1 (c1 - w + 1 - a1)).2.2.1) dX12_table_263 X69 rfl (by decide) (by omega) rfl ?_
          refine mv_imul dX12_table_264 ?_
          refine mv_topI (y := nI (1000 * (q_tb (q_oks lw ln s wa cf ct rr ok) (q_fm b (wa k) m x w (q_z hs 400) b.1) k a1 (c1 - w + 1 - a1)).2.2.1)) (pk_mul _ _) ?_
          refine mv_iload dX12_table_265 rfl ?_
          refine mv_idiv dX12_table_267 (by intro z; have z2 := (nI_eq (b := 0) (by omega) (by omega)).mp z; omega) ?_
          refine mv_topI (y := nI ((1000 * (q_tb (q_oks lw ln s wa cf ct rr ok) (q_fm b (wa k) m x w (q_z hs 400) b.1) k a1 (c1 - w + 1 - a1)).2.2.1) / ((q_tb (q_oks lw ln s wa cf ct rr ok) (q_fm b (wa k) m x w (q_z hs 400) b.1) k a1 (c1 - w + 1 - a1)).2.2.1 + (q_tb (q_oks lw ln s wa cf ct rr ok) (q_fm b (wa k) m x w (q_z hs 400) b.1) k a1 (c1 - w + 1 - a1)).2.2.2))) (pk_div (by omega) (by omega) (by omega)) ?_
          refine mv_isub dX12_table_268 ?_
          refine mv_istore dX12_table_269 (by decide) ?_
          refine mv_iload dX12_table_271 rfl ?_
          refine mv_iconst (v := nI 4) dX12_table_273 (by decide) ?_
          refine mv_icmp_ne (tgt := 282) dX12_table_274 (by decide) (fun z => absurd ((by decide)) z) (fun c274 => ?_)
          refine mv_iload dX12_table_277 rfl ?_
          refine mv_goto (tgt := 289) dX12_table_279 (by decide) ?_
          exact mv_iret dX12_table_289 rfl rfl ⟨(congrArg (fun z => some (Value.int z)) (by unfold q_wo; first | rfl | (rw [q_th_0 c226]; rfl) | (rw [q_th_0 c248]; rfl) | rw [q_th_0 c226, q_th_0 c248])), fr, XO, X69⟩
        · have c248 : (q_tb (q_oks lw ln s wa cf ct rr ok) (q_fm b (wa k) m x w (q_z hs 400) b.1) k a1 (c1 - w + 1 - a1)).2.2.1 + (q_tb (q_oks lw ln s wa cf ct rr ok) (q_fm b (wa k) m x w (q_z hs 400) b.1) k a1 (c1 - w + 1 - a1)).2.2.2 = 0 := (nI_eq (b := 0) (by omega) (by omega)).mp c248
          refine mv_iconst (v := nI 0) dX12_table_251 (by decide) ?_
          refine mv_goto (tgt := 268) dX12_table_252 (by decide) ?_
          refine mv_isub dX12_table_268 ?_
          refine mv_istore dX12_table_269 (by decide) ?_
          refine mv_iload dX12_table_271 rfl ?_
          refine mv_iconst (v := nI 4) dX12_table_273 (by decide) ?_
          refine mv_icmp_ne (tgt := 282) dX12_table_274 (by decide) (fun z => absurd ((by decide)) z) (fun c274 => ?_)
          refine mv_iload dX12_table_277 rfl ?_
          refine mv_goto (tgt := 289) dX12_table_279 (by decide) ?_
          exact mv_iret dX12_table_289 rfl rfl ⟨(congrArg (fun z => some (Value.int z)) (by unfold q_wo; first | rfl | (rw [q_th_0 c226]; rfl) | (rw [q_th_0 c248]; rfl) | rw [q_th_0 c226, q_th_0 c248])), fr, XO, X69⟩
    · have c115 : ¬ (c1 - w < y) := fun z => c115 ((nI_ltI (by omega) (by omega)).mpr z)
      refine mv_aload_n dX12_table_118 rfl ?_
      refine mv_aload_n dX12_table_119 rfl ?_
      refine mv_getf (ci := 12) (f := 16) dX12_table_120 HX rfl (by decide) wd_1215 rfl ?_
      refine mv_iload_n dX12_table_123 rfl ?_
      refine mv_iaN (j := k) (x := nI (wa k)) dX12_table_124 X59 rfl (by decide) (by omega) rfl ?_
      refine mv_iload_n dX12_table_125 rfl ?_
      refine mv_iload dX12_table_126 rfl ?_
      refine mv_iload dX12_table_128 rfl ?_
      refine mv_iconst (v := nI 1) dX12_table_130 (by decide) ?_
      refine mv_iadd dX12_table_131 ?_
      refine mv_topI (y := nI (y + 1)) (nI_add _ _) ?_
      refine mv_iload dX12_table_132 rfl ?_
      refine mv_iload_n dX12_table_134 rfl ?_
      refine mv_iadd dX12_table_135 ?_
      refine mv_topI (y := nI (y + w)) (nI_add _ _) ?_
      refine mv_cV5 (ci := 12) dX12_table_136 lk_X12_table_314 HX rfl (Nat.le_of_ble_eq_true rfl) (Nat.le_of_ble_eq_true rfl) (k_X12_isShaken (ev := ev) HX X56 X57 X58 hb n5 hm0 hz9 (by omega) (by omega)) ?_
      refine mv_istore dX12_table_139 (by decide) ?_
      have n8 := q_bt_lt ((q_oks lw ln s wa cf ct rr ok) y) k
      refine mv_aload_n dX12_table_141 rfl ?_
      refine mv_getf (ci := 12) (f := 27) dX12_table_142 HX rfl (by decide) wd_1226 rfl ?_
      refine mv_iload dX12_table_145 rfl ?_
      refine mv_if_le (tgt := 173) dX12_table_147 (by decide) (fun c147 => ?_) (fun c147 => ?_)
      · have c147 : q_on (q_oks lw ln s wa cf ct rr (fun _ => 0)) k 400 ≤ 0 := (nI_leI (b := 0) (by omega) (by omega)).mp c147
        refine mv_iload dX12_table_173 rfl ?_
        refine mv_if_eq (tgt := 182) dX12_table_175 (by decide) (fun c175 => ?_) (fun c175 => ?_)
        · have c175 : ¬ (q_sh b (wa k) m x (y + 1) (y + w) b.1) := (mv_q_0 _).mp c175
          refine mv_iconst (v := nI 3) dX12_table_182 (by decide) ?_
          refine mv_dup2 dX12_table_183 rfl rfl ?_
          refine mv_iaN (j := 3) (x := nI (q_4f (q_tb (q_oks lw ln s wa cf ct rr ok) (q_fm b (wa k) m x w (q_z hs 400) b.1) k a1 (y - a1)) (q_z fo 4) 3)) dX12_table_184 X69 rfl (by decide) (by omega) rfl ?_
          refine mv_iconst (v := nI 1) dX12_table_185 (by decide) ?_
          refine mv_iadd dX12_table_186 ?_
          refine mv_topI (y := nI ((q_4f (q_tb (q_oks lw ln s wa cf ct rr ok) (q_fm b (wa k) m x w (q_z hs 400) b.1) k a1 (y - a1)) (q_z fo 4) 3) + 1)) (nI_add _ _) ?_
          refine mv_iastN (j := 3) dX12_table_187 X69 rfl (by decide) (by omega) (fun h1 e2 => ?_)
          rw [upd_nI] at e2
          have HX := mv_ne e2 (by decide) HX
          have X59 := mv_ne e2 (by decide) X59
          have X60 := mv_ne e2 (by decide) X60
          have X61 := mv_ne e2 (by decide) X61
          have X62 := mv_ne e2 (by decide) X62
          have X63 := mv_ne e2 (by decide) X63
          have X64 := mv_ne e2 (by decide) X64
          have X65 := mv_ne e2 (by decide) X65
          have X66 := mv_ne e2 (by decide) X66
          have X56 := mv_ne e2 (by decide) X56
          have X57 := mv_ne e2 (by decide) X57
          have X58 := mv_ne e2 (by decide) X58
          have X53 := mv_ne e2 (by decide) X53
          have XO := mv_ne e2 (by decide) XO
          have X69 : h1[69]? = some (.inl (0, 4, .inl (fun j => nI (t_up (q_4f (q_tb (q_oks lw ln s wa cf ct rr ok) (q_fm b (wa k) m x w (q_z hs 400) b.1) k a1 (y - a1)) (q_z fo 4)) 3 ((q_4f (q_tb (q_oks lw ln s wa cf ct rr ok) (q_fm b (wa k) m x w (q_z hs 400) b.1) k a1 (y - a1)) (q_z fo 4) 3) + 1) j)))) := mv_eq e2 X69
          have fr := fr.set e2 (by decide)
          clear e2
          have eu : q_bt ((q_oks lw ln s wa cf ct rr ok) y) k = 0 := (by first | omega | exact Nat.lt_one_iff.mp (by have q := on0 (by omega) y (by omega); have q2 := q_bt_lt ((q_oks lw ln s wa cf ct rr ok) y) k; omega))
          have ev : (q_fm b (wa k) m x w (q_z hs 400) b.1) y = 0 := (by have q1 := nh y; have q2 := q_fm_i (b := b) (p := wa k) (m := m) (x := x) (w := w) (f := q_z hs 400) b.1 y (if_pos (by omega)); first | exact q2.mpr (by assumption) | (have q3 : ¬ (q_fm b (wa k) m x w (q_z hs 400) b.1) y = 1 := fun q4 => absurd (q2.mp q4) (by assumption); omega))
          have es := q_tb_s (ok := (q_oks lw ln s wa cf ct rr ok)) (hs := (q_fm b (wa k) m x w (q_z hs 400) b.1)) (k := k) (show a1 ≤ y by omega)
          rw [q_4f_u (u := q_bt ((q_oks lw ln s wa cf ct rr ok) y) k) (v := (q_fm b (wa k) m x w (q_z hs 400) b.1) y) _ _ (by rw [eu, ev]; decide), ← es] at X69
          refine mv_iinc (v := nI (y + 1)) dX12_table_188 rfl (mv_inc y 1) (by decide) ?_
          refine mv_goto (tgt := 105) dX12_table_191 (by decide) ?_
          refine mv_sub (lv' := [.ref 52, .int (nI k), .int (nI w), .int (nI m), .int (nI x), .int (nI 4), .int (nI (q_on (q_oks lw ln s wa cf ct rr (fun _ => 0)) k 400)), .int (nI (y + 1)), .null, .null]) ⟨Or.inr rfl, Or.inr rfl, Or.inr rfl, Or.inr rfl, Or.inr rfl, Or.inr rfl, Or.inr rfl, Or.inr rfl, Or.inl rfl, Or.inl rfl, trivial⟩ ?_
          exact ih (y + 1) h1 (by omega) fr XO X69 HX X59 X60 X61 X62 X63 X64 X65 X66 X56 X57 X58 X53 (by omega) (by omega)
        · have c175 : q_sh b (wa k) m x (y + 1) (y + w) b.1 := Classical.byContradiction (fun z => c175 ((mv_q_0 _).mpr z))
          refine mv_iconst (v := nI 2) dX12_table_178 (by decide) ?_
          refine mv_goto (tgt := 183) dX12_table_179 (by decide) ?_
          refine mv_dup2 dX12_table_183 rfl rfl ?_
          refine mv_iaN (j := 2) (x := nI (q_4f (q_tb (q_oks lw ln s wa cf ct rr ok) (q_fm b (wa k) m x w (q_z hs 400) b.1) k a1 (y - a1)) (q_z fo 4) 2)) dX12_table_184 X69 rfl (by decide) (by omega) rfl ?_
          refine mv_iconst (v := nI 1) dX12_table_185 (by decide) ?_
          refine mv_iadd dX12_table_186 ?_
          refine mv_topI (y := nI ((q_4f (q_tb (q_oks lw ln s wa cf ct rr ok) (q_fm b (wa k) m x w (q_z hs 400) b.1) k a1 (y - a1)) (q_z fo 4) 2) + 1)) (nI_add _ _) ?_
          refine mv_iastN (j := 2) dX12_table_187 X69 rfl (by decide) (by omega) (fun h3 e4 => ?_)
          rw [upd_nI] at e4
          have HX := mv_ne e4 (by decide) HX
          have X59 := mv_ne e4 (by decide) X59
          have X60 := mv_ne e4 (by decide) X60
          have X61 := mv_ne e4 (by decide) X61
          have X62 := mv_ne e4 (by decide) X62
          have X63 := mv_ne e4 (by decide) X63
          have X64 := mv_ne e4 (by decide) X64
          have X65 := mv_ne e4 (by decide) X65
          have X66 := mv_ne e4 (by decide) X66
          have X56 := mv_ne e4 (by decide) X56
          have X57 := mv_ne e4 (by decide) X57
          have X58 := mv_ne e4 (by decide) X58
          have X53 := mv_ne e4 (by decide) X53
          have XO := mv_ne e4 (by decide) XO
          have X69 : h3[69]? = some (.inl (0, 4, .inl (fun j => nI (t_up (q_4f (q_tb (q_oks lw ln s wa cf ct rr ok) (q_fm b (wa k) m x w (q_z hs 400) b.1) k a1 (y - a1)) (q_z fo 4)) 2 ((q_4f (q_tb (q_oks lw ln s wa cf ct rr ok) (q_fm b (wa k) m x w (q_z hs 400) b.1) k a1 (y - a1)) (q_z fo 4) 2) + 1) j)))) := mv_eq e4 X69
          have fr := fr.set e4 (by decide)
          clear e4
          have eu : q_bt ((q_oks lw ln s wa cf ct rr ok) y) k = 0 := (by first | omega | exact Nat.lt_one_iff.mp (by have q := on0 (by omega) y (by omega); have q2 := q_bt_lt ((q_oks lw ln s wa cf ct rr ok) y) k; omega))
          have ev : (q_fm b (wa k) m x w (q_z hs 400) b.1) y = 1 := (by have q1 := nh y; have q2 := q_fm_i (b := b) (p := wa k) (m := m) (x := x) (w := w) (f := q_z hs 400) b.1 y (if_pos (by omega)); first | exact q2.mpr (by assumption) | (have q3 : ¬ (q_fm b (wa k) m x w (q_z hs 400) b.1) y = 1 := fun q4 => absurd (q2.mp q4) (by assumption); omega))
          have es := q_tb_s (ok := (q_oks lw ln s wa cf ct rr ok)) (hs := (q_fm b (wa k) m x w (q_z hs 400) b.1)) (k := k) (show a1 ≤ y by omega)
          rw [q_4f_u (u := q_bt ((q_oks lw ln s wa cf ct rr ok) y) k) (v := (q_fm b (wa k) m x w (q_z hs 400) b.1) y) _ _ (by rw [eu, ev]; decide), ← es] at X69
          refine mv_iinc (v := nI (y + 1)) dX12_table_188 rfl (mv_inc y 1) (by decide) ?_
          refine mv_goto (tgt := 105) dX12_table_191 (by decide) ?_
          refine mv_sub (lv' := [.ref 52, .int (nI k), .int (nI w), .int (nI m), .int (nI x), .int (nI 4), .int (nI (q_on (q_oks lw ln s wa cf ct rr (fun _ => 0)) k 400)), .int (nI (y + 1)), .null, .null]) ⟨Or.inr rfl, Or.inr rfl, Or.inr rfl, Or.inr rfl, Or.inr rfl, Or.inr rfl, Or.inr rfl, Or.inr rfl, Or.inl rfl, Or.inl rfl, trivial⟩ ?_
          exact ih (y + 1) h3 (by omega) fr XO X69 HX X59 X60 X61 X62 X63 X64 X65 X66 X56 X57 X58 X53 (by omega) (by omega)
      · have c147 : ¬ (q_on (q_oks lw ln s wa cf ct rr (fun _ => 0)) k 400 ≤ 0) := fun z => c147 ((nI_leI (b := 0) (by omega) (by omega)).mpr z)
        refine mv_aload_n dX12_table_150 rfl ?_
        refine mv_getf (ci := 12) (f := 25) dX12_table_151 HX rfl (by decide) wd_1224 rfl ?_
        refine mv_iload dX12_table_154 rfl ?_
        refine mv_zaN (j := y) (x := nI (q_bt ((q_oks lw ln s wa cf ct rr ok) y) k)) dX12_table_156 XO rfl (by decide) (by omega) (congrArg nI (q_fd_b ho (by omega))) ?_
        refine mv_if_eq (tgt := 173) dX12_table_157 (by decide) (fun c157 => ?_) (fun c157 => ?_)
        · have c157 : q_bt ((q_oks lw ln s wa cf ct rr ok) y) k = 0 := (nI_eq (b := 0) (by omega) (by omega)).mp c157
          refine mv_iload dX12_table_173 rfl ?_
          refine mv_if_eq (tgt := 182) dX12_table_175 (by decide) (fun c175 => ?_) (fun c175 => ?_)
          · have c175 : ¬ (q_sh b (wa k) m x (y + 1) (y + w) b.1) := (mv_q_0 _).mp c175
            refine mv_iconst (v := nI 3) dX12_table_182 (by decide) ?_
            refine mv_dup2 dX12_table_183 rfl rfl ?_
            refine mv_iaN (j := 3) (x := nI (q_4f (q_tb (q_oks lw ln s wa cf ct rr ok) (q_fm b (wa k) m x w (q_z hs 400) b.1) k a1 (y - a1)) (q_z fo 4) 3)) dX12_table_184 X69 rfl (by decide) (by omega) rfl ?_
            refine mv_iconst (v := nI 1) dX12_table_185 (by decide) ?_
            refine mv_iadd dX12_table_186 ?_
            refine mv_topI (y := nI ((q_4f (q_tb (q_oks lw ln s wa cf ct rr ok) (q_fm b (wa k) m x w (q_z hs 400) b.1) k a1 (y - a1)) (q_z fo 4) 3) + 1)) (nI_add _ _) ?_
            refine mv_iastN (j := 3) dX12_table_187 X69 rfl (by decide) (by omega) (fun h5 e6 => ?_)
            rw [upd_nI] at e6
            have HX := mv_ne e6 (by decide) HX
            have X59 := mv_ne e6 (by decide) X59
            have X60 := mv_ne e6 (by decide) X60
            have X61 := mv_ne e6 (by decide) X61
            have X62 := mv_ne e6 (by decide) X62
            have X63 := mv_ne e6 (by decide) X63
            have X64 := mv_ne e6 (by decide) X64
            have X65 := mv_ne e6 (by decide) X65
            have X66 := mv_ne e6 (by decide) X66
            have X56 := mv_ne e6 (by decide) X56
            have X57 := mv_ne e6 (by decide) X57
            have X58 := mv_ne e6 (by decide) X58
            have X53 := mv_ne e6 (by decide) X53
            have XO := mv_ne e6 (by decide) XO
            have X69 : h5[69]? = some (.inl (0, 4, .inl (fun j => nI (t_up (q_4f (q_tb (q_oks lw ln s wa cf ct rr ok) (q_fm b (wa k) m x w (q_z hs 400) b.1) k a1 (y - a1)) (q_z fo 4)) 3 ((q_4f (q_tb (q_oks lw ln s wa cf ct rr ok) (q_fm b (wa k) m x w (q_z hs 400) b.1) k a1 (y - a1)) (q_z fo 4) 3) + 1) j)))) := mv_eq e6 X69
            have fr := fr.set e6 (by decide)
            clear e6
            have eu : q_bt ((q_oks lw ln s wa cf ct rr ok) y) k = 0 := (by first | omega | exact Nat.lt_one_iff.mp (by have q := on0 (by omega) y (by omega); have q2 := q_bt_lt ((q_oks lw ln s wa cf ct rr ok) y) k; omega))
            have ev : (q_fm b (wa k) m x w (q_z hs 400) b.1) y = 0 := (by have q1 := nh y; have q2 := q_fm_i (b := b) (p := wa k) (m := m) (x := x) (w := w) (f := q_z hs 400) b.1 y (if_pos (by omega)); first | exact q2.mpr (by assumption) | (have q3 : ¬ (q_fm b (wa k) m x w (q_z hs 400) b.1) y = 1 := fun q4 => absurd (q2.mp q4) (by assumption); omega))
            have es := q_tb_s (ok := (q_oks lw ln s wa cf ct rr ok)) (hs := (q_fm b (wa k) m x w (q_z hs 400) b.1)) (k := k) (show a1 ≤ y by omega)
            rw [q_4f_u (u := q_bt ((q_oks lw ln s wa cf ct rr ok) y) k) (v := (q_fm b (wa k) m x w (q_z hs 400) b.1) y) _ _ (by rw [eu, ev]; decide), ← es] at X69
            refine mv_iinc (v := nI (y + 1)) dX12_table_188 rfl (mv_inc y 1) (by decide) ?_
            refine mv_goto (tgt := 105) dX12_table_191 (by decide) ?_
            refine mv_sub (lv' := [.ref 52, .int (nI k), .int (nI w), .int (nI m), .int (nI x), .int (nI 4), .int (nI (q_on (q_oks lw ln s wa cf ct rr (fun _ => 0)) k 400)), .int (nI (y + 1)), .null, .null]) ⟨Or.inr rfl, Or.inr rfl, Or.inr rfl, Or.inr rfl, Or.inr rfl, Or.inr rfl, Or.inr rfl, Or.inr rfl, Or.inl rfl, Or.inl rfl, trivial⟩ ?_
            exact ih (y + 1) h5 (by omega) fr XO X69 HX X59 X60 X61 X62 X63 X64 X65 X66 X56 X57 X58 X53 (by omega) (by omega)
          · have c175 : q_sh b (wa k) m x (y + 1) (y + w) b.1 := Classical.byContradiction (fun z => c175 ((mv_q_0 _).mpr z))
            refine mv_iconst (v := nI 2) dX12_table_178 (by decide) ?_
            refine mv_goto (tgt := 183) dX12_table_179 (by decide) ?_
            refine mv_dup2 dX12_table_183 rfl rfl ?_
            refine mv_iaN (j := 2) (x := nI (q_4f (q_tb (q_oks lw ln s wa cf ct rr ok) (q_fm b (wa k) m x w (q_z hs 400) b.1) k a1 (y - a1)) (q_z fo 4) 2)) dX12_table_184 X69 rfl (by decide) (by omega) rfl ?_
            refine mv_iconst (v := nI 1) dX12_table_185 (by decide) ?_
            refine mv_iadd dX12_table_186 ?_
            refine mv_topI (y := nI ((q_4f (q_tb (q_oks lw ln s wa cf ct rr ok) (q_fm b (wa k) m x w (q_z hs 400) b.1) k a1 (y - a1)) (q_z fo 4) 2) + 1)) (nI_add _ _) ?_
            refine mv_iastN (j := 2) dX12_table_187 X69 rfl (by decide) (by omega) (fun h7 e8 => ?_)
            rw [upd_nI] at e8
            have HX := mv_ne e8 (by decide) HX
            have X59 := mv_ne e8 (by decide) X59
            have X60 := mv_ne e8 (by decide) X60
            have X61 := mv_ne e8 (by decide) X61
            have X62 := mv_ne e8 (by decide) X62
            have X63 := mv_ne e8 (by decide) X63
            have X64 := mv_ne e8 (by decide) X64
            have X65 := mv_ne e8 (by decide) X65
            have X66 := mv_ne e8 (by decide) X66
            have X56 := mv_ne e8 (by decide) X56
            have X57 := mv_ne e8 (by decide) X57
            have X58 := mv_ne e8 (by decide) X58
            have X53 := mv_ne e8 (by decide) X53
            have XO := mv_ne e8 (by decide) XO
            have X69 : h7[69]? = some (.inl (0, 4, .inl (fun j => nI (t_up (q_4f (q_tb (q_oks lw ln s wa cf ct rr ok) (q_fm b (wa k) m x w (q_z hs 400) b.1) k a1 (y - a1)) (q_z fo 4)) 2 ((q_4f (q_tb (q_oks lw ln s wa cf ct rr ok) (q_fm b (wa k) m x w (q_z hs 400) b.1) k a1 (y - a1)) (q_z fo 4) 2) + 1) j)))) := mv_eq e8 X69
            have fr := fr.set e8 (by decide)
            clear e8
            have eu : q_bt ((q_oks lw ln s wa cf ct rr ok) y) k = 0 := (by first | omega | exact Nat.lt_one_iff.mp (by have q := on0 (by omega) y (by omega); have q2 := q_bt_lt ((q_oks lw ln s wa cf ct rr ok) y) k; omega))
            have ev : (q_fm b (wa k) m x w (q_z hs 400) b.1) y = 1 := (by have q1 := nh y; have q2 := q_fm_i (b := b) (p := wa k) (m := m) (x := x) (w := w) (f := q_z hs 400) b.1 y (if_pos (by omega)); first | exact q2.mpr (by assumption) | (have q3 : ¬ (q_fm b (wa k) m x w (q_z hs 400) b.1) y = 1 := fun q4 => absurd (q2.mp q4) (by assumption); omega))
            have es := q_tb_s (ok := (q_oks lw ln s wa cf ct rr ok)) (hs := (q_fm b (wa k) m x w (q_z hs 400) b.1)) (k := k) (show a1 ≤ y by omega)
            rw [q_4f_u (u := q_bt ((q_oks lw ln s wa cf ct rr ok) y) k) (v := (q_fm b (wa k) m x w (q_z hs 400) b.1) y) _ _ (by rw [eu, ev]; decide), ← es] at X69
            refine mv_iinc (v := nI (y + 1)) dX12_table_188 rfl (mv_inc y 1) (by decide) ?_
            refine mv_goto (tgt := 105) dX12_table_191 (by decide) ?_
            refine mv_sub (lv' := [.ref 52, .int (nI k), .int (nI w), .int (nI m), .int (nI x), .int (nI 4), .int (nI (q_on (q_oks lw ln s wa cf ct rr (fun _ => 0)) k 400)), .int (nI (y + 1)), .null, .null]) ⟨Or.inr rfl, Or.inr rfl, Or.inr rfl, Or.inr rfl, Or.inr rfl, Or.inr rfl, Or.inr rfl, Or.inr rfl, Or.inl rfl, Or.inl rfl, trivial⟩ ?_
            exact ih (y + 1) h7 (by omega) fr XO X69 HX X59 X60 X61 X62 X63 X64 X65 X66 X56 X57 X58 X53 (by omega) (by omega)
        · have c157 : ¬ (q_bt ((q_oks lw ln s wa cf ct rr ok) y) k = 0) := fun z => c157 ((nI_eq (b := 0) (by omega) (by omega)).mpr z)
          refine mv_iload dX12_table_160 rfl ?_
          refine mv_if_eq (tgt := 169) dX12_table_162 (by decide) (fun c162 => ?_) (fun c162 => ?_)
          · have c162 : ¬ (q_sh b (wa k) m x (y + 1) (y + w) b.1) := (mv_q_0 _).mp c162
            refine mv_iconst (v := nI 1) dX12_table_169 (by decide) ?_
            refine mv_goto (tgt := 183) dX12_table_170 (by decide) ?_
            refine mv_dup2 dX12_table_183 rfl rfl ?_
            refine mv_iaN (j := 1) (x := nI (q_4f (q_tb (q_oks lw ln s wa cf ct rr ok) (q_fm b (wa k) m x w (q_z hs 400) b.1) k a1 (y - a1)) (q_z fo 4) 1)) dX12_table_184 X69 rfl (by decide) (by omega) rfl ?_
            refine mv_iconst (v := nI 1) dX12_table_185 (by decide) ?_
            refine mv_iadd dX12_table_186 ?_
            refine mv_topI (y := nI ((q_4f (q_tb (q_oks lw ln s wa cf ct rr ok) (q_fm b (wa k) m x w (q_z hs 400) b.1) k a1 (y - a1)) (q_z fo 4) 1) + 1)) (nI_add _ _) ?_
            refine mv_iastN (j := 1) dX12_table_187 X69 rfl (by decide) (by omega) (fun h9 e10 => ?_)
            rw [upd_nI] at e10
            have HX := mv_ne e10 (by decide) HX
            have X59 := mv_ne e10 (by decide) X59
            have X60 := mv_ne e10 (by decide) X60
            have X61 := mv_ne e10 (by decide) X61
            have X62 := mv_ne e10 (by decide) X62
            have X63 := mv_ne e10 (by decide) X63
            have X64 := mv_ne e10 (by decide) X64
            have X65 := mv_ne e10 (by decide) X65
            have X66 := mv_ne e10 (by decide) X66
            have X56 := mv_ne e10 (by decide) X56
            have X57 := mv_ne e10 (by decide) X57
            have X58 := mv_ne e10 (by decide) X58
            have X53 := mv_ne e10 (by decide) X53
            have XO := mv_ne e10 (by decide) XO
            have X69 : h9[69]? = some (.inl (0, 4, .inl (fun j => nI (t_up (q_4f (q_tb (q_oks lw ln s wa cf ct rr ok) (q_fm b (wa k) m x w (q_z hs 400) b.1) k a1 (y - a1)) (q_z fo 4)) 1 ((q_4f (q_tb (q_oks lw ln s wa cf ct rr ok) (q_fm b (wa k) m x w (q_z hs 400) b.1) k a1 (y - a1)) (q_z fo 4) 1) + 1) j)))) := mv_eq e10 X69
            have fr := fr.set e10 (by decide)
            clear e10
            have eu : q_bt ((q_oks lw ln s wa cf ct rr ok) y) k = 1 := (by first | omega | exact Nat.lt_one_iff.mp (by have q := on0 (by omega) y (by omega); have q2 := q_bt_lt ((q_oks lw ln s wa cf ct rr ok) y) k; omega))
            have ev : (q_fm b (wa k) m x w (q_z hs 400) b.1) y = 0 := (by have q1 := nh y; have q2 := q_fm_i (b := b) (p := wa k) (m := m) (x := x) (w := w) (f := q_z hs 400) b.1 y (if_pos (by omega)); first | exact q2.mpr (by assumption) | (have q3 : ¬ (q_fm b (wa k) m x w (q_z hs 400) b.1) y = 1 := fun q4 => absurd (q2.mp q4) (by assumption); omega))
            have es := q_tb_s (ok := (q_oks lw ln s wa cf ct rr ok)) (hs := (q_fm b (wa k) m x w (q_z hs 400) b.1)) (k := k) (show a1 ≤ y by omega)
            rw [q_4f_u (u := q_bt ((q_oks lw ln s wa cf ct rr ok) y) k) (v := (q_fm b (wa k) m x w (q_z hs 400) b.1) y) _ _ (by rw [eu, ev]; decide), ← es] at X69
            refine mv_iinc (v := nI (y + 1)) dX12_table_188 rfl (mv_inc y 1) (by decide) ?_
            refine mv_goto (tgt := 105) dX12_table_191 (by decide) ?_
            refine mv_sub (lv' := [.ref 52, .int (nI k), .int (nI w), .int (nI m), .int (nI x), .int (nI 4), .int (nI (q_on (q_oks lw ln s wa cf ct rr (fun _ => 0)) k 400)), .int (nI (y + 1)), .null, .null]) ⟨Or.inr rfl, Or.inr rfl, Or.inr rfl, Or.inr rfl, Or.inr rfl, Or.inr rfl, Or.inr rfl, Or.inr rfl, Or.inl rfl, Or.inl rfl, trivial⟩ ?_
            exact ih (y + 1) h9 (by omega) fr XO X69 HX X59 X60 X61 X62 X63 X64 X65 X66 X56 X57 X58 X53 (by omega) (by omega)
          · have c162 : q_sh b (wa k) m x (y + 1) (y + w) b.1 := Classical.byContradiction (fun z => c162 ((mv_q_0 _).mpr z))
            refine mv_iconst (v := nI 0) dX12_table_165 (by decide) ?_
            refine mv_goto (tgt := 183) dX12_table_166 (by decide) ?_
            refine mv_dup2 dX12_table_183 rfl rfl ?_
            refine mv_iaN (j := 0) (x := nI (q_4f (q_tb (q_oks lw ln s wa cf ct rr ok) (q_fm b (wa k) m x w (q_z hs 400) b.1) k a1 (y - a1)) (q_z fo 4) 0)) dX12_table_184 X69 rfl (by decide) (by omega) rfl ?_
            refine mv_iconst (v := nI 1) dX12_table_185 (by decide) ?_
            refine mv_iadd dX12_table_186 ?_
            refine mv_topI (y := nI ((q_4f (q_tb (q_oks lw ln s wa cf ct rr ok) (q_fm b (wa k) m x w (q_z hs 400) b.1) k a1 (y - a1)) (q_z fo 4) 0) + 1)) (nI_add _ _) ?_
            refine mv_iastN (j := 0) dX12_table_187 X69 rfl (by decide) (by omega) (fun h11 e12 => ?_)
            rw [upd_nI] at e12
            have HX := mv_ne e12 (by decide) HX
            have X59 := mv_ne e12 (by decide) X59
            have X60 := mv_ne e12 (by decide) X60
            have X61 := mv_ne e12 (by decide) X61
            have X62 := mv_ne e12 (by decide) X62
            have X63 := mv_ne e12 (by decide) X63
            have X64 := mv_ne e12 (by decide) X64
            have X65 := mv_ne e12 (by decide) X65
            have X66 := mv_ne e12 (by decide) X66
            have X56 := mv_ne e12 (by decide) X56
            have X57 := mv_ne e12 (by decide) X57
            have X58 := mv_ne e12 (by decide) X58
            have X53 := mv_ne e12 (by decide) X53
            have XO := mv_ne e12 (by decide) XO
            have X69 : h11[69]? = some (.inl (0, 4, .inl (fun j => nI (t_up (q_4f (q_tb (q_oks lw ln s wa cf ct rr ok) (q_fm b (wa k) m x w (q_z hs 400) b.1) k a1 (y - a1)) (q_z fo 4)) 0 ((q_4f (q_tb (q_oks lw ln s wa cf ct rr ok) (q_fm b (wa k) m x w (q_z hs 400) b.1) k a1 (y - a1)) (q_z fo 4) 0) + 1) j)))) := mv_eq e12 X69
            have fr := fr.set e12 (by decide)
            clear e12
            have eu : q_bt ((q_oks lw ln s wa cf ct rr ok) y) k = 1 := (by first | omega | exact Nat.lt_one_iff.mp (by have q := on0 (by omega) y (by omega); have q2 := q_bt_lt ((q_oks lw ln s wa cf ct rr ok) y) k; omega))
            have ev : (q_fm b (wa k) m x w (q_z hs 400) b.1) y = 1 := (by have q1 := nh y; have q2 := q_fm_i (b := b) (p := wa k) (m := m) (x := x) (w := w) (f := q_z hs 400) b.1 y (if_pos (by omega)); first | exact q2.mpr (by assumption) | (have q3 : ¬ (q_fm b (wa k) m x w (q_z hs 400) b.1) y = 1 := fun q4 => absurd (q2.mp q4) (by assumption); omega))
            have es := q_tb_s (ok := (q_oks lw ln s wa cf ct rr ok)) (hs := (q_fm b (wa k) m x w (q_z hs 400) b.1)) (k := k) (show a1 ≤ y by omega)
            rw [q_4f_u (u := q_bt ((q_oks lw ln s wa cf ct rr ok) y) k) (v := (q_fm b (wa k) m x w (q_z hs 400) b.1) y) _ _ (by rw [eu, ev]; decide), ← es] at X69
            refine mv_iinc (v := nI (y + 1)) dX12_table_188 rfl (mv_inc y 1) (by decide) ?_
            refine mv_goto (tgt := 105) dX12_table_191 (by decide) ?_
            refine mv_sub (lv' := [.ref 52, .int (nI k), .int (nI w), .int (nI m), .int (nI x), .int (nI 4), .int (nI (q_on (q_oks lw ln s wa cf ct rr (fun _ => 0)) k 400)), .int (nI (y + 1)), .null, .null]) ⟨Or.inr rfl, Or.inr rfl, Or.inr rfl, Or.inr rfl, Or.inr rfl, Or.inr rfl, Or.inr rfl, Or.inr rfl, Or.inl rfl, Or.inl rfl, trivial⟩ ?_
            exact ih (y + 1) h11 (by omega) fr XO X69 HX X59 X60 X61 X62 X63 X64 X65 X66 X56 X57 X58 X53 (by omega) (by omega)
set_option maxRecDepth 100000 in
theorem l_X12_tableA4 {ev : mv_E} {h : mv_H} {xt : Int32} {xf : Int32} {xa : Int32} {xo : Int64} {xe : Int32} {xu : Int32} {xs : Int32} {xc : Int32} {xw : Int32} {b : t_B} {t : Nat} {s : q_S} {wa : Nat → Nat} {cf : Nat → Int32} {ct : Nat → Int32} {rr : Nat → Nat} {lw : Nat → Int32} {ln : Nat → Nat} {oa : Nat → Nat} {fo : Nat → Nat} {ok : Nat → Nat} {hs : Nat → Nat} {k : Nat} {w : Nat} {m : Nat} {x : Nat} {a1 : Nat} {c1 : Nat} {dd : Nat}  (hw : q_LW lw ln) (hsi : q_SI s) (hr : ∀ d, rr d ≤ 1) (hwi : q_WI wa cf ct) (hk : k < 8) (hw1 : 1 ≤ w) (hw6 : w ≤ 60) (hm0 : m < 8) (hz1 : 1 ≤ x) (hz9 : x ≤ 9) (ho : ∀ d, oa d ≤ 1) (hh : ∀ i, hs i ≤ 1) (hb : q_BI dd b) (hcw : w < q_cd cf ct k) (e1 : cf k = nI a1) (f1 : ct k = nI c1) (hc1 : c1 ≤ 399) (hac : a1 + w ≤ c1) : ∀ (fu : Nat) (v : Nat), ∀ (g : mv_H), 4 < v + fu → mv_fra [67, 69] h g → g[67]? = some (.inl (2, 400, .inl (fun j => nI (q_fd (q_ev lw ln s wa cf ct rr) s k (q_z oa 400) s.1 j)))) → g[69]? = some (.inl (0, 4, .inl (fun j => nI (q_z fo v j)))) → g[52]? = some (.inr (12, [.ref 53, .ref 54, .int xt, .int xf, .int xa, .long xo, .int xe, .int xu, .ref 55, .int xs, .int (nI b.1), .ref 56, .ref 57, .ref 58, .int (nI t), .int (nI b.2.1), .ref 59, .ref 60, .ref 61, .ref 62, .int (nI s.1), .ref 63, .ref 64, .ref 65, .ref 66, .ref 67, .ref 68, .ref 69, .int xc, .ref 70, .ref 71, .ref 72, .ref 73, .ref 74, .ref 75, .int xw, .ref 76, .ref 77, .ref 78, .ref 79, .ref 80])) → g[59]? = some (.inl (0, 8, .inl (fun j => nI (wa j)))) → g[60]? = some (.inl (0, 8, .inl cf)) → g[61]? = some (.inl (0, 8, .inl ct)) → g[62]? = some (.inl (2, 400, .inl (fun j => nI (rr j)))) → g[63]? = some (.inl (0, 100, .inl (fun j => nI (s.2.1 j)))) → g[64]? = some (.inl (0, 100, .inl (fun j => nI (s.2.2.1 j)))) → g[65]? = some (.inl (0, 100, .inl (fun j => nI (s.2.2.2.1 j)))) → g[66]? = some (.inl (0, 100, .inl (fun j => nI (s.2.2.2.2 j)))) → g[56]? = some (.inl (0, 60, .inl (fun j => nI (b.2.2.1 j)))) → g[57]? = some (.inl (0, 60, .inl (fun j => nI (b.2.2.2.1 j)))) → g[58]? = some (.inl (0, 60, .inl (fun j => nI (b.2.2.2.2 j)))) → g[53]? = some (.inl (0, 8, .inl lw)) → (v ≤ 4) → mv_g ev mX12_table 77 [.ref 52, .int (nI k), .int (nI w), .int (nI m), .int (nI x), .int (nI 4), .int (nI (q_on (q_oks lw ln s wa cf ct rr (fun _ => 0)) k 400)), .int (nI v), .null, .null] [] g (fun r g => r = some (.int (q_wo (q_tb (q_oks lw ln s wa cf ct rr ok) (q_fm b (wa k) m x w (q_z hs 400) b.1) k a1 (c1 - w + 1 - a1)))) ∧ mv_fra [67, 69] h g ∧ g[67]? = some (.inl (2, 400, .inl (fun j => nI (q_fd (q_ev lw ln s wa cf ct rr) s k (q_z oa 400) s.1 j)))) ∧ g[69]? = some (.inl (0, 4, .inl (fun j => nI (q_4f (q_tb (q_oks lw ln s wa cf ct rr ok) (q_fm b (wa k) m x w (q_z hs 400) b.1) k a1 (c1 - w + 1 - a1)) (q_z fo 4) j))))) := by
  intro fu
  induction fu with
  | zero => intro v g hm fr XO X69 HX X59 X60 X61 X62 X63 X64 X65 X66 X56 X57 X58 X53 hv; exact absurd hm (by omega)
  | succ fu ih =>
    intro v g hm fr XO X69 HX X59 X60 X61 X62 X63 X64 X65 X66 X56 X57 X58 X53 hv
    have n1 := q_cd_le hwi k
    have n5 := hwi.1 k
    have nh : ∀ i, (q_fm b (wa k) m x w (q_z hs 400) b.1) i ≤ 1 := q_fm_le (q_z_l1 hh 400) b.1
    have n2 := q_tb_le (ok := (q_oks lw ln s wa cf ct rr ok)) (hs := (q_fm b (wa k) m x w (q_z hs 400) b.1)) (k := k) (a := a1) nh (c1 - w + 1 - a1)
    have n6 := q_on_le (q_oks lw ln s wa cf ct rr (fun _ => 0)) k 400
    have on0 : q_on (q_oks lw ln s wa cf ct rr (fun _ => 0)) k 400 = 0 → ∀ d, d < 400 → ¬ q_bt ((q_oks lw ln s wa cf ct rr ok) d) k = 1 := fun q => q_on_0 400 ((q_on_o k).trans q)
    refine mv_iload dX12_table_77 rfl ?_
    refine mv_iconst (v := nI 4) dX12_table_79 (by decide) ?_
    refine mv_icmp_ge (tgt := 97) dX12_table_80 (by decide) (fun c80 => ?_) (fun c80 => ?_)
    · have c80 : 4 ≤ v := (nI_leI (by omega) (by omega)).mp c80
      have ev : v = 4 := (by omega)
      subst ev
      have ez : (q_tb (q_oks lw ln s wa cf ct rr ok) (q_fm b (wa k) m x w (q_z hs 400) b.1) k a1 (a1 - a1)) = (0, 0, 0, 0) := (by rw [Nat.sub_self]; rfl)
      have X69 : g[69]? = some (.inl (0, 4, .inl (fun j => nI (q_4f (q_tb (q_oks lw ln s wa cf ct rr ok) (q_fm b (wa k) m x w (q_z hs 400) b.1) k a1 (a1 - a1)) (q_z fo 4) j)))) := (by rw [ez, q_4f_0]; exact X69)
      refine mv_aload_n dX12_table_97 rfl ?_
      refine mv_getf (ci := 12) (f := 17) dX12_table_98 HX rfl (by decide) wd_1216 rfl ?_
      refine mv_iload_n dX12_table_101 rfl ?_
      refine mv_iaN (j := k) (x := nI a1) dX12_table_102 X60 rfl (by decide) (by omega) e1 ?_
      refine mv_istore dX12_table_103 (by decide) ?_
      exact l_X12_tableB4 hw hsi hr hwi hk hw1 hw6 hm0 hz1 hz9 ho hh hb hcw e1 f1 hc1 hac (c1 + 2) a1 g (by omega) fr XO X69 HX X59 X60 X61 X62 X63 X64 X65 X66 X56 X57 X58 X53 (Nat.le_refl _) (by omega)
    · have c80 : ¬ (4 ≤ v) := fun z => c80 ((nI_leI (by omega) (by omega)).mpr z)
      refine mv_aload_n dX12_table_83 rfl ?_
      refine mv_getf (ci := 12) (f := 27) dX12_table_84 HX rfl (by decide) wd_1226 rfl ?_
      refine mv_iload dX12_table_87 rfl ?_
      refine mv_iconst (v := nI 0) dX12_table_89 (by decide) ?_
      refine mv_iastN (j := v) dX12_table_90 X69 rfl (by decide) (by omega) (fun h1 e2 => ?_)
      rw [upd_nI] at e2
      have HX := mv_ne e2 (by decide) HX
      have X59 := mv_ne e2 (by decide) X59
      have X60 := mv_ne e2 (by decide) X60
      have X61 := mv_ne e2 (by decide) X61
      have X62 := mv_ne e2 (by decide) X62
      have X63 := mv_ne e2 (by decide) X63
      have X64 := mv_ne e2 (by decide) X64
      have X65 := mv_ne e2 (by decide) X65
      have X66 := mv_ne e2 (by decide) X66
      have X56 := mv_ne e2 (by decide) X56
      have X57 := mv_ne e2 (by decide) X57
      have X58 := mv_ne e2 (by decide) X58
      have X53 := mv_ne e2 (by decide) X53
      have XO := mv_ne e2 (by decide) XO
      have X69 : h1[69]? = some (.inl (0, 4, .inl (fun j => nI (t_up (q_z fo v) v 0 j)))) := mv_eq e2 X69
      have fr := fr.set e2 (by decide)
      clear e2
      rw [q_z_s] at X69
      refine mv_iinc (v := nI (v + 1)) dX12_table_91 rfl (mv_inc v 1) (by decide) ?_
      refine mv_goto (tgt := 77) dX12_table_94 (by decide) ?_
      exact ih (v + 1) h1 (by omega) fr XO X69 HX X59 X60 X61 X62 X63 X64 X65 X66 X56 X57 X58 X53 (by omega)
set_option maxRecDepth 100000 in
theorem k_X12_table_G4 {ev : mv_E} {h : mv_H} {xt : Int32} {xf : Int32} {xa : Int32} {xo : Int64} {xe : Int32} {xu : Int32} {xs : Int32} {xc : Int32} {xw : Int32} {b : t_B} {t : Nat} {s : q_S} {wa : Nat → Nat} {cf : Nat → Int32} {ct : Nat → Int32} {rr : Nat → Nat} {lw : Nat → Int32} {ln : Nat → Nat} {oa : Nat → Nat} {fo : Nat → Nat} {ok : Nat → Nat} {hs : Nat → Nat} {k : Nat} {w : Nat} {m : Nat} {x : Nat} {a1 : Nat} {c1 : Nat} {dd : Nat} (HX : h[52]? = some (.inr (12, [.ref 53, .ref 54, .int xt, .int xf, .int xa, .long xo, .int xe, .int xu, .ref 55, .int xs, .int (nI b.1), .ref 56, .ref 57, .ref 58, .int (nI t), .int (nI b.2.1), .ref 59, .ref 60, .ref 61, .ref 62, .int (nI s.1), .ref 63, .ref 64, .ref 65, .ref 66, .ref 67, .ref 68, .ref 69, .int xc, .ref 70, .ref 71, .ref 72, .ref 73, .ref 74, .ref 75, .int xw, .ref 76, .ref 77, .ref 78, .ref 79, .ref 80]))) (X59 : h[59]? = some (.inl (0, 8, .inl (fun j => nI (wa j))))) (X60 : h[60]? = some (.inl (0, 8, .inl cf))) (X61 : h[61]? = some (.inl (0, 8, .inl ct))) (X62 : h[62]? = some (.inl (2, 400, .inl (fun j => nI (rr j))))) (X63 : h[63]? = some (.inl (0, 100, .inl (fun j => nI (s.2.1 j))))) (X64 : h[64]? = some (.inl (0, 100, .inl (fun j => nI (s.2.2.1 j))))) (X65 : h[65]? = some (.inl (0, 100, .inl (fun j => nI (s.2.2.2.1 j))))) (X66 : h[66]? = some (.inl (0, 100, .inl (fun j => nI (s.2.2.2.2 j))))) (X56 : h[56]? = some (.inl (0, 60, .inl (fun j => nI (b.2.2.1 j))))) (X57 : h[57]? = some (.inl (0, 60, .inl (fun j => nI (b.2.2.2.1 j))))) (X58 : h[58]? = some (.inl (0, 60, .inl (fun j => nI (b.2.2.2.2 j))))) (X53 : h[53]? = some (.inl (0, 8, .inl lw))) (XO : h[67]? = some (.inl (2, 400, .inl (fun j => nI (oa j))))) (X69 : h[69]? = some (.inl (0, 4, .inl (fun j => nI (fo j))))) (hw : q_LW lw ln) (hsi : q_SI s) (hr : ∀ d, rr d ≤ 1) (hwi : q_WI wa cf ct) (hk : k < 8) (hw1 : 1 ≤ w) (hw6 : w ≤ 60) (hm0 : m < 8) (hz1 : 1 ≤ x) (hz9 : x ≤ 9) (ho : ∀ d, oa d ≤ 1) (hh : ∀ i, hs i ≤ 1) (hb : q_BI dd b) (hcw : w < q_cd cf ct k) (e1 : cf k = nI a1) (f1 : ct k = nI c1) (hc1 : c1 ≤ 399) (hac : a1 + w ≤ c1) : ∃ h2, mv_K ev mX12_table [.ref 52, .int (nI k), .int (nI w), .int (nI m), .int (nI x), .int (nI 4)] h (some (.int (q_wo (q_tb (q_oks lw ln s wa cf ct rr ok) (q_fm b (wa k) m x w (q_z hs 400) b.1) k a1 (c1 - w + 1 - a1))))) h2 ∧ mv_fra [67, 69] h h2 ∧ h2[67]? = some (.inl (2, 400, .inl (fun j => nI (q_fd (q_ev lw ln s wa cf ct rr) s k (q_z oa 400) s.1 j)))) ∧ h2[69]? = some (.inl (0, 4, .inl (fun j => nI (q_4f (q_tb (q_oks lw ln s wa cf ct rr ok) (q_fm b (wa k) m x w (q_z hs 400) b.1) k a1 (c1 - w + 1 - a1)) (q_z fo 4) j)))) := by
  suffices g0 : mv_g ev mX12_table 0 (mv_ent [.ref 52, .int (nI k), .int (nI w), .int (nI m), .int (nI x), .int (nI 4)] (mv_ml mX12_table)) [] h (fun r g => r = some (.int (q_wo (q_tb (q_oks lw ln s wa cf ct rr ok) (q_fm b (wa k) m x w (q_z hs 400) b.1) k a1 (c1 - w + 1 - a1)))) ∧ mv_fra [67, 69] h g ∧ g[67]? = some (.inl (2, 400, .inl (fun j => nI (q_fd (q_ev lw ln s wa cf ct rr) s k (q_z oa 400) s.1 j)))) ∧ g[69]? = some (.inl (0, 4, .inl (fun j => nI (q_4f (q_tb (q_oks lw ln s wa cf ct rr ok) (q_fm b (wa k) m x w (q_z hs 400) b.1) k a1 (c1 - w + 1 - a1)) (q_z fo 4) j))))) from (by obtain ⟨r0, h0, K0, q0, Q0⟩ := mv_Kex g0; subst q0; exact ⟨h0, K0, Q0⟩)
  show mv_g ev mX12_table 0 [.ref 52, .int (nI k), .int (nI w), .int (nI m), .int (nI x), .int (nI 4), .null, .null, .null, .null] [] h _
  have fr : mv_fra [67, 69] h h := mv_fra.rf
  have n1 := q_cd_le hwi k
  have n5 := hwi.1 k
  have nh : ∀ i, (q_fm b (wa k) m x w (q_z hs 400) b.1) i ≤ 1 := q_fm_le (q_z_l1 hh 400) b.1
  have n2 := q_tb_le (ok := (q_oks lw ln s wa cf ct rr ok)) (hs := (q_fm b (wa k) m x w (q_z hs 400) b.1)) (k := k) (a := a1) nh (c1 - w + 1 - a1)
  have n6 := q_on_le (q_oks lw ln s wa cf ct rr (fun _ => 0)) k 400
  have on0 : q_on (q_oks lw ln s wa cf ct rr (fun _ => 0)) k 400 = 0 → ∀ d, d < 400 → ¬ q_bt ((q_oks lw ln s wa cf ct rr ok) d) k = 1 := fun q => q_on_0 400 ((q_on_o k).trans q)
  refine mv_iload_n dX12_table_0 rfl ?_
  refine mv_cS1 dX12_table_1 lk_X12_table_282 (Nat.le_of_ble_eq_true rfl) (Nat.le_of_ble_eq_true rfl) (k_X12_isKind (ev := ev)) ?_
  refine mv_if_ne (tgt := 11) dX12_table_4 (by decide) (fun c4 => ?_) (fun z => absurd z ((fun z => (mv_b_0 _).mp z (mv_in_i (by omega) (by omega) (by omega)))))
  refine mv_iload_n dX12_table_11 rfl ?_
  refine mv_cS1 dX12_table_12 lk_X12_table_309 (Nat.le_of_ble_eq_true rfl) (Nat.le_of_ble_eq_true rfl) (k_X12_isWide (ev := ev)) ?_
  refine mv_if_eq (tgt := 46) dX12_table_15 (by decide) (fun z => absurd z ((fun z => (mv_b_0 _).mp z (mv_in_i (by omega) (by omega) (by omega))))) (fun c15 => ?_)
  refine mv_iload_n dX12_table_18 rfl ?_
  refine mv_cS1 dX12_table_19 lk_X12_table_125 (Nat.le_of_ble_eq_true rfl) (Nat.le_of_ble_eq_true rfl) (k_X12_isNear (ev := ev)) ?_
  refine mv_if_eq (tgt := 46) dX12_table_22 (by decide) (fun z => absurd z ((fun z => (mv_b_0 _).mp z (mv_in_i (by omega) (by omega) (by omega))))) (fun c22 => ?_)
  refine mv_iload dX12_table_25 rfl ?_
  refine mv_cS1 dX12_table_27 lk_X12_table_204 (Nat.le_of_ble_eq_true rfl) (Nat.le_of_ble_eq_true rfl) (k_X12_isSize (ev := ev)) ?_
  refine mv_if_eq (tgt := 46) dX12_table_30 (by decide) (fun z => absurd z ((fun z => (mv_b_0 _).mp z (mv_in_i (by omega) (by omega) (by omega))))) (fun c30 => ?_)
  refine mv_iload dX12_table_33 rfl ?_
  refine mv_i2l dX12_table_35 ?_
  refine mv_topL (y := lN 4) (nI_l (by omega)) ?_
  refine mv_lconst (v := lN 0) dX12_table_36 rfl ?_
  refine mv_ldc2 (v := lN 4) dX12_table_37 wd_1559 ?_
  refine mv_cS3 dX12_table_40 lk_X12_table_107 (Nat.le_of_ble_eq_true rfl) (Nat.le_of_ble_eq_true rfl) (k_X12_in (ev := ev)) ?_
  refine mv_if_ne (tgt := 50) dX12_table_43 (by decide) (fun c43 => ?_) (fun z => absurd z ((fun z => (mv_b_0 _).mp z ((and_congr (lN_leB (by omega) (by omega)) (lN_leB (by omega) (by omega))).mpr ⟨by omega, by omega⟩))))
  refine mv_aload_n dX12_table_50 rfl ?_
  refine mv_iload_n dX12_table_51 rfl ?_
  refine mv_cV1 (ci := 12) dX12_table_52 lk_X12_table_285 HX rfl (Nat.le_of_ble_eq_true rfl) (Nat.le_of_ble_eq_true rfl) (k_X12_counted (ev := ev) HX X60 X61 hk hwi) ?_
  refine mv_iload_n dX12_table_55 rfl ?_
  refine mv_icmp_gt (tgt := 63) dX12_table_56 (by decide) (fun c56 => ?_) (fun z => absurd (((nI_ltI (by omega) (by omega)).mpr hcw)) z)
  refine mv_aload_n dX12_table_63 rfl ?_
  refine mv_iload_n dX12_table_64 rfl ?_
  refine mv_aload_n dX12_table_65 rfl ?_
  refine mv_getf (ci := 12) (f := 25) dX12_table_66 HX rfl (by decide) wd_1224 rfl ?_
  obtain ⟨h1, K2, f3, y4⟩ := (k_X12_findOdd67 (ev := ev) (xt := xt) (xf := xf) (xa := xa) (xo := xo) (xe := xe) (xu := xu) (xs := xs) (xc := xc) (xw := xw) (b := b) (t := t) (s := s) (wa := wa) (cf := cf) (ct := ct) (rr := rr) (lw := lw) (ln := ln) (k := k) (oa := oa) HX X59 X60 X61 X62 X63 X64 X65 X66 X53 XO hw hsi hr hwi ho hk)
  refine mv_cV2 (ci := 12) dX12_table_69 lk_X12_table_298 HX rfl (Nat.le_of_ble_eq_true rfl) (Nat.le_of_ble_eq_true rfl) K2 ?_
  have HX := f3.get (by decide) HX
  have X59 := f3.get (by decide) X59
  have X60 := f3.get (by decide) X60
  have X61 := f3.get (by decide) X61
  have X62 := f3.get (by decide) X62
  have X63 := f3.get (by decide) X63
  have X64 := f3.get (by decide) X64
  have X65 := f3.get (by decide) X65
  have X66 := f3.get (by decide) X66
  have X56 := f3.get (by decide) X56
  have X57 := f3.get (by decide) X57
  have X58 := f3.get (by decide) X58
  have X53 := f3.get (by decide) X53
  have XO : h1[67]? = some (.inl (2, 400, .inl (fun j => nI (q_fd (q_ev lw ln s wa cf ct rr) s k (q_z oa 400) s.1 j)))) := y4
  have X69 := f3.get (by decide) X69
  have fr := fr.trans f3 (by decide)
  refine mv_istore dX12_table_72 (by decide) ?_
  rw [← q_z_0 fo] at X69
  refine mv_iconst (v := nI 0) dX12_table_74 (by decide) ?_
  refine mv_istore dX12_table_75 (by decide) ?_
  exact l_X12_tableA4 hw hsi hr hwi hk hw1 hw6 hm0 hz1 hz9 ho hh hb hcw e1 f1 hc1 hac (4 + 1) 0 h1 (by omega) fr XO X69 HX X59 X60 X61 X62 X63 X64 X65 X66 X56 X57 X58 X53 (Nat.zero_le _)
set_option maxRecDepth 100000 in
theorem l_X12_tableB {ev : mv_E} {h : mv_H} {xt : Int32} {xf : Int32} {xa : Int32} {xo : Int64} {xe : Int32} {xu : Int32} {xs : Int32} {xc : Int32} {xw : Int32} {b : t_B} {t : Nat} {s : q_S} {wa : Nat → Nat} {cf : Nat → Int32} {ct : Nat → Int32} {rr : Nat → Nat} {lw : Nat → Int32} {ln : Nat → Nat} {oa : Nat → Nat} {fo : Nat → Nat} {ok : Nat → Nat} {hs : Nat → Nat} {k : Nat} {w : Nat} {m : Nat} {x : Nat} {i : Nat} {a1 : Nat} {c1 : Nat} {dd : Nat}  (hw : q_LW lw ln) (hsi : q_SI s) (hr : ∀ d, rr d ≤ 1) (hwi : q_WI wa cf ct) (hk : k < 8) (hw1 : 1 ≤ w) (hw6 : w ≤ 60) (hm0 : m < 8) (hz1 : 1 ≤ x) (hz9 : x ≤ 9) (ho : ∀ d, oa d ≤ 1) (hh : ∀ i, hs i ≤ 1) (hb : q_BI dd b) (hcw : w < q_cd cf ct k) (e1 : cf k = nI a1) (f1 : ct k = nI c1) (hc1 : c1 ≤ 399) (hac : a1 + w ≤ c1) (hi : i ≤ 3) : ∀ (fu : Nat) (y : Nat), ∀ (g : mv_H), c1 + 1 < y + fu → mv_fra [67, 69] h g → g[67]? = some (.inl (2, 400, .inl (fun j => nI (q_fd (q_ev lw ln s wa cf ct rr) s k (q_z oa 400) s.1 j)))) → g[69]? = some (.inl (0, 4, .inl (fun j => nI (q_4f (q_tb (q_oks lw ln s wa cf ct rr ok) (q_fm b (wa k) m x w (q_z hs 400) b.1) k a1 (y - a1)) (q_z fo 4) j)))) → g[52]? = some (.inr (12, [.ref 53, .ref 54, .int xt, .int xf, .int xa, .long xo, .int xe, .int xu, .ref 55, .int xs, .int (nI b.1), .ref 56, .ref 57, .ref 58, .int (nI t), .int (nI b.2.1), .ref 59, .ref 60, .ref 61, .ref 62, .int (nI s.1), .ref 63, .ref 64, .ref 65, .ref 66, .ref 67, .ref 68, .ref 69, .int xc, .ref 70, .ref 71, .ref 72, .ref 73, .ref 74, .ref 75, .int xw, .ref 76, .ref 77, .ref 78, .ref 79, .ref 80])) → g[59]? = some (.inl (0, 8, .inl (fun j => nI (wa j)))) → g[60]? = some (.inl (0, 8, .inl cf)) → g[61]? = some (.inl (0, 8, .inl ct)) → g[62]? = some (.inl (2, 400, .inl (fun j => nI (rr j)))) → g[63]? = some (.inl (0, 100, .inl (fun j => nI (s.2.1 j)))) → g[64]? = some (.inl (0, 100, .inl (fun j => nI (s.2.2.1 j)))) → g[65]? = some (.inl (0, 100, .inl (fun j => nI (s.2.2.2.1 j)))) → g[66]? = some (.inl (0, 100, .inl (fun j => nI (s.2.2.2.2 j)))) → g[56]? = some (.inl (0, 60, .inl (fun j => nI (b.2.2.1 j)))) → g[57]? = some (.inl (0, 60, .inl (fun j => nI (b.2.2.2.1 j)))) → g[58]? = some (.inl (0, 60, .inl (fun j => nI (b.2.2.2.2 j)))) → g[53]? = some (.inl (0, 8, .inl lw)) → (a1 ≤ y) → (y ≤ c1 - w + 1) → mv_g ev mX12_table 105 [.ref 52, .int (nI k), .int (nI w), .int (nI m), .int (nI x), .int (nI i), .int (nI (q_on (q_oks lw ln s wa cf ct rr (fun _ => 0)) k 400)), .int (nI y), .null, .null] [] g (fun r g => r = some (.int (nI (q_nb (q_tb (q_oks lw ln s wa cf ct rr ok) (q_fm b (wa k) m x w (q_z hs 400) b.1) k a1 (c1 - w + 1 - a1)) i))) ∧ mv_fra [67, 69] h g ∧ g[67]? = some (.inl (2, 400, .inl (fun j => nI (q_fd (q_ev lw ln s wa cf ct rr) s k (q_z oa 400) s.1 j)))) ∧ g[69]? = some (.inl (0, 4, .inl (fun j => nI (q_4f (q_tb (q_oks lw ln s wa cf ct rr ok) (q_fm b (wa k) m x w (q_z hs 400) b.1) k a1 (c1 - w + 1 - a1)) (q_z fo 4) j))))) := by
  intro fu
  induction fu with
  | zero => intro y g hm fr XO X69 HX X59 X60 X61 X62 X63 X64 X65 X66 X56 X57 X58 X53 hy hy2; exact absurd hm (by omega)
  | succ fu ih =>
    intro y g hm fr XO X69 HX X59 X60 X61 X62 X63 X64 X65 X66 X56 X57 X58 X53 hy hy2
    have n1 := q_cd_le hwi k
    have n5 := hwi.1 k
    have nh : ∀ i, (q_fm b (wa k) m x w (q_z hs 400) b.1) i ≤ 1 := q_fm_le (q_z_l1 hh 400) b.1
    have n2 := q_tb_le (ok := (q_oks lw ln s wa cf ct rr ok)) (hs := (q_fm b (wa k) m x w (q_z hs 400) b.1)) (k := k) (a := a1) nh (c1 - w + 1 - a1)
    have n6 := q_on_le (q_oks lw ln s wa cf ct rr (fun _ => 0)) k 400
    have on0 : q_on (q_oks lw ln s wa cf ct rr (fun _ => 0)) k 400 = 0 → ∀ d, d < 400 → ¬ q_bt ((q_oks lw ln s wa cf ct rr ok) d) k = 1 := fun q => q_on_0 400 ((q_on_o k).trans q)
    refine mv_iload dX12_table_105 rfl ?_
    refine mv_aload_n dX12_table_107 rfl ?_
    refine mv_getf (ci := 12) (f := 18) dX12_table_108 HX rfl (by decide) wd_1217 rfl ?_
    refine mv_iload_n dX12_table_111 rfl ?_
    refine mv_iaN (j := k) (x := nI c1) dX12_table_112 X61 rfl (by decide) (by omega) f1 ?_
    refine mv_iload_n dX12_table_113 rfl ?_
    refine mv_isub dX12_table_114 ?_
    refine mv_topI (y := nI (c1 - w)) (pk_sub (by omega)) ?_
    refine mv_icmp_gt (tgt := 194) dX12_table_115 (by decide) (fun c115 => ?_) (fun c115 => ?_)
    · have c115 : c1 - w < y := (nI_ltI (by omega) (by omega)).mp c115
      have ey : y = c1 - w + 1 := (by omega)
      subst ey
      refine mv_aload_n dX12_table_194 rfl ?_
      refine mv_getf (ci := 12) (f := 27) dX12_table_195 HX rfl (by decide) wd_1226 rfl ?_
      refine mv_iconst (v := nI 0) dX12_table_198 (by decide) ?_
      refine mv_iaN (j := 0) (x := nI (q_tb (q_oks lw ln s wa cf ct rr ok) (q_fm b (wa k) m x w (q_z hs 400) b.1) k a1 (c1 - w + 1 - a1)).1) dX12_table_199 X69 rfl (by decide) (by omega) rfl ?_
      refine mv_aload_n dX12_table_200 rfl ?_
      refine mv_getf (ci := 12) (f := 27) dX12_table_201 HX rfl (by decide) wd_1226 rfl ?_
      refine mv_iconst (v := nI 1) dX12_table_204 (by decide) ?_
      refine mv_iaN (j := 1) (x := nI (q_tb (q_oks lw ln s wa cf ct rr ok) (q_fm b (wa k) m x w (q_z hs 400) b.1) k a1 (c1 - w + 1 - a1)).2.1) dX12_table_205 X69 rfl (by decide) (by omega) rfl ?_
      refine mv_iadd dX12_table_206 ?_
      refine mv_topI (y := nI ((q_tb (q_oks lw ln s wa cf ct rr ok) (q_fm b (wa k) m x w (q_z hs 400) b.1) k a1 (c1 - w + 1 - a1)).1 + (q_tb (q_oks lw ln s wa cf ct rr ok) (q_fm b (wa k) m x w (q_z hs 400) b.1) k a1 (c1 - w + 1 - a1)).2.1)) (nI_add _ _) ?_
      refine mv_istore dX12_table_207 (by decide) ?_
      refine mv_aload_n dX12_table_209 rfl ?_
      refine mv_getf (ci := 12) (f := 27) dX12_table_210 HX rfl (by decide) wd_1226 rfl ?_
      refine mv_iconst (v := nI 2) dX12_table_213 (by decide) ?_
      refine mv_iaN (j := 2) (x := nI (q_tb (q_oks lw ln s wa cf ct rr ok) (q_fm b (wa k) m x w (q_z hs 400) b.1) k a1 (c1 - w + 1 - a1)).2.2.1) dX12_table_214 X69 rfl (by decide) (by omega) rfl ?_
      refine mv_aload_n dX12_table_215 rfl ?_
      refine mv_getf (ci := 12) (f := 27) dX12_table_216 HX rfl (by decide) wd_1226 rfl ?_
      refine mv_iconst (v := nI 3) dX12_table_219 (by decide) ?_
      refine mv_iaN (j := 3) (x := nI (q_tb (q_oks lw ln s wa cf ct rr ok) (q_fm b (wa k) m x w (q_z hs 400) b.1) k a1 (c1 - w + 1 - a1)).2.2.2) dX12_table_220 X69 rfl (by decide) (by omega) rfl ?_
      refine mv_iadd dX12_table_221 ?_
      refine mv_topI (y := nI ((q_tb (q_oks lw ln s wa cf ct rr ok) (q_fm b (wa k) m x w (q_z hs 400) b.1) k a1 (c1 - w + 1 - a1)).2.2.1 + (q_tb (q_oks lw ln s wa cf ct rr ok) (q_fm b (wa k) m x w (q_z hs 400) b.1) k a1 (c1 - w + 1 - a1)).2.2.2)) (nI_add _ _) ?_
      refine mv_istore dX12_table_222 (by decide) ?_
      refine mv_iload dX12_table_224 rfl ?_
      refine mv_if_ne (tgt := 233) dX12_table_226 (by decide) (fun c226 => ?_) (fun c226 => ?_)
      · have c226 : ¬ ((q_tb (q_oks lw ln s wa cf ct rr ok) (q_fm b (wa k) m x w (q_z hs 400) b.1) k a1 (c1 - w + 1 - a1)).1 + (q_tb (q_oks lw ln s wa cf ct rr ok) (q_fm b (wa k) m x w (q_z hs 400) b.1) k a1 (c1 - w + 1 - a1)).2.1 = 0) := fun z => c226 ((nI_eq (b := 0) (by omega) (by omega)).mpr z)
        refine mv_sipush (v := nI 1000) dX12_table_233 (by decide) ?_
        refine mv_aload_n dX12_table_236 rfl ?_
        refine mv_getf (ci := 12) (f := 27) dX12_table_237 HX rfl (by decide) wd_1226 rfl ?_
        refine mv_iconst (v := nI 0) dX12_table_240 (by decide) ?_
        refine mv_iaN (j := 0) (x := nI (q_tb (q_oks lw ln s wa cf ct rr ok) (q_fm b (wa k) m x w (q_z hs 400) b.1) k a1 (c1 - w + 1 - a1)).1) dX12_table_241 X69 rfl (by decide) (by omega) rfl ?_
        refine mv_imul dX12_table_242 ?_
        refine mv_topI (y := nI (1000 * (q_tb (q_oks lw ln s wa cf ct rr ok) (q_fm b (wa k) m x w (q_z hs 400) b.1) k a1 (c1 - w + 1 - a1)).1)) (pk_mul _ _) ?_
        refine mv_iload dX12_table_243 rfl ?_
        refine mv_idiv dX12_table_245 (by intro z; have z2 := (nI_eq (b := 0) (by omega) (by omega)).mp z; omega) ?_
        refine mv_topI (y := nI ((1000 * (q_tb (q_oks lw ln s wa cf ct rr ok) (q_fm b (wa k) m x w (q_z hs 400) b.1) k a1 (c1 - w + 1 - a1)).1) / ((q_tb (q_oks lw ln s wa cf ct rr ok) (q_fm b (wa k) m x w (q_z hs 400) b.1) k a1 (c1 - w + 1 - a1)).1 + (q_tb (q_oks lw ln s wa cf ct rr ok) (q_fm b (wa k) m x w (q_z hs 400) b.1) k a1 (c1 - w + 1 - a1)).2.1))) (pk_div (by omega) (by omega) (by omega)) ?_
        refine mv_iload dX12_table_246 rfl ?_
        refine mv_if_ne (tgt := 255) dX12_table_248 (by decide) (fun c248 => ?_) (fun c248 => ?_)
        · have c248 : ¬ ((q_tb (q_oks lw ln s wa cf ct rr ok) (q_fm b (wa k) m x w (q_z hs 400) b.1) k a1 (c1 - w + 1 - a1)).2.2.1 + (q_tb (q_oks lw ln s wa cf ct rr ok) (q_fm b (wa k) m x w (q_z hs 400) b.1) k a1 (c1 - w + 1 - a1)).2.2.2 = 0) := fun z => c248 ((nI_eq (b := 0) (by omega) (by omega)).mpr z)
          refine mv_sipush (v := nI 1000) dX12_table_255 (by decide) ?_
          refine mv_aload_n dX12_table_258 rfl ?_
          refine mv_getf (ci := 12) (f := 27) dX12_table_259 HX rfl (by decide) wd_1226 rfl ?_
          refine mv_iconst (v := nI 2) dX12_table_262 (by decide) ?_
          refine mv_iaN (j := 2) (x := nI (q_tb (q_oks lw ln s wa cf ct rr ok) (q_fm b (wa k) m x w (q_z hs 400) b.1) k a1 (c1 - w + 1 - a1)).2.2.1) dX12_table_263 X69 rfl (by decide) (by omega) rfl ?_
          refine mv_imul dX12_table_264 ?_
          refine mv_topI (y := nI (1000 * (q_tb (q_oks lw ln s wa cf ct rr ok) (q_fm b (wa k) m x w (q_z hs 400) b.1) k a1 (c1 - w + 1 - a1)).2.2.1)) (pk_mul _ _) ?_
          refine mv_iload dX12_table_265 rfl ?_
          refine mv_idiv dX12_table_267 (by intro z; have z2 := (nI_eq (b := 0) (by omega) (by omega)).mp z; omega) ?_
          refine mv_topI (y := nI ((1000 * (q_tb (q_oks lw ln s wa cf ct rr ok) (q_fm b (wa k) m x w (q_z hs 400) b.1) k a1 (c1 - w + 1 - a1)).2.2.1) / ((q_tb (q_oks lw ln s wa cf ct rr ok) (q_fm b (wa k) m x w (q_z hs 400) b.1) k a1 (c1 - w + 1 - a1)).2.2.1 + (q_tb (q_oks lw ln s wa cf ct rr ok) (q_fm b (wa k) m x w (q_z hs 400) b.1) k a1 (c1 - w + 1 - a1)).2.2.2))) (pk_div (by omega) (by omega) (by omega)) ?_
          refine mv_isub dX12_table_268 ?_
          refine mv_istore dX12_table_269 (by decide) ?_
          refine mv_iload dX12_table_271 rfl ?_
          refine mv_iconst (v := nI 4) dX12_table_273 (by decide) ?_
          refine mv_icmp_ne (tgt := 282) dX12_table_274 (by decide) (fun c274 => ?_) (fun z => absurd z ((fun q => absurd ((nI_eq (by omega) (by omega)).mp q) (by omega))))
          refine mv_aload_n dX12_table_282 rfl ?_
          refine mv_getf (ci := 12) (f := 27) dX12_table_283 HX rfl (by decide) wd_1226 rfl ?_
          refine mv_iload dX12_table_286 rfl ?_
          refine mv_iaN (j := i) (x := nI (q_4f (q_tb (q_oks lw ln s wa cf ct rr ok) (q_fm b (wa k) m x w (q_z hs 400) b.1) k a1 (c1 - w + 1 - a1)) (q_z fo 4) i)) dX12_table_288 X69 rfl (by decide) (by omega) rfl ?_
          exact mv_iret dX12_table_289 rfl rfl ⟨(congrArg (fun z => some (Value.int z)) (congrArg nI (by unfold q_nb; have e : i = 0 ∨ i = 1 ∨ i = 2 ∨ i = 3 := (by omega); rcases e with rfl | rfl | rfl | rfl <;> rfl))), fr, XO, X69⟩
        · have c248 : (q_tb (q_oks lw ln s wa cf ct rr ok) (q_fm b (wa k) m x w (q_z hs 400) b.1) k a1 (c1 - w + 1 - a1)).2.2.1 + (q_tb (q_oks lw ln s wa cf ct rr ok) (q_fm b (wa k) m x w (q_z hs 400) b.1) k a1 (c1 - w + 1 - a1)).2.2.2 = 0 := (nI_eq (b := 0) (by omega) (by omega)).mp c248
          refine mv_iconst (v := nI 0) dX12_table_251 (by decide) ?_
          refine mv_goto (tgt := 268) dX12_table_252 (by decide) ?_
          refine mv_isub dX12_table_268 ?_
          refine mv_istore dX12_table_269 (by decide) ?_
          refine mv_iload dX12_table_271 rfl ?_
          refine mv_iconst (v := nI 4) dX12_table_273 (by decide) ?_
          refine mv_icmp_ne (tgt := 282) dX12_table_274 (by decide) (fun c274 => ?_) (fun z => absurd z ((fun q => absurd ((nI_eq (by omega) (by omega)).mp q) (by omega))))
          refine mv_aload_n dX12_table_282 rfl ?_
          refine mv_getf (ci := 12) (f := 27) dX12_table_283 HX rfl (by decide) wd_1226 rfl ?_
          refine mv_iload dX12_table_286 rfl ?_
          refine mv_iaN (j := i) (x := nI (q_4f (q_tb (q_oks lw ln s wa cf ct rr ok) (q_fm b (wa k) m x w (q_z hs 400) b.1) k a1 (c1 - w + 1 - a1)) (q_z fo 4) i)) dX12_table_288 X69 rfl (by decide) (by omega) rfl ?_
          exact mv_iret dX12_table_289 rfl rfl ⟨(congrArg (fun z => some (Value.int z)) (congrArg nI (by unfold q_nb; have e : i = 0 ∨ i = 1 ∨ i = 2 ∨ i = 3 := (by omega); rcases e with rfl | rfl | rfl | rfl <;> rfl))), fr, XO, X69⟩
      · have c226 : (q_tb (q_oks lw ln s wa cf ct rr ok) (q_fm b (wa k) m x w (q_z hs 400) b.1) k a1 (c1 - w + 1 - a1)).1 + (q_tb (q_oks lw ln s wa cf ct rr ok) (q_fm b (wa k) m x w (q_z hs 400) b.1) k a1 (c1 - w + 1 - a1)).2.1 = 0 := (nI_eq (b := 0) (by omega) (by omega)).mp c226
        refine mv_iconst (v := nI 0) dX12_table_229 (by decide) ?_
        refine mv_goto (tgt := 246) dX12_table_230 (by decide) ?_
        refine mv_iload dX12_table_246 rfl ?_
        refine mv_if_ne (tgt := 255) dX12_table_248 (by decide) (fun c248 => ?_) (fun c248 => ?_)
        · have c248 : ¬ ((q_tb (q_oks lw ln s wa cf ct rr ok) (q_fm b (wa k) m x w (q_z hs 400) b.1) k a1 (c1 - w + 1 - a1)).2.2.1 + (q_tb (q_oks lw ln s wa cf ct rr ok) (q_fm b (wa k) m x w (q_z hs 400) b.1) k a1 (c1 - w + 1 - a1)).2.2.2 = 0) := fun z => c248 ((nI_eq (b := 0) (by omega) (by omega)).mpr z)
          refine mv_sipush (v := nI 1000) dX12_table_255 (by decide) ?_
          refine mv_aload_n dX12_table_258 rfl ?_
          refine mv_getf (ci := 12) (f := 27) dX12_table_259 HX rfl (by decide) wd_1226 rfl ?_
          refine mv_iconst (v := nI 2) dX12_table_262 (by decide) ?_
          refine mv_iaN (j := 2) (x := nI (q_tb (q_oks lw ln s wa cf ct rr ok) (q_fm b (wa k) m x w (q_z hs 400) b.1) k a1 (c1 - w + 1 - a1)).2.2.1) dX12_table_263 X69 rfl (by decide) (by omega) rfl ?_
          refine mv_imul dX12_table_264 ?_
          refine mv_topI (y := nI (1000 * (q_tb (q_oks lw ln s wa cf ct rr ok) (q_fm b (wa k) m x w (q_z hs 400) b.1) k a1 (c1 - w + 1 - a1)).2.2.1)) (pk_mul _ _) ?_
          refine mv_iload dX12_table_265 rfl ?_
          refine mv_idiv dX12_table_267 (by intro z; have z2 := (nI_eq (b := 0) (by omega) (by omega)).mp z; omega) ?_
          refine mv_topI (y := nI ((1000 * (q_tb (q_oks lw ln s wa cf ct rr ok) (q_fm b (wa k) m x w (q_z hs 400) b.1) k a1 (c1 - w + 1 - a1)).2.2.1) / ((q_tb (q_oks lw ln s wa cf ct rr ok) (q_fm b (wa k) m x w (q_z hs 400) b.1) k a1 (c1 - w + 1 - a1)).2.2.1 + (q_tb (q_oks lw ln s wa cf ct rr ok) (q_fm b (wa k) m x w (q_z hs 400) b.1) k a1 (c1 - w + 1 - a1)).2.2.2))) (pk_div (by omega) (by omega) (by omega)) ?_
          refine mv_isub dX12_table_268 ?_
          refine mv_istore dX12_table_269 (by decide) ?_
          refine mv_iload dX12_table_271 rfl ?_
          refine mv_iconst (v := nI 4) dX12_table_273 (by decide) ?_
          refine mv_icmp_ne (tgt := 282) dX12_table_274 (by decide) (fun c274 => ?_) (fun z => absurd z ((fun q => absurd ((nI_eq (by omega) (by omega)).mp q) (by omega))))
          refine mv_aload_n dX12_table_282 rfl ?_
          refine mv_getf (ci := 12) (f := 27) dX12_table_283 HX rfl (by decide) wd_1226 rfl ?_
          refine mv_iload dX12_table_286 rfl ?_
          refine mv_iaN (j := i) (x := nI (q_4f (q_tb (q_oks lw ln s wa cf ct rr ok) (q_fm b (wa k) m x w (q_z hs 400) b.1) k a1 (c1 - w + 1 - a1)) (q_z fo 4) i)) dX12_table_288 X69 rfl (by decide) (by omega) rfl ?_
          exact mv_iret dX12_table_289 rfl rfl ⟨(congrArg (fun z => some (Value.int z)) (congrArg nI (by unfold q_nb; have e : i = 0 ∨ i = 1 ∨ i = 2 ∨ i = 3 := (by omega); rcases e with rfl | rfl | rfl | rfl <;> rfl))), fr, XO, X69⟩
        · have c248 : (q_tb (q_oks lw ln s wa cf ct rr ok) (q_fm b (wa k) m x w (q_z hs 400) b.1) k a1 (c1 - w + 1 - a1)).2.2.1 + (q_tb (q_oks lw ln s wa cf ct rr ok) (q_fm b (wa k) m x w (q_z hs 400) b.1) k a1 (c1 - w + 1 - a1)).2.2.2 = 0 := (nI_eq (b := 0) (by omega) (by omega)).mp c248
          refine mv_iconst (v := nI 0) dX12_table_251 (by decide) ?_
          refine mv_goto (tgt := 268) dX12_table_252 (by decide) ?_
          refine mv_isub dX12_table_268 ?_
          refine mv_istore dX12_table_269 (by decide) ?_
          refine mv_iload dX12_table_271 rfl ?_
          refine mv_iconst (v := nI 4) dX12_table_273 (by decide) ?_
          refine mv_icmp_ne (tgt := 282) dX12_table_274 (by decide) (fun c274 => ?_) (fun z => absurd z ((fun q => absurd ((nI_eq (by omega) (by omega)).mp q) (by omega))))
          refine mv_aload_n dX12_table_282 rfl ?_
          refine mv_getf (ci := 12) (f := 27) dX12_table_283 HX rfl (by decide) wd_1226 rfl ?_
          refine mv_iload dX12_table_286 rfl ?_
          refine mv_iaN (j := i) (x := nI (q_4f (q_tb (q_oks lw ln s wa cf ct rr ok) (q_fm b (wa k) m x w (q_z hs 400) b.1) k a1 (c1 - w + 1 - a1)) (q_z fo 4) i)) dX12_table_288 X69 rfl (by decide) (by omega) rfl ?_
          exact mv_iret dX12_table_289 rfl rfl ⟨(congrArg (fun z => some (Value.int z)) (congrArg nI (by unfold q_nb; have e : i = 0 ∨ i = 1 ∨ i = 2 ∨ i = 3 := (by omega); rcases e with rfl | rfl | rfl | rfl <;> rfl))), fr, XO, X69⟩
    · have c115 : ¬ (c1 - w < y) := fun z => c115 ((nI_ltI (by omega) (by omega)).mpr z)
      refine mv_aload_n dX12_table_118 rfl ?_
      refine mv_aload_n dX12_table_119 rfl ?_
      refine mv_getf (ci := 12) (f := 16) dX12_table_120 HX rfl (by decide) wd_1215 rfl ?_
      refine mv_iload_n dX12_table_123 rfl ?_
      refine mv_iaN (j := k) (x := nI (wa k)) dX12_table_124 X59 rfl (by decide) (by omega) rfl ?_
      refine mv_iload_n dX12_table_125 rfl ?_
      refine mv_iload dX12_table_126 rfl ?_
      refine mv_iload dX12_table_128 rfl ?_
      refine mv_iconst (v := nI 1) dX12_table_130 (by decide) ?_
      refine mv_iadd dX12_table_131 ?_
      refine mv_topI (y := nI (y + 1)) (nI_add _ _) ?_
      refine mv_iload dX12_table_132 rfl ?_
      refine mv_iload_n dX12_table_134 rfl ?_
      refine mv_iadd dX12_table_135 ?_
      refine mv_topI (y := nI (y + w)) (nI_add _ _) ?_
      refine mv_cV5 (ci := 12) dX12_table_136 lk_X12_table_314 HX rfl (Nat.le_of_ble_eq_true rfl) (Nat.le_of_ble_eq_true rfl) (k_X12_isShaken (ev := ev) HX X56 X57 X58 hb n5 hm0 hz9 (by omega) (by omega)) ?_
      refine mv_istore dX12_table_139 (by decide) ?_
      have n8 := q_bt_lt ((q_oks lw ln s wa cf ct rr ok) y) k
      refine mv_aload_n dX12_table_141 rfl ?_
      refine mv_getf (ci := 12) (f := 27) dX12_table_142 HX rfl (by decide) wd_1226 rfl ?_
      refine mv_iload dX12_table_145 rfl ?_
      refine mv_if_le (tgt := 173) dX12_table_147 (by decide) (fun c147 => ?_) (fun c147 => ?_)
      · have c147 : q_on (q_oks lw ln s wa cf ct rr (fun _ => 0)) k 400 ≤ 0 := (nI_leI (b := 0) (by omega) (by omega)).mp c147
        refine mv_iload dX12_table_173 rfl ?_
        refine mv_if_eq (tgt := 182) dX12_table_175 (by decide) (fun c175 => ?_) (fun c175 => ?_)
        · have c175 : ¬ (q_sh b (wa k) m x (y + 1) (y + w) b.1) := (mv_q_0 _).mp c175
          refine mv_iconst (v := nI 3) dX12_table_182 (by decide) ?_
          refine mv_dup2 dX12_table_183 rfl rfl ?_
          refine mv_iaN (j := 3) (x := nI (q_4f (q_tb (q_oks lw ln s wa cf ct rr ok) (q_fm b (wa k) m x w (q_z hs 400) b.1) k a1 (y - a1)) (q_z fo 4) 3)) dX12_table_184 X69 rfl (by decide) (by omega) rfl ?_
          refine mv_iconst (v := nI 1) dX12_table_185 (by decide) ?_
          refine mv_iadd dX12_table_186 ?_
          refine mv_topI (y := nI ((q_4f (q_tb (q_oks lw ln s wa cf ct rr ok) (q_fm b (wa k) m x w (q_z hs 400) b.1) k a1 (y - a1)) (q_z fo 4) 3) + 1)) (nI_add _ _) ?_
          refine mv_iastN (j := 3) dX12_table_187 X69 rfl (by decide) (by omega) (fun h1 e2 => ?_)
          rw [upd_nI] at e2
          have HX := mv_ne e2 (by decide) HX
          have X59 := mv_ne e2 (by decide) X59
          have X60 := mv_ne e2 (by decide) X60
          have X61 := mv_ne e2 (by decide) X61
          have X62 := mv_ne e2 (by decide) X62
          have X63 := mv_ne e2 (by decide) X63
          have X64 := mv_ne e2 (by decide) X64
          have X65 := mv_ne e2 (by decide) X65
          have X66 := mv_ne e2 (by decide) X66
          have X56 := mv_ne e2 (by decide) X56
          have X57 := mv_ne e2 (by decide) X57
          have X58 := mv_ne e2 (by decide) X58
          have X53 := mv_ne e2 (by decide) X53
          have XO := mv_ne e2 (by decide) XO
          have X69 : h1[69]? = some (.inl (0, 4, .inl (fun j => nI (t_up (q_4f (q_tb (q_oks lw ln s wa cf ct rr ok) (q_fm b (wa k) m x w (q_z hs 400) b.1) k a1 (y - a1)) (q_z fo 4)) 3 ((q_4f (q_tb (q_oks lw ln s wa cf ct rr ok) (q_fm b (wa k) m x w (q_z hs 400) b.1) k a1 (y - a1)) (q_z fo 4) 3) + 1) j)))) := mv_eq e2 X69
          have fr := fr.set e2 (by decide)
          clear e2
          have eu : q_bt ((q_oks lw ln s wa cf ct rr ok) y) k = 0 := (by first | omega | exact Nat.lt_one_iff.mp (by have q := on0 (by omega) y (by omega); have q2 := q_bt_lt ((q_oks lw ln s wa cf ct rr ok) y) k; omega))
          have ev : (q_fm b (wa k) m x w (q_z hs 400) b.1) y = 0 := (by have q1 := nh y; have q2 := q_fm_i (b := b) (p := wa k) (m := m) (x := x) (w := w) (f := q_z hs 400) b.1 y (if_pos (by omega)); first | exact q2.mpr (by assumption) | (have q3 : ¬ (q_fm b (wa k) m x w (q_z hs 400) b.1) y = 1 := fun q4 => absurd (q2.mp q4) (by assumption); omega))
          have es := q_tb_s (ok := (q_oks lw ln s wa cf ct rr ok)) (hs := (q_fm b (wa k) m x w (q_z hs 400) b.1)) (k := k) (show a1 ≤ y by omega)
          rw [q_4f_u (u := q_bt ((q_oks lw ln s wa cf ct rr ok) y) k) (v := (q_fm b (wa k) m x w (q_z hs 400) b.1) y) _ _ (by rw [eu, ev]; decide), ← es] at X69
          refine mv_iinc (v := nI (y + 1)) dX12_table_188 rfl (mv_inc y 1) (by decide) ?_
          refine mv_goto (tgt := 105) dX12_table_191 (by decide) ?_
          refine mv_sub (lv' := [.ref 52, .int (nI k), .int (nI w), .int (nI m), .int (nI x), .int (nI i), .int (nI (q_on (q_oks lw ln s wa cf ct rr (fun _ => 0)) k 400)), .int (nI (y + 1)), .null, .null]) ⟨Or.inr rfl, Or.inr rfl, Or.inr rfl, Or.inr rfl, Or.inr rfl, Or.inr rfl, Or.inr rfl, Or.inr rfl, Or.inl rfl, Or.inl rfl, trivial⟩ ?_
          exact ih (y + 1) h1 (by omega) fr XO X69 HX X59 X60 X61 X62 X63 X64 X65 X66 X56 X57 X58 X53 (by omega) (by omega)
        · have c175 : q_sh b (wa k) m x (y + 1) (y + w) b.1 := Classical.byContradiction (fun z => c175 ((mv_q_0 _).mpr z))
          refine mv_iconst (v := nI 2) dX12_table_178 (by decide) ?_
          refine mv_goto (tgt := 183) dX12_table_179 (by decide) ?_
          refine mv_dup2 dX12_table_183 rfl rfl ?_
          refine mv_iaN (j := 2) (x := nI (q_4f (q_tb (q_oks lw ln s wa cf ct rr ok) (q_fm b (wa k) m x w (q_z hs 400) b.1) k a1 (y - a1)) (q_z fo 4) 2)) dX12_table_184 X69 rfl (by decide) (by omega) rfl ?_
          refine mv_iconst (v := nI 1) dX12_table_185 (by decide) ?_
          refine mv_iadd dX12_table_186 ?_
          refine mv_topI (y := nI ((q_4f (q_tb (q_oks lw ln s wa cf ct rr ok) (q_fm b (wa k) m x w (q_z hs 400) b.1) k a1 (y - a1)) (q_z fo 4) 2) + 1)) (nI_add _ _) ?_
          refine mv_iastN (j := 2) dX12_table_187 X69 rfl (by decide) (by omega) (fun h3 e4 => ?_)
          rw [upd_nI] at e4
          have HX := mv_ne e4 (by decide) HX
          have X59 := mv_ne e4 (by decide) X59
          have X60 := mv_ne e4 (by decide) X60
          have X61 := mv_ne e4 (by decide) X61
          have X62 := mv_ne e4 (by decide) X62
          have X63 := mv_ne e4 (by decide) X63
          have X64 := mv_ne e4 (by decide) X64
          have X65 := mv_ne e4 (by decide) X65
          have X66 := mv_ne e4 (by decide) X66
          have X56 := mv_ne e4 (by decide) X56
          have X57 := mv_ne e4 (by decide) X57
          have X58 := mv_ne e4 (by decide) X58
          have X53 := mv_ne e4 (by decide) X53
          have XO := mv_ne e4 (by decide) XO
          have X69 : h3[69]? = some (.inl (0, 4, .inl (fun j => nI (t_up (q_4f (q_tb (q_oks lw ln s wa cf ct rr ok) (q_fm b (wa k) m x w (q_z hs 400) b.1) k a1 (y - a1)) (q_z fo 4)) 2 ((q_4f (q_tb (q_oks lw ln s wa cf ct rr ok) (q_fm b (wa k) m x w (q_z hs 400) b.1) k a1 (y - a1)) (q_z fo 4) 2) + 1) j)))) := mv_eq e4 X69
          have fr := fr.set e4 (by decide)
          clear e4
          have eu : q_bt ((q_oks lw ln s wa cf ct rr ok) y) k = 0 := (by first | omega | exact Nat.lt_one_iff.mp (by have q := on0 (by omega) y (by omega); have q2 := q_bt_lt ((q_oks lw ln s wa cf ct rr ok) y) k; omega))
          have ev : (q_fm b (wa k) m x w (q_z hs 400) b.1) y = 1 := (by have q1 := nh y; have q2 := q_fm_i (b := b) (p := wa k) (m := m) (x := x) (w := w) (f := q_z hs 400) b.1 y (if_pos (by omega)); first | exact q2.mpr (by assumption) | (have q3 : ¬ (q_fm b (wa k) m x w (q_z hs 400) b.1) y = 1 := fun q4 => absurd (q2.mp q4) (by assumption); omega))
          have es := q_tb_s (ok := (q_oks lw ln s wa cf ct rr ok)) (hs := (q_fm b (wa k) m x w (q_z hs 400) b.1)) (k := k) (show a1 ≤ y by omega)
          rw [q_4f_u (u := q_bt ((q_oks lw ln s wa cf ct rr ok) y) k) (v := (q_fm b (wa k) m x w (q_z hs 400) b.1) y) _ _ (by rw [eu, ev]; decide), ← es] at X69
          refine mv_iinc (v := nI (y + 1)) dX12_table_188 rfl (mv_inc y 1) (by decide) ?_
          refine mv_goto (tgt := 105) dX12_table_191 (by decide) ?_
          refine mv_sub (lv' := [.ref 52, .int (nI k), .int (nI w), .int (nI m), .int (nI x), .int (nI i), .int (nI (q_on (q_oks lw ln s wa cf ct rr (fun _ => 0)) k 400)), .int (nI (y + 1)), .null, .null]) ⟨Or.inr rfl, Or.inr rfl, Or.inr rfl, Or.inr rfl, Or.inr rfl, Or.inr rfl, Or.inr rfl, Or.inr rfl, Or.inl rfl, Or.inl rfl, trivial⟩ ?_
          exact ih (y + 1) h3 (by omega) fr XO X69 HX X59 X60 X61 X62 X63 X64 X65 X66 X56 X57 X58 X53 (by omega) (by omega)
      · have c147 : ¬ (q_on (q_oks lw ln s wa cf ct rr (fun _ => 0)) k 400 ≤ 0) := fun z => c147 ((nI_leI (b := 0) (by omega) (by omega)).mpr z)
        refine mv_aload_n dX12_table_150 rfl ?_
        refine mv_getf (ci := 12) (f := 25) dX12_table_151 HX rfl (by decide) wd_1224 rfl ?_
        refine mv_iload dX12_table_154 rfl ?_
        refine mv_zaN (j := y) (x := nI (q_bt ((q_oks lw ln s wa cf ct rr ok) y) k)) dX12_table_156 XO rfl (by decide) (by omega) (congrArg nI (q_fd_b ho (by omega))) ?_
        refine mv_if_eq (tgt := 173) dX12_table_157 (by decide) (fun c157 => ?_) (fun c157 => ?_)
        · have c157 : q_bt ((q_oks lw ln s wa cf ct rr ok) y) k = 0 := (nI_eq (b := 0) (by omega) (by omega)).mp c157
          refine mv_iload dX12_table_173 rfl ?_
          refine mv_if_eq (tgt := 182) dX12_table_175 (by decide) (fun c175 => ?_) (fun c175 => ?_)
          · have c175 : ¬ (q_sh b (wa k) m x (y + 1) (y + w) b.1) := (mv_q_0 _).mp c175
            refine mv_iconst (v := nI 3) dX12_table_182 (by decide) ?_
            refine mv_dup2 dX12_table_183 rfl rfl ?_
            refine mv_iaN (j := 3) (x := nI (q_4f (q_tb (q_oks lw ln s wa cf ct rr ok) (q_fm b (wa k) m x w (q_z hs 400) b.1) k a1 (y - a1)) (q_z fo 4) 3)) dX12_table_184 X69 rfl (by decide) (by omega) rfl ?_
            refine mv_iconst (v := nI 1) dX12_table_185 (by decide) ?_
            refine mv_iadd dX12_table_186 ?_
            refine mv_topI (y := nI ((q_4f (q_tb (q_oks lw ln s wa cf ct rr ok) (q_fm b (wa k) m x w (q_z hs 400) b.1) k a1 (y - a1)) (q_z fo 4) 3) + 1)) (nI_add _ _) ?_
            refine mv_iastN (j := 3) dX12_table_187 X69 rfl (by decide) (by omega) (fun h5 e6 => ?_)
            rw [upd_nI] at e6
            have HX := mv_ne e6 (by decide) HX
            have X59 := mv_ne e6 (by decide) X59
            have X60 := mv_ne e6 (by decide) X60
            have X61 := mv_ne e6 (by decide) X61
            have X62 := mv_ne e6 (by decide) X62
            have X63 := mv_ne e6 (by decide) X63
            have X64 := mv_ne e6 (by decide) X64
            have X65 := mv_ne e6 (by decide) X65
            have X66 := mv_ne e6 (by decide) X66
            have X56 := mv_ne e6 (by decide) X56
            have X57 := mv_ne e6 (by decide) X57
            have X58 := mv_ne e6 (by decide) X58
            have X53 := mv_ne e6 (by decide) X53
            have XO := mv_ne e6 (by decide) XO
            have X69 : h5[69]? = some (.inl (0, 4, .inl (fun j => nI (t_up (q_4f (q_tb (q_oks lw ln s wa cf ct rr ok) (q_fm b (wa k) m x w (q_z hs 400) b.1) k a1 (y - a1)) (q_z fo 4)) 3 ((q_4f (q_tb (q_oks lw ln s wa cf ct rr ok) (q_fm b (wa k) m x w (q_z hs 400) b.1) k a1 (y - a1)) (q_z fo 4) 3) + 1) j)))) := mv_eq e6 X69
            have fr := fr.set e6 (by decide)
            clear e6
            have eu : q_bt ((q_oks lw ln s wa cf ct rr ok) y) k = 0 := (by first | omega | exact Nat.lt_one_iff.mp (by have q := on0 (by omega) y (by omega); have q2 := q_bt_lt ((q_oks lw ln s wa cf ct rr ok) y) k; omega))
            have ev : (q_fm b (wa k) m x w (q_z hs 400) b.1) y = 0 := (by have q1 := nh y; have q2 := q_fm_i (b := b) (p := wa k) (m := m) (x := x) (w := w) (f := q_z hs 400) b.1 y (if_pos (by omega)); first | exact q2.mpr (by assumption) | (have q3 : ¬ (q_fm b (wa k) m x w (q_z hs 400) b.1) y = 1 := fun q4 => absurd (q2.mp q4) (by assumption); omega))
            have es := q_tb_s (ok := (q_oks lw ln s wa cf ct rr ok)) (hs := (q_fm b (wa k) m x w (q_z hs 400) b.1)) (k := k) (show a1 ≤ y by omega)
            rw [q_4f_u (u := q_bt ((q_oks lw ln s wa cf ct rr ok) y) k) (v := (q_fm b (wa k) m x w (q_z hs 400) b.1) y) _ _ (by rw [eu, ev]; decide), ← es] at X69
            refine mv_iinc (v := nI (y + 1)) dX12_table_188 rfl (mv_inc y 1) (by decide) ?_
            refine mv_goto (tgt := 105) dX12_table_191 (by decide) ?_
            refine mv_sub (lv' := [.ref 52, .int (nI k), .int (nI w), .int (nI m), .int (nI x), .int (nI i), .int (nI (q_on (q_oks lw ln s wa cf ct rr (fun _ => 0)) k 400)), .int (nI (y + 1)), .null, .null]) ⟨Or.inr rfl, Or.inr rfl, Or.inr rfl, Or.inr rfl, Or.inr rfl, Or.inr rfl, Or.inr rfl, Or.inr rfl, Or.inl rfl, Or.inl rfl, trivial⟩ ?_
            exact ih (y + 1) h5 (by omega) fr XO X69 HX X59 X60 X61 X62 X63 X64 X65 X66 X56 X57 X58 X53 (by omega) (by omega)
          · have c175 : q_sh b (wa k) m x (y + 1) (y + w) b.1 := Classical.byContradiction (fun z => c175 ((mv_q_0 _).mpr z))
            refine mv_iconst (v := nI 2) dX12_table_178 (by decide) ?_
            refine mv_goto (tgt := 183) dX12_table_179 (by decide) ?_
            refine mv_dup2 dX12_table_183 rfl rfl ?_
            refine mv_iaN (j := 2) (x := nI (q_4f (q_tb (q_oks lw ln s wa cf ct rr ok) (q_fm b (wa k) m x w (q_z hs 400) b.1) k a1 (y - a1)) (q_z fo 4) 2)) dX12_table_184 X69 rfl (by decide) (by omega) rfl ?_
            refine mv_iconst (v := nI 1) dX12_table_185 (by decide) ?_
            refine mv_iadd dX12_table_186 ?_
            refine mv_topI (y := nI ((q_4f (q_tb (q_oks lw ln s wa cf ct rr ok) (q_fm b (wa k) m x w (q_z hs 400) b.1) k a1 (y - a1)) (q_z fo 4) 2) + 1)) (nI_add _ _) ?_
            refine mv_iastN (j := 2) dX12_table_187 X69 rfl (by decide) (by omega) (fun h7 e8 => ?_)
            rw [upd_nI] at e8
            have HX := mv_ne e8 (by decide) HX
            have X59 := mv_ne e8 (by decide) X59
            have X60 := mv_ne e8 (by decide) X60
            have X61 := mv_ne e8 (by decide) X61
            have X62 := mv_ne e8 (by decide) X62
            have X63 := mv_ne e8 (by decide) X63
            have X64 := mv_ne e8 (by decide) X64
            have X65 := mv_ne e8 (by decide) X65
            have X66 := mv_ne e8 (by decide) X66
            have X56 := mv_ne e8 (by decide) X56
            have X57 := mv_ne e8 (by decide) X57
            have X58 := mv_ne e8 (by decide) X58
            have X53 := mv_ne e8 (by decide) X53
            have XO := mv_ne e8 (by decide) XO
            have X69 : h7[69]? = some (.inl (0, 4, .inl (fun j => nI (t_up (q_4f (q_tb (q_oks lw ln s wa cf ct rr ok) (q_fm b (wa k) m x w (q_z hs 400) b.1) k a1 (y - a1)) (q_z fo 4)) 2 ((q_4f (q_tb (q_oks lw ln s wa cf ct rr ok) (q_fm b (wa k) m x w (q_z hs 400) b.1) k a1 (y - a1)) (q_z fo 4) 2) + 1) j)))) := mv_eq e8 X69
            have fr := fr.set e8 (by decide)
            clear e8
            have eu : q_bt ((q_oks lw ln s wa cf ct rr ok) y) k = 0 := (by first | omega | exact Nat.lt_one_iff.mp (by have q := on0 (by omega) y (by omega); have q2 := q_bt_lt ((q_oks lw ln s wa cf ct rr ok) y) k; omega))
            have ev : (q_fm b (wa k) m x w (q_z hs 400) b.1) y = 1 := (by have q1 := nh y; have q2 := q_fm_i (b := b) (p := wa k) (m := m) (x := x) (w := w) (f := q_z hs 400) b.1 y (if_pos (by omega)); first | exact q2.mpr (by assumption) | (have q3 : ¬ (q_fm b (wa k) m x w (q_z hs 400) b.1) y = 1 := fun q4 => absurd (q2.mp q4) (by assumption); omega))
            have es := q_tb_s (ok := (q_oks lw ln s wa cf ct rr ok)) (hs := (q_fm b (wa k) m x w (q_z hs 400) b.1)) (k := k) (show a1 ≤ y by omega)
            rw [q_4f_u (u := q_bt ((q_oks lw ln s wa cf ct rr ok) y) k) (v := (q_fm b (wa k) m x w (q_z hs 400) b.1) y) _ _ (by rw [eu, ev]; decide), ← es] at X69
            refine mv_iinc (v := nI (y + 1)) dX12_table_188 rfl (mv_inc y 1) (by decide) ?_
            refine mv_goto (tgt := 105) dX12_table_191 (by decide) ?_
            refine mv_sub (lv' := [.ref 52, .int (nI k), .int (nI w), .int (nI m), .int (nI x), .int (nI i), .int (nI (q_on (q_oks lw ln s wa cf ct rr (fun _ => 0)) k 400)), .int (nI (y + 1)), .null, .null]) ⟨Or.inr rfl, Or.inr rfl, Or.inr rfl, Or.inr rfl, Or.inr rfl, Or.inr rfl, Or.inr rfl, Or.inr rfl, Or.inl rfl, Or.inl rfl, trivial⟩ ?_
            exact ih (y + 1) h7 (by omega) fr XO X69 HX X59 X60 X61 X62 X63 X64 X65 X66 X56 X57 X58 X53 (by omega) (by omega)
        · have c157 : ¬ (q_bt ((q_oks lw ln s wa cf ct rr ok) y) k = 0) := fun z => c157 ((nI_eq (b := 0) (by omega) (by omega)).mpr z)
          refine mv_iload dX12_table_160 rfl ?_
          refine mv_if_eq (tgt := 169) dX12_table_162 (by decide) (fun c162 => ?_) (fun c162 => ?_)
          · have c162 : ¬ (q_sh b (wa k) m x (y + 1) (y + w) b.1) := (mv_q_0 _).mp c162
            refine mv_iconst (v := nI 1) dX12_table_169 (by decide) ?_
            refine mv_goto (tgt := 183) dX12_table_170 (by decide) ?_
            refine mv_dup2 dX12_table_183 rfl rfl ?_
            refine mv_iaN (j := 1) (x := nI (q_4f (q_tb (q_oks lw ln s wa cf ct rr ok) (q_fm b (wa k) m x w (q_z hs 400) b.1) k a1 (y - a1)) (q_z fo 4) 1)) dX12_table_184 X69 rfl (by decide) (by omega) rfl ?_
            refine mv_iconst (v := nI 1) dX12_table_185 (by decide) ?_
            refine mv_iadd dX12_table_186 ?_
            refine mv_topI (y := nI ((q_4f (q_tb (q_oks lw ln s wa cf ct rr ok) (q_fm b (wa k) m x w (q_z hs 400) b.1) k a1 (y - a1)) (q_z fo 4) 1) + 1)) (nI_add _ _) ?_
            refine mv_iastN (j := 1) dX12_table_187 X69 rfl (by decide) (by omega) (fun h9 e10 => ?_)
            rw [upd_nI] at e10
            have HX := mv_ne e10 (by decide) HX
            have X59 := mv_ne e10 (by decide) X59
            have X60 := mv_ne e10 (by decide) X60
            have X61 := mv_ne e10 (by decide) X61
            have X62 := mv_ne e10 (by decide) X62
            have X63 := mv_ne e10 (by decide) X63
            have X64 := mv_ne e10 (by decide) X64
            have X65 := mv_ne e10 (by decide) X65
            have X66 := mv_ne e10 (by decide) X66
            have X56 := mv_ne e10 (by decide) X56
            have X57 := mv_ne e10 (by decide) X57
            have X58 := mv_ne e10 (by decide) X58
            have X53 := mv_ne e10 (by decide) X53
            have XO := mv_ne e10 (by decide) XO
            have X69 : h9[69]? = some (.inl (0, 4, .inl (fun j => nI (t_up (q_4f (q_tb (q_oks lw ln s wa cf ct rr ok) (q_fm b (wa k) m x w (q_z hs 400) b.1) k a1 (y - a1)) (q_z fo 4)) 1 ((q_4f (q_tb (q_oks lw ln s wa cf ct rr ok) (q_fm b (wa k) m x w (q_z hs 400) b.1) k a1 (y - a1)) (q_z fo 4) 1) + 1) j)))) := mv_eq e10 X69
            have fr := fr.set e10 (by decide)
            clear e10
            have eu : q_bt ((q_oks lw ln s wa cf ct rr ok) y) k = 1 := (by first | omega | exact Nat.lt_one_iff.mp (by have q := on0 (by omega) y (by omega); have q2 := q_bt_lt ((q_oks lw ln s wa cf ct rr ok) y) k; omega))
            have ev : (q_fm b (wa k) m x w (q_z hs 400) b.1) y = 0 := (by have q1 := nh y; have q2 := q_fm_i (b := b) (p := wa k) (m := m) (x := x) (w := w) (f := q_z hs 400) b.1 y (if_pos (by omega)); first | exact q2.mpr (by assumption) | (have q3 : ¬ (q_fm b (wa k) m x w (q_z hs 400) b.1) y = 1 := fun q4 => absurd (q2.mp q4) (by assumption); omega))
            have es := q_tb_s (ok := (q_oks lw ln s wa cf ct rr ok)) (hs := (q_fm b (wa k) m x w (q_z hs 400) b.1)) (k := k) (show a1 ≤ y by omega)
            rw [q_4f_u (u := q_bt ((q_oks lw ln s wa cf ct rr ok) y) k) (v := (q_fm b (wa k) m x w (q_z hs 400) b.1) y) _ _ (by rw [eu, ev]; decide), ← es] at X69
            refine mv_iinc (v := nI (y + 1)) dX12_table_188 rfl (mv_inc y 1) (by decide) ?_
            refine mv_goto (tgt := 105) dX12_table_191 (by decide) ?_
            refine mv_sub (lv' := [.ref 52, .int (nI k), .int (nI w), .int (nI m), .int (nI x), .int (nI i), .int (nI (q_on (q_oks lw ln s wa cf ct rr (fun _ => 0)) k 400)), .int (nI (y + 1)), .null, .null]) ⟨Or.inr rfl, Or.inr rfl, Or.inr rfl, Or.inr rfl, Or.inr rfl, Or.inr rfl, Or.inr rfl, Or.inr rfl, Or.inl rfl, Or.inl rfl, trivial⟩ ?_
            exact ih (y + 1) h9 (by omega) fr XO X69 HX X59 X60 X61 X62 X63 X64 X65 X66 X56 X57 X58 X53 (by omega) (by omega)
          · have c162 : q_sh b (wa k) m x (y + 1) (y + w) b.1 := Classical.byContradiction (fun z => c162 ((mv_q_0 _).mpr z))
            refine mv_iconst (v := nI 0) dX12_table_165 (by decide) ?_
            refine mv_goto (tgt := 183) dX12_table_166 (by decide) ?_
            refine mv_dup2 dX12_table_183 rfl rfl ?_
            refine mv_iaN (j := 0) (x := nI (q_4f (q_tb (q_oks lw ln s wa cf ct rr ok) (q_fm b (wa k) m x w (q_z hs 400) b.1) k a1 (y - a1)) (q_z fo 4) 0)) dX12_table_184 X69 rfl (by decide) (by omega) rfl ?_
            refine mv_iconst (v := nI 1) dX12_table_185 (by decide) ?_
            refine mv_iadd dX12_table_186 ?_
            refine mv_topI (y := nI ((q_4f (q_tb (q_oks lw ln s wa cf ct rr ok) (q_fm b (wa k) m x w (q_z hs 400) b.1) k a1 (y - a1)) (q_z fo 4) 0) + 1)) (nI_add _ _) ?_
            refine mv_iastN (j := 0) dX12_table_187 X69 rfl (by decide) (by omega) (fun h11 e12 => ?_)
            rw [upd_nI] at e12
            have HX := mv_ne e12 (by decide) HX
            have X59 := mv_ne e12 (by decide) X59
            have X60 := mv_ne e12 (by decide) X60
            have X61 := mv_ne e12 (by decide) X61
            have X62 := mv_ne e12 (by decide) X62
            have X63 := mv_ne e12 (by decide) X63
            have X64 := mv_ne e12 (by decide) X64
            have X65 := mv_ne e12 (by decide) X65
            have X66 := mv_ne e12 (by decide) X66
            have X56 := mv_ne e12 (by decide) X56
            have X57 := mv_ne e12 (by decide) X57
            have X58 := mv_ne e12 (by decide) X58
            have X53 := mv_ne e12 (by decide) X53
            have XO := mv_ne e12 (by decide) XO
            have X69 : h11[69]? = some (.inl (0, 4, .inl (fun j => nI (t_up (q_4f (q_tb (q_oks lw ln s wa cf ct rr ok) (q_fm b (wa k) m x w (q_z hs 400) b.1) k a1 (y - a1)) (q_z fo 4)) 0 ((q_4f (q_tb (q_oks lw ln s wa cf ct rr ok) (q_fm b (wa k) m x w (q_z hs 400) b.1) k a1 (y - a1)) (q_z fo 4) 0) + 1) j)))) := mv_eq e12 X69
            have fr := fr.set e12 (by decide)
            clear e12
            have eu : q_bt ((q_oks lw ln s wa cf ct rr ok) y) k = 1 := (by first | omega | exact Nat.lt_one_iff.mp (by have q := on0 (by omega) y (by omega); have q2 := q_bt_lt ((q_oks lw ln s wa cf ct rr ok) y) k; omega))
            have ev : (q_fm b (wa k) m x w (q_z hs 400) b.1) y = 1 := (by have q1 := nh y; have q2 := q_fm_i (b := b) (p := wa k) (m := m) (x := x) (w := w) (f := q_z hs 400) b.1 y (if_pos (by omega)); first | exact q2.mpr (by assumption) | (have q3 : ¬ (q_fm b (wa k) m x w (q_z hs 400) b.1) y = 1 := fun q4 => absurd (q2.mp q4) (by assumption); omega))
            have es := q_tb_s (ok := (q_oks lw ln s wa cf ct rr ok)) (hs := (q_fm b (wa k) m x w (q_z hs 400) b.1)) (k := k) (show a1 ≤ y by omega)
            rw [q_4f_u (u := q_bt ((q_oks lw ln s wa cf ct rr ok) y) k) (v := (q_fm b (wa k) m x w (q_z hs 400) b.1) y) _ _ (by rw [eu, ev]; decide), ← es] at X69
            refine mv_iinc (v := nI (y + 1)) dX12_table_188 rfl (mv_inc y 1) (by decide) ?_
            refine mv_goto (tgt := 105) dX12_table_191 (by decide) ?_
            refine mv_sub (lv' := [.ref 52, .int (nI k), .int (nI w), .int (nI m), .int (nI x), .int (nI i), .int (nI (q_on (q_oks lw ln s wa cf ct rr (fun _ => 0)) k 400)), .int (nI (y + 1)), .null, .null]) ⟨Or.inr rfl, Or.inr rfl, Or.inr rfl, Or.inr rfl, Or.inr rfl, Or.inr rfl, Or.inr rfl, Or.inr rfl, Or.inl rfl, Or.inl rfl, trivial⟩ ?_
            exact ih (y + 1) h11 (by omega) fr XO X69 HX X59 X60 X61 X62 X63 X64 X65 X66 X56 X57 X58 X53 (by omega) (by omega)
set_option maxRecDepth 100000 in
theorem l_X12_tableA {ev : mv_E} {h : mv_H} {xt : Int32} {xf : Int32} {xa : Int32} {xo : Int64} {xe : Int32} {xu : Int32} {xs : Int32} {xc : Int32} {xw : Int32} {b : t_B} {t : Nat} {s : q_S} {wa : Nat → Nat} {cf : Nat → Int32} {ct : Nat → Int32} {rr : Nat → Nat} {lw : Nat → Int32} {ln : Nat → Nat} {oa : Nat → Nat} {fo : Nat → Nat} {ok : Nat → Nat} {hs : Nat → Nat} {k : Nat} {w : Nat} {m : Nat} {x : Nat} {i : Nat} {a1 : Nat} {c1 : Nat} {dd : Nat}  (hw : q_LW lw ln) (hsi : q_SI s) (hr : ∀ d, rr d ≤ 1) (hwi : q_WI wa cf ct) (hk : k < 8) (hw1 : 1 ≤ w) (hw6 : w ≤ 60) (hm0 : m < 8) (hz1 : 1 ≤ x) (hz9 : x ≤ 9) (ho : ∀ d, oa d ≤ 1) (hh : ∀ i, hs i ≤ 1) (hb : q_BI dd b) (hcw : w < q_cd cf ct k) (e1 : cf k = nI a1) (f1 : ct k = nI c1) (hc1 : c1 ≤ 399) (hac : a1 + w ≤ c1) (hi : i ≤ 3) : ∀ (fu : Nat) (v : Nat), ∀ (g : mv_H), 4 < v + fu → mv_fra [67, 69] h g → g[67]? = some (.inl (2, 400, .inl (fun j => nI (q_fd (q_ev lw ln s wa cf ct rr) s k (q_z oa 400) s.1 j)))) → g[69]? = some (.inl (0, 4, .inl (fun j => nI (q_z fo v j)))) → g[52]? = some (.inr (12, [.ref 53, .ref 54, .int xt, .int xf, .int xa, .long xo, .int xe, .int xu, .ref 55, .int xs, .int (nI b.1), .ref 56, .ref 57, .ref 58, .int (nI t), .int (nI b.2.1), .ref 59, .ref 60, .ref 61, .ref 62, .int (nI s.1), .ref 63, .ref 64, .ref 65, .ref 66, .ref 67, .ref 68, .ref 69, .int xc, .ref 70, .ref 71, .ref 72, .ref 73, .ref 74, .ref 75, .int xw, .ref 76, .ref 77, .ref 78, .ref 79, .ref 80])) → g[59]? = some (.inl (0, 8, .inl (fun j => nI (wa j)))) → g[60]? = some (.inl (0, 8, .inl cf)) → g[61]? = some (.inl (0, 8, .inl ct)) → g[62]? = some (.inl (2, 400, .inl (fun j => nI (rr j)))) → g[63]? = some (.inl (0, 100, .inl (fun j => nI (s.2.1 j)))) → g[64]? = some (.inl (0, 100, .inl (fun j => nI (s.2.2.1 j)))) → g[65]? = some (.inl (0, 100, .inl (fun j => nI (s.2.2.2.1 j)))) → g[66]? = some (.inl (0, 100, .inl (fun j => nI (s.2.2.2.2 j)))) → g[56]? = some (.inl (0, 60, .inl (fun j => nI (b.2.2.1 j)))) → g[57]? = some (.inl (0, 60, .inl (fun j => nI (b.2.2.2.1 j)))) → g[58]? = some (.inl (0, 60, .inl (fun j => nI (b.2.2.2.2 j)))) → g[53]? = some (.inl (0, 8, .inl lw)) → (v ≤ 4) → mv_g ev mX12_table 77 [.ref 52, .int (nI k), .int (nI w), .int (nI m), .int (nI x), .int (nI i), .int (nI (q_on (q_oks lw ln s wa cf ct rr (fun _ => 0)) k 400)), .int (nI v), .null, .null] [] g (fun r g => r = some (.int (nI (q_nb (q_tb (q_oks lw ln s wa cf ct rr ok) (q_fm b (wa k) m x w (q_z hs 400) b.1) k a1 (c1 - w + 1 - a1)) i))) ∧ mv_fra [67, 69] h g ∧ g[67]? = some (.inl (2, 400, .inl (fun j => nI (q_fd (q_ev lw ln s wa cf ct rr) s k (q_z oa 400) s.1 j)))) ∧ g[69]? = some (.inl (0, 4, .inl (fun j => nI (q_4f (q_tb (q_oks lw ln s wa cf ct rr ok) (q_fm b (wa k) m x w (q_z hs 400) b.1) k a1 (c1 - w + 1 - a1)) (q_z fo 4) j))))) := by
  intro fu
  induction fu with
  | zero => intro v g hm fr XO X69 HX X59 X60 X61 X62 X63 X64 X65 X66 X56 X57 X58 X53 hv; exact absurd hm (by omega)
  | succ fu ih =>
    intro v g hm fr XO X69 HX X59 X60 X61 X62 X63 X64 X65 X66 X56 X57 X58 X53 hv
    have n1 := q_cd_le hwi k
    have n5 := hwi.1 k
    have nh : ∀ i, (q_fm b (wa k) m x w (q_z hs 400) b.1) i ≤ 1 := q_fm_le (q_z_l1 hh 400) b.1
    have n2 := q_tb_le (ok := (q_oks lw ln s wa cf ct rr ok)) (hs := (q_fm b (wa k) m x w (q_z hs 400) b.1)) (k := k) (a := a1) nh (c1 - w + 1 - a1)
    have n6 := q_on_le (q_oks lw ln s wa cf ct rr (fun _ => 0)) k 400
    have on0 : q_on (q_oks lw ln s wa cf ct rr (fun _ => 0)) k 400 = 0 → ∀ d, d < 400 → ¬ q_bt ((q_oks lw ln s wa cf ct rr ok) d) k = 1 := fun q => q_on_0 400 ((q_on_o k).trans q)
    refine mv_iload dX12_table_77 rfl ?_
    refine mv_iconst (v := nI 4) dX12_table_79 (by decide) ?_
    refine mv_icmp_ge (tgt := 97) dX12_table_80 (by decide) (fun c80 => ?_) (fun c80 => ?_)
    · have c80 : 4 ≤ v := (nI_leI (by omega) (by omega)).mp c80
      have ev : v = 4 := (by omega)
      subst ev
      have ez : (q_tb (q_oks lw ln s wa cf ct rr ok) (q_fm b (wa k) m x w (q_z hs 400) b.1) k a1 (a1 - a1)) = (0, 0, 0, 0) := (by rw [Nat.sub_self]; rfl)
      have X69 : g[69]? = some (.inl (0, 4, .inl (fun j => nI (q_4f (q_tb (q_oks lw ln s wa cf ct rr ok) (q_fm b (wa k) m x w (q_z hs 400) b.1) k a1 (a1 - a1)) (q_z fo 4) j)))) := (by rw [ez, q_4f_0]; exact X69)
      refine mv_aload_n dX12_table_97 rfl ?_
      refine mv_getf (ci := 12) (f := 17) dX12_table_98 HX rfl (by decide) wd_1216 rfl ?_
      refine mv_iload_n dX12_table_101 rfl ?_
      refine mv_iaN (j := k) (x := nI a1) dX12_table_102 X60 rfl (by decide) (by omega) e1 ?_
      refine mv_istore dX12_table_103 (by decide) ?_
      exact l_X12_tableB hw hsi hr hwi hk hw1 hw6 hm0 hz1 hz9 ho hh hb hcw e1 f1 hc1 hac hi (c1 + 2) a1 g (by omega) fr XO X69 HX X59 X60 X61 X62 X63 X64 X65 X66 X56 X57 X58 X53 (Nat.le_refl _) (by omega)
    · have c80 : ¬ (4 ≤ v) := fun z => c80 ((nI_leI (by omega) (by omega)).mpr z)
      refine mv_aload_n dX12_table_83 rfl ?_
      refine mv_getf (ci := 12) (f := 27) dX12_table_84 HX rfl (by decide) wd_1226 rfl ?_
      refine mv_iload dX12_table_87 rfl ?_
      refine mv_iconst (v := nI 0) dX12_table_89 (by decide) ?_
      refine mv_iastN (j := v) dX12_table_90 X69 rfl (by decide) (by omega) (fun h1 e2 => ?_)
      rw [upd_nI] at e2
      have HX := mv_ne e2 (by decide) HX
      have X59 := mv_ne e2 (by decide) X59
      have X60 := mv_ne e2 (by decide) X60
      have X61 := mv_ne e2 (by decide) X61
      have X62 := mv_ne e2 (by decide) X62
      have X63 := mv_ne e2 (by decide) X63
      have X64 := mv_ne e2 (by decide) X64
      have X65 := mv_ne e2 (by decide) X65
      have X66 := mv_ne e2 (by decide) X66
      have X56 := mv_ne e2 (by decide) X56
      have X57 := mv_ne e2 (by decide) X57
      have X58 := mv_ne e2 (by decide) X58
      have X53 := mv_ne e2 (by decide) X53
      have XO := mv_ne e2 (by decide) XO
      have X69 : h1[69]? = some (.inl (0, 4, .inl (fun j => nI (t_up (q_z fo v) v 0 j)))) := mv_eq e2 X69
      have fr := fr.set e2 (by decide)
      clear e2
      rw [q_z_s] at X69
      refine mv_iinc (v := nI (v + 1)) dX12_table_91 rfl (mv_inc v 1) (by decide) ?_
      refine mv_goto (tgt := 77) dX12_table_94 (by decide) ?_
      exact ih (v + 1) h1 (by omega) fr XO X69 HX X59 X60 X61 X62 X63 X64 X65 X66 X56 X57 X58 X53 (by omega)
set_option maxRecDepth 100000 in
theorem k_X12_table_G {ev : mv_E} {h : mv_H} {xt : Int32} {xf : Int32} {xa : Int32} {xo : Int64} {xe : Int32} {xu : Int32} {xs : Int32} {xc : Int32} {xw : Int32} {b : t_B} {t : Nat} {s : q_S} {wa : Nat → Nat} {cf : Nat → Int32} {ct : Nat → Int32} {rr : Nat → Nat} {lw : Nat → Int32} {ln : Nat → Nat} {oa : Nat → Nat} {fo : Nat → Nat} {ok : Nat → Nat} {hs : Nat → Nat} {k : Nat} {w : Nat} {m : Nat} {x : Nat} {i : Nat} {a1 : Nat} {c1 : Nat} {dd : Nat} (HX : h[52]? = some (.inr (12, [.ref 53, .ref 54, .int xt, .int xf, .int xa, .long xo, .int xe, .int xu, .ref 55, .int xs, .int (nI b.1), .ref 56, .ref 57, .ref 58, .int (nI t), .int (nI b.2.1), .ref 59, .ref 60, .ref 61, .ref 62, .int (nI s.1), .ref 63, .ref 64, .ref 65, .ref 66, .ref 67, .ref 68, .ref 69, .int xc, .ref 70, .ref 71, .ref 72, .ref 73, .ref 74, .ref 75, .int xw, .ref 76, .ref 77, .ref 78, .ref 79, .ref 80]))) (X59 : h[59]? = some (.inl (0, 8, .inl (fun j => nI (wa j))))) (X60 : h[60]? = some (.inl (0, 8, .inl cf))) (X61 : h[61]? = some (.inl (0, 8, .inl ct))) (X62 : h[62]? = some (.inl (2, 400, .inl (fun j => nI (rr j))))) (X63 : h[63]? = some (.inl (0, 100, .inl (fun j => nI (s.2.1 j))))) (X64 : h[64]? = some (.inl (0, 100, .inl (fun j => nI (s.2.2.1 j))))) (X65 : h[65]? = some (.inl (0, 100, .inl (fun j => nI (s.2.2.2.1 j))))) (X66 : h[66]? = some (.inl (0, 100, .inl (fun j => nI (s.2.2.2.2 j))))) (X56 : h[56]? = some (.inl (0, 60, .inl (fun j => nI (b.2.2.1 j))))) (X57 : h[57]? = some (.inl (0, 60, .inl (fun j => nI (b.2.2.2.1 j))))) (X58 : h[58]? = some (.inl (0, 60, .inl (fun j => nI (b.2.2.2.2 j))))) (X53 : h[53]? = some (.inl (0, 8, .inl lw))) (XO : h[67]? = some (.inl (2, 400, .inl (fun j => nI (oa j))))) (X69 : h[69]? = some (.inl (0, 4, .inl (fun j => nI (fo j))))) (hw : q_LW lw ln) (hsi : q_SI s) (hr : ∀ d, rr d ≤ 1) (hwi : q_WI wa cf ct) (hk : k < 8) (hw1 : 1 ≤ w) (hw6 : w ≤ 60) (hm0 : m < 8) (hz1 : 1 ≤ x) (hz9 : x ≤ 9) (ho : ∀ d, oa d ≤ 1) (hh : ∀ i, hs i ≤ 1) (hb : q_BI dd b) (hcw : w < q_cd cf ct k) (e1 : cf k = nI a1) (f1 : ct k = nI c1) (hc1 : c1 ≤ 399) (hac : a1 + w ≤ c1) (hi : i ≤ 3) : ∃ h2, mv_K ev mX12_table [.ref 52, .int (nI k), .int (nI w), .int (nI m), .int (nI x), .int (nI i)] h (some (.int (nI (q_nb (q_tb (q_oks lw ln s wa cf ct rr ok) (q_fm b (wa k) m x w (q_z hs 400) b.1) k a1 (c1 - w + 1 - a1)) i)))) h2 ∧ mv_fra [67, 69] h h2 ∧ h2[67]? = some (.inl (2, 400, .inl (fun j => nI (q_fd (q_ev lw ln s wa cf ct rr) s k (q_z oa 400) s.1 j)))) ∧ h2[69]? = some (.inl (0, 4, .inl (fun j => nI (q_4f (q_tb (q_oks lw ln s wa cf ct rr ok) (q_fm b (wa k) m x w (q_z hs 400) b.1) k a1 (c1 - w + 1 - a1)) (q_z fo 4) j)))) := by
  suffices g0 : mv_g ev mX12_table 0 (mv_ent [.ref 52, .int (nI k), .int (nI w), .int (nI m), .int (nI x), .int (nI i)] (mv_ml mX12_table)) [] h (fun r g => r = some (.int (nI (q_nb (q_tb (q_oks lw ln s wa cf ct rr ok) (q_fm b (wa k) m x w (q_z hs 400) b.1) k a1 (c1 - w + 1 - a1)) i))) ∧ mv_fra [67, 69] h g ∧ g[67]? = some (.inl (2, 400, .inl (fun j => nI (q_fd (q_ev lw ln s wa cf ct rr) s k (q_z oa 400) s.1 j)))) ∧ g[69]? = some (.inl (0, 4, .inl (fun j => nI (q_4f (q_tb (q_oks lw ln s wa cf ct rr ok) (q_fm b (wa k) m x w (q_z hs 400) b.1) k a1 (c1 - w + 1 - a1)) (q_z fo 4) j))))) from (by obtain ⟨r0, h0, K0, q0, Q0⟩ := mv_Kex g0; subst q0; exact ⟨h0, K0, Q0⟩)
  show mv_g ev mX12_table 0 [.ref 52, .int (nI k), .int (nI w), .int (nI m), .int (nI x), .int (nI i), .null, .null, .null, .null] [] h _
  have fr : mv_fra [67, 69] h h := mv_fra.rf
  have n1 := q_cd_le hwi k
  have n5 := hwi.1 k
  have nh : ∀ i, (q_fm b (wa k) m x w (q_z hs 400) b.1) i ≤ 1 := q_fm_le (q_z_l1 hh 400) b.1
  have n2 := q_tb_le (ok := (q_oks lw ln s wa cf ct rr ok)) (hs := (q_fm b (wa k) m x w (q_z hs 400) b.1)) (k := k) (a := a1) nh (c1 - w + 1 - a1)
  have n6 := q_on_le (q_oks lw ln s wa cf ct rr (fun _ => 0)) k 400
  have on0 : q_on (q_oks lw ln s wa cf ct rr (fun _ => 0)) k 400 = 0 → ∀ d, d < 400 → ¬ q_bt ((q_oks lw ln s wa cf ct rr ok) d) k = 1 := fun q => q_on_0 400 ((q_on_o k).trans q)
  refine mv_iload_n dX12_table_0 rfl ?_
  refine mv_cS1 dX12_table_1 lk_X12_table_282 (Nat.le_of_ble_eq_true rfl) (Nat.le_of_ble_eq_true rfl) (k_X12_isKind (ev := ev)) ?_
  refine mv_if_ne (tgt := 11) dX12_table_4 (by decide) (fun c4 => ?_) (fun z => absurd z ((fun z => (mv_b_0 _).mp z (mv_in_i (by omega) (by omega) (by omega)))))
  refine mv_iload_n dX12_table_11 rfl ?_
  refine mv_cS1 dX12_table_12 lk_X12_table_309 (Nat.le_of_ble_eq_true rfl) (Nat.le_of_ble_eq_true rfl) (k_X12_isWide (ev := ev)) ?_
  refine mv_if_eq (tgt := 46) dX12_table_15 (by decide) (fun z => absurd z ((fun z => (mv_b_0 _).mp z (mv_in_i (by omega) (by omega) (by omega))))) (fun c15 => ?_)
  refine mv_iload_n dX12_table_18 rfl ?_
  refine mv_cS1 dX12_table_19 lk_X12_table_125 (Nat.le_of_ble_eq_true rfl) (Nat.le_of_ble_eq_true rfl) (k_X12_isNear (ev := ev)) ?_
  refine mv_if_eq (tgt := 46) dX12_table_22 (by decide) (fun z => absurd z ((fun z => (mv_b_0 _).mp z (mv_in_i (by omega) (by omega) (by omega))))) (fun c22 => ?_)
  refine mv_iload dX12_table_25 rfl ?_
  refine mv_cS1 dX12_table_27 lk_X12_table_204 (Nat.le_of_ble_eq_true rfl) (Nat.le_of_ble_eq_true rfl) (k_X12_isSize (ev := ev)) ?_
  refine mv_if_eq (tgt := 46) dX12_table_30 (by decide) (fun z => absurd z ((fun z => (mv_b_0 _).mp z (mv_in_i (by omega) (by omega) (by omega))))) (fun c30 => ?_)
  refine mv_iload dX12_table_33 rfl ?_
  refine mv_i2l dX12_table_35 ?_
  refine mv_topL (y := lN i) (nI_l (by omega)) ?_
  refine mv_lconst (v := lN 0) dX12_table_36 rfl ?_
  refine mv_ldc2 (v := lN 4) dX12_table_37 wd_1559 ?_
  refine mv_cS3 dX12_table_40 lk_X12_table_107 (Nat.le_of_ble_eq_true rfl) (Nat.le_of_ble_eq_true rfl) (k_X12_in (ev := ev)) ?_
  refine mv_if_ne (tgt := 50) dX12_table_43 (by decide) (fun c43 => ?_) (fun z => absurd z ((fun z => (mv_b_0 _).mp z ((and_congr (lN_leB (by omega) (by omega)) (lN_leB (by omega) (by omega))).mpr ⟨by omega, by omega⟩))))
  refine mv_aload_n dX12_table_50 rfl ?_
  refine mv_iload_n dX12_table_51 rfl ?_
  refine mv_cV1 (ci := 12) dX12_table_52 lk_X12_table_285 HX rfl (Nat.le_of_ble_eq_true rfl) (Nat.le_of_ble_eq_true rfl) (k_X12_counted (ev := ev) HX X60 X61 hk hwi) ?_
  refine mv_iload_n dX12_table_55 rfl ?_
  refine mv_icmp_gt (tgt := 63) dX12_table_56 (by decide) (fun c56 => ?_) (fun z => absurd (((nI_ltI (by omega) (by omega)).mpr hcw)) z)
  refine mv_aload_n dX12_table_63 rfl ?_
  refine mv_iload_n dX12_table_64 rfl ?_
  refine mv_aload_n dX12_table_65 rfl ?_
  refine mv_getf (ci := 12) (f := 25) dX12_table_66 HX rfl (by decide) wd_1224 rfl ?_
  obtain ⟨h1, K2, f3, y4⟩ := (k_X12_findOdd67 (ev := ev) (xt := xt) (xf := xf) (xa := xa) (xo := xo) (xe := xe) (xu := xu) (xs := xs) (xc := xc) (xw := xw) (b := b) (t := t) (s := s) (wa := wa) (cf := cf) (ct := ct) (rr := rr) (lw := lw) (ln := ln) (k := k) (oa := oa) HX X59 X60 X61 X62 X63 X64 X65 X66 X53 XO hw hsi hr hwi ho hk)
  refine mv_cV2 (ci := 12) dX12_table_69 lk_X12_table_298 HX rfl (Nat.le_of_ble_eq_true rfl) (Nat.le_of_ble_eq_true rfl) K2 ?_
  have HX := f3.get (by decide) HX
  have X59 := f3.get (by decide) X59
  have X60 := f3.get (by decide) X60
  have X61 := f3.get (by decide) X61
  have X62 := f3.get (by decide) X62
  have X63 := f3.get (by decide) X63
  have X64 := f3.get (by decide) X64
  have X65 := f3.get (by decide) X65
  have X66 := f3.get (by decide) X66
  have X56 := f3.get (by decide) X56
  have X57 := f3.get (by decide) X57
  have X58 := f3.get (by decide) X58
  have X53 := f3.get (by decide) X53
  have XO : h1[67]? = some (.inl (2, 400, .inl (fun j => nI (q_fd (q_ev lw ln s wa cf ct rr) s k (q_z oa 400) s.1 j)))) := y4
  have X69 := f3.get (by decide) X69
  have fr := fr.trans f3 (by decide)
  refine mv_istore dX12_table_72 (by decide) ?_
  rw [← q_z_0 fo] at X69
  refine mv_iconst (v := nI 0) dX12_table_74 (by decide) ?_
  refine mv_istore dX12_table_75 (by decide) ?_
  exact l_X12_tableA hw hsi hr hwi hk hw1 hw6 hm0 hz1 hz9 ho hh hb hcw e1 f1 hc1 hac hi (4 + 1) 0 h1 (by omega) fr XO X69 HX X59 X60 X61 X62 X63 X64 X65 X66 X56 X57 X58 X53 (Nat.zero_le _)
