theorem q_cf_p {x : Int32} (h : 0 ≤ x) : x ≠ -1 := by
  intro e
  rw [e] at h
  exact absurd h (by decide)
theorem q_cf_n {wa : Nat → Nat} {cf ct : Nat → Int32} (hw : q_WI wa cf ct) {k : Nat} (h : ¬ 0 ≤ cf k) : cf k = -1 := by
  rcases hw.2 k with e | ⟨a, c, h1, h2, h3, h4⟩
  · exact e
  · rw [h3] at h
    exact absurd (nI_pos' (by omega)) h
theorem q_cf_l {wa : Nat → Nat} {cf ct : Nat → Int32} (hw : q_WI wa cf ct) {k : Nat} (h : cf k < 0) : cf k = -1 := q_cf_n hw (Int32.not_le.mpr h)
theorem q_sub0 {d y : Nat} (hd : d ≤ 399) (hy : y < 1000) : nI d - nI y < 0 ↔ d < y := by
  have h1 := pk_sub_toInt (a := d) (b := y) (by omega) (by omega)
  rw [Int32.lt_iff_toInt_lt, h1, show (0 : Int32).toInt = 0 by decide]
  omega
def q_st (rr : Nat → Nat) (d y rn : Nat) : Prop := (rn = 1 ∧ ∃ x, x < y ∧ x ≤ d ∧ rr (d - x) = 1) ∨ (rn = 0 ∧ ∀ x, x < y → ¬ (x ≤ d ∧ rr (d - x) = 1))
theorem q_st_1 {rr : Nat → Nat} {d y rn : Nat} (h : q_st rr d y rn) (c : ¬ rn = 0) : q_st rr d (y + 1) 1 := by
  rcases h with ⟨_, x, h1, h2, h3⟩ | h
  · exact Or.inl ⟨rfl, x, by omega, h2, h3⟩
  · exact absurd h.1 c
theorem q_st_2 {rr : Nat → Nat} {d y : Nat} (c : y ≤ d) (h : rr (d - y) = 1) : q_st rr d (y + 1) 1 := Or.inl ⟨rfl, y, by omega, c, h⟩
theorem q_st_3 {rr : Nat → Nat} {d y rn : Nat} (h : q_st rr d y rn) (c : rn = 0) (h2 : ¬ rr (d - y) = 1) : q_st rr d (y + 1) 0 := by
  rcases h with h | h
  · exact absurd h.1 (by omega)
  · refine Or.inr ⟨rfl, fun x hx z => ?_⟩
    by_cases e : x = y
    · rw [e] at z; exact h2 z.2
    · exact h.2 x (by omega) z
theorem q_st_y {rr : Nat → Nat} {d y rn n : Nat} (h : q_st rr d y rn) (hy : y ≤ n) (c : ¬ rn = 0) : q_rd rr d n := by
  rcases h with ⟨_, x, h1, h2, h3⟩ | h
  · exact ⟨x, by omega, h2, h3⟩
  · exact absurd h.1 c
theorem q_st_n {rr : Nat → Nat} {d y rn n : Nat} (h : q_st rr d y rn) (hy : n ≤ y ∨ d < y) (c : rn = 0) : ¬ q_rd rr d n := by
  rcases h with h | h
  · exact absurd h.1 (by omega)
  · intro ⟨x, h1, h2, h3⟩
    exact h.2 x (by omega) ⟨h2, h3⟩
set_option maxRecDepth 100000 in
theorem k_X12_counted {ev : mv_E} {h : mv_H} {xt : Int32} {xf : Int32} {xa : Int32} {xo : Int64} {xe : Int32} {xu : Int32} {xs : Int32} {xc : Int32} {xw : Int32} {b : t_B} {t : Nat} {s : q_S} {wa : Nat → Nat} {cf : Nat → Int32} {ct : Nat → Int32} {k : Nat} (HX : h[52]? = some (.inr (12, [.ref 53, .ref 54, .int xt, .int xf, .int xa, .long xo, .int xe, .int xu, .ref 55, .int xs, .int (nI b.1), .ref 56, .ref 57, .ref 58, .int (nI t), .int (nI b.2.1), .ref 59, .ref 60, .ref 61, .ref 62, .int (nI s.1), .ref 63, .ref 64, .ref 65, .ref 66, .ref 67, .ref 68, .ref 69, .int xc, .ref 70, .ref 71, .ref 72, .ref 73, .ref 74, .ref 75, .int xw, .ref 76, .ref 77, .ref 78, .ref 79, .ref 80]))) (X60 : h[60]? = some (.inl (0, 8, .inl cf))) (X61 : h[61]? = some (.inl (0, 8, .inl ct))) (hk : k < 8) (hwi : q_WI wa cf ct) : mv_K ev mX12_counted [.ref 52, .int (nI k)] h (some (.int (nI (q_cd cf ct k)))) h := by
  refine mv_Kof ?_
  show mv_g ev mX12_counted 0 [.ref 52, .int (nI k)] [] h _
  refine mv_aload_n dX12_counted_0 rfl ?_
  refine mv_getf (ci := 12) (f := 17) dX12_counted_1 HX rfl (by decide) wd_1216 rfl ?_
  refine mv_iload_n dX12_counted_4 rfl ?_
  refine mv_iaN (j := k) (x := cf k) dX12_counted_5 X60 rfl (by decide) (by omega) rfl ?_
  refine mv_if_ge (tgt := 13) dX12_counted_6 (by decide) (fun c6 => ?_) (fun c6 => ?_)
  · have c6 := q_cf_p c6
    refine mv_aload_n dX12_counted_13 rfl ?_
    refine mv_getf (ci := 12) (f := 18) dX12_counted_14 HX rfl (by decide) wd_1217 rfl ?_
    refine mv_iload_n dX12_counted_17 rfl ?_
    refine mv_iaN (j := k) (x := ct k) dX12_counted_18 X61 rfl (by decide) (by omega) rfl ?_
    refine mv_aload_n dX12_counted_19 rfl ?_
    refine mv_getf (ci := 12) (f := 17) dX12_counted_20 HX rfl (by decide) wd_1216 rfl ?_
    refine mv_iload_n dX12_counted_23 rfl ?_
    refine mv_iaN (j := k) (x := cf k) dX12_counted_24 X60 rfl (by decide) (by omega) rfl ?_
    refine mv_isub dX12_counted_25 ?_
    refine mv_iconst (v := nI 1) dX12_counted_26 (by decide) ?_
    refine mv_iadd dX12_counted_27 ?_
    refine mv_topI (y := nI (q_cd cf ct k)) (q_cd_c hwi c6) ?_
    exact mv_iret dX12_counted_28 rfl rfl ⟨(congrArg (fun z => some (Value.int z)) (by first | rfl | exact congrArg nI (q_cd_0 c6).symm)), rfl⟩
  · have c6 := q_cf_n hwi c6
    refine mv_iconst (v := nI 0) dX12_counted_9 (by decide) ?_
    refine mv_goto (tgt := 28) dX12_counted_10 (by decide) ?_
    exact mv_iret dX12_counted_28 rfl rfl ⟨(congrArg (fun z => some (Value.int z)) (by first | rfl | exact congrArg nI (q_cd_0 c6).symm)), rfl⟩
set_option maxRecDepth 100000 in
theorem k_X12_isCounted {ev : mv_E} {h : mv_H} {xt : Int32} {xf : Int32} {xa : Int32} {xo : Int64} {xe : Int32} {xu : Int32} {xs : Int32} {xc : Int32} {xw : Int32} {b : t_B} {t : Nat} {s : q_S} {wa : Nat → Nat} {cf : Nat → Int32} {ct : Nat → Int32} {k : Nat} {d : Nat} (HX : h[52]? = some (.inr (12, [.ref 53, .ref 54, .int xt, .int xf, .int xa, .long xo, .int xe, .int xu, .ref 55, .int xs, .int (nI b.1), .ref 56, .ref 57, .ref 58, .int (nI t), .int (nI b.2.1), .ref 59, .ref 60, .ref 61, .ref 62, .int (nI s.1), .ref 63, .ref 64, .ref 65, .ref 66, .ref 67, .ref 68, .ref 69, .int xc, .ref 70, .ref 71, .ref 72, .ref 73, .ref 74, .ref 75, .int xw, .ref 76, .ref 77, .ref 78, .ref 79, .ref 80]))) (X60 : h[60]? = some (.inl (0, 8, .inl cf))) (X61 : h[61]? = some (.inl (0, 8, .inl ct))) (hk : k < 8) (hwi : q_WI wa cf ct) (hd : d < 1000) : mv_K ev mX12_isCounted [.ref 52, .int (nI k), .int (nI d)] h (some (.int (mv_b (cf k ≠ -1 ∧ cf k ≤ nI d ∧ nI d ≤ ct k)))) h := by
  refine mv_Kof ?_
  show mv_g ev mX12_isCounted 0 [.ref 52, .int (nI k), .int (nI d)] [] h _
  refine mv_aload_n dX12_isCounted_0 rfl ?_
  refine mv_getf (ci := 12) (f := 17) dX12_isCounted_1 HX rfl (by decide) wd_1216 rfl ?_
  refine mv_iload_n dX12_isCounted_4 rfl ?_
  refine mv_iaN (j := k) (x := cf k) dX12_isCounted_5 X60 rfl (by decide) (by omega) rfl ?_
  refine mv_if_lt (tgt := 35) dX12_isCounted_6 (by decide) (fun c6 => ?_) (fun c6 => ?_)
  · have c6 := q_cf_l hwi c6
    refine mv_iconst (v := nI 0) dX12_isCounted_35 (by decide) ?_
    exact mv_iret dX12_isCounted_36 rfl rfl ⟨(congrArg (fun z => some (Value.int z)) (by first | exact (mv_b_t ⟨c6, c28⟩).symm | exact (mv_b_f (fun z => c28 z.2)).symm | exact (mv_b_f (fun z => z.1 c6)).symm)), rfl⟩
  · have c6 := q_cf_p (Int32.not_lt.mp c6)
    refine mv_iload_n dX12_isCounted_9 rfl ?_
    refine mv_i2l dX12_isCounted_10 ?_
    refine mv_topL (y := lN d) (nI_l (by omega)) ?_
    refine mv_aload_n dX12_isCounted_11 rfl ?_
    refine mv_getf (ci := 12) (f := 17) dX12_isCounted_12 HX rfl (by decide) wd_1216 rfl ?_
    refine mv_iload_n dX12_isCounted_15 rfl ?_
    refine mv_iaN (j := k) (x := cf k) dX12_isCounted_16 X60 rfl (by decide) (by omega) rfl ?_
    refine mv_i2l dX12_isCounted_17 ?_
    refine mv_aload_n dX12_isCounted_18 rfl ?_
    refine mv_getf (ci := 12) (f := 18) dX12_isCounted_19 HX rfl (by decide) wd_1217 rfl ?_
    refine mv_iload_n dX12_isCounted_22 rfl ?_
    refine mv_iaN (j := k) (x := ct k) dX12_isCounted_23 X61 rfl (by decide) (by omega) rfl ?_
    refine mv_i2l dX12_isCounted_24 ?_
    refine mv_cS3 dX12_isCounted_25 lk_X12_isCounted_107 (Nat.le_of_ble_eq_true rfl) (Nat.le_of_ble_eq_true rfl) (k_X12_in (ev := ev)) ?_
    refine mv_if_eq (tgt := 35) dX12_isCounted_28 (by decide) (fun c28 => ?_) (fun c28 => ?_)
    · have c28 : ¬ (cf k ≤ nI d ∧ nI d ≤ ct k) := fun z => (mv_b_0 _).mp c28 ((and_congr (mv_lR (by omega)) (mv_lL (by omega))).mpr z)
      refine mv_iconst (v := nI 0) dX12_isCounted_35 (by decide) ?_
      exact mv_iret dX12_isCounted_36 rfl rfl ⟨(congrArg (fun z => some (Value.int z)) (by first | exact (mv_b_t ⟨c6, c28⟩).symm | exact (mv_b_f (fun z => c28 z.2)).symm | exact (mv_b_f (fun z => z.1 c6)).symm)), rfl⟩
    · have c28 : cf k ≤ nI d ∧ nI d ≤ ct k := (and_congr (mv_lR (by omega)) (mv_lL (by omega))).mp (mv_b_ne c28)
      refine mv_iconst (v := nI 1) dX12_isCounted_31 (by decide) ?_
      refine mv_goto (tgt := 36) dX12_isCounted_32 (by decide) ?_
      exact mv_iret dX12_isCounted_36 rfl rfl ⟨(congrArg (fun z => some (Value.int z)) (by first | exact (mv_b_t ⟨c6, c28⟩).symm | exact (mv_b_f (fun z => c28 z.2)).symm | exact (mv_b_f (fun z => z.1 c6)).symm)), rfl⟩
set_option maxRecDepth 100000 in
theorem l_X12_owedOf {ev : mv_E} {h : mv_H} {xt : Int32} {xf : Int32} {xa : Int32} {xo : Int64} {xe : Int32} {xu : Int32} {xs : Int32} {xc : Int32} {xw : Int32} {b : t_B} {t : Nat} {s : q_S} {rr : Nat → Nat} {lw : Nat → Int32} {ln : Nat → Nat} {k : Nat} (HX : h[52]? = some (.inr (12, [.ref 53, .ref 54, .int xt, .int xf, .int xa, .long xo, .int xe, .int xu, .ref 55, .int xs, .int (nI b.1), .ref 56, .ref 57, .ref 58, .int (nI t), .int (nI b.2.1), .ref 59, .ref 60, .ref 61, .ref 62, .int (nI s.1), .ref 63, .ref 64, .ref 65, .ref 66, .ref 67, .ref 68, .ref 69, .int xc, .ref 70, .ref 71, .ref 72, .ref 73, .ref 74, .ref 75, .int xw, .ref 76, .ref 77, .ref 78, .ref 79, .ref 80]))) (X62 : h[62]? = some (.inl (2, 400, .inl (fun j => nI (rr j))))) (X64 : h[64]? = some (.inl (0, 100, .inl (fun j => nI (s.2.2.1 j))))) (X53 : h[53]? = some (.inl (0, 8, .inl lw))) (hw : q_LW lw ln) (hsi : q_SI s) (hr : ∀ d, rr d ≤ 1) (hk : k < s.1) : ∀ (fu : Nat) (v : Nat) (y : Nat), ln 7 < y + fu → (¬ t_mo (lw 5) (lw 6) (nI (s.2.2.1 k % 28))) → (y ≤ ln 7) → (v ≤ 1) → (q_st rr (s.2.2.1 k) y v) → mv_g ev mX12_owedOf 88 [.ref 52, .int (nI k), .int (nI (s.2.2.1 k)), .int (lw 5), .int (lw 6), .int (nI (s.2.2.1 k % 28)), .null, .int (nI v), .int (nI y)] [] h (fun r g => r = some (.int (nI (q_ow lw ln rr (s.2.2.1 k)))) ∧ g = h) := by
  intro fu
  induction fu with
  | zero => intro v y hm hm hy hv hst; exact absurd hm (by omega)
  | succ fu ih =>
    intro v y hm hm hy hv hst
    have hwv := hw.1
    obtain ⟨g0, g1, g2, g3, g3b, g4, g7, gmo⟩ := hw.2
    have n0 := hsi.1
    have n1 := hsi.2.2.1 k
    refine mv_iload dX12_owedOf_88 rfl ?_
    refine mv_aload_n dX12_owedOf_90 rfl ?_
    refine mv_getf (ci := 12) (f := 0) dX12_owedOf_91 HX rfl (by decide) wd_1199 rfl ?_
    refine mv_bipush (v := nI 7) dX12_owedOf_94 (by decide) ?_
    refine mv_iaN (j := 7) (x := nI (ln 7)) dX12_owedOf_96 X53 rfl (by decide) (by omega) (hwv 7 (by decide) (by decide)) ?_
    refine mv_icmp_ge (tgt := 137) dX12_owedOf_97 (by decide) (fun c97 => ?_) (fun c97 => ?_)
    · have c97 : ln 7 ≤ y := (nI_leI (by omega) (by omega)).mp c97
      refine mv_iload dX12_owedOf_137 rfl ?_
      refine mv_if_eq (tgt := 146) dX12_owedOf_139 (by decide) (fun c139 => ?_) (fun c139 => ?_)
      · have c139 : v = 0 := (nI_eq (b := 0) (by omega) (by omega)).mp c139
        refine mv_iconst (v := nI 0) dX12_owedOf_146 (by decide) ?_
        exact mv_iret dX12_owedOf_147 rfl rfl ⟨(congrArg (fun z => some (Value.int z)) (congrArg nI (by first | exact (q_ow_2 hm (q_st_y hst hy c139)).symm | exact (q_ow_0 hm (q_st_n hst (by omega) c139)).symm))), rfl⟩
      · have c139 : ¬ (v = 0) := fun z => c139 ((nI_eq (b := 0) (by omega) (by omega)).mpr z)
        refine mv_iconst (v := nI 2) dX12_owedOf_142 (by decide) ?_
        refine mv_goto (tgt := 147) dX12_owedOf_143 (by decide) ?_
        exact mv_iret dX12_owedOf_147 rfl rfl ⟨(congrArg (fun z => some (Value.int z)) (congrArg nI (by first | exact (q_ow_2 hm (q_st_y hst hy c139)).symm | exact (q_ow_0 hm (q_st_n hst (by omega) c139)).symm))), rfl⟩
    · have c97 : ¬ (ln 7 ≤ y) := fun z => c97 ((nI_leI (by omega) (by omega)).mpr z)
      refine mv_iload_n dX12_owedOf_100 rfl ?_
      refine mv_iload dX12_owedOf_101 rfl ?_
      refine mv_isub dX12_owedOf_103 ?_
      refine mv_if_lt (tgt := 137) dX12_owedOf_104 (by decide) (fun c104 => ?_) (fun c104 => ?_)
      · have c104 := (q_sub0 n1 (by omega)).mp c104
        refine mv_iload dX12_owedOf_137 rfl ?_
        refine mv_if_eq (tgt := 146) dX12_owedOf_139 (by decide) (fun c139 => ?_) (fun c139 => ?_)
        · have c139 : v = 0 := (nI_eq (b := 0) (by omega) (by omega)).mp c139
          refine mv_iconst (v := nI 0) dX12_owedOf_146 (by decide) ?_
          exact mv_iret dX12_owedOf_147 rfl rfl ⟨(congrArg (fun z => some (Value.int z)) (congrArg nI (by first | exact (q_ow_2 hm (q_st_y hst hy c139)).symm | exact (q_ow_0 hm (q_st_n hst (by omega) c139)).symm))), rfl⟩
        · have c139 : ¬ (v = 0) := fun z => c139 ((nI_eq (b := 0) (by omega) (by omega)).mpr z)
          refine mv_iconst (v := nI 2) dX12_owedOf_142 (by decide) ?_
          refine mv_goto (tgt := 147) dX12_owedOf_143 (by decide) ?_
          exact mv_iret dX12_owedOf_147 rfl rfl ⟨(congrArg (fun z => some (Value.int z)) (congrArg nI (by first | exact (q_ow_2 hm (q_st_y hst hy c139)).symm | exact (q_ow_0 hm (q_st_n hst (by omega) c139)).symm))), rfl⟩
      · have c104 : y ≤ s.2.2.1 k := (by have c0 : ¬ s.2.2.1 k < y := fun q => c104 ((q_sub0 n1 (by omega)).mpr q); omega)
        refine mv_iload dX12_owedOf_107 rfl ?_
        refine mv_if_ne (tgt := 124) dX12_owedOf_109 (by decide) (fun c109 => ?_) (fun c109 => ?_)
        · have c109 : ¬ (v = 0) := fun z => c109 ((nI_eq (b := 0) (by omega) (by omega)).mpr z)
          refine mv_iconst (v := nI 1) dX12_owedOf_124 (by decide) ?_
          refine mv_goto (tgt := 129) dX12_owedOf_125 (by decide) ?_
          refine mv_istore dX12_owedOf_129 (by decide) ?_
          refine mv_iinc (v := nI (y + 1)) dX12_owedOf_131 rfl (mv_inc y 1) (by decide) ?_
          refine mv_goto (tgt := 88) dX12_owedOf_134 (by decide) ?_
          exact ih 1 (y + 1) (by omega) hm (by omega) (by omega) (by first | exact q_st_1 hst c109 | exact q_st_2 c104 (by omega) | exact q_st_3 hst c109 (by omega))
        · have c109 : v = 0 := (nI_eq (b := 0) (by omega) (by omega)).mp c109
          refine mv_aload_n dX12_owedOf_112 rfl ?_
          refine mv_getf (ci := 12) (f := 19) dX12_owedOf_113 HX rfl (by decide) wd_1218 rfl ?_
          refine mv_iload_n dX12_owedOf_116 rfl ?_
          refine mv_iload dX12_owedOf_117 rfl ?_
          have n2 := hr (s.2.2.1 k - y)
          refine mv_isub dX12_owedOf_119 ?_
          refine mv_topI (y := nI ((s.2.2.1 k) - y)) (pk_sub (by omega)) ?_
          refine mv_zaN (j := ((s.2.2.1 k) - y)) (x := nI (rr ((s.2.2.1 k) - y))) dX12_owedOf_120 X62 rfl (by decide) (by omega) rfl ?_
          refine mv_if_eq (tgt := 128) dX12_owedOf_121 (by decide) (fun c121 => ?_) (fun c121 => ?_)
          · have c121 : rr ((s.2.2.1 k) - y) = 0 := (nI_eq (b := 0) (by omega) (by omega)).mp c121
            refine mv_iconst (v := nI 0) dX12_owedOf_128 (by decide) ?_
            refine mv_istore dX12_owedOf_129 (by decide) ?_
            refine mv_iinc (v := nI (y + 1)) dX12_owedOf_131 rfl (mv_inc y 1) (by decide) ?_
            refine mv_goto (tgt := 88) dX12_owedOf_134 (by decide) ?_
            exact ih 0 (y + 1) (by omega) hm (by omega) (by omega) (by first | exact q_st_1 hst c109 | exact q_st_2 c104 (by omega) | exact q_st_3 hst c109 (by omega))
          · have c121 : ¬ (rr ((s.2.2.1 k) - y) = 0) := fun z => c121 ((nI_eq (b := 0) (by omega) (by omega)).mpr z)
            refine mv_iconst (v := nI 1) dX12_owedOf_124 (by decide) ?_
            refine mv_goto (tgt := 129) dX12_owedOf_125 (by decide) ?_
            refine mv_istore dX12_owedOf_129 (by decide) ?_
            refine mv_iinc (v := nI (y + 1)) dX12_owedOf_131 rfl (mv_inc y 1) (by decide) ?_
            refine mv_goto (tgt := 88) dX12_owedOf_134 (by decide) ?_
            exact ih 1 (y + 1) (by omega) hm (by omega) (by omega) (by first | exact q_st_1 hst c109 | exact q_st_2 c104 (by omega) | exact q_st_3 hst c109 (by omega))
set_option maxRecDepth 100000 in
theorem k_X12_owedOf {ev : mv_E} {h : mv_H} {xt : Int32} {xf : Int32} {xa : Int32} {xo : Int64} {xe : Int32} {xu : Int32} {xs : Int32} {xc : Int32} {xw : Int32} {b : t_B} {t : Nat} {s : q_S} {rr : Nat → Nat} {lw : Nat → Int32} {ln : Nat → Nat} {k : Nat} (HX : h[52]? = some (.inr (12, [.ref 53, .ref 54, .int xt, .int xf, .int xa, .long xo, .int xe, .int xu, .ref 55, .int xs, .int (nI b.1), .ref 56, .ref 57, .ref 58, .int (nI t), .int (nI b.2.1), .ref 59, .ref 60, .ref 61, .ref 62, .int (nI s.1), .ref 63, .ref 64, .ref 65, .ref 66, .ref 67, .ref 68, .ref 69, .int xc, .ref 70, .ref 71, .ref 72, .ref 73, .ref 74, .ref 75, .int xw, .ref 76, .ref 77, .ref 78, .ref 79, .ref 80]))) (X62 : h[62]? = some (.inl (2, 400, .inl (fun j => nI (rr j))))) (X64 : h[64]? = some (.inl (0, 100, .inl (fun j => nI (s.2.2.1 j))))) (X53 : h[53]? = some (.inl (0, 8, .inl lw))) (hw : q_LW lw ln) (hsi : q_SI s) (hr : ∀ d, rr d ≤ 1) (hk : k < s.1) : mv_K ev mX12_owedOf [.ref 52, .int (nI k)] h (some (.int (nI (q_ow lw ln rr (s.2.2.1 k))))) h := by
  refine mv_Kof ?_
  show mv_g ev mX12_owedOf 0 [.ref 52, .int (nI k), .null, .null, .null, .null, .null, .null, .null] [] h _
  have hwv := hw.1
  obtain ⟨g0, g1, g2, g3, g3b, g4, g7, gmo⟩ := hw.2
  have n0 := hsi.1
  have n1 := hsi.2.2.1 k
  refine mv_aload_n dX12_owedOf_0 rfl ?_
  refine mv_getf (ci := 12) (f := 22) dX12_owedOf_1 HX rfl (by decide) wd_1221 rfl ?_
  refine mv_iload_n dX12_owedOf_4 rfl ?_
  refine mv_iaN (j := k) (x := nI (s.2.2.1 k)) dX12_owedOf_5 X64 rfl (by decide) (by omega) rfl ?_
  refine mv_istore_n dX12_owedOf_6 (by decide) ?_
  refine mv_aload_n dX12_owedOf_7 rfl ?_
  refine mv_getf (ci := 12) (f := 0) dX12_owedOf_8 HX rfl (by decide) wd_1199 rfl ?_
  refine mv_iconst (v := nI 5) dX12_owedOf_11 (by decide) ?_
  refine mv_iaN (j := 5) (x := lw 5) dX12_owedOf_12 X53 rfl (by decide) (by omega) rfl ?_
  refine mv_istore_n dX12_owedOf_13 (by decide) ?_
  refine mv_aload_n dX12_owedOf_14 rfl ?_
  refine mv_getf (ci := 12) (f := 0) dX12_owedOf_15 HX rfl (by decide) wd_1199 rfl ?_
  refine mv_bipush (v := nI 6) dX12_owedOf_18 (by decide) ?_
  refine mv_iaN (j := 6) (x := lw 6) dX12_owedOf_20 X53 rfl (by decide) (by omega) rfl ?_
  refine mv_istore dX12_owedOf_21 (by decide) ?_
  refine mv_iload_n dX12_owedOf_23 rfl ?_
  refine mv_bipush (v := nI 28) dX12_owedOf_24 (by decide) ?_
  refine mv_irem dX12_owedOf_26 (by decide) ?_
  refine mv_topI (y := nI (s.2.2.1 k % 28)) (pk_rem (by omega) (by omega) (by omega)) ?_
  refine mv_istore dX12_owedOf_27 (by decide) ?_
  refine mv_iload_n dX12_owedOf_29 rfl ?_
  refine mv_if_lt (tgt := 72) dX12_owedOf_30 (by decide) (fun c30 => ?_) (fun c30 => ?_)
  · skip
    refine mv_iconst (v := nI 0) dX12_owedOf_72 (by decide) ?_
    refine mv_istore dX12_owedOf_73 (by decide) ?_
    refine mv_iload dX12_owedOf_75 rfl ?_
    refine mv_if_eq (tgt := 82) dX12_owedOf_77 (by decide) (fun c77 => ?_) (fun z => absurd ((by decide)) z)
    have hm : ¬ (t_mo (lw 5) (lw 6) (nI (s.2.2.1 k % 28))) := (by simp only [t_mo, Int32.le_iff_toInt_le, Int32.lt_iff_toInt_lt, show (0 : Int32).toInt = 0 from by decide] at *; omega)
    refine mv_iconst (v := nI 0) dX12_owedOf_82 (by decide) ?_
    refine mv_istore dX12_owedOf_83 (by decide) ?_
    refine mv_iconst (v := nI 0) dX12_owedOf_85 (by decide) ?_
    refine mv_istore dX12_owedOf_86 (by decide) ?_
    refine mv_sub (lv' := [.ref 52, .int (nI k), .int (nI (s.2.2.1 k)), .int (lw 5), .int (lw 6), .int (nI (s.2.2.1 k % 28)), .null, .int (nI 0), .int (nI 0)]) ⟨Or.inr rfl, Or.inr rfl, Or.inr rfl, Or.inr rfl, Or.inr rfl, Or.inr rfl, Or.inl rfl, Or.inr rfl, Or.inr rfl, trivial⟩ ?_
    exact l_X12_owedOf HX X62 X64 X53 hw hsi hr hk (ln 7 + 1) 0 0 (by omega) hm (Nat.zero_le _) (by omega) (Or.inr ⟨rfl, fun x hx => absurd hx (Nat.not_lt_zero _)⟩)
  · skip
    refine mv_iload_n dX12_owedOf_33 rfl ?_
    refine mv_iload dX12_owedOf_34 rfl ?_
    refine mv_icmp_gt (tgt := 55) dX12_owedOf_36 (by decide) (fun c36 => ?_) (fun c36 => ?_)
    · skip
      refine mv_iload dX12_owedOf_55 rfl ?_
      refine mv_iload_n dX12_owedOf_57 rfl ?_
      refine mv_icmp_ge (tgt := 68) dX12_owedOf_58 (by decide) (fun c58 => ?_) (fun c58 => ?_)
      · skip
        refine mv_iconst (v := nI 1) dX12_owedOf_68 (by decide) ?_
        refine mv_goto (tgt := 73) dX12_owedOf_69 (by decide) ?_
        refine mv_istore dX12_owedOf_73 (by decide) ?_
        refine mv_iload dX12_owedOf_75 rfl ?_
        refine mv_if_eq (tgt := 82) dX12_owedOf_77 (by decide) (fun z => absurd z ((by decide))) (fun c77 => ?_)
        have hm : t_mo (lw 5) (lw 6) (nI (s.2.2.1 k % 28)) := (by simp only [t_mo, Int32.le_iff_toInt_le, Int32.lt_iff_toInt_lt, show (0 : Int32).toInt = 0 from by decide] at *; omega)
        refine mv_iconst (v := nI 1) dX12_owedOf_80 (by decide) ?_
        exact mv_iret dX12_owedOf_81 rfl rfl ⟨(congrArg (fun z => some (Value.int z)) (congrArg nI (q_ow_1 hm).symm)), rfl⟩
      · skip
        refine mv_iload dX12_owedOf_61 rfl ?_
        refine mv_iload dX12_owedOf_63 rfl ?_
        refine mv_icmp_gt (tgt := 72) dX12_owedOf_65 (by decide) (fun c65 => ?_) (fun c65 => ?_)
        · skip
          refine mv_iconst (v := nI 0) dX12_owedOf_72 (by decide) ?_
          refine mv_istore dX12_owedOf_73 (by decide) ?_
          refine mv_iload dX12_owedOf_75 rfl ?_
          refine mv_if_eq (tgt := 82) dX12_owedOf_77 (by decide) (fun c77 => ?_) (fun z => absurd ((by decide)) z)
          have hm : ¬ (t_mo (lw 5) (lw 6) (nI (s.2.2.1 k % 28))) := (by simp only [t_mo, Int32.le_iff_toInt_le, Int32.lt_iff_toInt_lt, show (0 : Int32).toInt = 0 from by decide] at *; omega)
          refine mv_iconst (v := nI 0) dX12_owedOf_82 (by decide) ?_
          refine mv_istore dX12_owedOf_83 (by decide) ?_
          refine mv_iconst (v := nI 0) dX12_owedOf_85 (by decide) ?_
          refine mv_istore dX12_owedOf_86 (by decide) ?_
          refine mv_sub (lv' := [.ref 52, .int (nI k), .int (nI (s.2.2.1 k)), .int (lw 5), .int (lw 6), .int (nI (s.2.2.1 k % 28)), .null, .int (nI 0), .int (nI 0)]) ⟨Or.inr rfl, Or.inr rfl, Or.inr rfl, Or.inr rfl, Or.inr rfl, Or.inr rfl, Or.inl rfl, Or.inr rfl, Or.inr rfl, trivial⟩ ?_
          exact l_X12_owedOf HX X62 X64 X53 hw hsi hr hk (ln 7 + 1) 0 0 (by omega) hm (Nat.zero_le _) (by omega) (Or.inr ⟨rfl, fun x hx => absurd hx (Nat.not_lt_zero _)⟩)
        · skip
          refine mv_iconst (v := nI 1) dX12_owedOf_68 (by decide) ?_
          refine mv_goto (tgt := 73) dX12_owedOf_69 (by decide) ?_
          refine mv_istore dX12_owedOf_73 (by decide) ?_
          refine mv_iload dX12_owedOf_75 rfl ?_
          refine mv_if_eq (tgt := 82) dX12_owedOf_77 (by decide) (fun z => absurd z ((by decide))) (fun c77 => ?_)
          have hm : t_mo (lw 5) (lw 6) (nI (s.2.2.1 k % 28)) := (by simp only [t_mo, Int32.le_iff_toInt_le, Int32.lt_iff_toInt_lt, show (0 : Int32).toInt = 0 from by decide] at *; omega)
          refine mv_iconst (v := nI 1) dX12_owedOf_80 (by decide) ?_
          exact mv_iret dX12_owedOf_81 rfl rfl ⟨(congrArg (fun z => some (Value.int z)) (congrArg nI (q_ow_1 hm).symm)), rfl⟩
    · skip
      refine mv_iload dX12_owedOf_39 rfl ?_
      refine mv_iload_n dX12_owedOf_41 rfl ?_
      refine mv_icmp_lt (tgt := 72) dX12_owedOf_42 (by decide) (fun c42 => ?_) (fun c42 => ?_)
      · skip
        refine mv_iconst (v := nI 0) dX12_owedOf_72 (by decide) ?_
        refine mv_istore dX12_owedOf_73 (by decide) ?_
        refine mv_iload dX12_owedOf_75 rfl ?_
        refine mv_if_eq (tgt := 82) dX12_owedOf_77 (by decide) (fun c77 => ?_) (fun z => absurd ((by decide)) z)
        have hm : ¬ (t_mo (lw 5) (lw 6) (nI (s.2.2.1 k % 28))) := (by simp only [t_mo, Int32.le_iff_toInt_le, Int32.lt_iff_toInt_lt, show (0 : Int32).toInt = 0 from by decide] at *; omega)
        refine mv_iconst (v := nI 0) dX12_owedOf_82 (by decide) ?_
        refine mv_istore dX12_owedOf_83 (by decide) ?_
        refine mv_iconst (v := nI 0) dX12_owedOf_85 (by decide) ?_
        refine mv_istore dX12_owedOf_86 (by decide) ?_
        refine mv_sub (lv' := [.ref 52, .int (nI k), .int (nI (s.2.2.1 k)), .int (lw 5), .int (lw 6), .int (nI (s.2.2.1 k % 28)), .null, .int (nI 0), .int (nI 0)]) ⟨Or.inr rfl, Or.inr rfl, Or.inr rfl, Or.inr rfl, Or.inr rfl, Or.inr rfl, Or.inl rfl, Or.inr rfl, Or.inr rfl, trivial⟩ ?_
        exact l_X12_owedOf HX X62 X64 X53 hw hsi hr hk (ln 7 + 1) 0 0 (by omega) hm (Nat.zero_le _) (by omega) (Or.inr ⟨rfl, fun x hx => absurd hx (Nat.not_lt_zero _)⟩)
      · skip
        refine mv_iload dX12_owedOf_45 rfl ?_
        refine mv_iload dX12_owedOf_47 rfl ?_
        refine mv_icmp_gt (tgt := 72) dX12_owedOf_49 (by decide) (fun c49 => ?_) (fun c49 => ?_)
        · skip
          refine mv_iconst (v := nI 0) dX12_owedOf_72 (by decide) ?_
          refine mv_istore dX12_owedOf_73 (by decide) ?_
          refine mv_iload dX12_owedOf_75 rfl ?_
          refine mv_if_eq (tgt := 82) dX12_owedOf_77 (by decide) (fun c77 => ?_) (fun z => absurd ((by decide)) z)
          have hm : ¬ (t_mo (lw 5) (lw 6) (nI (s.2.2.1 k % 28))) := (by simp only [t_mo, Int32.le_iff_toInt_le, Int32.lt_iff_toInt_lt, show (0 : Int32).toInt = 0 from by decide] at *; omega)
          refine mv_iconst (v := nI 0) dX12_owedOf_82 (by decide) ?_
          refine mv_istore dX12_owedOf_83 (by decide) ?_
          refine mv_iconst (v := nI 0) dX12_owedOf_85 (by decide) ?_
          refine mv_istore dX12_owedOf_86 (by decide) ?_
          refine mv_sub (lv' := [.ref 52, .int (nI k), .int (nI (s.2.2.1 k)), .int (lw 5), .int (lw 6), .int (nI (s.2.2.1 k % 28)), .null, .int (nI 0), .int (nI 0)]) ⟨Or.inr rfl, Or.inr rfl, Or.inr rfl, Or.inr rfl, Or.inr rfl, Or.inr rfl, Or.inl rfl, Or.inr rfl, Or.inr rfl, trivial⟩ ?_
          exact l_X12_owedOf HX X62 X64 X53 hw hsi hr hk (ln 7 + 1) 0 0 (by omega) hm (Nat.zero_le _) (by omega) (Or.inr ⟨rfl, fun x hx => absurd hx (Nat.not_lt_zero _)⟩)
        · skip
          refine mv_goto (tgt := 68) dX12_owedOf_52 (by decide) ?_
          refine mv_iconst (v := nI 1) dX12_owedOf_68 (by decide) ?_
          refine mv_goto (tgt := 73) dX12_owedOf_69 (by decide) ?_
          refine mv_istore dX12_owedOf_73 (by decide) ?_
          refine mv_iload dX12_owedOf_75 rfl ?_
          refine mv_if_eq (tgt := 82) dX12_owedOf_77 (by decide) (fun z => absurd z ((by decide))) (fun c77 => ?_)
          have hm : t_mo (lw 5) (lw 6) (nI (s.2.2.1 k % 28)) := (by simp only [t_mo, Int32.le_iff_toInt_le, Int32.lt_iff_toInt_lt, show (0 : Int32).toInt = 0 from by decide] at *; omega)
          refine mv_iconst (v := nI 1) dX12_owedOf_80 (by decide) ?_
          exact mv_iret dX12_owedOf_81 rfl rfl ⟨(congrArg (fun z => some (Value.int z)) (congrArg nI (q_ow_1 hm).symm)), rfl⟩
set_option maxRecDepth 100000 in
theorem k_X12_isEven {ev : mv_E} {h : mv_H} {xt : Int32} {xf : Int32} {xa : Int32} {xo : Int64} {xe : Int32} {xu : Int32} {xs : Int32} {xc : Int32} {xw : Int32} {b : t_B} {t : Nat} {s : q_S} {wa : Nat → Nat} {cf : Nat → Int32} {ct : Nat → Int32} {rr : Nat → Nat} {lw : Nat → Int32} {ln : Nat → Nat} {k : Nat} (HX : h[52]? = some (.inr (12, [.ref 53, .ref 54, .int xt, .int xf, .int xa, .long xo, .int xe, .int xu, .ref 55, .int xs, .int (nI b.1), .ref 56, .ref 57, .ref 58, .int (nI t), .int (nI b.2.1), .ref 59, .ref 60, .ref 61, .ref 62, .int (nI s.1), .ref 63, .ref 64, .ref 65, .ref 66, .ref 67, .ref 68, .ref 69, .int xc, .ref 70, .ref 71, .ref 72, .ref 73, .ref 74, .ref 75, .int xw, .ref 76, .ref 77, .ref 78, .ref 79, .ref 80]))) (X59 : h[59]? = some (.inl (0, 8, .inl (fun j => nI (wa j))))) (X60 : h[60]? = some (.inl (0, 8, .inl cf))) (X61 : h[61]? = some (.inl (0, 8, .inl ct))) (X62 : h[62]? = some (.inl (2, 400, .inl (fun j => nI (rr j))))) (X63 : h[63]? = some (.inl (0, 100, .inl (fun j => nI (s.2.1 j))))) (X64 : h[64]? = some (.inl (0, 100, .inl (fun j => nI (s.2.2.1 j))))) (X65 : h[65]? = some (.inl (0, 100, .inl (fun j => nI (s.2.2.2.1 j))))) (X66 : h[66]? = some (.inl (0, 100, .inl (fun j => nI (s.2.2.2.2 j))))) (X53 : h[53]? = some (.inl (0, 8, .inl lw))) (hw : q_LW lw ln) (hsi : q_SI s) (hr : ∀ d, rr d ≤ 1) (hwi : q_WI wa cf ct) (hk : k < s.1) : mv_K ev mX12_isEven [.ref 52, .int (nI k)] h (some (.int (mv_q (q_ev lw ln s wa cf ct rr k)))) h := by
  refine mv_Kof ?_
  show mv_g ev mX12_isEven 0 [.ref 52, .int (nI k), .null] [] h _
  have n0 := hsi.1
  have n2 := hsi.2.1 k
  have n1 := hsi.2.2.1 k
  have n3 := hsi.2.2.2.1 k
  have n5 := hsi.2.2.2.2 k
  have n4 := hwi.1 (s.2.1 k)
  have n6 := q_ow_le lw ln rr (s.2.2.1 k)
  refine mv_aload_n dX12_isEven_0 rfl ?_
  refine mv_getf (ci := 12) (f := 21) dX12_isEven_1 HX rfl (by decide) wd_1220 rfl ?_
  refine mv_iload_n dX12_isEven_4 rfl ?_
  refine mv_iaN (j := k) (x := nI (s.2.1 k)) dX12_isEven_5 X63 rfl (by decide) (by omega) rfl ?_
  refine mv_istore_n dX12_isEven_6 (by decide) ?_
  refine mv_aload_n dX12_isEven_7 rfl ?_
  refine mv_iload_n dX12_isEven_8 rfl ?_
  refine mv_aload_n dX12_isEven_9 rfl ?_
  refine mv_getf (ci := 12) (f := 22) dX12_isEven_10 HX rfl (by decide) wd_1221 rfl ?_
  refine mv_iload_n dX12_isEven_13 rfl ?_
  refine mv_iaN (j := k) (x := nI (s.2.2.1 k)) dX12_isEven_14 X64 rfl (by decide) (by omega) rfl ?_
  refine mv_cV2 (ci := 12) dX12_isEven_15 lk_X12_isEven_288 HX rfl (Nat.le_of_ble_eq_true rfl) (Nat.le_of_ble_eq_true rfl) (k_X12_isCounted (ev := ev) HX X60 X61 n2 hwi (by omega)) ?_
  refine mv_if_eq (tgt := 63) dX12_isEven_18 (by decide) (fun c18 => ?_) (fun c18 => ?_)
  · have c18 : ¬ (cf (s.2.1 k) ≠ -1 ∧ cf (s.2.1 k) ≤ nI (s.2.2.1 k) ∧ nI (s.2.2.1 k) ≤ ct (s.2.1 k)) := (mv_b_0 _).mp c18
    refine mv_iconst (v := nI 0) dX12_isEven_63 (by decide) ?_
    exact mv_iret dX12_isEven_64 rfl rfl ⟨(congrArg (fun z => some (Value.int z)) (by first | exact (mv_q_t ⟨c18, c33, c48, c56⟩).symm | exact (mv_q_f (fun z => c56 z.2.2.2)).symm | exact (mv_q_f (fun z => c48 z.2.2.1)).symm | exact (mv_q_f (fun z => c33 z.2.1)).symm | exact (mv_q_f (fun z => c18 z.1)).symm)), rfl⟩
  · have c18 : cf (s.2.1 k) ≠ -1 ∧ cf (s.2.1 k) ≤ nI (s.2.2.1 k) ∧ nI (s.2.2.1 k) ≤ ct (s.2.1 k) := Classical.byContradiction (fun z => c18 ((mv_b_0 _).mpr z))
    refine mv_aload_n dX12_isEven_21 rfl ?_
    refine mv_getf (ci := 12) (f := 23) dX12_isEven_22 HX rfl (by decide) wd_1222 rfl ?_
    refine mv_iload_n dX12_isEven_25 rfl ?_
    refine mv_iaN (j := k) (x := nI (s.2.2.2.1 k)) dX12_isEven_26 X65 rfl (by decide) (by omega) rfl ?_
    refine mv_aload_n dX12_isEven_27 rfl ?_
    refine mv_getf (ci := 12) (f := 16) dX12_isEven_28 HX rfl (by decide) wd_1215 rfl ?_
    refine mv_iload_n dX12_isEven_31 rfl ?_
    refine mv_iaN (j := (s.2.1 k)) (x := nI (wa (s.2.1 k))) dX12_isEven_32 X59 rfl (by decide) (by omega) rfl ?_
    refine mv_icmp_ne (tgt := 63) dX12_isEven_33 (by decide) (fun c33 => ?_) (fun c33 => ?_)
    · have c33 : ¬ (s.2.2.2.1 k = wa (s.2.1 k)) := fun z => c33 ((nI_eq (by omega) (by omega)).mpr z)
      refine mv_iconst (v := nI 0) dX12_isEven_63 (by decide) ?_
      exact mv_iret dX12_isEven_64 rfl rfl ⟨(congrArg (fun z => some (Value.int z)) (by first | exact (mv_q_t ⟨c18, c33, c48, c56⟩).symm | exact (mv_q_f (fun z => c56 z.2.2.2)).symm | exact (mv_q_f (fun z => c48 z.2.2.1)).symm | exact (mv_q_f (fun z => c33 z.2.1)).symm | exact (mv_q_f (fun z => c18 z.1)).symm)), rfl⟩
    · have c33 : s.2.2.2.1 k = wa (s.2.1 k) := (nI_eq (by omega) (by omega)).mp c33
      refine mv_aload_n dX12_isEven_36 rfl ?_
      refine mv_getf (ci := 12) (f := 24) dX12_isEven_37 HX rfl (by decide) wd_1223 rfl ?_
      refine mv_iload_n dX12_isEven_40 rfl ?_
      refine mv_iaN (j := k) (x := nI (s.2.2.2.2 k)) dX12_isEven_41 X66 rfl (by decide) (by omega) rfl ?_
      refine mv_aload_n dX12_isEven_42 rfl ?_
      refine mv_getf (ci := 12) (f := 22) dX12_isEven_43 HX rfl (by decide) wd_1221 rfl ?_
      refine mv_iload_n dX12_isEven_46 rfl ?_
      refine mv_iaN (j := k) (x := nI (s.2.2.1 k)) dX12_isEven_47 X64 rfl (by decide) (by omega) rfl ?_
      refine mv_icmp_ne (tgt := 63) dX12_isEven_48 (by decide) (fun c48 => ?_) (fun c48 => ?_)
      · have c48 : ¬ (s.2.2.2.2 k = s.2.2.1 k) := fun z => c48 ((nI_eq (by omega) (by omega)).mpr z)
        refine mv_iconst (v := nI 0) dX12_isEven_63 (by decide) ?_
        exact mv_iret dX12_isEven_64 rfl rfl ⟨(congrArg (fun z => some (Value.int z)) (by first | exact (mv_q_t ⟨c18, c33, c48, c56⟩).symm | exact (mv_q_f (fun z => c56 z.2.2.2)).symm | exact (mv_q_f (fun z => c48 z.2.2.1)).symm | exact (mv_q_f (fun z => c33 z.2.1)).symm | exact (mv_q_f (fun z => c18 z.1)).symm)), rfl⟩
      · have c48 : s.2.2.2.2 k = s.2.2.1 k := (nI_eq (by omega) (by omega)).mp c48
        refine mv_aload_n dX12_isEven_51 rfl ?_
        refine mv_iload_n dX12_isEven_52 rfl ?_
        refine mv_cV1 (ci := 12) dX12_isEven_53 lk_X12_isEven_292 HX rfl (Nat.le_of_ble_eq_true rfl) (Nat.le_of_ble_eq_true rfl) (k_X12_owedOf (ev := ev) HX X62 X64 X53 hw hsi hr hk) ?_
        refine mv_if_ne (tgt := 63) dX12_isEven_56 (by decide) (fun c56 => ?_) (fun c56 => ?_)
        · have c56 : ¬ (q_ow lw ln rr (s.2.2.1 k) = 0) := fun z => c56 ((nI_eq (b := 0) (by omega) (by omega)).mpr z)
          refine mv_iconst (v := nI 0) dX12_isEven_63 (by decide) ?_
          exact mv_iret dX12_isEven_64 rfl rfl ⟨(congrArg (fun z => some (Value.int z)) (by first | exact (mv_q_t ⟨c18, c33, c48, c56⟩).symm | exact (mv_q_f (fun z => c56 z.2.2.2)).symm | exact (mv_q_f (fun z => c48 z.2.2.1)).symm | exact (mv_q_f (fun z => c33 z.2.1)).symm | exact (mv_q_f (fun z => c18 z.1)).symm)), rfl⟩
        · have c56 : q_ow lw ln rr (s.2.2.1 k) = 0 := (nI_eq (b := 0) (by omega) (by omega)).mp c56
          refine mv_iconst (v := nI 1) dX12_isEven_59 (by decide) ?_
          refine mv_goto (tgt := 64) dX12_isEven_60 (by decide) ?_
          exact mv_iret dX12_isEven_64 rfl rfl ⟨(congrArg (fun z => some (Value.int z)) (by first | exact (mv_q_t ⟨c18, c33, c48, c56⟩).symm | exact (mv_q_f (fun z => c56 z.2.2.2)).symm | exact (mv_q_f (fun z => c48 z.2.2.1)).symm | exact (mv_q_f (fun z => c33 z.2.1)).symm | exact (mv_q_f (fun z => c18 z.1)).symm)), rfl⟩
