def q_cp (f g : Nat → Nat) : Nat → Nat := fun i => if i < 60 then f i else g i
theorem q_cpy (f g : Nat → Nat) : va_cpy (fun j => nI (f j)) (fun j => nI (g j)) (nI 0).toNatClampNeg (nI 0).toNatClampNeg (nI 60).toNatClampNeg = fun j => nI (q_cp f g j) := by
  funext j
  have e0 : (nI 0).toNatClampNeg = 0 := by decide
  have e1 : (nI 60).toNatClampNeg = 60 := by decide
  rw [e0, e1]
  unfold va_cpy q_cp
  by_cases c : j < 60
  · rw [if_pos c, if_pos (show 0 ≤ j ∧ j < 0 + 60 by omega), show 0 + (j - 0) = j by omega]
  · rw [if_neg c, if_neg (show ¬ (0 ≤ j ∧ j < 0 + 60) by omega)]
def q_cb (b o : t_B) : t_B := (o.1, o.2.1, q_cp o.2.2.1 b.2.2.1, q_cp o.2.2.2.1 b.2.2.2.1, q_cp o.2.2.2.2 b.2.2.2.2)
theorem q_cp_P {P : Nat → Prop} {f g : Nat → Nat} (hf : ∀ j, P (f j)) (hg : ∀ j, P (g j)) : ∀ j, P (q_cp f g j) := by
  intro j
  unfold q_cp
  split
  · exact hf j
  · exact hg j
theorem q_BI_cb {d e : Nat} {b o : t_B} (hb : q_BI d b) (ho : q_BI e o) : q_BI e (q_cb b o) := by
  obtain ⟨h1, h2, h3, h4, h5, h6, h7⟩ := ho
  refine ⟨h1, h2, q_cp_P (P := fun x => x ≤ 399) h3 hb.2.2.1, q_cp_P (P := fun x => x < 64) h4 hb.2.2.2.1, q_cp_P (P := fun x => x ≤ 9) h5 hb.2.2.2.2.1, fun j hj => ?_, fun i j hij hj => ?_⟩
  · have hj2 : j < o.1 := hj
    have e1 : (q_cb b o).2.2.1 j = o.2.2.1 j := if_pos (by omega)
    rw [e1]
    exact h6 j hj
  · have hj2 : j < o.1 := hj
    have e1 : (q_cb b o).2.2.1 j = o.2.2.1 j := if_pos (by omega)
    have e2 : (q_cb b o).2.2.1 i = o.2.2.1 i := if_pos (by omega)
    rw [e1, e2]
    exact h7 i j hij hj
def q_cl (dr lw : Nat → Int32) : Nat → Int32 := fun i => if i < 8 then dr i else lw i
theorem q_cly (dr lw : Nat → Int32) : va_cpy dr lw (nI 0).toNatClampNeg (nI 0).toNatClampNeg (nI 8).toNatClampNeg = q_cl dr lw := by
  funext j
  have e0 : (nI 0).toNatClampNeg = 0 := by decide
  have e1 : (nI 8).toNatClampNeg = 8 := by decide
  rw [e0, e1]
  unfold va_cpy q_cl
  by_cases c : j < 8
  · rw [if_pos c, if_pos (show 0 ≤ j ∧ j < 0 + 8 by omega), show 0 + (j - 0) = j by omega]
  · rw [if_neg c, if_neg (show ¬ (0 ≤ j ∧ j < 0 + 8) by omega)]
set_option maxRecDepth 100000 in
theorem k_X0_becomeLike_12_7 {ev : mv_E} {h : mv_H} {b : t_B} {t : Nat} {o : t_B} {u : Nat} (HB : h[12]? = some (.inr (0, [.ref 13, .ref 14, .ref 15, .int (nI b.1), .int (nI t), .int (nI b.2.1)]))) (H8 : h[13]? = some (.inl (0, 60, .inl (fun j => nI (b.2.2.1 j))))) (H9 : h[14]? = some (.inl (0, 60, .inl (fun j => nI (b.2.2.2.1 j))))) (H10 : h[15]? = some (.inl (0, 60, .inl (fun j => nI (b.2.2.2.2 j))))) (OHB : h[7]? = some (.inr (0, [.ref 8, .ref 9, .ref 10, .int (nI o.1), .int (nI u), .int (nI o.2.1)]))) (OH8 : h[8]? = some (.inl (0, 60, .inl (fun j => nI (o.2.2.1 j))))) (OH9 : h[9]? = some (.inl (0, 60, .inl (fun j => nI (o.2.2.2.1 j))))) (OH10 : h[10]? = some (.inl (0, 60, .inl (fun j => nI (o.2.2.2.2 j)))))  : ∃ h2, mv_K ev mX0_becomeLike [.ref 12, .ref 7] h (none) h2 ∧ mv_fra [12, 13, 14, 15] h h2 ∧ h2[12]? = some (.inr (0, [.ref 13, .ref 14, .ref 15, .int (nI (q_cb b o).1), .int (nI u), .int (nI (q_cb b o).2.1)])) ∧ h2[13]? = some (.inl (0, 60, .inl (fun j => nI ((q_cb b o).2.2.1 j)))) ∧ h2[14]? = some (.inl (0, 60, .inl (fun j => nI ((q_cb b o).2.2.2.1 j)))) ∧ h2[15]? = some (.inl (0, 60, .inl (fun j => nI ((q_cb b o).2.2.2.2 j)))) := by
  suffices g0 : mv_g ev mX0_becomeLike 0 (mv_ent [.ref 12, .ref 7] (mv_ml mX0_becomeLike)) [] h (fun r g => r = none ∧ mv_fra [12, 13, 14, 15] h g ∧ g[12]? = some (.inr (0, [.ref 13, .ref 14, .ref 15, .int (nI (q_cb b o).1), .int (nI u), .int (nI (q_cb b o).2.1)])) ∧ g[13]? = some (.inl (0, 60, .inl (fun j => nI ((q_cb b o).2.2.1 j)))) ∧ g[14]? = some (.inl (0, 60, .inl (fun j => nI ((q_cb b o).2.2.2.1 j)))) ∧ g[15]? = some (.inl (0, 60, .inl (fun j => nI ((q_cb b o).2.2.2.2 j))))) from (by obtain ⟨r0, h0, K0, q0, Q0⟩ := mv_Kex g0; subst q0; exact ⟨h0, K0, Q0⟩)
  show mv_g ev mX0_becomeLike 0 [.ref 12, .ref 7] [] h _
  have fr : mv_fra [12, 13, 14, 15] h h := mv_fra.rf
  refine mv_aload_n dX0_becomeLike_0 rfl ?_
  refine mv_getf (ci := 0) (f := 0) dX0_becomeLike_1 OHB rfl (by decide) wd_148 rfl ?_
  refine mv_iconst (v := nI 0) dX0_becomeLike_4 (by decide) ?_
  refine mv_aload_n dX0_becomeLike_5 rfl ?_
  refine mv_getf (ci := 0) (f := 0) dX0_becomeLike_6 HB rfl (by decide) wd_148 rfl ?_
  refine mv_iconst (v := nI 0) dX0_becomeLike_9 (by decide) ?_
  refine mv_bipush (v := nI 60) dX0_becomeLike_10 (by decide) ?_
  refine mv_acopy dX0_becomeLike_12 OH8 H8 wd_1172 (by decide) (Nat.le_of_ble_eq_true rfl) (by decide) (by decide) (by decide) (by decide) (by decide) ?_
  refine mv_topH (fun h1 e2 => ?_)
  have e2c : va_cpy (fun j => nI (o.2.2.1 j)) (fun j => nI (b.2.2.1 j)) (nI 0).toNatClampNeg (nI 0).toNatClampNeg (nI 60).toNatClampNeg = (fun j => nI (q_cp o.2.2.1 b.2.2.1 j)) := (q_cpy _ _)
  rw [e2c] at e2
  have HB := mv_ne e2 (by decide) HB
  have H8 : h1[13]? = some (.inl (0, 60, .inl (fun j => nI (q_cp o.2.2.1 b.2.2.1 j)))) := mv_eq e2 H8
  have H9 := mv_ne e2 (by decide) H9
  have H10 := mv_ne e2 (by decide) H10
  have OHB := mv_ne e2 (by decide) OHB
  have OH8 := mv_ne e2 (by decide) OH8
  have OH9 := mv_ne e2 (by decide) OH9
  have OH10 := mv_ne e2 (by decide) OH10
  have fr := fr.set e2 (by decide)
  clear e2
  refine mv_aload_n dX0_becomeLike_15 rfl ?_
  refine mv_getf (ci := 0) (f := 1) dX0_becomeLike_16 OHB rfl (by decide) wd_149 rfl ?_
  refine mv_iconst (v := nI 0) dX0_becomeLike_19 (by decide) ?_
  refine mv_aload_n dX0_becomeLike_20 rfl ?_
  refine mv_getf (ci := 0) (f := 1) dX0_becomeLike_21 HB rfl (by decide) wd_149 rfl ?_
  refine mv_iconst (v := nI 0) dX0_becomeLike_24 (by decide) ?_
  refine mv_bipush (v := nI 60) dX0_becomeLike_25 (by decide) ?_
  refine mv_acopy dX0_becomeLike_27 OH9 H9 wd_1172 (by decide) (Nat.le_of_ble_eq_true rfl) (by decide) (by decide) (by decide) (by decide) (by decide) ?_
  refine mv_topH (fun h3 e4 => ?_)
  have e4c : va_cpy (fun j => nI (o.2.2.2.1 j)) (fun j => nI (b.2.2.2.1 j)) (nI 0).toNatClampNeg (nI 0).toNatClampNeg (nI 60).toNatClampNeg = (fun j => nI (q_cp o.2.2.2.1 b.2.2.2.1 j)) := (q_cpy _ _)
  rw [e4c] at e4
  have HB := mv_ne e4 (by decide) HB
  have H8 := mv_ne e4 (by decide) H8
  have H9 : h3[14]? = some (.inl (0, 60, .inl (fun j => nI (q_cp o.2.2.2.1 b.2.2.2.1 j)))) := mv_eq e4 H9
  have H10 := mv_ne e4 (by decide) H10
  have OHB := mv_ne e4 (by decide) OHB
  have OH8 := mv_ne e4 (by decide) OH8
  have OH9 := mv_ne e4 (by decide) OH9
  have OH10 := mv_ne e4 (by decide) OH10
  have fr := fr.set e4 (by decide)
  clear e4
  refine mv_aload_n dX0_becomeLike_30 rfl ?_
  refine mv_getf (ci := 0) (f := 2) dX0_becomeLike_31 OHB rfl (by decide) wd_150 rfl ?_
  refine mv_iconst (v := nI 0) dX0_becomeLike_34 (by decide) ?_
  refine mv_aload_n dX0_becomeLike_35 rfl ?_
  refine mv_getf (ci := 0) (f := 2) dX0_becomeLike_36 HB rfl (by decide) wd_150 rfl ?_
  refine mv_iconst (v := nI 0) dX0_becomeLike_39 (by decide) ?_
  refine mv_bipush (v := nI 60) dX0_becomeLike_40 (by decide) ?_
  refine mv_acopy dX0_becomeLike_42 OH10 H10 wd_1172 (by decide) (Nat.le_of_ble_eq_true rfl) (by decide) (by decide) (by decide) (by decide) (by decide) ?_
  refine mv_topH (fun h5 e6 => ?_)
  have e6c : va_cpy (fun j => nI (o.2.2.2.2 j)) (fun j => nI (b.2.2.2.2 j)) (nI 0).toNatClampNeg (nI 0).toNatClampNeg (nI 60).toNatClampNeg = (fun j => nI (q_cp o.2.2.2.2 b.2.2.2.2 j)) := (q_cpy _ _)
  rw [e6c] at e6
  have HB := mv_ne e6 (by decide) HB
  have H8 := mv_ne e6 (by decide) H8
  have H9 := mv_ne e6 (by decide) H9
  have H10 : h5[15]? = some (.inl (0, 60, .inl (fun j => nI (q_cp o.2.2.2.2 b.2.2.2.2 j)))) := mv_eq e6 H10
  have OHB := mv_ne e6 (by decide) OHB
  have OH8 := mv_ne e6 (by decide) OH8
  have OH9 := mv_ne e6 (by decide) OH9
  have OH10 := mv_ne e6 (by decide) OH10
  have fr := fr.set e6 (by decide)
  clear e6
  refine mv_aload_n dX0_becomeLike_45 rfl ?_
  refine mv_aload_n dX0_becomeLike_46 rfl ?_
  refine mv_getf (ci := 0) (f := 3) dX0_becomeLike_47 OHB rfl (by decide) wd_151 rfl ?_
  refine mv_putf (ci := 0) (f := 3) dX0_becomeLike_50 HB rfl (by decide) wd_151 rfl rfl (fun _ => ⟨rfl, rfl⟩) (Nat.le_of_ble_eq_true rfl) ?_
  refine mv_topH (fun h7 e8 => ?_)
  have HB : h7[12]? = some (.inr (0, [.ref 13, .ref 14, .ref 15, .int (nI o.1), .int (nI t), .int (nI b.2.1)])) := mv_eq e8 HB
  have H8 := mv_ne e8 (by decide) H8
  have H9 := mv_ne e8 (by decide) H9
  have H10 := mv_ne e8 (by decide) H10
  have OHB := mv_ne e8 (by decide) OHB
  have OH8 := mv_ne e8 (by decide) OH8
  have OH9 := mv_ne e8 (by decide) OH9
  have OH10 := mv_ne e8 (by decide) OH10
  have fr := fr.set e8 (by decide)
  clear e8
  refine mv_aload_n dX0_becomeLike_53 rfl ?_
  refine mv_aload_n dX0_becomeLike_54 rfl ?_
  refine mv_getf (ci := 0) (f := 4) dX0_becomeLike_55 OHB rfl (by decide) wd_152 rfl ?_
  refine mv_putf (ci := 0) (f := 4) dX0_becomeLike_58 HB rfl (by decide) wd_152 rfl rfl (fun _ => ⟨rfl, rfl⟩) (Nat.le_of_ble_eq_true rfl) ?_
  refine mv_topH (fun h9 e10 => ?_)
  have HB : h9[12]? = some (.inr (0, [.ref 13, .ref 14, .ref 15, .int (nI o.1), .int (nI u), .int (nI b.2.1)])) := mv_eq e10 HB
  have H8 := mv_ne e10 (by decide) H8
  have H9 := mv_ne e10 (by decide) H9
  have H10 := mv_ne e10 (by decide) H10
  have OHB := mv_ne e10 (by decide) OHB
  have OH8 := mv_ne e10 (by decide) OH8
  have OH9 := mv_ne e10 (by decide) OH9
  have OH10 := mv_ne e10 (by decide) OH10
  have fr := fr.set e10 (by decide)
  clear e10
  refine mv_aload_n dX0_becomeLike_61 rfl ?_
  refine mv_aload_n dX0_becomeLike_62 rfl ?_
  refine mv_getf (ci := 0) (f := 5) dX0_becomeLike_63 OHB rfl (by decide) wd_153 rfl ?_
  refine mv_putf (ci := 0) (f := 5) dX0_becomeLike_66 HB rfl (by decide) wd_153 rfl rfl (fun _ => ⟨rfl, rfl⟩) (Nat.le_of_ble_eq_true rfl) ?_
  refine mv_topH (fun h11 e12 => ?_)
  have HB : h11[12]? = some (.inr (0, [.ref 13, .ref 14, .ref 15, .int (nI o.1), .int (nI u), .int (nI o.2.1)])) := mv_eq e12 HB
  have H8 := mv_ne e12 (by decide) H8
  have H9 := mv_ne e12 (by decide) H9
  have H10 := mv_ne e12 (by decide) H10
  have OHB := mv_ne e12 (by decide) OHB
  have OH8 := mv_ne e12 (by decide) OH8
  have OH9 := mv_ne e12 (by decide) OH9
  have OH10 := mv_ne e12 (by decide) OH10
  have fr := fr.set e12 (by decide)
  clear e12
  exact mv_vret dX0_becomeLike_69 rfl ⟨rfl, fr, HB, H8, H9, H10⟩
set_option maxRecDepth 100000 in
theorem k_X0_becomeLike_16_7 {ev : mv_E} {h : mv_H} {b : t_B} {t : Nat} {o : t_B} {u : Nat} (HB : h[16]? = some (.inr (0, [.ref 17, .ref 18, .ref 19, .int (nI b.1), .int (nI t), .int (nI b.2.1)]))) (H8 : h[17]? = some (.inl (0, 60, .inl (fun j => nI (b.2.2.1 j))))) (H9 : h[18]? = some (.inl (0, 60, .inl (fun j => nI (b.2.2.2.1 j))))) (H10 : h[19]? = some (.inl (0, 60, .inl (fun j => nI (b.2.2.2.2 j))))) (OHB : h[7]? = some (.inr (0, [.ref 8, .ref 9, .ref 10, .int (nI o.1), .int (nI u), .int (nI o.2.1)]))) (OH8 : h[8]? = some (.inl (0, 60, .inl (fun j => nI (o.2.2.1 j))))) (OH9 : h[9]? = some (.inl (0, 60, .inl (fun j => nI (o.2.2.2.1 j))))) (OH10 : h[10]? = some (.inl (0, 60, .inl (fun j => nI (o.2.2.2.2 j)))))  : ∃ h2, mv_K ev mX0_becomeLike [.ref 16, .ref 7] h (none) h2 ∧ mv_fra [16, 17, 18, 19] h h2 ∧ h2[16]? = some (.inr (0, [.ref 17, .ref 18, .ref 19, .int (nI (q_cb b o).1), .int (nI u), .int (nI (q_cb b o).2.1)])) ∧ h2[17]? = some (.inl (0, 60, .inl (fun j => nI ((q_cb b o).2.2.1 j)))) ∧ h2[18]? = some (.inl (0, 60, .inl (fun j => nI ((q_cb b o).2.2.2.1 j)))) ∧ h2[19]? = some (.inl (0, 60, .inl (fun j => nI ((q_cb b o).2.2.2.2 j)))) := by
  suffices g0 : mv_g ev mX0_becomeLike 0 (mv_ent [.ref 16, .ref 7] (mv_ml mX0_becomeLike)) [] h (fun r g => r = none ∧ mv_fra [16, 17, 18, 19] h g ∧ g[16]? = some (.inr (0, [.ref 17, .ref 18, .ref 19, .int (nI (q_cb b o).1), .int (nI u), .int (nI (q_cb b o).2.1)])) ∧ g[17]? = some (.inl (0, 60, .inl (fun j => nI ((q_cb b o).2.2.1 j)))) ∧ g[18]? = some (.inl (0, 60, .inl (fun j => nI ((q_cb b o).2.2.2.1 j)))) ∧ g[19]? = some (.inl (0, 60, .inl (fun j => nI ((q_cb b o).2.2.2.2 j))))) from (by obtain ⟨r0, h0, K0, q0, Q0⟩ := mv_Kex g0; subst q0; exact ⟨h0, K0, Q0⟩)
  show mv_g ev mX0_becomeLike 0 [.ref 16, .ref 7] [] h _
  have fr : mv_fra [16, 17, 18, 19] h h := mv_fra.rf
  refine mv_aload_n dX0_becomeLike_0 rfl ?_
  refine mv_getf (ci := 0) (f := 0) dX0_becomeLike_1 OHB rfl (by decide) wd_148 rfl ?_
  refine mv_iconst (v := nI 0) dX0_becomeLike_4 (by decide) ?_
  refine mv_aload_n dX0_becomeLike_5 rfl ?_
  refine mv_getf (ci := 0) (f := 0) dX0_becomeLike_6 HB rfl (by decide) wd_148 rfl ?_
  refine mv_iconst (v := nI 0) dX0_becomeLike_9 (by decide) ?_
  refine mv_bipush (v := nI 60) dX0_becomeLike_10 (by decide) ?_
  refine mv_acopy dX0_becomeLike_12 OH8 H8 wd_1172 (by decide) (Nat.le_of_ble_eq_true rfl) (by decide) (by decide) (by decide) (by decide) (by decide) ?_
  refine mv_topH (fun h1 e2 => ?_)
  have e2c : va_cpy (fun j => nI (o.2.2.1 j)) (fun j => nI (b.2.2.1 j)) (nI 0).toNatClampNeg (nI 0).toNatClampNeg (nI 60).toNatClampNeg = (fun j => nI (q_cp o.2.2.1 b.2.2.1 j)) := (q_cpy _ _)
  rw [e2c] at e2
  have HB := mv_ne e2 (by decide) HB
  have H8 : h1[17]? = some (.inl (0, 60, .inl (fun j => nI (q_cp o.2.2.1 b.2.2.1 j)))) := mv_eq e2 H8
  have H9 := mv_ne e2 (by decide) H9
  have H10 := mv_ne e2 (by decide) H10
  have OHB := mv_ne e2 (by decide) OHB
  have OH8 := mv_ne e2 (by decide) OH8
  have OH9 := mv_ne e2 (by decide) OH9
  have OH10 := mv_ne e2 (by decide) OH10
  have fr := fr.set e2 (by decide)
  clear e2
  refine mv_aload_n dX0_becomeLike_15 rfl ?_
  refine mv_getf (ci := 0) (f := 1) dX0_becomeLike_16 OHB rfl (by decide) wd_149 rfl ?_
  refine mv_iconst (v := nI 0) dX0_becomeLike_19 (by decide) ?_
  refine mv_aload_n dX0_becomeLike_20 rfl ?_
  refine mv_getf (ci := 0) (f := 1) dX0_becomeLike_21 HB rfl (by decide) wd_149 rfl ?_
  refine mv_iconst (v := nI 0) dX0_becomeLike_24 (by decide) ?_
  refine mv_bipush (v := nI 60) dX0_becomeLike_25 (by decide) ?_
  refine mv_acopy dX0_becomeLike_27 OH9 H9 wd_1172 (by decide) (Nat.le_of_ble_eq_true rfl) (by decide) (by decide) (by decide) (by decide) (by decide) ?_
  refine mv_topH (fun h3 e4 => ?_)
  have e4c : va_cpy (fun j => nI (o.2.2.2.1 j)) (fun j => nI (b.2.2.2.1 j)) (nI 0).toNatClampNeg (nI 0).toNatClampNeg (nI 60).toNatClampNeg = (fun j => nI (q_cp o.2.2.2.1 b.2.2.2.1 j)) := (q_cpy _ _)
  rw [e4c] at e4
  have HB := mv_ne e4 (by decide) HB
  have H8 := mv_ne e4 (by decide) H8
  have H9 : h3[18]? = some (.inl (0, 60, .inl (fun j => nI (q_cp o.2.2.2.1 b.2.2.2.1 j)))) := mv_eq e4 H9
  have H10 := mv_ne e4 (by decide) H10
  have OHB := mv_ne e4 (by decide) OHB
  have OH8 := mv_ne e4 (by decide) OH8
  have OH9 := mv_ne e4 (by decide) OH9
  have OH10 := mv_ne e4 (by decide) OH10
  have fr := fr.set e4 (by decide)
  clear e4
  refine mv_aload_n dX0_becomeLike_30 rfl ?_
  refine mv_getf (ci := 0) (f := 2) dX0_becomeLike_31 OHB rfl (by decide) wd_150 rfl ?_
  refine mv_iconst (v := nI 0) dX0_becomeLike_34 (by decide) ?_
  refine mv_aload_n dX0_becomeLike_35 rfl ?_
  refine mv_getf (ci := 0) (f := 2) dX0_becomeLike_36 HB rfl (by decide) wd_150 rfl ?_
  refine mv_iconst (v := nI 0) dX0_becomeLike_39 (by decide) ?_
  refine mv_bipush (v := nI 60) dX0_becomeLike_40 (by decide) ?_
  refine mv_acopy dX0_becomeLike_42 OH10 H10 wd_1172 (by decide) (Nat.le_of_ble_eq_true rfl) (by decide) (by decide) (by decide) (by decide) (by decide) ?_
  refine mv_topH (fun h5 e6 => ?_)
  have e6c : va_cpy (fun j => nI (o.2.2.2.2 j)) (fun j => nI (b.2.2.2.2 j)) (nI 0).toNatClampNeg (nI 0).toNatClampNeg (nI 60).toNatClampNeg = (fun j => nI (q_cp o.2.2.2.2 b.2.2.2.2 j)) := (q_cpy _ _)
  rw [e6c] at e6
  have HB := mv_ne e6 (by decide) HB
  have H8 := mv_ne e6 (by decide) H8
  have H9 := mv_ne e6 (by decide) H9
  have H10 : h5[19]? = some (.inl (0, 60, .inl (fun j => nI (q_cp o.2.2.2.2 b.2.2.2.2 j)))) := mv_eq e6 H10
  have OHB := mv_ne e6 (by decide) OHB
  have OH8 := mv_ne e6 (by decide) OH8
  have OH9 := mv_ne e6 (by decide) OH9
  have OH10 := mv_ne e6 (by decide) OH10
  have fr := fr.set e6 (by decide)
  clear e6
  refine mv_aload_n dX0_becomeLike_45 rfl ?_
  refine mv_aload_n dX0_becomeLike_46 rfl ?_
  refine mv_getf (ci := 0) (f := 3) dX0_becomeLike_47 OHB rfl (by decide) wd_151 rfl ?_
  refine mv_putf (ci := 0) (f := 3) dX0_becomeLike_50 HB rfl (by decide) wd_151 rfl rfl (fun _ => ⟨rfl, rfl⟩) (Nat.le_of_ble_eq_true rfl) ?_
  refine mv_topH (fun h7 e8 => ?_)
  have HB : h7[16]? = some (.inr (0, [.ref 17, .ref 18, .ref 19, .int (nI o.1), .int (nI t), .int (nI b.2.1)])) := mv_eq e8 HB
  have H8 := mv_ne e8 (by decide) H8
  have H9 := mv_ne e8 (by decide) H9
  have H10 := mv_ne e8 (by decide) H10
  have OHB := mv_ne e8 (by decide) OHB
  have OH8 := mv_ne e8 (by decide) OH8
  have OH9 := mv_ne e8 (by decide) OH9
  have OH10 := mv_ne e8 (by decide) OH10
  have fr := fr.set e8 (by decide)
  clear e8
  refine mv_aload_n dX0_becomeLike_53 rfl ?_
  refine mv_aload_n dX0_becomeLike_54 rfl ?_
  refine mv_getf (ci := 0) (f := 4) dX0_becomeLike_55 OHB rfl (by decide) wd_152 rfl ?_
  refine mv_putf (ci := 0) (f := 4) dX0_becomeLike_58 HB rfl (by decide) wd_152 rfl rfl (fun _ => ⟨rfl, rfl⟩) (Nat.le_of_ble_eq_true rfl) ?_
  refine mv_topH (fun h9 e10 => ?_)
  have HB : h9[16]? = some (.inr (0, [.ref 17, .ref 18, .ref 19, .int (nI o.1), .int (nI u), .int (nI b.2.1)])) := mv_eq e10 HB
  have H8 := mv_ne e10 (by decide) H8
  have H9 := mv_ne e10 (by decide) H9
  have H10 := mv_ne e10 (by decide) H10
  have OHB := mv_ne e10 (by decide) OHB
  have OH8 := mv_ne e10 (by decide) OH8
  have OH9 := mv_ne e10 (by decide) OH9
  have OH10 := mv_ne e10 (by decide) OH10
  have fr := fr.set e10 (by decide)
  clear e10
  refine mv_aload_n dX0_becomeLike_61 rfl ?_
  refine mv_aload_n dX0_becomeLike_62 rfl ?_
  refine mv_getf (ci := 0) (f := 5) dX0_becomeLike_63 OHB rfl (by decide) wd_153 rfl ?_
  refine mv_putf (ci := 0) (f := 5) dX0_becomeLike_66 HB rfl (by decide) wd_153 rfl rfl (fun _ => ⟨rfl, rfl⟩) (Nat.le_of_ble_eq_true rfl) ?_
  refine mv_topH (fun h11 e12 => ?_)
  have HB : h11[16]? = some (.inr (0, [.ref 17, .ref 18, .ref 19, .int (nI o.1), .int (nI u), .int (nI o.2.1)])) := mv_eq e12 HB
  have H8 := mv_ne e12 (by decide) H8
  have H9 := mv_ne e12 (by decide) H9
  have H10 := mv_ne e12 (by decide) H10
  have OHB := mv_ne e12 (by decide) OHB
  have OH8 := mv_ne e12 (by decide) OH8
  have OH9 := mv_ne e12 (by decide) OH9
  have OH10 := mv_ne e12 (by decide) OH10
  have fr := fr.set e12 (by decide)
  clear e12
  exact mv_vret dX0_becomeLike_69 rfl ⟨rfl, fr, HB, H8, H9, H10⟩
set_option maxRecDepth 100000 in
theorem k_X0_becomeLike_7_12 {ev : mv_E} {h : mv_H} {b : t_B} {t : Nat} {o : t_B} {u : Nat} (HB : h[7]? = some (.inr (0, [.ref 8, .ref 9, .ref 10, .int (nI b.1), .int (nI t), .int (nI b.2.1)]))) (H8 : h[8]? = some (.inl (0, 60, .inl (fun j => nI (b.2.2.1 j))))) (H9 : h[9]? = some (.inl (0, 60, .inl (fun j => nI (b.2.2.2.1 j))))) (H10 : h[10]? = some (.inl (0, 60, .inl (fun j => nI (b.2.2.2.2 j))))) (OHB : h[12]? = some (.inr (0, [.ref 13, .ref 14, .ref 15, .int (nI o.1), .int (nI u), .int (nI o.2.1)]))) (OH8 : h[13]? = some (.inl (0, 60, .inl (fun j => nI (o.2.2.1 j))))) (OH9 : h[14]? = some (.inl (0, 60, .inl (fun j => nI (o.2.2.2.1 j))))) (OH10 : h[15]? = some (.inl (0, 60, .inl (fun j => nI (o.2.2.2.2 j)))))  : ∃ h2, mv_K ev mX0_becomeLike [.ref 7, .ref 12] h (none) h2 ∧ mv_fra [7, 8, 9, 10] h h2 ∧ h2[7]? = some (.inr (0, [.ref 8, .ref 9, .ref 10, .int (nI (q_cb b o).1), .int (nI u), .int (nI (q_cb b o).2.1)])) ∧ h2[8]? = some (.inl (0, 60, .inl (fun j => nI ((q_cb b o).2.2.1 j)))) ∧ h2[9]? = some (.inl (0, 60, .inl (fun j => nI ((q_cb b o).2.2.2.1 j)))) ∧ h2[10]? = some (.inl (0, 60, .inl (fun j => nI ((q_cb b o).2.2.2.2 j)))) := by
  suffices g0 : mv_g ev mX0_becomeLike 0 (mv_ent [.ref 7, .ref 12] (mv_ml mX0_becomeLike)) [] h (fun r g => r = none ∧ mv_fra [7, 8, 9, 10] h g ∧ g[7]? = some (.inr (0, [.ref 8, .ref 9, .ref 10, .int (nI (q_cb b o).1), .int (nI u), .int (nI (q_cb b o).2.1)])) ∧ g[8]? = some (.inl (0, 60, .inl (fun j => nI ((q_cb b o).2.2.1 j)))) ∧ g[9]? = some (.inl (0, 60, .inl (fun j => nI ((q_cb b o).2.2.2.1 j)))) ∧ g[10]? = some (.inl (0, 60, .inl (fun j => nI ((q_cb b o).2.2.2.2 j))))) from (by obtain ⟨r0, h0, K0, q0, Q0⟩ := mv_Kex g0; subst q0; exact ⟨h0, K0, Q0⟩)
  show mv_g ev mX0_becomeLike 0 [.ref 7, .ref 12] [] h _
  have fr : mv_fra [7, 8, 9, 10] h h := mv_fra.rf
  refine mv_aload_n dX0_becomeLike_0 rfl ?_
  refine mv_getf (ci := 0) (f := 0) dX0_becomeLike_1 OHB rfl (by decide) wd_148 rfl ?_
  refine mv_iconst (v := nI 0) dX0_becomeLike_4 (by decide) ?_
  refine mv_aload_n dX0_becomeLike_5 rfl ?_
  refine mv_getf (ci := 0) (f := 0) dX0_becomeLike_6 HB rfl (by decide) wd_148 rfl ?_
  refine mv_iconst (v := nI 0) dX0_becomeLike_9 (by decide) ?_
  refine mv_bipush (v := nI 60) dX0_becomeLike_10 (by decide) ?_
  refine mv_acopy dX0_becomeLike_12 OH8 H8 wd_1172 (by decide) (Nat.le_of_ble_eq_true rfl) (by decide) (by decide) (by decide) (by decide) (by decide) ?_
  refine mv_topH (fun h1 e2 => ?_)
  have e2c : va_cpy (fun j => nI (o.2.2.1 j)) (fun j => nI (b.2.2.1 j)) (nI 0).toNatClampNeg (nI 0).toNatClampNeg (nI 60).toNatClampNeg = (fun j => nI (q_cp o.2.2.1 b.2.2.1 j)) := (q_cpy _ _)
  rw [e2c] at e2
  have HB := mv_ne e2 (by decide) HB
  have H8 : h1[8]? = some (.inl (0, 60, .inl (fun j => nI (q_cp o.2.2.1 b.2.2.1 j)))) := mv_eq e2 H8
  have H9 := mv_ne e2 (by decide) H9
  have H10 := mv_ne e2 (by decide) H10
  have OHB := mv_ne e2 (by decide) OHB
  have OH8 := mv_ne e2 (by decide) OH8
  have OH9 := mv_ne e2 (by decide) OH9
  have OH10 := mv_ne e2 (by decide) OH10
  have fr := fr.set e2 (by decide)
  clear e2
  refine mv_aload_n dX0_becomeLike_15 rfl ?_
  refine mv_getf (ci := 0) (f := 1) dX0_becomeLike_16 OHB rfl (by decide) wd_149 rfl ?_
  refine mv_iconst (v := nI 0) dX0_becomeLike_19 (by decide) ?_
  refine mv_aload_n dX0_becomeLike_20 rfl ?_
  refine mv_getf (ci := 0) (f := 1) dX0_becomeLike_21 HB rfl (by decide) wd_149 rfl ?_
  refine mv_iconst (v := nI 0) dX0_becomeLike_24 (by decide) ?_
  refine mv_bipush (v := nI 60) dX0_becomeLike_25 (by decide) ?_
  refine mv_acopy dX0_becomeLike_27 OH9 H9 wd_1172 (by decide) (Nat.le_of_ble_eq_true rfl) (by decide) (by decide) (by decide) (by decide) (by decide) ?_
  refine mv_topH (fun h3 e4 => ?_)
  have e4c : va_cpy (fun j => nI (o.2.2.2.1 j)) (fun j => nI (b.2.2.2.1 j)) (nI 0).toNatClampNeg (nI 0).toNatClampNeg (nI 60).toNatClampNeg = (fun j => nI (q_cp o.2.2.2.1 b.2.2.2.1 j)) := (q_cpy _ _)
  rw [e4c] at e4
  have HB := mv_ne e4 (by decide) HB
  have H8 := mv_ne e4 (by decide) H8
  have H9 : h3[9]? = some (.inl (0, 60, .inl (fun j => nI (q_cp o.2.2.2.1 b.2.2.2.1 j)))) := mv_eq e4 H9
  have H10 := mv_ne e4 (by decide) H10
  have OHB := mv_ne e4 (by decide) OHB
  have OH8 := mv_ne e4 (by decide) OH8
  have OH9 := mv_ne e4 (by decide) OH9
  have OH10 := mv_ne e4 (by decide) OH10
  have fr := fr.set e4 (by decide)
  clear e4
  refine mv_aload_n dX0_becomeLike_30 rfl ?_
  refine mv_getf (ci := 0) (f := 2) dX0_becomeLike_31 OHB rfl (by decide) wd_150 rfl ?_
  refine mv_iconst (v := nI 0) dX0_becomeLike_34 (by decide) ?_
  refine mv_aload_n dX0_becomeLike_35 rfl ?_
  refine mv_getf (ci := 0) (f := 2) dX0_becomeLike_36 HB rfl (by decide) wd_150 rfl ?_
  refine mv_iconst (v := nI 0) dX0_becomeLike_39 (by decide) ?_
  refine mv_bipush (v := nI 60) dX0_becomeLike_40 (by decide) ?_
  refine mv_acopy dX0_becomeLike_42 OH10 H10 wd_1172 (by decide) (Nat.le_of_ble_eq_true rfl) (by decide) (by decide) (by decide) (by decide) (by decide) ?_
  refine mv_topH (fun h5 e6 => ?_)
  have e6c : va_cpy (fun j => nI (o.2.2.2.2 j)) (fun j => nI (b.2.2.2.2 j)) (nI 0).toNatClampNeg (nI 0).toNatClampNeg (nI 60).toNatClampNeg = (fun j => nI (q_cp o.2.2.2.2 b.2.2.2.2 j)) := (q_cpy _ _)
  rw [e6c] at e6
  have HB := mv_ne e6 (by decide) HB
  have H8 := mv_ne e6 (by decide) H8
  have H9 := mv_ne e6 (by decide) H9
  have H10 : h5[10]? = some (.inl (0, 60, .inl (fun j => nI (q_cp o.2.2.2.2 b.2.2.2.2 j)))) := mv_eq e6 H10
  have OHB := mv_ne e6 (by decide) OHB
  have OH8 := mv_ne e6 (by decide) OH8
  have OH9 := mv_ne e6 (by decide) OH9
  have OH10 := mv_ne e6 (by decide) OH10
  have fr := fr.set e6 (by decide)
  clear e6
  refine mv_aload_n dX0_becomeLike_45 rfl ?_
  refine mv_aload_n dX0_becomeLike_46 rfl ?_
  refine mv_getf (ci := 0) (f := 3) dX0_becomeLike_47 OHB rfl (by decide) wd_151 rfl ?_
  refine mv_putf (ci := 0) (f := 3) dX0_becomeLike_50 HB rfl (by decide) wd_151 rfl rfl (fun _ => ⟨rfl, rfl⟩) (Nat.le_of_ble_eq_true rfl) ?_
  refine mv_topH (fun h7 e8 => ?_)
  have HB : h7[7]? = some (.inr (0, [.ref 8, .ref 9, .ref 10, .int (nI o.1), .int (nI t), .int (nI b.2.1)])) := mv_eq e8 HB
  have H8 := mv_ne e8 (by decide) H8
  have H9 := mv_ne e8 (by decide) H9
  have H10 := mv_ne e8 (by decide) H10
  have OHB := mv_ne e8 (by decide) OHB
  have OH8 := mv_ne e8 (by decide) OH8
  have OH9 := mv_ne e8 (by decide) OH9
  have OH10 := mv_ne e8 (by decide) OH10
  have fr := fr.set e8 (by decide)
  clear e8
  refine mv_aload_n dX0_becomeLike_53 rfl ?_
  refine mv_aload_n dX0_becomeLike_54 rfl ?_
  refine mv_getf (ci := 0) (f := 4) dX0_becomeLike_55 OHB rfl (by decide) wd_152 rfl ?_
  refine mv_putf (ci := 0) (f := 4) dX0_becomeLike_58 HB rfl (by decide) wd_152 rfl rfl (fun _ => ⟨rfl, rfl⟩) (Nat.le_of_ble_eq_true rfl) ?_
  refine mv_topH (fun h9 e10 => ?_)
  have HB : h9[7]? = some (.inr (0, [.ref 8, .ref 9, .ref 10, .int (nI o.1), .int (nI u), .int (nI b.2.1)])) := mv_eq e10 HB
  have H8 := mv_ne e10 (by decide) H8
  have H9 := mv_ne e10 (by decide) H9
  have H10 := mv_ne e10 (by decide) H10
  have OHB := mv_ne e10 (by decide) OHB
  have OH8 := mv_ne e10 (by decide) OH8
  have OH9 := mv_ne e10 (by decide) OH9
  have OH10 := mv_ne e10 (by decide) OH10
  have fr := fr.set e10 (by decide)
  clear e10
  refine mv_aload_n dX0_becomeLike_61 rfl ?_
  refine mv_aload_n dX0_becomeLike_62 rfl ?_
  refine mv_getf (ci := 0) (f := 5) dX0_becomeLike_63 OHB rfl (by decide) wd_153 rfl ?_
  refine mv_putf (ci := 0) (f := 5) dX0_becomeLike_66 HB rfl (by decide) wd_153 rfl rfl (fun _ => ⟨rfl, rfl⟩) (Nat.le_of_ble_eq_true rfl) ?_
  refine mv_topH (fun h11 e12 => ?_)
  have HB : h11[7]? = some (.inr (0, [.ref 8, .ref 9, .ref 10, .int (nI o.1), .int (nI u), .int (nI o.2.1)])) := mv_eq e12 HB
  have H8 := mv_ne e12 (by decide) H8
  have H9 := mv_ne e12 (by decide) H9
  have H10 := mv_ne e12 (by decide) H10
  have OHB := mv_ne e12 (by decide) OHB
  have OH8 := mv_ne e12 (by decide) OH8
  have OH9 := mv_ne e12 (by decide) OH9
  have OH10 := mv_ne e12 (by decide) OH10
  have fr := fr.set e12 (by decide)
  clear e12
  exact mv_vret dX0_becomeLike_69 rfl ⟨rfl, fr, HB, H8, H9, H10⟩
set_option maxRecDepth 100000 in
theorem k_X0_becomeLike_7_16 {ev : mv_E} {h : mv_H} {b : t_B} {t : Nat} {o : t_B} {u : Nat} (HB : h[7]? = some (.inr (0, [.ref 8, .ref 9, .ref 10, .int (nI b.1), .int (nI t), .int (nI b.2.1)]))) (H8 : h[8]? = some (.inl (0, 60, .inl (fun j => nI (b.2.2.1 j))))) (H9 : h[9]? = some (.inl (0, 60, .inl (fun j => nI (b.2.2.2.1 j))))) (H10 : h[10]? = some (.inl (0, 60, .inl (fun j => nI (b.2.2.2.2 j))))) (OHB : h[16]? = some (.inr (0, [.ref 17, .ref 18, .ref 19, .int (nI o.1), .int (nI u), .int (nI o.2.1)]))) (OH8 : h[17]? = some (.inl (0, 60, .inl (fun j => nI (o.2.2.1 j))))) (OH9 : h[18]? = some (.inl (0, 60, .inl (fun j => nI (o.2.2.2.1 j))))) (OH10 : h[19]? = some (.inl (0, 60, .inl (fun j => nI (o.2.2.2.2 j)))))  : ∃ h2, mv_K ev mX0_becomeLike [.ref 7, .ref 16] h (none) h2 ∧ mv_fra [7, 8, 9, 10] h h2 ∧ h2[7]? = some (.inr (0, [.ref 8, .ref 9, .ref 10, .int (nI (q_cb b o).1), .int (nI u), .int (nI (q_cb b o).2.1)])) ∧ h2[8]? = some (.inl (0, 60, .inl (fun j => nI ((q_cb b o).2.2.1 j)))) ∧ h2[9]? = some (.inl (0, 60, .inl (fun j => nI ((q_cb b o).2.2.2.1 j)))) ∧ h2[10]? = some (.inl (0, 60, .inl (fun j => nI ((q_cb b o).2.2.2.2 j)))) := by
  suffices g0 : mv_g ev mX0_becomeLike 0 (mv_ent [.ref 7, .ref 16] (mv_ml mX0_becomeLike)) [] h (fun r g => r = none ∧ mv_fra [7, 8, 9, 10] h g ∧ g[7]? = some (.inr (0, [.ref 8, .ref 9, .ref 10, .int (nI (q_cb b o).1), .int (nI u), .int (nI (q_cb b o).2.1)])) ∧ g[8]? = some (.inl (0, 60, .inl (fun j => nI ((q_cb b o).2.2.1 j)))) ∧ g[9]? = some (.inl (0, 60, .inl (fun j => nI ((q_cb b o).2.2.2.1 j)))) ∧ g[10]? = some (.inl (0, 60, .inl (fun j => nI ((q_cb b o).2.2.2.2 j))))) from (by obtain ⟨r0, h0, K0, q0, Q0⟩ := mv_Kex g0; subst q0; exact ⟨h0, K0, Q0⟩)
  show mv_g ev mX0_becomeLike 0 [.ref 7, .ref 16] [] h _
  have fr : mv_fra [7, 8, 9, 10] h h := mv_fra.rf
  refine mv_aload_n dX0_becomeLike_0 rfl ?_
  refine mv_getf (ci := 0) (f := 0) dX0_becomeLike_1 OHB rfl (by decide) wd_148 rfl ?_
  refine mv_iconst (v := nI 0) dX0_becomeLike_4 (by decide) ?_
  refine mv_aload_n dX0_becomeLike_5 rfl ?_
  refine mv_getf (ci := 0) (f := 0) dX0_becomeLike_6 HB rfl (by decide) wd_148 rfl ?_
  refine mv_iconst (v := nI 0) dX0_becomeLike_9 (by decide) ?_
  refine mv_bipush (v := nI 60) dX0_becomeLike_10 (by decide) ?_
  refine mv_acopy dX0_becomeLike_12 OH8 H8 wd_1172 (by decide) (Nat.le_of_ble_eq_true rfl) (by decide) (by decide) (by decide) (by decide) (by decide) ?_
  refine mv_topH (fun h1 e2 => ?_)
  have e2c : va_cpy (fun j => nI (o.2.2.1 j)) (fun j => nI (b.2.2.1 j)) (nI 0).toNatClampNeg (nI 0).toNatClampNeg (nI 60).toNatClampNeg = (fun j => nI (q_cp o.2.2.1 b.2.2.1 j)) := (q_cpy _ _)
  rw [e2c] at e2
  have HB := mv_ne e2 (by decide) HB
  have H8 : h1[8]? = some (.inl (0, 60, .inl (fun j => nI (q_cp o.2.2.1 b.2.2.1 j)))) := mv_eq e2 H8
  have H9 := mv_ne e2 (by decide) H9
  have H10 := mv_ne e2 (by decide) H10
  have OHB := mv_ne e2 (by decide) OHB
  have OH8 := mv_ne e2 (by decide) OH8
  have OH9 := mv_ne e2 (by decide) OH9
  have OH10 := mv_ne e2 (by decide) OH10
  have fr := fr.set e2 (by decide)
  clear e2
  refine mv_aload_n dX0_becomeLike_15 rfl ?_
  refine mv_getf (ci := 0) (f := 1) dX0_becomeLike_16 OHB rfl (by decide) wd_149 rfl ?_
  refine mv_iconst (v := nI 0) dX0_becomeLike_19 (by decide) ?_
  refine mv_aload_n dX0_becomeLike_20 rfl ?_
  refine mv_getf (ci := 0) (f := 1) dX0_becomeLike_21 HB rfl (by decide) wd_149 rfl ?_
  refine mv_iconst (v := nI 0) dX0_becomeLike_24 (by decide) ?_
  refine mv_bipush (v := nI 60) dX0_becomeLike_25 (by decide) ?_
  refine mv_acopy dX0_becomeLike_27 OH9 H9 wd_1172 (by decide) (Nat.le_of_ble_eq_true rfl) (by decide) (by decide) (by decide) (by decide) (by decide) ?_
  refine mv_topH (fun h3 e4 => ?_)
  have e4c : va_cpy (fun j => nI (o.2.2.2.1 j)) (fun j => nI (b.2.2.2.1 j)) (nI 0).toNatClampNeg (nI 0).toNatClampNeg (nI 60).toNatClampNeg = (fun j => nI (q_cp o.2.2.2.1 b.2.2.2.1 j)) := (q_cpy _ _)
  rw [e4c] at e4
  have HB := mv_ne e4 (by decide) HB
  have H8 := mv_ne e4 (by decide) H8
  have H9 : h3[9]? = some (.inl (0, 60, .inl (fun j => nI (q_cp o.2.2.2.1 b.2.2.2.1 j)))) := mv_eq e4 H9
  have H10 := mv_ne e4 (by decide) H10
  have OHB := mv_ne e4 (by decide) OHB
  have OH8 := mv_ne e4 (by decide) OH8
  have OH9 := mv_ne e4 (by decide) OH9
  have OH10 := mv_ne e4 (by decide) OH10
  have fr := fr.set e4 (by decide)
  clear e4
  refine mv_aload_n dX0_becomeLike_30 rfl ?_
  refine mv_getf (ci := 0) (f := 2) dX0_becomeLike_31 OHB rfl (by decide) wd_150 rfl ?_
  refine mv_iconst (v := nI 0) dX0_becomeLike_34 (by decide) ?_
  refine mv_aload_n dX0_becomeLike_35 rfl ?_
  refine mv_getf (ci := 0) (f := 2) dX0_becomeLike_36 HB rfl (by decide) wd_150 rfl ?_
  refine mv_iconst (v := nI 0) dX0_becomeLike_39 (by decide) ?_
  refine mv_bipush (v := nI 60) dX0_becomeLike_40 (by decide) ?_
  refine mv_acopy dX0_becomeLike_42 OH10 H10 wd_1172 (by decide) (Nat.le_of_ble_eq_true rfl) (by decide) (by decide) (by decide) (by decide) (by decide) ?_
  refine mv_topH (fun h5 e6 => ?_)
  have e6c : va_cpy (fun j => nI (o.2.2.2.2 j)) (fun j => nI (b.2.2.2.2 j)) (nI 0).toNatClampNeg (nI 0).toNatClampNeg (nI 60).toNatClampNeg = (fun j => nI (q_cp o.2.2.2.2 b.2.2.2.2 j)) := (q_cpy _ _)
  rw [e6c] at e6
  have HB := mv_ne e6 (by decide) HB
  have H8 := mv_ne e6 (by decide) H8
  have H9 := mv_ne e6 (by decide) H9
  have H10 : h5[10]? = some (.inl (0, 60, .inl (fun j => nI (q_cp o.2.2.2.2 b.2.2.2.2 j)))) := mv_eq e6 H10
  have OHB := mv_ne e6 (by decide) OHB
  have OH8 := mv_ne e6 (by decide) OH8
  have OH9 := mv_ne e6 (by decide) OH9
  have OH10 := mv_ne e6 (by decide) OH10
  have fr := fr.set e6 (by decide)
  clear e6
  refine mv_aload_n dX0_becomeLike_45 rfl ?_
  refine mv_aload_n dX0_becomeLike_46 rfl ?_
  refine mv_getf (ci := 0) (f := 3) dX0_becomeLike_47 OHB rfl (by decide) wd_151 rfl ?_
  refine mv_putf (ci := 0) (f := 3) dX0_becomeLike_50 HB rfl (by decide) wd_151 rfl rfl (fun _ => ⟨rfl, rfl⟩) (Nat.le_of_ble_eq_true rfl) ?_
  refine mv_topH (fun h7 e8 => ?_)
  have HB : h7[7]? = some (.inr (0, [.ref 8, .ref 9, .ref 10, .int (nI o.1), .int (nI t), .int (nI b.2.1)])) := mv_eq e8 HB
  have H8 := mv_ne e8 (by decide) H8
  have H9 := mv_ne e8 (by decide) H9
  have H10 := mv_ne e8 (by decide) H10
  have OHB := mv_ne e8 (by decide) OHB
  have OH8 := mv_ne e8 (by decide) OH8
  have OH9 := mv_ne e8 (by decide) OH9
  have OH10 := mv_ne e8 (by decide) OH10
  have fr := fr.set e8 (by decide)
  clear e8
  refine mv_aload_n dX0_becomeLike_53 rfl ?_
  refine mv_aload_n dX0_becomeLike_54 rfl ?_
  refine mv_getf (ci := 0) (f := 4) dX0_becomeLike_55 OHB rfl (by decide) wd_152 rfl ?_
  refine mv_putf (ci := 0) (f := 4) dX0_becomeLike_58 HB rfl (by decide) wd_152 rfl rfl (fun _ => ⟨rfl, rfl⟩) (Nat.le_of_ble_eq_true rfl) ?_
  refine mv_topH (fun h9 e10 => ?_)
  have HB : h9[7]? = some (.inr (0, [.ref 8, .ref 9, .ref 10, .int (nI o.1), .int (nI u), .int (nI b.2.1)])) := mv_eq e10 HB
  have H8 := mv_ne e10 (by decide) H8
  have H9 := mv_ne e10 (by decide) H9
  have H10 := mv_ne e10 (by decide) H10
  have OHB := mv_ne e10 (by decide) OHB
  have OH8 := mv_ne e10 (by decide) OH8
  have OH9 := mv_ne e10 (by decide) OH9
  have OH10 := mv_ne e10 (by decide) OH10
  have fr := fr.set e10 (by decide)
  clear e10
  refine mv_aload_n dX0_becomeLike_61 rfl ?_
  refine mv_aload_n dX0_becomeLike_62 rfl ?_
  refine mv_getf (ci := 0) (f := 5) dX0_becomeLike_63 OHB rfl (by decide) wd_153 rfl ?_
  refine mv_putf (ci := 0) (f := 5) dX0_becomeLike_66 HB rfl (by decide) wd_153 rfl rfl (fun _ => ⟨rfl, rfl⟩) (Nat.le_of_ble_eq_true rfl) ?_
  refine mv_topH (fun h11 e12 => ?_)
  have HB : h11[7]? = some (.inr (0, [.ref 8, .ref 9, .ref 10, .int (nI o.1), .int (nI u), .int (nI o.2.1)])) := mv_eq e12 HB
  have H8 := mv_ne e12 (by decide) H8
  have H9 := mv_ne e12 (by decide) H9
  have H10 := mv_ne e12 (by decide) H10
  have OHB := mv_ne e12 (by decide) OHB
  have OH8 := mv_ne e12 (by decide) OH8
  have OH9 := mv_ne e12 (by decide) OH9
  have OH10 := mv_ne e12 (by decide) OH10
  have fr := fr.set e12 (by decide)
  clear e12
  exact mv_vret dX0_becomeLike_69 rfl ⟨rfl, fr, HB, H8, H9, H10⟩
set_option maxRecDepth 100000 in
theorem k_X4_has {ev : mv_E} {h : mv_H} {kp : Nat → Nat} {x : Int32} (HI : h[11]? = some (.inr (4, [.ref 12, .ref 16, .ref 20]))) (HK : h[20]? = some (.inl (2, 2, .inl (fun j => nI (kp j)))))  : mv_K ev mX4_has [.ref 11, .int x] h (some (.int (mv_b (nI 0 ≤ x ∧ x ≤ nI 1)))) h := by
  refine mv_Kof ?_
  show mv_g ev mX4_has 0 [.ref 11, .int x] [] h _
  refine mv_iload_n dX4_has_0 rfl ?_
  refine mv_iconst (v := nI 0) dX4_has_1 (by decide) ?_
  refine mv_aload_n dX4_has_2 rfl ?_
  refine mv_getf (ci := 4) (f := 2) dX4_has_3 HI rfl (by decide) wd_177 rfl ?_
  refine mv_alen dX4_has_6 HK (by decide) ?_
  refine mv_iconst (v := nI 1) dX4_has_7 (by decide) ?_
  refine mv_isub dX4_has_8 ?_
  refine mv_topI (y := nI 1) (pk_sub (a := 2) (b := 1) (by decide)) ?_
  refine mv_cSN3 dX4_has_9 lk_X4_has_25 (Nat.le_of_ble_eq_true rfl) (Nat.le_of_ble_eq_true rfl) (k_X11_within (ev := ev)) ?_
  exact mv_iret dX4_has_12 rfl (mv_b_nar _) ⟨rfl, rfl⟩
set_option maxRecDepth 100000 in
theorem k_X4_imageOf0 {ev : mv_E} {h : mv_H} (HI : h[11]? = some (.inr (4, [.ref 12, .ref 16, .ref 20])))  : mv_K ev mX4_imageOf [.ref 11, .int (nI 0)] h (some (.ref 12)) h := by
  refine mv_Kof ?_
  show mv_g ev mX4_imageOf 0 [.ref 11, .int (nI 0)] [] h _
  refine mv_iload_n dX4_imageOf_0 rfl ?_
  refine mv_if_ne (tgt := 11) dX4_imageOf_1 (by decide) (fun z => absurd ((by decide)) z) (fun c1 => ?_)
  refine mv_aload_n dX4_imageOf_4 rfl ?_
  refine mv_getf (ci := 4) (f := 0) dX4_imageOf_5 HI rfl (by decide) wd_175 rfl ?_
  refine mv_goto (tgt := 15) dX4_imageOf_8 (by decide) ?_
  exact mv_aret dX4_imageOf_15 rfl (Or.inl ⟨_, rfl⟩) ⟨rfl, rfl⟩
set_option maxRecDepth 100000 in
theorem k_X4_imageOf1 {ev : mv_E} {h : mv_H} (HI : h[11]? = some (.inr (4, [.ref 12, .ref 16, .ref 20])))  : mv_K ev mX4_imageOf [.ref 11, .int (nI 1)] h (some (.ref 16)) h := by
  refine mv_Kof ?_
  show mv_g ev mX4_imageOf 0 [.ref 11, .int (nI 1)] [] h _
  refine mv_iload_n dX4_imageOf_0 rfl ?_
  refine mv_if_ne (tgt := 11) dX4_imageOf_1 (by decide) (fun c1 => ?_) (fun z => absurd z ((by decide)))
  refine mv_aload_n dX4_imageOf_11 rfl ?_
  refine mv_getf (ci := 4) (f := 1) dX4_imageOf_12 HI rfl (by decide) wd_176 rfl ?_
  exact mv_aret dX4_imageOf_15 rfl (Or.inl ⟨_, rfl⟩) ⟨rfl, rfl⟩
set_option maxRecDepth 100000 in
theorem k_X4_isKept {ev : mv_E} {h : mv_H} {kp : Nat → Nat} {i : Nat} (HI : h[11]? = some (.inr (4, [.ref 12, .ref 16, .ref 20]))) (HK : h[20]? = some (.inl (2, 2, .inl (fun j => nI (kp j))))) (hi : i ≤ 1) (hk : ∀ i, kp i ≤ 1) : mv_K ev mX4_isKept [.ref 11, .int (nI i)] h (some (.int (nI (kp i)))) h := by
  refine mv_Kof ?_
  show mv_g ev mX4_isKept 0 [.ref 11, .int (nI i)] [] h _
  have n1 := hk i
  refine mv_aload_n dX4_isKept_0 rfl ?_
  refine mv_iload_n dX4_isKept_1 rfl ?_
  refine mv_cV1 (ci := 4) dX4_isKept_2 lk_X4_isKept_29 HI rfl (Nat.le_of_ble_eq_true rfl) (Nat.le_of_ble_eq_true rfl) (k_X4_has (ev := ev) HI HK) ?_
  refine mv_if_eq (tgt := 21) dX4_isKept_5 (by decide) (fun z => absurd z ((fun z => (mv_b_0 _).mp z (mv_in_i (by omega) (by omega) (by omega))))) (fun c5 => ?_)
  refine mv_aload_n dX4_isKept_8 rfl ?_
  refine mv_getf (ci := 4) (f := 2) dX4_isKept_9 HI rfl (by decide) wd_177 rfl ?_
  refine mv_iload_n dX4_isKept_12 rfl ?_
  refine mv_zaN (j := i) (x := nI (kp i)) dX4_isKept_13 HK rfl (by decide) (by omega) rfl ?_
  refine mv_if_eq (tgt := 21) dX4_isKept_14 (by decide) (fun c14 => ?_) (fun c14 => ?_)
  · have c14 : kp i = 0 := (nI_eq (b := 0) (by omega) (by omega)).mp c14
    refine mv_iconst (v := nI 0) dX4_isKept_21 (by decide) ?_
    exact mv_iret dX4_isKept_22 rfl rfl ⟨(congrArg (fun z => some (Value.int z)) (congrArg nI (by omega))), rfl⟩
  · have c14 : ¬ (kp i = 0) := fun z => c14 ((nI_eq (b := 0) (by omega) (by omega)).mpr z)
    refine mv_iconst (v := nI 1) dX4_isKept_17 (by decide) ?_
    refine mv_goto (tgt := 22) dX4_isKept_18 (by decide) ?_
    exact mv_iret dX4_isKept_22 rfl rfl ⟨(congrArg (fun z => some (Value.int z)) (congrArg nI (by omega))), rfl⟩
set_option maxRecDepth 100000 in
theorem k_X4_keepImage0 {ev : mv_E} {h : mv_H} {b : t_B} {t : Nat} {o : t_B} {u : Nat} {kp : Nat → Nat} (HI : h[11]? = some (.inr (4, [.ref 12, .ref 16, .ref 20]))) (HK : h[20]? = some (.inl (2, 2, .inl (fun j => nI (kp j))))) (HB : h[7]? = some (.inr (0, [.ref 8, .ref 9, .ref 10, .int (nI b.1), .int (nI t), .int (nI b.2.1)]))) (H8 : h[8]? = some (.inl (0, 60, .inl (fun j => nI (b.2.2.1 j))))) (H9 : h[9]? = some (.inl (0, 60, .inl (fun j => nI (b.2.2.2.1 j))))) (H10 : h[10]? = some (.inl (0, 60, .inl (fun j => nI (b.2.2.2.2 j))))) (OHB : h[12]? = some (.inr (0, [.ref 13, .ref 14, .ref 15, .int (nI o.1), .int (nI u), .int (nI o.2.1)]))) (OH8 : h[13]? = some (.inl (0, 60, .inl (fun j => nI (o.2.2.1 j))))) (OH9 : h[14]? = some (.inl (0, 60, .inl (fun j => nI (o.2.2.2.1 j))))) (OH10 : h[15]? = some (.inl (0, 60, .inl (fun j => nI (o.2.2.2.2 j)))))  : ∃ h2, mv_K ev mX4_keepImage [.ref 11, .int (nI 0), .ref 7] h (some (.int (nI 1))) h2 ∧ mv_fra [12, 13, 14, 15, 20] h h2 ∧ h2[12]? = some (.inr (0, [.ref 13, .ref 14, .ref 15, .int (nI (q_cb o b).1), .int (nI t), .int (nI (q_cb o b).2.1)])) ∧ h2[13]? = some (.inl (0, 60, .inl (fun j => nI ((q_cb o b).2.2.1 j)))) ∧ h2[14]? = some (.inl (0, 60, .inl (fun j => nI ((q_cb o b).2.2.2.1 j)))) ∧ h2[15]? = some (.inl (0, 60, .inl (fun j => nI ((q_cb o b).2.2.2.2 j)))) ∧ h2[20]? = some (.inl (2, 2, .inl (fun j => nI (t_up kp 0 1 j)))) := by
  suffices g0 : mv_g ev mX4_keepImage 0 (mv_ent [.ref 11, .int (nI 0), .ref 7] (mv_ml mX4_keepImage)) [] h (fun r g => r = some (.int (nI 1)) ∧ mv_fra [12, 13, 14, 15, 20] h g ∧ g[12]? = some (.inr (0, [.ref 13, .ref 14, .ref 15, .int (nI (q_cb o b).1), .int (nI t), .int (nI (q_cb o b).2.1)])) ∧ g[13]? = some (.inl (0, 60, .inl (fun j => nI ((q_cb o b).2.2.1 j)))) ∧ g[14]? = some (.inl (0, 60, .inl (fun j => nI ((q_cb o b).2.2.2.1 j)))) ∧ g[15]? = some (.inl (0, 60, .inl (fun j => nI ((q_cb o b).2.2.2.2 j)))) ∧ g[20]? = some (.inl (2, 2, .inl (fun j => nI (t_up kp 0 1 j))))) from (by obtain ⟨r0, h0, K0, q0, Q0⟩ := mv_Kex g0; subst q0; exact ⟨h0, K0, Q0⟩)
  show mv_g ev mX4_keepImage 0 [.ref 11, .int (nI 0), .ref 7] [] h _
  have fr : mv_fra [12, 13, 14, 15, 20] h h := mv_fra.rf
  refine mv_aload_n dX4_keepImage_0 rfl ?_
  refine mv_iload_n dX4_keepImage_1 rfl ?_
  refine mv_cV1 (ci := 4) dX4_keepImage_2 lk_X4_keepImage_29 HI rfl (Nat.le_of_ble_eq_true rfl) (Nat.le_of_ble_eq_true rfl) (k_X4_has (ev := ev) HI HK) ?_
  refine mv_if_ne (tgt := 10) dX4_keepImage_5 (by decide) (fun c5 => ?_) (fun z => absurd z ((fun z => (mv_b_0 _).mp z (mv_in_i (by decide) (by decide) (by decide)))))
  refine mv_aload_n dX4_keepImage_10 rfl ?_
  refine mv_iload_n dX4_keepImage_11 rfl ?_
  refine mv_cV1 (ci := 4) dX4_keepImage_12 lk_X4_keepImage_33 HI rfl (Nat.le_of_ble_eq_true rfl) (Nat.le_of_ble_eq_true rfl) (k_X4_imageOf0 (ev := ev) HI) ?_
  refine mv_aload_n dX4_keepImage_15 rfl ?_
  obtain ⟨h1, K2, f3, y4, y5, y6, y7⟩ := (k_X0_becomeLike_12_7 (ev := ev) (b := o) (t := u) (o := b) (u := t) OHB OH8 OH9 OH10 HB H8 H9 H10)
  refine mv_cV1 (ci := 0) dX4_keepImage_16 lk_X4_keepImage_37 OHB rfl (Nat.le_of_ble_eq_true rfl) (Nat.le_of_ble_eq_true rfl) K2 ?_
  have HI := f3.get (by decide) HI
  have HK := f3.get (by decide) HK
  have HB := f3.get (by decide) HB
  have H8 := f3.get (by decide) H8
  have H9 := f3.get (by decide) H9
  have H10 := f3.get (by decide) H10
  have OHB : h1[12]? = some (.inr (0, [.ref 13, .ref 14, .ref 15, .int (nI (q_cb o b).1), .int (nI t), .int (nI (q_cb o b).2.1)])) := y4
  have OH8 : h1[13]? = some (.inl (0, 60, .inl (fun j => nI ((q_cb o b).2.2.1 j)))) := y5
  have OH9 : h1[14]? = some (.inl (0, 60, .inl (fun j => nI ((q_cb o b).2.2.2.1 j)))) := y6
  have OH10 : h1[15]? = some (.inl (0, 60, .inl (fun j => nI ((q_cb o b).2.2.2.2 j)))) := y7
  have fr := fr.trans f3 (by decide)
  refine mv_aload_n dX4_keepImage_19 rfl ?_
  refine mv_getf (ci := 4) (f := 2) dX4_keepImage_20 HI rfl (by decide) wd_177 rfl ?_
  refine mv_iload_n dX4_keepImage_23 rfl ?_
  refine mv_iconst (v := nI 1) dX4_keepImage_24 (by decide) ?_
  refine mv_zastN (j := 0) dX4_keepImage_25 HK rfl (by decide) (by omega) rfl (fun h8 e9 => ?_)
  rw [upd_nI] at e9
  have HI := mv_ne e9 (by decide) HI
  have HK : h8[20]? = some (.inl (2, 2, .inl (fun j => nI (t_up kp 0 1 j)))) := mv_eq e9 HK
  have HB := mv_ne e9 (by decide) HB
  have H8 := mv_ne e9 (by decide) H8
  have H9 := mv_ne e9 (by decide) H9
  have H10 := mv_ne e9 (by decide) H10
  have OHB := mv_ne e9 (by decide) OHB
  have OH8 := mv_ne e9 (by decide) OH8
  have OH9 := mv_ne e9 (by decide) OH9
  have OH10 := mv_ne e9 (by decide) OH10
  have fr := fr.set e9 (by decide)
  clear e9
  refine mv_iconst (v := nI 1) dX4_keepImage_26 (by decide) ?_
  exact mv_iret dX4_keepImage_27 rfl rfl ⟨rfl, fr, OHB, OH8, OH9, OH10, HK⟩
set_option maxRecDepth 100000 in
theorem k_X4_bringBack0 {ev : mv_E} {h : mv_H} {b : t_B} {t : Nat} {o : t_B} {u : Nat} (HI : h[11]? = some (.inr (4, [.ref 12, .ref 16, .ref 20]))) (HB : h[7]? = some (.inr (0, [.ref 8, .ref 9, .ref 10, .int (nI b.1), .int (nI t), .int (nI b.2.1)]))) (H8 : h[8]? = some (.inl (0, 60, .inl (fun j => nI (b.2.2.1 j))))) (H9 : h[9]? = some (.inl (0, 60, .inl (fun j => nI (b.2.2.2.1 j))))) (H10 : h[10]? = some (.inl (0, 60, .inl (fun j => nI (b.2.2.2.2 j))))) (OHB : h[12]? = some (.inr (0, [.ref 13, .ref 14, .ref 15, .int (nI o.1), .int (nI u), .int (nI o.2.1)]))) (OH8 : h[13]? = some (.inl (0, 60, .inl (fun j => nI (o.2.2.1 j))))) (OH9 : h[14]? = some (.inl (0, 60, .inl (fun j => nI (o.2.2.2.1 j))))) (OH10 : h[15]? = some (.inl (0, 60, .inl (fun j => nI (o.2.2.2.2 j)))))  : ∃ h2, mv_K ev mX4_bringBack [.ref 11, .int (nI 0), .ref 7] h (some (.int (nI 1))) h2 ∧ mv_fra [7, 8, 9, 10] h h2 ∧ h2[7]? = some (.inr (0, [.ref 8, .ref 9, .ref 10, .int (nI (q_cb b o).1), .int (nI u), .int (nI (q_cb b o).2.1)])) ∧ h2[8]? = some (.inl (0, 60, .inl (fun j => nI ((q_cb b o).2.2.1 j)))) ∧ h2[9]? = some (.inl (0, 60, .inl (fun j => nI ((q_cb b o).2.2.2.1 j)))) ∧ h2[10]? = some (.inl (0, 60, .inl (fun j => nI ((q_cb b o).2.2.2.2 j)))) := by
  suffices g0 : mv_g ev mX4_bringBack 0 (mv_ent [.ref 11, .int (nI 0), .ref 7] (mv_ml mX4_bringBack)) [] h (fun r g => r = some (.int (nI 1)) ∧ mv_fra [7, 8, 9, 10] h g ∧ g[7]? = some (.inr (0, [.ref 8, .ref 9, .ref 10, .int (nI (q_cb b o).1), .int (nI u), .int (nI (q_cb b o).2.1)])) ∧ g[8]? = some (.inl (0, 60, .inl (fun j => nI ((q_cb b o).2.2.1 j)))) ∧ g[9]? = some (.inl (0, 60, .inl (fun j => nI ((q_cb b o).2.2.2.1 j)))) ∧ g[10]? = some (.inl (0, 60, .inl (fun j => nI ((q_cb b o).2.2.2.2 j))))) from (by obtain ⟨r0, h0, K0, q0, Q0⟩ := mv_Kex g0; subst q0; exact ⟨h0, K0, Q0⟩)
  show mv_g ev mX4_bringBack 0 [.ref 11, .int (nI 0), .ref 7] [] h _
  have fr : mv_fra [7, 8, 9, 10] h h := mv_fra.rf
  refine mv_aload_n dX4_bringBack_0 rfl ?_
  refine mv_aload_n dX4_bringBack_1 rfl ?_
  refine mv_iload_n dX4_bringBack_2 rfl ?_
  refine mv_cV1 (ci := 4) dX4_bringBack_3 lk_X4_bringBack_33 HI rfl (Nat.le_of_ble_eq_true rfl) (Nat.le_of_ble_eq_true rfl) (k_X4_imageOf0 (ev := ev) HI) ?_
  obtain ⟨h1, K2, f3, y4, y5, y6, y7⟩ := (k_X0_becomeLike_7_12 (ev := ev) (b := b) (t := t) (o := o) (u := u) HB H8 H9 H10 OHB OH8 OH9 OH10)
  refine mv_cV1 (ci := 0) dX4_bringBack_6 lk_X4_bringBack_37 HB rfl (Nat.le_of_ble_eq_true rfl) (Nat.le_of_ble_eq_true rfl) K2 ?_
  have HI := f3.get (by decide) HI
  have HB : h1[7]? = some (.inr (0, [.ref 8, .ref 9, .ref 10, .int (nI (q_cb b o).1), .int (nI u), .int (nI (q_cb b o).2.1)])) := y4
  have H8 : h1[8]? = some (.inl (0, 60, .inl (fun j => nI ((q_cb b o).2.2.1 j)))) := y5
  have H9 : h1[9]? = some (.inl (0, 60, .inl (fun j => nI ((q_cb b o).2.2.2.1 j)))) := y6
  have H10 : h1[10]? = some (.inl (0, 60, .inl (fun j => nI ((q_cb b o).2.2.2.2 j)))) := y7
  have OHB := f3.get (by decide) OHB
  have OH8 := f3.get (by decide) OH8
  have OH9 := f3.get (by decide) OH9
  have OH10 := f3.get (by decide) OH10
  have fr := fr.trans f3 (by decide)
  refine mv_iconst (v := nI 1) dX4_bringBack_9 (by decide) ?_
  exact mv_iret dX4_bringBack_10 rfl rfl ⟨rfl, fr, HB, H8, H9, H10⟩
set_option maxRecDepth 100000 in
theorem k_X4_keepImage1 {ev : mv_E} {h : mv_H} {b : t_B} {t : Nat} {o : t_B} {u : Nat} {kp : Nat → Nat} (HI : h[11]? = some (.inr (4, [.ref 12, .ref 16, .ref 20]))) (HK : h[20]? = some (.inl (2, 2, .inl (fun j => nI (kp j))))) (HB : h[7]? = some (.inr (0, [.ref 8, .ref 9, .ref 10, .int (nI b.1), .int (nI t), .int (nI b.2.1)]))) (H8 : h[8]? = some (.inl (0, 60, .inl (fun j => nI (b.2.2.1 j))))) (H9 : h[9]? = some (.inl (0, 60, .inl (fun j => nI (b.2.2.2.1 j))))) (H10 : h[10]? = some (.inl (0, 60, .inl (fun j => nI (b.2.2.2.2 j))))) (OHB : h[16]? = some (.inr (0, [.ref 17, .ref 18, .ref 19, .int (nI o.1), .int (nI u), .int (nI o.2.1)]))) (OH8 : h[17]? = some (.inl (0, 60, .inl (fun j => nI (o.2.2.1 j))))) (OH9 : h[18]? = some (.inl (0, 60, .inl (fun j => nI (o.2.2.2.1 j))))) (OH10 : h[19]? = some (.inl (0, 60, .inl (fun j => nI (o.2.2.2.2 j)))))  : ∃ h2, mv_K ev mX4_keepImage [.ref 11, .int (nI 1), .ref 7] h (some (.int (nI 1))) h2 ∧ mv_fra [16, 17, 18, 19, 20] h h2 ∧ h2[16]? = some (.inr (0, [.ref 17, .ref 18, .ref 19, .int (nI (q_cb o b).1), .int (nI t), .int (nI (q_cb o b).2.1)])) ∧ h2[17]? = some (.inl (0, 60, .inl (fun j => nI ((q_cb o b).2.2.1 j)))) ∧ h2[18]? = some (.inl (0, 60, .inl (fun j => nI ((q_cb o b).2.2.2.1 j)))) ∧ h2[19]? = some (.inl (0, 60, .inl (fun j => nI ((q_cb o b).2.2.2.2 j)))) ∧ h2[20]? = some (.inl (2, 2, .inl (fun j => nI (t_up kp 1 1 j)))) := by
  suffices g0 : mv_g ev mX4_keepImage 0 (mv_ent [.ref 11, .int (nI 1), .ref 7] (mv_ml mX4_keepImage)) [] h (fun r g => r = some (.int (nI 1)) ∧ mv_fra [16, 17, 18, 19, 20] h g ∧ g[16]? = some (.inr (0, [.ref 17, .ref 18, .ref 19, .int (nI (q_cb o b).1), .int (nI t), .int (nI (q_cb o b).2.1)])) ∧ g[17]? = some (.inl (0, 60, .inl (fun j => nI ((q_cb o b).2.2.1 j)))) ∧ g[18]? = some (.inl (0, 60, .inl (fun j => nI ((q_cb o b).2.2.2.1 j)))) ∧ g[19]? = some (.inl (0, 60, .inl (fun j => nI ((q_cb o b).2.2.2.2 j)))) ∧ g[20]? = some (.inl (2, 2, .inl (fun j => nI (t_up kp 1 1 j))))) from (by obtain ⟨r0, h0, K0, q0, Q0⟩ := mv_Kex g0; subst q0; exact ⟨h0, K0, Q0⟩)
  show mv_g ev mX4_keepImage 0 [.ref 11, .int (nI 1), .ref 7] [] h _
  have fr : mv_fra [16, 17, 18, 19, 20] h h := mv_fra.rf
  refine mv_aload_n dX4_keepImage_0 rfl ?_
  refine mv_iload_n dX4_keepImage_1 rfl ?_
  refine mv_cV1 (ci := 4) dX4_keepImage_2 lk_X4_keepImage_29 HI rfl (Nat.le_of_ble_eq_true rfl) (Nat.le_of_ble_eq_true rfl) (k_X4_has (ev := ev) HI HK) ?_
  refine mv_if_ne (tgt := 10) dX4_keepImage_5 (by decide) (fun c5 => ?_) (fun z => absurd z ((fun z => (mv_b_0 _).mp z (mv_in_i (by decide) (by decide) (by decide)))))
  refine mv_aload_n dX4_keepImage_10 rfl ?_
  refine mv_iload_n dX4_keepImage_11 rfl ?_
  refine mv_cV1 (ci := 4) dX4_keepImage_12 lk_X4_keepImage_33 HI rfl (Nat.le_of_ble_eq_true rfl) (Nat.le_of_ble_eq_true rfl) (k_X4_imageOf1 (ev := ev) HI) ?_
  refine mv_aload_n dX4_keepImage_15 rfl ?_
  obtain ⟨h1, K2, f3, y4, y5, y6, y7⟩ := (k_X0_becomeLike_16_7 (ev := ev) (b := o) (t := u) (o := b) (u := t) OHB OH8 OH9 OH10 HB H8 H9 H10)
  refine mv_cV1 (ci := 0) dX4_keepImage_16 lk_X4_keepImage_37 OHB rfl (Nat.le_of_ble_eq_true rfl) (Nat.le_of_ble_eq_true rfl) K2 ?_
  have HI := f3.get (by decide) HI
  have HK := f3.get (by decide) HK
  have HB := f3.get (by decide) HB
  have H8 := f3.get (by decide) H8
  have H9 := f3.get (by decide) H9
  have H10 := f3.get (by decide) H10
  have OHB : h1[16]? = some (.inr (0, [.ref 17, .ref 18, .ref 19, .int (nI (q_cb o b).1), .int (nI t), .int (nI (q_cb o b).2.1)])) := y4
  have OH8 : h1[17]? = some (.inl (0, 60, .inl (fun j => nI ((q_cb o b).2.2.1 j)))) := y5
  have OH9 : h1[18]? = some (.inl (0, 60, .inl (fun j => nI ((q_cb o b).2.2.2.1 j)))) := y6
  have OH10 : h1[19]? = some (.inl (0, 60, .inl (fun j => nI ((q_cb o b).2.2.2.2 j)))) := y7
  have fr := fr.trans f3 (by decide)
  refine mv_aload_n dX4_keepImage_19 rfl ?_
  refine mv_getf (ci := 4) (f := 2) dX4_keepImage_20 HI rfl (by decide) wd_177 rfl ?_
  refine mv_iload_n dX4_keepImage_23 rfl ?_
  refine mv_iconst (v := nI 1) dX4_keepImage_24 (by decide) ?_
  refine mv_zastN (j := 1) dX4_keepImage_25 HK rfl (by decide) (by omega) rfl (fun h8 e9 => ?_)
  rw [upd_nI] at e9
  have HI := mv_ne e9 (by decide) HI
  have HK : h8[20]? = some (.inl (2, 2, .inl (fun j => nI (t_up kp 1 1 j)))) := mv_eq e9 HK
  have HB := mv_ne e9 (by decide) HB
  have H8 := mv_ne e9 (by decide) H8
  have H9 := mv_ne e9 (by decide) H9
  have H10 := mv_ne e9 (by decide) H10
  have OHB := mv_ne e9 (by decide) OHB
  have OH8 := mv_ne e9 (by decide) OH8
  have OH9 := mv_ne e9 (by decide) OH9
  have OH10 := mv_ne e9 (by decide) OH10
  have fr := fr.set e9 (by decide)
  clear e9
  refine mv_iconst (v := nI 1) dX4_keepImage_26 (by decide) ?_
  exact mv_iret dX4_keepImage_27 rfl rfl ⟨rfl, fr, OHB, OH8, OH9, OH10, HK⟩
set_option maxRecDepth 100000 in
theorem k_X4_bringBack1 {ev : mv_E} {h : mv_H} {b : t_B} {t : Nat} {o : t_B} {u : Nat} (HI : h[11]? = some (.inr (4, [.ref 12, .ref 16, .ref 20]))) (HB : h[7]? = some (.inr (0, [.ref 8, .ref 9, .ref 10, .int (nI b.1), .int (nI t), .int (nI b.2.1)]))) (H8 : h[8]? = some (.inl (0, 60, .inl (fun j => nI (b.2.2.1 j))))) (H9 : h[9]? = some (.inl (0, 60, .inl (fun j => nI (b.2.2.2.1 j))))) (H10 : h[10]? = some (.inl (0, 60, .inl (fun j => nI (b.2.2.2.2 j))))) (OHB : h[16]? = some (.inr (0, [.ref 17, .ref 18, .ref 19, .int (nI o.1), .int (nI u), .int (nI o.2.1)]))) (OH8 : h[17]? = some (.inl (0, 60, .inl (fun j => nI (o.2.2.1 j))))) (OH9 : h[18]? = some (.inl (0, 60, .inl (fun j => nI (o.2.2.2.1 j))))) (OH10 : h[19]? = some (.inl (0, 60, .inl (fun j => nI (o.2.2.2.2 j)))))  : ∃ h2, mv_K ev mX4_bringBack [.ref 11, .int (nI 1), .ref 7] h (some (.int (nI 1))) h2 ∧ mv_fra [7, 8, 9, 10] h h2 ∧ h2[7]? = some (.inr (0, [.ref 8, .ref 9, .ref 10, .int (nI (q_cb b o).1), .int (nI u), .int (nI (q_cb b o).2.1)])) ∧ h2[8]? = some (.inl (0, 60, .inl (fun j => nI ((q_cb b o).2.2.1 j)))) ∧ h2[9]? = some (.inl (0, 60, .inl (fun j => nI ((q_cb b o).2.2.2.1 j)))) ∧ h2[10]? = some (.inl (0, 60, .inl (fun j => nI ((q_cb b o).2.2.2.2 j)))) := by
  suffices g0 : mv_g ev mX4_bringBack 0 (mv_ent [.ref 11, .int (nI 1), .ref 7] (mv_ml mX4_bringBack)) [] h (fun r g => r = some (.int (nI 1)) ∧ mv_fra [7, 8, 9, 10] h g ∧ g[7]? = some (.inr (0, [.ref 8, .ref 9, .ref 10, .int (nI (q_cb b o).1), .int (nI u), .int (nI (q_cb b o).2.1)])) ∧ g[8]? = some (.inl (0, 60, .inl (fun j => nI ((q_cb b o).2.2.1 j)))) ∧ g[9]? = some (.inl (0, 60, .inl (fun j => nI ((q_cb b o).2.2.2.1 j)))) ∧ g[10]? = some (.inl (0, 60, .inl (fun j => nI ((q_cb b o).2.2.2.2 j))))) from (by obtain ⟨r0, h0, K0, q0, Q0⟩ := mv_Kex g0; subst q0; exact ⟨h0, K0, Q0⟩)
  show mv_g ev mX4_bringBack 0 [.ref 11, .int (nI 1), .ref 7] [] h _
  have fr : mv_fra [7, 8, 9, 10] h h := mv_fra.rf
  refine mv_aload_n dX4_bringBack_0 rfl ?_
  refine mv_aload_n dX4_bringBack_1 rfl ?_
  refine mv_iload_n dX4_bringBack_2 rfl ?_
  refine mv_cV1 (ci := 4) dX4_bringBack_3 lk_X4_bringBack_33 HI rfl (Nat.le_of_ble_eq_true rfl) (Nat.le_of_ble_eq_true rfl) (k_X4_imageOf1 (ev := ev) HI) ?_
  obtain ⟨h1, K2, f3, y4, y5, y6, y7⟩ := (k_X0_becomeLike_7_16 (ev := ev) (b := b) (t := t) (o := o) (u := u) HB H8 H9 H10 OHB OH8 OH9 OH10)
  refine mv_cV1 (ci := 0) dX4_bringBack_6 lk_X4_bringBack_37 HB rfl (Nat.le_of_ble_eq_true rfl) (Nat.le_of_ble_eq_true rfl) K2 ?_
  have HI := f3.get (by decide) HI
  have HB : h1[7]? = some (.inr (0, [.ref 8, .ref 9, .ref 10, .int (nI (q_cb b o).1), .int (nI u), .int (nI (q_cb b o).2.1)])) := y4
  have H8 : h1[8]? = some (.inl (0, 60, .inl (fun j => nI ((q_cb b o).2.2.1 j)))) := y5
  have H9 : h1[9]? = some (.inl (0, 60, .inl (fun j => nI ((q_cb b o).2.2.2.1 j)))) := y6
  have H10 : h1[10]? = some (.inl (0, 60, .inl (fun j => nI ((q_cb b o).2.2.2.2 j)))) := y7
  have OHB := f3.get (by decide) OHB
  have OH8 := f3.get (by decide) OH8
  have OH9 := f3.get (by decide) OH9
  have OH10 := f3.get (by decide) OH10
  have fr := fr.trans f3 (by decide)
  refine mv_iconst (v := nI 1) dX4_bringBack_9 (by decide) ?_
  exact mv_iret dX4_bringBack_10 rfl rfl ⟨rfl, fr, HB, H8, H9, H10⟩
set_option maxRecDepth 100000 in
theorem k_X5_become {ev : mv_E} {h : mv_H} {lw : Nat → Int32} {dr : Nat → Int32} (HL : h[1]? = some (.inr (5, [.ref 2]))) (HV : h[2]? = some (.inl (0, 8, .inl lw))) (HD : h[5]? = some (.inl (0, 8, .inl dr)))  : ∃ h2, mv_K ev mX5_become [.ref 1, .ref 5] h (none) h2 ∧ mv_fra [2] h h2 ∧ h2[2]? = some (.inl (0, 8, .inl (q_cl dr lw))) := by
  suffices g0 : mv_g ev mX5_become 0 (mv_ent [.ref 1, .ref 5] (mv_ml mX5_become)) [] h (fun r g => r = none ∧ mv_fra [2] h g ∧ g[2]? = some (.inl (0, 8, .inl (q_cl dr lw)))) from (by obtain ⟨r0, h0, K0, q0, Q0⟩ := mv_Kex g0; subst q0; exact ⟨h0, K0, Q0⟩)
  show mv_g ev mX5_become 0 [.ref 1, .ref 5] [] h _
  have fr : mv_fra [2] h h := mv_fra.rf
  refine mv_aload_n dX5_become_0 rfl ?_
  refine mv_iconst (v := nI 0) dX5_become_1 (by decide) ?_
  refine mv_aload_n dX5_become_2 rfl ?_
  refine mv_getf (ci := 5) (f := 0) dX5_become_3 HL rfl (by decide) wd_105 rfl ?_
  refine mv_iconst (v := nI 0) dX5_become_6 (by decide) ?_
  refine mv_aload_n dX5_become_7 rfl ?_
  refine mv_alen dX5_become_8 HD (by decide) ?_
  refine mv_aload_n dX5_become_9 rfl ?_
  refine mv_getf (ci := 5) (f := 0) dX5_become_10 HL rfl (by decide) wd_105 rfl ?_
  refine mv_alen dX5_become_13 HV (by decide) ?_
  refine mv_mmin dX5_become_14 wd_558 (by decide) (Nat.le_of_ble_eq_true rfl) ?_
  refine mv_topI (y := nI 8) (by split <;> rfl) ?_
  refine mv_acopy dX5_become_17 HD HV wd_559 (by decide) (Nat.le_of_ble_eq_true rfl) (by decide) (by decide) (by decide) (by decide) (by decide) ?_
  refine mv_topH (fun h1 e2 => ?_)
  have e2c : va_cpy dr lw (nI 0).toNatClampNeg (nI 0).toNatClampNeg (nI 8).toNatClampNeg = (q_cl dr lw) := (q_cly _ _)
  rw [e2c] at e2
  have HL := mv_ne e2 (by decide) HL
  have HV : h1[2]? = some (.inl (0, 8, .inl (q_cl dr lw))) := mv_eq e2 HV
  have HD := mv_ne e2 (by decide) HD
  have fr := fr.set e2 (by decide)
  clear e2
  exact mv_vret dX5_become_20 rfl ⟨rfl, fr, HV⟩
