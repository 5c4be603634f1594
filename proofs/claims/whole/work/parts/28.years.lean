/-- what the reference keeps of each number of years and of odd ones -/
def q_fc (p : Nat) (f bc : Nat → Nat) (n c : Nat) : Nat → Nat := fun i => if (1 ≤ i / 61 ∧ i % 61 ≤ i / 61) ∧ (i / 61 < n ∨ (i / 61 = n ∧ i % 61 < c)) then q_sm (q_rows p f (i / 61)) (i % 61) (i / 61 + 1 - i % 61) else bc i
theorem q_fc_0 (p : Nat) (f bc : Nat → Nat) : q_fc p f bc 1 0 = bc := by
  funext i
  exact if_neg (by omega)
theorem q_fc_n (p : Nat) (f bc : Nat → Nat) (n : Nat) : q_fc p f bc n (n + 1) = q_fc p f bc (n + 1) 0 := by
  funext i
  unfold q_fc
  by_cases c : (1 ≤ i / 61 ∧ i % 61 ≤ i / 61) ∧ (i / 61 < n ∨ (i / 61 = n ∧ i % 61 < n + 1))
  · rw [if_pos c, if_pos (by omega)]
  · rw [if_neg c, if_neg (by omega)]
theorem q_fc_s {p : Nat} {f bc : Nat → Nat} {n c : Nat} (hn : 1 ≤ n) (h60 : n ≤ 60) (hc : c ≤ n) : t_up (q_fc p f bc n c) (61 * n + c) (q_sm (q_rows p f n) c (n + 1 - c)) = q_fc p f bc n (c + 1) := by
  funext i
  unfold t_up q_fc
  by_cases e : i = 61 * n + c
  · have e1 : i / 61 = n := by omega
    have e2 : i % 61 = c := by omega
    rw [if_pos e, e1, e2, if_pos (by omega)]
  · rw [if_neg e]
    by_cases k : (1 ≤ i / 61 ∧ i % 61 ≤ i / 61) ∧ (i / 61 < n ∨ (i / 61 = n ∧ i % 61 < c))
    · rw [if_pos k, if_pos (by omega)]
    · rw [if_neg k, if_neg (by omega)]
theorem q_fc_g {p : Nat} {f bc : Nat → Nat} {n c : Nat} (hn : 1 ≤ n) (h60 : n ≤ 60) (hc : c ≤ n) : q_fc p f bc 61 0 (61 * n + c) = q_sm (q_rows p f n) c (n + 1 - c) := by
  unfold q_fc
  have e1 : (61 * n + c) / 61 = n := by omega
  have e2 : (61 * n + c) % 61 = c := by omega
  rw [e1, e2, if_pos (by omega)]
set_option maxRecDepth 100000 in
theorem l_X12_fillI {ev : mv_E} {h : mv_H} {xt : Int32} {xf : Int32} {xa : Int32} {xo : Int64} {xe : Int32} {xu : Int32} {xs : Int32} {xg : Int32} {xc : Int32} {xw : Int32} {b : t_B} {t : Nat} {f : Nat → Nat} {bc : Nat → Nat} {p : Nat}  (hf : ∀ i, f i ≤ 1000000) (hp : p ≤ 1000) : ∀ (fu : Nat) (n : Nat) (c : Nat), ∀ (g : mv_H), n + 2 < c + fu → mv_fra [74, 75] h g → g[74]? = some (.inl (0, 201, .inl (fun j => nI (q_rows p (q_bg f 201) (n + 1) j)))) → g[75]? = some (.inl (0, 3721, .inl (fun j => nI (q_fc p (q_bg f 201) bc (n + 1) (c) j)))) → g[52]? = some (.inr (12, [.ref 53, .ref 54, .int xt, .int xf, .int xa, .long xo, .int xe, .int xu, .ref 55, .int xs, .int (nI b.1), .ref 56, .ref 57, .ref 58, .int (nI t), .int (nI b.2.1), .ref 59, .ref 60, .ref 61, .ref 62, .int xg, .ref 63, .ref 64, .ref 65, .ref 66, .ref 67, .ref 68, .ref 69, .int xc, .ref 70, .ref 71, .ref 72, .ref 73, .ref 74, .ref 75, .int xw, .ref 76, .ref 77, .ref 78, .ref 79, .ref 80])) → (n < 60) → (c ≤ n + 2) → (∀ (gx : mv_H), mv_fra [74, 75] h gx → gx[74]? = some (.inl (0, 201, .inl (fun j => nI (q_rows p (q_bg f 201) (n + 1) j)))) → gx[75]? = some (.inl (0, 3721, .inl (fun j => nI (q_fc p (q_bg f 201) bc (n + 1 + 1) (0) j)))) → gx[52]? = some (.inr (12, [.ref 53, .ref 54, .int xt, .int xf, .int xa, .long xo, .int xe, .int xu, .ref 55, .int xs, .int (nI b.1), .ref 56, .ref 57, .ref 58, .int (nI t), .int (nI b.2.1), .ref 59, .ref 60, .ref 61, .ref 62, .int xg, .ref 63, .ref 64, .ref 65, .ref 66, .ref 67, .ref 68, .ref 69, .int xc, .ref 70, .ref 71, .ref 72, .ref 73, .ref 74, .ref 75, .int xw, .ref 76, .ref 77, .ref 78, .ref 79, .ref 80])) → mv_g ev mX12_fillChance 48 [.ref 52, .int (nI p), .int (nI (n + 1)), .null] [] gx (fun r g => r = none ∧ mv_fra [74, 75] h g ∧ g[74]? = some (.inl (0, 201, .inl (fun j => nI (q_rows p (q_bg f 201) (60) j)))) ∧ g[75]? = some (.inl (0, 3721, .inl (fun j => nI (q_fc p (q_bg f 201) bc (61) (0) j)))))) → mv_g ev mX12_fillChance 20 [.ref 52, .int (nI p), .int (nI (n + 1)), .int (nI c)] [] g (fun r g => r = none ∧ mv_fra [74, 75] h g ∧ g[74]? = some (.inl (0, 201, .inl (fun j => nI (q_rows p (q_bg f 201) (60) j)))) ∧ g[75]? = some (.inl (0, 3721, .inl (fun j => nI (q_fc p (q_bg f 201) bc (61) (0) j))))) := by
  intro fu
  induction fu with
  | zero => intro n c g hm fr XD X75 HX hn hc kx; exact absurd hm (by omega)
  | succ fu ih =>
    intro n c g hm fr XD X75 HX hn hc kx
    have hb := q_bg_le hf 201
    refine mv_iload_n dX12_fillChance_20 rfl ?_
    refine mv_iload_n dX12_fillChance_21 rfl ?_
    refine mv_icmp_gt (tgt := 48) dX12_fillChance_22 (by decide) (fun c22 => ?_) (fun c22 => ?_)
    · have c22 : n + 1 < c := (nI_ltI (by omega) (by omega)).mp c22
      have ec : c = n + 1 + 1 := (by omega)
      rw [ec, q_fc_n] at X75
      refine mv_sub (lv' := [.ref 52, .int (nI p), .int (nI (n + 1)), .null]) ⟨Or.inr rfl, Or.inr rfl, Or.inr rfl, Or.inl rfl, trivial⟩ ?_
      exact kx g fr XD X75 HX
    · have c22 : ¬ (n + 1 < c) := fun z => c22 ((nI_ltI (by omega) (by omega)).mpr z)
      refine mv_aload_n dX12_fillChance_25 rfl ?_
      refine mv_getf (ci := 12) (f := 34) dX12_fillChance_26 HX rfl (by decide) wd_1233 rfl ?_
      refine mv_bipush (v := nI 61) dX12_fillChance_29 (by decide) ?_
      refine mv_iload_n dX12_fillChance_31 rfl ?_
      refine mv_imul dX12_fillChance_32 ?_
      refine mv_topI (y := nI (61 * (n + 1))) (pk_mul _ _) ?_
      refine mv_iload_n dX12_fillChance_33 rfl ?_
      refine mv_iadd dX12_fillChance_34 ?_
      refine mv_topI (y := nI ((61 * (n + 1)) + c)) (nI_add _ _) ?_
      refine mv_aload_n dX12_fillChance_35 rfl ?_
      refine mv_iload_n dX12_fillChance_36 rfl ?_
      refine mv_iload_n dX12_fillChance_37 rfl ?_
      refine mv_cV2 (ci := 12) dX12_fillChance_38 lk_X12_fillChance_357 HX rfl (Nat.le_of_ble_eq_true rfl) (Nat.le_of_ble_eq_true rfl) (k_X12_fromOn (ev := ev) HX XD (by omega) (by omega)) ?_
      refine mv_topI (y := nI (q_sm (q_rows p (q_bg f 201) (n + 1)) c (n + 1 + 1 - c))) rfl ?_
      refine mv_iastN (j := ((61 * (n + 1)) + c)) dX12_fillChance_41 X75 rfl (by decide) (by omega) (fun h1 e2 => ?_)
      rw [upd_nI] at e2
      have HX := mv_ne e2 (by decide) HX
      have XD := mv_ne e2 (by decide) XD
      have X75 : h1[75]? = some (.inl (0, 3721, .inl (fun j => nI (t_up (q_fc p (q_bg f 201) bc (n + 1) (c)) ((61 * (n + 1)) + c) (q_sm (q_rows p (q_bg f 201) (n + 1)) c (n + 1 + 1 - c)) j)))) := mv_eq e2 X75
      have fr := fr.set e2 (by decide)
      clear e2
      rw [q_fc_s (by omega) (by omega) (by omega)] at X75
      refine mv_iinc (v := nI (c + 1)) dX12_fillChance_42 rfl (mv_inc c 1) (by decide) ?_
      refine mv_goto (tgt := 20) dX12_fillChance_45 (by decide) ?_
      exact ih n (c + 1) h1 (by omega) fr XD X75 HX hn (by omega) kx
set_option maxRecDepth 100000 in
theorem l_X12_fill {ev : mv_E} {h : mv_H} {xt : Int32} {xf : Int32} {xa : Int32} {xo : Int64} {xe : Int32} {xu : Int32} {xs : Int32} {xg : Int32} {xc : Int32} {xw : Int32} {b : t_B} {t : Nat} {f : Nat → Nat} {bc : Nat → Nat} {p : Nat}  (hf : ∀ i, f i ≤ 1000000) (hp : p ≤ 1000) : ∀ (fu : Nat) (n : Nat), ∀ (g : mv_H), 60 < n + fu → mv_fra [74, 75] h g → g[74]? = some (.inl (0, 201, .inl (fun j => nI (q_rows p (q_bg f 201) (n) j)))) → g[75]? = some (.inl (0, 3721, .inl (fun j => nI (q_fc p (q_bg f 201) bc (n + 1) (0) j)))) → g[52]? = some (.inr (12, [.ref 53, .ref 54, .int xt, .int xf, .int xa, .long xo, .int xe, .int xu, .ref 55, .int xs, .int (nI b.1), .ref 56, .ref 57, .ref 58, .int (nI t), .int (nI b.2.1), .ref 59, .ref 60, .ref 61, .ref 62, .int xg, .ref 63, .ref 64, .ref 65, .ref 66, .ref 67, .ref 68, .ref 69, .int xc, .ref 70, .ref 71, .ref 72, .ref 73, .ref 74, .ref 75, .int xw, .ref 76, .ref 77, .ref 78, .ref 79, .ref 80])) → (n ≤ 60) → mv_g ev mX12_fillChance 6 [.ref 52, .int (nI p), .int (nI (n + 1)), .null] [] g (fun r g => r = none ∧ mv_fra [74, 75] h g ∧ g[74]? = some (.inl (0, 201, .inl (fun j => nI (q_rows p (q_bg f 201) (60) j)))) ∧ g[75]? = some (.inl (0, 3721, .inl (fun j => nI (q_fc p (q_bg f 201) bc (61) (0) j))))) := by
  intro fu
  induction fu with
  | zero => intro n g hm fr XD X75 HX hn; exact absurd hm (by omega)
  | succ fu ih =>
    intro n g hm fr XD X75 HX hn
    have hb := q_bg_le hf 201
    refine mv_iload_n dX12_fillChance_6 rfl ?_
    refine mv_bipush (v := nI 60) dX12_fillChance_7 (by decide) ?_
    refine mv_icmp_gt (tgt := 54) dX12_fillChance_9 (by decide) (fun c9 => ?_) (fun c9 => ?_)
    · have c9 : 60 < n + 1 := (nI_ltI (by omega) (by omega)).mp c9
      have en : n = 60 := (by omega)
      subst en
      exact mv_vret dX12_fillChance_54 rfl ⟨rfl, fr, XD, X75⟩
    · have c9 : ¬ (60 < n + 1) := fun z => c9 ((nI_ltI (by omega) (by omega)).mpr z)
      refine mv_aload_n dX12_fillChance_12 rfl ?_
      refine mv_iload_n dX12_fillChance_13 rfl ?_
      refine mv_iload_n dX12_fillChance_14 rfl ?_
      obtain ⟨h1, K2, f3, y4⟩ := (k_X12_oneMore (ev := ev) (xt := xt) (xf := xf) (xa := xa) (xo := xo) (xe := xe) (xu := xu) (xs := xs) (xg := xg) (xc := xc) (xw := xw) (b := b) (t := t) (f := q_rows p (q_bg f 201) (n)) (n := (n + 1)) (p := p) HX XD (q_rows_le hb hp n) (by omega) hp)
      refine mv_cV2 (ci := 12) dX12_fillChance_15 lk_X12_fillChance_353 HX rfl (Nat.le_of_ble_eq_true rfl) (Nat.le_of_ble_eq_true rfl) K2 ?_
      have HX := f3.get (by decide) HX
      have XD : h1[74]? = some (.inl (0, 201, .inl (fun j => nI (q_ao (q_rows p (q_bg f 201) (n)) p (n + 1) 0 j)))) := y4
      have X75 := f3.get (by decide) X75
      have fr := fr.trans f3 (by decide)
      refine mv_iconst (v := nI 0) dX12_fillChance_18 (by decide) ?_
      refine mv_istore_n dX12_fillChance_19 (by decide) ?_
      refine l_X12_fillI hf hp (n + 3) n 0 h1 (by omega) fr XD X75 HX (by omega) (Nat.zero_le _) ?_
      intro gx5 fr XD X75 HX
      refine mv_iinc (v := nI (n + 1 + 1)) dX12_fillChance_48 rfl (mv_inc (n + 1) 1) (by decide) ?_
      refine mv_goto (tgt := 6) dX12_fillChance_51 (by decide) ?_
      exact ih (n + 1) gx5 (by omega) fr XD X75 HX (by omega)
set_option maxRecDepth 100000 in
theorem k_X12_fillChance {ev : mv_E} {h : mv_H} {xt : Int32} {xf : Int32} {xa : Int32} {xo : Int64} {xe : Int32} {xu : Int32} {xs : Int32} {xg : Int32} {xc : Int32} {xw : Int32} {b : t_B} {t : Nat} {f : Nat → Nat} {bc : Nat → Nat} {p : Nat} (HX : h[52]? = some (.inr (12, [.ref 53, .ref 54, .int xt, .int xf, .int xa, .long xo, .int xe, .int xu, .ref 55, .int xs, .int (nI b.1), .ref 56, .ref 57, .ref 58, .int (nI t), .int (nI b.2.1), .ref 59, .ref 60, .ref 61, .ref 62, .int xg, .ref 63, .ref 64, .ref 65, .ref 66, .ref 67, .ref 68, .ref 69, .int xc, .ref 70, .ref 71, .ref 72, .ref 73, .ref 74, .ref 75, .int xw, .ref 76, .ref 77, .ref 78, .ref 79, .ref 80]))) (XD : h[74]? = some (.inl (0, 201, .inl (fun j => nI (f j))))) (X75 : h[75]? = some (.inl (0, 3721, .inl (fun j => nI (bc j))))) (hf : ∀ i, f i ≤ 1000000) (hp : p ≤ 1000) : ∃ h2, mv_K ev mX12_fillChance [.ref 52, .int (nI p)] h (none) h2 ∧ mv_fra [74, 75] h h2 ∧ h2[74]? = some (.inl (0, 201, .inl (fun j => nI (q_rows p (q_bg f 201) (60) j)))) ∧ h2[75]? = some (.inl (0, 3721, .inl (fun j => nI (q_fc p (q_bg f 201) bc (61) (0) j)))) := by
  suffices g0 : mv_g ev mX12_fillChance 0 (mv_ent [.ref 52, .int (nI p)] (mv_ml mX12_fillChance)) [] h (fun r g => r = none ∧ mv_fra [74, 75] h g ∧ g[74]? = some (.inl (0, 201, .inl (fun j => nI (q_rows p (q_bg f 201) (60) j)))) ∧ g[75]? = some (.inl (0, 3721, .inl (fun j => nI (q_fc p (q_bg f 201) bc (61) (0) j))))) from (by obtain ⟨r0, h0, K0, q0, Q0⟩ := mv_Kex g0; subst q0; exact ⟨h0, K0, Q0⟩)
  show mv_g ev mX12_fillChance 0 [.ref 52, .int (nI p), .null, .null] [] h _
  have fr : mv_fra [74, 75] h h := mv_fra.rf
  have hb := q_bg_le hf 201
  refine mv_aload_n dX12_fillChance_0 rfl ?_
  obtain ⟨h1, K2, f3, y4⟩ := (k_X12_beginDist (ev := ev) (xt := xt) (xf := xf) (xa := xa) (xo := xo) (xe := xe) (xu := xu) (xs := xs) (xg := xg) (xc := xc) (xw := xw) (b := b) (t := t) (f := f) HX XD)
  refine mv_cV0 (ci := 12) dX12_fillChance_1 lk_X12_fillChance_350 HX rfl (Nat.le_of_ble_eq_true rfl) (Nat.le_of_ble_eq_true rfl) K2 ?_
  have HX := f3.get (by decide) HX
  have XD : h1[74]? = some (.inl (0, 201, .inl (fun j => nI (q_bg f 201 j)))) := y4
  have X75 := f3.get (by decide) X75
  have fr := fr.trans f3 (by decide)
  rw [← q_fc_0 p (q_bg f 201) bc] at X75
  refine mv_iconst (v := nI 1) dX12_fillChance_4 (by decide) ?_
  refine mv_topI (y := nI (0 + 1)) rfl ?_
  refine mv_istore_n dX12_fillChance_5 (by decide) ?_
  exact l_X12_fill hf hp (60 + 1) 0 h1 (by omega) fr XD X75 HX (Nat.zero_le _)
