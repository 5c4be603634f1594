set_option maxRecDepth 100000 in
theorem l_X12_beginDist {ev : mv_E} {h : mv_H} {xt : Int32} {xf : Int32} {xa : Int32} {xo : Int64} {xe : Int32} {xu : Int32} {xs : Int32} {xg : Int32} {xc : Int32} {xw : Int32} {b : t_B} {t : Nat} {f : Nat → Nat}   : ∀ (fu : Nat) (y : Nat), ∀ (g : mv_H), 201 < y + fu → mv_fra [74] h g → g[74]? = some (.inl (0, 201, .inl (fun j => nI (q_bg f y j)))) → g[52]? = some (.inr (12, [.ref 53, .ref 54, .int xt, .int xf, .int xa, .long xo, .int xe, .int xu, .ref 55, .int xs, .int (nI b.1), .ref 56, .ref 57, .ref 58, .int (nI t), .int (nI b.2.1), .ref 59, .ref 60, .ref 61, .ref 62, .int xg, .ref 63, .ref 64, .ref 65, .ref 66, .ref 67, .ref 68, .ref 69, .int xc, .ref 70, .ref 71, .ref 72, .ref 73, .ref 74, .ref 75, .int xw, .ref 76, .ref 77, .ref 78, .ref 79, .ref 80])) → (y ≤ 201) → mv_g ev mX12_beginDist 2 [.ref 52, .int (nI y)] [] g (fun r g => r = none ∧ mv_fra [74] h g ∧ g[74]? = some (.inl (0, 201, .inl (fun j => nI (q_bg f 201 j))))) := by
  intro fu
  induction fu with
  | zero => intro y g hm fr XD HX hy; exact absurd hm (by omega)
  | succ fu ih =>
    intro y g hm fr XD HX hy
    refine mv_iload_n dX12_beginDist_2 rfl ?_
    refine mv_sipush (v := nI 200) dX12_beginDist_3 (by decide) ?_
    refine mv_icmp_gt (tgt := 31) dX12_beginDist_6 (by decide) (fun c6 => ?_) (fun c6 => ?_)
    · have c6 : 200 < y := (nI_ltI (by omega) (by omega)).mp c6
      have ey : y = 201 := (by omega)
      subst ey
      exact mv_vret dX12_beginDist_31 rfl ⟨rfl, fr, XD⟩
    · have c6 : ¬ (200 < y) := fun z => c6 ((nI_ltI (by omega) (by omega)).mpr z)
      refine mv_aload_n dX12_beginDist_9 rfl ?_
      refine mv_getf (ci := 12) (f := 33) dX12_beginDist_10 HX rfl (by decide) wd_1232 rfl ?_
      refine mv_iload_n dX12_beginDist_13 rfl ?_
      refine mv_iload_n dX12_beginDist_14 rfl ?_
      refine mv_if_ne (tgt := 23) dX12_beginDist_15 (by decide) (fun c15 => ?_) (fun c15 => ?_)
      · have c15 : ¬ (y = 0) := fun z => c15 ((nI_eq (b := 0) (by omega) (by omega)).mpr z)
        refine mv_iconst (v := nI 0) dX12_beginDist_23 (by decide) ?_
        refine mv_iastN (j := y) dX12_beginDist_24 XD rfl (by decide) (by omega) (fun h1 e2 => ?_)
        rw [upd_nI] at e2
        have HX := mv_ne e2 (by decide) HX
        have XD : h1[74]? = some (.inl (0, 201, .inl (fun j => nI (t_up (q_bg f y) y 0 j)))) := mv_eq e2 XD
        have fr := fr.set e2 (by decide)
        clear e2
        have es := q_bg_s f y
        rw [if_neg c15] at es
        rw [es] at XD
        refine mv_iinc (v := nI (y + 1)) dX12_beginDist_25 rfl (mv_inc y 1) (by decide) ?_
        refine mv_goto (tgt := 2) dX12_beginDist_28 (by decide) ?_
        exact ih (y + 1) h1 (by omega) fr XD HX (by omega)
      · have c15 : y = 0 := (nI_eq (b := 0) (by omega) (by omega)).mp c15
        refine mv_ldc (v := nI 1000000) dX12_beginDist_18 wd_1414 ?_
        refine mv_goto (tgt := 24) dX12_beginDist_20 (by decide) ?_
        refine mv_iastN (j := y) dX12_beginDist_24 XD rfl (by decide) (by omega) (fun h3 e4 => ?_)
        rw [upd_nI] at e4
        have HX := mv_ne e4 (by decide) HX
        have XD : h3[74]? = some (.inl (0, 201, .inl (fun j => nI (t_up (q_bg f y) y 1000000 j)))) := mv_eq e4 XD
        have fr := fr.set e4 (by decide)
        clear e4
        have es := q_bg_s f y
        rw [if_pos c15] at es
        rw [es] at XD
        refine mv_iinc (v := nI (y + 1)) dX12_beginDist_25 rfl (mv_inc y 1) (by decide) ?_
        refine mv_goto (tgt := 2) dX12_beginDist_28 (by decide) ?_
        exact ih (y + 1) h3 (by omega) fr XD HX (by omega)
set_option maxRecDepth 100000 in
theorem k_X12_beginDist {ev : mv_E} {h : mv_H} {xt : Int32} {xf : Int32} {xa : Int32} {xo : Int64} {xe : Int32} {xu : Int32} {xs : Int32} {xg : Int32} {xc : Int32} {xw : Int32} {b : t_B} {t : Nat} {f : Nat → Nat} (HX : h[52]? = some (.inr (12, [.ref 53, .ref 54, .int xt, .int xf, .int xa, .long xo, .int xe, .int xu, .ref 55, .int xs, .int (nI b.1), .ref 56, .ref 57, .ref 58, .int (nI t), .int (nI b.2.1), .ref 59, .ref 60, .ref 61, .ref 62, .int xg, .ref 63, .ref 64, .ref 65, .ref 66, .ref 67, .ref 68, .ref 69, .int xc, .ref 70, .ref 71, .ref 72, .ref 73, .ref 74, .ref 75, .int xw, .ref 76, .ref 77, .ref 78, .ref 79, .ref 80]))) (XD : h[74]? = some (.inl (0, 201, .inl (fun j => nI (f j)))))  : ∃ h2, mv_K ev mX12_beginDist [.ref 52] h (none) h2 ∧ mv_fra [74] h h2 ∧ h2[74]? = some (.inl (0, 201, .inl (fun j => nI (q_bg f 201 j)))) := by
  suffices g0 : mv_g ev mX12_beginDist 0 (mv_ent [.ref 52] (mv_ml mX12_beginDist)) [] h (fun r g => r = none ∧ mv_fra [74] h g ∧ g[74]? = some (.inl (0, 201, .inl (fun j => nI (q_bg f 201 j))))) from (by obtain ⟨r0, h0, K0, q0, Q0⟩ := mv_Kex g0; subst q0; exact ⟨h0, K0, Q0⟩)
  show mv_g ev mX12_beginDist 0 [.ref 52, .null] [] h _
  have fr : mv_fra [74] h h := mv_fra.rf
  rw [← q_bg_0 f] at XD
  refine mv_iconst (v := nI 0) dX12_beginDist_0 (by decide) ?_
  refine mv_istore_n dX12_beginDist_1 (by decide) ?_
  exact l_X12_beginDist (201 + 1) 0 h (by omega) fr XD HX (Nat.zero_le _)
set_option maxRecDepth 100000 in
theorem l_X12_oneMore {ev : mv_E} {h : mv_H} {xt : Int32} {xf : Int32} {xa : Int32} {xo : Int64} {xe : Int32} {xu : Int32} {xs : Int32} {xg : Int32} {xc : Int32} {xw : Int32} {b : t_B} {t : Nat} {f : Nat → Nat} {n : Nat} {p : Nat}  (hf : ∀ i, f i ≤ 1000000) (hn : n ≤ 200) (hp : p ≤ 1000) : ∀ (fu : Nat) (y : Nat), ∀ (g : mv_H), y < 0 + fu → mv_fra [74] h g → g[74]? = some (.inl (0, 201, .inl (fun j => nI (q_ao f p n y j)))) → g[52]? = some (.inr (12, [.ref 53, .ref 54, .int xt, .int xf, .int xa, .long xo, .int xe, .int xu, .ref 55, .int xs, .int (nI b.1), .ref 56, .ref 57, .ref 58, .int (nI t), .int (nI b.2.1), .ref 59, .ref 60, .ref 61, .ref 62, .int xg, .ref 63, .ref 64, .ref 65, .ref 66, .ref 67, .ref 68, .ref 69, .int xc, .ref 70, .ref 71, .ref 72, .ref 73, .ref 74, .ref 75, .int xw, .ref 76, .ref 77, .ref 78, .ref 79, .ref 80])) → (y ≤ n + 1) → mv_g ev mX12_oneMore 2 [.ref 52, .int (nI n), .int (nI p), .int (nI y - nI 1), .null] [] g (fun r g => r = none ∧ mv_fra [74] h g ∧ g[74]? = some (.inl (0, 201, .inl (fun j => nI (q_ao f p n 0 j))))) := by
  intro fu
  induction fu with
  | zero => intro y g hm fr XD HX hy; exact absurd hm (by omega)
  | succ fu ih =>
    intro y g hm fr XD HX hy
    refine mv_iload_n dX12_oneMore_2 rfl ?_
    refine mv_if_lt (tgt := 62) dX12_oneMore_3 (by decide) (fun c3 => ?_) (fun c3 => ?_)
    · have cl := (q_lt0 (by omega)).mp c3
      have ey : y = 0 := (by omega)
      subst ey
      exact mv_vret dX12_oneMore_62 rfl ⟨rfl, fr, XD⟩
    · have cl : 1 ≤ y := (by have c0 : ¬ y = 0 := fun z => c3 ((q_lt0 (by omega)).mpr z); omega)
      rw [show nI y - nI 1 = nI (y - 1) from pk_sub cl]
      have m1 := hf (y - 1)
      have m2 := hf (y - 1 - 1)
      have n1 : f (y - 1) * (1000 - p) ≤ 1000000 * 1000 := Nat.mul_le_mul m1 (by omega)
      have n2 : f (y - 1 - 1) * p ≤ 1000000 * 1000 := Nat.mul_le_mul m2 hp
      refine mv_iload_n dX12_oneMore_6 rfl ?_
      refine mv_if_ne (tgt := 14) dX12_oneMore_7 (by decide) (fun c7 => ?_) (fun c7 => ?_)
      · have c7 : ¬ (y - 1 = 0) := fun z => c7 ((nI_eq (b := 0) (by omega) (by omega)).mpr z)
        refine mv_aload_n dX12_oneMore_14 rfl ?_
        refine mv_getf (ci := 12) (f := 33) dX12_oneMore_15 HX rfl (by decide) wd_1232 rfl ?_
        refine mv_iload_n dX12_oneMore_18 rfl ?_
        refine mv_iconst (v := nI 1) dX12_oneMore_19 (by decide) ?_
        refine mv_isub dX12_oneMore_20 ?_
        refine mv_topI (y := nI ((y - 1) - 1)) (pk_sub (by omega)) ?_
        refine mv_iaN (j := ((y - 1) - 1)) (x := nI (f (y - 1 - 1))) dX12_oneMore_21 XD rfl (by decide) (by omega) (congrArg nI (q_ao_f (by omega))) ?_
        refine mv_istore dX12_oneMore_22 (by decide) ?_
        refine mv_aload_n dX12_oneMore_24 rfl ?_
        refine mv_getf (ci := 12) (f := 33) dX12_oneMore_25 HX rfl (by decide) wd_1232 rfl ?_
        refine mv_iload_n dX12_oneMore_28 rfl ?_
        refine mv_aload_n dX12_oneMore_29 rfl ?_
        refine mv_getf (ci := 12) (f := 33) dX12_oneMore_30 HX rfl (by decide) wd_1232 rfl ?_
        refine mv_iload_n dX12_oneMore_33 rfl ?_
        refine mv_iaN (j := (y - 1)) (x := nI (f (y - 1))) dX12_oneMore_34 XD rfl (by decide) (by omega) (congrArg nI (q_ao_f (by omega))) ?_
        refine mv_i2l dX12_oneMore_35 ?_
        refine mv_topL (y := lN (f (y - 1))) (nI_l (by omega)) ?_
        refine mv_sipush (v := nI 1000) dX12_oneMore_36 (by decide) ?_
        refine mv_iload_n dX12_oneMore_39 rfl ?_
        refine mv_isub dX12_oneMore_40 ?_
        refine mv_topI (y := nI (1000 - p)) (pk_sub (by omega)) ?_
        refine mv_i2l dX12_oneMore_41 ?_
        refine mv_topL (y := lN (1000 - p)) (nI_l (by omega)) ?_
        refine mv_lmul dX12_oneMore_42 ?_
        refine mv_topL (y := lN ((f (y - 1)) * (1000 - p))) (lN_mul _ _) ?_
        refine mv_iload dX12_oneMore_43 rfl ?_
        refine mv_i2l dX12_oneMore_45 ?_
        refine mv_topL (y := lN (f (y - 1 - 1))) (nI_l (by omega)) ?_
        refine mv_iload_n dX12_oneMore_46 rfl ?_
        refine mv_i2l dX12_oneMore_47 ?_
        refine mv_topL (y := lN p) (nI_l (by omega)) ?_
        refine mv_lmul dX12_oneMore_48 ?_
        refine mv_topL (y := lN ((f (y - 1 - 1)) * p)) (lN_mul _ _) ?_
        refine mv_ladd dX12_oneMore_49 ?_
        refine mv_topL (y := lN (((f (y - 1)) * (1000 - p)) + ((f (y - 1 - 1)) * p))) (lN_add _ _) ?_
        refine mv_ldc2 (v := lN 1000) dX12_oneMore_50 wd_1621 ?_
        refine mv_ldiv dX12_oneMore_53 (by decide) ?_
        refine mv_topL (y := lN (q_nw f p (y - 1))) ((lN_div (by omega) (by decide) (by decide)).trans (congrArg lN (by unfold q_nw; first | rw [if_pos (by omega)] | rw [if_neg (by omega)]))) ?_
        refine mv_l2i dX12_oneMore_54 ?_
        refine mv_topI (y := nI (q_nw f p (y - 1))) (lN_i _) ?_
        refine mv_iastN (j := (y - 1)) dX12_oneMore_55 XD rfl (by decide) (by omega) (fun h1 e2 => ?_)
        rw [upd_nI] at e2
        have HX := mv_ne e2 (by decide) HX
        have XD : h1[74]? = some (.inl (0, 201, .inl (fun j => nI (t_up (q_ao f p n y) (y - 1) (q_nw f p (y - 1)) j)))) := mv_eq e2 XD
        have fr := fr.set e2 (by decide)
        clear e2
        rw [q_ao_s cl hy] at XD
        refine mv_iinc (v := nI (y - 1) - nI 1) dX12_oneMore_56 rfl (q_dc _) (by decide) ?_
        refine mv_goto (tgt := 2) dX12_oneMore_59 (by decide) ?_
        refine mv_sub (lv' := [.ref 52, .int (nI n), .int (nI p), .int (nI (y - 1) - nI 1), .null]) ⟨Or.inr rfl, Or.inr rfl, Or.inr rfl, Or.inr rfl, Or.inl rfl, trivial⟩ ?_
        exact ih (y - 1) h1 (by omega) fr XD HX (by omega)
      · have c7 : y - 1 = 0 := (nI_eq (b := 0) (by omega) (by omega)).mp c7
        refine mv_iconst (v := nI 0) dX12_oneMore_10 (by decide) ?_
        refine mv_goto (tgt := 22) dX12_oneMore_11 (by decide) ?_
        refine mv_istore dX12_oneMore_22 (by decide) ?_
        refine mv_aload_n dX12_oneMore_24 rfl ?_
        refine mv_getf (ci := 12) (f := 33) dX12_oneMore_25 HX rfl (by decide) wd_1232 rfl ?_
        refine mv_iload_n dX12_oneMore_28 rfl ?_
        refine mv_aload_n dX12_oneMore_29 rfl ?_
        refine mv_getf (ci := 12) (f := 33) dX12_oneMore_30 HX rfl (by decide) wd_1232 rfl ?_
        refine mv_iload_n dX12_oneMore_33 rfl ?_
        refine mv_iaN (j := (y - 1)) (x := nI (f (y - 1))) dX12_oneMore_34 XD rfl (by decide) (by omega) (congrArg nI (q_ao_f (by omega))) ?_
        refine mv_i2l dX12_oneMore_35 ?_
        refine mv_topL (y := lN (f (y - 1))) (nI_l (by omega)) ?_
        refine mv_sipush (v := nI 1000) dX12_oneMore_36 (by decide) ?_
        refine mv_iload_n dX12_oneMore_39 rfl ?_
        refine mv_isub dX12_oneMore_40 ?_
        refine mv_topI (y := nI (1000 - p)) (pk_sub (by omega)) ?_
        refine mv_i2l dX12_oneMore_41 ?_
        refine mv_topL (y := lN (1000 - p)) (nI_l (by omega)) ?_
        refine mv_lmul dX12_oneMore_42 ?_
        refine mv_topL (y := lN ((f (y - 1)) * (1000 - p))) (lN_mul _ _) ?_
        refine mv_iload dX12_oneMore_43 rfl ?_
        refine mv_i2l dX12_oneMore_45 ?_
        refine mv_topL (y := lN 0) (nI_l (by omega)) ?_
        refine mv_iload_n dX12_oneMore_46 rfl ?_
        refine mv_i2l dX12_oneMore_47 ?_
        refine mv_topL (y := lN p) (nI_l (by omega)) ?_
        refine mv_lmul dX12_oneMore_48 ?_
        refine mv_topL (y := lN (0 * p)) (lN_mul _ _) ?_
        refine mv_ladd dX12_oneMore_49 ?_
        refine mv_topL (y := lN (((f (y - 1)) * (1000 - p)) + (0 * p))) (lN_add _ _) ?_
        refine mv_ldc2 (v := lN 1000) dX12_oneMore_50 wd_1621 ?_
        refine mv_ldiv dX12_oneMore_53 (by decide) ?_
        refine mv_topL (y := lN (q_nw f p (y - 1))) ((lN_div (by omega) (by decide) (by decide)).trans (congrArg lN (by unfold q_nw; first | rw [if_pos (by omega)] | rw [if_neg (by omega)]))) ?_
        refine mv_l2i dX12_oneMore_54 ?_
        refine mv_topI (y := nI (q_nw f p (y - 1))) (lN_i _) ?_
        refine mv_iastN (j := (y - 1)) dX12_oneMore_55 XD rfl (by decide) (by omega) (fun h3 e4 => ?_)
        rw [upd_nI] at e4
        have HX := mv_ne e4 (by decide) HX
        have XD : h3[74]? = some (.inl (0, 201, .inl (fun j => nI (t_up (q_ao f p n y) (y - 1) (q_nw f p (y - 1)) j)))) := mv_eq e4 XD
        have fr := fr.set e4 (by decide)
        clear e4
        rw [q_ao_s cl hy] at XD
        refine mv_iinc (v := nI (y - 1) - nI 1) dX12_oneMore_56 rfl (q_dc _) (by decide) ?_
        refine mv_goto (tgt := 2) dX12_oneMore_59 (by decide) ?_
        refine mv_sub (lv' := [.ref 52, .int (nI n), .int (nI p), .int (nI (y - 1) - nI 1), .null]) ⟨Or.inr rfl, Or.inr rfl, Or.inr rfl, Or.inr rfl, Or.inl rfl, trivial⟩ ?_
        exact ih (y - 1) h3 (by omega) fr XD HX (by omega)
set_option maxRecDepth 100000 in
theorem k_X12_oneMore {ev : mv_E} {h : mv_H} {xt : Int32} {xf : Int32} {xa : Int32} {xo : Int64} {xe : Int32} {xu : Int32} {xs : Int32} {xg : Int32} {xc : Int32} {xw : Int32} {b : t_B} {t : Nat} {f : Nat → Nat} {n : Nat} {p : Nat} (HX : h[52]? = some (.inr (12, [.ref 53, .ref 54, .int xt, .int xf, .int xa, .long xo, .int xe, .int xu, .ref 55, .int xs, .int (nI b.1), .ref 56, .ref 57, .ref 58, .int (nI t), .int (nI b.2.1), .ref 59, .ref 60, .ref 61, .ref 62, .int xg, .ref 63, .ref 64, .ref 65, .ref 66, .ref 67, .ref 68, .ref 69, .int xc, .ref 70, .ref 71, .ref 72, .ref 73, .ref 74, .ref 75, .int xw, .ref 76, .ref 77, .ref 78, .ref 79, .ref 80]))) (XD : h[74]? = some (.inl (0, 201, .inl (fun j => nI (f j))))) (hf : ∀ i, f i ≤ 1000000) (hn : n ≤ 200) (hp : p ≤ 1000) : ∃ h2, mv_K ev mX12_oneMore [.ref 52, .int (nI n), .int (nI p)] h (none) h2 ∧ mv_fra [74] h h2 ∧ h2[74]? = some (.inl (0, 201, .inl (fun j => nI (q_ao f p n 0 j)))) := by
  suffices g0 : mv_g ev mX12_oneMore 0 (mv_ent [.ref 52, .int (nI n), .int (nI p)] (mv_ml mX12_oneMore)) [] h (fun r g => r = none ∧ mv_fra [74] h g ∧ g[74]? = some (.inl (0, 201, .inl (fun j => nI (q_ao f p n 0 j))))) from (by obtain ⟨r0, h0, K0, q0, Q0⟩ := mv_Kex g0; subst q0; exact ⟨h0, K0, Q0⟩)
  show mv_g ev mX12_oneMore 0 [.ref 52, .int (nI n), .int (nI p), .null, .null] [] h _
  have fr : mv_fra [74] h h := mv_fra.rf
  refine mv_iload_n dX12_oneMore_0 rfl ?_
  rw [← q_ao_0 f p n] at XD
  refine mv_topI (y := nI (n + 1) - nI 1) ((pk_sub (by omega)).trans (congrArg nI (by omega))).symm ?_
  refine mv_istore_n dX12_oneMore_1 (by decide) ?_
  exact l_X12_oneMore hf hn hp (n + 2) (n + 1) h (by omega) fr XD HX (Nat.le_refl _)
set_option maxRecDepth 100000 in
theorem l_X12_fromOn {ev : mv_E} {h : mv_H} {xt : Int32} {xf : Int32} {xa : Int32} {xo : Int64} {xe : Int32} {xu : Int32} {xs : Int32} {xg : Int32} {xc : Int32} {xw : Int32} {b : t_B} {t : Nat} {f : Nat → Nat} {k : Nat} {n : Nat} (HX : h[52]? = some (.inr (12, [.ref 53, .ref 54, .int xt, .int xf, .int xa, .long xo, .int xe, .int xu, .ref 55, .int xs, .int (nI b.1), .ref 56, .ref 57, .ref 58, .int (nI t), .int (nI b.2.1), .ref 59, .ref 60, .ref 61, .ref 62, .int xg, .ref 63, .ref 64, .ref 65, .ref 66, .ref 67, .ref 68, .ref 69, .int xc, .ref 70, .ref 71, .ref 72, .ref 73, .ref 74, .ref 75, .int xw, .ref 76, .ref 77, .ref 78, .ref 79, .ref 80]))) (XD : h[74]? = some (.inl (0, 201, .inl (fun j => nI (f j))))) (hk : k ≤ n + 1) (hn : n ≤ 200) : ∀ (fu : Nat) (v : Nat) (u : Nat), n + 1 < u + fu → (k ≤ u) → (u ≤ n + 1) → (v = q_sm f k (u - k)) → mv_g ev mX12_fromOn 5 [.ref 52, .int (nI k), .int (nI n), .int (nI v), .int (nI u)] [] h (fun r g => r = some (.int (nI (q_sm f k (n + 1 - k)))) ∧ g = h) := by
  intro fu
  induction fu with
  | zero => intro v u hm hu hu2 hv; exact absurd hm (by omega)
  | succ fu ih =>
    intro v u hm hu hu2 hv
    refine mv_iload dX12_fromOn_5 rfl ?_
    refine mv_iload_n dX12_fromOn_7 rfl ?_
    refine mv_icmp_gt (tgt := 27) dX12_fromOn_8 (by decide) (fun c8 => ?_) (fun c8 => ?_)
    · have c8 : n < u := (nI_ltI (by omega) (by omega)).mp c8
      refine mv_iload_n dX12_fromOn_27 rfl ?_
      exact mv_iret dX12_fromOn_28 rfl rfl ⟨(congrArg (fun z => some (Value.int z)) (congrArg nI (by rw [hv, show u = n + 1 by omega]))), rfl⟩
    · have c8 : ¬ (n < u) := fun z => c8 ((nI_ltI (by omega) (by omega)).mpr z)
      refine mv_iload_n dX12_fromOn_11 rfl ?_
      refine mv_aload_n dX12_fromOn_12 rfl ?_
      refine mv_getf (ci := 12) (f := 33) dX12_fromOn_13 HX rfl (by decide) wd_1232 rfl ?_
      refine mv_iload dX12_fromOn_16 rfl ?_
      refine mv_iaN (j := u) (x := nI (f u)) dX12_fromOn_18 XD rfl (by decide) (by omega) rfl ?_
      refine mv_iadd dX12_fromOn_19 ?_
      refine mv_topI (y := nI (v + (f u))) (nI_add _ _) ?_
      refine mv_istore_n dX12_fromOn_20 (by decide) ?_
      refine mv_iinc (v := nI (u + 1)) dX12_fromOn_21 rfl (mv_inc u 1) (by decide) ?_
      refine mv_goto (tgt := 5) dX12_fromOn_24 (by decide) ?_
      exact ih (v + (f u)) (u + 1) (by omega) (by omega) (by omega) (by rw [q_sm_s hu, ← hv])
set_option maxRecDepth 100000 in
theorem k_X12_fromOn {ev : mv_E} {h : mv_H} {xt : Int32} {xf : Int32} {xa : Int32} {xo : Int64} {xe : Int32} {xu : Int32} {xs : Int32} {xg : Int32} {xc : Int32} {xw : Int32} {b : t_B} {t : Nat} {f : Nat → Nat} {k : Nat} {n : Nat} (HX : h[52]? = some (.inr (12, [.ref 53, .ref 54, .int xt, .int xf, .int xa, .long xo, .int xe, .int xu, .ref 55, .int xs, .int (nI b.1), .ref 56, .ref 57, .ref 58, .int (nI t), .int (nI b.2.1), .ref 59, .ref 60, .ref 61, .ref 62, .int xg, .ref 63, .ref 64, .ref 65, .ref 66, .ref 67, .ref 68, .ref 69, .int xc, .ref 70, .ref 71, .ref 72, .ref 73, .ref 74, .ref 75, .int xw, .ref 76, .ref 77, .ref 78, .ref 79, .ref 80]))) (XD : h[74]? = some (.inl (0, 201, .inl (fun j => nI (f j))))) (hk : k ≤ n + 1) (hn : n ≤ 200) : mv_K ev mX12_fromOn [.ref 52, .int (nI k), .int (nI n)] h (some (.int (nI (q_sm f k (n + 1 - k))))) h := by
  refine mv_Kof ?_
  show mv_g ev mX12_fromOn 0 [.ref 52, .int (nI k), .int (nI n), .null, .null] [] h _
  refine mv_iconst (v := nI 0) dX12_fromOn_0 (by decide) ?_
  refine mv_istore_n dX12_fromOn_1 (by decide) ?_
  refine mv_iload_n dX12_fromOn_2 rfl ?_
  refine mv_istore dX12_fromOn_3 (by decide) ?_
  exact l_X12_fromOn HX XD hk hn (n + 2) 0 k (by omega) (Nat.le_refl _) hk (by rw [Nat.sub_self]; rfl)
def q_row (c : q_C) (i : Nat) : Nat := if i % 7 = 0 then c.2.1 (i / 7) else if i % 7 = 1 then c.2.2.1 (i / 7) else if i % 7 = 2 then c.2.2.2.1 (i / 7) else if i % 7 = 3 then c.2.2.2.2.1 (i / 7) else if i % 7 = 4 then c.2.2.2.2.2.1 (i / 7) else if i % 7 = 5 then c.2.2.2.2.2.2.1 (i / 7) else c.2.2.2.2.2.2.2 (i / 7)
theorem q_row_0 (c : q_C) (k : Nat) : q_row c (7 * k) = c.2.1 k := by
  unfold q_row
  rw [show (7 * k) / 7 = k by omega]
  rw [if_pos (show (7 * k) % 7 = 0 by omega)]
theorem q_row_1 (c : q_C) (k : Nat) : q_row c (7 * k + 1) = c.2.2.1 k := by
  unfold q_row
  rw [show (7 * k + 1) / 7 = k by omega]
  rw [if_neg (show ¬ (7 * k + 1) % 7 = 0 by omega), if_pos (show (7 * k + 1) % 7 = 1 by omega)]
theorem q_row_2 (c : q_C) (k : Nat) : q_row c (7 * k + 2) = c.2.2.2.1 k := by
  unfold q_row
  rw [show (7 * k + 2) / 7 = k by omega]
  rw [if_neg (show ¬ (7 * k + 2) % 7 = 0 by omega), if_neg (show ¬ (7 * k + 2) % 7 = 1 by omega), if_pos (show (7 * k + 2) % 7 = 2 by omega)]
theorem q_row_3 (c : q_C) (k : Nat) : q_row c (7 * k + 3) = c.2.2.2.2.1 k := by
  unfold q_row
  rw [show (7 * k + 3) / 7 = k by omega]
  rw [if_neg (show ¬ (7 * k + 3) % 7 = 0 by omega), if_neg (show ¬ (7 * k + 3) % 7 = 1 by omega), if_neg (show ¬ (7 * k + 3) % 7 = 2 by omega), if_pos (show (7 * k + 3) % 7 = 3 by omega)]
theorem q_row_4 (c : q_C) (k : Nat) : q_row c (7 * k + 4) = c.2.2.2.2.2.1 k := by
  unfold q_row
  rw [show (7 * k + 4) / 7 = k by omega]
  rw [if_neg (show ¬ (7 * k + 4) % 7 = 0 by omega), if_neg (show ¬ (7 * k + 4) % 7 = 1 by omega), if_neg (show ¬ (7 * k + 4) % 7 = 2 by omega), if_neg (show ¬ (7 * k + 4) % 7 = 3 by omega), if_pos (show (7 * k + 4) % 7 = 4 by omega)]
theorem q_row_5 (c : q_C) (k : Nat) : q_row c (7 * k + 5) = c.2.2.2.2.2.2.1 k := by
  unfold q_row
  rw [show (7 * k + 5) / 7 = k by omega]
  rw [if_neg (show ¬ (7 * k + 5) % 7 = 0 by omega), if_neg (show ¬ (7 * k + 5) % 7 = 1 by omega), if_neg (show ¬ (7 * k + 5) % 7 = 2 by omega), if_neg (show ¬ (7 * k + 5) % 7 = 3 by omega), if_neg (show ¬ (7 * k + 5) % 7 = 4 by omega), if_pos (show (7 * k + 5) % 7 = 5 by omega)]
theorem q_row_6 (c : q_C) (k : Nat) : q_row c (7 * k + 6) = c.2.2.2.2.2.2.2 k := by
  unfold q_row
  rw [show (7 * k + 6) / 7 = k by omega]
  rw [if_neg (show ¬ (7 * k + 6) % 7 = 0 by omega), if_neg (show ¬ (7 * k + 6) % 7 = 1 by omega), if_neg (show ¬ (7 * k + 6) % 7 = 2 by omega), if_neg (show ¬ (7 * k + 6) % 7 = 3 by omega), if_neg (show ¬ (7 * k + 6) % 7 = 4 by omega), if_neg (show ¬ (7 * k + 6) % 7 = 5 by omega)]
theorem q_fs_d {b : t_B} {p m z a c y : Nat} (h : 1 ≤ y) (hy : y ≤ b.1) : q_fs b p m z a c (b.1 - (y - 1)) (y - 1) = if (a ≤ b.2.2.1 (y - 1) ∧ b.2.2.1 (y - 1) ≤ c) ∧ q_su b p m z (y - 1) then nI (y - 1) else q_fs b p m z a c (b.1 - y) y := by
  by_cases hc : (a ≤ b.2.2.1 (y - 1) ∧ b.2.2.1 (y - 1) ≤ c) ∧ q_su b p m z (y - 1)
  · rw [q_fs_y hc (by omega), if_pos hc]
  · rw [q_fs_n hc (by omega), if_neg hc, show b.1 - (y - 1) - 1 = b.1 - y by omega, show y - 1 + 1 = y by omega]
theorem q_fs_c {b : t_B} {p m z a c : Nat} (f : Nat) : ∀ k, k + f < 1000 → q_fs b p m z a c f k = -1 ∨ ∃ i, i < 1000 ∧ q_fs b p m z a c f k = nI i := by
  induction f with
  | zero => intro k _; exact Or.inl rfl
  | succ f ih =>
    intro k hk
    by_cases hc : (a ≤ b.2.2.1 k ∧ b.2.2.1 k ≤ c) ∧ q_su b p m z k
    · exact Or.inr ⟨k, by omega, q_fs_y hc (by omega)⟩
    · rw [q_fs_n hc (by omega), Nat.add_sub_cancel]
      exact ih (k + 1) (by omega)
theorem q_hit_c {c : q_C} {b : t_B} (hn : b.1 ≤ 60) (k : Nat) : q_hit c b k < 0 ↔ q_hit c b k = -1 := by
  unfold q_hit
  rcases q_fs_c (b := b) (p := c.2.2.1 k) (m := c.2.2.2.1 k) (z := c.2.2.2.2.1 k) (a := c.2.2.2.2.2.1 k) (c := c.2.2.2.2.2.2.1 k) b.1 0 (by omega) with e | ⟨i, hi, e⟩
  · rw [e]
    exact ⟨fun _ => rfl, fun _ => by decide⟩
  · rw [e]
    exact ⟨fun q => absurd q (nI_pos (by omega)), fun q => absurd q (nI_m1 (by omega))⟩
set_option maxRecDepth 100000 in
theorem l_X12_hitOf {ev : mv_E} {h : mv_H} {xt : Int32} {xf : Int32} {xa : Int32} {xo : Int64} {xe : Int32} {xu : Int32} {xs : Int32} {xg : Int32} {xc : Int32} {xw : Int32} {b : t_B} {t : Nat} {c : q_C} {k : Nat} {dd : Nat} (HX : h[52]? = some (.inr (12, [.ref 53, .ref 54, .int xt, .int xf, .int xa, .long xo, .int xe, .int xu, .ref 55, .int xs, .int (nI b.1), .ref 56, .ref 57, .ref 58, .int (nI t), .int (nI b.2.1), .ref 59, .ref 60, .ref 61, .ref 62, .int xg, .ref 63, .ref 64, .ref 65, .ref 66, .ref 67, .ref 68, .ref 69, .int xc, .ref 70, .ref 71, .ref 72, .ref 73, .ref 74, .ref 75, .int xw, .ref 76, .ref 77, .ref 78, .ref 79, .ref 80]))) (X56 : h[56]? = some (.inl (0, 60, .inl (fun j => nI (b.2.2.1 j))))) (X57 : h[57]? = some (.inl (0, 60, .inl (fun j => nI (b.2.2.2.1 j))))) (X58 : h[58]? = some (.inl (0, 60, .inl (fun j => nI (b.2.2.2.2 j))))) (XC : h[70]? = some (.inl (0, 84, .inl (fun j => nI (q_row c j))))) (hci : q_CI c) (hk : k < c.1) (hb : q_BI dd b) : ∀ (fu : Nat) (f : Int32) (y : Nat), y < 0 + fu → (y ≤ b.1) → (f = q_fs b (c.2.2.1 k) (c.2.2.2.1 k) (c.2.2.2.2.1 k) (c.2.2.2.2.2.1 k) (c.2.2.2.2.2.2.1 k) (b.1 - y) y) → mv_g ev mX12_hitOf 15 [.ref 52, .int (nI k), .int (nI (7 * k)), .int f, .int (nI y - nI 1), .null] [] h (fun r g => r = some (.int (q_hit c b k)) ∧ g = h) := by
  intro fu
  induction fu with
  | zero => intro f y hm hy hfs; exact absurd hm (by omega)
  | succ fu ih =>
    intro f y hm hy hfs
    have n0 := hci.1
    obtain ⟨⟨i1, i2, i3⟩, i4, i5, ⟨i6, i7⟩, i8⟩ := hci.2 k hk
    have n9 := hb.1
    refine mv_iload dX12_hitOf_15 rfl ?_
    refine mv_if_lt (tgt := 124) dX12_hitOf_17 (by decide) (fun c17 => ?_) (fun c17 => ?_)
    · have cl := (q_lt0 (by omega)).mp c17
      refine mv_iload_n dX12_hitOf_124 rfl ?_
      exact mv_iret dX12_hitOf_125 rfl rfl ⟨(congrArg (fun z => some (Value.int z)) (by rw [hfs, cl]; rfl)), rfl⟩
    · have cl : 1 ≤ y := (by have c0 : ¬ y = 0 := fun z => c17 ((q_lt0 (by omega)).mpr z); omega)
      rw [show nI y - nI 1 = nI (y - 1) from pk_sub cl]
      have l1 := hb.2.2.1 (y - 1)
      have l2 := hb.2.2.2.1 (y - 1)
      have l3 := hb.2.2.2.2.1 (y - 1)
      have l4 := t_far_lt l2 i4
      refine mv_aload_n dX12_hitOf_20 rfl ?_
      refine mv_getf (ci := 12) (f := 11) dX12_hitOf_21 HX rfl (by decide) wd_1210 rfl ?_
      refine mv_iload dX12_hitOf_24 rfl ?_
      refine mv_iaN (j := (y - 1)) (x := nI (b.2.2.1 (y - 1))) dX12_hitOf_26 X56 rfl (by decide) (by omega) rfl ?_
      refine mv_i2l dX12_hitOf_27 ?_
      refine mv_topL (y := lN (b.2.2.1 (y - 1))) (nI_l (by omega)) ?_
      refine mv_aload_n dX12_hitOf_28 rfl ?_
      refine mv_getf (ci := 12) (f := 29) dX12_hitOf_29 HX rfl (by decide) wd_1228 rfl ?_
      refine mv_iload_n dX12_hitOf_32 rfl ?_
      refine mv_iconst (v := nI 4) dX12_hitOf_33 (by decide) ?_
      refine mv_iadd dX12_hitOf_34 ?_
      refine mv_topI (y := nI (7 * k + 4)) (nI_add _ _) ?_
      refine mv_iaN (j := (7 * k + 4)) (x := nI (c.2.2.2.2.2.1 k)) dX12_hitOf_35 XC rfl (by decide) (by omega) (congrArg nI (q_row_4 c k)) ?_
      refine mv_i2l dX12_hitOf_36 ?_
      refine mv_topL (y := lN (c.2.2.2.2.2.1 k)) (nI_l (by omega)) ?_
      refine mv_aload_n dX12_hitOf_37 rfl ?_
      refine mv_getf (ci := 12) (f := 29) dX12_hitOf_38 HX rfl (by decide) wd_1228 rfl ?_
      refine mv_iload_n dX12_hitOf_41 rfl ?_
      refine mv_iconst (v := nI 5) dX12_hitOf_42 (by decide) ?_
      refine mv_iadd dX12_hitOf_43 ?_
      refine mv_topI (y := nI (7 * k + 5)) (nI_add _ _) ?_
      refine mv_iaN (j := (7 * k + 5)) (x := nI (c.2.2.2.2.2.2.1 k)) dX12_hitOf_44 XC rfl (by decide) (by omega) (congrArg nI (q_row_5 c k)) ?_
      refine mv_i2l dX12_hitOf_45 ?_
      refine mv_topL (y := lN (c.2.2.2.2.2.2.1 k)) (nI_l (by omega)) ?_
      refine mv_cS3 dX12_hitOf_46 lk_X12_hitOf_107 (Nat.le_of_ble_eq_true rfl) (Nat.le_of_ble_eq_true rfl) (k_X12_in (ev := ev)) ?_
      refine mv_if_eq (tgt := 74) dX12_hitOf_49 (by decide) (fun c49 => ?_) (fun c49 => ?_)
      · have c49 : ¬ (c.2.2.2.2.2.1 k ≤ b.2.2.1 (y - 1) ∧ b.2.2.1 (y - 1) ≤ c.2.2.2.2.2.2.1 k) := fun q => (mv_b_0 _).mp c49 ((and_congr (lN_leB (by omega) (by omega)) (lN_leB (by omega) (by omega))).mpr q)
        refine mv_iconst (v := nI 0) dX12_hitOf_74 (by decide) ?_
        refine mv_istore dX12_hitOf_75 (by decide) ?_
        refine mv_iload dX12_hitOf_77 rfl ?_
        refine mv_if_eq (tgt := 116) dX12_hitOf_79 (by decide) (fun c79 => ?_) (fun z => absurd ((by decide)) z)
        refine mv_iload_n dX12_hitOf_116 rfl ?_
        refine mv_istore_n dX12_hitOf_117 (by decide) ?_
        refine mv_iinc (v := nI (y - 1) - nI 1) dX12_hitOf_118 rfl (q_dc _) (by decide) ?_
        refine mv_goto (tgt := 15) dX12_hitOf_121 (by decide) ?_
        refine mv_sub (lv' := [.ref 52, .int (nI k), .int (nI (7 * k)), .int f, .int (nI (y - 1) - nI 1), .null]) ⟨Or.inr rfl, Or.inr rfl, Or.inr rfl, Or.inr rfl, Or.inr rfl, Or.inl rfl, trivial⟩ ?_
        exact ih f (y - 1) (by omega) (by omega) (by rw [q_fs_d cl hy]; first | exact (if_pos ⟨c49, by omega, by omega⟩).symm | exact hfs.trans (if_neg (fun q => c49 q.1)).symm | exact hfs.trans (if_neg (fun q => absurd q.2 (by omega))).symm)
      · have c49 : c.2.2.2.2.2.1 k ≤ b.2.2.1 (y - 1) ∧ b.2.2.1 (y - 1) ≤ c.2.2.2.2.2.2.1 k := (and_congr (lN_leB (by omega) (by omega)) (lN_leB (by omega) (by omega))).mp (mv_b_ne c49)
        refine mv_aload_n dX12_hitOf_52 rfl ?_
        refine mv_getf (ci := 12) (f := 13) dX12_hitOf_53 HX rfl (by decide) wd_1212 rfl ?_
        refine mv_iload dX12_hitOf_56 rfl ?_
        refine mv_iaN (j := (y - 1)) (x := nI (b.2.2.2.2 (y - 1))) dX12_hitOf_58 X58 rfl (by decide) (by omega) rfl ?_
        refine mv_aload_n dX12_hitOf_59 rfl ?_
        refine mv_getf (ci := 12) (f := 29) dX12_hitOf_60 HX rfl (by decide) wd_1228 rfl ?_
        refine mv_iload_n dX12_hitOf_63 rfl ?_
        refine mv_iconst (v := nI 3) dX12_hitOf_64 (by decide) ?_
        refine mv_iadd dX12_hitOf_65 ?_
        refine mv_topI (y := nI (7 * k + 3)) (nI_add _ _) ?_
        refine mv_iaN (j := (7 * k + 3)) (x := nI (c.2.2.2.2.1 k)) dX12_hitOf_66 XC rfl (by decide) (by omega) (congrArg nI (q_row_3 c k)) ?_
        refine mv_icmp_lt (tgt := 74) dX12_hitOf_67 (by decide) (fun c67 => ?_) (fun c67 => ?_)
        · have c67 : b.2.2.2.2 (y - 1) < c.2.2.2.2.1 k := (nI_ltI (by omega) (by omega)).mp c67
          refine mv_iconst (v := nI 0) dX12_hitOf_74 (by decide) ?_
          refine mv_istore dX12_hitOf_75 (by decide) ?_
          refine mv_iload dX12_hitOf_77 rfl ?_
          refine mv_if_eq (tgt := 116) dX12_hitOf_79 (by decide) (fun c79 => ?_) (fun z => absurd ((by decide)) z)
          refine mv_iload_n dX12_hitOf_116 rfl ?_
          refine mv_istore_n dX12_hitOf_117 (by decide) ?_
          refine mv_iinc (v := nI (y - 1) - nI 1) dX12_hitOf_118 rfl (q_dc _) (by decide) ?_
          refine mv_goto (tgt := 15) dX12_hitOf_121 (by decide) ?_
          refine mv_sub (lv' := [.ref 52, .int (nI k), .int (nI (7 * k)), .int f, .int (nI (y - 1) - nI 1), .null]) ⟨Or.inr rfl, Or.inr rfl, Or.inr rfl, Or.inr rfl, Or.inr rfl, Or.inl rfl, trivial⟩ ?_
          exact ih f (y - 1) (by omega) (by omega) (by rw [q_fs_d cl hy]; first | exact (if_pos ⟨c49, by omega, by omega⟩).symm | exact hfs.trans (if_neg (fun q => c49 q.1)).symm | exact hfs.trans (if_neg (fun q => absurd q.2 (by omega))).symm)
        · have c67 : ¬ (b.2.2.2.2 (y - 1) < c.2.2.2.2.1 k) := fun z => c67 ((nI_ltI (by omega) (by omega)).mpr z)
          refine mv_iconst (v := nI 1) dX12_hitOf_70 (by decide) ?_
          refine mv_goto (tgt := 75) dX12_hitOf_71 (by decide) ?_
          refine mv_istore dX12_hitOf_75 (by decide) ?_
          refine mv_iload dX12_hitOf_77 rfl ?_
          refine mv_if_eq (tgt := 116) dX12_hitOf_79 (by decide) (fun z => absurd z ((by decide))) (fun c79 => ?_)
          refine mv_aload_n dX12_hitOf_82 rfl ?_
          refine mv_getf (ci := 12) (f := 12) dX12_hitOf_83 HX rfl (by decide) wd_1211 rfl ?_
          refine mv_iload dX12_hitOf_86 rfl ?_
          refine mv_iaN (j := (y - 1)) (x := nI (b.2.2.2.1 (y - 1))) dX12_hitOf_88 X57 rfl (by decide) (by omega) rfl ?_
          refine mv_aload_n dX12_hitOf_89 rfl ?_
          refine mv_getf (ci := 12) (f := 29) dX12_hitOf_90 HX rfl (by decide) wd_1228 rfl ?_
          refine mv_iload_n dX12_hitOf_93 rfl ?_
          refine mv_iconst (v := nI 1) dX12_hitOf_94 (by decide) ?_
          refine mv_iadd dX12_hitOf_95 ?_
          refine mv_topI (y := nI (7 * k + 1)) (nI_add _ _) ?_
          refine mv_iaN (j := (7 * k + 1)) (x := nI (c.2.2.1 k)) dX12_hitOf_96 XC rfl (by decide) (by omega) (congrArg nI (q_row_1 c k)) ?_
          refine mv_cS2 dX12_hitOf_97 lk_X12_hitOf_117 (Nat.le_of_ble_eq_true rfl) (Nat.le_of_ble_eq_true rfl) (k_X12_far (ev := ev) (by omega) (by omega)) ?_
          refine mv_aload_n dX12_hitOf_100 rfl ?_
          refine mv_getf (ci := 12) (f := 29) dX12_hitOf_101 HX rfl (by decide) wd_1228 rfl ?_
          refine mv_iload_n dX12_hitOf_104 rfl ?_
          refine mv_iconst (v := nI 2) dX12_hitOf_105 (by decide) ?_
          refine mv_iadd dX12_hitOf_106 ?_
          refine mv_topI (y := nI (7 * k + 2)) (nI_add _ _) ?_
          refine mv_iaN (j := (7 * k + 2)) (x := nI (c.2.2.2.1 k)) dX12_hitOf_107 XC rfl (by decide) (by omega) (congrArg nI (q_row_2 c k)) ?_
          refine mv_icmp_gt (tgt := 116) dX12_hitOf_108 (by decide) (fun c108 => ?_) (fun c108 => ?_)
          · have c108 : c.2.2.2.1 k < t_far (b.2.2.2.1 (y - 1)) (c.2.2.1 k) := (nI_ltI (by omega) (by omega)).mp c108
            refine mv_iload_n dX12_hitOf_116 rfl ?_
            refine mv_istore_n dX12_hitOf_117 (by decide) ?_
            refine mv_iinc (v := nI (y - 1) - nI 1) dX12_hitOf_118 rfl (q_dc _) (by decide) ?_
            refine mv_goto (tgt := 15) dX12_hitOf_121 (by decide) ?_
            refine mv_sub (lv' := [.ref 52, .int (nI k), .int (nI (7 * k)), .int f, .int (nI (y - 1) - nI 1), .null]) ⟨Or.inr rfl, Or.inr rfl, Or.inr rfl, Or.inr rfl, Or.inr rfl, Or.inl rfl, trivial⟩ ?_
            exact ih f (y - 1) (by omega) (by omega) (by rw [q_fs_d cl hy]; first | exact (if_pos ⟨c49, by omega, by omega⟩).symm | exact hfs.trans (if_neg (fun q => c49 q.1)).symm | exact hfs.trans (if_neg (fun q => absurd q.2 (by omega))).symm)
          · have c108 : ¬ (c.2.2.2.1 k < t_far (b.2.2.2.1 (y - 1)) (c.2.2.1 k)) := fun z => c108 ((nI_ltI (by omega) (by omega)).mpr z)
            refine mv_iload dX12_hitOf_111 rfl ?_
            refine mv_goto (tgt := 117) dX12_hitOf_113 (by decide) ?_
            refine mv_istore_n dX12_hitOf_117 (by decide) ?_
            refine mv_iinc (v := nI (y - 1) - nI 1) dX12_hitOf_118 rfl (q_dc _) (by decide) ?_
            refine mv_goto (tgt := 15) dX12_hitOf_121 (by decide) ?_
            refine mv_sub (lv' := [.ref 52, .int (nI k), .int (nI (7 * k)), .int (nI (y - 1)), .int (nI (y - 1) - nI 1), .null]) ⟨Or.inr rfl, Or.inr rfl, Or.inr rfl, Or.inr rfl, Or.inr rfl, Or.inl rfl, trivial⟩ ?_
            exact ih (nI (y - 1)) (y - 1) (by omega) (by omega) (by rw [q_fs_d cl hy]; first | exact (if_pos ⟨c49, by omega, by omega⟩).symm | exact hfs.trans (if_neg (fun q => c49 q.1)).symm | exact hfs.trans (if_neg (fun q => absurd q.2 (by omega))).symm)
set_option maxRecDepth 100000 in
theorem k_X12_hitOf {ev : mv_E} {h : mv_H} {xt : Int32} {xf : Int32} {xa : Int32} {xo : Int64} {xe : Int32} {xu : Int32} {xs : Int32} {xg : Int32} {xc : Int32} {xw : Int32} {b : t_B} {t : Nat} {c : q_C} {k : Nat} {dd : Nat} (HX : h[52]? = some (.inr (12, [.ref 53, .ref 54, .int xt, .int xf, .int xa, .long xo, .int xe, .int xu, .ref 55, .int xs, .int (nI b.1), .ref 56, .ref 57, .ref 58, .int (nI t), .int (nI b.2.1), .ref 59, .ref 60, .ref 61, .ref 62, .int xg, .ref 63, .ref 64, .ref 65, .ref 66, .ref 67, .ref 68, .ref 69, .int xc, .ref 70, .ref 71, .ref 72, .ref 73, .ref 74, .ref 75, .int xw, .ref 76, .ref 77, .ref 78, .ref 79, .ref 80]))) (X56 : h[56]? = some (.inl (0, 60, .inl (fun j => nI (b.2.2.1 j))))) (X57 : h[57]? = some (.inl (0, 60, .inl (fun j => nI (b.2.2.2.1 j))))) (X58 : h[58]? = some (.inl (0, 60, .inl (fun j => nI (b.2.2.2.2 j))))) (XC : h[70]? = some (.inl (0, 84, .inl (fun j => nI (q_row c j))))) (hci : q_CI c) (hk : k < c.1) (hb : q_BI dd b) : mv_K ev mX12_hitOf [.ref 52, .int (nI k)] h (some (.int (q_hit c b k))) h := by
  refine mv_Kof ?_
  show mv_g ev mX12_hitOf 0 [.ref 52, .int (nI k), .null, .null, .null, .null] [] h _
  have n0 := hci.1
  obtain ⟨⟨i1, i2, i3⟩, i4, i5, ⟨i6, i7⟩, i8⟩ := hci.2 k hk
  have n9 := hb.1
  refine mv_bipush (v := nI 7) dX12_hitOf_0 (by decide) ?_
  refine mv_iload_n dX12_hitOf_2 rfl ?_
  refine mv_imul dX12_hitOf_3 ?_
  refine mv_topI (y := nI (7 * k)) (pk_mul _ _) ?_
  refine mv_istore_n dX12_hitOf_4 (by decide) ?_
  refine mv_iconst (v := (-1)) dX12_hitOf_5 (by decide) ?_
  refine mv_istore_n dX12_hitOf_6 (by decide) ?_
  refine mv_aload_n dX12_hitOf_7 rfl ?_
  refine mv_getf (ci := 12) (f := 10) dX12_hitOf_8 HX rfl (by decide) wd_1209 rfl ?_
  refine mv_iconst (v := nI 1) dX12_hitOf_11 (by decide) ?_
  refine mv_isub dX12_hitOf_12 ?_
  refine mv_topI (y := nI b.1 - nI 1) rfl ?_
  refine mv_istore dX12_hitOf_13 (by decide) ?_
  exact l_X12_hitOf HX X56 X57 X58 XC hci hk hb (b.1 + 1) (-1) b.1 (by omega) (Nat.le_refl _) (by rw [Nat.sub_self]; rfl)
set_option maxRecDepth 100000 in
theorem k_X12_aloneOf {ev : mv_E} {h : mv_H} {xt : Int32} {xf : Int32} {xa : Int32} {xo : Int64} {xe : Int32} {xu : Int32} {xs : Int32} {xg : Int32} {xc : Int32} {xw : Int32} {b : t_B} {t : Nat} {c : q_C} {k : Nat} {lw : Nat → Int32} {ln : Nat → Nat} {dd : Nat} (HX : h[52]? = some (.inr (12, [.ref 53, .ref 54, .int xt, .int xf, .int xa, .long xo, .int xe, .int xu, .ref 55, .int xs, .int (nI b.1), .ref 56, .ref 57, .ref 58, .int (nI t), .int (nI b.2.1), .ref 59, .ref 60, .ref 61, .ref 62, .int xg, .ref 63, .ref 64, .ref 65, .ref 66, .ref 67, .ref 68, .ref 69, .int xc, .ref 70, .ref 71, .ref 72, .ref 73, .ref 74, .ref 75, .int xw, .ref 76, .ref 77, .ref 78, .ref 79, .ref 80]))) (X56 : h[56]? = some (.inl (0, 60, .inl (fun j => nI (b.2.2.1 j))))) (X57 : h[57]? = some (.inl (0, 60, .inl (fun j => nI (b.2.2.2.1 j))))) (X58 : h[58]? = some (.inl (0, 60, .inl (fun j => nI (b.2.2.2.2 j))))) (X53 : h[53]? = some (.inl (0, 8, .inl lw))) (XC : h[70]? = some (.inl (0, 84, .inl (fun j => nI (q_row c j))))) (hci : q_CI c) (hk : k < c.1) (hw : q_LW lw ln) (hb : q_BI dd b) : mv_K ev mX12_aloneOf [.ref 52, .int (nI k)] h (some (.int (nI (q_al ln c b k)))) h := by
  refine mv_Kof ?_
  show mv_g ev mX12_aloneOf 0 [.ref 52, .int (nI k), .null] [] h _
  have n0 := hci.1
  obtain ⟨⟨i1, i2, i3⟩, i4, i5, ⟨i6, i7⟩, i8⟩ := hci.2 k hk
  have n9 := hb.1
  refine mv_bipush (v := nI 7) dX12_aloneOf_0 (by decide) ?_
  refine mv_iload_n dX12_aloneOf_2 rfl ?_
  refine mv_imul dX12_aloneOf_3 ?_
  refine mv_topI (y := nI (7 * k)) (pk_mul _ _) ?_
  refine mv_istore_n dX12_aloneOf_4 (by decide) ?_
  refine mv_aload_n dX12_aloneOf_5 rfl ?_
  refine mv_aload_n dX12_aloneOf_6 rfl ?_
  refine mv_aload_n dX12_aloneOf_7 rfl ?_
  refine mv_getf (ci := 12) (f := 29) dX12_aloneOf_8 HX rfl (by decide) wd_1228 rfl ?_
  refine mv_iload_n dX12_aloneOf_11 rfl ?_
  refine mv_iaN (j := (7 * k)) (x := nI (c.2.1 k)) dX12_aloneOf_12 XC rfl (by decide) (by omega) (congrArg nI (q_row_0 c k)) ?_
  refine mv_cV1 (ci := 12) dX12_aloneOf_13 lk_X12_aloneOf_275 HX rfl (Nat.le_of_ble_eq_true rfl) (Nat.le_of_ble_eq_true rfl) (k_X12_upTo (ev := ev) HX X56 n9) ?_
  refine mv_aload_n dX12_aloneOf_16 rfl ?_
  refine mv_getf (ci := 12) (f := 29) dX12_aloneOf_17 HX rfl (by decide) wd_1228 rfl ?_
  refine mv_iload_n dX12_aloneOf_20 rfl ?_
  refine mv_iconst (v := nI 1) dX12_aloneOf_21 (by decide) ?_
  refine mv_iadd dX12_aloneOf_22 ?_
  refine mv_topI (y := nI (7 * k + 1)) (nI_add _ _) ?_
  refine mv_iaN (j := (7 * k + 1)) (x := nI (c.2.2.1 k)) dX12_aloneOf_23 XC rfl (by decide) (by omega) (congrArg nI (q_row_1 c k)) ?_
  refine mv_aload_n dX12_aloneOf_24 rfl ?_
  refine mv_getf (ci := 12) (f := 29) dX12_aloneOf_25 HX rfl (by decide) wd_1228 rfl ?_
  refine mv_iload_n dX12_aloneOf_28 rfl ?_
  refine mv_iconst (v := nI 2) dX12_aloneOf_29 (by decide) ?_
  refine mv_iadd dX12_aloneOf_30 ?_
  refine mv_topI (y := nI (7 * k + 2)) (nI_add _ _) ?_
  refine mv_iaN (j := (7 * k + 2)) (x := nI (c.2.2.2.1 k)) dX12_aloneOf_31 XC rfl (by decide) (by omega) (congrArg nI (q_row_2 c k)) ?_
  refine mv_aload_n dX12_aloneOf_32 rfl ?_
  refine mv_getf (ci := 12) (f := 29) dX12_aloneOf_33 HX rfl (by decide) wd_1228 rfl ?_
  refine mv_iload_n dX12_aloneOf_36 rfl ?_
  refine mv_iconst (v := nI 3) dX12_aloneOf_37 (by decide) ?_
  refine mv_iadd dX12_aloneOf_38 ?_
  refine mv_topI (y := nI (7 * k + 3)) (nI_add _ _) ?_
  refine mv_iaN (j := (7 * k + 3)) (x := nI (c.2.2.2.2.1 k)) dX12_aloneOf_39 XC rfl (by decide) (by omega) (congrArg nI (q_row_3 c k)) ?_
  refine mv_aload_n dX12_aloneOf_40 rfl ?_
  refine mv_getf (ci := 12) (f := 29) dX12_aloneOf_41 HX rfl (by decide) wd_1228 rfl ?_
  refine mv_iload_n dX12_aloneOf_44 rfl ?_
  refine mv_iconst (v := nI 4) dX12_aloneOf_45 (by decide) ?_
  refine mv_iadd dX12_aloneOf_46 ?_
  refine mv_topI (y := nI (7 * k + 4)) (nI_add _ _) ?_
  refine mv_iaN (j := (7 * k + 4)) (x := nI (c.2.2.2.2.2.1 k)) dX12_aloneOf_47 XC rfl (by decide) (by omega) (congrArg nI (q_row_4 c k)) ?_
  refine mv_aload_n dX12_aloneOf_48 rfl ?_
  refine mv_getf (ci := 12) (f := 29) dX12_aloneOf_49 HX rfl (by decide) wd_1228 rfl ?_
  refine mv_iload_n dX12_aloneOf_52 rfl ?_
  refine mv_iconst (v := nI 5) dX12_aloneOf_53 (by decide) ?_
  refine mv_iadd dX12_aloneOf_54 ?_
  refine mv_topI (y := nI (7 * k + 5)) (nI_add _ _) ?_
  refine mv_iaN (j := (7 * k + 5)) (x := nI (c.2.2.2.2.2.2.1 k)) dX12_aloneOf_55 XC rfl (by decide) (by omega) (congrArg nI (q_row_5 c k)) ?_
  refine mv_cV6 (ci := 12) dX12_aloneOf_56 lk_X12_aloneOf_278 HX rfl (Nat.le_of_ble_eq_true rfl) (Nat.le_of_ble_eq_true rfl) (k_X12_oddsOf (ev := ev) HX X56 X57 X58 X53 hw i4 i5 i6 i7 hb i3 i2 (q_ut_le _ _) (q_ut_a hb (by omega) ((nI_ltI (by omega) (by omega)).mpr i1))) ?_
  have n8 := q_od_le ln b (c.2.2.1 k) (c.2.2.2.1 k) (c.2.2.2.2.1 k) (c.2.2.2.2.2.1 k) (c.2.2.2.2.2.2.1 k) (q_ut b (nI (c.2.1 k)))
  refine mv_sipush (v := nI 10000) dX12_aloneOf_59 (by decide) ?_
  refine mv_idiv dX12_aloneOf_62 (by decide) ?_
  refine mv_topI (y := nI ((q_od ln b (c.2.2.1 k) (c.2.2.2.1 k) (c.2.2.2.2.1 k) (c.2.2.2.2.2.1 k) (c.2.2.2.2.2.2.1 k) (q_ut b (nI (c.2.1 k)))) / 10000)) (pk_div (by omega) (by omega) (by omega)) ?_
  exact mv_iret dX12_aloneOf_63 rfl rfl ⟨rfl, rfl⟩
set_option maxRecDepth 100000 in
theorem k_X12_scoreOf {ev : mv_E} {h : mv_H} {xt : Int32} {xf : Int32} {xa : Int32} {xo : Int64} {xe : Int32} {xu : Int32} {xs : Int32} {xg : Int32} {xc : Int32} {xw : Int32} {b : t_B} {t : Nat} {c : q_C} {k : Nat} {lw : Nat → Int32} {ln : Nat → Nat} {dd : Nat} (HX : h[52]? = some (.inr (12, [.ref 53, .ref 54, .int xt, .int xf, .int xa, .long xo, .int xe, .int xu, .ref 55, .int xs, .int (nI b.1), .ref 56, .ref 57, .ref 58, .int (nI t), .int (nI b.2.1), .ref 59, .ref 60, .ref 61, .ref 62, .int xg, .ref 63, .ref 64, .ref 65, .ref 66, .ref 67, .ref 68, .ref 69, .int xc, .ref 70, .ref 71, .ref 72, .ref 73, .ref 74, .ref 75, .int xw, .ref 76, .ref 77, .ref 78, .ref 79, .ref 80]))) (X56 : h[56]? = some (.inl (0, 60, .inl (fun j => nI (b.2.2.1 j))))) (X57 : h[57]? = some (.inl (0, 60, .inl (fun j => nI (b.2.2.2.1 j))))) (X58 : h[58]? = some (.inl (0, 60, .inl (fun j => nI (b.2.2.2.2 j))))) (X53 : h[53]? = some (.inl (0, 8, .inl lw))) (XC : h[70]? = some (.inl (0, 84, .inl (fun j => nI (q_row c j))))) (hci : q_CI c) (hk : k < c.1) (hw : q_LW lw ln) (hb : q_BI dd b) : mv_K ev mX12_scoreOf [.ref 52, .int (nI k)] h (some (.int (q_sc ln c b k))) h := by
  refine mv_Kof ?_
  show mv_g ev mX12_scoreOf 0 [.ref 52, .int (nI k), .null, .null, .null] [] h _
  have n0 := hci.1
  obtain ⟨⟨i1, i2, i3⟩, i4, i5, ⟨i6, i7⟩, i8⟩ := hci.2 k hk
  have n9 := hb.1
  refine mv_aload_n dX12_scoreOf_0 rfl ?_
  refine mv_iload_n dX12_scoreOf_1 rfl ?_
  refine mv_cV1 (ci := 12) dX12_scoreOf_2 lk_X12_scoreOf_318 HX rfl (Nat.le_of_ble_eq_true rfl) (Nat.le_of_ble_eq_true rfl) (k_X12_hitOf (ev := ev) HX X56 X57 X58 XC hci hk hb) ?_
  refine mv_if_lt (tgt := 13) dX12_scoreOf_5 (by decide) (fun c5 => ?_) (fun c5 => ?_)
  · have c5 := (q_hit_c n9 k).mp c5
    refine mv_iconst (v := nI 0) dX12_scoreOf_13 (by decide) ?_
    refine mv_istore_n dX12_scoreOf_14 (by decide) ?_
    refine mv_aload_n dX12_scoreOf_15 rfl ?_
    refine mv_iload_n dX12_scoreOf_16 rfl ?_
    refine mv_cV1 (ci := 12) dX12_scoreOf_17 lk_X12_scoreOf_321 HX rfl (Nat.le_of_ble_eq_true rfl) (Nat.le_of_ble_eq_true rfl) (k_X12_aloneOf (ev := ev) HX X56 X57 X58 X53 XC hci hk hw hb) ?_
    refine mv_iload_n dX12_scoreOf_20 rfl ?_
    refine mv_isub dX12_scoreOf_21 ?_
    refine mv_istore_n dX12_scoreOf_22 (by decide) ?_
    refine mv_aload_n dX12_scoreOf_23 rfl ?_
    refine mv_getf (ci := 12) (f := 29) dX12_scoreOf_24 HX rfl (by decide) wd_1228 rfl ?_
    refine mv_bipush (v := nI 7) dX12_scoreOf_27 (by decide) ?_
    refine mv_iload_n dX12_scoreOf_29 rfl ?_
    refine mv_imul dX12_scoreOf_30 ?_
    refine mv_topI (y := nI (7 * k)) (pk_mul _ _) ?_
    refine mv_bipush (v := nI 6) dX12_scoreOf_31 (by decide) ?_
    refine mv_iadd dX12_scoreOf_33 ?_
    refine mv_topI (y := nI (7 * k + 6)) (nI_add _ _) ?_
    refine mv_iaN (j := (7 * k + 6)) (x := nI (c.2.2.2.2.2.2.2 k)) dX12_scoreOf_34 XC rfl (by decide) (by omega) (congrArg nI (q_row_6 c k)) ?_
    refine mv_iload_n dX12_scoreOf_35 rfl ?_
    refine mv_isub dX12_scoreOf_36 ?_
    refine mv_istore dX12_scoreOf_37 (by decide) ?_
    refine mv_iload_n dX12_scoreOf_39 rfl ?_
    refine mv_iload_n dX12_scoreOf_40 rfl ?_
    refine mv_imul dX12_scoreOf_41 ?_
    refine mv_iload dX12_scoreOf_42 rfl ?_
    refine mv_iload dX12_scoreOf_44 rfl ?_
    refine mv_imul dX12_scoreOf_46 ?_
    refine mv_isub dX12_scoreOf_47 ?_
    exact mv_iret dX12_scoreOf_48 rfl rfl ⟨(congrArg (fun z => some (Value.int z)) (by unfold q_sc; first | (rw [if_pos c5]; rfl) | (rw [if_neg c5]; rfl))), rfl⟩
  · have c5 : ¬ q_hit c b k = -1 := fun q => c5 ((q_hit_c n9 k).mpr q)
    refine mv_bipush (v := nI 100) dX12_scoreOf_8 (by decide) ?_
    refine mv_goto (tgt := 14) dX12_scoreOf_10 (by decide) ?_
    refine mv_istore_n dX12_scoreOf_14 (by decide) ?_
    refine mv_aload_n dX12_scoreOf_15 rfl ?_
    refine mv_iload_n dX12_scoreOf_16 rfl ?_
    refine mv_cV1 (ci := 12) dX12_scoreOf_17 lk_X12_scoreOf_321 HX rfl (Nat.le_of_ble_eq_true rfl) (Nat.le_of_ble_eq_true rfl) (k_X12_aloneOf (ev := ev) HX X56 X57 X58 X53 XC hci hk hw hb) ?_
    refine mv_iload_n dX12_scoreOf_20 rfl ?_
    refine mv_isub dX12_scoreOf_21 ?_
    refine mv_istore_n dX12_scoreOf_22 (by decide) ?_
    refine mv_aload_n dX12_scoreOf_23 rfl ?_
    refine mv_getf (ci := 12) (f := 29) dX12_scoreOf_24 HX rfl (by decide) wd_1228 rfl ?_
    refine mv_bipush (v := nI 7) dX12_scoreOf_27 (by decide) ?_
    refine mv_iload_n dX12_scoreOf_29 rfl ?_
    refine mv_imul dX12_scoreOf_30 ?_
    refine mv_topI (y := nI (7 * k)) (pk_mul _ _) ?_
    refine mv_bipush (v := nI 6) dX12_scoreOf_31 (by decide) ?_
    refine mv_iadd dX12_scoreOf_33 ?_
    refine mv_topI (y := nI (7 * k + 6)) (nI_add _ _) ?_
    refine mv_iaN (j := (7 * k + 6)) (x := nI (c.2.2.2.2.2.2.2 k)) dX12_scoreOf_34 XC rfl (by decide) (by omega) (congrArg nI (q_row_6 c k)) ?_
    refine mv_iload_n dX12_scoreOf_35 rfl ?_
    refine mv_isub dX12_scoreOf_36 ?_
    refine mv_istore dX12_scoreOf_37 (by decide) ?_
    refine mv_iload_n dX12_scoreOf_39 rfl ?_
    refine mv_iload_n dX12_scoreOf_40 rfl ?_
    refine mv_imul dX12_scoreOf_41 ?_
    refine mv_iload dX12_scoreOf_42 rfl ?_
    refine mv_iload dX12_scoreOf_44 rfl ?_
    refine mv_imul dX12_scoreOf_46 ?_
    refine mv_isub dX12_scoreOf_47 ?_
    exact mv_iret dX12_scoreOf_48 rfl rfl ⟨(congrArg (fun z => some (Value.int z)) (by unfold q_sc; first | (rw [if_pos c5]; rfl) | (rw [if_neg c5]; rfl))), rfl⟩
