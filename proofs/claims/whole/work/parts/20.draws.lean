set_option maxRecDepth 100000 in
theorem k_X12_draw {ev : mv_E} {h : mv_H} {xt : Int32} {xf : Int32} {xa : Int32} {xo : Int64} {xe : Int32} {xu : Int32} {xs : Int32} {xg : Int32} {xc : Int32} {xw : Int32} {b : t_B} {t : Nat} {m : Nat} (HX : h[52]? = some (.inr (12, [.ref 53, .ref 54, .int xt, .int xf, .int xa, .long xo, .int xe, .int xu, .ref 55, .int xs, .int (nI b.1), .ref 56, .ref 57, .ref 58, .int (nI t), .int (nI b.2.1), .ref 59, .ref 60, .ref 61, .ref 62, .int xg, .ref 63, .ref 64, .ref 65, .ref 66, .ref 67, .ref 68, .ref 69, .int xc, .ref 70, .ref 71, .ref 72, .ref 73, .ref 74, .ref 75, .int xw, .ref 76, .ref 77, .ref 78, .ref 79, .ref 80]))) (hs : b.2.1 < 2147483648) (hm1 : 1 ≤ m) (hm2 : m < 2147483648) : ∃ h2, mv_K ev mX12_draw [.ref 52, .int (nI m)] h (some (.int (nI (t_sd b.2.1 / 65536 % m)))) h2 ∧ mv_fra [52] h h2 ∧ h2[52]? = some (.inr (12, [.ref 53, .ref 54, .int xt, .int xf, .int xa, .long xo, .int xe, .int xu, .ref 55, .int xs, .int (nI (t_ds b).1), .ref 56, .ref 57, .ref 58, .int (nI t), .int (nI (t_ds b).2.1), .ref 59, .ref 60, .ref 61, .ref 62, .int xg, .ref 63, .ref 64, .ref 65, .ref 66, .ref 67, .ref 68, .ref 69, .int xc, .ref 70, .ref 71, .ref 72, .ref 73, .ref 74, .ref 75, .int xw, .ref 76, .ref 77, .ref 78, .ref 79, .ref 80])) := by
  suffices g0 : mv_g ev mX12_draw 0 (mv_ent [.ref 52, .int (nI m)] (mv_ml mX12_draw)) [] h (fun r g => r = some (.int (nI (t_sd b.2.1 / 65536 % m))) ∧ mv_fra [52] h g ∧ g[52]? = some (.inr (12, [.ref 53, .ref 54, .int xt, .int xf, .int xa, .long xo, .int xe, .int xu, .ref 55, .int xs, .int (nI (t_ds b).1), .ref 56, .ref 57, .ref 58, .int (nI t), .int (nI (t_ds b).2.1), .ref 59, .ref 60, .ref 61, .ref 62, .int xg, .ref 63, .ref 64, .ref 65, .ref 66, .ref 67, .ref 68, .ref 69, .int xc, .ref 70, .ref 71, .ref 72, .ref 73, .ref 74, .ref 75, .int xw, .ref 76, .ref 77, .ref 78, .ref 79, .ref 80]))) from (by obtain ⟨r0, h0, K0, q0, Q0⟩ := mv_Kex g0; subst q0; exact ⟨h0, K0, Q0⟩)
  show mv_g ev mX12_draw 0 [.ref 52, .int (nI m)] [] h _
  have fr : mv_fra [52] h h := mv_fra.rf
  have b1 := t_sd_lt b.2.1
  refine mv_aload_n dX12_draw_0 rfl ?_
  refine mv_aload_n dX12_draw_1 rfl ?_
  refine mv_getf (ci := 12) (f := 15) dX12_draw_2 HX rfl (by decide) wd_1214 rfl ?_
  refine mv_i2l dX12_draw_5 ?_
  refine mv_topL (y := lN b.2.1) (nI_l (by omega)) ?_
  refine mv_ldc2 (v := lN 1103515245) dX12_draw_6 wd_1444 ?_
  refine mv_lmul dX12_draw_9 ?_
  refine mv_topL (y := lN (b.2.1 * 1103515245)) (lN_mul _ _) ?_
  refine mv_ldc2 (v := lN 12345) dX12_draw_10 wd_1445 ?_
  refine mv_ladd dX12_draw_13 ?_
  refine mv_topL (y := lN (b.2.1 * 1103515245 + 12345)) (lN_add _ _) ?_
  refine mv_ldc2 (v := lN 2147483648) dX12_draw_14 wd_1446 ?_
  refine mv_lrem dX12_draw_17 (by decide) ?_
  refine mv_topL (y := lN (t_sd b.2.1)) (by rw [t_sd_eq]; exact lN_rem (by omega) (by omega) (by omega)) ?_
  refine mv_l2i dX12_draw_18 ?_
  refine mv_topI (y := nI (t_sd b.2.1)) (lN_i _) ?_
  refine mv_putf (ci := 12) (f := 15) dX12_draw_19 HX rfl (by decide) wd_1214 rfl rfl (fun _ => ⟨rfl, rfl⟩) (Nat.le_of_ble_eq_true rfl) ?_
  refine mv_topH (fun h1 e2 => ?_)
  have HX : h1[52]? = some (.inr (12, [.ref 53, .ref 54, .int xt, .int xf, .int xa, .long xo, .int xe, .int xu, .ref 55, .int xs, .int (nI b.1), .ref 56, .ref 57, .ref 58, .int (nI t), .int (nI (t_sd b.2.1)), .ref 59, .ref 60, .ref 61, .ref 62, .int xg, .ref 63, .ref 64, .ref 65, .ref 66, .ref 67, .ref 68, .ref 69, .int xc, .ref 70, .ref 71, .ref 72, .ref 73, .ref 74, .ref 75, .int xw, .ref 76, .ref 77, .ref 78, .ref 79, .ref 80])) := mv_eq e2 HX
  have fr := fr.set e2 (by decide)
  clear e2
  refine mv_aload_n dX12_draw_22 rfl ?_
  refine mv_getf (ci := 12) (f := 15) dX12_draw_23 HX rfl (by decide) wd_1214 rfl ?_
  refine mv_ldc (v := nI 65536) dX12_draw_26 wd_1447 ?_
  refine mv_idiv dX12_draw_28 (by decide) ?_
  refine mv_topI (y := nI ((t_sd b.2.1) / 65536)) (pk_div (by omega) (by omega) (by omega)) ?_
  refine mv_iload_n dX12_draw_29 rfl ?_
  refine mv_irem dX12_draw_30 (by intro z; have z2 := (nI_eq (b := 0) (by omega) (by omega)).mp z; omega) ?_
  refine mv_topI (y := nI (((t_sd b.2.1) / 65536) % m)) (pk_rem (by omega) (by omega) (by omega)) ?_
  exact mv_iret dX12_draw_31 rfl rfl ⟨rfl, fr, HX⟩
theorem q_szs {G s2 s x y : Nat} (hm : (y = 1 ∧ t_sz G (9 - x) s2 = t_sz G 8 s) ∨ (y = 0 ∧ (x, s2) = t_sz G 8 s)) (h1 : 1 ≤ x) (h9 : x ≤ 9) (hc : y = 0 ∨ ¬ x < 9) : t_sz G 8 s = (x, s2) := by
  rcases hm with ⟨e1, e2⟩ | ⟨e1, e2⟩
  · have e : x = 9 := by omega
    subst e
    exact e2.symm
  · exact e2.symm
set_option maxRecDepth 100000 in
theorem l_X12_drawSize {ev : mv_E} {h : mv_H} {xt : Int32} {xf : Int32} {xa : Int32} {xo : Int64} {xe : Int32} {xu : Int32} {xs : Int32} {xg : Int32} {xc : Int32} {xw : Int32} {b : t_B} {t : Nat} {lw : Nat → Int32} {G : Nat}  (hs : b.2.1 < 2147483648) (hG : lw 1 = nI G) (hGb : G ≤ 99) : ∀ (fu : Nat) (x : Nat) (y : Nat) (s2 : Nat), ∀ (g : mv_H), 10 + y < x + fu → mv_fra [52] h g → g[52]? = some (.inr (12, [.ref 53, .ref 54, .int xt, .int xf, .int xa, .long xo, .int xe, .int xu, .ref 55, .int xs, .int (nI (b.1, s2, b.2.2).1), .ref 56, .ref 57, .ref 58, .int (nI t), .int (nI (b.1, s2, b.2.2).2.1), .ref 59, .ref 60, .ref 61, .ref 62, .int xg, .ref 63, .ref 64, .ref 65, .ref 66, .ref 67, .ref 68, .ref 69, .int xc, .ref 70, .ref 71, .ref 72, .ref 73, .ref 74, .ref 75, .int xw, .ref 76, .ref 77, .ref 78, .ref 79, .ref 80])) → g[53]? = some (.inl (0, 8, .inl lw)) → (1 ≤ x) → (x ≤ 9) → (s2 < 2147483648) → ((y = 1 ∧ t_sz G (9 - x) s2 = t_sz G 8 b.2.1) ∨ (y = 0 ∧ (x, s2) = t_sz G 8 b.2.1)) → mv_g ev mX12_drawSize 4 [.ref 52, .int (nI x), .int (nI y)] [] g (fun r g => r = some (.int (nI (t_sz G 8 b.2.1).1)) ∧ mv_fra [52] h g ∧ g[52]? = some (.inr (12, [.ref 53, .ref 54, .int xt, .int xf, .int xa, .long xo, .int xe, .int xu, .ref 55, .int xs, .int (nI (b.1, (t_sz G 8 b.2.1).2, b.2.2).1), .ref 56, .ref 57, .ref 58, .int (nI t), .int (nI (b.1, (t_sz G 8 b.2.1).2, b.2.2).2.1), .ref 59, .ref 60, .ref 61, .ref 62, .int xg, .ref 63, .ref 64, .ref 65, .ref 66, .ref 67, .ref 68, .ref 69, .int xc, .ref 70, .ref 71, .ref 72, .ref 73, .ref 74, .ref 75, .int xw, .ref 76, .ref 77, .ref 78, .ref 79, .ref 80]))) := by
  intro fu
  induction fu with
  | zero => intro x y s2 g hm fr HX X53 hz1 hz9 hs2 hmo; exact absurd hm (by omega)
  | succ fu ih =>
    intro x y s2 g hm fr HX X53 hz1 hz9 hs2 hmo
    refine mv_iload_n dX12_drawSize_4 rfl ?_
    refine mv_if_eq (tgt := 50) dX12_drawSize_5 (by decide) (fun c5 => ?_) (fun c5 => ?_)
    · have c5 : y = 0 := (nI_eq (b := 0) (by omega) (by omega)).mp c5
      refine mv_iload_n dX12_drawSize_50 rfl ?_
      have e9 := q_szs hmo hz1 hz9 (by omega)
      exact mv_iret dX12_drawSize_51 rfl rfl ⟨(by rw [e9]), fr, (by rw [e9]; exact HX)⟩
    · have c5 : ¬ (y = 0) := fun z => c5 ((nI_eq (b := 0) (by omega) (by omega)).mpr z)
      refine mv_iload_n dX12_drawSize_8 rfl ?_
      refine mv_bipush (v := nI 9) dX12_drawSize_9 (by decide) ?_
      refine mv_icmp_ge (tgt := 50) dX12_drawSize_11 (by decide) (fun c11 => ?_) (fun c11 => ?_)
      · have c11 : 9 ≤ x := (nI_leI (by omega) (by omega)).mp c11
        refine mv_iload_n dX12_drawSize_50 rfl ?_
        have e9 := q_szs hmo hz1 hz9 (by omega)
        exact mv_iret dX12_drawSize_51 rfl rfl ⟨(by rw [e9]), fr, (by rw [e9]; exact HX)⟩
      · have c11 : ¬ (9 ≤ x) := fun z => c11 ((nI_leI (by omega) (by omega)).mpr z)
        have hq := (hmo.resolve_right (fun z => absurd z.1 (by omega))).2
        refine mv_aload_n dX12_drawSize_14 rfl ?_
        refine mv_bipush (v := nI 100) dX12_drawSize_15 (by decide) ?_
        obtain ⟨h1, K2, f3, y4⟩ := (k_X12_draw (ev := ev) (xt := xt) (xf := xf) (xa := xa) (xo := xo) (xe := xe) (xu := xu) (xs := xs) (xg := xg) (xc := xc) (xw := xw) (b := (b.1, s2, b.2.2)) (t := t) (m := 100) HX hs2 (by omega) (by omega))
        refine mv_cV1 (ci := 12) dX12_drawSize_17 lk_X12_drawSize_233 HX rfl (Nat.le_of_ble_eq_true rfl) (Nat.le_of_ble_eq_true rfl) K2 ?_
        have HX : h1[52]? = some (.inr (12, [.ref 53, .ref 54, .int xt, .int xf, .int xa, .long xo, .int xe, .int xu, .ref 55, .int xs, .int (nI (t_ds (b.1, s2, b.2.2)).1), .ref 56, .ref 57, .ref 58, .int (nI t), .int (nI (t_ds (b.1, s2, b.2.2)).2.1), .ref 59, .ref 60, .ref 61, .ref 62, .int xg, .ref 63, .ref 64, .ref 65, .ref 66, .ref 67, .ref 68, .ref 69, .int xc, .ref 70, .ref 71, .ref 72, .ref 73, .ref 74, .ref 75, .int xw, .ref 76, .ref 77, .ref 78, .ref 79, .ref 80])) := y4
        have X53 := f3.get (by decide) X53
        have fr := fr.trans f3 (by decide)
        refine mv_aload_n dX12_drawSize_20 rfl ?_
        refine mv_getf (ci := 12) (f := 0) dX12_drawSize_21 HX rfl (by decide) wd_1199 rfl ?_
        refine mv_iconst (v := nI 1) dX12_drawSize_24 (by decide) ?_
        refine mv_iaN (j := 1) (x := nI G) dX12_drawSize_25 X53 rfl (by decide) (by omega) (by exact hG) ?_
        refine mv_icmp_ge (tgt := 33) dX12_drawSize_26 (by decide) (fun c26 => ?_) (fun c26 => ?_)
        · have c26 : G ≤ t_sd s2 / 65536 % 100 := (nI_leI (by omega) (by omega)).mp c26
          refine mv_iconst (v := nI 0) dX12_drawSize_33 (by decide) ?_
          refine mv_istore_n dX12_drawSize_34 (by decide) ?_
          refine mv_iload_n dX12_drawSize_35 rfl ?_
          refine mv_iload_n dX12_drawSize_36 rfl ?_
          refine mv_if_eq (tgt := 44) dX12_drawSize_37 (by decide) (fun c37 => ?_) (fun z => absurd ((by decide)) z)
          refine mv_iconst (v := nI 0) dX12_drawSize_44 (by decide) ?_
          refine mv_iadd dX12_drawSize_45 ?_
          refine mv_topI (y := nI (x + 0)) (nI_add _ _) ?_
          refine mv_istore_n dX12_drawSize_46 (by decide) ?_
          refine mv_goto (tgt := 4) dX12_drawSize_47 (by decide) ?_
          exact ih (x + 0) 0 (t_sd s2) h1 (by omega) fr HX X53 (by omega) (by omega) (t_sd_lt s2) (Or.inr ⟨rfl, (t_sz_stop hz1 (by omega) (by omega)).symm.trans hq⟩)
        · have c26 : ¬ (G ≤ t_sd s2 / 65536 % 100) := fun z => c26 ((nI_leI (by omega) (by omega)).mpr z)
          refine mv_iconst (v := nI 1) dX12_drawSize_29 (by decide) ?_
          refine mv_goto (tgt := 34) dX12_drawSize_30 (by decide) ?_
          refine mv_istore_n dX12_drawSize_34 (by decide) ?_
          refine mv_iload_n dX12_drawSize_35 rfl ?_
          refine mv_iload_n dX12_drawSize_36 rfl ?_
          refine mv_if_eq (tgt := 44) dX12_drawSize_37 (by decide) (fun z => absurd z ((by decide))) (fun c37 => ?_)
          refine mv_iconst (v := nI 1) dX12_drawSize_40 (by decide) ?_
          refine mv_goto (tgt := 45) dX12_drawSize_41 (by decide) ?_
          refine mv_iadd dX12_drawSize_45 ?_
          refine mv_topI (y := nI (x + 1)) (nI_add _ _) ?_
          refine mv_istore_n dX12_drawSize_46 (by decide) ?_
          refine mv_goto (tgt := 4) dX12_drawSize_47 (by decide) ?_
          exact ih (x + 1) 1 (t_sd s2) h1 (by omega) fr HX X53 (by omega) (by omega) (t_sd_lt s2) (Or.inl ⟨rfl, (t_sz_go (by omega) (by omega)).symm.trans hq⟩)
set_option maxRecDepth 100000 in
theorem k_X12_drawSize {ev : mv_E} {h : mv_H} {xt : Int32} {xf : Int32} {xa : Int32} {xo : Int64} {xe : Int32} {xu : Int32} {xs : Int32} {xg : Int32} {xc : Int32} {xw : Int32} {b : t_B} {t : Nat} {lw : Nat → Int32} {G : Nat} (HX : h[52]? = some (.inr (12, [.ref 53, .ref 54, .int xt, .int xf, .int xa, .long xo, .int xe, .int xu, .ref 55, .int xs, .int (nI b.1), .ref 56, .ref 57, .ref 58, .int (nI t), .int (nI b.2.1), .ref 59, .ref 60, .ref 61, .ref 62, .int xg, .ref 63, .ref 64, .ref 65, .ref 66, .ref 67, .ref 68, .ref 69, .int xc, .ref 70, .ref 71, .ref 72, .ref 73, .ref 74, .ref 75, .int xw, .ref 76, .ref 77, .ref 78, .ref 79, .ref 80]))) (X53 : h[53]? = some (.inl (0, 8, .inl lw))) (hs : b.2.1 < 2147483648) (hG : lw 1 = nI G) (hGb : G ≤ 99) : ∃ h2, mv_K ev mX12_drawSize [.ref 52] h (some (.int (nI (t_sz G 8 b.2.1).1))) h2 ∧ mv_fra [52] h h2 ∧ h2[52]? = some (.inr (12, [.ref 53, .ref 54, .int xt, .int xf, .int xa, .long xo, .int xe, .int xu, .ref 55, .int xs, .int (nI (b.1, (t_sz G 8 b.2.1).2, b.2.2).1), .ref 56, .ref 57, .ref 58, .int (nI t), .int (nI (b.1, (t_sz G 8 b.2.1).2, b.2.2).2.1), .ref 59, .ref 60, .ref 61, .ref 62, .int xg, .ref 63, .ref 64, .ref 65, .ref 66, .ref 67, .ref 68, .ref 69, .int xc, .ref 70, .ref 71, .ref 72, .ref 73, .ref 74, .ref 75, .int xw, .ref 76, .ref 77, .ref 78, .ref 79, .ref 80])) := by
  suffices g0 : mv_g ev mX12_drawSize 0 (mv_ent [.ref 52] (mv_ml mX12_drawSize)) [] h (fun r g => r = some (.int (nI (t_sz G 8 b.2.1).1)) ∧ mv_fra [52] h g ∧ g[52]? = some (.inr (12, [.ref 53, .ref 54, .int xt, .int xf, .int xa, .long xo, .int xe, .int xu, .ref 55, .int xs, .int (nI (b.1, (t_sz G 8 b.2.1).2, b.2.2).1), .ref 56, .ref 57, .ref 58, .int (nI t), .int (nI (b.1, (t_sz G 8 b.2.1).2, b.2.2).2.1), .ref 59, .ref 60, .ref 61, .ref 62, .int xg, .ref 63, .ref 64, .ref 65, .ref 66, .ref 67, .ref 68, .ref 69, .int xc, .ref 70, .ref 71, .ref 72, .ref 73, .ref 74, .ref 75, .int xw, .ref 76, .ref 77, .ref 78, .ref 79, .ref 80]))) from (by obtain ⟨r0, h0, K0, q0, Q0⟩ := mv_Kex g0; subst q0; exact ⟨h0, K0, Q0⟩)
  show mv_g ev mX12_drawSize 0 [.ref 52, .null, .null] [] h _
  have fr : mv_fra [52] h h := mv_fra.rf
  refine mv_iconst (v := nI 1) dX12_drawSize_0 (by decide) ?_
  refine mv_istore_n dX12_drawSize_1 (by decide) ?_
  refine mv_iconst (v := nI 1) dX12_drawSize_2 (by decide) ?_
  refine mv_istore_n dX12_drawSize_3 (by decide) ?_
  exact l_X12_drawSize hs hG hGb 12 1 1 b.2.1 h (by omega) fr HX X53 (by omega) (by omega) hs (Or.inl ⟨rfl, rfl⟩)
set_option maxRecDepth 100000 in
theorem k_X12_addShake {ev : mv_E} {h : mv_H} {xt : Int32} {xf : Int32} {xa : Int32} {xo : Int64} {xe : Int32} {xu : Int32} {xs : Int32} {xg : Int32} {xc : Int32} {xw : Int32} {b : t_B} {t : Nat} {d : Nat} {p : Nat} {x : Nat} (HX : h[52]? = some (.inr (12, [.ref 53, .ref 54, .int xt, .int xf, .int xa, .long xo, .int xe, .int xu, .ref 55, .int xs, .int (nI b.1), .ref 56, .ref 57, .ref 58, .int (nI t), .int (nI b.2.1), .ref 59, .ref 60, .ref 61, .ref 62, .int xg, .ref 63, .ref 64, .ref 65, .ref 66, .ref 67, .ref 68, .ref 69, .int xc, .ref 70, .ref 71, .ref 72, .ref 73, .ref 74, .ref 75, .int xw, .ref 76, .ref 77, .ref 78, .ref 79, .ref 80]))) (X56 : h[56]? = some (.inl (0, 60, .inl (fun j => nI (b.2.2.1 j))))) (X57 : h[57]? = some (.inl (0, 60, .inl (fun j => nI (b.2.2.2.1 j))))) (X58 : h[58]? = some (.inl (0, 60, .inl (fun j => nI (b.2.2.2.2 j))))) (hn : b.1 < 60) : ∃ h2, mv_K ev mX12_addShake [.ref 52, .int (nI d), .int (nI p), .int (nI x)] h (none) h2 ∧ mv_fra [52, 56, 57, 58] h h2 ∧ h2[52]? = some (.inr (12, [.ref 53, .ref 54, .int xt, .int xf, .int xa, .long xo, .int xe, .int xu, .ref 55, .int xs, .int (nI (q_wr b d p x).1), .ref 56, .ref 57, .ref 58, .int (nI t), .int (nI (q_wr b d p x).2.1), .ref 59, .ref 60, .ref 61, .ref 62, .int xg, .ref 63, .ref 64, .ref 65, .ref 66, .ref 67, .ref 68, .ref 69, .int xc, .ref 70, .ref 71, .ref 72, .ref 73, .ref 74, .ref 75, .int xw, .ref 76, .ref 77, .ref 78, .ref 79, .ref 80])) ∧ h2[56]? = some (.inl (0, 60, .inl (fun j => nI ((q_wr b d p x).2.2.1 j)))) ∧ h2[57]? = some (.inl (0, 60, .inl (fun j => nI ((q_wr b d p x).2.2.2.1 j)))) ∧ h2[58]? = some (.inl (0, 60, .inl (fun j => nI ((q_wr b d p x).2.2.2.2 j)))) := by
  suffices g0 : mv_g ev mX12_addShake 0 (mv_ent [.ref 52, .int (nI d), .int (nI p), .int (nI x)] (mv_ml mX12_addShake)) [] h (fun r g => r = none ∧ mv_fra [52, 56, 57, 58] h g ∧ g[52]? = some (.inr (12, [.ref 53, .ref 54, .int xt, .int xf, .int xa, .long xo, .int xe, .int xu, .ref 55, .int xs, .int (nI (q_wr b d p x).1), .ref 56, .ref 57, .ref 58, .int (nI t), .int (nI (q_wr b d p x).2.1), .ref 59, .ref 60, .ref 61, .ref 62, .int xg, .ref 63, .ref 64, .ref 65, .ref 66, .ref 67, .ref 68, .ref 69, .int xc, .ref 70, .ref 71, .ref 72, .ref 73, .ref 74, .ref 75, .int xw, .ref 76, .ref 77, .ref 78, .ref 79, .ref 80])) ∧ g[56]? = some (.inl (0, 60, .inl (fun j => nI ((q_wr b d p x).2.2.1 j)))) ∧ g[57]? = some (.inl (0, 60, .inl (fun j => nI ((q_wr b d p x).2.2.2.1 j)))) ∧ g[58]? = some (.inl (0, 60, .inl (fun j => nI ((q_wr b d p x).2.2.2.2 j))))) from (by obtain ⟨r0, h0, K0, q0, Q0⟩ := mv_Kex g0; subst q0; exact ⟨h0, K0, Q0⟩)
  show mv_g ev mX12_addShake 0 [.ref 52, .int (nI d), .int (nI p), .int (nI x)] [] h _
  have fr : mv_fra [52, 56, 57, 58] h h := mv_fra.rf
  refine mv_aload_n dX12_addShake_0 rfl ?_
  refine mv_getf (ci := 12) (f := 11) dX12_addShake_1 HX rfl (by decide) wd_1210 rfl ?_
  refine mv_aload_n dX12_addShake_4 rfl ?_
  refine mv_getf (ci := 12) (f := 10) dX12_addShake_5 HX rfl (by decide) wd_1209 rfl ?_
  refine mv_iload_n dX12_addShake_8 rfl ?_
  refine mv_iastN (j := b.1) dX12_addShake_9 X56 rfl (by decide) (by omega) (fun h1 e2 => ?_)
  rw [upd_nI] at e2
  have HX := mv_ne e2 (by decide) HX
  have X56 : h1[56]? = some (.inl (0, 60, .inl (fun j => nI (t_up b.2.2.1 b.1 d j)))) := mv_eq e2 X56
  have X57 := mv_ne e2 (by decide) X57
  have X58 := mv_ne e2 (by decide) X58
  have fr := fr.set e2 (by decide)
  clear e2
  refine mv_aload_n dX12_addShake_10 rfl ?_
  refine mv_getf (ci := 12) (f := 12) dX12_addShake_11 HX rfl (by decide) wd_1211 rfl ?_
  refine mv_aload_n dX12_addShake_14 rfl ?_
  refine mv_getf (ci := 12) (f := 10) dX12_addShake_15 HX rfl (by decide) wd_1209 rfl ?_
  refine mv_iload_n dX12_addShake_18 rfl ?_
  refine mv_iastN (j := b.1) dX12_addShake_19 X57 rfl (by decide) (by omega) (fun h3 e4 => ?_)
  rw [upd_nI] at e4
  have HX := mv_ne e4 (by decide) HX
  have X56 := mv_ne e4 (by decide) X56
  have X57 : h3[57]? = some (.inl (0, 60, .inl (fun j => nI (t_up b.2.2.2.1 b.1 p j)))) := mv_eq e4 X57
  have X58 := mv_ne e4 (by decide) X58
  have fr := fr.set e4 (by decide)
  clear e4
  refine mv_aload_n dX12_addShake_20 rfl ?_
  refine mv_getf (ci := 12) (f := 13) dX12_addShake_21 HX rfl (by decide) wd_1212 rfl ?_
  refine mv_aload_n dX12_addShake_24 rfl ?_
  refine mv_getf (ci := 12) (f := 10) dX12_addShake_25 HX rfl (by decide) wd_1209 rfl ?_
  refine mv_iload_n dX12_addShake_28 rfl ?_
  refine mv_iastN (j := b.1) dX12_addShake_29 X58 rfl (by decide) (by omega) (fun h5 e6 => ?_)
  rw [upd_nI] at e6
  have HX := mv_ne e6 (by decide) HX
  have X56 := mv_ne e6 (by decide) X56
  have X57 := mv_ne e6 (by decide) X57
  have X58 : h5[58]? = some (.inl (0, 60, .inl (fun j => nI (t_up b.2.2.2.2 b.1 x j)))) := mv_eq e6 X58
  have fr := fr.set e6 (by decide)
  clear e6
  refine mv_aload_n dX12_addShake_30 rfl ?_
  refine mv_dup dX12_addShake_31 rfl ?_
  refine mv_getf (ci := 12) (f := 10) dX12_addShake_32 HX rfl (by decide) wd_1209 rfl ?_
  refine mv_iconst (v := nI 1) dX12_addShake_35 (by decide) ?_
  refine mv_iadd dX12_addShake_36 ?_
  refine mv_topI (y := nI (b.1 + 1)) (nI_add _ _) ?_
  refine mv_putf (ci := 12) (f := 10) dX12_addShake_37 HX rfl (by decide) wd_1209 rfl rfl (fun _ => ⟨rfl, rfl⟩) (Nat.le_of_ble_eq_true rfl) ?_
  refine mv_topH (fun h7 e8 => ?_)
  have HX : h7[52]? = some (.inr (12, [.ref 53, .ref 54, .int xt, .int xf, .int xa, .long xo, .int xe, .int xu, .ref 55, .int xs, .int (nI (b.1 + 1)), .ref 56, .ref 57, .ref 58, .int (nI t), .int (nI b.2.1), .ref 59, .ref 60, .ref 61, .ref 62, .int xg, .ref 63, .ref 64, .ref 65, .ref 66, .ref 67, .ref 68, .ref 69, .int xc, .ref 70, .ref 71, .ref 72, .ref 73, .ref 74, .ref 75, .int xw, .ref 76, .ref 77, .ref 78, .ref 79, .ref 80])) := mv_eq e8 HX
  have X56 := mv_ne e8 (by decide) X56
  have X57 := mv_ne e8 (by decide) X57
  have X58 := mv_ne e8 (by decide) X58
  have fr := fr.set e8 (by decide)
  clear e8
  exact mv_vret dX12_addShake_40 rfl ⟨rfl, fr, HX, X56, X57, X58⟩
theorem q_dnr {p N L y : Nat} {f v : Int32} (hp : p < 64) (hN : N < 8) (hi : L < t_near p N) (hs : (f = -1 ∧ v = nI (L - t_cN p N y) ∧ t_cN p N y ≤ L) ∨ f = nI (t_plc p N L)) (hc : y = 64 ∨ 0 ≤ f) : f = nI (t_plc p N L) := by
  rcases hs with ⟨h1, h2, h3⟩ | h1
  · rcases hc with e | e
    · rw [e, q_cN p N hp hN] at h3
      omega
    · rw [h1] at e
      exact absurd e (by decide)
  · exact h1
set_option maxRecDepth 100000 in
theorem l_X12_drawNear {ev : mv_E} {h : mv_H} {xt : Int32} {xf : Int32} {xa : Int32} {xo : Int64} {xe : Int32} {xu : Int32} {xs : Int32} {xg : Int32} {xc : Int32} {xw : Int32} {b : t_B} {t : Nat} {lw : Nat → Int32} {ln : Nat → Nat} {p : Nat}  (hs : b.2.1 < 2147483648) (hp : p < 64) (hw : q_LW lw ln) : ∀ (fu : Nat) (v : Int32) (f : Int32) (y : Nat), ∀ (g : mv_H), 64 < y + fu → mv_fra [52] h g → g[52]? = some (.inr (12, [.ref 53, .ref 54, .int xt, .int xf, .int xa, .long xo, .int xe, .int xu, .ref 55, .int xs, .int (nI (t_ds b).1), .ref 56, .ref 57, .ref 58, .int (nI t), .int (nI (t_ds b).2.1), .ref 59, .ref 60, .ref 61, .ref 62, .int xg, .ref 63, .ref 64, .ref 65, .ref 66, .ref 67, .ref 68, .ref 69, .int xc, .ref 70, .ref 71, .ref 72, .ref 73, .ref 74, .ref 75, .int xw, .ref 76, .ref 77, .ref 78, .ref 79, .ref 80])) → g[53]? = some (.inl (0, 8, .inl lw)) → (y ≤ 64) → ((f = -1 ∧ v = nI ((t_sd b.2.1 / 65536 % t_near p (ln 4)) - t_cN p (ln 4) y) ∧ t_cN p (ln 4) y ≤ (t_sd b.2.1 / 65536 % t_near p (ln 4))) ∨ f = nI (t_plc p (ln 4) (t_sd b.2.1 / 65536 % t_near p (ln 4)))) → mv_g ev mX12_drawNear 20 [.ref 52, .int (nI p), .int v, .int f, .int (nI y), .null] [] g (fun r g => r = some (.int (nI (t_plc p (ln 4) (t_sd b.2.1 / 65536 % t_near p (ln 4))))) ∧ mv_fra [52] h g ∧ g[52]? = some (.inr (12, [.ref 53, .ref 54, .int xt, .int xf, .int xa, .long xo, .int xe, .int xu, .ref 55, .int xs, .int (nI (t_ds b).1), .ref 56, .ref 57, .ref 58, .int (nI t), .int (nI (t_ds b).2.1), .ref 59, .ref 60, .ref 61, .ref 62, .int xg, .ref 63, .ref 64, .ref 65, .ref 66, .ref 67, .ref 68, .ref 69, .int xc, .ref 70, .ref 71, .ref 72, .ref 73, .ref 74, .ref 75, .int xw, .ref 76, .ref 77, .ref 78, .ref 79, .ref 80]))) := by
  intro fu
  induction fu with
  | zero => intro v f y g hm fr HX X53 hy hst; exact absurd hm (by omega)
  | succ fu ih =>
    intro v f y g hm fr HX X53 hy hst
    have hwv := hw.1
    obtain ⟨g0, g1, g2, g3, g3b, g4, g7, gmo⟩ := hw.2
    have g4b : ln 4 < 8 := (by omega)
    have z1 := t_near_pos (m := ln 4) hp
    have z2 := t_near_le p (ln 4)
    have hi : (t_sd b.2.1 / 65536 % t_near p (ln 4)) < t_near p (ln 4) := Nat.mod_lt _ z1
    refine mv_iload dX12_drawNear_20 rfl ?_
    refine mv_bipush (v := nI 64) dX12_drawNear_22 (by decide) ?_
    refine mv_icmp_ge (tgt := 88) dX12_drawNear_24 (by decide) (fun c24 => ?_) (fun c24 => ?_)
    · have c24 : 64 ≤ y := (nI_leI (by omega) (by omega)).mp c24
      refine mv_iload_n dX12_drawNear_88 rfl ?_
      have e9 := q_dnr hp g4b hi hst (by first | exact Or.inr c28 | exact Or.inl (by omega))
      exact mv_iret dX12_drawNear_89 rfl rfl ⟨(by rw [e9]), fr, HX⟩
    · have c24 : ¬ (64 ≤ y) := fun z => c24 ((nI_leI (by omega) (by omega)).mpr z)
      refine mv_iload_n dX12_drawNear_27 rfl ?_
      refine mv_if_ge (tgt := 88) dX12_drawNear_28 (by decide) (fun c28 => ?_) (fun c28 => ?_)
      · skip
        refine mv_iload_n dX12_drawNear_88 rfl ?_
        have e9 := q_dnr hp g4b hi hst (by first | exact Or.inr c28 | exact Or.inl (by omega))
        exact mv_iret dX12_drawNear_89 rfl rfl ⟨(by rw [e9]), fr, HX⟩
      · skip
        obtain ⟨f1, f2, f3⟩ := hst.resolve_right (fun e => c28 (by rw [e]; exact nI_pos' (by have := t_plc_lt hp g4b hi; omega)))
        subst f1
        subst f2
        refine mv_iload dX12_drawNear_31 rfl ?_
        refine mv_iload_n dX12_drawNear_33 rfl ?_
        refine mv_cS2 dX12_drawNear_34 lk_X12_drawNear_117 (Nat.le_of_ble_eq_true rfl) (Nat.le_of_ble_eq_true rfl) (k_X12_far (ev := ev) (by omega) (by omega)) ?_
        have n5 : t_far y p < 8 := t_far_lt (by omega) hp
        have n6 := t_cN_le p (ln 4) y
        refine mv_aload_n dX12_drawNear_37 rfl ?_
        refine mv_getf (ci := 12) (f := 0) dX12_drawNear_38 HX rfl (by decide) wd_1199 rfl ?_
        refine mv_iconst (v := nI 4) dX12_drawNear_41 (by decide) ?_
        refine mv_iaN (j := 4) (x := nI (ln 4)) dX12_drawNear_42 X53 rfl (by decide) (by omega) (hwv 4 (by decide) (by decide)) ?_
        refine mv_icmp_gt (tgt := 50) dX12_drawNear_43 (by decide) (fun c43 => ?_) (fun c43 => ?_)
        · have c43 : ln 4 < t_far y p := (nI_ltI (by omega) (by omega)).mp c43
          refine mv_iconst (v := nI 0) dX12_drawNear_50 (by decide) ?_
          refine mv_istore dX12_drawNear_51 (by decide) ?_
          refine mv_iload dX12_drawNear_53 rfl ?_
          refine mv_if_eq (tgt := 67) dX12_drawNear_55 (by decide) (fun c55 => ?_) (fun z => absurd ((by decide)) z)
          refine mv_iload_n dX12_drawNear_67 rfl ?_
          refine mv_istore_n dX12_drawNear_68 (by decide) ?_
          refine mv_iload_n dX12_drawNear_69 rfl ?_
          refine mv_iload dX12_drawNear_70 rfl ?_
          refine mv_if_eq (tgt := 79) dX12_drawNear_72 (by decide) (fun c72 => ?_) (fun z => absurd ((by decide)) z)
          refine mv_iconst (v := nI 0) dX12_drawNear_79 (by decide) ?_
          refine mv_isub dX12_drawNear_80 ?_
          refine mv_istore_n dX12_drawNear_81 (by decide) ?_
          refine mv_iinc (v := nI (y + 1)) dX12_drawNear_82 rfl (mv_inc y 1) (by decide) ?_
          refine mv_goto (tgt := 20) dX12_drawNear_85 (by decide) ?_
          refine mv_sub (lv' := [.ref 52, .int (nI p), .int ((nI ((t_sd b.2.1 / 65536 % t_near p (ln 4)) - t_cN p (ln 4) y)) - (nI 0)), .int (-1), .int (nI (y + 1)), .null]) ⟨Or.inr rfl, Or.inr rfl, Or.inr rfl, Or.inr rfl, Or.inr rfl, Or.inl rfl, trivial⟩ ?_
          exact ih ((nI ((t_sd b.2.1 / 65536 % t_near p (ln 4)) - t_cN p (ln 4) y)) - (nI 0)) (-1) (y + 1) g (by omega) fr HX X53 (by omega) (Or.inl ⟨rfl, (by rw [t_cN_s, if_neg (by rw [t_far_sym]; omega), pk_sub (Nat.zero_le _)]; rfl), (by rw [t_cN_s, if_neg (by rw [t_far_sym]; omega)]; omega)⟩)
        · have c43 : ¬ (ln 4 < t_far y p) := fun z => c43 ((nI_ltI (by omega) (by omega)).mpr z)
          refine mv_iconst (v := nI 1) dX12_drawNear_46 (by decide) ?_
          refine mv_goto (tgt := 51) dX12_drawNear_47 (by decide) ?_
          refine mv_istore dX12_drawNear_51 (by decide) ?_
          refine mv_iload dX12_drawNear_53 rfl ?_
          refine mv_if_eq (tgt := 67) dX12_drawNear_55 (by decide) (fun z => absurd z ((by decide))) (fun c55 => ?_)
          refine mv_iload_n dX12_drawNear_58 rfl ?_
          refine mv_if_ne (tgt := 67) dX12_drawNear_59 (by decide) (fun c59 => ?_) (fun c59 => ?_)
          · have c59 : ¬ ((t_sd b.2.1 / 65536 % t_near p (ln 4)) - t_cN p (ln 4) y = 0) := fun z => c59 ((nI_eq (b := 0) (by omega) (by omega)).mpr z)
            refine mv_iload_n dX12_drawNear_67 rfl ?_
            refine mv_istore_n dX12_drawNear_68 (by decide) ?_
            refine mv_iload_n dX12_drawNear_69 rfl ?_
            refine mv_iload dX12_drawNear_70 rfl ?_
            refine mv_if_eq (tgt := 79) dX12_drawNear_72 (by decide) (fun z => absurd z ((by decide))) (fun c72 => ?_)
            refine mv_iconst (v := nI 1) dX12_drawNear_75 (by decide) ?_
            refine mv_goto (tgt := 80) dX12_drawNear_76 (by decide) ?_
            refine mv_isub dX12_drawNear_80 ?_
            refine mv_istore_n dX12_drawNear_81 (by decide) ?_
            refine mv_iinc (v := nI (y + 1)) dX12_drawNear_82 rfl (mv_inc y 1) (by decide) ?_
            refine mv_goto (tgt := 20) dX12_drawNear_85 (by decide) ?_
            refine mv_sub (lv' := [.ref 52, .int (nI p), .int ((nI ((t_sd b.2.1 / 65536 % t_near p (ln 4)) - t_cN p (ln 4) y)) - (nI 1)), .int (-1), .int (nI (y + 1)), .null]) ⟨Or.inr rfl, Or.inr rfl, Or.inr rfl, Or.inr rfl, Or.inr rfl, Or.inl rfl, trivial⟩ ?_
            exact ih ((nI ((t_sd b.2.1 / 65536 % t_near p (ln 4)) - t_cN p (ln 4) y)) - (nI 1)) (-1) (y + 1) g (by omega) fr HX X53 (by omega) (Or.inl ⟨rfl, (by rw [t_cN_s, if_pos (by rw [t_far_sym]; omega), pk_sub (by omega)]; exact congrArg nI (by omega)), (by rw [t_cN_s, if_pos (by rw [t_far_sym]; omega)]; omega)⟩)
          · have c59 : (t_sd b.2.1 / 65536 % t_near p (ln 4)) - t_cN p (ln 4) y = 0 := (nI_eq (b := 0) (by omega) (by omega)).mp c59
            refine mv_iload dX12_drawNear_62 rfl ?_
            refine mv_goto (tgt := 68) dX12_drawNear_64 (by decide) ?_
            refine mv_istore_n dX12_drawNear_68 (by decide) ?_
            refine mv_iload_n dX12_drawNear_69 rfl ?_
            refine mv_iload dX12_drawNear_70 rfl ?_
            refine mv_if_eq (tgt := 79) dX12_drawNear_72 (by decide) (fun z => absurd z ((by decide))) (fun c72 => ?_)
            refine mv_iconst (v := nI 1) dX12_drawNear_75 (by decide) ?_
            refine mv_goto (tgt := 80) dX12_drawNear_76 (by decide) ?_
            refine mv_isub dX12_drawNear_80 ?_
            refine mv_istore_n dX12_drawNear_81 (by decide) ?_
            refine mv_iinc (v := nI (y + 1)) dX12_drawNear_82 rfl (mv_inc y 1) (by decide) ?_
            refine mv_goto (tgt := 20) dX12_drawNear_85 (by decide) ?_
            refine mv_sub (lv' := [.ref 52, .int (nI p), .int ((nI ((t_sd b.2.1 / 65536 % t_near p (ln 4)) - t_cN p (ln 4) y)) - (nI 1)), .int (nI y), .int (nI (y + 1)), .null]) ⟨Or.inr rfl, Or.inr rfl, Or.inr rfl, Or.inr rfl, Or.inr rfl, Or.inl rfl, trivial⟩ ?_
            exact ih ((nI ((t_sd b.2.1 / 65536 % t_near p (ln 4)) - t_cN p (ln 4) y)) - (nI 1)) (nI y) (y + 1) g (by omega) fr HX X53 (by omega) (Or.inr (congrArg nI (q_plc_1 hp g4b hi (by rw [t_far_sym]; omega) (by omega))))
set_option maxRecDepth 100000 in
theorem k_X12_drawNear {ev : mv_E} {h : mv_H} {xt : Int32} {xf : Int32} {xa : Int32} {xo : Int64} {xe : Int32} {xu : Int32} {xs : Int32} {xg : Int32} {xc : Int32} {xw : Int32} {b : t_B} {t : Nat} {lw : Nat → Int32} {ln : Nat → Nat} {p : Nat} (HX : h[52]? = some (.inr (12, [.ref 53, .ref 54, .int xt, .int xf, .int xa, .long xo, .int xe, .int xu, .ref 55, .int xs, .int (nI b.1), .ref 56, .ref 57, .ref 58, .int (nI t), .int (nI b.2.1), .ref 59, .ref 60, .ref 61, .ref 62, .int xg, .ref 63, .ref 64, .ref 65, .ref 66, .ref 67, .ref 68, .ref 69, .int xc, .ref 70, .ref 71, .ref 72, .ref 73, .ref 74, .ref 75, .int xw, .ref 76, .ref 77, .ref 78, .ref 79, .ref 80]))) (X53 : h[53]? = some (.inl (0, 8, .inl lw))) (hs : b.2.1 < 2147483648) (hp : p < 64) (hw : q_LW lw ln) : ∃ h2, mv_K ev mX12_drawNear [.ref 52, .int (nI p)] h (some (.int (nI (t_plc p (ln 4) (t_sd b.2.1 / 65536 % t_near p (ln 4)))))) h2 ∧ mv_fra [52] h h2 ∧ h2[52]? = some (.inr (12, [.ref 53, .ref 54, .int xt, .int xf, .int xa, .long xo, .int xe, .int xu, .ref 55, .int xs, .int (nI (t_ds b).1), .ref 56, .ref 57, .ref 58, .int (nI t), .int (nI (t_ds b).2.1), .ref 59, .ref 60, .ref 61, .ref 62, .int xg, .ref 63, .ref 64, .ref 65, .ref 66, .ref 67, .ref 68, .ref 69, .int xc, .ref 70, .ref 71, .ref 72, .ref 73, .ref 74, .ref 75, .int xw, .ref 76, .ref 77, .ref 78, .ref 79, .ref 80])) := by
  suffices g0 : mv_g ev mX12_drawNear 0 (mv_ent [.ref 52, .int (nI p)] (mv_ml mX12_drawNear)) [] h (fun r g => r = some (.int (nI (t_plc p (ln 4) (t_sd b.2.1 / 65536 % t_near p (ln 4))))) ∧ mv_fra [52] h g ∧ g[52]? = some (.inr (12, [.ref 53, .ref 54, .int xt, .int xf, .int xa, .long xo, .int xe, .int xu, .ref 55, .int xs, .int (nI (t_ds b).1), .ref 56, .ref 57, .ref 58, .int (nI t), .int (nI (t_ds b).2.1), .ref 59, .ref 60, .ref 61, .ref 62, .int xg, .ref 63, .ref 64, .ref 65, .ref 66, .ref 67, .ref 68, .ref 69, .int xc, .ref 70, .ref 71, .ref 72, .ref 73, .ref 74, .ref 75, .int xw, .ref 76, .ref 77, .ref 78, .ref 79, .ref 80]))) from (by obtain ⟨r0, h0, K0, q0, Q0⟩ := mv_Kex g0; subst q0; exact ⟨h0, K0, Q0⟩)
  show mv_g ev mX12_drawNear 0 [.ref 52, .int (nI p), .null, .null, .null, .null] [] h _
  have fr : mv_fra [52] h h := mv_fra.rf
  have hwv := hw.1
  obtain ⟨g0, g1, g2, g3, g3b, g4, g7, gmo⟩ := hw.2
  have g4b : ln 4 < 8 := (by omega)
  have z1 := t_near_pos (m := ln 4) hp
  have z2 := t_near_le p (ln 4)
  have hi : (t_sd b.2.1 / 65536 % t_near p (ln 4)) < t_near p (ln 4) := Nat.mod_lt _ z1
  refine mv_aload_n dX12_drawNear_0 rfl ?_
  refine mv_iload_n dX12_drawNear_1 rfl ?_
  refine mv_aload_n dX12_drawNear_2 rfl ?_
  refine mv_getf (ci := 12) (f := 0) dX12_drawNear_3 HX rfl (by decide) wd_1199 rfl ?_
  refine mv_iconst (v := nI 4) dX12_drawNear_6 (by decide) ?_
  refine mv_iaN (j := 4) (x := nI (ln 4)) dX12_drawNear_7 X53 rfl (by decide) (by omega) (hwv 4 (by decide) (by decide)) ?_
  refine mv_cS2 dX12_drawNear_8 lk_X12_drawNear_128 (Nat.le_of_ble_eq_true rfl) (Nat.le_of_ble_eq_true rfl) (k_X12_cellsOf (ev := ev) (by omega) (by omega)) ?_
  refine mv_topI (y := nI (t_near p (ln 4))) (congrArg nI (q_cN _ _ hp g4b)) ?_
  obtain ⟨h1, K2, f3, y4⟩ := (k_X12_draw (ev := ev) (xt := xt) (xf := xf) (xa := xa) (xo := xo) (xe := xe) (xu := xu) (xs := xs) (xg := xg) (xc := xc) (xw := xw) (b := b) (t := t) (m := (t_near p (ln 4))) HX hs z1 (by omega))
  refine mv_cV1 (ci := 12) dX12_drawNear_11 lk_X12_drawNear_233 HX rfl (Nat.le_of_ble_eq_true rfl) (Nat.le_of_ble_eq_true rfl) K2 ?_
  have HX : h1[52]? = some (.inr (12, [.ref 53, .ref 54, .int xt, .int xf, .int xa, .long xo, .int xe, .int xu, .ref 55, .int xs, .int (nI (t_ds b).1), .ref 56, .ref 57, .ref 58, .int (nI t), .int (nI (t_ds b).2.1), .ref 59, .ref 60, .ref 61, .ref 62, .int xg, .ref 63, .ref 64, .ref 65, .ref 66, .ref 67, .ref 68, .ref 69, .int xc, .ref 70, .ref 71, .ref 72, .ref 73, .ref 74, .ref 75, .int xw, .ref 76, .ref 77, .ref 78, .ref 79, .ref 80])) := y4
  have X53 := f3.get (by decide) X53
  have fr := fr.trans f3 (by decide)
  refine mv_istore_n dX12_drawNear_14 (by decide) ?_
  refine mv_iconst (v := (-1)) dX12_drawNear_15 (by decide) ?_
  refine mv_istore_n dX12_drawNear_16 (by decide) ?_
  refine mv_iconst (v := nI 0) dX12_drawNear_17 (by decide) ?_
  refine mv_istore dX12_drawNear_18 (by decide) ?_
  exact l_X12_drawNear hs hp hw 65 (nI (t_sd b.2.1 / 65536 % t_near p (ln 4))) (-1) 0 h1 (by omega) fr HX X53 (Nat.zero_le _) (Or.inl ⟨rfl, rfl, Nat.zero_le _⟩)
theorem q_isk {n N : Nat} {k : Int32} (hn : n ≤ N) (hN : N < 1000) : (lN 0 ≤ k.toInt64 ∧ k.toInt64 ≤ (nI n - nI 1).toInt64) ↔ (0 ≤ k ∧ k < nI n ∧ k < nI N) := by
  have e0 : lN 0 = (nI 0).toInt64 := by decide
  have h1 := pk_sub_toInt (a := n) (b := 1) (by omega) (by omega)
  rw [e0, mv_l_le, mv_l_le, Int32.le_iff_toInt_le, Int32.le_iff_toInt_le, Int32.le_iff_toInt_le, Int32.lt_iff_toInt_lt, Int32.lt_iff_toInt_lt, h1, nI_toInt (show n < 2 ^ 31 by omega), nI_toInt (show N < 2 ^ 31 by omega), show (nI 0).toInt = 0 by decide, show (0 : Int32).toInt = 0 by decide]
  omega
set_option maxRecDepth 100000 in
theorem k_X12_isShake {ev : mv_E} {h : mv_H} {xt : Int32} {xf : Int32} {xa : Int32} {xo : Int64} {xe : Int32} {xu : Int32} {xs : Int32} {xg : Int32} {xc : Int32} {xw : Int32} {b : t_B} {t : Nat} {k : Int32} (HX : h[52]? = some (.inr (12, [.ref 53, .ref 54, .int xt, .int xf, .int xa, .long xo, .int xe, .int xu, .ref 55, .int xs, .int (nI b.1), .ref 56, .ref 57, .ref 58, .int (nI t), .int (nI b.2.1), .ref 59, .ref 60, .ref 61, .ref 62, .int xg, .ref 63, .ref 64, .ref 65, .ref 66, .ref 67, .ref 68, .ref 69, .int xc, .ref 70, .ref 71, .ref 72, .ref 73, .ref 74, .ref 75, .int xw, .ref 76, .ref 77, .ref 78, .ref 79, .ref 80]))) (hn : b.1 ≤ 60) : mv_K ev mX12_isShake [.ref 52, .int k] h (some (.int (mv_b (0 ≤ k ∧ k < nI b.1 ∧ k < nI 60)))) h := by
  refine mv_Kof ?_
  show mv_g ev mX12_isShake 0 [.ref 52, .int k] [] h _
  refine mv_iload_n dX12_isShake_0 rfl ?_
  refine mv_i2l dX12_isShake_1 ?_
  refine mv_lconst (v := lN 0) dX12_isShake_2 rfl ?_
  refine mv_aload_n dX12_isShake_3 rfl ?_
  refine mv_getf (ci := 12) (f := 10) dX12_isShake_4 HX rfl (by decide) wd_1209 rfl ?_
  refine mv_iconst (v := nI 1) dX12_isShake_7 (by decide) ?_
  refine mv_isub dX12_isShake_8 ?_
  refine mv_i2l dX12_isShake_9 ?_
  refine mv_cS3 dX12_isShake_10 lk_X12_isShake_107 (Nat.le_of_ble_eq_true rfl) (Nat.le_of_ble_eq_true rfl) (k_X12_in (ev := ev)) ?_
  exact mv_iret dX12_isShake_13 rfl (mv_b_nar _) ⟨(congrArg (fun z => some (Value.int z)) (mv_b_c (q_isk hn (by decide)))), rfl⟩
set_option maxRecDepth 100000 in
theorem l_X12_greaterOf {ev : mv_E} {h : mv_H} {xt : Int32} {xf : Int32} {xa : Int32} {xo : Int64} {xe : Int32} {xu : Int32} {xs : Int32} {xg : Int32} {xc : Int32} {xw : Int32} {b : t_B} {t : Nat} {lw : Nat → Int32} {G : Nat} {x : Nat} (HX : h[52]? = some (.inr (12, [.ref 53, .ref 54, .int xt, .int xf, .int xa, .long xo, .int xe, .int xu, .ref 55, .int xs, .int (nI b.1), .ref 56, .ref 57, .ref 58, .int (nI t), .int (nI b.2.1), .ref 59, .ref 60, .ref 61, .ref 62, .int xg, .ref 63, .ref 64, .ref 65, .ref 66, .ref 67, .ref 68, .ref 69, .int xc, .ref 70, .ref 71, .ref 72, .ref 73, .ref 74, .ref 75, .int xw, .ref 76, .ref 77, .ref 78, .ref 79, .ref 80]))) (X53 : h[53]? = some (.inl (0, 8, .inl lw))) (hG : lw 1 = nI G) (hGb : G ≤ 99) (hz1 : 1 ≤ x) (hz9 : x ≤ 9) : ∀ (fu : Nat) (v : Nat) (k : Nat), x < k + fu → (1 ≤ k) → (k ≤ x) → (v = t_gr G (k - 1)) → mv_g ev mX12_greaterOf 5 [.ref 52, .int (nI x), .int (nI v), .int (nI k)] [] h (fun r g => r = some (.int (nI (t_gr G (x - 1)))) ∧ g = h) := by
  intro fu
  induction fu with
  | zero => intro v k hm hk1 hk hv; exact absurd hm (by omega)
  | succ fu ih =>
    intro v k hm hk1 hk hv
    refine mv_iload_n dX12_greaterOf_5 rfl ?_
    refine mv_iload_n dX12_greaterOf_6 rfl ?_
    refine mv_icmp_ge (tgt := 32) dX12_greaterOf_7 (by decide) (fun c7 => ?_) (fun c7 => ?_)
    · have c7 : x ≤ k := (nI_leI (by omega) (by omega)).mp c7
      refine mv_iload_n dX12_greaterOf_32 rfl ?_
      exact mv_iret dX12_greaterOf_33 rfl rfl ⟨(congrArg (fun z => some (Value.int z)) (congrArg nI (by have e : k = x := (by omega); subst e; exact hv))), rfl⟩
    · have c7 : ¬ (x ≤ k) := fun z => c7 ((nI_leI (by omega) (by omega)).mpr z)
      have b1 : v ≤ 1000000 := (by rw [hv]; exact t_gr_le hGb _)
      have b2 : v * G ≤ 1000000 * 99 := Nat.mul_le_mul b1 hGb
      refine mv_iload_n dX12_greaterOf_10 rfl ?_
      refine mv_i2l dX12_greaterOf_11 ?_
      refine mv_topL (y := lN v) (nI_l (by omega)) ?_
      refine mv_aload_n dX12_greaterOf_12 rfl ?_
      refine mv_getf (ci := 12) (f := 0) dX12_greaterOf_13 HX rfl (by decide) wd_1199 rfl ?_
      refine mv_iconst (v := nI 1) dX12_greaterOf_16 (by decide) ?_
      refine mv_iaN (j := 1) (x := nI G) dX12_greaterOf_17 X53 rfl (by decide) (by omega) (by exact hG) ?_
      refine mv_i2l dX12_greaterOf_18 ?_
      refine mv_topL (y := lN G) (nI_l (by omega)) ?_
      refine mv_lmul dX12_greaterOf_19 ?_
      refine mv_topL (y := lN (v * G)) (lN_mul _ _) ?_
      refine mv_ldc2 (v := lN 100) dX12_greaterOf_20 wd_1415 ?_
      refine mv_ldiv dX12_greaterOf_23 (by decide) ?_
      refine mv_topL (y := lN ((v * G) / 100)) (lN_div (by omega) (by omega) (by omega)) ?_
      refine mv_l2i dX12_greaterOf_24 ?_
      refine mv_topI (y := nI ((v * G) / 100)) (lN_i _) ?_
      refine mv_istore_n dX12_greaterOf_25 (by decide) ?_
      refine mv_iinc (v := nI (k + 1)) dX12_greaterOf_26 rfl (mv_inc k 1) (by decide) ?_
      refine mv_goto (tgt := 5) dX12_greaterOf_29 (by decide) ?_
      exact ih ((v * G) / 100) (k + 1) (by omega) (by omega) (by omega) (by have e : k + 1 - 1 = (k - 1) + 1 := (by omega); rw [e]; show _ = t_gr G (k - 1) * G / 100; rw [← hv])
set_option maxRecDepth 100000 in
theorem k_X12_greaterOf {ev : mv_E} {h : mv_H} {xt : Int32} {xf : Int32} {xa : Int32} {xo : Int64} {xe : Int32} {xu : Int32} {xs : Int32} {xg : Int32} {xc : Int32} {xw : Int32} {b : t_B} {t : Nat} {lw : Nat → Int32} {G : Nat} {x : Nat} (HX : h[52]? = some (.inr (12, [.ref 53, .ref 54, .int xt, .int xf, .int xa, .long xo, .int xe, .int xu, .ref 55, .int xs, .int (nI b.1), .ref 56, .ref 57, .ref 58, .int (nI t), .int (nI b.2.1), .ref 59, .ref 60, .ref 61, .ref 62, .int xg, .ref 63, .ref 64, .ref 65, .ref 66, .ref 67, .ref 68, .ref 69, .int xc, .ref 70, .ref 71, .ref 72, .ref 73, .ref 74, .ref 75, .int xw, .ref 76, .ref 77, .ref 78, .ref 79, .ref 80]))) (X53 : h[53]? = some (.inl (0, 8, .inl lw))) (hG : lw 1 = nI G) (hGb : G ≤ 99) (hz1 : 1 ≤ x) (hz9 : x ≤ 9) : mv_K ev mX12_greaterOf [.ref 52, .int (nI x)] h (some (.int (nI (t_gr G (x - 1))))) h := by
  refine mv_Kof ?_
  show mv_g ev mX12_greaterOf 0 [.ref 52, .int (nI x), .null, .null] [] h _
  refine mv_ldc (v := nI 1000000) dX12_greaterOf_0 wd_1414 ?_
  refine mv_istore_n dX12_greaterOf_2 (by decide) ?_
  refine mv_iconst (v := nI 1) dX12_greaterOf_3 (by decide) ?_
  refine mv_istore_n dX12_greaterOf_4 (by decide) ?_
  exact l_X12_greaterOf HX X53 hG hGb hz1 hz9 (x + 1) 1000000 1 (by omega) (Nat.le_refl _) (by omega) rfl
set_option maxRecDepth 100000 in
theorem k_X12_lessened {ev : mv_E} {h : mv_H} {v : Nat} {y : Nat}  (hv : v ≤ 1000000) (hy : y ≤ 1000000) : mv_K ev mX12_lessened [.int (nI v), .int (nI y)] h (some (.int (nI (q_le v y)))) h := by
  refine mv_Kof ?_
  show mv_g ev mX12_lessened 0 [.int (nI v), .int (nI y)] [] h _
  have n1 : v * (1000000 - y) ≤ 1000000 * 1000000 := Nat.mul_le_mul hv (Nat.sub_le _ _)
  refine mv_iload_n dX12_lessened_0 rfl ?_
  refine mv_i2l dX12_lessened_1 ?_
  refine mv_topL (y := lN v) (nI_l (by omega)) ?_
  refine mv_ldc (v := nI 1000000) dX12_lessened_2 wd_1414 ?_
  refine mv_iload_n dX12_lessened_4 rfl ?_
  refine mv_isub dX12_lessened_5 ?_
  refine mv_topI (y := nI (1000000 - y)) (pk_sub (by omega)) ?_
  refine mv_i2l dX12_lessened_6 ?_
  refine mv_topL (y := lN (1000000 - y)) (nI_l (by omega)) ?_
  refine mv_lmul dX12_lessened_7 ?_
  refine mv_topL (y := lN (v * (1000000 - y))) (lN_mul _ _) ?_
  refine mv_ldc2 (v := lN 1000000) dX12_lessened_8 wd_1484 ?_
  refine mv_ldiv dX12_lessened_11 (by decide) ?_
  refine mv_topL (y := lN ((v * (1000000 - y)) / 1000000)) (lN_div (by omega) (by omega) (by omega)) ?_
  refine mv_l2i dX12_lessened_12 ?_
  refine mv_topI (y := nI ((v * (1000000 - y)) / 1000000)) (lN_i _) ?_
  exact mv_iret dX12_lessened_13 rfl rfl ⟨rfl, rfl⟩
set_option maxRecDepth 100000 in
theorem k_X12_mainOf {ev : mv_E} {h : mv_H} {xt : Int32} {xf : Int32} {xa : Int32} {xo : Int64} {xe : Int32} {xu : Int32} {xs : Int32} {xg : Int32} {xc : Int32} {xw : Int32} {b : t_B} {t : Nat} {lw : Nat → Int32} {ln : Nat → Nat} {p : Nat} {m : Nat} {x : Nat} (HX : h[52]? = some (.inr (12, [.ref 53, .ref 54, .int xt, .int xf, .int xa, .long xo, .int xe, .int xu, .ref 55, .int xs, .int (nI b.1), .ref 56, .ref 57, .ref 58, .int (nI t), .int (nI b.2.1), .ref 59, .ref 60, .ref 61, .ref 62, .int xg, .ref 63, .ref 64, .ref 65, .ref 66, .ref 67, .ref 68, .ref 69, .int xc, .ref 70, .ref 71, .ref 72, .ref 73, .ref 74, .ref 75, .int xw, .ref 76, .ref 77, .ref 78, .ref 79, .ref 80]))) (X53 : h[53]? = some (.inl (0, 8, .inl lw))) (hw : q_LW lw ln) (hp : p < 64) (hm0 : m < 8) (hz1 : 1 ≤ x) (hz9 : x ≤ 9) : mv_K ev mX12_mainOf [.ref 52, .int (nI p), .int (nI m), .int (nI x)] h (some (.int (nI (q_ma (ln 0) p m (t_gr (ln 1) (x - 1)))))) h := by
  refine mv_Kof ?_
  show mv_g ev mX12_mainOf 0 [.ref 52, .int (nI p), .int (nI m), .int (nI x), .null] [] h _
  have hwv := hw.1
  obtain ⟨g0, g1, g2, g3, g3b, g4, g7, gmo⟩ := hw.2
  have b0 : ln 0 * 1000 ≤ 999000 := (by omega)
  have b1 : ln 0 * 1000 * t_near p m ≤ 999000 * 64 := Nat.mul_le_mul b0 (t_near_le p m)
  have s1 := t_gr_le g1 (x - 1)
  have b2 : ln 0 * 1000 * t_near p m / 64 * (t_gr (ln 1) (x - 1)) ≤ 999000 * 1000000 := Nat.mul_le_mul (by omega) s1
  refine mv_aload_n dX12_mainOf_0 rfl ?_
  refine mv_getf (ci := 12) (f := 0) dX12_mainOf_1 HX rfl (by decide) wd_1199 rfl ?_
  refine mv_iconst (v := nI 0) dX12_mainOf_4 (by decide) ?_
  refine mv_iaN (j := 0) (x := nI (ln 0)) dX12_mainOf_5 X53 rfl (by decide) (by omega) (hwv 0 (by decide) (by decide)) ?_
  refine mv_sipush (v := nI 1000) dX12_mainOf_6 (by decide) ?_
  refine mv_imul dX12_mainOf_9 ?_
  refine mv_topI (y := nI ((ln 0) * 1000)) (pk_mul _ _) ?_
  refine mv_iload_n dX12_mainOf_10 rfl ?_
  refine mv_iload_n dX12_mainOf_11 rfl ?_
  refine mv_cS2 dX12_mainOf_12 lk_X12_mainOf_128 (Nat.le_of_ble_eq_true rfl) (Nat.le_of_ble_eq_true rfl) (k_X12_cellsOf (ev := ev) (by omega) (by omega)) ?_
  refine mv_topI (y := nI (t_near p m)) (congrArg nI (q_cN _ _ hp hm0)) ?_
  refine mv_imul dX12_mainOf_15 ?_
  refine mv_topI (y := nI (((ln 0) * 1000) * (t_near p m))) (pk_mul _ _) ?_
  refine mv_bipush (v := nI 64) dX12_mainOf_16 (by decide) ?_
  refine mv_idiv dX12_mainOf_18 (by decide) ?_
  refine mv_topI (y := nI ((((ln 0) * 1000) * (t_near p m)) / 64)) (pk_div (by omega) (by omega) (by omega)) ?_
  refine mv_istore dX12_mainOf_19 (by decide) ?_
  refine mv_iload dX12_mainOf_21 rfl ?_
  refine mv_i2l dX12_mainOf_23 ?_
  refine mv_topL (y := lN ((((ln 0) * 1000) * (t_near p m)) / 64)) (nI_l (by omega)) ?_
  refine mv_aload_n dX12_mainOf_24 rfl ?_
  refine mv_iload_n dX12_mainOf_25 rfl ?_
  refine mv_cV1 (ci := 12) dX12_mainOf_26 lk_X12_mainOf_207 HX rfl (Nat.le_of_ble_eq_true rfl) (Nat.le_of_ble_eq_true rfl) (k_X12_greaterOf (ev := ev) HX X53 (hwv 1 (by decide) (by decide)) g1 hz1 hz9) ?_
  refine mv_i2l dX12_mainOf_29 ?_
  refine mv_topL (y := lN (t_gr (ln 1) (x - 1))) (nI_l (by omega)) ?_
  refine mv_lmul dX12_mainOf_30 ?_
  refine mv_topL (y := lN (((((ln 0) * 1000) * (t_near p m)) / 64) * (t_gr (ln 1) (x - 1)))) (lN_mul _ _) ?_
  refine mv_ldc2 (v := lN 1000000) dX12_mainOf_31 wd_1484 ?_
  refine mv_ldiv dX12_mainOf_34 (by decide) ?_
  refine mv_topL (y := lN ((((((ln 0) * 1000) * (t_near p m)) / 64) * (t_gr (ln 1) (x - 1))) / 1000000)) (lN_div (by omega) (by omega) (by omega)) ?_
  refine mv_l2i dX12_mainOf_35 ?_
  refine mv_topI (y := nI ((((((ln 0) * 1000) * (t_near p m)) / 64) * (t_gr (ln 1) (x - 1))) / 1000000)) (lN_i _) ?_
  exact mv_iret dX12_mainOf_36 rfl rfl ⟨rfl, rfl⟩
set_option maxRecDepth 100000 in
theorem k_X12_afterOf {ev : mv_E} {h : mv_H} {xt : Int32} {xf : Int32} {xa : Int32} {xo : Int64} {xe : Int32} {xu : Int32} {xs : Int32} {xg : Int32} {xc : Int32} {xw : Int32} {b : t_B} {t : Nat} {lw : Nat → Int32} {ln : Nat → Nat} {k : Nat} {e : Nat} {p : Nat} {m : Nat} {x : Nat} {dd : Nat} (HX : h[52]? = some (.inr (12, [.ref 53, .ref 54, .int xt, .int xf, .int xa, .long xo, .int xe, .int xu, .ref 55, .int xs, .int (nI b.1), .ref 56, .ref 57, .ref 58, .int (nI t), .int (nI b.2.1), .ref 59, .ref 60, .ref 61, .ref 62, .int xg, .ref 63, .ref 64, .ref 65, .ref 66, .ref 67, .ref 68, .ref 69, .int xc, .ref 70, .ref 71, .ref 72, .ref 73, .ref 74, .ref 75, .int xw, .ref 76, .ref 77, .ref 78, .ref 79, .ref 80]))) (X57 : h[57]? = some (.inl (0, 60, .inl (fun j => nI (b.2.2.2.1 j))))) (X58 : h[58]? = some (.inl (0, 60, .inl (fun j => nI (b.2.2.2.2 j))))) (X53 : h[53]? = some (.inl (0, 8, .inl lw))) (hw : q_LW lw ln) (hp : p < 64) (hm0 : m < 8) (hz1 : 1 ≤ x) (hz9 : x ≤ 9) (hb : q_BI dd b) (hk : k < b.1) (he : 1 ≤ e) (he2 : e < 1000) : mv_K ev mX12_afterOf [.ref 52, .int (nI k), .int (nI e), .int (nI p), .int (nI m), .int (nI x)] h (some (.int (nI (q_af (ln 2) (ln 4) b k e p m (t_gr (ln 1) (x - 1)))))) h := by
  refine mv_Kof ?_
  show mv_g ev mX12_afterOf 0 [.ref 52, .int (nI k), .int (nI e), .int (nI p), .int (nI m), .int (nI x), .null, .null] [] h _
  have hwv := hw.1
  obtain ⟨g0, g1, g2, g3, g3b, g4, g7, gmo⟩ := hw.2
  have n0 := hb.1
  have n1 := hb.2.2.2.1 k
  have n2 := hb.2.2.2.2.1 k
  have n3 : ln 2 * b.2.2.2.2 k ≤ 999 * 9 := Nat.mul_le_mul g2 n2
  have n4 : ln 2 * b.2.2.2.2 k / e ≤ 999 * 9 := Nat.le_trans (Nat.div_le_self _ _) n3
  have z0 : 1 ≤ t_near (b.2.2.2.1 k) (ln 4) := t_near_pos n1
  have z1 := t_near_le (b.2.2.2.1 k) (ln 4)
  have z2 := t_nearB_le (b.2.2.2.1 k) (ln 4) p m
  have s1 := t_gr_le g1 (x - 1)
  have n5 : min 1000 (ln 2 * b.2.2.2.2 k / e) * 1000 * t_nearB (b.2.2.2.1 k) (ln 4) p m ≤ 1000000 * 64 := Nat.mul_le_mul (by omega) z2
  have n6 : min 1000 (ln 2 * b.2.2.2.2 k / e) * 1000 * t_nearB (b.2.2.2.1 k) (ln 4) p m / t_near (b.2.2.2.1 k) (ln 4) ≤ 1000000 * 64 := Nat.le_trans (Nat.div_le_self _ _) n5
  have n7 : min 1000 (ln 2 * b.2.2.2.2 k / e) * 1000 * t_nearB (b.2.2.2.1 k) (ln 4) p m / t_near (b.2.2.2.1 k) (ln 4) * (t_gr (ln 1) (x - 1)) ≤ 1000000 * 64 * 1000000 := Nat.mul_le_mul n6 s1
  refine mv_aload_n dX12_afterOf_0 rfl ?_
  refine mv_getf (ci := 12) (f := 0) dX12_afterOf_1 HX rfl (by decide) wd_1199 rfl ?_
  refine mv_iconst (v := nI 2) dX12_afterOf_4 (by decide) ?_
  refine mv_iaN (j := 2) (x := nI (ln 2)) dX12_afterOf_5 X53 rfl (by decide) (by omega) (hwv 2 (by decide) (by decide)) ?_
  refine mv_aload_n dX12_afterOf_6 rfl ?_
  refine mv_getf (ci := 12) (f := 13) dX12_afterOf_7 HX rfl (by decide) wd_1212 rfl ?_
  refine mv_iload_n dX12_afterOf_10 rfl ?_
  refine mv_iaN (j := k) (x := nI (b.2.2.2.2 k)) dX12_afterOf_11 X58 rfl (by decide) (by omega) rfl ?_
  refine mv_imul dX12_afterOf_12 ?_
  refine mv_topI (y := nI ((ln 2) * (b.2.2.2.2 k))) (pk_mul _ _) ?_
  refine mv_iload_n dX12_afterOf_13 rfl ?_
  refine mv_idiv dX12_afterOf_14 (by intro z; have z2 := (nI_eq (b := 0) (by omega) (by omega)).mp z; omega) ?_
  refine mv_topI (y := nI (((ln 2) * (b.2.2.2.2 k)) / e)) (pk_div (by omega) (by omega) (by omega)) ?_
  refine mv_istore dX12_afterOf_15 (by decide) ?_
  refine mv_iload dX12_afterOf_17 rfl ?_
  refine mv_sipush (v := nI 1000) dX12_afterOf_19 (by decide) ?_
  refine mv_icmp_le (tgt := 31) dX12_afterOf_22 (by decide) (fun c22 => ?_) (fun c22 => ?_)
  · have c22 : ((ln 2) * (b.2.2.2.2 k)) / e ≤ 1000 := (nI_leI (by omega) (by omega)).mp c22
    refine mv_iload dX12_afterOf_31 rfl ?_
    refine mv_topI (y := nI (min 1000 (ln 2 * b.2.2.2.2 k / e))) (congrArg nI (by omega)) ?_
    refine mv_istore dX12_afterOf_33 (by decide) ?_
    refine mv_iload dX12_afterOf_35 rfl ?_
    refine mv_sipush (v := nI 1000) dX12_afterOf_37 (by decide) ?_
    refine mv_imul dX12_afterOf_40 ?_
    refine mv_topI (y := nI ((min 1000 (ln 2 * b.2.2.2.2 k / e)) * 1000)) (pk_mul _ _) ?_
    refine mv_istore dX12_afterOf_41 (by decide) ?_
    refine mv_aload_n dX12_afterOf_43 rfl ?_
    refine mv_getf (ci := 12) (f := 12) dX12_afterOf_44 HX rfl (by decide) wd_1211 rfl ?_
    refine mv_iload_n dX12_afterOf_47 rfl ?_
    refine mv_iaN (j := k) (x := nI (b.2.2.2.1 k)) dX12_afterOf_48 X57 rfl (by decide) (by omega) rfl ?_
    refine mv_istore dX12_afterOf_49 (by decide) ?_
    refine mv_iload dX12_afterOf_51 rfl ?_
    refine mv_i2l dX12_afterOf_53 ?_
    refine mv_topL (y := lN ((min 1000 (ln 2 * b.2.2.2.2 k / e)) * 1000)) (nI_l (by omega)) ?_
    refine mv_iload_n dX12_afterOf_54 rfl ?_
    refine mv_iload dX12_afterOf_55 rfl ?_
    refine mv_iload dX12_afterOf_57 rfl ?_
    refine mv_aload_n dX12_afterOf_59 rfl ?_
    refine mv_getf (ci := 12) (f := 0) dX12_afterOf_60 HX rfl (by decide) wd_1199 rfl ?_
    refine mv_iconst (v := nI 4) dX12_afterOf_63 (by decide) ?_
    refine mv_iaN (j := 4) (x := nI (ln 4)) dX12_afterOf_64 X53 rfl (by decide) (by omega) (hwv 4 (by decide) (by decide)) ?_
    refine mv_cS4 dX12_afterOf_65 lk_X12_afterOf_260 (Nat.le_of_ble_eq_true rfl) (Nat.le_of_ble_eq_true rfl) (k_X12_shared (ev := ev) (by omega) (by omega) (by omega) (by omega)) ?_
    refine mv_topI (y := nI (t_nearB (b.2.2.2.1 k) (ln 4) p m)) (congrArg nI ((q_bN _ _ _ _ hp hm0 n1 (by omega)).trans (t_nearB_sym _ _ _ _))) ?_
    refine mv_i2l dX12_afterOf_68 ?_
    refine mv_topL (y := lN (t_nearB (b.2.2.2.1 k) (ln 4) p m)) (nI_l (by omega)) ?_
    refine mv_lmul dX12_afterOf_69 ?_
    refine mv_topL (y := lN (((min 1000 (ln 2 * b.2.2.2.2 k / e)) * 1000) * (t_nearB (b.2.2.2.1 k) (ln 4) p m))) (lN_mul _ _) ?_
    refine mv_iload dX12_afterOf_70 rfl ?_
    refine mv_aload_n dX12_afterOf_72 rfl ?_
    refine mv_getf (ci := 12) (f := 0) dX12_afterOf_73 HX rfl (by decide) wd_1199 rfl ?_
    refine mv_iconst (v := nI 4) dX12_afterOf_76 (by decide) ?_
    refine mv_iaN (j := 4) (x := nI (ln 4)) dX12_afterOf_77 X53 rfl (by decide) (by omega) (hwv 4 (by decide) (by decide)) ?_
    refine mv_cS2 dX12_afterOf_78 lk_X12_afterOf_128 (Nat.le_of_ble_eq_true rfl) (Nat.le_of_ble_eq_true rfl) (k_X12_cellsOf (ev := ev) (by omega) (by omega)) ?_
    refine mv_topI (y := nI (t_near (b.2.2.2.1 k) (ln 4))) (congrArg nI (q_cN _ _ n1 (by omega))) ?_
    refine mv_i2l dX12_afterOf_81 ?_
    refine mv_topL (y := lN (t_near (b.2.2.2.1 k) (ln 4))) (nI_l (by omega)) ?_
    refine mv_ldiv dX12_afterOf_82 (by intro z; have z2 := (lN_eqB (b := 0) (by omega) (by omega)).mp z; omega) ?_
    refine mv_topL (y := lN ((((min 1000 (ln 2 * b.2.2.2.2 k / e)) * 1000) * (t_nearB (b.2.2.2.1 k) (ln 4) p m)) / (t_near (b.2.2.2.1 k) (ln 4)))) (lN_div (by omega) (by omega) (by omega)) ?_
    refine mv_l2i dX12_afterOf_83 ?_
    refine mv_topI (y := nI ((((min 1000 (ln 2 * b.2.2.2.2 k / e)) * 1000) * (t_nearB (b.2.2.2.1 k) (ln 4) p m)) / (t_near (b.2.2.2.1 k) (ln 4)))) (lN_i _) ?_
    refine mv_istore dX12_afterOf_84 (by decide) ?_
    refine mv_iload dX12_afterOf_86 rfl ?_
    refine mv_i2l dX12_afterOf_88 ?_
    refine mv_topL (y := lN ((((min 1000 (ln 2 * b.2.2.2.2 k / e)) * 1000) * (t_nearB (b.2.2.2.1 k) (ln 4) p m)) / (t_near (b.2.2.2.1 k) (ln 4)))) (nI_l (by omega)) ?_
    refine mv_aload_n dX12_afterOf_89 rfl ?_
    refine mv_iload dX12_afterOf_90 rfl ?_
    refine mv_cV1 (ci := 12) dX12_afterOf_92 lk_X12_afterOf_207 HX rfl (Nat.le_of_ble_eq_true rfl) (Nat.le_of_ble_eq_true rfl) (k_X12_greaterOf (ev := ev) HX X53 (hwv 1 (by decide) (by decide)) g1 hz1 hz9) ?_
    refine mv_i2l dX12_afterOf_95 ?_
    refine mv_topL (y := lN (t_gr (ln 1) (x - 1))) (nI_l (by omega)) ?_
    refine mv_lmul dX12_afterOf_96 ?_
    refine mv_topL (y := lN (((((min 1000 (ln 2 * b.2.2.2.2 k / e)) * 1000) * (t_nearB (b.2.2.2.1 k) (ln 4) p m)) / (t_near (b.2.2.2.1 k) (ln 4))) * (t_gr (ln 1) (x - 1)))) (lN_mul _ _) ?_
    refine mv_ldc2 (v := lN 1000000) dX12_afterOf_97 wd_1484 ?_
    refine mv_ldiv dX12_afterOf_100 (by decide) ?_
    refine mv_topL (y := lN ((((((min 1000 (ln 2 * b.2.2.2.2 k / e)) * 1000) * (t_nearB (b.2.2.2.1 k) (ln 4) p m)) / (t_near (b.2.2.2.1 k) (ln 4))) * (t_gr (ln 1) (x - 1))) / 1000000)) (lN_div (by omega) (by omega) (by omega)) ?_
    refine mv_l2i dX12_afterOf_101 ?_
    refine mv_topI (y := nI ((((((min 1000 (ln 2 * b.2.2.2.2 k / e)) * 1000) * (t_nearB (b.2.2.2.1 k) (ln 4) p m)) / (t_near (b.2.2.2.1 k) (ln 4))) * (t_gr (ln 1) (x - 1))) / 1000000)) (lN_i _) ?_
    exact mv_iret dX12_afterOf_102 rfl rfl ⟨rfl, rfl⟩
  · have c22 : ¬ (((ln 2) * (b.2.2.2.2 k)) / e ≤ 1000) := fun z => c22 ((nI_leI (by omega) (by omega)).mpr z)
    refine mv_sipush (v := nI 1000) dX12_afterOf_25 (by decide) ?_
    refine mv_goto (tgt := 33) dX12_afterOf_28 (by decide) ?_
    refine mv_topI (y := nI (min 1000 (ln 2 * b.2.2.2.2 k / e))) (congrArg nI (by omega)) ?_
    refine mv_istore dX12_afterOf_33 (by decide) ?_
    refine mv_iload dX12_afterOf_35 rfl ?_
    refine mv_sipush (v := nI 1000) dX12_afterOf_37 (by decide) ?_
    refine mv_imul dX12_afterOf_40 ?_
    refine mv_topI (y := nI ((min 1000 (ln 2 * b.2.2.2.2 k / e)) * 1000)) (pk_mul _ _) ?_
    refine mv_istore dX12_afterOf_41 (by decide) ?_
    refine mv_aload_n dX12_afterOf_43 rfl ?_
    refine mv_getf (ci := 12) (f := 12) dX12_afterOf_44 HX rfl (by decide) wd_1211 rfl ?_
    refine mv_iload_n dX12_afterOf_47 rfl ?_
    refine mv_iaN (j := k) (x := nI (b.2.2.2.1 k)) dX12_afterOf_48 X57 rfl (by decide) (by omega) rfl ?_
    refine mv_istore dX12_afterOf_49 (by decide) ?_
    refine mv_iload dX12_afterOf_51 rfl ?_
    refine mv_i2l dX12_afterOf_53 ?_
    refine mv_topL (y := lN ((min 1000 (ln 2 * b.2.2.2.2 k / e)) * 1000)) (nI_l (by omega)) ?_
    refine mv_iload_n dX12_afterOf_54 rfl ?_
    refine mv_iload dX12_afterOf_55 rfl ?_
    refine mv_iload dX12_afterOf_57 rfl ?_
    refine mv_aload_n dX12_afterOf_59 rfl ?_
    refine mv_getf (ci := 12) (f := 0) dX12_afterOf_60 HX rfl (by decide) wd_1199 rfl ?_
    refine mv_iconst (v := nI 4) dX12_afterOf_63 (by decide) ?_
    refine mv_iaN (j := 4) (x := nI (ln 4)) dX12_afterOf_64 X53 rfl (by decide) (by omega) (hwv 4 (by decide) (by decide)) ?_
    refine mv_cS4 dX12_afterOf_65 lk_X12_afterOf_260 (Nat.le_of_ble_eq_true rfl) (Nat.le_of_ble_eq_true rfl) (k_X12_shared (ev := ev) (by omega) (by omega) (by omega) (by omega)) ?_
    refine mv_topI (y := nI (t_nearB (b.2.2.2.1 k) (ln 4) p m)) (congrArg nI ((q_bN _ _ _ _ hp hm0 n1 (by omega)).trans (t_nearB_sym _ _ _ _))) ?_
    refine mv_i2l dX12_afterOf_68 ?_
    refine mv_topL (y := lN (t_nearB (b.2.2.2.1 k) (ln 4) p m)) (nI_l (by omega)) ?_
    refine mv_lmul dX12_afterOf_69 ?_
    refine mv_topL (y := lN (((min 1000 (ln 2 * b.2.2.2.2 k / e)) * 1000) * (t_nearB (b.2.2.2.1 k) (ln 4) p m))) (lN_mul _ _) ?_
    refine mv_iload dX12_afterOf_70 rfl ?_
    refine mv_aload_n dX12_afterOf_72 rfl ?_
    refine mv_getf (ci := 12) (f := 0) dX12_afterOf_73 HX rfl (by decide) wd_1199 rfl ?_
    refine mv_iconst (v := nI 4) dX12_afterOf_76 (by decide) ?_
    refine mv_iaN (j := 4) (x := nI (ln 4)) dX12_afterOf_77 X53 rfl (by decide) (by omega) (hwv 4 (by decide) (by decide)) ?_
    refine mv_cS2 dX12_afterOf_78 lk_X12_afterOf_128 (Nat.le_of_ble_eq_true rfl) (Nat.le_of_ble_eq_true rfl) (k_X12_cellsOf (ev := ev) (by omega) (by omega)) ?_
    refine mv_topI (y := nI (t_near (b.2.2.2.1 k) (ln 4))) (congrArg nI (q_cN _ _ n1 (by omega))) ?_
    refine mv_i2l dX12_afterOf_81 ?_
    refine mv_topL (y := lN (t_near (b.2.2.2.1 k) (ln 4))) (nI_l (by omega)) ?_
    refine mv_ldiv dX12_afterOf_82 (by intro z; have z2 := (lN_eqB (b := 0) (by omega) (by omega)).mp z; omega) ?_
    refine mv_topL (y := lN ((((min 1000 (ln 2 * b.2.2.2.2 k / e)) * 1000) * (t_nearB (b.2.2.2.1 k) (ln 4) p m)) / (t_near (b.2.2.2.1 k) (ln 4)))) (lN_div (by omega) (by omega) (by omega)) ?_
    refine mv_l2i dX12_afterOf_83 ?_
    refine mv_topI (y := nI ((((min 1000 (ln 2 * b.2.2.2.2 k / e)) * 1000) * (t_nearB (b.2.2.2.1 k) (ln 4) p m)) / (t_near (b.2.2.2.1 k) (ln 4)))) (lN_i _) ?_
    refine mv_istore dX12_afterOf_84 (by decide) ?_
    refine mv_iload dX12_afterOf_86 rfl ?_
    refine mv_i2l dX12_afterOf_88 ?_
    refine mv_topL (y := lN ((((min 1000 (ln 2 * b.2.2.2.2 k / e)) * 1000) * (t_nearB (b.2.2.2.1 k) (ln 4) p m)) / (t_near (b.2.2.2.1 k) (ln 4)))) (nI_l (by omega)) ?_
    refine mv_aload_n dX12_afterOf_89 rfl ?_
    refine mv_iload dX12_afterOf_90 rfl ?_
    refine mv_cV1 (ci := 12) dX12_afterOf_92 lk_X12_afterOf_207 HX rfl (Nat.le_of_ble_eq_true rfl) (Nat.le_of_ble_eq_true rfl) (k_X12_greaterOf (ev := ev) HX X53 (hwv 1 (by decide) (by decide)) g1 hz1 hz9) ?_
    refine mv_i2l dX12_afterOf_95 ?_
    refine mv_topL (y := lN (t_gr (ln 1) (x - 1))) (nI_l (by omega)) ?_
    refine mv_lmul dX12_afterOf_96 ?_
    refine mv_topL (y := lN (((((min 1000 (ln 2 * b.2.2.2.2 k / e)) * 1000) * (t_nearB (b.2.2.2.1 k) (ln 4) p m)) / (t_near (b.2.2.2.1 k) (ln 4))) * (t_gr (ln 1) (x - 1)))) (lN_mul _ _) ?_
    refine mv_ldc2 (v := lN 1000000) dX12_afterOf_97 wd_1484 ?_
    refine mv_ldiv dX12_afterOf_100 (by decide) ?_
    refine mv_topL (y := lN ((((((min 1000 (ln 2 * b.2.2.2.2 k / e)) * 1000) * (t_nearB (b.2.2.2.1 k) (ln 4) p m)) / (t_near (b.2.2.2.1 k) (ln 4))) * (t_gr (ln 1) (x - 1))) / 1000000)) (lN_div (by omega) (by omega) (by omega)) ?_
    refine mv_l2i dX12_afterOf_101 ?_
    refine mv_topI (y := nI ((((((min 1000 (ln 2 * b.2.2.2.2 k / e)) * 1000) * (t_nearB (b.2.2.2.1 k) (ln 4) p m)) / (t_near (b.2.2.2.1 k) (ln 4))) * (t_gr (ln 1) (x - 1))) / 1000000)) (lN_i _) ?_
    exact mv_iret dX12_afterOf_102 rfl rfl ⟨rfl, rfl⟩
set_option maxRecDepth 100000 in
theorem l_X12_upTo {ev : mv_E} {h : mv_H} {xt : Int32} {xf : Int32} {xa : Int32} {xo : Int64} {xe : Int32} {xu : Int32} {xs : Int32} {xg : Int32} {xc : Int32} {xw : Int32} {b : t_B} {t : Nat} {d : Int32} (HX : h[52]? = some (.inr (12, [.ref 53, .ref 54, .int xt, .int xf, .int xa, .long xo, .int xe, .int xu, .ref 55, .int xs, .int (nI b.1), .ref 56, .ref 57, .ref 58, .int (nI t), .int (nI b.2.1), .ref 59, .ref 60, .ref 61, .ref 62, .int xg, .ref 63, .ref 64, .ref 65, .ref 66, .ref 67, .ref 68, .ref 69, .int xc, .ref 70, .ref 71, .ref 72, .ref 73, .ref 74, .ref 75, .int xw, .ref 76, .ref 77, .ref 78, .ref 79, .ref 80]))) (X56 : h[56]? = some (.inl (0, 60, .inl (fun j => nI (b.2.2.1 j))))) (hn : b.1 ≤ 60) : ∀ (fu : Nat) (v : Nat) (y : Nat), b.1 < y + fu → (y ≤ b.1) → (v = q_cnt (fun k => nI (b.2.2.1 k) ≤ d) y) → mv_g ev mX12_upTo 4 [.ref 52, .int d, .int (nI v), .int (nI y)] [] h (fun r g => r = some (.int (nI (q_ut b d))) ∧ g = h) := by
  intro fu
  induction fu with
  | zero => intro v y hm hy hv; exact absurd hm (by omega)
  | succ fu ih =>
    intro v y hm hy hv
    refine mv_iload_n dX12_upTo_4 rfl ?_
    refine mv_aload_n dX12_upTo_5 rfl ?_
    refine mv_getf (ci := 12) (f := 10) dX12_upTo_6 HX rfl (by decide) wd_1209 rfl ?_
    refine mv_icmp_ge (tgt := 36) dX12_upTo_9 (by decide) (fun c9 => ?_) (fun c9 => ?_)
    · have c9 : b.1 ≤ y := (nI_leI (by omega) (by omega)).mp c9
      refine mv_iload_n dX12_upTo_36 rfl ?_
      exact mv_iret dX12_upTo_37 rfl rfl ⟨(congrArg (fun z => some (Value.int z)) (congrArg nI (by have e : y = b.1 := (by omega); subst e; exact hv))), rfl⟩
    · have c9 : ¬ (b.1 ≤ y) := fun z => c9 ((nI_leI (by omega) (by omega)).mpr z)
      refine mv_iload_n dX12_upTo_12 rfl ?_
      refine mv_aload_n dX12_upTo_13 rfl ?_
      refine mv_getf (ci := 12) (f := 11) dX12_upTo_14 HX rfl (by decide) wd_1210 rfl ?_
      refine mv_iload_n dX12_upTo_17 rfl ?_
      refine mv_iaN (j := y) (x := nI (b.2.2.1 y)) dX12_upTo_18 X56 rfl (by decide) (by omega) rfl ?_
      refine mv_iload_n dX12_upTo_19 rfl ?_
      refine mv_icmp_gt (tgt := 27) dX12_upTo_20 (by decide) (fun c20 => ?_) (fun c20 => ?_)
      · skip
        refine mv_iconst (v := nI 0) dX12_upTo_27 (by decide) ?_
        refine mv_iadd dX12_upTo_28 ?_
        refine mv_topI (y := nI (v + 0)) (nI_add _ _) ?_
        refine mv_istore_n dX12_upTo_29 (by decide) ?_
        refine mv_iinc (v := nI (y + 1)) dX12_upTo_30 rfl (mv_inc y 1) (by decide) ?_
        refine mv_goto (tgt := 4) dX12_upTo_33 (by decide) ?_
        exact ih (v + 0) (y + 1) (by omega) (by omega) (by first | rw [q_cnt_y (P := fun k => nI (b.2.2.1 k) ≤ d) (Int32.not_lt.mp c20), ← hv] | rw [q_cnt_n (P := fun k => nI (b.2.2.1 k) ≤ d) (Int32.not_le.mpr c20), Nat.add_zero, ← hv])
      · skip
        refine mv_iconst (v := nI 1) dX12_upTo_23 (by decide) ?_
        refine mv_goto (tgt := 28) dX12_upTo_24 (by decide) ?_
        refine mv_iadd dX12_upTo_28 ?_
        refine mv_topI (y := nI (v + 1)) (nI_add _ _) ?_
        refine mv_istore_n dX12_upTo_29 (by decide) ?_
        refine mv_iinc (v := nI (y + 1)) dX12_upTo_30 rfl (mv_inc y 1) (by decide) ?_
        refine mv_goto (tgt := 4) dX12_upTo_33 (by decide) ?_
        exact ih (v + 1) (y + 1) (by omega) (by omega) (by first | rw [q_cnt_y (P := fun k => nI (b.2.2.1 k) ≤ d) (Int32.not_lt.mp c20), ← hv] | rw [q_cnt_n (P := fun k => nI (b.2.2.1 k) ≤ d) (Int32.not_le.mpr c20), Nat.add_zero, ← hv])
set_option maxRecDepth 100000 in
theorem k_X12_upTo {ev : mv_E} {h : mv_H} {xt : Int32} {xf : Int32} {xa : Int32} {xo : Int64} {xe : Int32} {xu : Int32} {xs : Int32} {xg : Int32} {xc : Int32} {xw : Int32} {b : t_B} {t : Nat} {d : Int32} (HX : h[52]? = some (.inr (12, [.ref 53, .ref 54, .int xt, .int xf, .int xa, .long xo, .int xe, .int xu, .ref 55, .int xs, .int (nI b.1), .ref 56, .ref 57, .ref 58, .int (nI t), .int (nI b.2.1), .ref 59, .ref 60, .ref 61, .ref 62, .int xg, .ref 63, .ref 64, .ref 65, .ref 66, .ref 67, .ref 68, .ref 69, .int xc, .ref 70, .ref 71, .ref 72, .ref 73, .ref 74, .ref 75, .int xw, .ref 76, .ref 77, .ref 78, .ref 79, .ref 80]))) (X56 : h[56]? = some (.inl (0, 60, .inl (fun j => nI (b.2.2.1 j))))) (hn : b.1 ≤ 60) : mv_K ev mX12_upTo [.ref 52, .int d] h (some (.int (nI (q_ut b d)))) h := by
  refine mv_Kof ?_
  show mv_g ev mX12_upTo 0 [.ref 52, .int d, .null, .null] [] h _
  refine mv_iconst (v := nI 0) dX12_upTo_0 (by decide) ?_
  refine mv_istore_n dX12_upTo_1 (by decide) ?_
  refine mv_iconst (v := nI 0) dX12_upTo_2 (by decide) ?_
  refine mv_istore_n dX12_upTo_3 (by decide) ?_
  exact l_X12_upTo HX X56 hn (b.1 + 1) 0 0 (by omega) (Nat.zero_le _) rfl
