set_option maxRecDepth 100000 in
theorem l_X12_runDay {ev : mv_E} {h : mv_H} {xt : Int32} {xf : Int32} {xa : Int32} {xo : Int64} {xe : Int32} {xu : Int32} {xs : Int32} {xg : Int32} {xc : Int32} {xw : Int32} {b : t_B} {t : Nat} {lw : Nat → Int32} {ln : Nat → Nat} {d : Nat}  (hb : q_BI d b) (hn : b.1 < 60) (hdd : ∀ j, j < b.1 → b.2.2.1 j < d) (hd : d ≤ 399) (hw : q_LW lw ln) : ∀ (fu : Nat) (k : Nat) (b2 : t_B), ∀ (g : mv_H), b.1 < k + fu → mv_fra [52, 56, 57, 58] h g → g[52]? = some (.inr (12, [.ref 53, .ref 54, .int xt, .int xf, .int xa, .long xo, .int xe, .int xu, .ref 55, .int xs, .int (nI b2.1), .ref 56, .ref 57, .ref 58, .int (nI t), .int (nI b2.2.1), .ref 59, .ref 60, .ref 61, .ref 62, .int xg, .ref 63, .ref 64, .ref 65, .ref 66, .ref 67, .ref 68, .ref 69, .int xc, .ref 70, .ref 71, .ref 72, .ref 73, .ref 74, .ref 75, .int xw, .ref 76, .ref 77, .ref 78, .ref 79, .ref 80])) → g[56]? = some (.inl (0, 60, .inl (fun j => nI (b2.2.2.1 j)))) → g[57]? = some (.inl (0, 60, .inl (fun j => nI (b2.2.2.2.1 j)))) → g[58]? = some (.inl (0, 60, .inl (fun j => nI (b2.2.2.2.2 j)))) → g[53]? = some (.inl (0, 8, .inl lw)) → (k ≤ b.1) → (q_BI d b2) → (b.1 ≤ b2.1) → (∀ i, i < b.1 → b2.2.2.1 i < d) → (q_dl (ln 1) (ln 2) (ln 3) (ln 4) d (b.1 - k) k b2 = q_day (ln 0) (ln 1) (ln 2) (ln 3) (ln 4) d b) → mv_g ev mX12_runDay 40 [.ref 52, .int (nI d), .int (nI b.1), .int (nI k), .null, .null] [] g (fun r g => r = none ∧ mv_fra [52, 56, 57, 58] h g ∧ g[52]? = some (.inr (12, [.ref 53, .ref 54, .int xt, .int xf, .int xa, .long xo, .int xe, .int xu, .ref 55, .int xs, .int (nI (q_day (ln 0) (ln 1) (ln 2) (ln 3) (ln 4) d b).1), .ref 56, .ref 57, .ref 58, .int (nI t), .int (nI (q_day (ln 0) (ln 1) (ln 2) (ln 3) (ln 4) d b).2.1), .ref 59, .ref 60, .ref 61, .ref 62, .int xg, .ref 63, .ref 64, .ref 65, .ref 66, .ref 67, .ref 68, .ref 69, .int xc, .ref 70, .ref 71, .ref 72, .ref 73, .ref 74, .ref 75, .int xw, .ref 76, .ref 77, .ref 78, .ref 79, .ref 80])) ∧ g[56]? = some (.inl (0, 60, .inl (fun j => nI ((q_day (ln 0) (ln 1) (ln 2) (ln 3) (ln 4) d b).2.2.1 j)))) ∧ g[57]? = some (.inl (0, 60, .inl (fun j => nI ((q_day (ln 0) (ln 1) (ln 2) (ln 3) (ln 4) d b).2.2.2.1 j)))) ∧ g[58]? = some (.inl (0, 60, .inl (fun j => nI ((q_day (ln 0) (ln 1) (ln 2) (ln 3) (ln 4) d b).2.2.2.2 j))))) := by
  intro fu
  induction fu with
  | zero => intro k b2 g hm fr HX X56 X57 X58 X53 hk hb2 he hdk hq; exact absurd hm (by omega)
  | succ fu ih =>
    intro k b2 g hm fr HX X56 X57 X58 X53 hk hb2 he hdk hq
    have hwv := hw.1
    obtain ⟨g0, g1, g2, g3, g3b, g4, g7, gmo⟩ := hw.2
    have n2 := hb2.1
    refine mv_iload_n dX12_runDay_40 rfl ?_
    refine mv_iload_n dX12_runDay_41 rfl ?_
    refine mv_icmp_ge (tgt := 130) dX12_runDay_42 (by decide) (fun c42 => ?_) (fun c42 => ?_)
    · have c42 : b.1 ≤ k := (nI_leI (by omega) (by omega)).mp c42
      have e9 : b2 = q_day (ln 0) (ln 1) (ln 2) (ln 3) (ln 4) d b := (by rw [← hq]; exact (q_dl_x (by omega)).symm)
      rw [e9] at HX X56 X57 X58
      exact mv_vret dX12_runDay_130 rfl ⟨rfl, fr, HX, X56, X57, X58⟩
    · have c42 : ¬ (b.1 ≤ k) := fun z => c42 ((nI_leI (by omega) (by omega)).mpr z)
      refine mv_aload_n dX12_runDay_45 rfl ?_
      refine mv_getf (ci := 12) (f := 10) dX12_runDay_46 HX rfl (by decide) wd_1209 rfl ?_
      refine mv_bipush (v := nI 60) dX12_runDay_49 (by decide) ?_
      refine mv_icmp_ge (tgt := 130) dX12_runDay_51 (by decide) (fun c51 => ?_) (fun c51 => ?_)
      · have c51 : 60 ≤ b2.1 := (nI_leI (by omega) (by omega)).mp c51
        have e9 : b2 = q_day (ln 0) (ln 1) (ln 2) (ln 3) (ln 4) d b := (by rw [← hq]; exact (q_dl_x (by omega)).symm)
        rw [e9] at HX X56 X57 X58
        exact mv_vret dX12_runDay_130 rfl ⟨rfl, fr, HX, X56, X57, X58⟩
      · have c51 : ¬ (60 ≤ b2.1) := fun z => c51 ((nI_leI (by omega) (by omega)).mpr z)
        have n3 : b2.2.2.1 k < d := hdk k (by omega)
        have n4 := hb2.2.2.2.2.1 k
        have n5 : ln 2 * b2.2.2.2.2 k ≤ 999 * 9 := Nat.mul_le_mul g2 n4
        have n6 : ln 2 * b2.2.2.2.2 k / (d - b2.2.2.1 k) ≤ 999 * 9 := Nat.le_trans (Nat.div_le_self _ _) n5
        refine mv_iload_n dX12_runDay_54 rfl ?_
        refine mv_aload_n dX12_runDay_55 rfl ?_
        refine mv_getf (ci := 12) (f := 11) dX12_runDay_56 HX rfl (by decide) wd_1210 rfl ?_
        refine mv_iload_n dX12_runDay_59 rfl ?_
        refine mv_iaN (j := k) (x := nI (b2.2.2.1 k)) dX12_runDay_60 X56 rfl (by decide) (by omega) rfl ?_
        refine mv_isub dX12_runDay_61 ?_
        refine mv_topI (y := nI (d - (b2.2.2.1 k))) (pk_sub (by omega)) ?_
        refine mv_istore dX12_runDay_62 (by decide) ?_
        refine mv_iload dX12_runDay_64 rfl ?_
        refine mv_aload_n dX12_runDay_66 rfl ?_
        refine mv_getf (ci := 12) (f := 0) dX12_runDay_67 HX rfl (by decide) wd_1199 rfl ?_
        refine mv_iconst (v := nI 3) dX12_runDay_70 (by decide) ?_
        refine mv_iaN (j := 3) (x := nI (ln 3)) dX12_runDay_71 X53 rfl (by decide) (by omega) (hwv 3 (by decide) (by decide)) ?_
        refine mv_icmp_gt (tgt := 124) dX12_runDay_72 (by decide) (fun c72 => ?_) (fun c72 => ?_)
        · have c72 : ln 3 < d - (b2.2.2.1 k) := (nI_ltI (by omega) (by omega)).mp c72
          have xk := q_dk_BI (G := ln 1) (A := ln 2) (D := ln 3) (N := ln 4) (k := k) hb2 (by omega) hd (by omega)
          have ek : q_dk (ln 1) (ln 2) (ln 3) (ln 4) d k b2 = b2 := (by unfold q_dk; first | exact if_neg (by omega) | exact (if_pos (by omega)).trans (if_neg (by omega)) | exact (if_pos (by omega)).trans (if_pos (by omega)))
          refine mv_iinc (v := nI (k + 1)) dX12_runDay_124 rfl (mv_inc k 1) (by decide) ?_
          refine mv_goto (tgt := 40) dX12_runDay_127 (by decide) ?_
          refine mv_sub (lv' := [.ref 52, .int (nI d), .int (nI b.1), .int (nI (k + 1)), .null, .null]) ⟨Or.inr rfl, Or.inr rfl, Or.inr rfl, Or.inr rfl, Or.inl rfl, Or.inl rfl, trivial⟩ ?_
          exact ih (k + 1) b2 g (by omega) fr HX X56 X57 X58 X53 (by omega) (ek ▸ xk.1) (ek ▸ Nat.le_trans he xk.2.1) (fun i hi => by rw [← ek, xk.2.2 i (by omega)]; exact hdk i hi) (by rw [← ek, ← hq, q_dl_s (f := b.1 - k) (by omega) (by omega), Nat.sub_sub])
        · have c72 : ¬ (ln 3 < d - (b2.2.2.1 k)) := fun z => c72 ((nI_ltI (by omega) (by omega)).mpr z)
          refine mv_aload_n dX12_runDay_75 rfl ?_
          refine mv_sipush (v := nI 1000) dX12_runDay_76 (by decide) ?_
          obtain ⟨h1, K2, f3, y4⟩ := (k_X12_draw (ev := ev) (xt := xt) (xf := xf) (xa := xa) (xo := xo) (xe := xe) (xu := xu) (xs := xs) (xg := xg) (xc := xc) (xw := xw) (b := b2) (t := t) (m := 1000) HX hb2.2.1 (by omega) (by omega))
          refine mv_cV1 (ci := 12) dX12_runDay_79 lk_X12_runDay_233 HX rfl (Nat.le_of_ble_eq_true rfl) (Nat.le_of_ble_eq_true rfl) K2 ?_
          have HX : h1[52]? = some (.inr (12, [.ref 53, .ref 54, .int xt, .int xf, .int xa, .long xo, .int xe, .int xu, .ref 55, .int xs, .int (nI (t_ds b2).1), .ref 56, .ref 57, .ref 58, .int (nI t), .int (nI (t_ds b2).2.1), .ref 59, .ref 60, .ref 61, .ref 62, .int xg, .ref 63, .ref 64, .ref 65, .ref 66, .ref 67, .ref 68, .ref 69, .int xc, .ref 70, .ref 71, .ref 72, .ref 73, .ref 74, .ref 75, .int xw, .ref 76, .ref 77, .ref 78, .ref 79, .ref 80])) := y4
          have X56 := f3.get (by decide) X56
          have X57 := f3.get (by decide) X57
          have X58 := f3.get (by decide) X58
          have X53 := f3.get (by decide) X53
          have fr := fr.trans f3 (by decide)
          refine mv_aload_n dX12_runDay_82 rfl ?_
          refine mv_getf (ci := 12) (f := 0) dX12_runDay_83 HX rfl (by decide) wd_1199 rfl ?_
          refine mv_iconst (v := nI 2) dX12_runDay_86 (by decide) ?_
          refine mv_iaN (j := 2) (x := nI (ln 2)) dX12_runDay_87 X53 rfl (by decide) (by omega) (hwv 2 (by decide) (by decide)) ?_
          refine mv_aload_n dX12_runDay_88 rfl ?_
          refine mv_getf (ci := 12) (f := 13) dX12_runDay_89 HX rfl (by decide) wd_1212 rfl ?_
          refine mv_iload_n dX12_runDay_92 rfl ?_
          refine mv_iaN (j := k) (x := nI (b2.2.2.2.2 k)) dX12_runDay_93 X58 rfl (by decide) (by omega) rfl ?_
          refine mv_imul dX12_runDay_94 ?_
          refine mv_topI (y := nI ((ln 2) * (b2.2.2.2.2 k))) (pk_mul _ _) ?_
          refine mv_iload dX12_runDay_95 rfl ?_
          refine mv_idiv dX12_runDay_97 (by intro z; have z2 := (nI_eq (b := 0) (by omega) (by omega)).mp z; omega) ?_
          refine mv_topI (y := nI (((ln 2) * (b2.2.2.2.2 k)) / (d - (b2.2.2.1 k)))) (pk_div (by omega) (by omega) (by omega)) ?_
          refine mv_icmp_ge (tgt := 124) dX12_runDay_98 (by decide) (fun c98 => ?_) (fun c98 => ?_)
          · have c98 : ((ln 2) * (b2.2.2.2.2 k)) / (d - (b2.2.2.1 k)) ≤ t_sd b2.2.1 / 65536 % 1000 := (nI_leI (by omega) (by omega)).mp c98
            have xk := q_dk_BI (G := ln 1) (A := ln 2) (D := ln 3) (N := ln 4) (k := k) hb2 (by omega) hd (by omega)
            have ek : q_dk (ln 1) (ln 2) (ln 3) (ln 4) d k b2 = (t_ds b2) := (by unfold q_dk; first | exact if_neg (by omega) | exact (if_pos (by omega)).trans (if_neg (by omega)) | exact (if_pos (by omega)).trans (if_pos (by omega)))
            refine mv_iinc (v := nI (k + 1)) dX12_runDay_124 rfl (mv_inc k 1) (by decide) ?_
            refine mv_goto (tgt := 40) dX12_runDay_127 (by decide) ?_
            refine mv_sub (lv' := [.ref 52, .int (nI d), .int (nI b.1), .int (nI (k + 1)), .null, .null]) ⟨Or.inr rfl, Or.inr rfl, Or.inr rfl, Or.inr rfl, Or.inl rfl, Or.inl rfl, trivial⟩ ?_
            exact ih (k + 1) (t_ds b2) h1 (by omega) fr HX X56 X57 X58 X53 (by omega) (ek ▸ xk.1) (ek ▸ Nat.le_trans he xk.2.1) (fun i hi => by rw [← ek, xk.2.2 i (by omega)]; exact hdk i hi) (by rw [← ek, ← hq, q_dl_s (f := b.1 - k) (by omega) (by omega), Nat.sub_sub])
          · have c98 : ¬ (((ln 2) * (b2.2.2.2.2 k)) / (d - (b2.2.2.1 k)) ≤ t_sd b2.2.1 / 65536 % 1000) := fun z => c98 ((nI_leI (by omega) (by omega)).mpr z)
            refine mv_aload_n dX12_runDay_101 rfl ?_
            refine mv_aload_n dX12_runDay_102 rfl ?_
            refine mv_getf (ci := 12) (f := 12) dX12_runDay_103 HX rfl (by decide) wd_1211 rfl ?_
            refine mv_iload_n dX12_runDay_106 rfl ?_
            refine mv_iaN (j := k) (x := nI (b2.2.2.2.1 k)) dX12_runDay_107 X57 rfl (by decide) (by omega) rfl ?_
            obtain ⟨h5, K6, f7, y8⟩ := (k_X12_drawNear (ev := ev) (xt := xt) (xf := xf) (xa := xa) (xo := xo) (xe := xe) (xu := xu) (xs := xs) (xg := xg) (xc := xc) (xw := xw) (b := (t_ds b2)) (t := t) (lw := lw) (ln := ln) (p := (b2.2.2.2.1 k)) HX X53 (t_sd_lt _) (hb2.2.2.2.1 k) hw)
            refine mv_cV1 (ci := 12) dX12_runDay_108 lk_X12_runDay_239 HX rfl (Nat.le_of_ble_eq_true rfl) (Nat.le_of_ble_eq_true rfl) K6 ?_
            have HX : h5[52]? = some (.inr (12, [.ref 53, .ref 54, .int xt, .int xf, .int xa, .long xo, .int xe, .int xu, .ref 55, .int xs, .int (nI (t_ds (t_ds b2)).1), .ref 56, .ref 57, .ref 58, .int (nI t), .int (nI (t_ds (t_ds b2)).2.1), .ref 59, .ref 60, .ref 61, .ref 62, .int xg, .ref 63, .ref 64, .ref 65, .ref 66, .ref 67, .ref 68, .ref 69, .int xc, .ref 70, .ref 71, .ref 72, .ref 73, .ref 74, .ref 75, .int xw, .ref 76, .ref 77, .ref 78, .ref 79, .ref 80])) := y8
            have X56 := f7.get (by decide) X56
            have X57 := f7.get (by decide) X57
            have X58 := f7.get (by decide) X58
            have X53 := f7.get (by decide) X53
            have fr := fr.trans f7 (by decide)
            refine mv_istore dX12_runDay_111 (by decide) ?_
            refine mv_aload_n dX12_runDay_113 rfl ?_
            refine mv_iload_n dX12_runDay_114 rfl ?_
            refine mv_iload dX12_runDay_115 rfl ?_
            refine mv_aload_n dX12_runDay_117 rfl ?_
            obtain ⟨h9, K10, f11, y12⟩ := (k_X12_drawSize (ev := ev) (xt := xt) (xf := xf) (xa := xa) (xo := xo) (xe := xe) (xu := xu) (xs := xs) (xg := xg) (xc := xc) (xw := xw) (b := (t_ds (t_ds b2))) (t := t) (lw := lw) (G := ln 1) HX X53 (t_sd_lt _) (hwv 1 (by decide) (by decide)) g1)
            refine mv_cV0 (ci := 12) dX12_runDay_118 lk_X12_runDay_236 HX rfl (Nat.le_of_ble_eq_true rfl) (Nat.le_of_ble_eq_true rfl) K10 ?_
            have HX : h9[52]? = some (.inr (12, [.ref 53, .ref 54, .int xt, .int xf, .int xa, .long xo, .int xe, .int xu, .ref 55, .int xs, .int (nI (t_ds (t_ds b2)).1), .ref 56, .ref 57, .ref 58, .int (nI t), .int (nI (t_sz (ln 1) 8 (t_ds (t_ds b2)).2.1).2), .ref 59, .ref 60, .ref 61, .ref 62, .int xg, .ref 63, .ref 64, .ref 65, .ref 66, .ref 67, .ref 68, .ref 69, .int xc, .ref 70, .ref 71, .ref 72, .ref 73, .ref 74, .ref 75, .int xw, .ref 76, .ref 77, .ref 78, .ref 79, .ref 80])) := y12
            have X56 := f11.get (by decide) X56
            have X57 := f11.get (by decide) X57
            have X58 := f11.get (by decide) X58
            have X53 := f11.get (by decide) X53
            have fr := fr.trans f11 (by decide)
            obtain ⟨h13, K14, f15, y16, y17, y18, y19⟩ := (k_X12_addShake (ev := ev) (xt := xt) (xf := xf) (xa := xa) (xo := xo) (xe := xe) (xu := xu) (xs := xs) (xg := xg) (xc := xc) (xw := xw) (b := ((t_ds (t_ds b2)).1, (t_sz (ln 1) 8 (t_ds (t_ds b2)).2.1).2, (t_ds (t_ds b2)).2.2)) (t := t) (d := d) (p := (t_plc (b2.2.2.2.1 k) (ln 4) (t_sd (t_ds b2).2.1 / 65536 % t_near (b2.2.2.2.1 k) (ln 4)))) (x := (t_sz (ln 1) 8 (t_ds (t_ds b2)).2.1).1) HX X56 X57 X58 (show b2.1 < 60 by omega))
            refine mv_cV3 (ci := 12) dX12_runDay_121 lk_X12_runDay_219 HX rfl (Nat.le_of_ble_eq_true rfl) (Nat.le_of_ble_eq_true rfl) K14 ?_
            have HX : h13[52]? = some (.inr (12, [.ref 53, .ref 54, .int xt, .int xf, .int xa, .long xo, .int xe, .int xu, .ref 55, .int xs, .int (nI (q_wr ((t_ds (t_ds b2)).1, (t_sz (ln 1) 8 (t_ds (t_ds b2)).2.1).2, (t_ds (t_ds b2)).2.2) d (t_plc (b2.2.2.2.1 k) (ln 4) (t_sd (t_ds b2).2.1 / 65536 % t_near (b2.2.2.2.1 k) (ln 4))) (t_sz (ln 1) 8 (t_ds (t_ds b2)).2.1).1).1), .ref 56, .ref 57, .ref 58, .int (nI t), .int (nI (q_wr ((t_ds (t_ds b2)).1, (t_sz (ln 1) 8 (t_ds (t_ds b2)).2.1).2, (t_ds (t_ds b2)).2.2) d (t_plc (b2.2.2.2.1 k) (ln 4) (t_sd (t_ds b2).2.1 / 65536 % t_near (b2.2.2.2.1 k) (ln 4))) (t_sz (ln 1) 8 (t_ds (t_ds b2)).2.1).1).2.1), .ref 59, .ref 60, .ref 61, .ref 62, .int xg, .ref 63, .ref 64, .ref 65, .ref 66, .ref 67, .ref 68, .ref 69, .int xc, .ref 70, .ref 71, .ref 72, .ref 73, .ref 74, .ref 75, .int xw, .ref 76, .ref 77, .ref 78, .ref 79, .ref 80])) := y16
            have X56 : h13[56]? = some (.inl (0, 60, .inl (fun j => nI ((q_wr ((t_ds (t_ds b2)).1, (t_sz (ln 1) 8 (t_ds (t_ds b2)).2.1).2, (t_ds (t_ds b2)).2.2) d (t_plc (b2.2.2.2.1 k) (ln 4) (t_sd (t_ds b2).2.1 / 65536 % t_near (b2.2.2.2.1 k) (ln 4))) (t_sz (ln 1) 8 (t_ds (t_ds b2)).2.1).1).2.2.1 j)))) := y17
            have X57 : h13[57]? = some (.inl (0, 60, .inl (fun j => nI ((q_wr ((t_ds (t_ds b2)).1, (t_sz (ln 1) 8 (t_ds (t_ds b2)).2.1).2, (t_ds (t_ds b2)).2.2) d (t_plc (b2.2.2.2.1 k) (ln 4) (t_sd (t_ds b2).2.1 / 65536 % t_near (b2.2.2.2.1 k) (ln 4))) (t_sz (ln 1) 8 (t_ds (t_ds b2)).2.1).1).2.2.2.1 j)))) := y18
            have X58 : h13[58]? = some (.inl (0, 60, .inl (fun j => nI ((q_wr ((t_ds (t_ds b2)).1, (t_sz (ln 1) 8 (t_ds (t_ds b2)).2.1).2, (t_ds (t_ds b2)).2.2) d (t_plc (b2.2.2.2.1 k) (ln 4) (t_sd (t_ds b2).2.1 / 65536 % t_near (b2.2.2.2.1 k) (ln 4))) (t_sz (ln 1) 8 (t_ds (t_ds b2)).2.1).1).2.2.2.2 j)))) := y19
            have X53 := f15.get (by decide) X53
            have fr := fr.trans f15 (by decide)
            have xk := q_dk_BI (G := ln 1) (A := ln 2) (D := ln 3) (N := ln 4) (k := k) hb2 (by omega) hd (by omega)
            have ek : q_dk (ln 1) (ln 2) (ln 3) (ln 4) d k b2 = (q_wr ((t_ds (t_ds b2)).1, (t_sz (ln 1) 8 (t_ds (t_ds b2)).2.1).2, (t_ds (t_ds b2)).2.2) d (t_plc (b2.2.2.2.1 k) (ln 4) (t_sd (t_ds b2).2.1 / 65536 % t_near (b2.2.2.2.1 k) (ln 4))) (t_sz (ln 1) 8 (t_ds (t_ds b2)).2.1).1) := (by unfold q_dk; first | exact if_neg (by omega) | exact (if_pos (by omega)).trans (if_neg (by omega)) | exact (if_pos (by omega)).trans (if_pos (by omega)))
            refine mv_iinc (v := nI (k + 1)) dX12_runDay_124 rfl (mv_inc k 1) (by decide) ?_
            refine mv_goto (tgt := 40) dX12_runDay_127 (by decide) ?_
            refine mv_sub (lv' := [.ref 52, .int (nI d), .int (nI b.1), .int (nI (k + 1)), .null, .null]) ⟨Or.inr rfl, Or.inr rfl, Or.inr rfl, Or.inr rfl, Or.inl rfl, Or.inl rfl, trivial⟩ ?_
            exact ih (k + 1) (q_wr ((t_ds (t_ds b2)).1, (t_sz (ln 1) 8 (t_ds (t_ds b2)).2.1).2, (t_ds (t_ds b2)).2.2) d (t_plc (b2.2.2.2.1 k) (ln 4) (t_sd (t_ds b2).2.1 / 65536 % t_near (b2.2.2.2.1 k) (ln 4))) (t_sz (ln 1) 8 (t_ds (t_ds b2)).2.1).1) h13 (by omega) fr HX X56 X57 X58 X53 (by omega) (ek ▸ xk.1) (ek ▸ Nat.le_trans he xk.2.1) (fun i hi => by rw [← ek, xk.2.2 i (by omega)]; exact hdk i hi) (by rw [← ek, ← hq, q_dl_s (f := b.1 - k) (by omega) (by omega), Nat.sub_sub])
set_option maxRecDepth 100000 in
theorem k_X12_runDay {ev : mv_E} {h : mv_H} {xt : Int32} {xf : Int32} {xa : Int32} {xo : Int64} {xe : Int32} {xu : Int32} {xs : Int32} {xg : Int32} {xc : Int32} {xw : Int32} {b : t_B} {t : Nat} {lw : Nat → Int32} {ln : Nat → Nat} {d : Nat} (HX : h[52]? = some (.inr (12, [.ref 53, .ref 54, .int xt, .int xf, .int xa, .long xo, .int xe, .int xu, .ref 55, .int xs, .int (nI b.1), .ref 56, .ref 57, .ref 58, .int (nI t), .int (nI b.2.1), .ref 59, .ref 60, .ref 61, .ref 62, .int xg, .ref 63, .ref 64, .ref 65, .ref 66, .ref 67, .ref 68, .ref 69, .int xc, .ref 70, .ref 71, .ref 72, .ref 73, .ref 74, .ref 75, .int xw, .ref 76, .ref 77, .ref 78, .ref 79, .ref 80]))) (X56 : h[56]? = some (.inl (0, 60, .inl (fun j => nI (b.2.2.1 j))))) (X57 : h[57]? = some (.inl (0, 60, .inl (fun j => nI (b.2.2.2.1 j))))) (X58 : h[58]? = some (.inl (0, 60, .inl (fun j => nI (b.2.2.2.2 j))))) (X53 : h[53]? = some (.inl (0, 8, .inl lw))) (hb : q_BI d b) (hn : b.1 < 60) (hdd : ∀ j, j < b.1 → b.2.2.1 j < d) (hd : d ≤ 399) (hw : q_LW lw ln) : ∃ h2, mv_K ev mX12_runDay [.ref 52, .int (nI d)] h (none) h2 ∧ mv_fra [52, 56, 57, 58] h h2 ∧ h2[52]? = some (.inr (12, [.ref 53, .ref 54, .int xt, .int xf, .int xa, .long xo, .int xe, .int xu, .ref 55, .int xs, .int (nI (q_day (ln 0) (ln 1) (ln 2) (ln 3) (ln 4) d b).1), .ref 56, .ref 57, .ref 58, .int (nI t), .int (nI (q_day (ln 0) (ln 1) (ln 2) (ln 3) (ln 4) d b).2.1), .ref 59, .ref 60, .ref 61, .ref 62, .int xg, .ref 63, .ref 64, .ref 65, .ref 66, .ref 67, .ref 68, .ref 69, .int xc, .ref 70, .ref 71, .ref 72, .ref 73, .ref 74, .ref 75, .int xw, .ref 76, .ref 77, .ref 78, .ref 79, .ref 80])) ∧ h2[56]? = some (.inl (0, 60, .inl (fun j => nI ((q_day (ln 0) (ln 1) (ln 2) (ln 3) (ln 4) d b).2.2.1 j)))) ∧ h2[57]? = some (.inl (0, 60, .inl (fun j => nI ((q_day (ln 0) (ln 1) (ln 2) (ln 3) (ln 4) d b).2.2.2.1 j)))) ∧ h2[58]? = some (.inl (0, 60, .inl (fun j => nI ((q_day (ln 0) (ln 1) (ln 2) (ln 3) (ln 4) d b).2.2.2.2 j)))) := by
  suffices g0 : mv_g ev mX12_runDay 0 (mv_ent [.ref 52, .int (nI d)] (mv_ml mX12_runDay)) [] h (fun r g => r = none ∧ mv_fra [52, 56, 57, 58] h g ∧ g[52]? = some (.inr (12, [.ref 53, .ref 54, .int xt, .int xf, .int xa, .long xo, .int xe, .int xu, .ref 55, .int xs, .int (nI (q_day (ln 0) (ln 1) (ln 2) (ln 3) (ln 4) d b).1), .ref 56, .ref 57, .ref 58, .int (nI t), .int (nI (q_day (ln 0) (ln 1) (ln 2) (ln 3) (ln 4) d b).2.1), .ref 59, .ref 60, .ref 61, .ref 62, .int xg, .ref 63, .ref 64, .ref 65, .ref 66, .ref 67, .ref 68, .ref 69, .int xc, .ref 70, .ref 71, .ref 72, .ref 73, .ref 74, .ref 75, .int xw, .ref 76, .ref 77, .ref 78, .ref 79, .ref 80])) ∧ g[56]? = some (.inl (0, 60, .inl (fun j => nI ((q_day (ln 0) (ln 1) (ln 2) (ln 3) (ln 4) d b).2.2.1 j)))) ∧ g[57]? = some (.inl (0, 60, .inl (fun j => nI ((q_day (ln 0) (ln 1) (ln 2) (ln 3) (ln 4) d b).2.2.2.1 j)))) ∧ g[58]? = some (.inl (0, 60, .inl (fun j => nI ((q_day (ln 0) (ln 1) (ln 2) (ln 3) (ln 4) d b).2.2.2.2 j))))) from (by obtain ⟨r0, h0, K0, q0, Q0⟩ := mv_Kex g0; subst q0; exact ⟨h0, K0, Q0⟩)
  show mv_g ev mX12_runDay 0 [.ref 52, .int (nI d), .null, .null, .null, .null] [] h _
  have fr : mv_fra [52, 56, 57, 58] h h := mv_fra.rf
  have hwv := hw.1
  obtain ⟨g0, g1, g2, g3, g3b, g4, g7, gmo⟩ := hw.2
  refine mv_aload_n dX12_runDay_0 rfl ?_
  refine mv_getf (ci := 12) (f := 10) dX12_runDay_1 HX rfl (by decide) wd_1209 rfl ?_
  refine mv_istore_n dX12_runDay_4 (by decide) ?_
  refine mv_aload_n dX12_runDay_5 rfl ?_
  refine mv_sipush (v := nI 1000) dX12_runDay_6 (by decide) ?_
  obtain ⟨h1, K2, f3, y4⟩ := (k_X12_draw (ev := ev) (xt := xt) (xf := xf) (xa := xa) (xo := xo) (xe := xe) (xu := xu) (xs := xs) (xg := xg) (xc := xc) (xw := xw) (b := b) (t := t) (m := 1000) HX hb.2.1 (by omega) (by omega))
  refine mv_cV1 (ci := 12) dX12_runDay_9 lk_X12_runDay_233 HX rfl (Nat.le_of_ble_eq_true rfl) (Nat.le_of_ble_eq_true rfl) K2 ?_
  have HX : h1[52]? = some (.inr (12, [.ref 53, .ref 54, .int xt, .int xf, .int xa, .long xo, .int xe, .int xu, .ref 55, .int xs, .int (nI (t_ds b).1), .ref 56, .ref 57, .ref 58, .int (nI t), .int (nI (t_ds b).2.1), .ref 59, .ref 60, .ref 61, .ref 62, .int xg, .ref 63, .ref 64, .ref 65, .ref 66, .ref 67, .ref 68, .ref 69, .int xc, .ref 70, .ref 71, .ref 72, .ref 73, .ref 74, .ref 75, .int xw, .ref 76, .ref 77, .ref 78, .ref 79, .ref 80])) := y4
  have X56 := f3.get (by decide) X56
  have X57 := f3.get (by decide) X57
  have X58 := f3.get (by decide) X58
  have X53 := f3.get (by decide) X53
  have fr := fr.trans f3 (by decide)
  refine mv_aload_n dX12_runDay_12 rfl ?_
  refine mv_getf (ci := 12) (f := 0) dX12_runDay_13 HX rfl (by decide) wd_1199 rfl ?_
  refine mv_iconst (v := nI 0) dX12_runDay_16 (by decide) ?_
  refine mv_iaN (j := 0) (x := nI (ln 0)) dX12_runDay_17 X53 rfl (by decide) (by omega) (hwv 0 (by decide) (by decide)) ?_
  refine mv_icmp_ge (tgt := 38) dX12_runDay_18 (by decide) (fun c18 => ?_) (fun c18 => ?_)
  · have c18 : ln 0 ≤ t_sd b.2.1 / 65536 % 1000 := (nI_leI (by omega) (by omega)).mp c18
    refine mv_iconst (v := nI 0) dX12_runDay_38 (by decide) ?_
    refine mv_istore_n dX12_runDay_39 (by decide) ?_
    have x35 := q_d1_BI (R := ln 0) (G := ln 1) hb hn hd
    have e35 : q_d1 (ln 0) (ln 1) d b = (t_ds b) := (by unfold q_d1; first | exact if_pos (by omega) | exact if_neg (by omega))
    exact l_X12_runDay hb hn hdd hd hw (b.1 + 1) 0 (t_ds b) h1 (by omega) fr HX X56 X57 X58 X53 (Nat.zero_le _) (e35 ▸ x35.1) (e35 ▸ x35.2.1) (fun i hi => by rw [← e35, x35.2.2 i hi]; exact hdd i hi) (by rw [← e35, Nat.sub_zero]; rfl)
  · have c18 : ¬ (ln 0 ≤ t_sd b.2.1 / 65536 % 1000) := fun z => c18 ((nI_leI (by omega) (by omega)).mpr z)
    refine mv_aload_n dX12_runDay_21 rfl ?_
    refine mv_bipush (v := nI 64) dX12_runDay_22 (by decide) ?_
    obtain ⟨h5, K6, f7, y8⟩ := (k_X12_draw (ev := ev) (xt := xt) (xf := xf) (xa := xa) (xo := xo) (xe := xe) (xu := xu) (xs := xs) (xg := xg) (xc := xc) (xw := xw) (b := (t_ds b)) (t := t) (m := 64) HX (t_sd_lt _) (by omega) (by omega))
    refine mv_cV1 (ci := 12) dX12_runDay_24 lk_X12_runDay_233 HX rfl (Nat.le_of_ble_eq_true rfl) (Nat.le_of_ble_eq_true rfl) K6 ?_
    have HX : h5[52]? = some (.inr (12, [.ref 53, .ref 54, .int xt, .int xf, .int xa, .long xo, .int xe, .int xu, .ref 55, .int xs, .int (nI (t_ds (t_ds b)).1), .ref 56, .ref 57, .ref 58, .int (nI t), .int (nI (t_ds (t_ds b)).2.1), .ref 59, .ref 60, .ref 61, .ref 62, .int xg, .ref 63, .ref 64, .ref 65, .ref 66, .ref 67, .ref 68, .ref 69, .int xc, .ref 70, .ref 71, .ref 72, .ref 73, .ref 74, .ref 75, .int xw, .ref 76, .ref 77, .ref 78, .ref 79, .ref 80])) := y8
    have X56 := f7.get (by decide) X56
    have X57 := f7.get (by decide) X57
    have X58 := f7.get (by decide) X58
    have X53 := f7.get (by decide) X53
    have fr := fr.trans f7 (by decide)
    refine mv_istore_n dX12_runDay_27 (by decide) ?_
    refine mv_aload_n dX12_runDay_28 rfl ?_
    refine mv_iload_n dX12_runDay_29 rfl ?_
    refine mv_iload_n dX12_runDay_30 rfl ?_
    refine mv_aload_n dX12_runDay_31 rfl ?_
    obtain ⟨h9, K10, f11, y12⟩ := (k_X12_drawSize (ev := ev) (xt := xt) (xf := xf) (xa := xa) (xo := xo) (xe := xe) (xu := xu) (xs := xs) (xg := xg) (xc := xc) (xw := xw) (b := (t_ds (t_ds b))) (t := t) (lw := lw) (G := ln 1) HX X53 (t_sd_lt _) (hwv 1 (by decide) (by decide)) g1)
    refine mv_cV0 (ci := 12) dX12_runDay_32 lk_X12_runDay_236 HX rfl (Nat.le_of_ble_eq_true rfl) (Nat.le_of_ble_eq_true rfl) K10 ?_
    have HX : h9[52]? = some (.inr (12, [.ref 53, .ref 54, .int xt, .int xf, .int xa, .long xo, .int xe, .int xu, .ref 55, .int xs, .int (nI (t_ds (t_ds b)).1), .ref 56, .ref 57, .ref 58, .int (nI t), .int (nI (t_sz (ln 1) 8 (t_ds (t_ds b)).2.1).2), .ref 59, .ref 60, .ref 61, .ref 62, .int xg, .ref 63, .ref 64, .ref 65, .ref 66, .ref 67, .ref 68, .ref 69, .int xc, .ref 70, .ref 71, .ref 72, .ref 73, .ref 74, .ref 75, .int xw, .ref 76, .ref 77, .ref 78, .ref 79, .ref 80])) := y12
    have X56 := f11.get (by decide) X56
    have X57 := f11.get (by decide) X57
    have X58 := f11.get (by decide) X58
    have X53 := f11.get (by decide) X53
    have fr := fr.trans f11 (by decide)
    obtain ⟨h13, K14, f15, y16, y17, y18, y19⟩ := (k_X12_addShake (ev := ev) (xt := xt) (xf := xf) (xa := xa) (xo := xo) (xe := xe) (xu := xu) (xs := xs) (xg := xg) (xc := xc) (xw := xw) (b := ((t_ds (t_ds b)).1, (t_sz (ln 1) 8 (t_ds (t_ds b)).2.1).2, (t_ds (t_ds b)).2.2)) (t := t) (d := d) (p := (t_sd (t_ds b).2.1 / 65536 % 64)) (x := (t_sz (ln 1) 8 (t_ds (t_ds b)).2.1).1) HX X56 X57 X58 (show b.1 < 60 from hn))
    refine mv_cV3 (ci := 12) dX12_runDay_35 lk_X12_runDay_219 HX rfl (Nat.le_of_ble_eq_true rfl) (Nat.le_of_ble_eq_true rfl) K14 ?_
    have HX : h13[52]? = some (.inr (12, [.ref 53, .ref 54, .int xt, .int xf, .int xa, .long xo, .int xe, .int xu, .ref 55, .int xs, .int (nI (q_wr ((t_ds (t_ds b)).1, (t_sz (ln 1) 8 (t_ds (t_ds b)).2.1).2, (t_ds (t_ds b)).2.2) d (t_sd (t_ds b).2.1 / 65536 % 64) (t_sz (ln 1) 8 (t_ds (t_ds b)).2.1).1).1), .ref 56, .ref 57, .ref 58, .int (nI t), .int (nI (q_wr ((t_ds (t_ds b)).1, (t_sz (ln 1) 8 (t_ds (t_ds b)).2.1).2, (t_ds (t_ds b)).2.2) d (t_sd (t_ds b).2.1 / 65536 % 64) (t_sz (ln 1) 8 (t_ds (t_ds b)).2.1).1).2.1), .ref 59, .ref 60, .ref 61, .ref 62, .int xg, .ref 63, .ref 64, .ref 65, .ref 66, .ref 67, .ref 68, .ref 69, .int xc, .ref 70, .ref 71, .ref 72, .ref 73, .ref 74, .ref 75, .int xw, .ref 76, .ref 77, .ref 78, .ref 79, .ref 80])) := y16
    have X56 : h13[56]? = some (.inl (0, 60, .inl (fun j => nI ((q_wr ((t_ds (t_ds b)).1, (t_sz (ln 1) 8 (t_ds (t_ds b)).2.1).2, (t_ds (t_ds b)).2.2) d (t_sd (t_ds b).2.1 / 65536 % 64) (t_sz (ln 1) 8 (t_ds (t_ds b)).2.1).1).2.2.1 j)))) := y17
    have X57 : h13[57]? = some (.inl (0, 60, .inl (fun j => nI ((q_wr ((t_ds (t_ds b)).1, (t_sz (ln 1) 8 (t_ds (t_ds b)).2.1).2, (t_ds (t_ds b)).2.2) d (t_sd (t_ds b).2.1 / 65536 % 64) (t_sz (ln 1) 8 (t_ds (t_ds b)).2.1).1).2.2.2.1 j)))) := y18
    have X58 : h13[58]? = some (.inl (0, 60, .inl (fun j => nI ((q_wr ((t_ds (t_ds b)).1, (t_sz (ln 1) 8 (t_ds (t_ds b)).2.1).2, (t_ds (t_ds b)).2.2) d (t_sd (t_ds b).2.1 / 65536 % 64) (t_sz (ln 1) 8 (t_ds (t_ds b)).2.1).1).2.2.2.2 j)))) := y19
    have X53 := f15.get (by decide) X53
    have fr := fr.trans f15 (by decide)
    refine mv_iconst (v := nI 0) dX12_runDay_38 (by decide) ?_
    refine mv_istore_n dX12_runDay_39 (by decide) ?_
    have x35 := q_d1_BI (R := ln 0) (G := ln 1) hb hn hd
    have e35 : q_d1 (ln 0) (ln 1) d b = (q_wr ((t_ds (t_ds b)).1, (t_sz (ln 1) 8 (t_ds (t_ds b)).2.1).2, (t_ds (t_ds b)).2.2) d (t_sd (t_ds b).2.1 / 65536 % 64) (t_sz (ln 1) 8 (t_ds (t_ds b)).2.1).1) := (by unfold q_d1; first | exact if_pos (by omega) | exact if_neg (by omega))
    exact l_X12_runDay hb hn hdd hd hw (b.1 + 1) 0 (q_wr ((t_ds (t_ds b)).1, (t_sz (ln 1) 8 (t_ds (t_ds b)).2.1).2, (t_ds (t_ds b)).2.2) d (t_sd (t_ds b).2.1 / 65536 % 64) (t_sz (ln 1) 8 (t_ds (t_ds b)).2.1).1) h13 (by omega) fr HX X56 X57 X58 X53 (Nat.zero_le _) (e35 ▸ x35.1) (e35 ▸ x35.2.1) (fun i hi => by rw [← e35, x35.2.2 i hi]; exact hdd i hi) (by rw [← e35, Nat.sub_zero]; rfl)
