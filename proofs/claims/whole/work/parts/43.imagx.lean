theorem q_z_tt (T : q_3) (f : Nat → Nat) (C : Nat) : q_z (t_up (q_tf T (q_z f 4)) 3 C) 4 = q_z f 4 := by
  funext i
  by_cases c : i < 4
  · have e1 : q_z (t_up (q_tf T (q_z f 4)) 3 C) 4 i = 0 := if_pos c
    have e2 : q_z f 4 i = 0 := if_pos c
    rw [e1, e2]
  · have e1 : q_z (t_up (q_tf T (q_z f 4)) 3 C) 4 i = t_up (q_tf T (q_z f 4)) 3 C i := if_neg c
    rw [e1, t_up_ne _ _ (by omega)]
    unfold q_tf
    rw [if_neg (by omega), if_neg (by omega), if_neg (by omega)]
set_option maxRecDepth 100000 in
theorem l_X12_bestLine {ev : mv_E} {h : mv_H} {xt : Int32} {xf : Int32} {xa : Int32} {xo : Int64} {xe : Int32} {xu : Int32} {xs : Int32} {xg : Int32} {xc : Int32} {xw : Int32} {b : t_B} {t : Nat} {lw : Nat → Int32} {ln : Nat → Nat} {od : Nat → Nat} {sh : Nat → Nat} {tw : Nat → Nat} {p : Nat} {x : Nat} {lc : Nat} {sc : Nat} {a : Nat} {e : Nat} {dd : Nat}  (hw : q_LW lw ln) (hb : q_BI dd b) (hp : p < 64) (hz1 : 1 ≤ x) (hz9 : x ≤ 9) (hl1 : 1 ≤ lc) (hl : lc ≤ 999) (hs1 : 1 ≤ sc) (hsc : sc ≤ 9999) (ha : 1 ≤ a) (hae : a ≤ e) (he : e ≤ 399) : ∀ (fu : Nat) (u : Nat) (v : Nat) (y : Nat), ∀ (g : mv_H), 52 < y + fu → mv_fra [71, 72, 73] h g → g[71]? = some (.inl (0, 400, .inl (fun j => nI ((q_fil (q_tO ln b p x) od a (e + 1)) j)))) → g[72]? = some (.inl (0, 400, .inl (fun j => nI ((q_hf b p x a e sh b.1) j)))) → g[73]? = some (.inl (0, 4, .inl (fun j => nI ((t_up (q_tf (q_tw (q_fil (q_tO ln b p x) od a (e + 1)) (q_hf b p x a e sh b.1) (q_L (y - 1)) a (e + 1 - a)) (q_z tw 4)) 3 (q_co (q_fil (q_tO ln b p x) od a (e + 1)) (q_hf b p x a e sh b.1) a e lc sc (q_L (y - 1)))) j)))) → g[52]? = some (.inr (12, [.ref 53, .ref 54, .int xt, .int xf, .int xa, .long xo, .int xe, .int xu, .ref 55, .int xs, .int (nI b.1), .ref 56, .ref 57, .ref 58, .int (nI t), .int (nI b.2.1), .ref 59, .ref 60, .ref 61, .ref 62, .int xg, .ref 63, .ref 64, .ref 65, .ref 66, .ref 67, .ref 68, .ref 69, .int xc, .ref 70, .ref 71, .ref 72, .ref 73, .ref 74, .ref 75, .int xw, .ref 76, .ref 77, .ref 78, .ref 79, .ref 80])) → g[56]? = some (.inl (0, 60, .inl (fun j => nI (b.2.2.1 j)))) → g[57]? = some (.inl (0, 60, .inl (fun j => nI (b.2.2.2.1 j)))) → g[58]? = some (.inl (0, 60, .inl (fun j => nI (b.2.2.2.2 j)))) → g[53]? = some (.inl (0, 8, .inl lw)) → (1 ≤ y) → (y ≤ 52) → (v ≤ 400 * 999 + 24000 * 9999) → ((v, u) = q_bu (q_co (q_fil (q_tO ln b p x) od a (e + 1)) (q_hf b p x a e sh b.1) a e lc sc) (y - 1)) → mv_g ev mX12_bestLine 59 [.ref 52, .int (nI p), .int (nI x), .int (nI lc), .int (nI sc), .int (nI a), .int (nI e), .int (nI u), .int (nI v), .int (nI y), .null, .null] [] g (fun r g => r = some (.int (nI (q_bu (q_co (q_fil (q_tO ln b p x) od a (e + 1)) (q_hf b p x a e sh b.1) a e lc sc) 51).2)) ∧ mv_fra [71, 72, 73] h g ∧ g[71]? = some (.inl (0, 400, .inl (fun j => nI ((q_fil (q_tO ln b p x) od a (e + 1)) j)))) ∧ g[72]? = some (.inl (0, 400, .inl (fun j => nI ((q_hf b p x a e sh b.1) j)))) ∧ g[73]? = some (.inl (0, 4, .inl (fun j => nI ((t_up (q_tf (q_tw (q_fil (q_tO ln b p x) od a (e + 1)) (q_hf b p x a e sh b.1) (q_L 51) a (e + 1 - a)) (q_z tw 4)) 3 (q_co (q_fil (q_tO ln b p x) od a (e + 1)) (q_hf b p x a e sh b.1) a e lc sc (q_L 51))) j))))) := by
  intro fu
  induction fu with
  | zero => intro u v y g hm fr X71 X72 X73 HX X56 X57 X58 X53 hy1 hy2 hvb hbu; exact absurd hm (by omega)
  | succ fu ih =>
    intro u v y g hm fr X71 X72 X73 HX X56 X57 X58 X53 hy1 hy2 hvb hbu
    have n0 := hb.1
    have ho2 : ∀ d, a ≤ d → d ≤ e → (q_fil (q_tO ln b p x) od a (e + 1)) d ≤ 1000000 := (fun d h1 h2 => by rw [q_fil_in ⟨h1, by omega⟩]; exact q_tO_le _ _ _ _ _)
    have hs2 : ∀ d, a ≤ d → d ≤ e → (q_hf b p x a e sh b.1) d ≤ 60 := (fun d h1 h2 => by rw [q_hf_in h1 h2]; exact Nat.le_trans (q_tS_le _ _ _ _) n0)
    refine mv_iload dX12_bestLine_59 rfl ?_
    refine mv_bipush (v := nI 51) dX12_bestLine_61 (by decide) ?_
    refine mv_icmp_gt (tgt := 140) dX12_bestLine_63 (by decide) (fun c63 => ?_) (fun c63 => ?_)
    · have c63 : 51 < y := (nI_ltI (by omega) (by omega)).mp c63
      refine mv_iload dX12_bestLine_140 rfl ?_
      have ey : y = 52 := (by omega)
      subst ey
      have e9 : (q_bu (q_co (q_fil (q_tO ln b p x) od a (e + 1)) (q_hf b p x a e sh b.1) a e lc sc) 51).2 = u := (by rw [show (51 : Nat) = 52 - 1 by decide, ← hbu])
      exact mv_iret dX12_bestLine_142 rfl rfl ⟨(by rw [e9]), fr, X71, X72, X73⟩
    · have c63 : ¬ (51 < y) := fun z => c63 ((nI_ltI (by omega) (by omega)).mpr z)
      refine mv_iload dX12_bestLine_66 rfl ?_
      refine mv_bipush (v := nI 51) dX12_bestLine_68 (by decide) ?_
      refine mv_icmp_ne (tgt := 79) dX12_bestLine_70 (by decide) (fun c70 => ?_) (fun c70 => ?_)
      · have c70 : ¬ (y = 51) := fun z => c70 ((nI_eq (by omega) (by omega)).mpr z)
        refine mv_sipush (v := nI 1000) dX12_bestLine_79 (by decide) ?_
        refine mv_iload dX12_bestLine_82 rfl ?_
        refine mv_imul dX12_bestLine_84 ?_
        refine mv_topI (y := nI (1000 * y)) (pk_mul _ _) ?_
        have eL : q_L y = 1000 * y := (by unfold q_L; first | exact if_pos (by omega) | exact if_neg (by omega))
        have hln : q_L y ≤ 1000001 := (by omega)
        rw [show nI (1000 * y) = nI (q_L y) from congrArg nI eL.symm]
        refine mv_istore dX12_bestLine_85 (by decide) ?_
        refine mv_aload_n dX12_bestLine_87 rfl ?_
        refine mv_iload_n dX12_bestLine_88 rfl ?_
        refine mv_iload dX12_bestLine_89 rfl ?_
        refine mv_iload dX12_bestLine_91 rfl ?_
        refine mv_iload dX12_bestLine_93 rfl ?_
        refine mv_iload dX12_bestLine_95 rfl ?_
        obtain ⟨h1, K2, f3, y4⟩ := (k_X12_runTown (ev := ev) (xt := xt) (xf := xf) (xa := xa) (xo := xo) (xe := xe) (xu := xu) (xs := xs) (xg := xg) (xc := xc) (xw := xw) (b := b) (t := t) (od := (q_fil (q_tO ln b p x) od a (e + 1))) (sh := (q_hf b p x a e sh b.1)) (tw := (t_up (q_tf (q_tw (q_fil (q_tO ln b p x) od a (e + 1)) (q_hf b p x a e sh b.1) (q_L (y - 1)) a (e + 1 - a)) (q_z tw 4)) 3 (q_co (q_fil (q_tO ln b p x) od a (e + 1)) (q_hf b p x a e sh b.1) a e lc sc (q_L (y - 1))))) (li := (q_L y)) (lc := lc) (sc := sc) (a := a) (e := e) HX X71 X72 X73 ho2 hs2 hln hae he)
        refine mv_cV5 (ci := 12) dX12_bestLine_97 lk_X12_bestLine_342 HX rfl (Nat.le_of_ble_eq_true rfl) (Nat.le_of_ble_eq_true rfl) K2 ?_
        have HX := f3.get (by decide) HX
        have X56 := f3.get (by decide) X56
        have X57 := f3.get (by decide) X57
        have X58 := f3.get (by decide) X58
        have X53 := f3.get (by decide) X53
        have X71 := f3.get (by decide) X71
        have X72 := f3.get (by decide) X72
        have X73 : h1[73]? = some (.inl (0, 4, .inl (fun j => nI (t_up (q_tf (q_tw (q_fil (q_tO ln b p x) od a (e + 1)) (q_hf b p x a e sh b.1) (q_L y) a (e + 1 - a)) (q_z (t_up (q_tf (q_tw (q_fil (q_tO ln b p x) od a (e + 1)) (q_hf b p x a e sh b.1) (q_L (y - 1)) a (e + 1 - a)) (q_z tw 4)) 3 (q_co (q_fil (q_tO ln b p x) od a (e + 1)) (q_hf b p x a e sh b.1) a e lc sc (q_L (y - 1)))) 4)) 3 (q_co (q_fil (q_tO ln b p x) od a (e + 1)) (q_hf b p x a e sh b.1) a e lc sc (q_L y)) j)))) := y4
        have fr := fr.trans f3 (by decide)
        rw [q_z_tt] at X73
        have n5 := q_co_le (od := (q_fil (q_tO ln b p x) od a (e + 1))) (q_L y) he hl hsc hs2
        refine mv_istore dX12_bestLine_100 (by decide) ?_
        refine mv_iload dX12_bestLine_102 rfl ?_
        refine mv_iload dX12_bestLine_104 rfl ?_
        refine mv_icmp_ge (tgt := 114) dX12_bestLine_106 (by decide) (fun c106 => ?_) (fun c106 => ?_)
        · have c106 : v ≤ q_co (q_fil (q_tO ln b p x) od a (e + 1)) (q_hf b p x a e sh b.1) a e lc sc (q_L y) := (nI_leI (by omega) (by omega)).mp c106
          refine mv_iload dX12_bestLine_114 rfl ?_
          refine mv_istore dX12_bestLine_116 (by decide) ?_
          refine mv_iload dX12_bestLine_118 rfl ?_
          refine mv_iload dX12_bestLine_120 rfl ?_
          refine mv_icmp_ge (tgt := 130) dX12_bestLine_122 (by decide) (fun c122 => ?_) (fun z => absurd (((nI_leI (by omega) (by omega)).mpr c106)) z)
          refine mv_iload dX12_bestLine_130 rfl ?_
          refine mv_istore dX12_bestLine_132 (by decide) ?_
          refine mv_iinc (v := nI (y + 1)) dX12_bestLine_134 rfl (mv_inc y 1) (by decide) ?_
          refine mv_goto (tgt := 59) dX12_bestLine_137 (by decide) ?_
          refine mv_sub (lv' := [.ref 52, .int (nI p), .int (nI x), .int (nI lc), .int (nI sc), .int (nI a), .int (nI e), .int (nI u), .int (nI v), .int (nI (y + 1)), .null, .null]) ⟨Or.inr rfl, Or.inr rfl, Or.inr rfl, Or.inr rfl, Or.inr rfl, Or.inr rfl, Or.inr rfl, Or.inr rfl, Or.inr rfl, Or.inr rfl, Or.inl rfl, Or.inl rfl, trivial⟩ ?_
          exact ih u v (y + 1) h1 (by omega) fr X71 X72 X73 HX X56 X57 X58 X53 (by omega) (by omega) (by first | exact hvb | exact q_co_le _ he hl hsc hs2) (by have eb : q_bu (q_co (q_fil (q_tO ln b p x) od a (e + 1)) (q_hf b p x a e sh b.1) a e lc sc) y = if (q_co (q_fil (q_tO ln b p x) od a (e + 1)) (q_hf b p x a e sh b.1) a e lc sc) (q_L y) < (q_bu (q_co (q_fil (q_tO ln b p x) od a (e + 1)) (q_hf b p x a e sh b.1) a e lc sc) (y - 1)).1 then ((q_co (q_fil (q_tO ln b p x) od a (e + 1)) (q_hf b p x a e sh b.1) a e lc sc) (q_L y), q_L y) else q_bu (q_co (q_fil (q_tO ln b p x) od a (e + 1)) (q_hf b p x a e sh b.1) a e lc sc) (y - 1) := (by obtain ⟨i, rfl⟩ : ∃ i, y = i + 1 := ⟨y - 1, by omega⟩; rfl); show _ = q_bu (q_co (q_fil (q_tO ln b p x) od a (e + 1)) (q_hf b p x a e sh b.1) a e lc sc) y; rw [eb, ← hbu]; first | exact (if_pos (show (q_co (q_fil (q_tO ln b p x) od a (e + 1)) (q_hf b p x a e sh b.1) a e lc sc) (q_L y) < v by omega)).symm | exact (if_neg (show ¬ (q_co (q_fil (q_tO ln b p x) od a (e + 1)) (q_hf b p x a e sh b.1) a e lc sc) (q_L y) < v by omega)).symm)
        · have c106 : ¬ (v ≤ q_co (q_fil (q_tO ln b p x) od a (e + 1)) (q_hf b p x a e sh b.1) a e lc sc (q_L y)) := fun z => c106 ((nI_leI (by omega) (by omega)).mpr z)
          refine mv_iload dX12_bestLine_109 rfl ?_
          refine mv_goto (tgt := 116) dX12_bestLine_111 (by decide) ?_
          refine mv_istore dX12_bestLine_116 (by decide) ?_
          refine mv_iload dX12_bestLine_118 rfl ?_
          refine mv_iload dX12_bestLine_120 rfl ?_
          refine mv_icmp_ge (tgt := 130) dX12_bestLine_122 (by decide) (fun z => absurd z ((fun q => c106 ((nI_leI (by omega) (by omega)).mp q)))) (fun c122 => ?_)
          refine mv_iload dX12_bestLine_125 rfl ?_
          refine mv_goto (tgt := 132) dX12_bestLine_127 (by decide) ?_
          refine mv_istore dX12_bestLine_132 (by decide) ?_
          refine mv_iinc (v := nI (y + 1)) dX12_bestLine_134 rfl (mv_inc y 1) (by decide) ?_
          refine mv_goto (tgt := 59) dX12_bestLine_137 (by decide) ?_
          refine mv_sub (lv' := [.ref 52, .int (nI p), .int (nI x), .int (nI lc), .int (nI sc), .int (nI a), .int (nI e), .int (nI (q_L y)), .int (nI (q_co (q_fil (q_tO ln b p x) od a (e + 1)) (q_hf b p x a e sh b.1) a e lc sc (q_L y))), .int (nI (y + 1)), .null, .null]) ⟨Or.inr rfl, Or.inr rfl, Or.inr rfl, Or.inr rfl, Or.inr rfl, Or.inr rfl, Or.inr rfl, Or.inr rfl, Or.inr rfl, Or.inr rfl, Or.inl rfl, Or.inl rfl, trivial⟩ ?_
          exact ih (q_L y) (q_co (q_fil (q_tO ln b p x) od a (e + 1)) (q_hf b p x a e sh b.1) a e lc sc (q_L y)) (y + 1) h1 (by omega) fr X71 X72 X73 HX X56 X57 X58 X53 (by omega) (by omega) (by first | exact hvb | exact q_co_le _ he hl hsc hs2) (by have eb : q_bu (q_co (q_fil (q_tO ln b p x) od a (e + 1)) (q_hf b p x a e sh b.1) a e lc sc) y = if (q_co (q_fil (q_tO ln b p x) od a (e + 1)) (q_hf b p x a e sh b.1) a e lc sc) (q_L y) < (q_bu (q_co (q_fil (q_tO ln b p x) od a (e + 1)) (q_hf b p x a e sh b.1) a e lc sc) (y - 1)).1 then ((q_co (q_fil (q_tO ln b p x) od a (e + 1)) (q_hf b p x a e sh b.1) a e lc sc) (q_L y), q_L y) else q_bu (q_co (q_fil (q_tO ln b p x) od a (e + 1)) (q_hf b p x a e sh b.1) a e lc sc) (y - 1) := (by obtain ⟨i, rfl⟩ : ∃ i, y = i + 1 := ⟨y - 1, by omega⟩; rfl); show _ = q_bu (q_co (q_fil (q_tO ln b p x) od a (e + 1)) (q_hf b p x a e sh b.1) a e lc sc) y; rw [eb, ← hbu]; first | exact (if_pos (show (q_co (q_fil (q_tO ln b p x) od a (e + 1)) (q_hf b p x a e sh b.1) a e lc sc) (q_L y) < v by omega)).symm | exact (if_neg (show ¬ (q_co (q_fil (q_tO ln b p x) od a (e + 1)) (q_hf b p x a e sh b.1) a e lc sc) (q_L y) < v by omega)).symm)
      · have c70 : y = 51 := (nI_eq (by omega) (by omega)).mp c70
        refine mv_ldcw (v := nI 1000001) dX12_bestLine_73 wd_1615 ?_
        refine mv_goto (tgt := 85) dX12_bestLine_76 (by decide) ?_
        have eL : q_L y = 1000001 := (by unfold q_L; first | exact if_pos (by omega) | exact if_neg (by omega))
        have hln : q_L y ≤ 1000001 := (by omega)
        rw [show nI 1000001 = nI (q_L y) from congrArg nI eL.symm]
        refine mv_istore dX12_bestLine_85 (by decide) ?_
        refine mv_aload_n dX12_bestLine_87 rfl ?_
        refine mv_iload_n dX12_bestLine_88 rfl ?_
        refine mv_iload dX12_bestLine_89 rfl ?_
        refine mv_iload dX12_bestLine_91 rfl ?_
        refine mv_iload dX12_bestLine_93 rfl ?_
        refine mv_iload dX12_bestLine_95 rfl ?_
        obtain ⟨h5, K6, f7, y8⟩ := (k_X12_runTown (ev := ev) (xt := xt) (xf := xf) (xa := xa) (xo := xo) (xe := xe) (xu := xu) (xs := xs) (xg := xg) (xc := xc) (xw := xw) (b := b) (t := t) (od := (q_fil (q_tO ln b p x) od a (e + 1))) (sh := (q_hf b p x a e sh b.1)) (tw := (t_up (q_tf (q_tw (q_fil (q_tO ln b p x) od a (e + 1)) (q_hf b p x a e sh b.1) (q_L (y - 1)) a (e + 1 - a)) (q_z tw 4)) 3 (q_co (q_fil (q_tO ln b p x) od a (e + 1)) (q_hf b p x a e sh b.1) a e lc sc (q_L (y - 1))))) (li := (q_L y)) (lc := lc) (sc := sc) (a := a) (e := e) HX X71 X72 X73 ho2 hs2 hln hae he)
        refine mv_cV5 (ci := 12) dX12_bestLine_97 lk_X12_bestLine_342 HX rfl (Nat.le_of_ble_eq_true rfl) (Nat.le_of_ble_eq_true rfl) K6 ?_
        have HX := f7.get (by decide) HX
        have X56 := f7.get (by decide) X56
        have X57 := f7.get (by decide) X57
        have X58 := f7.get (by decide) X58
        have X53 := f7.get (by decide) X53
        have X71 := f7.get (by decide) X71
        have X72 := f7.get (by decide) X72
        have X73 : h5[73]? = some (.inl (0, 4, .inl (fun j => nI (t_up (q_tf (q_tw (q_fil (q_tO ln b p x) od a (e + 1)) (q_hf b p x a e sh b.1) (q_L y) a (e + 1 - a)) (q_z (t_up (q_tf (q_tw (q_fil (q_tO ln b p x) od a (e + 1)) (q_hf b p x a e sh b.1) (q_L (y - 1)) a (e + 1 - a)) (q_z tw 4)) 3 (q_co (q_fil (q_tO ln b p x) od a (e + 1)) (q_hf b p x a e sh b.1) a e lc sc (q_L (y - 1)))) 4)) 3 (q_co (q_fil (q_tO ln b p x) od a (e + 1)) (q_hf b p x a e sh b.1) a e lc sc (q_L y)) j)))) := y8
        have fr := fr.trans f7 (by decide)
        rw [q_z_tt] at X73
        have n5 := q_co_le (od := (q_fil (q_tO ln b p x) od a (e + 1))) (q_L y) he hl hsc hs2
        refine mv_istore dX12_bestLine_100 (by decide) ?_
        refine mv_iload dX12_bestLine_102 rfl ?_
        refine mv_iload dX12_bestLine_104 rfl ?_
        refine mv_icmp_ge (tgt := 114) dX12_bestLine_106 (by decide) (fun c106 => ?_) (fun c106 => ?_)
        · have c106 : v ≤ q_co (q_fil (q_tO ln b p x) od a (e + 1)) (q_hf b p x a e sh b.1) a e lc sc (q_L y) := (nI_leI (by omega) (by omega)).mp c106
          refine mv_iload dX12_bestLine_114 rfl ?_
          refine mv_istore dX12_bestLine_116 (by decide) ?_
          refine mv_iload dX12_bestLine_118 rfl ?_
          refine mv_iload dX12_bestLine_120 rfl ?_
          refine mv_icmp_ge (tgt := 130) dX12_bestLine_122 (by decide) (fun c122 => ?_) (fun z => absurd (((nI_leI (by omega) (by omega)).mpr c106)) z)
          refine mv_iload dX12_bestLine_130 rfl ?_
          refine mv_istore dX12_bestLine_132 (by decide) ?_
          refine mv_iinc (v := nI (y + 1)) dX12_bestLine_134 rfl (mv_inc y 1) (by decide) ?_
          refine mv_goto (tgt := 59) dX12_bestLine_137 (by decide) ?_
          refine mv_sub (lv' := [.ref 52, .int (nI p), .int (nI x), .int (nI lc), .int (nI sc), .int (nI a), .int (nI e), .int (nI u), .int (nI v), .int (nI (y + 1)), .null, .null]) ⟨Or.inr rfl, Or.inr rfl, Or.inr rfl, Or.inr rfl, Or.inr rfl, Or.inr rfl, Or.inr rfl, Or.inr rfl, Or.inr rfl, Or.inr rfl, Or.inl rfl, Or.inl rfl, trivial⟩ ?_
          exact ih u v (y + 1) h5 (by omega) fr X71 X72 X73 HX X56 X57 X58 X53 (by omega) (by omega) (by first | exact hvb | exact q_co_le _ he hl hsc hs2) (by have eb : q_bu (q_co (q_fil (q_tO ln b p x) od a (e + 1)) (q_hf b p x a e sh b.1) a e lc sc) y = if (q_co (q_fil (q_tO ln b p x) od a (e + 1)) (q_hf b p x a e sh b.1) a e lc sc) (q_L y) < (q_bu (q_co (q_fil (q_tO ln b p x) od a (e + 1)) (q_hf b p x a e sh b.1) a e lc sc) (y - 1)).1 then ((q_co (q_fil (q_tO ln b p x) od a (e + 1)) (q_hf b p x a e sh b.1) a e lc sc) (q_L y), q_L y) else q_bu (q_co (q_fil (q_tO ln b p x) od a (e + 1)) (q_hf b p x a e sh b.1) a e lc sc) (y - 1) := (by obtain ⟨i, rfl⟩ : ∃ i, y = i + 1 := ⟨y - 1, by omega⟩; rfl); show _ = q_bu (q_co (q_fil (q_tO ln b p x) od a (e + 1)) (q_hf b p x a e sh b.1) a e lc sc) y; rw [eb, ← hbu]; first | exact (if_pos (show (q_co (q_fil (q_tO ln b p x) od a (e + 1)) (q_hf b p x a e sh b.1) a e lc sc) (q_L y) < v by omega)).symm | exact (if_neg (show ¬ (q_co (q_fil (q_tO ln b p x) od a (e + 1)) (q_hf b p x a e sh b.1) a e lc sc) (q_L y) < v by omega)).symm)
        · have c106 : ¬ (v ≤ q_co (q_fil (q_tO ln b p x) od a (e + 1)) (q_hf b p x a e sh b.1) a e lc sc (q_L y)) := fun z => c106 ((nI_leI (by omega) (by omega)).mpr z)
          refine mv_iload dX12_bestLine_109 rfl ?_
          refine mv_goto (tgt := 116) dX12_bestLine_111 (by decide) ?_
          refine mv_istore dX12_bestLine_116 (by decide) ?_
          refine mv_iload dX12_bestLine_118 rfl ?_
          refine mv_iload dX12_bestLine_120 rfl ?_
          refine mv_icmp_ge (tgt := 130) dX12_bestLine_122 (by decide) (fun z => absurd z ((fun q => c106 ((nI_leI (by omega) (by omega)).mp q)))) (fun c122 => ?_)
          refine mv_iload dX12_bestLine_125 rfl ?_
          refine mv_goto (tgt := 132) dX12_bestLine_127 (by decide) ?_
          refine mv_istore dX12_bestLine_132 (by decide) ?_
          refine mv_iinc (v := nI (y + 1)) dX12_bestLine_134 rfl (mv_inc y 1) (by decide) ?_
          refine mv_goto (tgt := 59) dX12_bestLine_137 (by decide) ?_
          refine mv_sub (lv' := [.ref 52, .int (nI p), .int (nI x), .int (nI lc), .int (nI sc), .int (nI a), .int (nI e), .int (nI (q_L y)), .int (nI (q_co (q_fil (q_tO ln b p x) od a (e + 1)) (q_hf b p x a e sh b.1) a e lc sc (q_L y))), .int (nI (y + 1)), .null, .null]) ⟨Or.inr rfl, Or.inr rfl, Or.inr rfl, Or.inr rfl, Or.inr rfl, Or.inr rfl, Or.inr rfl, Or.inr rfl, Or.inr rfl, Or.inr rfl, Or.inl rfl, Or.inl rfl, trivial⟩ ?_
          exact ih (q_L y) (q_co (q_fil (q_tO ln b p x) od a (e + 1)) (q_hf b p x a e sh b.1) a e lc sc (q_L y)) (y + 1) h5 (by omega) fr X71 X72 X73 HX X56 X57 X58 X53 (by omega) (by omega) (by first | exact hvb | exact q_co_le _ he hl hsc hs2) (by have eb : q_bu (q_co (q_fil (q_tO ln b p x) od a (e + 1)) (q_hf b p x a e sh b.1) a e lc sc) y = if (q_co (q_fil (q_tO ln b p x) od a (e + 1)) (q_hf b p x a e sh b.1) a e lc sc) (q_L y) < (q_bu (q_co (q_fil (q_tO ln b p x) od a (e + 1)) (q_hf b p x a e sh b.1) a e lc sc) (y - 1)).1 then ((q_co (q_fil (q_tO ln b p x) od a (e + 1)) (q_hf b p x a e sh b.1) a e lc sc) (q_L y), q_L y) else q_bu (q_co (q_fil (q_tO ln b p x) od a (e + 1)) (q_hf b p x a e sh b.1) a e lc sc) (y - 1) := (by obtain ⟨i, rfl⟩ : ∃ i, y = i + 1 := ⟨y - 1, by omega⟩; rfl); show _ = q_bu (q_co (q_fil (q_tO ln b p x) od a (e + 1)) (q_hf b p x a e sh b.1) a e lc sc) y; rw [eb, ← hbu]; first | exact (if_pos (show (q_co (q_fil (q_tO ln b p x) od a (e + 1)) (q_hf b p x a e sh b.1) a e lc sc) (q_L y) < v by omega)).symm | exact (if_neg (show ¬ (q_co (q_fil (q_tO ln b p x) od a (e + 1)) (q_hf b p x a e sh b.1) a e lc sc) (q_L y) < v by omega)).symm)
set_option maxRecDepth 100000 in
theorem k_X12_bestLine_G {ev : mv_E} {h : mv_H} {xt : Int32} {xf : Int32} {xa : Int32} {xo : Int64} {xe : Int32} {xu : Int32} {xs : Int32} {xg : Int32} {xc : Int32} {xw : Int32} {b : t_B} {t : Nat} {lw : Nat → Int32} {ln : Nat → Nat} {od : Nat → Nat} {sh : Nat → Nat} {tw : Nat → Nat} {p : Nat} {x : Nat} {lc : Nat} {sc : Nat} {a : Nat} {e : Nat} {dd : Nat} (HX : h[52]? = some (.inr (12, [.ref 53, .ref 54, .int xt, .int xf, .int xa, .long xo, .int xe, .int xu, .ref 55, .int xs, .int (nI b.1), .ref 56, .ref 57, .ref 58, .int (nI t), .int (nI b.2.1), .ref 59, .ref 60, .ref 61, .ref 62, .int xg, .ref 63, .ref 64, .ref 65, .ref 66, .ref 67, .ref 68, .ref 69, .int xc, .ref 70, .ref 71, .ref 72, .ref 73, .ref 74, .ref 75, .int xw, .ref 76, .ref 77, .ref 78, .ref 79, .ref 80]))) (X56 : h[56]? = some (.inl (0, 60, .inl (fun j => nI (b.2.2.1 j))))) (X57 : h[57]? = some (.inl (0, 60, .inl (fun j => nI (b.2.2.2.1 j))))) (X58 : h[58]? = some (.inl (0, 60, .inl (fun j => nI (b.2.2.2.2 j))))) (X53 : h[53]? = some (.inl (0, 8, .inl lw))) (X71 : h[71]? = some (.inl (0, 400, .inl (fun j => nI (od j))))) (X72 : h[72]? = some (.inl (0, 400, .inl (fun j => nI (sh j))))) (X73 : h[73]? = some (.inl (0, 4, .inl (fun j => nI (tw j))))) (hw : q_LW lw ln) (hb : q_BI dd b) (hp : p < 64) (hz1 : 1 ≤ x) (hz9 : x ≤ 9) (hl1 : 1 ≤ lc) (hl : lc ≤ 999) (hs1 : 1 ≤ sc) (hsc : sc ≤ 9999) (ha : 1 ≤ a) (hae : a ≤ e) (he : e ≤ 399) : ∃ h2, mv_K ev mX12_bestLine [.ref 52, .int (nI p), .int (nI x), .int (nI lc), .int (nI sc), .int (nI a), .int (nI e)] h (some (.int (nI (q_bu (q_co (q_fil (q_tO ln b p x) od a (e + 1)) (q_hf b p x a e sh b.1) a e lc sc) 51).2))) h2 ∧ mv_fra [71, 72, 73] h h2 ∧ h2[71]? = some (.inl (0, 400, .inl (fun j => nI ((q_fil (q_tO ln b p x) od a (e + 1)) j)))) ∧ h2[72]? = some (.inl (0, 400, .inl (fun j => nI ((q_hf b p x a e sh b.1) j)))) ∧ h2[73]? = some (.inl (0, 4, .inl (fun j => nI ((t_up (q_tf (q_tw (q_fil (q_tO ln b p x) od a (e + 1)) (q_hf b p x a e sh b.1) (q_L 51) a (e + 1 - a)) (q_z tw 4)) 3 (q_co (q_fil (q_tO ln b p x) od a (e + 1)) (q_hf b p x a e sh b.1) a e lc sc (q_L 51))) j)))) := by
  suffices g0 : mv_g ev mX12_bestLine 0 (mv_ent [.ref 52, .int (nI p), .int (nI x), .int (nI lc), .int (nI sc), .int (nI a), .int (nI e)] (mv_ml mX12_bestLine)) [] h (fun r g => r = some (.int (nI (q_bu (q_co (q_fil (q_tO ln b p x) od a (e + 1)) (q_hf b p x a e sh b.1) a e lc sc) 51).2)) ∧ mv_fra [71, 72, 73] h g ∧ g[71]? = some (.inl (0, 400, .inl (fun j => nI ((q_fil (q_tO ln b p x) od a (e + 1)) j)))) ∧ g[72]? = some (.inl (0, 400, .inl (fun j => nI ((q_hf b p x a e sh b.1) j)))) ∧ g[73]? = some (.inl (0, 4, .inl (fun j => nI ((t_up (q_tf (q_tw (q_fil (q_tO ln b p x) od a (e + 1)) (q_hf b p x a e sh b.1) (q_L 51) a (e + 1 - a)) (q_z tw 4)) 3 (q_co (q_fil (q_tO ln b p x) od a (e + 1)) (q_hf b p x a e sh b.1) a e lc sc (q_L 51))) j))))) from (by obtain ⟨r0, h0, K0, q0, Q0⟩ := mv_Kex g0; subst q0; exact ⟨h0, K0, Q0⟩)
  show mv_g ev mX12_bestLine 0 [.ref 52, .int (nI p), .int (nI x), .int (nI lc), .int (nI sc), .int (nI a), .int (nI e), .null, .null, .null, .null, .null] [] h _
  have fr : mv_fra [71, 72, 73] h h := mv_fra.rf
  have n0 := hb.1
  have ho2 : ∀ d, a ≤ d → d ≤ e → (q_fil (q_tO ln b p x) od a (e + 1)) d ≤ 1000000 := (fun d h1 h2 => by rw [q_fil_in ⟨h1, by omega⟩]; exact q_tO_le _ _ _ _ _)
  have hs2 : ∀ d, a ≤ d → d ≤ e → (q_hf b p x a e sh b.1) d ≤ 60 := (fun d h1 h2 => by rw [q_hf_in h1 h2]; exact Nat.le_trans (q_tS_le _ _ _ _) n0)
  refine mv_iload_n dX12_bestLine_0 rfl ?_
  refine mv_cS1 dX12_bestLine_1 lk_X12_bestLine_121 (Nat.le_of_ble_eq_true rfl) (Nat.le_of_ble_eq_true rfl) (k_X12_isPlace (ev := ev)) ?_
  refine mv_if_ne (tgt := 11) dX12_bestLine_4 (by decide) (fun c4 => ?_) (fun z => absurd z ((fun z => (mv_b_0 _).mp z (mv_in_i (by omega) (by omega) (by omega)))))
  refine mv_iload_n dX12_bestLine_11 rfl ?_
  refine mv_iload_n dX12_bestLine_12 rfl ?_
  refine mv_iload dX12_bestLine_13 rfl ?_
  refine mv_iload dX12_bestLine_15 rfl ?_
  refine mv_iload dX12_bestLine_17 rfl ?_
  refine mv_cS5 dX12_bestLine_19 lk_X12_bestLine_331 (Nat.le_of_ble_eq_true rfl) (Nat.le_of_ble_eq_true rfl) (k_X12_isTown (ev := ev)) ?_
  refine mv_if_ne (tgt := 29) dX12_bestLine_22 (by decide) (fun c22 => ?_) (fun z => absurd z ((fun z => (mv_b_0 _).mp z ⟨mv_in_i hz1 hz9 (by decide), mv_in_i hl1 hl (by decide), mv_in_i hs1 hsc (by decide), mv_in_i ha (by omega) (by decide), (nI_leI (by omega) (by omega)).mpr hae, (nI_leI (by omega) (by decide)).mpr he⟩)))
  refine mv_aload_n dX12_bestLine_29 rfl ?_
  refine mv_iload_n dX12_bestLine_30 rfl ?_
  refine mv_iload_n dX12_bestLine_31 rfl ?_
  refine mv_iload dX12_bestLine_32 rfl ?_
  refine mv_iload dX12_bestLine_34 rfl ?_
  obtain ⟨h1, K2, f3, y4, y5⟩ := (k_X12_findDays (ev := ev) (xt := xt) (xf := xf) (xa := xa) (xo := xo) (xe := xe) (xu := xu) (xs := xs) (xg := xg) (xc := xc) (xw := xw) (b := b) (t := t) (lw := lw) (ln := ln) (od := od) (sh := sh) (p := p) (x := x) (a := a) (e := e) (dd := dd) HX X56 X57 X58 X53 X71 X72 hw hb hp hz1 hz9 ha hae he)
  refine mv_cV4 (ci := 12) dX12_bestLine_36 lk_X12_bestLine_338 HX rfl (Nat.le_of_ble_eq_true rfl) (Nat.le_of_ble_eq_true rfl) K2 ?_
  have HX := f3.get (by decide) HX
  have X56 := f3.get (by decide) X56
  have X57 := f3.get (by decide) X57
  have X58 := f3.get (by decide) X58
  have X53 := f3.get (by decide) X53
  have X71 : h1[71]? = some (.inl (0, 400, .inl (fun j => nI (q_fil (q_tO ln b p x) od a (e + 1) j)))) := y4
  have X72 : h1[72]? = some (.inl (0, 400, .inl (fun j => nI (q_hf b p x a e sh b.1 j)))) := y5
  have X73 := f3.get (by decide) X73
  have fr := fr.trans f3 (by decide)
  refine mv_iconst (v := nI 0) dX12_bestLine_39 (by decide) ?_
  refine mv_istore dX12_bestLine_40 (by decide) ?_
  refine mv_aload_n dX12_bestLine_42 rfl ?_
  refine mv_iload_n dX12_bestLine_43 rfl ?_
  refine mv_iload dX12_bestLine_44 rfl ?_
  refine mv_iconst (v := nI 0) dX12_bestLine_46 (by decide) ?_
  refine mv_iload dX12_bestLine_47 rfl ?_
  refine mv_iload dX12_bestLine_49 rfl ?_
  obtain ⟨h6, K7, f8, y9⟩ := (k_X12_runTown (ev := ev) (xt := xt) (xf := xf) (xa := xa) (xo := xo) (xe := xe) (xu := xu) (xs := xs) (xg := xg) (xc := xc) (xw := xw) (b := b) (t := t) (od := q_fil (q_tO ln b p x) od a (e + 1)) (sh := q_hf b p x a e sh b.1) (tw := tw) (li := 0) (lc := lc) (sc := sc) (a := a) (e := e) HX X71 X72 X73 ho2 hs2 (by omega) hae he)
  refine mv_cV5 (ci := 12) dX12_bestLine_51 lk_X12_bestLine_342 HX rfl (Nat.le_of_ble_eq_true rfl) (Nat.le_of_ble_eq_true rfl) K7 ?_
  have HX := f8.get (by decide) HX
  have X56 := f8.get (by decide) X56
  have X57 := f8.get (by decide) X57
  have X58 := f8.get (by decide) X58
  have X53 := f8.get (by decide) X53
  have X71 := f8.get (by decide) X71
  have X72 := f8.get (by decide) X72
  have X73 : h6[73]? = some (.inl (0, 4, .inl (fun j => nI (t_up (q_tf (q_tw (q_fil (q_tO ln b p x) od a (e + 1)) (q_hf b p x a e sh b.1) 0 a (e + 1 - a)) (q_z tw 4)) 3 (q_co (q_fil (q_tO ln b p x) od a (e + 1)) (q_hf b p x a e sh b.1) a e lc sc 0) j)))) := y9
  have fr := fr.trans f8 (by decide)
  refine mv_istore dX12_bestLine_54 (by decide) ?_
  refine mv_iconst (v := nI 1) dX12_bestLine_56 (by decide) ?_
  refine mv_istore dX12_bestLine_57 (by decide) ?_
  exact l_X12_bestLine hw hb hp hz1 hz9 hl1 hl hs1 hsc ha hae he 53 0 (q_co (q_fil (q_tO ln b p x) od a (e + 1)) (q_hf b p x a e sh b.1) a e lc sc 0) 1 h6 (by omega) fr X71 X72 X73 HX X56 X57 X58 X53 (Nat.le_refl _) (by decide) (q_co_le _ he hl hsc hs2) rfl
set_option maxRecDepth 100000 in
theorem k_X12_luck_R1 {ev : mv_E} {h : mv_H} {n : Int32} {p : Int32} {k : Int32}  (hno : ¬ ((nI 1 ≤ n ∧ n ≤ nI 200) ∧ (nI 0 ≤ p ∧ p ≤ nI 1000) ∧ (nI 0 ≤ k ∧ k ≤ n))) : mv_K ev mX12_luck [.ref 52, .int n, .int p, .int k] h (some (.int (-1002))) h := by
  refine mv_Kof ?_
  show mv_g ev mX12_luck 0 [.ref 52, .int n, .int p, .int k, .null] [] h _
  refine mv_iload_n dX12_luck_0 rfl ?_
  refine mv_i2l dX12_luck_1 ?_
  refine mv_lconst (v := lN 1) dX12_luck_2 rfl ?_
  refine mv_ldc2 (v := lN 200) dX12_luck_3 wd_1620 ?_
  refine mv_cS3 dX12_luck_6 lk_X12_luck_107 (Nat.le_of_ble_eq_true rfl) (Nat.le_of_ble_eq_true rfl) (k_X12_in (ev := ev)) ?_
  refine mv_if_eq (tgt := 35) dX12_luck_9 (by decide) (fun c9 => ?_) (fun c9 => ?_)
  · have c9 : ¬ (nI 1 ≤ n ∧ n ≤ nI 200) := fun z => (mv_b_0 _).mp c9 ((and_congr (mv_lL (by decide)) (mv_lR (by decide))).mpr z)
    refine mv_sipush (v := (-1002)) dX12_luck_35 (by decide) ?_
    exact mv_iret dX12_luck_38 rfl rfl ⟨rfl, rfl⟩
  · have c9 : nI 1 ≤ n ∧ n ≤ nI 200 := (and_congr (mv_lL (by decide)) (mv_lR (by decide))).mp (mv_b_ne c9)
    refine mv_iload_n dX12_luck_12 rfl ?_
    refine mv_i2l dX12_luck_13 ?_
    refine mv_lconst (v := lN 0) dX12_luck_14 rfl ?_
    refine mv_ldc2 (v := lN 1000) dX12_luck_15 wd_1621 ?_
    refine mv_cS3 dX12_luck_18 lk_X12_luck_107 (Nat.le_of_ble_eq_true rfl) (Nat.le_of_ble_eq_true rfl) (k_X12_in (ev := ev)) ?_
    refine mv_if_eq (tgt := 35) dX12_luck_21 (by decide) (fun c21 => ?_) (fun c21 => ?_)
    · have c21 : ¬ (nI 0 ≤ p ∧ p ≤ nI 1000) := fun z => (mv_b_0 _).mp c21 ((and_congr (mv_lL (by decide)) (mv_lR (by decide))).mpr z)
      refine mv_sipush (v := (-1002)) dX12_luck_35 (by decide) ?_
      exact mv_iret dX12_luck_38 rfl rfl ⟨rfl, rfl⟩
    · have c21 : nI 0 ≤ p ∧ p ≤ nI 1000 := (and_congr (mv_lL (by decide)) (mv_lR (by decide))).mp (mv_b_ne c21)
      refine mv_iload_n dX12_luck_24 rfl ?_
      refine mv_i2l dX12_luck_25 ?_
      refine mv_lconst (v := lN 0) dX12_luck_26 rfl ?_
      refine mv_iload_n dX12_luck_27 rfl ?_
      refine mv_i2l dX12_luck_28 ?_
      refine mv_cS3 dX12_luck_29 lk_X12_luck_107 (Nat.le_of_ble_eq_true rfl) (Nat.le_of_ble_eq_true rfl) (k_X12_in (ev := ev)) ?_
      refine mv_if_ne (tgt := 39) dX12_luck_32 (by decide) (fun c32 => ?_) (fun c32 => ?_)
      · have c32 : nI 0 ≤ k ∧ k ≤ n := (and_congr (mv_lL (by decide)) (mv_l_le _ _)).mp (mv_b_ne c32)
        exact absurd (by refine ⟨?_, ?_, ?_⟩ <;> assumption) hno
      · have c32 : ¬ (nI 0 ≤ k ∧ k ≤ n) := fun z => (mv_b_0 _).mp c32 ((and_congr (mv_lL (by decide)) (mv_l_le _ _)).mpr z)
        refine mv_sipush (v := (-1002)) dX12_luck_35 (by decide) ?_
        exact mv_iret dX12_luck_38 rfl rfl ⟨rfl, rfl⟩
set_option maxRecDepth 100000 in
theorem l_X12_luck {ev : mv_E} {h : mv_H} {xt : Int32} {xf : Int32} {xa : Int32} {xo : Int64} {xe : Int32} {xu : Int32} {xs : Int32} {xg : Int32} {xc : Int32} {xw : Int32} {b : t_B} {t : Nat} {f : Nat → Nat} {n : Nat} {p : Nat} {k : Nat}  (hf : ∀ i, f i ≤ 1000000) (hn1 : 1 ≤ n) (hn : n ≤ 200) (hp : p ≤ 1000) (hk : k ≤ n) : ∀ (fu : Nat) (y : Nat), ∀ (g : mv_H), n < y + fu → mv_fra [74] h g → g[74]? = some (.inl (0, 201, .inl (fun j => nI (q_rows p (q_bg f 201) y j)))) → g[52]? = some (.inr (12, [.ref 53, .ref 54, .int xt, .int xf, .int xa, .long xo, .int xe, .int xu, .ref 55, .int xs, .int (nI b.1), .ref 56, .ref 57, .ref 58, .int (nI t), .int (nI b.2.1), .ref 59, .ref 60, .ref 61, .ref 62, .int xg, .ref 63, .ref 64, .ref 65, .ref 66, .ref 67, .ref 68, .ref 69, .int xc, .ref 70, .ref 71, .ref 72, .ref 73, .ref 74, .ref 75, .int xw, .ref 76, .ref 77, .ref 78, .ref 79, .ref 80])) → (y ≤ n) → mv_g ev mX12_luck 46 [.ref 52, .int (nI n), .int (nI p), .int (nI k), .int (nI (y + 1))] [] g (fun r g => r = some (.int (nI (q_sm (q_rows p (q_bg f 201) n) k (n + 1 - k)))) ∧ mv_fra [74] h g ∧ g[74]? = some (.inl (0, 201, .inl (fun j => nI (q_rows p (q_bg f 201) n j))))) := by
  intro fu
  induction fu with
  | zero => intro y g hm fr XD HX hy; exact absurd hm (by omega)
  | succ fu ih =>
    intro y g hm fr XD HX hy
    have hb := q_bg_le hf 201
    refine mv_iload dX12_luck_46 rfl ?_
    refine mv_iload_n dX12_luck_48 rfl ?_
    refine mv_icmp_gt (tgt := 65) dX12_luck_49 (by decide) (fun c49 => ?_) (fun c49 => ?_)
    · have c49 : n < y + 1 := (nI_ltI (by omega) (by omega)).mp c49
      have ey : y = n := (by omega)
      rw [ey] at XD
      refine mv_aload_n dX12_luck_65 rfl ?_
      refine mv_iload_n dX12_luck_66 rfl ?_
      refine mv_iload_n dX12_luck_67 rfl ?_
      refine mv_cV2 (ci := 12) dX12_luck_68 lk_X12_luck_357 HX rfl (Nat.le_of_ble_eq_true rfl) (Nat.le_of_ble_eq_true rfl) (k_X12_fromOn (ev := ev) HX XD (by omega) hn) ?_
      exact mv_iret dX12_luck_71 rfl rfl ⟨rfl, fr, XD⟩
    · have c49 : ¬ (n < y + 1) := fun z => c49 ((nI_ltI (by omega) (by omega)).mpr z)
      refine mv_aload_n dX12_luck_52 rfl ?_
      refine mv_iload dX12_luck_53 rfl ?_
      refine mv_iload_n dX12_luck_55 rfl ?_
      obtain ⟨h1, K2, f3, y4⟩ := (k_X12_oneMore (ev := ev) (xt := xt) (xf := xf) (xa := xa) (xo := xo) (xe := xe) (xu := xu) (xs := xs) (xg := xg) (xc := xc) (xw := xw) (b := b) (t := t) (f := q_rows p (q_bg f 201) y) (n := (y + 1)) (p := p) HX XD (q_rows_le hb hp y) (by omega) hp)
      refine mv_cV2 (ci := 12) dX12_luck_56 lk_X12_luck_353 HX rfl (Nat.le_of_ble_eq_true rfl) (Nat.le_of_ble_eq_true rfl) K2 ?_
      have HX := f3.get (by decide) HX
      have XD : h1[74]? = some (.inl (0, 201, .inl (fun j => nI (q_ao (q_rows p (q_bg f 201) y) p (y + 1) 0 j)))) := y4
      have fr := fr.trans f3 (by decide)
      refine mv_iinc (v := nI (y + 1 + 1)) dX12_luck_59 rfl (mv_inc (y + 1) 1) (by decide) ?_
      refine mv_goto (tgt := 46) dX12_luck_62 (by decide) ?_
      exact ih (y + 1) h1 (by omega) fr XD HX (by omega)
set_option maxRecDepth 100000 in
theorem k_X12_luck_G {ev : mv_E} {h : mv_H} {xt : Int32} {xf : Int32} {xa : Int32} {xo : Int64} {xe : Int32} {xu : Int32} {xs : Int32} {xg : Int32} {xc : Int32} {xw : Int32} {b : t_B} {t : Nat} {f : Nat → Nat} {n : Nat} {p : Nat} {k : Nat} (HX : h[52]? = some (.inr (12, [.ref 53, .ref 54, .int xt, .int xf, .int xa, .long xo, .int xe, .int xu, .ref 55, .int xs, .int (nI b.1), .ref 56, .ref 57, .ref 58, .int (nI t), .int (nI b.2.1), .ref 59, .ref 60, .ref 61, .ref 62, .int xg, .ref 63, .ref 64, .ref 65, .ref 66, .ref 67, .ref 68, .ref 69, .int xc, .ref 70, .ref 71, .ref 72, .ref 73, .ref 74, .ref 75, .int xw, .ref 76, .ref 77, .ref 78, .ref 79, .ref 80]))) (XD : h[74]? = some (.inl (0, 201, .inl (fun j => nI (f j))))) (hf : ∀ i, f i ≤ 1000000) (hn1 : 1 ≤ n) (hn : n ≤ 200) (hp : p ≤ 1000) (hk : k ≤ n) : ∃ h2, mv_K ev mX12_luck [.ref 52, .int (nI n), .int (nI p), .int (nI k)] h (some (.int (nI (q_sm (q_rows p (q_bg f 201) n) k (n + 1 - k))))) h2 ∧ mv_fra [74] h h2 ∧ h2[74]? = some (.inl (0, 201, .inl (fun j => nI (q_rows p (q_bg f 201) n j)))) := by
  suffices g0 : mv_g ev mX12_luck 0 (mv_ent [.ref 52, .int (nI n), .int (nI p), .int (nI k)] (mv_ml mX12_luck)) [] h (fun r g => r = some (.int (nI (q_sm (q_rows p (q_bg f 201) n) k (n + 1 - k)))) ∧ mv_fra [74] h g ∧ g[74]? = some (.inl (0, 201, .inl (fun j => nI (q_rows p (q_bg f 201) n j))))) from (by obtain ⟨r0, h0, K0, q0, Q0⟩ := mv_Kex g0; subst q0; exact ⟨h0, K0, Q0⟩)
  show mv_g ev mX12_luck 0 [.ref 52, .int (nI n), .int (nI p), .int (nI k), .null] [] h _
  have fr : mv_fra [74] h h := mv_fra.rf
  have hb := q_bg_le hf 201
  refine mv_iload_n dX12_luck_0 rfl ?_
  refine mv_i2l dX12_luck_1 ?_
  refine mv_topL (y := lN n) (nI_l (by omega)) ?_
  refine mv_lconst (v := lN 1) dX12_luck_2 rfl ?_
  refine mv_ldc2 (v := lN 200) dX12_luck_3 wd_1620 ?_
  refine mv_cS3 dX12_luck_6 lk_X12_luck_107 (Nat.le_of_ble_eq_true rfl) (Nat.le_of_ble_eq_true rfl) (k_X12_in (ev := ev)) ?_
  refine mv_if_eq (tgt := 35) dX12_luck_9 (by decide) (fun z => absurd z ((fun z => (mv_b_0 _).mp z ((and_congr (lN_leB (by omega) (by omega)) (lN_leB (by omega) (by omega))).mpr ⟨by omega, by omega⟩)))) (fun c9 => ?_)
  refine mv_iload_n dX12_luck_12 rfl ?_
  refine mv_i2l dX12_luck_13 ?_
  refine mv_topL (y := lN p) (nI_l (by omega)) ?_
  refine mv_lconst (v := lN 0) dX12_luck_14 rfl ?_
  refine mv_ldc2 (v := lN 1000) dX12_luck_15 wd_1621 ?_
  refine mv_cS3 dX12_luck_18 lk_X12_luck_107 (Nat.le_of_ble_eq_true rfl) (Nat.le_of_ble_eq_true rfl) (k_X12_in (ev := ev)) ?_
  refine mv_if_eq (tgt := 35) dX12_luck_21 (by decide) (fun z => absurd z ((fun z => (mv_b_0 _).mp z ((and_congr (lN_leB (by omega) (by omega)) (lN_leB (by omega) (by omega))).mpr ⟨by omega, by omega⟩)))) (fun c21 => ?_)
  refine mv_iload_n dX12_luck_24 rfl ?_
  refine mv_i2l dX12_luck_25 ?_
  refine mv_topL (y := lN k) (nI_l (by omega)) ?_
  refine mv_lconst (v := lN 0) dX12_luck_26 rfl ?_
  refine mv_iload_n dX12_luck_27 rfl ?_
  refine mv_i2l dX12_luck_28 ?_
  refine mv_topL (y := lN n) (nI_l (by omega)) ?_
  refine mv_cS3 dX12_luck_29 lk_X12_luck_107 (Nat.le_of_ble_eq_true rfl) (Nat.le_of_ble_eq_true rfl) (k_X12_in (ev := ev)) ?_
  refine mv_if_ne (tgt := 39) dX12_luck_32 (by decide) (fun c32 => ?_) (fun z => absurd z ((fun z => (mv_b_0 _).mp z ((and_congr (lN_leB (by omega) (by omega)) (lN_leB (by omega) (by omega))).mpr ⟨by omega, by omega⟩))))
  refine mv_aload_n dX12_luck_39 rfl ?_
  obtain ⟨h1, K2, f3, y4⟩ := (k_X12_beginDist (ev := ev) (xt := xt) (xf := xf) (xa := xa) (xo := xo) (xe := xe) (xu := xu) (xs := xs) (xg := xg) (xc := xc) (xw := xw) (b := b) (t := t) (f := f) HX XD)
  refine mv_cV0 (ci := 12) dX12_luck_40 lk_X12_luck_350 HX rfl (Nat.le_of_ble_eq_true rfl) (Nat.le_of_ble_eq_true rfl) K2 ?_
  have HX := f3.get (by decide) HX
  have XD : h1[74]? = some (.inl (0, 201, .inl (fun j => nI (q_bg f 201 j)))) := y4
  have fr := fr.trans f3 (by decide)
  refine mv_iconst (v := nI 1) dX12_luck_43 (by decide) ?_
  refine mv_topI (y := nI (0 + 1)) rfl ?_
  refine mv_istore dX12_luck_44 (by decide) ?_
  exact l_X12_luck hf hn1 hn hp hk (n + 1) 0 h1 (by omega) fr XD HX (Nat.zero_le _)
set_option maxRecDepth 100000 in
theorem k_X12_lake_R1 {ev : mv_E} {h : mv_H} {r1 : Int32} {t : Int32} {x : Int32} {y : Int32} {w : Int32}  (hno : ¬ ((nI 0 ≤ r1 ∧ r1 ≤ nI 1000) ∧ (nI 0 ≤ t ∧ t ≤ nI 1000) ∧ (nI 0 ≤ x ∧ x ≤ nI 1000000) ∧ (nI 0 ≤ y ∧ y ≤ nI 1000000) ∧ (nI 0 ≤ w ∧ w ≤ nI 1))) : mv_K ev mX12_lake [.ref 52, .int r1, .int t, .int x, .int y, .int w] h (some (.int (-1002))) h := by
  refine mv_Kof ?_
  show mv_g ev mX12_lake 0 [.ref 52, .int r1, .int t, .int x, .int y, .int w, .null, .null] [] h _
  refine mv_iload_n dX12_lake_0 rfl ?_
  refine mv_i2l dX12_lake_1 ?_
  refine mv_lconst (v := lN 0) dX12_lake_2 rfl ?_
  refine mv_ldc2 (v := lN 1000) dX12_lake_3 wd_1621 ?_
  refine mv_cS3 dX12_lake_6 lk_X12_lake_107 (Nat.le_of_ble_eq_true rfl) (Nat.le_of_ble_eq_true rfl) (k_X12_in (ev := ev)) ?_
  refine mv_if_eq (tgt := 60) dX12_lake_9 (by decide) (fun c9 => ?_) (fun c9 => ?_)
  · have c9 : ¬ (nI 0 ≤ r1 ∧ r1 ≤ nI 1000) := fun z => (mv_b_0 _).mp c9 ((and_congr (mv_lL (by decide)) (mv_lR (by decide))).mpr z)
    refine mv_sipush (v := (-1002)) dX12_lake_60 (by decide) ?_
    exact mv_iret dX12_lake_63 rfl rfl ⟨rfl, rfl⟩
  · have c9 : nI 0 ≤ r1 ∧ r1 ≤ nI 1000 := (and_congr (mv_lL (by decide)) (mv_lR (by decide))).mp (mv_b_ne c9)
    refine mv_iload_n dX12_lake_12 rfl ?_
    refine mv_i2l dX12_lake_13 ?_
    refine mv_lconst (v := lN 0) dX12_lake_14 rfl ?_
    refine mv_ldc2 (v := lN 1000) dX12_lake_15 wd_1621 ?_
    refine mv_cS3 dX12_lake_18 lk_X12_lake_107 (Nat.le_of_ble_eq_true rfl) (Nat.le_of_ble_eq_true rfl) (k_X12_in (ev := ev)) ?_
    refine mv_if_eq (tgt := 60) dX12_lake_21 (by decide) (fun c21 => ?_) (fun c21 => ?_)
    · have c21 : ¬ (nI 0 ≤ t ∧ t ≤ nI 1000) := fun z => (mv_b_0 _).mp c21 ((and_congr (mv_lL (by decide)) (mv_lR (by decide))).mpr z)
      refine mv_sipush (v := (-1002)) dX12_lake_60 (by decide) ?_
      exact mv_iret dX12_lake_63 rfl rfl ⟨rfl, rfl⟩
    · have c21 : nI 0 ≤ t ∧ t ≤ nI 1000 := (and_congr (mv_lL (by decide)) (mv_lR (by decide))).mp (mv_b_ne c21)
      refine mv_iload_n dX12_lake_24 rfl ?_
      refine mv_i2l dX12_lake_25 ?_
      refine mv_lconst (v := lN 0) dX12_lake_26 rfl ?_
      refine mv_ldc2 (v := lN 1000000) dX12_lake_27 wd_1484 ?_
      refine mv_cS3 dX12_lake_30 lk_X12_lake_107 (Nat.le_of_ble_eq_true rfl) (Nat.le_of_ble_eq_true rfl) (k_X12_in (ev := ev)) ?_
      refine mv_if_eq (tgt := 60) dX12_lake_33 (by decide) (fun c33 => ?_) (fun c33 => ?_)
      · have c33 : ¬ (nI 0 ≤ x ∧ x ≤ nI 1000000) := fun z => (mv_b_0 _).mp c33 ((and_congr (mv_lL (by decide)) (mv_lR (by decide))).mpr z)
        refine mv_sipush (v := (-1002)) dX12_lake_60 (by decide) ?_
        exact mv_iret dX12_lake_63 rfl rfl ⟨rfl, rfl⟩
      · have c33 : nI 0 ≤ x ∧ x ≤ nI 1000000 := (and_congr (mv_lL (by decide)) (mv_lR (by decide))).mp (mv_b_ne c33)
        refine mv_iload dX12_lake_36 rfl ?_
        refine mv_i2l dX12_lake_38 ?_
        refine mv_lconst (v := lN 0) dX12_lake_39 rfl ?_
        refine mv_ldc2 (v := lN 1000000) dX12_lake_40 wd_1484 ?_
        refine mv_cS3 dX12_lake_43 lk_X12_lake_107 (Nat.le_of_ble_eq_true rfl) (Nat.le_of_ble_eq_true rfl) (k_X12_in (ev := ev)) ?_
        refine mv_if_eq (tgt := 60) dX12_lake_46 (by decide) (fun c46 => ?_) (fun c46 => ?_)
        · have c46 : ¬ (nI 0 ≤ y ∧ y ≤ nI 1000000) := fun z => (mv_b_0 _).mp c46 ((and_congr (mv_lL (by decide)) (mv_lR (by decide))).mpr z)
          refine mv_sipush (v := (-1002)) dX12_lake_60 (by decide) ?_
          exact mv_iret dX12_lake_63 rfl rfl ⟨rfl, rfl⟩
        · have c46 : nI 0 ≤ y ∧ y ≤ nI 1000000 := (and_congr (mv_lL (by decide)) (mv_lR (by decide))).mp (mv_b_ne c46)
          refine mv_iload dX12_lake_49 rfl ?_
          refine mv_i2l dX12_lake_51 ?_
          refine mv_lconst (v := lN 0) dX12_lake_52 rfl ?_
          refine mv_lconst (v := lN 1) dX12_lake_53 rfl ?_
          refine mv_cS3 dX12_lake_54 lk_X12_lake_107 (Nat.le_of_ble_eq_true rfl) (Nat.le_of_ble_eq_true rfl) (k_X12_in (ev := ev)) ?_
          refine mv_if_ne (tgt := 64) dX12_lake_57 (by decide) (fun c57 => ?_) (fun c57 => ?_)
          · have c57 : nI 0 ≤ w ∧ w ≤ nI 1 := (and_congr (mv_lL (by decide)) (mv_lR (by decide))).mp (mv_b_ne c57)
            exact absurd (by refine ⟨?_, ?_, ?_, ?_, ?_⟩ <;> assumption) hno
          · have c57 : ¬ (nI 0 ≤ w ∧ w ≤ nI 1) := fun z => (mv_b_0 _).mp c57 ((and_congr (mv_lL (by decide)) (mv_lR (by decide))).mpr z)
            refine mv_sipush (v := (-1002)) dX12_lake_60 (by decide) ?_
            exact mv_iret dX12_lake_63 rfl rfl ⟨rfl, rfl⟩
set_option maxRecDepth 100000 in
theorem l_X12_lakeI0 {ev : mv_E} {h : mv_H} {xt : Int32} {xf : Int32} {xa : Int32} {xo : Int64} {xe : Int32} {xu : Int32} {xs : Int32} {xg : Int32} {xc : Int32} {xw : Int32} {b : t_B} {t : Nat} {f : Nat → Nat} {bc : Nat → Nat} {r1 : Nat} {t2 : Nat} {x : Nat} {y : Nat}  (hf : ∀ i, f i ≤ 1000000) (hr : r1 ≤ 1000) (ht : t2 ≤ 1000) (hx : x ≤ 1000000) (hy : y ≤ 1000000) : ∀ (fu : Nat) (m : Nat) (c : Nat), ∀ (g : mv_H), m + 2 < c + fu → mv_fra [74, 75] h g → g[74]? = some (.inl (0, 201, .inl (fun j => nI (q_rows t2 (q_bg (q_rows r1 (q_bg f 201) 60) 201) (m + 1) j)))) → g[75]? = some (.inl (0, 3721, .inl (fun j => nI ((q_fc r1 (q_bg f 201) bc 61 0) j)))) → g[52]? = some (.inr (12, [.ref 53, .ref 54, .int xt, .int xf, .int xa, .long xo, .int xe, .int xu, .ref 55, .int xs, .int (nI b.1), .ref 56, .ref 57, .ref 58, .int (nI t), .int (nI b.2.1), .ref 59, .ref 60, .ref 61, .ref 62, .int xg, .ref 63, .ref 64, .ref 65, .ref 66, .ref 67, .ref 68, .ref 69, .int xc, .ref 70, .ref 71, .ref 72, .ref 73, .ref 74, .ref 75, .int xw, .ref 76, .ref 77, .ref 78, .ref 79, .ref 80])) → (m < 60) → (q_yn (q_lP r1 t2 x y (q_bg f 201) (q_bg (q_rows r1 (q_bg f 201) 60) 201)) (60 - m) m = (q_yn (q_lP r1 t2 x y (q_bg f 201) (q_bg (q_rows r1 (q_bg f 201) 60) 201)) 60 0)) → (c ≤ m + 2) → (q_lo (q_rows r1 (q_bg f 201) (m + 1)) (q_rows t2 (q_bg (q_rows r1 (q_bg f 201) 60) 201) (m + 1)) (m + 1) x y (m + 1 + 1 - c) = q_lo (q_rows r1 (q_bg f 201) (m + 1)) (q_rows t2 (q_bg (q_rows r1 (q_bg f 201) 60) 201) (m + 1)) (m + 1) x y (m + 1 + 1)) → (∀ (gx : mv_H), mv_fra [74, 75] h gx → gx[74]? = some (.inl (0, 201, .inl (fun j => nI (q_rows t2 (q_bg (q_rows r1 (q_bg f 201) 60) 201) (m + 1) j)))) → gx[75]? = some (.inl (0, 3721, .inl (fun j => nI ((q_fc r1 (q_bg f 201) bc 61 0) j)))) → gx[52]? = some (.inr (12, [.ref 53, .ref 54, .int xt, .int xf, .int xa, .long xo, .int xe, .int xu, .ref 55, .int xs, .int (nI b.1), .ref 56, .ref 57, .ref 58, .int (nI t), .int (nI b.2.1), .ref 59, .ref 60, .ref 61, .ref 62, .int xg, .ref 63, .ref 64, .ref 65, .ref 66, .ref 67, .ref 68, .ref 69, .int xc, .ref 70, .ref 71, .ref 72, .ref 73, .ref 74, .ref 75, .int xw, .ref 76, .ref 77, .ref 78, .ref 79, .ref 80])) → ((q_lP r1 t2 x y (q_bg f 201) (q_bg (q_rows r1 (q_bg f 201) 60) 201)) (m + 1) = -1) → mv_g ev mX12_lake 149 [.ref 52, .int (nI r1), .int (nI t2), .int (nI x), .int (nI y), .int (nI 0), .int (nI (m + 1)), .null] [] gx (fun r g => r = some (.int (q_yr (q_lP r1 t2 x y (q_bg f 201) (q_bg (q_rows r1 (q_bg f 201) 60) 201)))) ∧ mv_fra [74, 75] h g ∧ g[74]? = some (.inl (0, 201, .inl (fun j => nI (q_rows t2 (q_bg (q_rows r1 (q_bg f 201) 60) 201) (q_yn (q_lP r1 t2 x y (q_bg f 201) (q_bg (q_rows r1 (q_bg f 201) 60) 201)) 60 0) j)))) ∧ g[75]? = some (.inl (0, 3721, .inl (fun j => nI ((q_fc r1 (q_bg f 201) bc 61 0) j)))))) → mv_g ev mX12_lake 93 [.ref 52, .int (nI r1), .int (nI t2), .int (nI x), .int (nI y), .int (nI 0), .int (nI (m + 1)), .int (nI c)] [] g (fun r g => r = some (.int (q_yr (q_lP r1 t2 x y (q_bg f 201) (q_bg (q_rows r1 (q_bg f 201) 60) 201)))) ∧ mv_fra [74, 75] h g ∧ g[74]? = some (.inl (0, 201, .inl (fun j => nI (q_rows t2 (q_bg (q_rows r1 (q_bg f 201) 60) 201) (q_yn (q_lP r1 t2 x y (q_bg f 201) (q_bg (q_rows r1 (q_bg f 201) 60) 201)) 60 0) j)))) ∧ g[75]? = some (.inl (0, 3721, .inl (fun j => nI ((q_fc r1 (q_bg f 201) bc 61 0) j))))) := by
  intro fu
  induction fu with
  | zero => intro m c g hm fr XD X75 HX hm hq hc hqi kx; exact absurd hm (by omega)
  | succ fu ih =>
    intro m c g hm fr XD X75 HX hm hq hc hqi kx
    have hb := q_bg_le hf 201
    have hb2 := q_bg_le (q_rows_le hb hr 60) 201
    have n1 := q_sm_le (q_rows_le hb hr (m + 1)) c (m + 1 + 1 - c)
    have n2 := q_sm_le (q_rows_le hb2 ht (m + 1)) c (m + 1 + 1 - c)
    refine mv_iload dX12_lake_93 rfl ?_
    refine mv_iload dX12_lake_95 rfl ?_
    refine mv_icmp_gt (tgt := 149) dX12_lake_97 (by decide) (fun c97 => ?_) (fun c97 => ?_)
    · have c97 : m + 1 < c := (nI_ltI (by omega) (by omega)).mp c97
      refine mv_sub (lv' := [.ref 52, .int (nI r1), .int (nI t2), .int (nI x), .int (nI y), .int (nI 0), .int (nI (m + 1)), .null]) ⟨Or.inr rfl, Or.inr rfl, Or.inr rfl, Or.inr rfl, Or.inr rfl, Or.inr rfl, Or.inr rfl, Or.inl rfl, trivial⟩ ?_
      exact kx g fr XD X75 HX (by show q_lo (q_rows r1 (q_bg f 201) (m + 1)) (q_rows t2 (q_bg (q_rows r1 (q_bg f 201) 60) 201) (m + 1)) (m + 1) x y (m + 1 + 1) = _; rw [← hqi, show m + 1 + 1 - c = 0 by omega]; rfl)
    · have c97 : ¬ (m + 1 < c) := fun z => c97 ((nI_ltI (by omega) (by omega)).mpr z)
      have elo : q_lo (q_rows r1 (q_bg f 201) (m + 1)) (q_rows t2 (q_bg (q_rows r1 (q_bg f 201) 60) 201) (m + 1)) (m + 1) x y (m + 1 + 1 - c) = if q_sm (q_rows r1 (q_bg f 201) (m + 1)) c (m + 1 + 1 - c) ≤ x ∧ y ≤ q_sm (q_rows t2 (q_bg (q_rows r1 (q_bg f 201) 60) 201) (m + 1)) c (m + 1 + 1 - c) then nI c else q_lo (q_rows r1 (q_bg f 201) (m + 1)) (q_rows t2 (q_bg (q_rows r1 (q_bg f 201) 60) 201) (m + 1)) (m + 1) x y (m + 1 + 1 - (c + 1)) := q_lo_s (u := c + 1) (by omega) (by omega)
      refine mv_aload_n dX12_lake_100 rfl ?_
      refine mv_getf (ci := 12) (f := 34) dX12_lake_101 HX rfl (by decide) wd_1233 rfl ?_
      refine mv_bipush (v := nI 61) dX12_lake_104 (by decide) ?_
      refine mv_iload dX12_lake_106 rfl ?_
      refine mv_imul dX12_lake_108 ?_
      refine mv_topI (y := nI (61 * (m + 1))) (pk_mul _ _) ?_
      refine mv_iload dX12_lake_109 rfl ?_
      refine mv_iadd dX12_lake_111 ?_
      refine mv_topI (y := nI ((61 * (m + 1)) + c)) (nI_add _ _) ?_
      refine mv_iaN (j := ((61 * (m + 1)) + c)) (x := nI (q_sm (q_rows r1 (q_bg f 201) (m + 1)) c (m + 1 + 1 - c))) dX12_lake_112 X75 rfl (by decide) (by omega) (congrArg nI (q_fc_g (p := r1) (f := (q_bg f 201)) (bc := bc) (show 1 ≤ m + 1 by omega) (by omega) (by omega))) ?_
      refine mv_iload_n dX12_lake_113 rfl ?_
      refine mv_icmp_gt (tgt := 143) dX12_lake_114 (by decide) (fun c114 => ?_) (fun c114 => ?_)
      · have c114 : x < q_sm (q_rows r1 (q_bg f 201) (m + 1)) c (m + 1 + 1 - c) := (nI_ltI (by omega) (by omega)).mp c114
        refine mv_iinc (v := nI (c + 1)) dX12_lake_143 rfl (mv_inc c 1) (by decide) ?_
        refine mv_goto (tgt := 93) dX12_lake_146 (by decide) ?_
        exact ih m (c + 1) g (by omega) fr XD X75 HX hm hq (by omega) (by rw [← hqi]; exact (elo.trans (if_neg (by omega))).symm) kx
      · have c114 : ¬ (x < q_sm (q_rows r1 (q_bg f 201) (m + 1)) c (m + 1 + 1 - c)) := fun z => c114 ((nI_ltI (by omega) (by omega)).mpr z)
        refine mv_aload_n dX12_lake_117 rfl ?_
        refine mv_iload dX12_lake_118 rfl ?_
        refine mv_iload dX12_lake_120 rfl ?_
        refine mv_cV2 (ci := 12) dX12_lake_122 lk_X12_lake_357 HX rfl (Nat.le_of_ble_eq_true rfl) (Nat.le_of_ble_eq_true rfl) (k_X12_fromOn (ev := ev) HX XD (by omega) (by omega)) ?_
        refine mv_topI (y := nI (q_sm (q_rows t2 (q_bg (q_rows r1 (q_bg f 201) 60) 201) (m + 1)) c (m + 1 + 1 - c))) rfl ?_
        refine mv_iload dX12_lake_125 rfl ?_
        refine mv_icmp_lt (tgt := 143) dX12_lake_127 (by decide) (fun c127 => ?_) (fun c127 => ?_)
        · have c127 : q_sm (q_rows t2 (q_bg (q_rows r1 (q_bg f 201) 60) 201) (m + 1)) c (m + 1 + 1 - c) < y := (nI_ltI (by omega) (by omega)).mp c127
          refine mv_iinc (v := nI (c + 1)) dX12_lake_143 rfl (mv_inc c 1) (by decide) ?_
          refine mv_goto (tgt := 93) dX12_lake_146 (by decide) ?_
          exact ih m (c + 1) g (by omega) fr XD X75 HX hm hq (by omega) (by rw [← hqi]; exact (elo.trans (if_neg (by omega))).symm) kx
        · have c127 : ¬ (q_sm (q_rows t2 (q_bg (q_rows r1 (q_bg f 201) 60) 201) (m + 1)) c (m + 1 + 1 - c) < y) := fun z => c127 ((nI_ltI (by omega) (by omega)).mpr z)
          refine mv_iload dX12_lake_130 rfl ?_
          refine mv_if_ne (tgt := 140) dX12_lake_132 (by decide) (fun z => absurd ((by decide)) z) (fun c132 => ?_)
          refine mv_iload dX12_lake_135 rfl ?_
          refine mv_goto (tgt := 142) dX12_lake_137 (by decide) ?_
          have eP : (q_lP r1 t2 x y (q_bg f 201) (q_bg (q_rows r1 (q_bg f 201) 60) 201)) (m + 1) = nI c := (by show q_lo (q_rows r1 (q_bg f 201) (m + 1)) (q_rows t2 (q_bg (q_rows r1 (q_bg f 201) 60) 201) (m + 1)) (m + 1) x y (m + 1 + 1) = _; rw [← hqi]; exact elo.trans (if_pos ⟨by omega, by omega⟩))
          have eN : (q_yn (q_lP r1 t2 x y (q_bg f 201) (q_bg (q_rows r1 (q_bg f 201) 60) 201)) 60 0) = m + 1 := (by rw [← hq]; exact q_yn_y (by omega) (by rw [eP]; exact nI_m1 (by omega)))
          have e9 : q_yr (q_lP r1 t2 x y (q_bg f 201) (q_bg (q_rows r1 (q_bg f 201) 60) 201)) = nI (m + 1) := (by unfold q_yr; rw [eN, eP]; exact if_neg (nI_m1 (by omega)))
          exact mv_iret dX12_lake_142 rfl rfl ⟨(by rw [e9]), fr, (by rw [eN]; exact XD), X75⟩
set_option maxRecDepth 100000 in
theorem l_X12_lake0 {ev : mv_E} {h : mv_H} {xt : Int32} {xf : Int32} {xa : Int32} {xo : Int64} {xe : Int32} {xu : Int32} {xs : Int32} {xg : Int32} {xc : Int32} {xw : Int32} {b : t_B} {t : Nat} {f : Nat → Nat} {bc : Nat → Nat} {r1 : Nat} {t2 : Nat} {x : Nat} {y : Nat}  (hf : ∀ i, f i ≤ 1000000) (hr : r1 ≤ 1000) (ht : t2 ≤ 1000) (hx : x ≤ 1000000) (hy : y ≤ 1000000) : ∀ (fu : Nat) (m : Nat), ∀ (g : mv_H), 60 < m + fu → mv_fra [74, 75] h g → g[74]? = some (.inl (0, 201, .inl (fun j => nI (q_rows t2 (q_bg (q_rows r1 (q_bg f 201) 60) 201) (m) j)))) → g[75]? = some (.inl (0, 3721, .inl (fun j => nI ((q_fc r1 (q_bg f 201) bc 61 0) j)))) → g[52]? = some (.inr (12, [.ref 53, .ref 54, .int xt, .int xf, .int xa, .long xo, .int xe, .int xu, .ref 55, .int xs, .int (nI b.1), .ref 56, .ref 57, .ref 58, .int (nI t), .int (nI b.2.1), .ref 59, .ref 60, .ref 61, .ref 62, .int xg, .ref 63, .ref 64, .ref 65, .ref 66, .ref 67, .ref 68, .ref 69, .int xc, .ref 70, .ref 71, .ref 72, .ref 73, .ref 74, .ref 75, .int xw, .ref 76, .ref 77, .ref 78, .ref 79, .ref 80])) → (m ≤ 60) → (q_yn (q_lP r1 t2 x y (q_bg f 201) (q_bg (q_rows r1 (q_bg f 201) 60) 201)) (60 - m) m = (q_yn (q_lP r1 t2 x y (q_bg f 201) (q_bg (q_rows r1 (q_bg f 201) 60) 201)) 60 0)) → (m = 0 ∨ (q_lP r1 t2 x y (q_bg f 201) (q_bg (q_rows r1 (q_bg f 201) 60) 201)) m = -1) → mv_g ev mX12_lake 76 [.ref 52, .int (nI r1), .int (nI t2), .int (nI x), .int (nI y), .int (nI 0), .int (nI (m + 1)), .null] [] g (fun r g => r = some (.int (q_yr (q_lP r1 t2 x y (q_bg f 201) (q_bg (q_rows r1 (q_bg f 201) 60) 201)))) ∧ mv_fra [74, 75] h g ∧ g[74]? = some (.inl (0, 201, .inl (fun j => nI (q_rows t2 (q_bg (q_rows r1 (q_bg f 201) 60) 201) (q_yn (q_lP r1 t2 x y (q_bg f 201) (q_bg (q_rows r1 (q_bg f 201) 60) 201)) 60 0) j)))) ∧ g[75]? = some (.inl (0, 3721, .inl (fun j => nI ((q_fc r1 (q_bg f 201) bc 61 0) j))))) := by
  intro fu
  induction fu with
  | zero => intro m g hm fr XD X75 HX hm hq hP; exact absurd hm (by omega)
  | succ fu ih =>
    intro m g hm fr XD X75 HX hm hq hP
    have hb := q_bg_le hf 201
    have hb2 := q_bg_le (q_rows_le hb hr 60) 201
    refine mv_iload dX12_lake_76 rfl ?_
    refine mv_bipush (v := nI 60) dX12_lake_78 (by decide) ?_
    refine mv_icmp_gt (tgt := 155) dX12_lake_80 (by decide) (fun c80 => ?_) (fun c80 => ?_)
    · have c80 : 60 < m + 1 := (nI_ltI (by omega) (by omega)).mp c80
      refine mv_iconst (v := (-1)) dX12_lake_155 (by decide) ?_
      have em : m = 60 := (by omega)
      subst em
      have eN : (q_yn (q_lP r1 t2 x y (q_bg f 201) (q_bg (q_rows r1 (q_bg f 201) 60) 201)) 60 0) = 60 := hq.symm
      have eP : (q_lP r1 t2 x y (q_bg f 201) (q_bg (q_rows r1 (q_bg f 201) 60) 201)) 60 = -1 := hP.resolve_left (by decide)
      have e9 : q_yr (q_lP r1 t2 x y (q_bg f 201) (q_bg (q_rows r1 (q_bg f 201) 60) 201)) = -1 := (by unfold q_yr; rw [eN, eP]; exact if_pos rfl)
      exact mv_iret dX12_lake_156 rfl rfl ⟨(by rw [e9]), fr, (by rw [eN]; exact XD), X75⟩
    · have c80 : ¬ (60 < m + 1) := fun z => c80 ((nI_ltI (by omega) (by omega)).mpr z)
      refine mv_aload_n dX12_lake_83 rfl ?_
      refine mv_iload dX12_lake_84 rfl ?_
      refine mv_iload_n dX12_lake_86 rfl ?_
      obtain ⟨h1, K2, f3, y4⟩ := (k_X12_oneMore (ev := ev) (xt := xt) (xf := xf) (xa := xa) (xo := xo) (xe := xe) (xu := xu) (xs := xs) (xg := xg) (xc := xc) (xw := xw) (b := b) (t := t) (f := q_rows t2 (q_bg (q_rows r1 (q_bg f 201) 60) 201) (m)) (n := (m + 1)) (p := t2) HX XD (q_rows_le hb2 ht m) (by omega) ht)
      refine mv_cV2 (ci := 12) dX12_lake_87 lk_X12_lake_353 HX rfl (Nat.le_of_ble_eq_true rfl) (Nat.le_of_ble_eq_true rfl) K2 ?_
      have HX := f3.get (by decide) HX
      have XD : h1[74]? = some (.inl (0, 201, .inl (fun j => nI (q_ao (q_rows t2 (q_bg (q_rows r1 (q_bg f 201) 60) 201) (m)) t2 (m + 1) 0 j)))) := y4
      have X75 := f3.get (by decide) X75
      have fr := fr.trans f3 (by decide)
      refine mv_iconst (v := nI 0) dX12_lake_90 (by decide) ?_
      refine mv_istore dX12_lake_91 (by decide) ?_
      refine l_X12_lakeI0 hf hr ht hx hy (m + 3) m 0 h1 (by omega) fr XD X75 HX (by omega) hq (Nat.zero_le _) rfl ?_
      intro gx5 fr XD X75 HX hPm
      refine mv_iinc (v := nI (m + 1 + 1)) dX12_lake_149 rfl (mv_inc (m + 1) 1) (by decide) ?_
      refine mv_goto (tgt := 76) dX12_lake_152 (by decide) ?_
      exact ih (m + 1) gx5 (by omega) fr XD X75 HX (by omega) (by rw [← hq, q_yn_n (f := 60 - m) (by omega) hPm, Nat.sub_sub]) (Or.inr hPm)
set_option maxRecDepth 100000 in
theorem k_X12_lake_G0 {ev : mv_E} {h : mv_H} {xt : Int32} {xf : Int32} {xa : Int32} {xo : Int64} {xe : Int32} {xu : Int32} {xs : Int32} {xg : Int32} {xc : Int32} {xw : Int32} {b : t_B} {t : Nat} {f : Nat → Nat} {bc : Nat → Nat} {r1 : Nat} {t2 : Nat} {x : Nat} {y : Nat} (HX : h[52]? = some (.inr (12, [.ref 53, .ref 54, .int xt, .int xf, .int xa, .long xo, .int xe, .int xu, .ref 55, .int xs, .int (nI b.1), .ref 56, .ref 57, .ref 58, .int (nI t), .int (nI b.2.1), .ref 59, .ref 60, .ref 61, .ref 62, .int xg, .ref 63, .ref 64, .ref 65, .ref 66, .ref 67, .ref 68, .ref 69, .int xc, .ref 70, .ref 71, .ref 72, .ref 73, .ref 74, .ref 75, .int xw, .ref 76, .ref 77, .ref 78, .ref 79, .ref 80]))) (XD : h[74]? = some (.inl (0, 201, .inl (fun j => nI (f j))))) (X75 : h[75]? = some (.inl (0, 3721, .inl (fun j => nI (bc j))))) (hf : ∀ i, f i ≤ 1000000) (hr : r1 ≤ 1000) (ht : t2 ≤ 1000) (hx : x ≤ 1000000) (hy : y ≤ 1000000) : ∃ h2, mv_K ev mX12_lake [.ref 52, .int (nI r1), .int (nI t2), .int (nI x), .int (nI y), .int (nI 0)] h (some (.int (q_yr (q_lP r1 t2 x y (q_bg f 201) (q_bg (q_rows r1 (q_bg f 201) 60) 201))))) h2 ∧ mv_fra [74, 75] h h2 ∧ h2[74]? = some (.inl (0, 201, .inl (fun j => nI (q_rows t2 (q_bg (q_rows r1 (q_bg f 201) 60) 201) (q_yn (q_lP r1 t2 x y (q_bg f 201) (q_bg (q_rows r1 (q_bg f 201) 60) 201)) 60 0) j)))) ∧ h2[75]? = some (.inl (0, 3721, .inl (fun j => nI ((q_fc r1 (q_bg f 201) bc 61 0) j)))) := by
  suffices g0 : mv_g ev mX12_lake 0 (mv_ent [.ref 52, .int (nI r1), .int (nI t2), .int (nI x), .int (nI y), .int (nI 0)] (mv_ml mX12_lake)) [] h (fun r g => r = some (.int (q_yr (q_lP r1 t2 x y (q_bg f 201) (q_bg (q_rows r1 (q_bg f 201) 60) 201)))) ∧ mv_fra [74, 75] h g ∧ g[74]? = some (.inl (0, 201, .inl (fun j => nI (q_rows t2 (q_bg (q_rows r1 (q_bg f 201) 60) 201) (q_yn (q_lP r1 t2 x y (q_bg f 201) (q_bg (q_rows r1 (q_bg f 201) 60) 201)) 60 0) j)))) ∧ g[75]? = some (.inl (0, 3721, .inl (fun j => nI ((q_fc r1 (q_bg f 201) bc 61 0) j))))) from (by obtain ⟨r0, h0, K0, q0, Q0⟩ := mv_Kex g0; subst q0; exact ⟨h0, K0, Q0⟩)
  show mv_g ev mX12_lake 0 [.ref 52, .int (nI r1), .int (nI t2), .int (nI x), .int (nI y), .int (nI 0), .null, .null] [] h _
  have fr : mv_fra [74, 75] h h := mv_fra.rf
  have hb := q_bg_le hf 201
  have hb2 := q_bg_le (q_rows_le hb hr 60) 201
  refine mv_iload_n dX12_lake_0 rfl ?_
  refine mv_i2l dX12_lake_1 ?_
  refine mv_topL (y := lN r1) (nI_l (by omega)) ?_
  refine mv_lconst (v := lN 0) dX12_lake_2 rfl ?_
  refine mv_ldc2 (v := lN 1000) dX12_lake_3 wd_1621 ?_
  refine mv_cS3 dX12_lake_6 lk_X12_lake_107 (Nat.le_of_ble_eq_true rfl) (Nat.le_of_ble_eq_true rfl) (k_X12_in (ev := ev)) ?_
  refine mv_if_eq (tgt := 60) dX12_lake_9 (by decide) (fun z => absurd z ((fun z => (mv_b_0 _).mp z ((and_congr (lN_leB (by omega) (by omega)) (lN_leB (by omega) (by omega))).mpr ⟨by omega, by omega⟩)))) (fun c9 => ?_)
  refine mv_iload_n dX12_lake_12 rfl ?_
  refine mv_i2l dX12_lake_13 ?_
  refine mv_topL (y := lN t2) (nI_l (by omega)) ?_
  refine mv_lconst (v := lN 0) dX12_lake_14 rfl ?_
  refine mv_ldc2 (v := lN 1000) dX12_lake_15 wd_1621 ?_
  refine mv_cS3 dX12_lake_18 lk_X12_lake_107 (Nat.le_of_ble_eq_true rfl) (Nat.le_of_ble_eq_true rfl) (k_X12_in (ev := ev)) ?_
  refine mv_if_eq (tgt := 60) dX12_lake_21 (by decide) (fun z => absurd z ((fun z => (mv_b_0 _).mp z ((and_congr (lN_leB (by omega) (by omega)) (lN_leB (by omega) (by omega))).mpr ⟨by omega, by omega⟩)))) (fun c21 => ?_)
  refine mv_iload_n dX12_lake_24 rfl ?_
  refine mv_i2l dX12_lake_25 ?_
  refine mv_topL (y := lN x) (nI_l (by omega)) ?_
  refine mv_lconst (v := lN 0) dX12_lake_26 rfl ?_
  refine mv_ldc2 (v := lN 1000000) dX12_lake_27 wd_1484 ?_
  refine mv_cS3 dX12_lake_30 lk_X12_lake_107 (Nat.le_of_ble_eq_true rfl) (Nat.le_of_ble_eq_true rfl) (k_X12_in (ev := ev)) ?_
  refine mv_if_eq (tgt := 60) dX12_lake_33 (by decide) (fun z => absurd z ((fun z => (mv_b_0 _).mp z ((and_congr (lN_leB (by omega) (by omega)) (lN_leB (by omega) (by omega))).mpr ⟨by omega, by omega⟩)))) (fun c33 => ?_)
  refine mv_iload dX12_lake_36 rfl ?_
  refine mv_i2l dX12_lake_38 ?_
  refine mv_topL (y := lN y) (nI_l (by omega)) ?_
  refine mv_lconst (v := lN 0) dX12_lake_39 rfl ?_
  refine mv_ldc2 (v := lN 1000000) dX12_lake_40 wd_1484 ?_
  refine mv_cS3 dX12_lake_43 lk_X12_lake_107 (Nat.le_of_ble_eq_true rfl) (Nat.le_of_ble_eq_true rfl) (k_X12_in (ev := ev)) ?_
  refine mv_if_eq (tgt := 60) dX12_lake_46 (by decide) (fun z => absurd z ((fun z => (mv_b_0 _).mp z ((and_congr (lN_leB (by omega) (by omega)) (lN_leB (by omega) (by omega))).mpr ⟨by omega, by omega⟩)))) (fun c46 => ?_)
  refine mv_iload dX12_lake_49 rfl ?_
  refine mv_i2l dX12_lake_51 ?_
  refine mv_topL (y := lN 0) (nI_l (by omega)) ?_
  refine mv_lconst (v := lN 0) dX12_lake_52 rfl ?_
  refine mv_lconst (v := lN 1) dX12_lake_53 rfl ?_
  refine mv_cS3 dX12_lake_54 lk_X12_lake_107 (Nat.le_of_ble_eq_true rfl) (Nat.le_of_ble_eq_true rfl) (k_X12_in (ev := ev)) ?_
  refine mv_if_ne (tgt := 64) dX12_lake_57 (by decide) (fun c57 => ?_) (fun z => absurd z ((fun z => (mv_b_0 _).mp z ((and_congr (lN_leB (by omega) (by omega)) (lN_leB (by omega) (by omega))).mpr ⟨by omega, by omega⟩))))
  refine mv_aload_n dX12_lake_64 rfl ?_
  refine mv_iload_n dX12_lake_65 rfl ?_
  obtain ⟨h1, K2, f3, y4, y5⟩ := (k_X12_fillChance (ev := ev) (xt := xt) (xf := xf) (xa := xa) (xo := xo) (xe := xe) (xu := xu) (xs := xs) (xg := xg) (xc := xc) (xw := xw) (b := b) (t := t) (f := f) (bc := bc) (p := r1) HX XD X75 hf hr)
  refine mv_cV1 (ci := 12) dX12_lake_66 lk_X12_lake_360 HX rfl (Nat.le_of_ble_eq_true rfl) (Nat.le_of_ble_eq_true rfl) K2 ?_
  have HX := f3.get (by decide) HX
  have XD : h1[74]? = some (.inl (0, 201, .inl (fun j => nI (q_rows r1 (q_bg f 201) (60) j)))) := y4
  have X75 : h1[75]? = some (.inl (0, 3721, .inl (fun j => nI (q_fc r1 (q_bg f 201) bc (61) (0) j)))) := y5
  have fr := fr.trans f3 (by decide)
  refine mv_aload_n dX12_lake_69 rfl ?_
  obtain ⟨h6, K7, f8, y9⟩ := (k_X12_beginDist (ev := ev) (xt := xt) (xf := xf) (xa := xa) (xo := xo) (xe := xe) (xu := xu) (xs := xs) (xg := xg) (xc := xc) (xw := xw) (b := b) (t := t) (f := q_rows r1 (q_bg f 201) (60)) HX XD)
  refine mv_cV0 (ci := 12) dX12_lake_70 lk_X12_lake_350 HX rfl (Nat.le_of_ble_eq_true rfl) (Nat.le_of_ble_eq_true rfl) K7 ?_
  have HX := f8.get (by decide) HX
  have XD : h6[74]? = some (.inl (0, 201, .inl (fun j => nI (q_bg (q_rows r1 (q_bg f 201) (60)) 201 j)))) := y9
  have X75 := f8.get (by decide) X75
  have fr := fr.trans f8 (by decide)
  refine mv_iconst (v := nI 1) dX12_lake_73 (by decide) ?_
  refine mv_topI (y := nI (0 + 1)) rfl ?_
  refine mv_istore dX12_lake_74 (by decide) ?_
  exact l_X12_lake0 hf hr ht hx hy (60 + 1) 0 h6 (by omega) fr XD X75 HX (Nat.zero_le _) rfl (Or.inl rfl)
set_option maxRecDepth 100000 in
theorem l_X12_lakeI1 {ev : mv_E} {h : mv_H} {xt : Int32} {xf : Int32} {xa : Int32} {xo : Int64} {xe : Int32} {xu : Int32} {xs : Int32} {xg : Int32} {xc : Int32} {xw : Int32} {b : t_B} {t : Nat} {f : Nat → Nat} {bc : Nat → Nat} {r1 : Nat} {t2 : Nat} {x : Nat} {y : Nat}  (hf : ∀ i, f i ≤ 1000000) (hr : r1 ≤ 1000) (ht : t2 ≤ 1000) (hx : x ≤ 1000000) (hy : y ≤ 1000000) : ∀ (fu : Nat) (m : Nat) (c : Nat), ∀ (g : mv_H), m + 2 < c + fu → mv_fra [74, 75] h g → g[74]? = some (.inl (0, 201, .inl (fun j => nI (q_rows t2 (q_bg (q_rows r1 (q_bg f 201) 60) 201) (m + 1) j)))) → g[75]? = some (.inl (0, 3721, .inl (fun j => nI ((q_fc r1 (q_bg f 201) bc 61 0) j)))) → g[52]? = some (.inr (12, [.ref 53, .ref 54, .int xt, .int xf, .int xa, .long xo, .int xe, .int xu, .ref 55, .int xs, .int (nI b.1), .ref 56, .ref 57, .ref 58, .int (nI t), .int (nI b.2.1), .ref 59, .ref 60, .ref 61, .ref 62, .int xg, .ref 63, .ref 64, .ref 65, .ref 66, .ref 67, .ref 68, .ref 69, .int xc, .ref 70, .ref 71, .ref 72, .ref 73, .ref 74, .ref 75, .int xw, .ref 76, .ref 77, .ref 78, .ref 79, .ref 80])) → (m < 60) → (q_yn (q_lP r1 t2 x y (q_bg f 201) (q_bg (q_rows r1 (q_bg f 201) 60) 201)) (60 - m) m = (q_yn (q_lP r1 t2 x y (q_bg f 201) (q_bg (q_rows r1 (q_bg f 201) 60) 201)) 60 0)) → (c ≤ m + 2) → (q_lo (q_rows r1 (q_bg f 201) (m + 1)) (q_rows t2 (q_bg (q_rows r1 (q_bg f 201) 60) 201) (m + 1)) (m + 1) x y (m + 1 + 1 - c) = q_lo (q_rows r1 (q_bg f 201) (m + 1)) (q_rows t2 (q_bg (q_rows r1 (q_bg f 201) 60) 201) (m + 1)) (m + 1) x y (m + 1 + 1)) → (∀ (gx : mv_H), mv_fra [74, 75] h gx → gx[74]? = some (.inl (0, 201, .inl (fun j => nI (q_rows t2 (q_bg (q_rows r1 (q_bg f 201) 60) 201) (m + 1) j)))) → gx[75]? = some (.inl (0, 3721, .inl (fun j => nI ((q_fc r1 (q_bg f 201) bc 61 0) j)))) → gx[52]? = some (.inr (12, [.ref 53, .ref 54, .int xt, .int xf, .int xa, .long xo, .int xe, .int xu, .ref 55, .int xs, .int (nI b.1), .ref 56, .ref 57, .ref 58, .int (nI t), .int (nI b.2.1), .ref 59, .ref 60, .ref 61, .ref 62, .int xg, .ref 63, .ref 64, .ref 65, .ref 66, .ref 67, .ref 68, .ref 69, .int xc, .ref 70, .ref 71, .ref 72, .ref 73, .ref 74, .ref 75, .int xw, .ref 76, .ref 77, .ref 78, .ref 79, .ref 80])) → ((q_lP r1 t2 x y (q_bg f 201) (q_bg (q_rows r1 (q_bg f 201) 60) 201)) (m + 1) = -1) → mv_g ev mX12_lake 149 [.ref 52, .int (nI r1), .int (nI t2), .int (nI x), .int (nI y), .int (nI 1), .int (nI (m + 1)), .null] [] gx (fun r g => r = some (.int ((q_lP r1 t2 x y (q_bg f 201) (q_bg (q_rows r1 (q_bg f 201) 60) 201)) (q_yn (q_lP r1 t2 x y (q_bg f 201) (q_bg (q_rows r1 (q_bg f 201) 60) 201)) 60 0))) ∧ mv_fra [74, 75] h g ∧ g[74]? = some (.inl (0, 201, .inl (fun j => nI (q_rows t2 (q_bg (q_rows r1 (q_bg f 201) 60) 201) (q_yn (q_lP r1 t2 x y (q_bg f 201) (q_bg (q_rows r1 (q_bg f 201) 60) 201)) 60 0) j)))) ∧ g[75]? = some (.inl (0, 3721, .inl (fun j => nI ((q_fc r1 (q_bg f 201) bc 61 0) j)))))) → mv_g ev mX12_lake 93 [.ref 52, .int (nI r1), .int (nI t2), .int (nI x), .int (nI y), .int (nI 1), .int (nI (m + 1)), .int (nI c)] [] g (fun r g => r = some (.int ((q_lP r1 t2 x y (q_bg f 201) (q_bg (q_rows r1 (q_bg f 201) 60) 201)) (q_yn (q_lP r1 t2 x y (q_bg f 201) (q_bg (q_rows r1 (q_bg f 201) 60) 201)) 60 0))) ∧ mv_fra [74, 75] h g ∧ g[74]? = some (.inl (0, 201, .inl (fun j => nI (q_rows t2 (q_bg (q_rows r1 (q_bg f 201) 60) 201) (q_yn (q_lP r1 t2 x y (q_bg f 201) (q_bg (q_rows r1 (q_bg f 201) 60) 201)) 60 0) j)))) ∧ g[75]? = some (.inl (0, 3721, .inl (fun j => nI ((q_fc r1 (q_bg f 201) bc 61 0) j))))) := by
  intro fu
  induction fu with
  | zero => intro m c g hm fr XD X75 HX hm hq hc hqi kx; exact absurd hm (by omega)
  | succ fu ih =>
    intro m c g hm fr XD X75 HX hm hq hc hqi kx
    have hb := q_bg_le hf 201
    have hb2 := q_bg_le (q_rows_le hb hr 60) 201
    have n1 := q_sm_le (q_rows_le hb hr (m + 1)) c (m + 1 + 1 - c)
    have n2 := q_sm_le (q_rows_le hb2 ht (m + 1)) c (m + 1 + 1 - c)
    refine mv_iload dX12_lake_93 rfl ?_
    refine mv_iload dX12_lake_95 rfl ?_
    refine mv_icmp_gt (tgt := 149) dX12_lake_97 (by decide) (fun c97 => ?_) (fun c97 => ?_)
    · have c97 : m + 1 < c := (nI_ltI (by omega) (by omega)).mp c97
      refine mv_sub (lv' := [.ref 52, .int (nI r1), .int (nI t2), .int (nI x), .int (nI y), .int (nI 1), .int (nI (m + 1)), .null]) ⟨Or.inr rfl, Or.inr rfl, Or.inr rfl, Or.inr rfl, Or.inr rfl, Or.inr rfl, Or.inr rfl, Or.inl rfl, trivial⟩ ?_
      exact kx g fr XD X75 HX (by show q_lo (q_rows r1 (q_bg f 201) (m + 1)) (q_rows t2 (q_bg (q_rows r1 (q_bg f 201) 60) 201) (m + 1)) (m + 1) x y (m + 1 + 1) = _; rw [← hqi, show m + 1 + 1 - c = 0 by omega]; rfl)
    · have c97 : ¬ (m + 1 < c) := fun z => c97 ((nI_ltI (by omega) (by omega)).mpr z)
      have elo : q_lo (q_rows r1 (q_bg f 201) (m + 1)) (q_rows t2 (q_bg (q_rows r1 (q_bg f 201) 60) 201) (m + 1)) (m + 1) x y (m + 1 + 1 - c) = if q_sm (q_rows r1 (q_bg f 201) (m + 1)) c (m + 1 + 1 - c) ≤ x ∧ y ≤ q_sm (q_rows t2 (q_bg (q_rows r1 (q_bg f 201) 60) 201) (m + 1)) c (m + 1 + 1 - c) then nI c else q_lo (q_rows r1 (q_bg f 201) (m + 1)) (q_rows t2 (q_bg (q_rows r1 (q_bg f 201) 60) 201) (m + 1)) (m + 1) x y (m + 1 + 1 - (c + 1)) := q_lo_s (u := c + 1) (by omega) (by omega)
      refine mv_aload_n dX12_lake_100 rfl ?_
      refine mv_getf (ci := 12) (f := 34) dX12_lake_101 HX rfl (by decide) wd_1233 rfl ?_
      refine mv_bipush (v := nI 61) dX12_lake_104 (by decide) ?_
      refine mv_iload dX12_lake_106 rfl ?_
      refine mv_imul dX12_lake_108 ?_
      refine mv_topI (y := nI (61 * (m + 1))) (pk_mul _ _) ?_
      refine mv_iload dX12_lake_109 rfl ?_
      refine mv_iadd dX12_lake_111 ?_
      refine mv_topI (y := nI ((61 * (m + 1)) + c)) (nI_add _ _) ?_
      refine mv_iaN (j := ((61 * (m + 1)) + c)) (x := nI (q_sm (q_rows r1 (q_bg f 201) (m + 1)) c (m + 1 + 1 - c))) dX12_lake_112 X75 rfl (by decide) (by omega) (congrArg nI (q_fc_g (p := r1) (f := (q_bg f 201)) (bc := bc) (show 1 ≤ m + 1 by omega) (by omega) (by omega))) ?_
      refine mv_iload_n dX12_lake_113 rfl ?_
      refine mv_icmp_gt (tgt := 143) dX12_lake_114 (by decide) (fun c114 => ?_) (fun c114 => ?_)
      · have c114 : x < q_sm (q_rows r1 (q_bg f 201) (m + 1)) c (m + 1 + 1 - c) := (nI_ltI (by omega) (by omega)).mp c114
        refine mv_iinc (v := nI (c + 1)) dX12_lake_143 rfl (mv_inc c 1) (by decide) ?_
        refine mv_goto (tgt := 93) dX12_lake_146 (by decide) ?_
        exact ih m (c + 1) g (by omega) fr XD X75 HX hm hq (by omega) (by rw [← hqi]; exact (elo.trans (if_neg (by omega))).symm) kx
      · have c114 : ¬ (x < q_sm (q_rows r1 (q_bg f 201) (m + 1)) c (m + 1 + 1 - c)) := fun z => c114 ((nI_ltI (by omega) (by omega)).mpr z)
        refine mv_aload_n dX12_lake_117 rfl ?_
        refine mv_iload dX12_lake_118 rfl ?_
        refine mv_iload dX12_lake_120 rfl ?_
        refine mv_cV2 (ci := 12) dX12_lake_122 lk_X12_lake_357 HX rfl (Nat.le_of_ble_eq_true rfl) (Nat.le_of_ble_eq_true rfl) (k_X12_fromOn (ev := ev) HX XD (by omega) (by omega)) ?_
        refine mv_topI (y := nI (q_sm (q_rows t2 (q_bg (q_rows r1 (q_bg f 201) 60) 201) (m + 1)) c (m + 1 + 1 - c))) rfl ?_
        refine mv_iload dX12_lake_125 rfl ?_
        refine mv_icmp_lt (tgt := 143) dX12_lake_127 (by decide) (fun c127 => ?_) (fun c127 => ?_)
        · have c127 : q_sm (q_rows t2 (q_bg (q_rows r1 (q_bg f 201) 60) 201) (m + 1)) c (m + 1 + 1 - c) < y := (nI_ltI (by omega) (by omega)).mp c127
          refine mv_iinc (v := nI (c + 1)) dX12_lake_143 rfl (mv_inc c 1) (by decide) ?_
          refine mv_goto (tgt := 93) dX12_lake_146 (by decide) ?_
          exact ih m (c + 1) g (by omega) fr XD X75 HX hm hq (by omega) (by rw [← hqi]; exact (elo.trans (if_neg (by omega))).symm) kx
        · have c127 : ¬ (q_sm (q_rows t2 (q_bg (q_rows r1 (q_bg f 201) 60) 201) (m + 1)) c (m + 1 + 1 - c) < y) := fun z => c127 ((nI_ltI (by omega) (by omega)).mpr z)
          refine mv_iload dX12_lake_130 rfl ?_
          refine mv_if_ne (tgt := 140) dX12_lake_132 (by decide) (fun c132 => ?_) (fun z => absurd z ((by decide)))
          refine mv_iload dX12_lake_140 rfl ?_
          have eP : (q_lP r1 t2 x y (q_bg f 201) (q_bg (q_rows r1 (q_bg f 201) 60) 201)) (m + 1) = nI c := (by show q_lo (q_rows r1 (q_bg f 201) (m + 1)) (q_rows t2 (q_bg (q_rows r1 (q_bg f 201) 60) 201) (m + 1)) (m + 1) x y (m + 1 + 1) = _; rw [← hqi]; exact elo.trans (if_pos ⟨by omega, by omega⟩))
          have eN : (q_yn (q_lP r1 t2 x y (q_bg f 201) (q_bg (q_rows r1 (q_bg f 201) 60) 201)) 60 0) = m + 1 := (by rw [← hq]; exact q_yn_y (by omega) (by rw [eP]; exact nI_m1 (by omega)))
          have e9 : (q_lP r1 t2 x y (q_bg f 201) (q_bg (q_rows r1 (q_bg f 201) 60) 201)) (q_yn (q_lP r1 t2 x y (q_bg f 201) (q_bg (q_rows r1 (q_bg f 201) 60) 201)) 60 0) = nI c := (by rw [eN, eP])
          exact mv_iret dX12_lake_142 rfl rfl ⟨(by rw [e9]), fr, (by rw [eN]; exact XD), X75⟩
set_option maxRecDepth 100000 in
theorem l_X12_lake1 {ev : mv_E} {h : mv_H} {xt : Int32} {xf : Int32} {xa : Int32} {xo : Int64} {xe : Int32} {xu : Int32} {xs : Int32} {xg : Int32} {xc : Int32} {xw : Int32} {b : t_B} {t : Nat} {f : Nat → Nat} {bc : Nat → Nat} {r1 : Nat} {t2 : Nat} {x : Nat} {y : Nat}  (hf : ∀ i, f i ≤ 1000000) (hr : r1 ≤ 1000) (ht : t2 ≤ 1000) (hx : x ≤ 1000000) (hy : y ≤ 1000000) : ∀ (fu : Nat) (m : Nat), ∀ (g : mv_H), 60 < m + fu → mv_fra [74, 75] h g → g[74]? = some (.inl (0, 201, .inl (fun j => nI (q_rows t2 (q_bg (q_rows r1 (q_bg f 201) 60) 201) (m) j)))) → g[75]? = some (.inl (0, 3721, .inl (fun j => nI ((q_fc r1 (q_bg f 201) bc 61 0) j)))) → g[52]? = some (.inr (12, [.ref 53, .ref 54, .int xt, .int xf, .int xa, .long xo, .int xe, .int xu, .ref 55, .int xs, .int (nI b.1), .ref 56, .ref 57, .ref 58, .int (nI t), .int (nI b.2.1), .ref 59, .ref 60, .ref 61, .ref 62, .int xg, .ref 63, .ref 64, .ref 65, .ref 66, .ref 67, .ref 68, .ref 69, .int xc, .ref 70, .ref 71, .ref 72, .ref 73, .ref 74, .ref 75, .int xw, .ref 76, .ref 77, .ref 78, .ref 79, .ref 80])) → (m ≤ 60) → (q_yn (q_lP r1 t2 x y (q_bg f 201) (q_bg (q_rows r1 (q_bg f 201) 60) 201)) (60 - m) m = (q_yn (q_lP r1 t2 x y (q_bg f 201) (q_bg (q_rows r1 (q_bg f 201) 60) 201)) 60 0)) → (m = 0 ∨ (q_lP r1 t2 x y (q_bg f 201) (q_bg (q_rows r1 (q_bg f 201) 60) 201)) m = -1) → mv_g ev mX12_lake 76 [.ref 52, .int (nI r1), .int (nI t2), .int (nI x), .int (nI y), .int (nI 1), .int (nI (m + 1)), .null] [] g (fun r g => r = some (.int ((q_lP r1 t2 x y (q_bg f 201) (q_bg (q_rows r1 (q_bg f 201) 60) 201)) (q_yn (q_lP r1 t2 x y (q_bg f 201) (q_bg (q_rows r1 (q_bg f 201) 60) 201)) 60 0))) ∧ mv_fra [74, 75] h g ∧ g[74]? = some (.inl (0, 201, .inl (fun j => nI (q_rows t2 (q_bg (q_rows r1 (q_bg f 201) 60) 201) (q_yn (q_lP r1 t2 x y (q_bg f 201) (q_bg (q_rows r1 (q_bg f 201) 60) 201)) 60 0) j)))) ∧ g[75]? = some (.inl (0, 3721, .inl (fun j => nI ((q_fc r1 (q_bg f 201) bc 61 0) j))))) := by
  intro fu
  induction fu with
  | zero => intro m g hm fr XD X75 HX hm hq hP; exact absurd hm (by omega)
  | succ fu ih =>
    intro m g hm fr XD X75 HX hm hq hP
    have hb := q_bg_le hf 201
    have hb2 := q_bg_le (q_rows_le hb hr 60) 201
    refine mv_iload dX12_lake_76 rfl ?_
    refine mv_bipush (v := nI 60) dX12_lake_78 (by decide) ?_
    refine mv_icmp_gt (tgt := 155) dX12_lake_80 (by decide) (fun c80 => ?_) (fun c80 => ?_)
    · have c80 : 60 < m + 1 := (nI_ltI (by omega) (by omega)).mp c80
      refine mv_iconst (v := (-1)) dX12_lake_155 (by decide) ?_
      have em : m = 60 := (by omega)
      subst em
      have eN : (q_yn (q_lP r1 t2 x y (q_bg f 201) (q_bg (q_rows r1 (q_bg f 201) 60) 201)) 60 0) = 60 := hq.symm
      have eP : (q_lP r1 t2 x y (q_bg f 201) (q_bg (q_rows r1 (q_bg f 201) 60) 201)) 60 = -1 := hP.resolve_left (by decide)
      have e9 : (q_lP r1 t2 x y (q_bg f 201) (q_bg (q_rows r1 (q_bg f 201) 60) 201)) (q_yn (q_lP r1 t2 x y (q_bg f 201) (q_bg (q_rows r1 (q_bg f 201) 60) 201)) 60 0) = -1 := (by rw [eN, eP])
      exact mv_iret dX12_lake_156 rfl rfl ⟨(by rw [e9]), fr, (by rw [eN]; exact XD), X75⟩
    · have c80 : ¬ (60 < m + 1) := fun z => c80 ((nI_ltI (by omega) (by omega)).mpr z)
      refine mv_aload_n dX12_lake_83 rfl ?_
      refine mv_iload dX12_lake_84 rfl ?_
      refine mv_iload_n dX12_lake_86 rfl ?_
      obtain ⟨h1, K2, f3, y4⟩ := (k_X12_oneMore (ev := ev) (xt := xt) (xf := xf) (xa := xa) (xo := xo) (xe := xe) (xu := xu) (xs := xs) (xg := xg) (xc := xc) (xw := xw) (b := b) (t := t) (f := q_rows t2 (q_bg (q_rows r1 (q_bg f 201) 60) 201) (m)) (n := (m + 1)) (p := t2) HX XD (q_rows_le hb2 ht m) (by omega) ht)
      refine mv_cV2 (ci := 12) dX12_lake_87 lk_X12_lake_353 HX rfl (Nat.le_of_ble_eq_true rfl) (Nat.le_of_ble_eq_true rfl) K2 ?_
      have HX := f3.get (by decide) HX
      have XD : h1[74]? = some (.inl (0, 201, .inl (fun j => nI (q_ao (q_rows t2 (q_bg (q_rows r1 (q_bg f 201) 60) 201) (m)) t2 (m + 1) 0 j)))) := y4
      have X75 := f3.get (by decide) X75
      have fr := fr.trans f3 (by decide)
      refine mv_iconst (v := nI 0) dX12_lake_90 (by decide) ?_
      refine mv_istore dX12_lake_91 (by decide) ?_
      refine l_X12_lakeI1 hf hr ht hx hy (m + 3) m 0 h1 (by omega) fr XD X75 HX (by omega) hq (Nat.zero_le _) rfl ?_
      intro gx5 fr XD X75 HX hPm
      refine mv_iinc (v := nI (m + 1 + 1)) dX12_lake_149 rfl (mv_inc (m + 1) 1) (by decide) ?_
      refine mv_goto (tgt := 76) dX12_lake_152 (by decide) ?_
      exact ih (m + 1) gx5 (by omega) fr XD X75 HX (by omega) (by rw [← hq, q_yn_n (f := 60 - m) (by omega) hPm, Nat.sub_sub]) (Or.inr hPm)
set_option maxRecDepth 100000 in
theorem k_X12_lake_G1 {ev : mv_E} {h : mv_H} {xt : Int32} {xf : Int32} {xa : Int32} {xo : Int64} {xe : Int32} {xu : Int32} {xs : Int32} {xg : Int32} {xc : Int32} {xw : Int32} {b : t_B} {t : Nat} {f : Nat → Nat} {bc : Nat → Nat} {r1 : Nat} {t2 : Nat} {x : Nat} {y : Nat} (HX : h[52]? = some (.inr (12, [.ref 53, .ref 54, .int xt, .int xf, .int xa, .long xo, .int xe, .int xu, .ref 55, .int xs, .int (nI b.1), .ref 56, .ref 57, .ref 58, .int (nI t), .int (nI b.2.1), .ref 59, .ref 60, .ref 61, .ref 62, .int xg, .ref 63, .ref 64, .ref 65, .ref 66, .ref 67, .ref 68, .ref 69, .int xc, .ref 70, .ref 71, .ref 72, .ref 73, .ref 74, .ref 75, .int xw, .ref 76, .ref 77, .ref 78, .ref 79, .ref 80]))) (XD : h[74]? = some (.inl (0, 201, .inl (fun j => nI (f j))))) (X75 : h[75]? = some (.inl (0, 3721, .inl (fun j => nI (bc j))))) (hf : ∀ i, f i ≤ 1000000) (hr : r1 ≤ 1000) (ht : t2 ≤ 1000) (hx : x ≤ 1000000) (hy : y ≤ 1000000) : ∃ h2, mv_K ev mX12_lake [.ref 52, .int (nI r1), .int (nI t2), .int (nI x), .int (nI y), .int (nI 1)] h (some (.int ((q_lP r1 t2 x y (q_bg f 201) (q_bg (q_rows r1 (q_bg f 201) 60) 201)) (q_yn (q_lP r1 t2 x y (q_bg f 201) (q_bg (q_rows r1 (q_bg f 201) 60) 201)) 60 0)))) h2 ∧ mv_fra [74, 75] h h2 ∧ h2[74]? = some (.inl (0, 201, .inl (fun j => nI (q_rows t2 (q_bg (q_rows r1 (q_bg f 201) 60) 201) (q_yn (q_lP r1 t2 x y (q_bg f 201) (q_bg (q_rows r1 (q_bg f 201) 60) 201)) 60 0) j)))) ∧ h2[75]? = some (.inl (0, 3721, .inl (fun j => nI ((q_fc r1 (q_bg f 201) bc 61 0) j)))) := by
  suffices g0 : mv_g ev mX12_lake 0 (mv_ent [.ref 52, .int (nI r1), .int (nI t2), .int (nI x), .int (nI y), .int (nI 1)] (mv_ml mX12_lake)) [] h (fun r g => r = some (.int ((q_lP r1 t2 x y (q_bg f 201) (q_bg (q_rows r1 (q_bg f 201) 60) 201)) (q_yn (q_lP r1 t2 x y (q_bg f 201) (q_bg (q_rows r1 (q_bg f 201) 60) 201)) 60 0))) ∧ mv_fra [74, 75] h g ∧ g[74]? = some (.inl (0, 201, .inl (fun j => nI (q_rows t2 (q_bg (q_rows r1 (q_bg f 201) 60) 201) (q_yn (q_lP r1 t2 x y (q_bg f 201) (q_bg (q_rows r1 (q_bg f 201) 60) 201)) 60 0) j)))) ∧ g[75]? = some (.inl (0, 3721, .inl (fun j => nI ((q_fc r1 (q_bg f 201) bc 61 0) j))))) from (by obtain ⟨r0, h0, K0, q0, Q0⟩ := mv_Kex g0; subst q0; exact ⟨h0, K0, Q0⟩)
  show mv_g ev mX12_lake 0 [.ref 52, .int (nI r1), .int (nI t2), .int (nI x), .int (nI y), .int (nI 1), .null, .null] [] h _
  have fr : mv_fra [74, 75] h h := mv_fra.rf
  have hb := q_bg_le hf 201
  have hb2 := q_bg_le (q_rows_le hb hr 60) 201
  refine mv_iload_n dX12_lake_0 rfl ?_
  refine mv_i2l dX12_lake_1 ?_
  refine mv_topL (y := lN r1) (nI_l (by omega)) ?_
  refine mv_lconst (v := lN 0) dX12_lake_2 rfl ?_
  refine mv_ldc2 (v := lN 1000) dX12_lake_3 wd_1621 ?_
  refine mv_cS3 dX12_lake_6 lk_X12_lake_107 (Nat.le_of_ble_eq_true rfl) (Nat.le_of_ble_eq_true rfl) (k_X12_in (ev := ev)) ?_
  refine mv_if_eq (tgt := 60) dX12_lake_9 (by decide) (fun z => absurd z ((fun z => (mv_b_0 _).mp z ((and_congr (lN_leB (by omega) (by omega)) (lN_leB (by omega) (by omega))).mpr ⟨by omega, by omega⟩)))) (fun c9 => ?_)
  refine mv_iload_n dX12_lake_12 rfl ?_
  refine mv_i2l dX12_lake_13 ?_
  refine mv_topL (y := lN t2) (nI_l (by omega)) ?_
  refine mv_lconst (v := lN 0) dX12_lake_14 rfl ?_
  refine mv_ldc2 (v := lN 1000) dX12_lake_15 wd_1621 ?_
  refine mv_cS3 dX12_lake_18 lk_X12_lake_107 (Nat.le_of_ble_eq_true rfl) (Nat.le_of_ble_eq_true rfl) (k_X12_in (ev := ev)) ?_
  refine mv_if_eq (tgt := 60) dX12_lake_21 (by decide) (fun z => absurd z ((fun z => (mv_b_0 _).mp z ((and_congr (lN_leB (by omega) (by omega)) (lN_leB (by omega) (by omega))).mpr ⟨by omega, by omega⟩)))) (fun c21 => ?_)
  refine mv_iload_n dX12_lake_24 rfl ?_
  refine mv_i2l dX12_lake_25 ?_
  refine mv_topL (y := lN x) (nI_l (by omega)) ?_
  refine mv_lconst (v := lN 0) dX12_lake_26 rfl ?_
  refine mv_ldc2 (v := lN 1000000) dX12_lake_27 wd_1484 ?_
  refine mv_cS3 dX12_lake_30 lk_X12_lake_107 (Nat.le_of_ble_eq_true rfl) (Nat.le_of_ble_eq_true rfl) (k_X12_in (ev := ev)) ?_
  refine mv_if_eq (tgt := 60) dX12_lake_33 (by decide) (fun z => absurd z ((fun z => (mv_b_0 _).mp z ((and_congr (lN_leB (by omega) (by omega)) (lN_leB (by omega) (by omega))).mpr ⟨by omega, by omega⟩)))) (fun c33 => ?_)
  refine mv_iload dX12_lake_36 rfl ?_
  refine mv_i2l dX12_lake_38 ?_
  refine mv_topL (y := lN y) (nI_l (by omega)) ?_
  refine mv_lconst (v := lN 0) dX12_lake_39 rfl ?_
  refine mv_ldc2 (v := lN 1000000) dX12_lake_40 wd_1484 ?_
  refine mv_cS3 dX12_lake_43 lk_X12_lake_107 (Nat.le_of_ble_eq_true rfl) (Nat.le_of_ble_eq_true rfl) (k_X12_in (ev := ev)) ?_
  refine mv_if_eq (tgt := 60) dX12_lake_46 (by decide) (fun z => absurd z ((fun z => (mv_b_0 _).mp z ((and_congr (lN_leB (by omega) (by omega)) (lN_leB (by omega) (by omega))).mpr ⟨by omega, by omega⟩)))) (fun c46 => ?_)
  refine mv_iload dX12_lake_49 rfl ?_
  refine mv_i2l dX12_lake_51 ?_
  refine mv_topL (y := lN 1) (nI_l (by omega)) ?_
  refine mv_lconst (v := lN 0) dX12_lake_52 rfl ?_
  refine mv_lconst (v := lN 1) dX12_lake_53 rfl ?_
  refine mv_cS3 dX12_lake_54 lk_X12_lake_107 (Nat.le_of_ble_eq_true rfl) (Nat.le_of_ble_eq_true rfl) (k_X12_in (ev := ev)) ?_
  refine mv_if_ne (tgt := 64) dX12_lake_57 (by decide) (fun c57 => ?_) (fun z => absurd z ((fun z => (mv_b_0 _).mp z ((and_congr (lN_leB (by omega) (by omega)) (lN_leB (by omega) (by omega))).mpr ⟨by omega, by omega⟩))))
  refine mv_aload_n dX12_lake_64 rfl ?_
  refine mv_iload_n dX12_lake_65 rfl ?_
  obtain ⟨h1, K2, f3, y4, y5⟩ := (k_X12_fillChance (ev := ev) (xt := xt) (xf := xf) (xa := xa) (xo := xo) (xe := xe) (xu := xu) (xs := xs) (xg := xg) (xc := xc) (xw := xw) (b := b) (t := t) (f := f) (bc := bc) (p := r1) HX XD X75 hf hr)
  refine mv_cV1 (ci := 12) dX12_lake_66 lk_X12_lake_360 HX rfl (Nat.le_of_ble_eq_true rfl) (Nat.le_of_ble_eq_true rfl) K2 ?_
  have HX := f3.get (by decide) HX
  have XD : h1[74]? = some (.inl (0, 201, .inl (fun j => nI (q_rows r1 (q_bg f 201) (60) j)))) := y4
  have X75 : h1[75]? = some (.inl (0, 3721, .inl (fun j => nI (q_fc r1 (q_bg f 201) bc (61) (0) j)))) := y5
  have fr := fr.trans f3 (by decide)
  refine mv_aload_n dX12_lake_69 rfl ?_
  obtain ⟨h6, K7, f8, y9⟩ := (k_X12_beginDist (ev := ev) (xt := xt) (xf := xf) (xa := xa) (xo := xo) (xe := xe) (xu := xu) (xs := xs) (xg := xg) (xc := xc) (xw := xw) (b := b) (t := t) (f := q_rows r1 (q_bg f 201) (60)) HX XD)
  refine mv_cV0 (ci := 12) dX12_lake_70 lk_X12_lake_350 HX rfl (Nat.le_of_ble_eq_true rfl) (Nat.le_of_ble_eq_true rfl) K7 ?_
  have HX := f8.get (by decide) HX
  have XD : h6[74]? = some (.inl (0, 201, .inl (fun j => nI (q_bg (q_rows r1 (q_bg f 201) (60)) 201 j)))) := y9
  have X75 := f8.get (by decide) X75
  have fr := fr.trans f8 (by decide)
  refine mv_iconst (v := nI 1) dX12_lake_73 (by decide) ?_
  refine mv_topI (y := nI (0 + 1)) rfl ?_
  refine mv_istore dX12_lake_74 (by decide) ?_
  exact l_X12_lake1 hf hr ht hx hy (60 + 1) 0 h6 (by omega) fr XD X75 HX (Nat.zero_le _) rfl (Or.inl rfl)
set_option maxRecDepth 100000 in
theorem k_X12_say_R1 {ev : mv_E} {h : mv_H} {d : Int32} {p : Int32} {x : Int32}  (hno : ¬ ((nI 0 ≤ p ∧ p ≤ nI 63))) : mv_K ev mX12_say [.ref 52, .int d, .int p, .int x] h (some (.int (-1001))) h := by
  refine mv_Kof ?_
  show mv_g ev mX12_say 0 [.ref 52, .int d, .int p, .int x] [] h _
  refine mv_iload_n dX12_say_0 rfl ?_
  refine mv_cS1 dX12_say_1 lk_X12_say_121 (Nat.le_of_ble_eq_true rfl) (Nat.le_of_ble_eq_true rfl) (k_X12_isPlace (ev := ev)) ?_
  refine mv_if_ne (tgt := 11) dX12_say_4 (by decide) (fun c4 => ?_) (fun c4 => ?_)
  · have c4 : nI 0 ≤ p ∧ p ≤ nI 63 := Classical.byContradiction (fun z => c4 ((mv_b_0 _).mpr z))
    exact absurd (by assumption) hno
  · have c4 : ¬ (nI 0 ≤ p ∧ p ≤ nI 63) := (mv_b_0 _).mp c4
    refine mv_sipush (v := (-1001)) dX12_say_7 (by decide) ?_
    exact mv_iret dX12_say_10 rfl rfl ⟨rfl, rfl⟩
set_option maxRecDepth 100000 in
theorem k_X12_say_R2 {ev : mv_E} {h : mv_H} {d : Int32} {x : Int32} {p : Nat}  (hp : p < 64) (hno : ¬ ((nI 0 ≤ d ∧ d ≤ nI 398) ∧ (nI 0 ≤ x ∧ x ≤ nI 2))) : mv_K ev mX12_say [.ref 52, .int d, .int (nI p), .int x] h (some (.int (-1002))) h := by
  refine mv_Kof ?_
  show mv_g ev mX12_say 0 [.ref 52, .int d, .int (nI p), .int x] [] h _
  refine mv_iload_n dX12_say_0 rfl ?_
  refine mv_cS1 dX12_say_1 lk_X12_say_121 (Nat.le_of_ble_eq_true rfl) (Nat.le_of_ble_eq_true rfl) (k_X12_isPlace (ev := ev)) ?_
  refine mv_if_ne (tgt := 11) dX12_say_4 (by decide) (fun c4 => ?_) (fun z => absurd z ((fun z => (mv_b_0 _).mp z (mv_in_i (by omega) (by omega) (by omega)))))
  refine mv_iload_n dX12_say_11 rfl ?_
  refine mv_i2l dX12_say_12 ?_
  refine mv_lconst (v := lN 0) dX12_say_13 rfl ?_
  refine mv_ldc2 (v := lN 398) dX12_say_14 wd_1646 ?_
  refine mv_cS3 dX12_say_17 lk_X12_say_107 (Nat.le_of_ble_eq_true rfl) (Nat.le_of_ble_eq_true rfl) (k_X12_in (ev := ev)) ?_
  refine mv_if_eq (tgt := 35) dX12_say_20 (by decide) (fun c20 => ?_) (fun c20 => ?_)
  · have c20 : ¬ (nI 0 ≤ d ∧ d ≤ nI 398) := fun z => (mv_b_0 _).mp c20 ((and_congr (mv_lL (by decide)) (mv_lR (by decide))).mpr z)
    refine mv_sipush (v := (-1002)) dX12_say_35 (by decide) ?_
    exact mv_iret dX12_say_38 rfl rfl ⟨rfl, rfl⟩
  · have c20 : nI 0 ≤ d ∧ d ≤ nI 398 := (and_congr (mv_lL (by decide)) (mv_lR (by decide))).mp (mv_b_ne c20)
    refine mv_iload_n dX12_say_23 rfl ?_
    refine mv_i2l dX12_say_24 ?_
    refine mv_lconst (v := lN 0) dX12_say_25 rfl ?_
    refine mv_ldc2 (v := lN 2) dX12_say_26 wd_1534 ?_
    refine mv_cS3 dX12_say_29 lk_X12_say_107 (Nat.le_of_ble_eq_true rfl) (Nat.le_of_ble_eq_true rfl) (k_X12_in (ev := ev)) ?_
    refine mv_if_ne (tgt := 39) dX12_say_32 (by decide) (fun c32 => ?_) (fun c32 => ?_)
    · have c32 : nI 0 ≤ x ∧ x ≤ nI 2 := (and_congr (mv_lL (by decide)) (mv_lR (by decide))).mp (mv_b_ne c32)
      exact absurd (by refine ⟨?_, ?_⟩ <;> assumption) hno
    · have c32 : ¬ (nI 0 ≤ x ∧ x ≤ nI 2) := fun z => (mv_b_0 _).mp c32 ((and_congr (mv_lL (by decide)) (mv_lR (by decide))).mpr z)
      refine mv_sipush (v := (-1002)) dX12_say_35 (by decide) ?_
      exact mv_iret dX12_say_38 rfl rfl ⟨rfl, rfl⟩
set_option maxRecDepth 100000 in
theorem k_X12_say_R3 {ev : mv_E} {h : mv_H} {xt : Int32} {xf : Int32} {xa : Int32} {xo : Int64} {xe : Int32} {xu : Int32} {xs : Int32} {xg : Int32} {xc : Int32} {b : t_B} {t : Nat} {wo : q_W} {d : Nat} {p : Nat} {x : Nat} (HX : h[52]? = some (.inr (12, [.ref 53, .ref 54, .int xt, .int xf, .int xa, .long xo, .int xe, .int xu, .ref 55, .int xs, .int (nI b.1), .ref 56, .ref 57, .ref 58, .int (nI t), .int (nI b.2.1), .ref 59, .ref 60, .ref 61, .ref 62, .int xg, .ref 63, .ref 64, .ref 65, .ref 66, .ref 67, .ref 68, .ref 69, .int xc, .ref 70, .ref 71, .ref 72, .ref 73, .ref 74, .ref 75, .int (nI wo.1), .ref 76, .ref 77, .ref 78, .ref 79, .ref 80]))) (hp : p < 64) (hd : d ≤ 398) (hx : x ≤ 2) (hn : wo.1 ≤ 12) (hno : ¬ (wo.1 < 12)) : mv_K ev mX12_say [.ref 52, .int (nI d), .int (nI p), .int (nI x)] h (some (.int (-1004))) h := by
  refine mv_Kof ?_
  show mv_g ev mX12_say 0 [.ref 52, .int (nI d), .int (nI p), .int (nI x)] [] h _
  refine mv_iload_n dX12_say_0 rfl ?_
  refine mv_cS1 dX12_say_1 lk_X12_say_121 (Nat.le_of_ble_eq_true rfl) (Nat.le_of_ble_eq_true rfl) (k_X12_isPlace (ev := ev)) ?_
  refine mv_if_ne (tgt := 11) dX12_say_4 (by decide) (fun c4 => ?_) (fun z => absurd z ((fun z => (mv_b_0 _).mp z (mv_in_i (by omega) (by omega) (by omega)))))
  refine mv_iload_n dX12_say_11 rfl ?_
  refine mv_i2l dX12_say_12 ?_
  refine mv_topL (y := lN d) (nI_l (by omega)) ?_
  refine mv_lconst (v := lN 0) dX12_say_13 rfl ?_
  refine mv_ldc2 (v := lN 398) dX12_say_14 wd_1646 ?_
  refine mv_cS3 dX12_say_17 lk_X12_say_107 (Nat.le_of_ble_eq_true rfl) (Nat.le_of_ble_eq_true rfl) (k_X12_in (ev := ev)) ?_
  refine mv_if_eq (tgt := 35) dX12_say_20 (by decide) (fun z => absurd z ((fun z => (mv_b_0 _).mp z ((and_congr (lN_leB (by omega) (by omega)) (lN_leB (by omega) (by omega))).mpr ⟨by omega, by omega⟩)))) (fun c20 => ?_)
  refine mv_iload_n dX12_say_23 rfl ?_
  refine mv_i2l dX12_say_24 ?_
  refine mv_topL (y := lN x) (nI_l (by omega)) ?_
  refine mv_lconst (v := lN 0) dX12_say_25 rfl ?_
  refine mv_ldc2 (v := lN 2) dX12_say_26 wd_1534 ?_
  refine mv_cS3 dX12_say_29 lk_X12_say_107 (Nat.le_of_ble_eq_true rfl) (Nat.le_of_ble_eq_true rfl) (k_X12_in (ev := ev)) ?_
  refine mv_if_ne (tgt := 39) dX12_say_32 (by decide) (fun c32 => ?_) (fun z => absurd z ((fun z => (mv_b_0 _).mp z ((and_congr (lN_leB (by omega) (by omega)) (lN_leB (by omega) (by omega))).mpr ⟨by omega, by omega⟩))))
  refine mv_aload_n dX12_say_39 rfl ?_
  refine mv_getf (ci := 12) (f := 35) dX12_say_40 HX rfl (by decide) wd_1234 rfl ?_
  refine mv_bipush (v := nI 12) dX12_say_43 (by decide) ?_
  refine mv_icmp_ne (tgt := 52) dX12_say_45 (by decide) (fun c45 => ?_) (fun c45 => ?_)
  · have c45 : ¬ (wo.1 = 12) := fun z => c45 ((nI_eq (by omega) (by omega)).mpr z)
    exact absurd (by omega) hno
  · have c45 : wo.1 = 12 := (nI_eq (by omega) (by omega)).mp c45
    refine mv_sipush (v := (-1004)) dX12_say_48 (by decide) ?_
    exact mv_iret dX12_say_51 rfl rfl ⟨rfl, rfl⟩
set_option maxRecDepth 100000 in
theorem k_X12_say_G {ev : mv_E} {h : mv_H} {xt : Int32} {xf : Int32} {xa : Int32} {xo : Int64} {xe : Int32} {xu : Int32} {xs : Int32} {xg : Int32} {xc : Int32} {b : t_B} {t : Nat} {wo : q_W} {d : Nat} {p : Nat} {x : Nat} (HX : h[52]? = some (.inr (12, [.ref 53, .ref 54, .int xt, .int xf, .int xa, .long xo, .int xe, .int xu, .ref 55, .int xs, .int (nI b.1), .ref 56, .ref 57, .ref 58, .int (nI t), .int (nI b.2.1), .ref 59, .ref 60, .ref 61, .ref 62, .int xg, .ref 63, .ref 64, .ref 65, .ref 66, .ref 67, .ref 68, .ref 69, .int xc, .ref 70, .ref 71, .ref 72, .ref 73, .ref 74, .ref 75, .int (nI wo.1), .ref 76, .ref 77, .ref 78, .ref 79, .ref 80]))) (X76 : h[76]? = some (.inl (0, 12, .inl (fun j => nI (wo.2.1 j))))) (X77 : h[77]? = some (.inl (0, 12, .inl (fun j => nI (wo.2.2.1 j))))) (X78 : h[78]? = some (.inl (0, 12, .inl (fun j => nI (wo.2.2.2 j))))) (hp : p < 64) (hd : d ≤ 398) (hx : x ≤ 2) (hn : wo.1 < 12) : ∃ h2, mv_K ev mX12_say [.ref 52, .int (nI d), .int (nI p), .int (nI x)] h (some (.int (nI wo.1))) h2 ∧ mv_fra [52, 76, 77, 78] h h2 ∧ h2[52]? = some (.inr (12, [.ref 53, .ref 54, .int xt, .int xf, .int xa, .long xo, .int xe, .int xu, .ref 55, .int xs, .int (nI b.1), .ref 56, .ref 57, .ref 58, .int (nI t), .int (nI b.2.1), .ref 59, .ref 60, .ref 61, .ref 62, .int xg, .ref 63, .ref 64, .ref 65, .ref 66, .ref 67, .ref 68, .ref 69, .int xc, .ref 70, .ref 71, .ref 72, .ref 73, .ref 74, .ref 75, .int (nI (q_ww wo d p x).1), .ref 76, .ref 77, .ref 78, .ref 79, .ref 80])) ∧ h2[76]? = some (.inl (0, 12, .inl (fun j => nI ((q_ww wo d p x).2.1 j)))) ∧ h2[77]? = some (.inl (0, 12, .inl (fun j => nI ((q_ww wo d p x).2.2.1 j)))) ∧ h2[78]? = some (.inl (0, 12, .inl (fun j => nI ((q_ww wo d p x).2.2.2 j)))) := by
  suffices g0 : mv_g ev mX12_say 0 (mv_ent [.ref 52, .int (nI d), .int (nI p), .int (nI x)] (mv_ml mX12_say)) [] h (fun r g => r = some (.int (nI wo.1)) ∧ mv_fra [52, 76, 77, 78] h g ∧ g[52]? = some (.inr (12, [.ref 53, .ref 54, .int xt, .int xf, .int xa, .long xo, .int xe, .int xu, .ref 55, .int xs, .int (nI b.1), .ref 56, .ref 57, .ref 58, .int (nI t), .int (nI b.2.1), .ref 59, .ref 60, .ref 61, .ref 62, .int xg, .ref 63, .ref 64, .ref 65, .ref 66, .ref 67, .ref 68, .ref 69, .int xc, .ref 70, .ref 71, .ref 72, .ref 73, .ref 74, .ref 75, .int (nI (q_ww wo d p x).1), .ref 76, .ref 77, .ref 78, .ref 79, .ref 80])) ∧ g[76]? = some (.inl (0, 12, .inl (fun j => nI ((q_ww wo d p x).2.1 j)))) ∧ g[77]? = some (.inl (0, 12, .inl (fun j => nI ((q_ww wo d p x).2.2.1 j)))) ∧ g[78]? = some (.inl (0, 12, .inl (fun j => nI ((q_ww wo d p x).2.2.2 j))))) from (by obtain ⟨r0, h0, K0, q0, Q0⟩ := mv_Kex g0; subst q0; exact ⟨h0, K0, Q0⟩)
  show mv_g ev mX12_say 0 [.ref 52, .int (nI d), .int (nI p), .int (nI x)] [] h _
  have fr : mv_fra [52, 76, 77, 78] h h := mv_fra.rf
  refine mv_iload_n dX12_say_0 rfl ?_
  refine mv_cS1 dX12_say_1 lk_X12_say_121 (Nat.le_of_ble_eq_true rfl) (Nat.le_of_ble_eq_true rfl) (k_X12_isPlace (ev := ev)) ?_
  refine mv_if_ne (tgt := 11) dX12_say_4 (by decide) (fun c4 => ?_) (fun z => absurd z ((fun z => (mv_b_0 _).mp z (mv_in_i (by omega) (by omega) (by omega)))))
  refine mv_iload_n dX12_say_11 rfl ?_
  refine mv_i2l dX12_say_12 ?_
  refine mv_topL (y := lN d) (nI_l (by omega)) ?_
  refine mv_lconst (v := lN 0) dX12_say_13 rfl ?_
  refine mv_ldc2 (v := lN 398) dX12_say_14 wd_1646 ?_
  refine mv_cS3 dX12_say_17 lk_X12_say_107 (Nat.le_of_ble_eq_true rfl) (Nat.le_of_ble_eq_true rfl) (k_X12_in (ev := ev)) ?_
  refine mv_if_eq (tgt := 35) dX12_say_20 (by decide) (fun z => absurd z ((fun z => (mv_b_0 _).mp z ((and_congr (lN_leB (by omega) (by omega)) (lN_leB (by omega) (by omega))).mpr ⟨by omega, by omega⟩)))) (fun c20 => ?_)
  refine mv_iload_n dX12_say_23 rfl ?_
  refine mv_i2l dX12_say_24 ?_
  refine mv_topL (y := lN x) (nI_l (by omega)) ?_
  refine mv_lconst (v := lN 0) dX12_say_25 rfl ?_
  refine mv_ldc2 (v := lN 2) dX12_say_26 wd_1534 ?_
  refine mv_cS3 dX12_say_29 lk_X12_say_107 (Nat.le_of_ble_eq_true rfl) (Nat.le_of_ble_eq_true rfl) (k_X12_in (ev := ev)) ?_
  refine mv_if_ne (tgt := 39) dX12_say_32 (by decide) (fun c32 => ?_) (fun z => absurd z ((fun z => (mv_b_0 _).mp z ((and_congr (lN_leB (by omega) (by omega)) (lN_leB (by omega) (by omega))).mpr ⟨by omega, by omega⟩))))
  refine mv_aload_n dX12_say_39 rfl ?_
  refine mv_getf (ci := 12) (f := 35) dX12_say_40 HX rfl (by decide) wd_1234 rfl ?_
  refine mv_bipush (v := nI 12) dX12_say_43 (by decide) ?_
  refine mv_icmp_ne (tgt := 52) dX12_say_45 (by decide) (fun c45 => ?_) (fun z => absurd z ((fun q => absurd ((nI_eq (by omega) (by omega)).mp q) (by omega))))
  refine mv_aload_n dX12_say_52 rfl ?_
  refine mv_getf (ci := 12) (f := 36) dX12_say_53 HX rfl (by decide) wd_1235 rfl ?_
  refine mv_aload_n dX12_say_56 rfl ?_
  refine mv_getf (ci := 12) (f := 35) dX12_say_57 HX rfl (by decide) wd_1234 rfl ?_
  refine mv_iload_n dX12_say_60 rfl ?_
  refine mv_iastN (j := wo.1) dX12_say_61 X76 rfl (by decide) (by omega) (fun h1 e2 => ?_)
  rw [upd_nI] at e2
  have HX := mv_ne e2 (by decide) HX
  have X76 : h1[76]? = some (.inl (0, 12, .inl (fun j => nI (t_up wo.2.1 wo.1 d j)))) := mv_eq e2 X76
  have X77 := mv_ne e2 (by decide) X77
  have X78 := mv_ne e2 (by decide) X78
  have fr := fr.set e2 (by decide)
  clear e2
  refine mv_aload_n dX12_say_62 rfl ?_
  refine mv_getf (ci := 12) (f := 37) dX12_say_63 HX rfl (by decide) wd_1236 rfl ?_
  refine mv_aload_n dX12_say_66 rfl ?_
  refine mv_getf (ci := 12) (f := 35) dX12_say_67 HX rfl (by decide) wd_1234 rfl ?_
  refine mv_iload_n dX12_say_70 rfl ?_
  refine mv_iastN (j := wo.1) dX12_say_71 X77 rfl (by decide) (by omega) (fun h3 e4 => ?_)
  rw [upd_nI] at e4
  have HX := mv_ne e4 (by decide) HX
  have X76 := mv_ne e4 (by decide) X76
  have X77 : h3[77]? = some (.inl (0, 12, .inl (fun j => nI (t_up wo.2.2.1 wo.1 p j)))) := mv_eq e4 X77
  have X78 := mv_ne e4 (by decide) X78
  have fr := fr.set e4 (by decide)
  clear e4
  refine mv_aload_n dX12_say_72 rfl ?_
  refine mv_getf (ci := 12) (f := 38) dX12_say_73 HX rfl (by decide) wd_1237 rfl ?_
  refine mv_aload_n dX12_say_76 rfl ?_
  refine mv_getf (ci := 12) (f := 35) dX12_say_77 HX rfl (by decide) wd_1234 rfl ?_
  refine mv_iload_n dX12_say_80 rfl ?_
  refine mv_iastN (j := wo.1) dX12_say_81 X78 rfl (by decide) (by omega) (fun h5 e6 => ?_)
  rw [upd_nI] at e6
  have HX := mv_ne e6 (by decide) HX
  have X76 := mv_ne e6 (by decide) X76
  have X77 := mv_ne e6 (by decide) X77
  have X78 : h5[78]? = some (.inl (0, 12, .inl (fun j => nI (t_up wo.2.2.2 wo.1 x j)))) := mv_eq e6 X78
  have fr := fr.set e6 (by decide)
  clear e6
  refine mv_aload_n dX12_say_82 rfl ?_
  refine mv_dup dX12_say_83 rfl ?_
  refine mv_getf (ci := 12) (f := 35) dX12_say_84 HX rfl (by decide) wd_1234 rfl ?_
  refine mv_iconst (v := nI 1) dX12_say_87 (by decide) ?_
  refine mv_iadd dX12_say_88 ?_
  refine mv_topI (y := nI (wo.1 + 1)) (nI_add _ _) ?_
  refine mv_putf (ci := 12) (f := 35) dX12_say_89 HX rfl (by decide) wd_1234 rfl rfl (fun _ => ⟨rfl, rfl⟩) (Nat.le_of_ble_eq_true rfl) ?_
  refine mv_topH (fun h7 e8 => ?_)
  have HX : h7[52]? = some (.inr (12, [.ref 53, .ref 54, .int xt, .int xf, .int xa, .long xo, .int xe, .int xu, .ref 55, .int xs, .int (nI b.1), .ref 56, .ref 57, .ref 58, .int (nI t), .int (nI b.2.1), .ref 59, .ref 60, .ref 61, .ref 62, .int xg, .ref 63, .ref 64, .ref 65, .ref 66, .ref 67, .ref 68, .ref 69, .int xc, .ref 70, .ref 71, .ref 72, .ref 73, .ref 74, .ref 75, .int (nI (wo.1 + 1)), .ref 76, .ref 77, .ref 78, .ref 79, .ref 80])) := mv_eq e8 HX
  have X76 := mv_ne e8 (by decide) X76
  have X77 := mv_ne e8 (by decide) X77
  have X78 := mv_ne e8 (by decide) X78
  have fr := fr.set e8 (by decide)
  clear e8
  refine mv_aload_n dX12_say_92 rfl ?_
  refine mv_getf (ci := 12) (f := 35) dX12_say_93 HX rfl (by decide) wd_1234 rfl ?_
  refine mv_iconst (v := nI 1) dX12_say_96 (by decide) ?_
  refine mv_isub dX12_say_97 ?_
  refine mv_topI (y := nI wo.1) (by show nI (wo.1 + 1) - nI 1 = _; rw [pk_sub (by omega)]; exact congrArg nI (by omega)) ?_
  exact mv_iret dX12_say_98 rfl rfl ⟨rfl, fr, HX, X76, X77, X78⟩
set_option maxRecDepth 100000 in
theorem k_X12_judged_R1 {ev : mv_E} {h : mv_H} {xt : Int32} {xf : Int32} {xa : Int32} {xo : Int64} {xe : Int32} {xu : Int32} {xs : Int32} {xg : Int32} {xc : Int32} {b : t_B} {t : Nat} {wo : q_W} {k : Int32} {x : Int32} {n : Int32} {w : Int32} (HX : h[52]? = some (.inr (12, [.ref 53, .ref 54, .int xt, .int xf, .int xa, .long xo, .int xe, .int xu, .ref 55, .int xs, .int (nI b.1), .ref 56, .ref 57, .ref 58, .int (nI t), .int (nI b.2.1), .ref 59, .ref 60, .ref 61, .ref 62, .int xg, .ref 63, .ref 64, .ref 65, .ref 66, .ref 67, .ref 68, .ref 69, .int xc, .ref 70, .ref 71, .ref 72, .ref 73, .ref 74, .ref 75, .int (nI wo.1), .ref 76, .ref 77, .ref 78, .ref 79, .ref 80]))) (X76 : h[76]? = some (.inl (0, 12, .inl (fun j => nI (wo.2.1 j))))) (hn : wo.1 ≤ 12) (hno : ¬ ((0 ≤ k ∧ k < nI wo.1 ∧ k < nI 12))) : mv_K ev mX12_judged [.ref 52, .int k, .int x, .int n, .int w] h (some (.int (-1001))) h := by
  refine mv_Kof ?_
  show mv_g ev mX12_judged 0 [.ref 52, .int k, .int x, .int n, .int w, .null, .null, .null, .null, .null, .null] [] h _
  refine mv_iload_n dX12_judged_0 rfl ?_
  refine mv_i2l dX12_judged_1 ?_
  refine mv_lconst (v := lN 0) dX12_judged_2 rfl ?_
  refine mv_aload_n dX12_judged_3 rfl ?_
  refine mv_getf (ci := 12) (f := 35) dX12_judged_4 HX rfl (by decide) wd_1234 rfl ?_
  refine mv_iconst (v := nI 1) dX12_judged_7 (by decide) ?_
  refine mv_isub dX12_judged_8 ?_
  refine mv_i2l dX12_judged_9 ?_
  refine mv_cS3 dX12_judged_10 lk_X12_judged_107 (Nat.le_of_ble_eq_true rfl) (Nat.le_of_ble_eq_true rfl) (k_X12_in (ev := ev)) ?_
  refine mv_if_ne (tgt := 20) dX12_judged_13 (by decide) (fun c13 => ?_) (fun c13 => ?_)
  · have c13 : (0 ≤ k ∧ k < nI wo.1 ∧ k < nI 12) := (q_isk hn (by decide)).mp (mv_b_ne c13)
    exact absurd (by assumption) hno
  · have c13 : ¬ (0 ≤ k ∧ k < nI wo.1 ∧ k < nI 12) := fun z => (mv_b_0 _).mp c13 ((q_isk hn (by decide)).mpr z)
    refine mv_sipush (v := (-1001)) dX12_judged_16 (by decide) ?_
    exact mv_iret dX12_judged_19 rfl rfl ⟨rfl, rfl⟩
set_option maxRecDepth 100000 in
theorem k_X12_judged_R2 {ev : mv_E} {h : mv_H} {xt : Int32} {xf : Int32} {xa : Int32} {xo : Int64} {xe : Int32} {xu : Int32} {xs : Int32} {xg : Int32} {xc : Int32} {b : t_B} {t : Nat} {wo : q_W} {k : Nat} {x : Int32} {q : Int32} {w : Int32} (HX : h[52]? = some (.inr (12, [.ref 53, .ref 54, .int xt, .int xf, .int xa, .long xo, .int xe, .int xu, .ref 55, .int xs, .int (nI b.1), .ref 56, .ref 57, .ref 58, .int (nI t), .int (nI b.2.1), .ref 59, .ref 60, .ref 61, .ref 62, .int xg, .ref 63, .ref 64, .ref 65, .ref 66, .ref 67, .ref 68, .ref 69, .int xc, .ref 70, .ref 71, .ref 72, .ref 73, .ref 74, .ref 75, .int (nI wo.1), .ref 76, .ref 77, .ref 78, .ref 79, .ref 80]))) (X76 : h[76]? = some (.inl (0, 12, .inl (fun j => nI (wo.2.1 j))))) (hk : k < wo.1) (hn : wo.1 ≤ 12) (hno : ¬ ((nI 1 ≤ x ∧ x ≤ nI 9) ∧ (nI 1 ≤ q ∧ q ≤ nI 60) ∧ (nI 0 ≤ w ∧ w ≤ nI 1) ∧ nI (wo.2.1 k) + q ≤ nI 399)) : mv_K ev mX12_judged [.ref 52, .int (nI k), .int x, .int q, .int w] h (some (.int (-1002))) h := by
  refine mv_Kof ?_
  show mv_g ev mX12_judged 0 [.ref 52, .int (nI k), .int x, .int q, .int w, .null, .null, .null, .null, .null, .null] [] h _
  refine mv_iload_n dX12_judged_0 rfl ?_
  refine mv_i2l dX12_judged_1 ?_
  refine mv_lconst (v := lN 0) dX12_judged_2 rfl ?_
  refine mv_aload_n dX12_judged_3 rfl ?_
  refine mv_getf (ci := 12) (f := 35) dX12_judged_4 HX rfl (by decide) wd_1234 rfl ?_
  refine mv_iconst (v := nI 1) dX12_judged_7 (by decide) ?_
  refine mv_isub dX12_judged_8 ?_
  refine mv_i2l dX12_judged_9 ?_
  refine mv_cS3 dX12_judged_10 lk_X12_judged_107 (Nat.le_of_ble_eq_true rfl) (Nat.le_of_ble_eq_true rfl) (k_X12_in (ev := ev)) ?_
  refine mv_if_ne (tgt := 20) dX12_judged_13 (by decide) (fun c13 => ?_) (fun z => absurd z ((fun z => (mv_b_0 _).mp z ((q_isk (n := wo.1) (N := 12) hn (by decide)).mpr ⟨Int32.not_lt.mp (nI_pos (by omega)), (nI_ltI (by omega) (by omega)).mpr (by omega), (nI_ltI (by omega) (by omega)).mpr (by omega)⟩))))
  refine mv_aload_n dX12_judged_20 rfl ?_
  refine mv_getf (ci := 12) (f := 36) dX12_judged_21 HX rfl (by decide) wd_1235 rfl ?_
  refine mv_iload_n dX12_judged_24 rfl ?_
  refine mv_iaN (j := k) (x := nI (wo.2.1 k)) dX12_judged_25 X76 rfl (by decide) (by omega) rfl ?_
  refine mv_istore dX12_judged_26 (by decide) ?_
  refine mv_iload_n dX12_judged_28 rfl ?_
  refine mv_cS1 dX12_judged_29 lk_X12_judged_204 (Nat.le_of_ble_eq_true rfl) (Nat.le_of_ble_eq_true rfl) (k_X12_isSize (ev := ev)) ?_
  refine mv_if_eq (tgt := 68) dX12_judged_32 (by decide) (fun c32 => ?_) (fun c32 => ?_)
  · have c32 : ¬ (nI 1 ≤ x ∧ x ≤ nI 9) := (mv_b_0 _).mp c32
    refine mv_sipush (v := (-1002)) dX12_judged_68 (by decide) ?_
    exact mv_iret dX12_judged_71 rfl rfl ⟨rfl, rfl⟩
  · have c32 : nI 1 ≤ x ∧ x ≤ nI 9 := Classical.byContradiction (fun z => c32 ((mv_b_0 _).mpr z))
    refine mv_iload_n dX12_judged_35 rfl ?_
    refine mv_i2l dX12_judged_36 ?_
    refine mv_lconst (v := lN 1) dX12_judged_37 rfl ?_
    refine mv_ldc2 (v := lN 60) dX12_judged_38 wd_1550 ?_
    refine mv_cS3 dX12_judged_41 lk_X12_judged_107 (Nat.le_of_ble_eq_true rfl) (Nat.le_of_ble_eq_true rfl) (k_X12_in (ev := ev)) ?_
    refine mv_if_eq (tgt := 68) dX12_judged_44 (by decide) (fun c44 => ?_) (fun c44 => ?_)
    · have c44 : ¬ (nI 1 ≤ q ∧ q ≤ nI 60) := fun z => (mv_b_0 _).mp c44 ((and_congr (mv_lL (by decide)) (mv_lR (by decide))).mpr z)
      refine mv_sipush (v := (-1002)) dX12_judged_68 (by decide) ?_
      exact mv_iret dX12_judged_71 rfl rfl ⟨rfl, rfl⟩
    · have c44 : nI 1 ≤ q ∧ q ≤ nI 60 := (and_congr (mv_lL (by decide)) (mv_lR (by decide))).mp (mv_b_ne c44)
      refine mv_iload dX12_judged_47 rfl ?_
      refine mv_iload_n dX12_judged_49 rfl ?_
      refine mv_iadd dX12_judged_50 ?_
      refine mv_sipush (v := nI 399) dX12_judged_51 (by decide) ?_
      refine mv_icmp_gt (tgt := 68) dX12_judged_54 (by decide) (fun c54 => ?_) (fun c54 => ?_)
      · skip
        refine mv_sipush (v := (-1002)) dX12_judged_68 (by decide) ?_
        exact mv_iret dX12_judged_71 rfl rfl ⟨rfl, rfl⟩
      · skip
        refine mv_iload dX12_judged_57 rfl ?_
        refine mv_i2l dX12_judged_59 ?_
        refine mv_lconst (v := lN 0) dX12_judged_60 rfl ?_
        refine mv_lconst (v := lN 1) dX12_judged_61 rfl ?_
        refine mv_cS3 dX12_judged_62 lk_X12_judged_107 (Nat.le_of_ble_eq_true rfl) (Nat.le_of_ble_eq_true rfl) (k_X12_in (ev := ev)) ?_
        refine mv_if_ne (tgt := 72) dX12_judged_65 (by decide) (fun c65 => ?_) (fun c65 => ?_)
        · have c65 : nI 0 ≤ w ∧ w ≤ nI 1 := (and_congr (mv_lL (by decide)) (mv_lR (by decide))).mp (mv_b_ne c65)
          exact absurd ⟨c32, c44, c65, Int32.not_lt.mp c54⟩ hno
        · have c65 : ¬ (nI 0 ≤ w ∧ w ≤ nI 1) := fun z => (mv_b_0 _).mp c65 ((and_congr (mv_lL (by decide)) (mv_lR (by decide))).mpr z)
          refine mv_sipush (v := (-1002)) dX12_judged_68 (by decide) ?_
          exact mv_iret dX12_judged_71 rfl rfl ⟨rfl, rfl⟩
set_option maxRecDepth 100000 in
theorem k_X12_judged_G0 {ev : mv_E} {h : mv_H} {xt : Int32} {xf : Int32} {xa : Int32} {xo : Int64} {xe : Int32} {xu : Int32} {xs : Int32} {xg : Int32} {xc : Int32} {b : t_B} {t : Nat} {wo : q_W} {lw : Nat → Int32} {ln : Nat → Nat} {k : Nat} {x : Nat} {q : Nat} {dd : Nat} (HX : h[52]? = some (.inr (12, [.ref 53, .ref 54, .int xt, .int xf, .int xa, .long xo, .int xe, .int xu, .ref 55, .int xs, .int (nI b.1), .ref 56, .ref 57, .ref 58, .int (nI t), .int (nI b.2.1), .ref 59, .ref 60, .ref 61, .ref 62, .int xg, .ref 63, .ref 64, .ref 65, .ref 66, .ref 67, .ref 68, .ref 69, .int xc, .ref 70, .ref 71, .ref 72, .ref 73, .ref 74, .ref 75, .int (nI wo.1), .ref 76, .ref 77, .ref 78, .ref 79, .ref 80]))) (X76 : h[76]? = some (.inl (0, 12, .inl (fun j => nI (wo.2.1 j))))) (X77 : h[77]? = some (.inl (0, 12, .inl (fun j => nI (wo.2.2.1 j))))) (X78 : h[78]? = some (.inl (0, 12, .inl (fun j => nI (wo.2.2.2 j))))) (X56 : h[56]? = some (.inl (0, 60, .inl (fun j => nI (b.2.2.1 j))))) (X57 : h[57]? = some (.inl (0, 60, .inl (fun j => nI (b.2.2.2.1 j))))) (X58 : h[58]? = some (.inl (0, 60, .inl (fun j => nI (b.2.2.2.2 j))))) (X53 : h[53]? = some (.inl (0, 8, .inl lw))) (hwo : q_WOI wo) (hk : k < wo.1) (hw : q_LW lw ln) (hb : q_BI dd b) (hz1 : 1 ≤ x) (hz9 : x ≤ 9) (hn1 : 1 ≤ q) (hn6 : q ≤ 60) (hdn : wo.2.1 k + q ≤ 399) : mv_K ev mX12_judged [.ref 52, .int (nI k), .int (nI x), .int (nI q), .int (nI 0)] h (some (.int (nI (q_jk ln wo b k x q)))) h := by
  refine mv_Kof ?_
  show mv_g ev mX12_judged 0 [.ref 52, .int (nI k), .int (nI x), .int (nI q), .int (nI 0), .null, .null, .null, .null, .null, .null] [] h _
  have hn := hwo.1
  have n1 := hwo.2.1 k
  have n2 := hwo.2.2.1 k
  have n7 := hwo.2.2.2 k
  have n9 := hb.1
  have n3 := q_od_le ln b (wo.2.2.1 k) 1 x (wo.2.1 k + 1) (wo.2.1 k + q) (q_ut b (nI (wo.2.1 k)))
  have n4 := q_od_le ln b (wo.2.2.1 k) 1 x (wo.2.1 k + 1) (wo.2.1 k + q) 0
  refine mv_iload_n dX12_judged_0 rfl ?_
  refine mv_i2l dX12_judged_1 ?_
  refine mv_lconst (v := lN 0) dX12_judged_2 rfl ?_
  refine mv_aload_n dX12_judged_3 rfl ?_
  refine mv_getf (ci := 12) (f := 35) dX12_judged_4 HX rfl (by decide) wd_1234 rfl ?_
  refine mv_iconst (v := nI 1) dX12_judged_7 (by decide) ?_
  refine mv_isub dX12_judged_8 ?_
  refine mv_i2l dX12_judged_9 ?_
  refine mv_cS3 dX12_judged_10 lk_X12_judged_107 (Nat.le_of_ble_eq_true rfl) (Nat.le_of_ble_eq_true rfl) (k_X12_in (ev := ev)) ?_
  refine mv_if_ne (tgt := 20) dX12_judged_13 (by decide) (fun c13 => ?_) (fun z => absurd z ((fun z => (mv_b_0 _).mp z ((q_isk (n := wo.1) (N := 12) hn (by decide)).mpr ⟨Int32.not_lt.mp (nI_pos (by omega)), (nI_ltI (by omega) (by omega)).mpr (by omega), (nI_ltI (by omega) (by omega)).mpr (by omega)⟩))))
  refine mv_aload_n dX12_judged_20 rfl ?_
  refine mv_getf (ci := 12) (f := 36) dX12_judged_21 HX rfl (by decide) wd_1235 rfl ?_
  refine mv_iload_n dX12_judged_24 rfl ?_
  refine mv_iaN (j := k) (x := nI (wo.2.1 k)) dX12_judged_25 X76 rfl (by decide) (by omega) rfl ?_
  refine mv_istore dX12_judged_26 (by decide) ?_
  refine mv_iload_n dX12_judged_28 rfl ?_
  refine mv_cS1 dX12_judged_29 lk_X12_judged_204 (Nat.le_of_ble_eq_true rfl) (Nat.le_of_ble_eq_true rfl) (k_X12_isSize (ev := ev)) ?_
  refine mv_if_eq (tgt := 68) dX12_judged_32 (by decide) (fun z => absurd z ((fun z => (mv_b_0 _).mp z (mv_in_i (by omega) (by omega) (by omega))))) (fun c32 => ?_)
  refine mv_iload_n dX12_judged_35 rfl ?_
  refine mv_i2l dX12_judged_36 ?_
  refine mv_topL (y := lN q) (nI_l (by omega)) ?_
  refine mv_lconst (v := lN 1) dX12_judged_37 rfl ?_
  refine mv_ldc2 (v := lN 60) dX12_judged_38 wd_1550 ?_
  refine mv_cS3 dX12_judged_41 lk_X12_judged_107 (Nat.le_of_ble_eq_true rfl) (Nat.le_of_ble_eq_true rfl) (k_X12_in (ev := ev)) ?_
  refine mv_if_eq (tgt := 68) dX12_judged_44 (by decide) (fun z => absurd z ((fun z => (mv_b_0 _).mp z ((and_congr (lN_leB (by omega) (by omega)) (lN_leB (by omega) (by omega))).mpr ⟨by omega, by omega⟩)))) (fun c44 => ?_)
  refine mv_iload dX12_judged_47 rfl ?_
  refine mv_iload_n dX12_judged_49 rfl ?_
  refine mv_iadd dX12_judged_50 ?_
  refine mv_topI (y := nI (wo.2.1 k + q)) (nI_add _ _) ?_
  refine mv_sipush (v := nI 399) dX12_judged_51 (by decide) ?_
  refine mv_icmp_gt (tgt := 68) dX12_judged_54 (by decide) (fun z => absurd z ((fun q2 => absurd ((nI_ltI (by omega) (by omega)).mp q2) (by omega)))) (fun c54 => ?_)
  refine mv_iload dX12_judged_57 rfl ?_
  refine mv_i2l dX12_judged_59 ?_
  refine mv_topL (y := lN 0) (nI_l (by omega)) ?_
  refine mv_lconst (v := lN 0) dX12_judged_60 rfl ?_
  refine mv_lconst (v := lN 1) dX12_judged_61 rfl ?_
  refine mv_cS3 dX12_judged_62 lk_X12_judged_107 (Nat.le_of_ble_eq_true rfl) (Nat.le_of_ble_eq_true rfl) (k_X12_in (ev := ev)) ?_
  refine mv_if_ne (tgt := 72) dX12_judged_65 (by decide) (fun c65 => ?_) (fun z => absurd z ((fun z => (mv_b_0 _).mp z ((and_congr (lN_leB (by omega) (by omega)) (lN_leB (by omega) (by omega))).mpr ⟨by omega, by omega⟩))))
  refine mv_aload_n dX12_judged_72 rfl ?_
  refine mv_aload_n dX12_judged_73 rfl ?_
  refine mv_iload dX12_judged_74 rfl ?_
  refine mv_cV1 (ci := 12) dX12_judged_76 lk_X12_judged_275 HX rfl (Nat.le_of_ble_eq_true rfl) (Nat.le_of_ble_eq_true rfl) (k_X12_upTo (ev := ev) HX X56 n9) ?_
  refine mv_aload_n dX12_judged_79 rfl ?_
  refine mv_getf (ci := 12) (f := 37) dX12_judged_80 HX rfl (by decide) wd_1236 rfl ?_
  refine mv_iload_n dX12_judged_83 rfl ?_
  refine mv_iaN (j := k) (x := nI (wo.2.2.1 k)) dX12_judged_84 X77 rfl (by decide) (by omega) rfl ?_
  refine mv_iconst (v := nI 1) dX12_judged_85 (by decide) ?_
  refine mv_iload_n dX12_judged_86 rfl ?_
  refine mv_iload dX12_judged_87 rfl ?_
  refine mv_iconst (v := nI 1) dX12_judged_89 (by decide) ?_
  refine mv_iadd dX12_judged_90 ?_
  refine mv_topI (y := nI (wo.2.1 k + 1)) (nI_add _ _) ?_
  refine mv_iload dX12_judged_91 rfl ?_
  refine mv_iload_n dX12_judged_93 rfl ?_
  refine mv_iadd dX12_judged_94 ?_
  refine mv_topI (y := nI (wo.2.1 k + q)) (nI_add _ _) ?_
  refine mv_cV6 (ci := 12) dX12_judged_95 lk_X12_judged_278 HX rfl (Nat.le_of_ble_eq_true rfl) (Nat.le_of_ble_eq_true rfl) (k_X12_oddsOf (ev := ev) HX X56 X57 X58 X53 hw n2 (by omega) hz1 hz9 hb hdn (by omega) (q_ut_le _ _) (q_ut_a hb (by omega) ((nI_ltI (by omega) (by omega)).mpr (by omega)))) ?_
  refine mv_i2l dX12_judged_98 ?_
  refine mv_topL (y := lN (q_od ln b (wo.2.2.1 k) 1 x (wo.2.1 k + 1) (wo.2.1 k + q) (q_ut b (nI (wo.2.1 k))))) (nI_l (by omega)) ?_
  refine mv_lstore dX12_judged_99 (by decide) ?_
  refine mv_aload_n dX12_judged_101 rfl ?_
  refine mv_iconst (v := nI 0) dX12_judged_102 (by decide) ?_
  refine mv_aload_n dX12_judged_103 rfl ?_
  refine mv_getf (ci := 12) (f := 37) dX12_judged_104 HX rfl (by decide) wd_1236 rfl ?_
  refine mv_iload_n dX12_judged_107 rfl ?_
  refine mv_iaN (j := k) (x := nI (wo.2.2.1 k)) dX12_judged_108 X77 rfl (by decide) (by omega) rfl ?_
  refine mv_iconst (v := nI 1) dX12_judged_109 (by decide) ?_
  refine mv_iload_n dX12_judged_110 rfl ?_
  refine mv_iload dX12_judged_111 rfl ?_
  refine mv_iconst (v := nI 1) dX12_judged_113 (by decide) ?_
  refine mv_iadd dX12_judged_114 ?_
  refine mv_topI (y := nI (wo.2.1 k + 1)) (nI_add _ _) ?_
  refine mv_iload dX12_judged_115 rfl ?_
  refine mv_iload_n dX12_judged_117 rfl ?_
  refine mv_iadd dX12_judged_118 ?_
  refine mv_topI (y := nI (wo.2.1 k + q)) (nI_add _ _) ?_
  refine mv_cV6 (ci := 12) dX12_judged_119 lk_X12_judged_278 HX rfl (Nat.le_of_ble_eq_true rfl) (Nat.le_of_ble_eq_true rfl) (k_X12_oddsOf (ev := ev) HX X56 X57 X58 X53 hw n2 (by omega) hz1 hz9 hb hdn (by omega) (Nat.zero_le _) (fun i hi => absurd hi (Nat.not_lt_zero _))) ?_
  refine mv_i2l dX12_judged_122 ?_
  refine mv_topL (y := lN (q_od ln b (wo.2.2.1 k) 1 x (wo.2.1 k + 1) (wo.2.1 k + q) 0)) (nI_l (by omega)) ?_
  refine mv_lstore dX12_judged_123 (by decide) ?_
  refine mv_lload dX12_judged_125 rfl ?_
  refine mv_ldc2 (v := lN 2) dX12_judged_127 wd_1534 ?_
  refine mv_lload dX12_judged_130 rfl ?_
  refine mv_lmul dX12_judged_132 ?_
  refine mv_topL (y := lN (2 * (q_od ln b (wo.2.2.1 k) 1 x (wo.2.1 k + 1) (wo.2.1 k + q) 0))) (lN_mul _ _) ?_
  refine mv_lcmp dX12_judged_133 ?_
  refine mv_if_gt (tgt := 141) dX12_judged_134 (by decide) (fun c134 => ?_) (fun c134 => ?_)
  · have c134 : 2 * (q_od ln b (wo.2.2.1 k) 1 x (wo.2.1 k + 1) (wo.2.1 k + q) 0) < q_od ln b (wo.2.2.1 k) 1 x (wo.2.1 k + 1) (wo.2.1 k + q) (q_ut b (nI (wo.2.1 k))) := (lN_ltB (by omega) (by omega)).mp ((lg_cmp_gt _ _).mp c134)
    refine mv_lload dX12_judged_141 rfl ?_
    refine mv_ldc2 (v := lN 10) dX12_judged_143 wd_1651 ?_
    refine mv_lload dX12_judged_146 rfl ?_
    refine mv_lmul dX12_judged_148 ?_
    refine mv_topL (y := lN (10 * (q_od ln b (wo.2.2.1 k) 1 x (wo.2.1 k + 1) (wo.2.1 k + q) 0))) (lN_mul _ _) ?_
    refine mv_lcmp dX12_judged_149 ?_
    refine mv_if_gt (tgt := 157) dX12_judged_150 (by decide) (fun c150 => ?_) (fun c150 => ?_)
    · have c150 : 10 * (q_od ln b (wo.2.2.1 k) 1 x (wo.2.1 k + 1) (wo.2.1 k + q) 0) < q_od ln b (wo.2.2.1 k) 1 x (wo.2.1 k + 1) (wo.2.1 k + q) (q_ut b (nI (wo.2.1 k))) := (lN_ltB (by omega) (by omega)).mp ((lg_cmp_gt _ _).mp c150)
      refine mv_iconst (v := nI 2) dX12_judged_157 (by decide) ?_
      refine mv_istore dX12_judged_158 (by decide) ?_
      refine mv_iload dX12_judged_160 rfl ?_
      refine mv_if_ne (tgt := 170) dX12_judged_162 (by decide) (fun z => absurd ((by decide)) z) (fun c162 => ?_)
      refine mv_iload dX12_judged_165 rfl ?_
      refine mv_goto (tgt := 201) dX12_judged_167 (by decide) ?_
      have eJ : (q_jk ln wo b k x q) = 2 := (by unfold q_jk q_kn; first | exact if_pos (by omega) | exact (if_neg (by omega)).trans (if_pos (by omega)) | exact (if_neg (by omega)).trans (if_neg (by omega)))
      exact mv_iret dX12_judged_201 rfl rfl ⟨(by rw [eJ]), rfl⟩
    · have c150 : ¬ (10 * (q_od ln b (wo.2.2.1 k) 1 x (wo.2.1 k + 1) (wo.2.1 k + q) 0) < q_od ln b (wo.2.2.1 k) 1 x (wo.2.1 k + 1) (wo.2.1 k + q) (q_ut b (nI (wo.2.1 k)))) := fun z => c150 ((lg_cmp_gt _ _).mpr ((lN_ltB (by omega) (by omega)).mpr z))
      refine mv_iconst (v := nI 1) dX12_judged_153 (by decide) ?_
      refine mv_goto (tgt := 158) dX12_judged_154 (by decide) ?_
      refine mv_istore dX12_judged_158 (by decide) ?_
      refine mv_iload dX12_judged_160 rfl ?_
      refine mv_if_ne (tgt := 170) dX12_judged_162 (by decide) (fun z => absurd ((by decide)) z) (fun c162 => ?_)
      refine mv_iload dX12_judged_165 rfl ?_
      refine mv_goto (tgt := 201) dX12_judged_167 (by decide) ?_
      have eJ : (q_jk ln wo b k x q) = 1 := (by unfold q_jk q_kn; first | exact if_pos (by omega) | exact (if_neg (by omega)).trans (if_pos (by omega)) | exact (if_neg (by omega)).trans (if_neg (by omega)))
      exact mv_iret dX12_judged_201 rfl rfl ⟨(by rw [eJ]), rfl⟩
  · have c134 : ¬ (2 * (q_od ln b (wo.2.2.1 k) 1 x (wo.2.1 k + 1) (wo.2.1 k + q) 0) < q_od ln b (wo.2.2.1 k) 1 x (wo.2.1 k + 1) (wo.2.1 k + q) (q_ut b (nI (wo.2.1 k)))) := fun z => c134 ((lg_cmp_gt _ _).mpr ((lN_ltB (by omega) (by omega)).mpr z))
    refine mv_iconst (v := nI 0) dX12_judged_137 (by decide) ?_
    refine mv_goto (tgt := 158) dX12_judged_138 (by decide) ?_
    refine mv_istore dX12_judged_158 (by decide) ?_
    refine mv_iload dX12_judged_160 rfl ?_
    refine mv_if_ne (tgt := 170) dX12_judged_162 (by decide) (fun z => absurd ((by decide)) z) (fun c162 => ?_)
    refine mv_iload dX12_judged_165 rfl ?_
    refine mv_goto (tgt := 201) dX12_judged_167 (by decide) ?_
    have eJ : (q_jk ln wo b k x q) = 0 := (by unfold q_jk q_kn; first | exact if_pos (by omega) | exact (if_neg (by omega)).trans (if_pos (by omega)) | exact (if_neg (by omega)).trans (if_neg (by omega)))
    exact mv_iret dX12_judged_201 rfl rfl ⟨(by rw [eJ]), rfl⟩
set_option maxRecDepth 100000 in
theorem k_X12_judged_G1 {ev : mv_E} {h : mv_H} {xt : Int32} {xf : Int32} {xa : Int32} {xo : Int64} {xe : Int32} {xu : Int32} {xs : Int32} {xg : Int32} {xc : Int32} {b : t_B} {t : Nat} {wo : q_W} {lw : Nat → Int32} {ln : Nat → Nat} {k : Nat} {x : Nat} {q : Nat} {dd : Nat} (HX : h[52]? = some (.inr (12, [.ref 53, .ref 54, .int xt, .int xf, .int xa, .long xo, .int xe, .int xu, .ref 55, .int xs, .int (nI b.1), .ref 56, .ref 57, .ref 58, .int (nI t), .int (nI b.2.1), .ref 59, .ref 60, .ref 61, .ref 62, .int xg, .ref 63, .ref 64, .ref 65, .ref 66, .ref 67, .ref 68, .ref 69, .int xc, .ref 70, .ref 71, .ref 72, .ref 73, .ref 74, .ref 75, .int (nI wo.1), .ref 76, .ref 77, .ref 78, .ref 79, .ref 80]))) (X76 : h[76]? = some (.inl (0, 12, .inl (fun j => nI (wo.2.1 j))))) (X77 : h[77]? = some (.inl (0, 12, .inl (fun j => nI (wo.2.2.1 j))))) (X78 : h[78]? = some (.inl (0, 12, .inl (fun j => nI (wo.2.2.2 j))))) (X56 : h[56]? = some (.inl (0, 60, .inl (fun j => nI (b.2.2.1 j))))) (X57 : h[57]? = some (.inl (0, 60, .inl (fun j => nI (b.2.2.2.1 j))))) (X58 : h[58]? = some (.inl (0, 60, .inl (fun j => nI (b.2.2.2.2 j))))) (X53 : h[53]? = some (.inl (0, 8, .inl lw))) (hwo : q_WOI wo) (hk : k < wo.1) (hw : q_LW lw ln) (hb : q_BI dd b) (hz1 : 1 ≤ x) (hz9 : x ≤ 9) (hn1 : 1 ≤ q) (hn6 : q ≤ 60) (hdn : wo.2.1 k + q ≤ 399) : mv_K ev mX12_judged [.ref 52, .int (nI k), .int (nI x), .int (nI q), .int (nI 1)] h (some (.int (q_cmp (wo.2.2.2 k) (q_jk ln wo b k x q)))) h := by
  refine mv_Kof ?_
  show mv_g ev mX12_judged 0 [.ref 52, .int (nI k), .int (nI x), .int (nI q), .int (nI 1), .null, .null, .null, .null, .null, .null] [] h _
  have hn := hwo.1
  have n1 := hwo.2.1 k
  have n2 := hwo.2.2.1 k
  have n7 := hwo.2.2.2 k
  have n9 := hb.1
  have n3 := q_od_le ln b (wo.2.2.1 k) 1 x (wo.2.1 k + 1) (wo.2.1 k + q) (q_ut b (nI (wo.2.1 k)))
  have n4 := q_od_le ln b (wo.2.2.1 k) 1 x (wo.2.1 k + 1) (wo.2.1 k + q) 0
  refine mv_iload_n dX12_judged_0 rfl ?_
  refine mv_i2l dX12_judged_1 ?_
  refine mv_lconst (v := lN 0) dX12_judged_2 rfl ?_
  refine mv_aload_n dX12_judged_3 rfl ?_
  refine mv_getf (ci := 12) (f := 35) dX12_judged_4 HX rfl (by decide) wd_1234 rfl ?_
  refine mv_iconst (v := nI 1) dX12_judged_7 (by decide) ?_
  refine mv_isub dX12_judged_8 ?_
  refine mv_i2l dX12_judged_9 ?_
  refine mv_cS3 dX12_judged_10 lk_X12_judged_107 (Nat.le_of_ble_eq_true rfl) (Nat.le_of_ble_eq_true rfl) (k_X12_in (ev := ev)) ?_
  refine mv_if_ne (tgt := 20) dX12_judged_13 (by decide) (fun c13 => ?_) (fun z => absurd z ((fun z => (mv_b_0 _).mp z ((q_isk (n := wo.1) (N := 12) hn (by decide)).mpr ⟨Int32.not_lt.mp (nI_pos (by omega)), (nI_ltI (by omega) (by omega)).mpr (by omega), (nI_ltI (by omega) (by omega)).mpr (by omega)⟩))))
  refine mv_aload_n dX12_judged_20 rfl ?_
  refine mv_getf (ci := 12) (f := 36) dX12_judged_21 HX rfl (by decide) wd_1235 rfl ?_
  refine mv_iload_n dX12_judged_24 rfl ?_
  refine mv_iaN (j := k) (x := nI (wo.2.1 k)) dX12_judged_25 X76 rfl (by decide) (by omega) rfl ?_
  refine mv_istore dX12_judged_26 (by decide) ?_
  refine mv_iload_n dX12_judged_28 rfl ?_
  refine mv_cS1 dX12_judged_29 lk_X12_judged_204 (Nat.le_of_ble_eq_true rfl) (Nat.le_of_ble_eq_true rfl) (k_X12_isSize (ev := ev)) ?_
  refine mv_if_eq (tgt := 68) dX12_judged_32 (by decide) (fun z => absurd z ((fun z => (mv_b_0 _).mp z (mv_in_i (by omega) (by omega) (by omega))))) (fun c32 => ?_)
  refine mv_iload_n dX12_judged_35 rfl ?_
  refine mv_i2l dX12_judged_36 ?_
  refine mv_topL (y := lN q) (nI_l (by omega)) ?_
  refine mv_lconst (v := lN 1) dX12_judged_37 rfl ?_
  refine mv_ldc2 (v := lN 60) dX12_judged_38 wd_1550 ?_
  refine mv_cS3 dX12_judged_41 lk_X12_judged_107 (Nat.le_of_ble_eq_true rfl) (Nat.le_of_ble_eq_true rfl) (k_X12_in (ev := ev)) ?_
  refine mv_if_eq (tgt := 68) dX12_judged_44 (by decide) (fun z => absurd z ((fun z => (mv_b_0 _).mp z ((and_congr (lN_leB (by omega) (by omega)) (lN_leB (by omega) (by omega))).mpr ⟨by omega, by omega⟩)))) (fun c44 => ?_)
  refine mv_iload dX12_judged_47 rfl ?_
  refine mv_iload_n dX12_judged_49 rfl ?_
  refine mv_iadd dX12_judged_50 ?_
  refine mv_topI (y := nI (wo.2.1 k + q)) (nI_add _ _) ?_
  refine mv_sipush (v := nI 399) dX12_judged_51 (by decide) ?_
  refine mv_icmp_gt (tgt := 68) dX12_judged_54 (by decide) (fun z => absurd z ((fun q2 => absurd ((nI_ltI (by omega) (by omega)).mp q2) (by omega)))) (fun c54 => ?_)
  refine mv_iload dX12_judged_57 rfl ?_
  refine mv_i2l dX12_judged_59 ?_
  refine mv_topL (y := lN 1) (nI_l (by omega)) ?_
  refine mv_lconst (v := lN 0) dX12_judged_60 rfl ?_
  refine mv_lconst (v := lN 1) dX12_judged_61 rfl ?_
  refine mv_cS3 dX12_judged_62 lk_X12_judged_107 (Nat.le_of_ble_eq_true rfl) (Nat.le_of_ble_eq_true rfl) (k_X12_in (ev := ev)) ?_
  refine mv_if_ne (tgt := 72) dX12_judged_65 (by decide) (fun c65 => ?_) (fun z => absurd z ((fun z => (mv_b_0 _).mp z ((and_congr (lN_leB (by omega) (by omega)) (lN_leB (by omega) (by omega))).mpr ⟨by omega, by omega⟩))))
  refine mv_aload_n dX12_judged_72 rfl ?_
  refine mv_aload_n dX12_judged_73 rfl ?_
  refine mv_iload dX12_judged_74 rfl ?_
  refine mv_cV1 (ci := 12) dX12_judged_76 lk_X12_judged_275 HX rfl (Nat.le_of_ble_eq_true rfl) (Nat.le_of_ble_eq_true rfl) (k_X12_upTo (ev := ev) HX X56 n9) ?_
  refine mv_aload_n dX12_judged_79 rfl ?_
  refine mv_getf (ci := 12) (f := 37) dX12_judged_80 HX rfl (by decide) wd_1236 rfl ?_
  refine mv_iload_n dX12_judged_83 rfl ?_
  refine mv_iaN (j := k) (x := nI (wo.2.2.1 k)) dX12_judged_84 X77 rfl (by decide) (by omega) rfl ?_
  refine mv_iconst (v := nI 1) dX12_judged_85 (by decide) ?_
  refine mv_iload_n dX12_judged_86 rfl ?_
  refine mv_iload dX12_judged_87 rfl ?_
  refine mv_iconst (v := nI 1) dX12_judged_89 (by decide) ?_
  refine mv_iadd dX12_judged_90 ?_
  refine mv_topI (y := nI (wo.2.1 k + 1)) (nI_add _ _) ?_
  refine mv_iload dX12_judged_91 rfl ?_
  refine mv_iload_n dX12_judged_93 rfl ?_
  refine mv_iadd dX12_judged_94 ?_
  refine mv_topI (y := nI (wo.2.1 k + q)) (nI_add _ _) ?_
  refine mv_cV6 (ci := 12) dX12_judged_95 lk_X12_judged_278 HX rfl (Nat.le_of_ble_eq_true rfl) (Nat.le_of_ble_eq_true rfl) (k_X12_oddsOf (ev := ev) HX X56 X57 X58 X53 hw n2 (by omega) hz1 hz9 hb hdn (by omega) (q_ut_le _ _) (q_ut_a hb (by omega) ((nI_ltI (by omega) (by omega)).mpr (by omega)))) ?_
  refine mv_i2l dX12_judged_98 ?_
  refine mv_topL (y := lN (q_od ln b (wo.2.2.1 k) 1 x (wo.2.1 k + 1) (wo.2.1 k + q) (q_ut b (nI (wo.2.1 k))))) (nI_l (by omega)) ?_
  refine mv_lstore dX12_judged_99 (by decide) ?_
  refine mv_aload_n dX12_judged_101 rfl ?_
  refine mv_iconst (v := nI 0) dX12_judged_102 (by decide) ?_
  refine mv_aload_n dX12_judged_103 rfl ?_
  refine mv_getf (ci := 12) (f := 37) dX12_judged_104 HX rfl (by decide) wd_1236 rfl ?_
  refine mv_iload_n dX12_judged_107 rfl ?_
  refine mv_iaN (j := k) (x := nI (wo.2.2.1 k)) dX12_judged_108 X77 rfl (by decide) (by omega) rfl ?_
  refine mv_iconst (v := nI 1) dX12_judged_109 (by decide) ?_
  refine mv_iload_n dX12_judged_110 rfl ?_
  refine mv_iload dX12_judged_111 rfl ?_
  refine mv_iconst (v := nI 1) dX12_judged_113 (by decide) ?_
  refine mv_iadd dX12_judged_114 ?_
  refine mv_topI (y := nI (wo.2.1 k + 1)) (nI_add _ _) ?_
  refine mv_iload dX12_judged_115 rfl ?_
  refine mv_iload_n dX12_judged_117 rfl ?_
  refine mv_iadd dX12_judged_118 ?_
  refine mv_topI (y := nI (wo.2.1 k + q)) (nI_add _ _) ?_
  refine mv_cV6 (ci := 12) dX12_judged_119 lk_X12_judged_278 HX rfl (Nat.le_of_ble_eq_true rfl) (Nat.le_of_ble_eq_true rfl) (k_X12_oddsOf (ev := ev) HX X56 X57 X58 X53 hw n2 (by omega) hz1 hz9 hb hdn (by omega) (Nat.zero_le _) (fun i hi => absurd hi (Nat.not_lt_zero _))) ?_
  refine mv_i2l dX12_judged_122 ?_
  refine mv_topL (y := lN (q_od ln b (wo.2.2.1 k) 1 x (wo.2.1 k + 1) (wo.2.1 k + q) 0)) (nI_l (by omega)) ?_
  refine mv_lstore dX12_judged_123 (by decide) ?_
  refine mv_lload dX12_judged_125 rfl ?_
  refine mv_ldc2 (v := lN 2) dX12_judged_127 wd_1534 ?_
  refine mv_lload dX12_judged_130 rfl ?_
  refine mv_lmul dX12_judged_132 ?_
  refine mv_topL (y := lN (2 * (q_od ln b (wo.2.2.1 k) 1 x (wo.2.1 k + 1) (wo.2.1 k + q) 0))) (lN_mul _ _) ?_
  refine mv_lcmp dX12_judged_133 ?_
  refine mv_if_gt (tgt := 141) dX12_judged_134 (by decide) (fun c134 => ?_) (fun c134 => ?_)
  · have c134 : 2 * (q_od ln b (wo.2.2.1 k) 1 x (wo.2.1 k + 1) (wo.2.1 k + q) 0) < q_od ln b (wo.2.2.1 k) 1 x (wo.2.1 k + 1) (wo.2.1 k + q) (q_ut b (nI (wo.2.1 k))) := (lN_ltB (by omega) (by omega)).mp ((lg_cmp_gt _ _).mp c134)
    refine mv_lload dX12_judged_141 rfl ?_
    refine mv_ldc2 (v := lN 10) dX12_judged_143 wd_1651 ?_
    refine mv_lload dX12_judged_146 rfl ?_
    refine mv_lmul dX12_judged_148 ?_
    refine mv_topL (y := lN (10 * (q_od ln b (wo.2.2.1 k) 1 x (wo.2.1 k + 1) (wo.2.1 k + q) 0))) (lN_mul _ _) ?_
    refine mv_lcmp dX12_judged_149 ?_
    refine mv_if_gt (tgt := 157) dX12_judged_150 (by decide) (fun c150 => ?_) (fun c150 => ?_)
    · have c150 : 10 * (q_od ln b (wo.2.2.1 k) 1 x (wo.2.1 k + 1) (wo.2.1 k + q) 0) < q_od ln b (wo.2.2.1 k) 1 x (wo.2.1 k + 1) (wo.2.1 k + q) (q_ut b (nI (wo.2.1 k))) := (lN_ltB (by omega) (by omega)).mp ((lg_cmp_gt _ _).mp c150)
      refine mv_iconst (v := nI 2) dX12_judged_157 (by decide) ?_
      refine mv_istore dX12_judged_158 (by decide) ?_
      refine mv_iload dX12_judged_160 rfl ?_
      refine mv_if_ne (tgt := 170) dX12_judged_162 (by decide) (fun c162 => ?_) (fun z => absurd z ((by decide)))
      refine mv_aload_n dX12_judged_170 rfl ?_
      refine mv_getf (ci := 12) (f := 38) dX12_judged_171 HX rfl (by decide) wd_1237 rfl ?_
      refine mv_iload_n dX12_judged_174 rfl ?_
      refine mv_iaN (j := k) (x := nI (wo.2.2.2 k)) dX12_judged_175 X78 rfl (by decide) (by omega) rfl ?_
      refine mv_iload dX12_judged_176 rfl ?_
      refine mv_icmp_le (tgt := 185) dX12_judged_178 (by decide) (fun c178 => ?_) (fun c178 => ?_)
      · have c178 : wo.2.2.2 k ≤ 2 := (nI_leI (by omega) (by omega)).mp c178
        refine mv_aload_n dX12_judged_185 rfl ?_
        refine mv_getf (ci := 12) (f := 38) dX12_judged_186 HX rfl (by decide) wd_1237 rfl ?_
        refine mv_iload_n dX12_judged_189 rfl ?_
        refine mv_iaN (j := k) (x := nI (wo.2.2.2 k)) dX12_judged_190 X78 rfl (by decide) (by omega) rfl ?_
        refine mv_iload dX12_judged_191 rfl ?_
        refine mv_icmp_ge (tgt := 200) dX12_judged_193 (by decide) (fun c193 => ?_) (fun c193 => ?_)
        · have c193 : 2 ≤ wo.2.2.2 k := (nI_leI (by omega) (by omega)).mp c193
          refine mv_iconst (v := nI 0) dX12_judged_200 (by decide) ?_
          have eJ : (q_jk ln wo b k x q) = 2 := (by unfold q_jk q_kn; first | exact if_pos (by omega) | exact (if_neg (by omega)).trans (if_pos (by omega)) | exact (if_neg (by omega)).trans (if_neg (by omega)))
          have e9 : q_cmp (wo.2.2.2 k) (q_jk ln wo b k x q) = nI 0 := (by rw [eJ]; unfold q_cmp; first | exact if_pos (by omega) | exact (if_neg (by omega)).trans (if_pos (by omega)) | exact (if_neg (by omega)).trans (if_neg (by omega)))
          exact mv_iret dX12_judged_201 rfl rfl ⟨(by rw [e9]), rfl⟩
        · have c193 : ¬ (2 ≤ wo.2.2.2 k) := fun z => c193 ((nI_leI (by omega) (by omega)).mpr z)
          refine mv_iconst (v := (-1)) dX12_judged_196 (by decide) ?_
          refine mv_goto (tgt := 201) dX12_judged_197 (by decide) ?_
          have eJ : (q_jk ln wo b k x q) = 2 := (by unfold q_jk q_kn; first | exact if_pos (by omega) | exact (if_neg (by omega)).trans (if_pos (by omega)) | exact (if_neg (by omega)).trans (if_neg (by omega)))
          have e9 : q_cmp (wo.2.2.2 k) (q_jk ln wo b k x q) = -1 := (by rw [eJ]; unfold q_cmp; first | exact if_pos (by omega) | exact (if_neg (by omega)).trans (if_pos (by omega)) | exact (if_neg (by omega)).trans (if_neg (by omega)))
          exact mv_iret dX12_judged_201 rfl rfl ⟨(by rw [e9]), rfl⟩
      · have c178 : ¬ (wo.2.2.2 k ≤ 2) := fun z => c178 ((nI_leI (by omega) (by omega)).mpr z)
        refine mv_iconst (v := nI 1) dX12_judged_181 (by decide) ?_
        refine mv_goto (tgt := 201) dX12_judged_182 (by decide) ?_
        have eJ : (q_jk ln wo b k x q) = 2 := (by unfold q_jk q_kn; first | exact if_pos (by omega) | exact (if_neg (by omega)).trans (if_pos (by omega)) | exact (if_neg (by omega)).trans (if_neg (by omega)))
        have e9 : q_cmp (wo.2.2.2 k) (q_jk ln wo b k x q) = nI 1 := (by rw [eJ]; unfold q_cmp; first | exact if_pos (by omega) | exact (if_neg (by omega)).trans (if_pos (by omega)) | exact (if_neg (by omega)).trans (if_neg (by omega)))
        exact mv_iret dX12_judged_201 rfl rfl ⟨(by rw [e9]), rfl⟩
    · have c150 : ¬ (10 * (q_od ln b (wo.2.2.1 k) 1 x (wo.2.1 k + 1) (wo.2.1 k + q) 0) < q_od ln b (wo.2.2.1 k) 1 x (wo.2.1 k + 1) (wo.2.1 k + q) (q_ut b (nI (wo.2.1 k)))) := fun z => c150 ((lg_cmp_gt _ _).mpr ((lN_ltB (by omega) (by omega)).mpr z))
      refine mv_iconst (v := nI 1) dX12_judged_153 (by decide) ?_
      refine mv_goto (tgt := 158) dX12_judged_154 (by decide) ?_
      refine mv_istore dX12_judged_158 (by decide) ?_
      refine mv_iload dX12_judged_160 rfl ?_
      refine mv_if_ne (tgt := 170) dX12_judged_162 (by decide) (fun c162 => ?_) (fun z => absurd z ((by decide)))
      refine mv_aload_n dX12_judged_170 rfl ?_
      refine mv_getf (ci := 12) (f := 38) dX12_judged_171 HX rfl (by decide) wd_1237 rfl ?_
      refine mv_iload_n dX12_judged_174 rfl ?_
      refine mv_iaN (j := k) (x := nI (wo.2.2.2 k)) dX12_judged_175 X78 rfl (by decide) (by omega) rfl ?_
      refine mv_iload dX12_judged_176 rfl ?_
      refine mv_icmp_le (tgt := 185) dX12_judged_178 (by decide) (fun c178 => ?_) (fun c178 => ?_)
      · have c178 : wo.2.2.2 k ≤ 1 := (nI_leI (by omega) (by omega)).mp c178
        refine mv_aload_n dX12_judged_185 rfl ?_
        refine mv_getf (ci := 12) (f := 38) dX12_judged_186 HX rfl (by decide) wd_1237 rfl ?_
        refine mv_iload_n dX12_judged_189 rfl ?_
        refine mv_iaN (j := k) (x := nI (wo.2.2.2 k)) dX12_judged_190 X78 rfl (by decide) (by omega) rfl ?_
        refine mv_iload dX12_judged_191 rfl ?_
        refine mv_icmp_ge (tgt := 200) dX12_judged_193 (by decide) (fun c193 => ?_) (fun c193 => ?_)
        · have c193 : 1 ≤ wo.2.2.2 k := (nI_leI (by omega) (by omega)).mp c193
          refine mv_iconst (v := nI 0) dX12_judged_200 (by decide) ?_
          have eJ : (q_jk ln wo b k x q) = 1 := (by unfold q_jk q_kn; first | exact if_pos (by omega) | exact (if_neg (by omega)).trans (if_pos (by omega)) | exact (if_neg (by omega)).trans (if_neg (by omega)))
          have e9 : q_cmp (wo.2.2.2 k) (q_jk ln wo b k x q) = nI 0 := (by rw [eJ]; unfold q_cmp; first | exact if_pos (by omega) | exact (if_neg (by omega)).trans (if_pos (by omega)) | exact (if_neg (by omega)).trans (if_neg (by omega)))
          exact mv_iret dX12_judged_201 rfl rfl ⟨(by rw [e9]), rfl⟩
        · have c193 : ¬ (1 ≤ wo.2.2.2 k) := fun z => c193 ((nI_leI (by omega) (by omega)).mpr z)
          refine mv_iconst (v := (-1)) dX12_judged_196 (by decide) ?_
          refine mv_goto (tgt := 201) dX12_judged_197 (by decide) ?_
          have eJ : (q_jk ln wo b k x q) = 1 := (by unfold q_jk q_kn; first | exact if_pos (by omega) | exact (if_neg (by omega)).trans (if_pos (by omega)) | exact (if_neg (by omega)).trans (if_neg (by omega)))
          have e9 : q_cmp (wo.2.2.2 k) (q_jk ln wo b k x q) = -1 := (by rw [eJ]; unfold q_cmp; first | exact if_pos (by omega) | exact (if_neg (by omega)).trans (if_pos (by omega)) | exact (if_neg (by omega)).trans (if_neg (by omega)))
          exact mv_iret dX12_judged_201 rfl rfl ⟨(by rw [e9]), rfl⟩
      · have c178 : ¬ (wo.2.2.2 k ≤ 1) := fun z => c178 ((nI_leI (by omega) (by omega)).mpr z)
        refine mv_iconst (v := nI 1) dX12_judged_181 (by decide) ?_
        refine mv_goto (tgt := 201) dX12_judged_182 (by decide) ?_
        have eJ : (q_jk ln wo b k x q) = 1 := (by unfold q_jk q_kn; first | exact if_pos (by omega) | exact (if_neg (by omega)).trans (if_pos (by omega)) | exact (if_neg (by omega)).trans (if_neg (by omega)))
        have e9 : q_cmp (wo.2.2.2 k) (q_jk ln wo b k x q) = nI 1 := (by rw [eJ]; unfold q_cmp; first | exact if_pos (by omega) | exact (if_neg (by omega)).trans (if_pos (by omega)) | exact (if_neg (by omega)).trans (if_neg (by omega)))
        exact mv_iret dX12_judged_201 rfl rfl ⟨(by rw [e9]), rfl⟩
  · have c134 : ¬ (2 * (q_od ln b (wo.2.2.1 k) 1 x (wo.2.1 k + 1) (wo.2.1 k + q) 0) < q_od ln b (wo.2.2.1 k) 1 x (wo.2.1 k + 1) (wo.2.1 k + q) (q_ut b (nI (wo.2.1 k)))) := fun z => c134 ((lg_cmp_gt _ _).mpr ((lN_ltB (by omega) (by omega)).mpr z))
    refine mv_iconst (v := nI 0) dX12_judged_137 (by decide) ?_
    refine mv_goto (tgt := 158) dX12_judged_138 (by decide) ?_
    refine mv_istore dX12_judged_158 (by decide) ?_
    refine mv_iload dX12_judged_160 rfl ?_
    refine mv_if_ne (tgt := 170) dX12_judged_162 (by decide) (fun c162 => ?_) (fun z => absurd z ((by decide)))
    refine mv_aload_n dX12_judged_170 rfl ?_
    refine mv_getf (ci := 12) (f := 38) dX12_judged_171 HX rfl (by decide) wd_1237 rfl ?_
    refine mv_iload_n dX12_judged_174 rfl ?_
    refine mv_iaN (j := k) (x := nI (wo.2.2.2 k)) dX12_judged_175 X78 rfl (by decide) (by omega) rfl ?_
    refine mv_iload dX12_judged_176 rfl ?_
    refine mv_icmp_le (tgt := 185) dX12_judged_178 (by decide) (fun c178 => ?_) (fun c178 => ?_)
    · have c178 : wo.2.2.2 k ≤ 0 := (nI_leI (by omega) (by omega)).mp c178
      refine mv_aload_n dX12_judged_185 rfl ?_
      refine mv_getf (ci := 12) (f := 38) dX12_judged_186 HX rfl (by decide) wd_1237 rfl ?_
      refine mv_iload_n dX12_judged_189 rfl ?_
      refine mv_iaN (j := k) (x := nI (wo.2.2.2 k)) dX12_judged_190 X78 rfl (by decide) (by omega) rfl ?_
      refine mv_iload dX12_judged_191 rfl ?_
      refine mv_icmp_ge (tgt := 200) dX12_judged_193 (by decide) (fun c193 => ?_) (fun c193 => ?_)
      · have c193 : 0 ≤ wo.2.2.2 k := (nI_leI (by omega) (by omega)).mp c193
        refine mv_iconst (v := nI 0) dX12_judged_200 (by decide) ?_
        have eJ : (q_jk ln wo b k x q) = 0 := (by unfold q_jk q_kn; first | exact if_pos (by omega) | exact (if_neg (by omega)).trans (if_pos (by omega)) | exact (if_neg (by omega)).trans (if_neg (by omega)))
        have e9 : q_cmp (wo.2.2.2 k) (q_jk ln wo b k x q) = nI 0 := (by rw [eJ]; unfold q_cmp; first | exact if_pos (by omega) | exact (if_neg (by omega)).trans (if_pos (by omega)) | exact (if_neg (by omega)).trans (if_neg (by omega)))
        exact mv_iret dX12_judged_201 rfl rfl ⟨(by rw [e9]), rfl⟩
      · have c193 : ¬ (0 ≤ wo.2.2.2 k) := fun z => c193 ((nI_leI (by omega) (by omega)).mpr z)
        refine mv_iconst (v := (-1)) dX12_judged_196 (by decide) ?_
        refine mv_goto (tgt := 201) dX12_judged_197 (by decide) ?_
        have eJ : (q_jk ln wo b k x q) = 0 := (by unfold q_jk q_kn; first | exact if_pos (by omega) | exact (if_neg (by omega)).trans (if_pos (by omega)) | exact (if_neg (by omega)).trans (if_neg (by omega)))
        have e9 : q_cmp (wo.2.2.2 k) (q_jk ln wo b k x q) = -1 := (by rw [eJ]; unfold q_cmp; first | exact if_pos (by omega) | exact (if_neg (by omega)).trans (if_pos (by omega)) | exact (if_neg (by omega)).trans (if_neg (by omega)))
        exact mv_iret dX12_judged_201 rfl rfl ⟨(by rw [e9]), rfl⟩
    · have c178 : ¬ (wo.2.2.2 k ≤ 0) := fun z => c178 ((nI_leI (by omega) (by omega)).mpr z)
      refine mv_iconst (v := nI 1) dX12_judged_181 (by decide) ?_
      refine mv_goto (tgt := 201) dX12_judged_182 (by decide) ?_
      have eJ : (q_jk ln wo b k x q) = 0 := (by unfold q_jk q_kn; first | exact if_pos (by omega) | exact (if_neg (by omega)).trans (if_pos (by omega)) | exact (if_neg (by omega)).trans (if_neg (by omega)))
      have e9 : q_cmp (wo.2.2.2 k) (q_jk ln wo b k x q) = nI 1 := (by rw [eJ]; unfold q_cmp; first | exact if_pos (by omega) | exact (if_neg (by omega)).trans (if_pos (by omega)) | exact (if_neg (by omega)).trans (if_neg (by omega)))
      exact mv_iret dX12_judged_201 rfl rfl ⟨(by rw [e9]), rfl⟩
/-- an image in a row of 200 -/
def q_i1 (o : t_B) (u i : Nat) : Nat := if i = 0 then o.1 else if i = 1 then u else if i = 2 then o.2.1 else if i < 183 then (if i % 3 = 0 then o.2.2.1 ((i - 3) / 3) else if i % 3 = 1 then o.2.2.2.1 ((i - 3) / 3) else o.2.2.2.2 ((i - 3) / 3)) else 0
def q_im (o : t_B) (u : Nat) (o2 : t_B) (u2 : Nat) : Nat → Nat := fun i => if i < 200 then q_i1 o u i else q_i1 o2 u2 (i - 200)
def q_ik (b : t_B) (t a y : Nat) (f : Nat → Nat) : Nat → Nat := fun i => if a ≤ i ∧ i < a + y then q_i1 b t (i - a) else f i
theorem q_ik_0 (b : t_B) (t a : Nat) (f : Nat → Nat) : q_ik b t a 0 f = f := by
  funext i
  exact if_neg (by omega)
theorem q_ik_s {b : t_B} {t a y x : Nat} {f : Nat → Nat} (h : x = q_i1 b t y) : t_up (q_ik b t a y f) (a + y) x = q_ik b t a (y + 1) f := by
  funext i
  unfold t_up q_ik
  by_cases c : i = a + y
  · rw [if_pos c, if_pos (by omega), h, show i - a = y by omega]
  · rw [if_neg c]
    by_cases c2 : a ≤ i ∧ i < a + y
    · rw [if_pos c2, if_pos (by omega)]
    · rw [if_neg c2, if_neg (by omega)]
theorem q_i1_d {o : t_B} {u y : Nat} (h : y < 60) : q_i1 o u (3 + 3 * y) = o.2.2.1 y := by
  unfold q_i1
  rw [if_neg (by omega), if_neg (by omega), if_neg (by omega), if_pos (by omega), if_pos (by omega), show (3 + 3 * y - 3) / 3 = y by omega]
theorem q_i1_p {o : t_B} {u y : Nat} (h : y < 60) : q_i1 o u (4 + 3 * y) = o.2.2.2.1 y := by
  unfold q_i1
  rw [if_neg (by omega), if_neg (by omega), if_neg (by omega), if_pos (by omega), if_neg (by omega), if_pos (by omega), show (4 + 3 * y - 3) / 3 = y by omega]
theorem q_i1_z {o : t_B} {u y : Nat} (h : y < 60) : q_i1 o u (5 + 3 * y) = o.2.2.2.2 y := by
  unfold q_i1
  rw [if_neg (by omega), if_neg (by omega), if_neg (by omega), if_pos (by omega), if_neg (by omega), if_neg (by omega), show (5 + 3 * y - 3) / 3 = y by omega]
theorem q_i1_c {o b : t_B} {t i : Nat} : q_i1 (q_cb o b) t i = q_i1 b t i := by
  unfold q_i1
  by_cases c0 : i = 0
  · rw [if_pos c0, if_pos c0]; rfl
  · rw [if_neg c0, if_neg c0]
    by_cases c1 : i = 1
    · rw [if_pos c1, if_pos c1]
    · rw [if_neg c1, if_neg c1]
      by_cases c2 : i = 2
      · rw [if_pos c2, if_pos c2]; rfl
      · rw [if_neg c2, if_neg c2]
        by_cases c3 : i < 183
        · have e : (i - 3) / 3 < 60 := by omega
          have e1 : (q_cb o b).2.2.1 ((i - 3) / 3) = b.2.2.1 ((i - 3) / 3) := if_pos e
          have e2 : (q_cb o b).2.2.2.1 ((i - 3) / 3) = b.2.2.2.1 ((i - 3) / 3) := if_pos e
          have e3 : (q_cb o b).2.2.2.2 ((i - 3) / 3) = b.2.2.2.2 ((i - 3) / 3) := if_pos e
          rw [if_pos c3, if_pos c3, e1, e2, e3]
        · rw [if_neg c3, if_neg c3]
theorem q_ik_1 {b o o2 : t_B} {t u u2 : Nat} : q_ik b t 0 183 (q_im o u o2 u2) = q_im (q_cb o b) t o2 u2 := by
  funext i
  unfold q_ik q_im
  by_cases c : i < 183
  · rw [if_pos (by omega), if_pos (show i < 200 by omega), q_i1_c, Nat.sub_zero]
  · rw [if_neg (by omega)]
    by_cases c2 : i < 200
    · rw [if_pos c2, if_pos c2]
      unfold q_i1
      rw [if_neg (by omega), if_neg (by omega), if_neg (by omega), if_neg c, if_neg (by omega), if_neg (by omega), if_neg (by omega), if_neg c]
    · rw [if_neg c2, if_neg c2]
theorem q_ik_2 {b o o2 : t_B} {t u u2 : Nat} : q_ik b t 200 183 (q_im o u o2 u2) = q_im o u (q_cb o2 b) t := by
  funext i
  unfold q_ik q_im
  by_cases c0 : i < 200
  · rw [if_neg (by omega), if_pos c0, if_pos c0]
  · rw [if_neg c0, if_neg c0]
    by_cases c : i - 200 < 183
    · rw [if_pos (by omega), q_i1_c]
    · rw [if_neg (by omega)]
      unfold q_i1
      rw [if_neg (by omega), if_neg (by omega), if_neg (by omega), if_neg c, if_neg (by omega), if_neg (by omega), if_neg (by omega), if_neg c]
/-- what is copied up to y -/
def q_kp (f g : Nat → Nat) (y : Nat) : Nat → Nat := fun i => if i < y then f i else g i
theorem q_kp_0 (f g : Nat → Nat) : q_kp f g 0 = g := by
  funext i
  exact if_neg (Nat.not_lt_zero _)
theorem q_kp_s (f g : Nat → Nat) (y : Nat) : t_up (q_kp f g y) y (f y) = q_kp f g (y + 1) := by
  funext i
  unfold t_up q_kp
  by_cases c : i = y
  · rw [if_pos c, if_pos (by omega), c]
  · rw [if_neg c]
    by_cases c2 : i < y
    · rw [if_pos c2, if_pos (by omega)]
    · rw [if_neg c2, if_neg (by omega)]
set_option maxRecDepth 100000 in
theorem k_X12_keep_R1 {ev : mv_E} {h : mv_H} {i : Int32}  (hno : ¬ ((nI 0 ≤ i ∧ i ≤ nI 1))) : mv_K ev mX12_keep [.ref 52, .int i] h (some (.int (-1001))) h := by
  refine mv_Kof ?_
  show mv_g ev mX12_keep 0 [.ref 52, .int i, .null, .null] [] h _
  refine mv_iload_n dX12_keep_0 rfl ?_
  refine mv_i2l dX12_keep_1 ?_
  refine mv_lconst (v := lN 0) dX12_keep_2 rfl ?_
  refine mv_lconst (v := lN 1) dX12_keep_3 rfl ?_
  refine mv_cS3 dX12_keep_4 lk_X12_keep_107 (Nat.le_of_ble_eq_true rfl) (Nat.le_of_ble_eq_true rfl) (k_X12_in (ev := ev)) ?_
  refine mv_if_ne (tgt := 14) dX12_keep_7 (by decide) (fun c7 => ?_) (fun c7 => ?_)
  · have c7 : nI 0 ≤ i ∧ i ≤ nI 1 := (and_congr (mv_lL (by decide)) (mv_lR (by decide))).mp (mv_b_ne c7)
    exact absurd (by assumption) hno
  · have c7 : ¬ (nI 0 ≤ i ∧ i ≤ nI 1) := fun z => (mv_b_0 _).mp c7 ((and_congr (mv_lL (by decide)) (mv_lR (by decide))).mpr z)
    refine mv_sipush (v := (-1001)) dX12_keep_10 (by decide) ?_
    exact mv_iret dX12_keep_13 rfl rfl ⟨rfl, rfl⟩
set_option maxRecDepth 100000 in
theorem k_X12_goBack_R1 {ev : mv_E} {h : mv_H} {i : Int32}  (hno : ¬ ((nI 0 ≤ i ∧ i ≤ nI 1))) : mv_K ev mX12_goBack [.ref 52, .int i] h (some (.int (-1001))) h := by
  refine mv_Kof ?_
  show mv_g ev mX12_goBack 0 [.ref 52, .int i, .null, .null] [] h _
  refine mv_iload_n dX12_goBack_0 rfl ?_
  refine mv_i2l dX12_goBack_1 ?_
  refine mv_lconst (v := lN 0) dX12_goBack_2 rfl ?_
  refine mv_lconst (v := lN 1) dX12_goBack_3 rfl ?_
  refine mv_cS3 dX12_goBack_4 lk_X12_goBack_107 (Nat.le_of_ble_eq_true rfl) (Nat.le_of_ble_eq_true rfl) (k_X12_in (ev := ev)) ?_
  refine mv_if_ne (tgt := 14) dX12_goBack_7 (by decide) (fun c7 => ?_) (fun c7 => ?_)
  · have c7 : nI 0 ≤ i ∧ i ≤ nI 1 := (and_congr (mv_lL (by decide)) (mv_lR (by decide))).mp (mv_b_ne c7)
    exact absurd (by assumption) hno
  · have c7 : ¬ (nI 0 ≤ i ∧ i ≤ nI 1) := fun z => (mv_b_0 _).mp c7 ((and_congr (mv_lL (by decide)) (mv_lR (by decide))).mpr z)
    refine mv_sipush (v := (-1001)) dX12_goBack_10 (by decide) ?_
    exact mv_iret dX12_goBack_13 rfl rfl ⟨rfl, rfl⟩
set_option maxRecDepth 100000 in
theorem k_X12_goBack_R2 {ev : mv_E} {h : mv_H} {xt : Int32} {xf : Int32} {xa : Int32} {xo : Int64} {xe : Int32} {xu : Int32} {xs : Int32} {xg : Int32} {xc : Int32} {xw : Int32} {b : t_B} {t : Nat} {kp : Nat → Nat} {i : Nat} (HX : h[52]? = some (.inr (12, [.ref 53, .ref 54, .int xt, .int xf, .int xa, .long xo, .int xe, .int xu, .ref 55, .int xs, .int (nI b.1), .ref 56, .ref 57, .ref 58, .int (nI t), .int (nI b.2.1), .ref 59, .ref 60, .ref 61, .ref 62, .int xg, .ref 63, .ref 64, .ref 65, .ref 66, .ref 67, .ref 68, .ref 69, .int xc, .ref 70, .ref 71, .ref 72, .ref 73, .ref 74, .ref 75, .int xw, .ref 76, .ref 77, .ref 78, .ref 79, .ref 80]))) (X80 : h[80]? = some (.inl (2, 2, .inl (fun j => nI (kp j))))) (hi : i ≤ 1) (hkp : ∀ i, kp i ≤ 1) (hno : ¬ (kp i = 1)) : mv_K ev mX12_goBack [.ref 52, .int (nI i)] h (some (.int (-1003))) h := by
  refine mv_Kof ?_
  show mv_g ev mX12_goBack 0 [.ref 52, .int (nI i), .null, .null] [] h _
  have n1 := hkp i
  refine mv_iload_n dX12_goBack_0 rfl ?_
  refine mv_i2l dX12_goBack_1 ?_
  refine mv_topL (y := lN i) (nI_l (by omega)) ?_
  refine mv_lconst (v := lN 0) dX12_goBack_2 rfl ?_
  refine mv_lconst (v := lN 1) dX12_goBack_3 rfl ?_
  refine mv_cS3 dX12_goBack_4 lk_X12_goBack_107 (Nat.le_of_ble_eq_true rfl) (Nat.le_of_ble_eq_true rfl) (k_X12_in (ev := ev)) ?_
  refine mv_if_ne (tgt := 14) dX12_goBack_7 (by decide) (fun c7 => ?_) (fun z => absurd z ((fun z => (mv_b_0 _).mp z ((and_congr (lN_leB (by omega) (by omega)) (lN_leB (by omega) (by omega))).mpr ⟨by omega, by omega⟩))))
  refine mv_aload_n dX12_goBack_14 rfl ?_
  refine mv_getf (ci := 12) (f := 40) dX12_goBack_15 HX rfl (by decide) wd_1239 rfl ?_
  refine mv_iload_n dX12_goBack_18 rfl ?_
  refine mv_zaN (j := i) (x := nI (kp i)) dX12_goBack_19 X80 rfl (by decide) (by omega) rfl ?_
  refine mv_if_ne (tgt := 27) dX12_goBack_20 (by decide) (fun c20 => ?_) (fun c20 => ?_)
  · have c20 : ¬ (kp i = 0) := fun z => c20 ((nI_eq (b := 0) (by omega) (by omega)).mpr z)
    exact absurd (by omega) hno
  · have c20 : kp i = 0 := (nI_eq (b := 0) (by omega) (by omega)).mp c20
    refine mv_sipush (v := (-1003)) dX12_goBack_23 (by decide) ?_
    exact mv_iret dX12_goBack_26 rfl rfl ⟨rfl, rfl⟩
set_option maxRecDepth 100000 in
theorem l_X12_keep0 {ev : mv_E} {h : mv_H} {xt : Int32} {xf : Int32} {xa : Int32} {xo : Int64} {xe : Int32} {xu : Int32} {xs : Int32} {xg : Int32} {xc : Int32} {xw : Int32} {b : t_B} {t : Nat} {o : t_B} {u : Nat} {o2 : t_B} {u2 : Nat} {kp : Nat → Nat}   : ∀ (fu : Nat) (y : Nat), ∀ (g : mv_H), 60 < y + fu → mv_fra [79, 80] h g → g[79]? = some (.inl (0, 400, .inl (fun j => nI ((q_ik b t 0 (3 + 3 * y) (q_im o u o2 u2)) j)))) → g[52]? = some (.inr (12, [.ref 53, .ref 54, .int xt, .int xf, .int xa, .long xo, .int xe, .int xu, .ref 55, .int xs, .int (nI b.1), .ref 56, .ref 57, .ref 58, .int (nI t), .int (nI b.2.1), .ref 59, .ref 60, .ref 61, .ref 62, .int xg, .ref 63, .ref 64, .ref 65, .ref 66, .ref 67, .ref 68, .ref 69, .int xc, .ref 70, .ref 71, .ref 72, .ref 73, .ref 74, .ref 75, .int xw, .ref 76, .ref 77, .ref 78, .ref 79, .ref 80])) → g[56]? = some (.inl (0, 60, .inl (fun j => nI (b.2.2.1 j)))) → g[57]? = some (.inl (0, 60, .inl (fun j => nI (b.2.2.2.1 j)))) → g[58]? = some (.inl (0, 60, .inl (fun j => nI (b.2.2.2.2 j)))) → g[80]? = some (.inl (2, 2, .inl (fun j => nI (kp j)))) → (y ≤ 60) → mv_g ev mX12_keep 56 [.ref 52, .int (nI 0), .int (nI 0), .int (nI y)] [] g (fun r g => r = some (.int (nI 1)) ∧ mv_fra [79, 80] h g ∧ g[79]? = some (.inl (0, 400, .inl (fun j => nI ((q_im (q_cb o b) t o2 u2) j)))) ∧ g[80]? = some (.inl (2, 2, .inl (fun j => nI ((t_up kp 0 1) j))))) := by
  intro fu
  induction fu with
  | zero => intro y g hm fr X79 HX X56 X57 X58 X80 hy; exact absurd hm (by omega)
  | succ fu ih =>
    intro y g hm fr X79 HX X56 X57 X58 X80 hy
    refine mv_iload_n dX12_keep_56 rfl ?_
    refine mv_bipush (v := nI 60) dX12_keep_57 (by decide) ?_
    refine mv_icmp_ge (tgt := 122) dX12_keep_59 (by decide) (fun c59 => ?_) (fun c59 => ?_)
    · have c59 : 60 ≤ y := (nI_leI (by omega) (by omega)).mp c59
      have ey : y = 60 := (by omega)
      subst ey
      have X79 : g[79]? = some (.inl (0, 400, .inl (fun j => nI ((q_im (q_cb o b) t o2 u2) j)))) := (by rw [← q_ik_1]; exact X79)
      refine mv_aload_n dX12_keep_122 rfl ?_
      refine mv_getf (ci := 12) (f := 40) dX12_keep_123 HX rfl (by decide) wd_1239 rfl ?_
      refine mv_iload_n dX12_keep_126 rfl ?_
      refine mv_iconst (v := nI 1) dX12_keep_127 (by decide) ?_
      refine mv_zastN (j := 0) dX12_keep_128 X80 rfl (by decide) (by omega) rfl (fun h1 e2 => ?_)
      rw [upd_nI] at e2
      have HX := mv_ne e2 (by decide) HX
      have X56 := mv_ne e2 (by decide) X56
      have X57 := mv_ne e2 (by decide) X57
      have X58 := mv_ne e2 (by decide) X58
      have X79 := mv_ne e2 (by decide) X79
      have X80 : h1[80]? = some (.inl (2, 2, .inl (fun j => nI (t_up kp 0 1 j)))) := mv_eq e2 X80
      have fr := fr.set e2 (by decide)
      clear e2
      refine mv_iconst (v := nI 1) dX12_keep_129 (by decide) ?_
      exact mv_iret dX12_keep_130 rfl rfl ⟨rfl, fr, X79, X80⟩
    · have c59 : ¬ (60 ≤ y) := fun z => c59 ((nI_leI (by omega) (by omega)).mpr z)
      refine mv_aload_n dX12_keep_62 rfl ?_
      refine mv_getf (ci := 12) (f := 39) dX12_keep_63 HX rfl (by decide) wd_1238 rfl ?_
      refine mv_iload_n dX12_keep_66 rfl ?_
      refine mv_iconst (v := nI 3) dX12_keep_67 (by decide) ?_
      refine mv_iadd dX12_keep_68 ?_
      refine mv_topI (y := nI 3) (nI_add _ _) ?_
      refine mv_iconst (v := nI 3) dX12_keep_69 (by decide) ?_
      refine mv_iload_n dX12_keep_70 rfl ?_
      refine mv_imul dX12_keep_71 ?_
      refine mv_topI (y := nI (3 * y)) (pk_mul _ _) ?_
      refine mv_iadd dX12_keep_72 ?_
      refine mv_topI (y := nI (0 + (3 + 3 * y))) ((nI_add _ _).trans (congrArg nI (by omega))) ?_
      refine mv_aload_n dX12_keep_73 rfl ?_
      refine mv_getf (ci := 12) (f := 11) dX12_keep_74 HX rfl (by decide) wd_1210 rfl ?_
      refine mv_iload_n dX12_keep_77 rfl ?_
      refine mv_iaN (j := y) (x := nI (b.2.2.1 y)) dX12_keep_78 X56 rfl (by decide) (by omega) rfl ?_
      refine mv_iastN (j := (0 + (3 + 3 * y))) dX12_keep_79 X79 rfl (by decide) (by omega) (fun h3 e4 => ?_)
      rw [upd_nI] at e4
      have HX := mv_ne e4 (by decide) HX
      have X56 := mv_ne e4 (by decide) X56
      have X57 := mv_ne e4 (by decide) X57
      have X58 := mv_ne e4 (by decide) X58
      have X79 : h3[79]? = some (.inl (0, 400, .inl (fun j => nI (t_up (q_ik b t 0 (3 + 3 * y) (q_im o u o2 u2)) (0 + (3 + 3 * y)) (b.2.2.1 y) j)))) := mv_eq e4 X79
      have X80 := mv_ne e4 (by decide) X80
      have fr := fr.set e4 (by decide)
      clear e4
      have eu := q_ik_s (b := b) (t := t) (a := 0) (f := (q_im o u o2 u2)) (y := 3 + 3 * y) (x := (b.2.2.1 y)) (q_i1_d (by omega)).symm
      have X79 : h3[79]? = some (.inl (0, 400, .inl (fun j => nI ((q_ik b t 0 (3 + 3 * y + 1) (q_im o u o2 u2)) j)))) := (by rw [← eu]; exact X79)
      refine mv_aload_n dX12_keep_80 rfl ?_
      refine mv_getf (ci := 12) (f := 39) dX12_keep_81 HX rfl (by decide) wd_1238 rfl ?_
      refine mv_iload_n dX12_keep_84 rfl ?_
      refine mv_iconst (v := nI 4) dX12_keep_85 (by decide) ?_
      refine mv_iadd dX12_keep_86 ?_
      refine mv_topI (y := nI 4) (nI_add _ _) ?_
      refine mv_iconst (v := nI 3) dX12_keep_87 (by decide) ?_
      refine mv_iload_n dX12_keep_88 rfl ?_
      refine mv_imul dX12_keep_89 ?_
      refine mv_topI (y := nI (3 * y)) (pk_mul _ _) ?_
      refine mv_iadd dX12_keep_90 ?_
      refine mv_topI (y := nI (0 + (3 + 3 * y + 1))) ((nI_add _ _).trans (congrArg nI (by omega))) ?_
      refine mv_aload_n dX12_keep_91 rfl ?_
      refine mv_getf (ci := 12) (f := 12) dX12_keep_92 HX rfl (by decide) wd_1211 rfl ?_
      refine mv_iload_n dX12_keep_95 rfl ?_
      refine mv_iaN (j := y) (x := nI (b.2.2.2.1 y)) dX12_keep_96 X57 rfl (by decide) (by omega) rfl ?_
      refine mv_iastN (j := (0 + (3 + 3 * y + 1))) dX12_keep_97 X79 rfl (by decide) (by omega) (fun h5 e6 => ?_)
      rw [upd_nI] at e6
      have HX := mv_ne e6 (by decide) HX
      have X56 := mv_ne e6 (by decide) X56
      have X57 := mv_ne e6 (by decide) X57
      have X58 := mv_ne e6 (by decide) X58
      have X79 : h5[79]? = some (.inl (0, 400, .inl (fun j => nI (t_up (q_ik b t 0 (3 + 3 * y + 1) (q_im o u o2 u2)) (0 + (3 + 3 * y + 1)) (b.2.2.2.1 y) j)))) := mv_eq e6 X79
      have X80 := mv_ne e6 (by decide) X80
      have fr := fr.set e6 (by decide)
      clear e6
      have eu := q_ik_s (b := b) (t := t) (a := 0) (f := (q_im o u o2 u2)) (y := 3 + 3 * y + 1) (x := (b.2.2.2.1 y)) ((congrArg (q_i1 b t) (show 3 + 3 * y + 1 = 4 + 3 * y by omega)).trans (q_i1_p (by omega))).symm
      have X79 : h5[79]? = some (.inl (0, 400, .inl (fun j => nI ((q_ik b t 0 (3 + 3 * y + 1 + 1) (q_im o u o2 u2)) j)))) := (by rw [← eu]; exact X79)
      refine mv_aload_n dX12_keep_98 rfl ?_
      refine mv_getf (ci := 12) (f := 39) dX12_keep_99 HX rfl (by decide) wd_1238 rfl ?_
      refine mv_iload_n dX12_keep_102 rfl ?_
      refine mv_iconst (v := nI 5) dX12_keep_103 (by decide) ?_
      refine mv_iadd dX12_keep_104 ?_
      refine mv_topI (y := nI 5) (nI_add _ _) ?_
      refine mv_iconst (v := nI 3) dX12_keep_105 (by decide) ?_
      refine mv_iload_n dX12_keep_106 rfl ?_
      refine mv_imul dX12_keep_107 ?_
      refine mv_topI (y := nI (3 * y)) (pk_mul _ _) ?_
      refine mv_iadd dX12_keep_108 ?_
      refine mv_topI (y := nI (0 + (3 + 3 * y + 1 + 1))) ((nI_add _ _).trans (congrArg nI (by omega))) ?_
      refine mv_aload_n dX12_keep_109 rfl ?_
      refine mv_getf (ci := 12) (f := 13) dX12_keep_110 HX rfl (by decide) wd_1212 rfl ?_
      refine mv_iload_n dX12_keep_113 rfl ?_
      refine mv_iaN (j := y) (x := nI (b.2.2.2.2 y)) dX12_keep_114 X58 rfl (by decide) (by omega) rfl ?_
      refine mv_iastN (j := (0 + (3 + 3 * y + 1 + 1))) dX12_keep_115 X79 rfl (by decide) (by omega) (fun h7 e8 => ?_)
      rw [upd_nI] at e8
      have HX := mv_ne e8 (by decide) HX
      have X56 := mv_ne e8 (by decide) X56
      have X57 := mv_ne e8 (by decide) X57
      have X58 := mv_ne e8 (by decide) X58
      have X79 : h7[79]? = some (.inl (0, 400, .inl (fun j => nI (t_up (q_ik b t 0 (3 + 3 * y + 1 + 1) (q_im o u o2 u2)) (0 + (3 + 3 * y + 1 + 1)) (b.2.2.2.2 y) j)))) := mv_eq e8 X79
      have X80 := mv_ne e8 (by decide) X80
      have fr := fr.set e8 (by decide)
      clear e8
      have eu := q_ik_s (b := b) (t := t) (a := 0) (f := (q_im o u o2 u2)) (y := 3 + 3 * y + 1 + 1) (x := (b.2.2.2.2 y)) ((congrArg (q_i1 b t) (show 3 + 3 * y + 1 + 1 = 5 + 3 * y by omega)).trans (q_i1_z (by omega))).symm
      have X79 : h7[79]? = some (.inl (0, 400, .inl (fun j => nI ((q_ik b t 0 (3 + 3 * y + 1 + 1 + 1) (q_im o u o2 u2)) j)))) := (by rw [← eu]; exact X79)
      refine mv_iinc (v := nI (y + 1)) dX12_keep_116 rfl (mv_inc y 1) (by decide) ?_
      refine mv_goto (tgt := 56) dX12_keep_119 (by decide) ?_
      exact ih (y + 1) h7 (by omega) fr X79 HX X56 X57 X58 X80 (by omega)
set_option maxRecDepth 100000 in
theorem k_X12_keep_G0 {ev : mv_E} {h : mv_H} {xt : Int32} {xf : Int32} {xa : Int32} {xo : Int64} {xe : Int32} {xu : Int32} {xs : Int32} {xg : Int32} {xc : Int32} {xw : Int32} {b : t_B} {t : Nat} {o : t_B} {u : Nat} {o2 : t_B} {u2 : Nat} {kp : Nat → Nat} (HX : h[52]? = some (.inr (12, [.ref 53, .ref 54, .int xt, .int xf, .int xa, .long xo, .int xe, .int xu, .ref 55, .int xs, .int (nI b.1), .ref 56, .ref 57, .ref 58, .int (nI t), .int (nI b.2.1), .ref 59, .ref 60, .ref 61, .ref 62, .int xg, .ref 63, .ref 64, .ref 65, .ref 66, .ref 67, .ref 68, .ref 69, .int xc, .ref 70, .ref 71, .ref 72, .ref 73, .ref 74, .ref 75, .int xw, .ref 76, .ref 77, .ref 78, .ref 79, .ref 80]))) (X56 : h[56]? = some (.inl (0, 60, .inl (fun j => nI (b.2.2.1 j))))) (X57 : h[57]? = some (.inl (0, 60, .inl (fun j => nI (b.2.2.2.1 j))))) (X58 : h[58]? = some (.inl (0, 60, .inl (fun j => nI (b.2.2.2.2 j))))) (X79 : h[79]? = some (.inl (0, 400, .inl (fun j => nI ((q_im o u o2 u2) j))))) (X80 : h[80]? = some (.inl (2, 2, .inl (fun j => nI (kp j)))))  : ∃ h2, mv_K ev mX12_keep [.ref 52, .int (nI 0)] h (some (.int (nI 1))) h2 ∧ mv_fra [79, 80] h h2 ∧ h2[79]? = some (.inl (0, 400, .inl (fun j => nI ((q_im (q_cb o b) t o2 u2) j)))) ∧ h2[80]? = some (.inl (2, 2, .inl (fun j => nI ((t_up kp 0 1) j)))) := by
  suffices g0 : mv_g ev mX12_keep 0 (mv_ent [.ref 52, .int (nI 0)] (mv_ml mX12_keep)) [] h (fun r g => r = some (.int (nI 1)) ∧ mv_fra [79, 80] h g ∧ g[79]? = some (.inl (0, 400, .inl (fun j => nI ((q_im (q_cb o b) t o2 u2) j)))) ∧ g[80]? = some (.inl (2, 2, .inl (fun j => nI ((t_up kp 0 1) j))))) from (by obtain ⟨r0, h0, K0, q0, Q0⟩ := mv_Kex g0; subst q0; exact ⟨h0, K0, Q0⟩)
  show mv_g ev mX12_keep 0 [.ref 52, .int (nI 0), .null, .null] [] h _
  have fr : mv_fra [79, 80] h h := mv_fra.rf
  refine mv_iload_n dX12_keep_0 rfl ?_
  refine mv_i2l dX12_keep_1 ?_
  refine mv_topL (y := lN 0) (nI_l (by omega)) ?_
  refine mv_lconst (v := lN 0) dX12_keep_2 rfl ?_
  refine mv_lconst (v := lN 1) dX12_keep_3 rfl ?_
  refine mv_cS3 dX12_keep_4 lk_X12_keep_107 (Nat.le_of_ble_eq_true rfl) (Nat.le_of_ble_eq_true rfl) (k_X12_in (ev := ev)) ?_
  refine mv_if_ne (tgt := 14) dX12_keep_7 (by decide) (fun c7 => ?_) (fun z => absurd z ((fun z => (mv_b_0 _).mp z ((and_congr (lN_leB (by omega) (by omega)) (lN_leB (by omega) (by omega))).mpr ⟨by omega, by omega⟩))))
  refine mv_sipush (v := nI 200) dX12_keep_14 (by decide) ?_
  refine mv_iload_n dX12_keep_17 rfl ?_
  refine mv_imul dX12_keep_18 ?_
  refine mv_topI (y := nI 0) (pk_mul _ _) ?_
  refine mv_istore_n dX12_keep_19 (by decide) ?_
  rw [← q_ik_0 b t 0 (q_im o u o2 u2)] at X79
  refine mv_aload_n dX12_keep_20 rfl ?_
  refine mv_getf (ci := 12) (f := 39) dX12_keep_21 HX rfl (by decide) wd_1238 rfl ?_
  refine mv_iload_n dX12_keep_24 rfl ?_
  refine mv_aload_n dX12_keep_25 rfl ?_
  refine mv_getf (ci := 12) (f := 10) dX12_keep_26 HX rfl (by decide) wd_1209 rfl ?_
  refine mv_iastN (j := 0) dX12_keep_29 X79 rfl (by decide) (by omega) (fun h1 e2 => ?_)
  rw [upd_nI] at e2
  have HX := mv_ne e2 (by decide) HX
  have X56 := mv_ne e2 (by decide) X56
  have X57 := mv_ne e2 (by decide) X57
  have X58 := mv_ne e2 (by decide) X58
  have X79 : h1[79]? = some (.inl (0, 400, .inl (fun j => nI (t_up (q_ik b t 0 (0) (q_im o u o2 u2)) 0 b.1 j)))) := mv_eq e2 X79
  have X80 := mv_ne e2 (by decide) X80
  have fr := fr.set e2 (by decide)
  clear e2
  have eu := q_ik_s (b := b) (t := t) (a := 0) (f := (q_im o u o2 u2)) (y := 0) (x := b.1) rfl
  have X79 : h1[79]? = some (.inl (0, 400, .inl (fun j => nI ((q_ik b t 0 (0 + 1) (q_im o u o2 u2)) j)))) := (by rw [← eu]; exact X79)
  refine mv_aload_n dX12_keep_30 rfl ?_
  refine mv_getf (ci := 12) (f := 39) dX12_keep_31 HX rfl (by decide) wd_1238 rfl ?_
  refine mv_iload_n dX12_keep_34 rfl ?_
  refine mv_iconst (v := nI 1) dX12_keep_35 (by decide) ?_
  refine mv_iadd dX12_keep_36 ?_
  refine mv_topI (y := nI 1) (nI_add _ _) ?_
  refine mv_aload_n dX12_keep_37 rfl ?_
  refine mv_getf (ci := 12) (f := 14) dX12_keep_38 HX rfl (by decide) wd_1213 rfl ?_
  refine mv_iastN (j := 1) dX12_keep_41 X79 rfl (by decide) (by omega) (fun h3 e4 => ?_)
  rw [upd_nI] at e4
  have HX := mv_ne e4 (by decide) HX
  have X56 := mv_ne e4 (by decide) X56
  have X57 := mv_ne e4 (by decide) X57
  have X58 := mv_ne e4 (by decide) X58
  have X79 : h3[79]? = some (.inl (0, 400, .inl (fun j => nI (t_up (q_ik b t 0 (0 + 1) (q_im o u o2 u2)) 1 t j)))) := mv_eq e4 X79
  have X80 := mv_ne e4 (by decide) X80
  have fr := fr.set e4 (by decide)
  clear e4
  have eu := q_ik_s (b := b) (t := t) (a := 0) (f := (q_im o u o2 u2)) (y := 0 + 1) (x := t) rfl
  have X79 : h3[79]? = some (.inl (0, 400, .inl (fun j => nI ((q_ik b t 0 (0 + 1 + 1) (q_im o u o2 u2)) j)))) := (by rw [← eu]; exact X79)
  refine mv_aload_n dX12_keep_42 rfl ?_
  refine mv_getf (ci := 12) (f := 39) dX12_keep_43 HX rfl (by decide) wd_1238 rfl ?_
  refine mv_iload_n dX12_keep_46 rfl ?_
  refine mv_iconst (v := nI 2) dX12_keep_47 (by decide) ?_
  refine mv_iadd dX12_keep_48 ?_
  refine mv_topI (y := nI 2) (nI_add _ _) ?_
  refine mv_aload_n dX12_keep_49 rfl ?_
  refine mv_getf (ci := 12) (f := 15) dX12_keep_50 HX rfl (by decide) wd_1214 rfl ?_
  refine mv_iastN (j := 2) dX12_keep_53 X79 rfl (by decide) (by omega) (fun h5 e6 => ?_)
  rw [upd_nI] at e6
  have HX := mv_ne e6 (by decide) HX
  have X56 := mv_ne e6 (by decide) X56
  have X57 := mv_ne e6 (by decide) X57
  have X58 := mv_ne e6 (by decide) X58
  have X79 : h5[79]? = some (.inl (0, 400, .inl (fun j => nI (t_up (q_ik b t 0 (0 + 1 + 1) (q_im o u o2 u2)) 2 b.2.1 j)))) := mv_eq e6 X79
  have X80 := mv_ne e6 (by decide) X80
  have fr := fr.set e6 (by decide)
  clear e6
  have eu := q_ik_s (b := b) (t := t) (a := 0) (f := (q_im o u o2 u2)) (y := 0 + 1 + 1) (x := b.2.1) rfl
  have X79 : h5[79]? = some (.inl (0, 400, .inl (fun j => nI ((q_ik b t 0 (0 + 1 + 1 + 1) (q_im o u o2 u2)) j)))) := (by rw [← eu]; exact X79)
  refine mv_iconst (v := nI 0) dX12_keep_54 (by decide) ?_
  refine mv_istore_n dX12_keep_55 (by decide) ?_
  exact l_X12_keep0 (60 + 1) 0 h5 (by omega) fr X79 HX X56 X57 X58 X80 (Nat.zero_le _)
set_option maxRecDepth 100000 in
theorem l_X12_goBack0 {ev : mv_E} {h : mv_H} {xt : Int32} {xf : Int32} {xa : Int32} {xo : Int64} {xe : Int32} {xu : Int32} {xs : Int32} {xg : Int32} {xc : Int32} {xw : Int32} {b : t_B} {o : t_B} {u : Nat} {o2 : t_B} {u2 : Nat} {kp : Nat → Nat}  (hkp : ∀ i, kp i ≤ 1) (hk : kp 0 = 1) : ∀ (fu : Nat) (y : Nat), ∀ (g : mv_H), 60 < y + fu → mv_fra [52, 56, 57, 58] h g → g[52]? = some (.inr (12, [.ref 53, .ref 54, .int xt, .int xf, .int xa, .long xo, .int xe, .int xu, .ref 55, .int xs, .int (nI o.1), .ref 56, .ref 57, .ref 58, .int (nI u), .int (nI o.2.1), .ref 59, .ref 60, .ref 61, .ref 62, .int xg, .ref 63, .ref 64, .ref 65, .ref 66, .ref 67, .ref 68, .ref 69, .int xc, .ref 70, .ref 71, .ref 72, .ref 73, .ref 74, .ref 75, .int xw, .ref 76, .ref 77, .ref 78, .ref 79, .ref 80])) → g[56]? = some (.inl (0, 60, .inl (fun j => nI ((q_kp o.2.2.1 b.2.2.1 y) j)))) → g[57]? = some (.inl (0, 60, .inl (fun j => nI ((q_kp o.2.2.2.1 b.2.2.2.1 y) j)))) → g[58]? = some (.inl (0, 60, .inl (fun j => nI ((q_kp o.2.2.2.2 b.2.2.2.2 y) j)))) → g[79]? = some (.inl (0, 400, .inl (fun j => nI ((q_im o u o2 u2) j)))) → g[80]? = some (.inl (2, 2, .inl (fun j => nI (kp j)))) → (y ≤ 60) → mv_g ev mX12_goBack 69 [.ref 52, .int (nI 0), .int (nI 0), .int (nI y)] [] g (fun r g => r = some (.int (nI 1)) ∧ mv_fra [52, 56, 57, 58] h g ∧ g[52]? = some (.inr (12, [.ref 53, .ref 54, .int xt, .int xf, .int xa, .long xo, .int xe, .int xu, .ref 55, .int xs, .int (nI (q_cb b o).1), .ref 56, .ref 57, .ref 58, .int (nI u), .int (nI (q_cb b o).2.1), .ref 59, .ref 60, .ref 61, .ref 62, .int xg, .ref 63, .ref 64, .ref 65, .ref 66, .ref 67, .ref 68, .ref 69, .int xc, .ref 70, .ref 71, .ref 72, .ref 73, .ref 74, .ref 75, .int xw, .ref 76, .ref 77, .ref 78, .ref 79, .ref 80])) ∧ g[56]? = some (.inl (0, 60, .inl (fun j => nI ((q_cb b o).2.2.1 j)))) ∧ g[57]? = some (.inl (0, 60, .inl (fun j => nI ((q_cb b o).2.2.2.1 j)))) ∧ g[58]? = some (.inl (0, 60, .inl (fun j => nI ((q_cb b o).2.2.2.2 j))))) := by
  intro fu
  induction fu with
  | zero => intro y g hm fr HX X56 X57 X58 X79 X80 hy; exact absurd hm (by omega)
  | succ fu ih =>
    intro y g hm fr HX X56 X57 X58 X79 X80 hy
    refine mv_iload_n dX12_goBack_69 rfl ?_
    refine mv_bipush (v := nI 60) dX12_goBack_70 (by decide) ?_
    refine mv_icmp_ge (tgt := 135) dX12_goBack_72 (by decide) (fun c72 => ?_) (fun c72 => ?_)
    · have c72 : 60 ≤ y := (nI_leI (by omega) (by omega)).mp c72
      refine mv_iconst (v := nI 1) dX12_goBack_135 (by decide) ?_
      have ey : y = 60 := (by omega)
      subst ey
      exact mv_iret dX12_goBack_136 rfl rfl ⟨rfl, fr, HX, X56, X57, X58⟩
    · have c72 : ¬ (60 ≤ y) := fun z => c72 ((nI_leI (by omega) (by omega)).mpr z)
      refine mv_aload_n dX12_goBack_75 rfl ?_
      refine mv_getf (ci := 12) (f := 11) dX12_goBack_76 HX rfl (by decide) wd_1210 rfl ?_
      refine mv_iload_n dX12_goBack_79 rfl ?_
      refine mv_aload_n dX12_goBack_80 rfl ?_
      refine mv_getf (ci := 12) (f := 39) dX12_goBack_81 HX rfl (by decide) wd_1238 rfl ?_
      refine mv_iload_n dX12_goBack_84 rfl ?_
      refine mv_iconst (v := nI 3) dX12_goBack_85 (by decide) ?_
      refine mv_iadd dX12_goBack_86 ?_
      refine mv_topI (y := nI 3) (nI_add _ _) ?_
      refine mv_iconst (v := nI 3) dX12_goBack_87 (by decide) ?_
      refine mv_iload_n dX12_goBack_88 rfl ?_
      refine mv_imul dX12_goBack_89 ?_
      refine mv_topI (y := nI (3 * y)) (pk_mul _ _) ?_
      refine mv_iadd dX12_goBack_90 ?_
      refine mv_topI (y := nI (3 + (3 * y))) (nI_add _ _) ?_
      refine mv_iaN (j := (3 + (3 * y))) (x := nI (o.2.2.1 y)) dX12_goBack_91 X79 rfl (by decide) (by omega) (congrArg nI (by show (if 3 + 3 * y < 200 then _ else _) = _; rw [if_pos (by omega)]; exact (congrArg (q_i1 o u) (by omega)).trans (q_i1_d (by omega)))) ?_
      refine mv_iastN (j := y) dX12_goBack_92 X56 rfl (by decide) (by omega) (fun h1 e2 => ?_)
      rw [upd_nI] at e2
      have HX := mv_ne e2 (by decide) HX
      have X56 : h1[56]? = some (.inl (0, 60, .inl (fun j => nI (t_up (q_kp o.2.2.1 b.2.2.1 y) y (o.2.2.1 y) j)))) := mv_eq e2 X56
      have X57 := mv_ne e2 (by decide) X57
      have X58 := mv_ne e2 (by decide) X58
      have X79 := mv_ne e2 (by decide) X79
      have X80 := mv_ne e2 (by decide) X80
      have fr := fr.set e2 (by decide)
      clear e2
      rw [q_kp_s] at X56
      refine mv_aload_n dX12_goBack_93 rfl ?_
      refine mv_getf (ci := 12) (f := 12) dX12_goBack_94 HX rfl (by decide) wd_1211 rfl ?_
      refine mv_iload_n dX12_goBack_97 rfl ?_
      refine mv_aload_n dX12_goBack_98 rfl ?_
      refine mv_getf (ci := 12) (f := 39) dX12_goBack_99 HX rfl (by decide) wd_1238 rfl ?_
      refine mv_iload_n dX12_goBack_102 rfl ?_
      refine mv_iconst (v := nI 4) dX12_goBack_103 (by decide) ?_
      refine mv_iadd dX12_goBack_104 ?_
      refine mv_topI (y := nI 4) (nI_add _ _) ?_
      refine mv_iconst (v := nI 3) dX12_goBack_105 (by decide) ?_
      refine mv_iload_n dX12_goBack_106 rfl ?_
      refine mv_imul dX12_goBack_107 ?_
      refine mv_topI (y := nI (3 * y)) (pk_mul _ _) ?_
      refine mv_iadd dX12_goBack_108 ?_
      refine mv_topI (y := nI (4 + (3 * y))) (nI_add _ _) ?_
      refine mv_iaN (j := (4 + (3 * y))) (x := nI (o.2.2.2.1 y)) dX12_goBack_109 X79 rfl (by decide) (by omega) (congrArg nI (by show (if 4 + 3 * y < 200 then _ else _) = _; rw [if_pos (by omega)]; exact (congrArg (q_i1 o u) (by omega)).trans (q_i1_p (by omega)))) ?_
      refine mv_iastN (j := y) dX12_goBack_110 X57 rfl (by decide) (by omega) (fun h3 e4 => ?_)
      rw [upd_nI] at e4
      have HX := mv_ne e4 (by decide) HX
      have X56 := mv_ne e4 (by decide) X56
      have X57 : h3[57]? = some (.inl (0, 60, .inl (fun j => nI (t_up (q_kp o.2.2.2.1 b.2.2.2.1 y) y (o.2.2.2.1 y) j)))) := mv_eq e4 X57
      have X58 := mv_ne e4 (by decide) X58
      have X79 := mv_ne e4 (by decide) X79
      have X80 := mv_ne e4 (by decide) X80
      have fr := fr.set e4 (by decide)
      clear e4
      rw [q_kp_s] at X57
      refine mv_aload_n dX12_goBack_111 rfl ?_
      refine mv_getf (ci := 12) (f := 13) dX12_goBack_112 HX rfl (by decide) wd_1212 rfl ?_
      refine mv_iload_n dX12_goBack_115 rfl ?_
      refine mv_aload_n dX12_goBack_116 rfl ?_
      refine mv_getf (ci := 12) (f := 39) dX12_goBack_117 HX rfl (by decide) wd_1238 rfl ?_
      refine mv_iload_n dX12_goBack_120 rfl ?_
      refine mv_iconst (v := nI 5) dX12_goBack_121 (by decide) ?_
      refine mv_iadd dX12_goBack_122 ?_
      refine mv_topI (y := nI 5) (nI_add _ _) ?_
      refine mv_iconst (v := nI 3) dX12_goBack_123 (by decide) ?_
      refine mv_iload_n dX12_goBack_124 rfl ?_
      refine mv_imul dX12_goBack_125 ?_
      refine mv_topI (y := nI (3 * y)) (pk_mul _ _) ?_
      refine mv_iadd dX12_goBack_126 ?_
      refine mv_topI (y := nI (5 + (3 * y))) (nI_add _ _) ?_
      refine mv_iaN (j := (5 + (3 * y))) (x := nI (o.2.2.2.2 y)) dX12_goBack_127 X79 rfl (by decide) (by omega) (congrArg nI (by show (if 5 + 3 * y < 200 then _ else _) = _; rw [if_pos (by omega)]; exact (congrArg (q_i1 o u) (by omega)).trans (q_i1_z (by omega)))) ?_
      refine mv_iastN (j := y) dX12_goBack_128 X58 rfl (by decide) (by omega) (fun h5 e6 => ?_)
      rw [upd_nI] at e6
      have HX := mv_ne e6 (by decide) HX
      have X56 := mv_ne e6 (by decide) X56
      have X57 := mv_ne e6 (by decide) X57
      have X58 : h5[58]? = some (.inl (0, 60, .inl (fun j => nI (t_up (q_kp o.2.2.2.2 b.2.2.2.2 y) y (o.2.2.2.2 y) j)))) := mv_eq e6 X58
      have X79 := mv_ne e6 (by decide) X79
      have X80 := mv_ne e6 (by decide) X80
      have fr := fr.set e6 (by decide)
      clear e6
      rw [q_kp_s] at X58
      refine mv_iinc (v := nI (y + 1)) dX12_goBack_129 rfl (mv_inc y 1) (by decide) ?_
      refine mv_goto (tgt := 69) dX12_goBack_132 (by decide) ?_
      exact ih (y + 1) h5 (by omega) fr HX X56 X57 X58 X79 X80 (by omega)
set_option maxRecDepth 100000 in
theorem k_X12_goBack_G0 {ev : mv_E} {h : mv_H} {xt : Int32} {xf : Int32} {xa : Int32} {xo : Int64} {xe : Int32} {xu : Int32} {xs : Int32} {xg : Int32} {xc : Int32} {xw : Int32} {b : t_B} {t : Nat} {o : t_B} {u : Nat} {o2 : t_B} {u2 : Nat} {kp : Nat → Nat} (HX : h[52]? = some (.inr (12, [.ref 53, .ref 54, .int xt, .int xf, .int xa, .long xo, .int xe, .int xu, .ref 55, .int xs, .int (nI b.1), .ref 56, .ref 57, .ref 58, .int (nI t), .int (nI b.2.1), .ref 59, .ref 60, .ref 61, .ref 62, .int xg, .ref 63, .ref 64, .ref 65, .ref 66, .ref 67, .ref 68, .ref 69, .int xc, .ref 70, .ref 71, .ref 72, .ref 73, .ref 74, .ref 75, .int xw, .ref 76, .ref 77, .ref 78, .ref 79, .ref 80]))) (X56 : h[56]? = some (.inl (0, 60, .inl (fun j => nI (b.2.2.1 j))))) (X57 : h[57]? = some (.inl (0, 60, .inl (fun j => nI (b.2.2.2.1 j))))) (X58 : h[58]? = some (.inl (0, 60, .inl (fun j => nI (b.2.2.2.2 j))))) (X79 : h[79]? = some (.inl (0, 400, .inl (fun j => nI ((q_im o u o2 u2) j))))) (X80 : h[80]? = some (.inl (2, 2, .inl (fun j => nI (kp j))))) (hkp : ∀ i, kp i ≤ 1) (hk : kp 0 = 1) : ∃ h2, mv_K ev mX12_goBack [.ref 52, .int (nI 0)] h (some (.int (nI 1))) h2 ∧ mv_fra [52, 56, 57, 58] h h2 ∧ h2[52]? = some (.inr (12, [.ref 53, .ref 54, .int xt, .int xf, .int xa, .long xo, .int xe, .int xu, .ref 55, .int xs, .int (nI (q_cb b o).1), .ref 56, .ref 57, .ref 58, .int (nI u), .int (nI (q_cb b o).2.1), .ref 59, .ref 60, .ref 61, .ref 62, .int xg, .ref 63, .ref 64, .ref 65, .ref 66, .ref 67, .ref 68, .ref 69, .int xc, .ref 70, .ref 71, .ref 72, .ref 73, .ref 74, .ref 75, .int xw, .ref 76, .ref 77, .ref 78, .ref 79, .ref 80])) ∧ h2[56]? = some (.inl (0, 60, .inl (fun j => nI ((q_cb b o).2.2.1 j)))) ∧ h2[57]? = some (.inl (0, 60, .inl (fun j => nI ((q_cb b o).2.2.2.1 j)))) ∧ h2[58]? = some (.inl (0, 60, .inl (fun j => nI ((q_cb b o).2.2.2.2 j)))) := by
  suffices g0 : mv_g ev mX12_goBack 0 (mv_ent [.ref 52, .int (nI 0)] (mv_ml mX12_goBack)) [] h (fun r g => r = some (.int (nI 1)) ∧ mv_fra [52, 56, 57, 58] h g ∧ g[52]? = some (.inr (12, [.ref 53, .ref 54, .int xt, .int xf, .int xa, .long xo, .int xe, .int xu, .ref 55, .int xs, .int (nI (q_cb b o).1), .ref 56, .ref 57, .ref 58, .int (nI u), .int (nI (q_cb b o).2.1), .ref 59, .ref 60, .ref 61, .ref 62, .int xg, .ref 63, .ref 64, .ref 65, .ref 66, .ref 67, .ref 68, .ref 69, .int xc, .ref 70, .ref 71, .ref 72, .ref 73, .ref 74, .ref 75, .int xw, .ref 76, .ref 77, .ref 78, .ref 79, .ref 80])) ∧ g[56]? = some (.inl (0, 60, .inl (fun j => nI ((q_cb b o).2.2.1 j)))) ∧ g[57]? = some (.inl (0, 60, .inl (fun j => nI ((q_cb b o).2.2.2.1 j)))) ∧ g[58]? = some (.inl (0, 60, .inl (fun j => nI ((q_cb b o).2.2.2.2 j))))) from (by obtain ⟨r0, h0, K0, q0, Q0⟩ := mv_Kex g0; subst q0; exact ⟨h0, K0, Q0⟩)
  show mv_g ev mX12_goBack 0 [.ref 52, .int (nI 0), .null, .null] [] h _
  have fr : mv_fra [52, 56, 57, 58] h h := mv_fra.rf
  refine mv_iload_n dX12_goBack_0 rfl ?_
  refine mv_i2l dX12_goBack_1 ?_
  refine mv_topL (y := lN 0) (nI_l (by omega)) ?_
  refine mv_lconst (v := lN 0) dX12_goBack_2 rfl ?_
  refine mv_lconst (v := lN 1) dX12_goBack_3 rfl ?_
  refine mv_cS3 dX12_goBack_4 lk_X12_goBack_107 (Nat.le_of_ble_eq_true rfl) (Nat.le_of_ble_eq_true rfl) (k_X12_in (ev := ev)) ?_
  refine mv_if_ne (tgt := 14) dX12_goBack_7 (by decide) (fun c7 => ?_) (fun z => absurd z ((fun z => (mv_b_0 _).mp z ((and_congr (lN_leB (by omega) (by omega)) (lN_leB (by omega) (by omega))).mpr ⟨by omega, by omega⟩))))
  refine mv_aload_n dX12_goBack_14 rfl ?_
  refine mv_getf (ci := 12) (f := 40) dX12_goBack_15 HX rfl (by decide) wd_1239 rfl ?_
  refine mv_iload_n dX12_goBack_18 rfl ?_
  refine mv_zaN (j := 0) (x := nI (kp 0)) dX12_goBack_19 X80 rfl (by decide) (by omega) rfl ?_
  refine mv_if_ne (tgt := 27) dX12_goBack_20 (by decide) (fun c20 => ?_) (fun z => absurd z ((by rw [hk]; decide)))
  refine mv_sipush (v := nI 200) dX12_goBack_27 (by decide) ?_
  refine mv_iload_n dX12_goBack_30 rfl ?_
  refine mv_imul dX12_goBack_31 ?_
  refine mv_topI (y := nI 0) (pk_mul _ _) ?_
  refine mv_istore_n dX12_goBack_32 (by decide) ?_
  refine mv_aload_n dX12_goBack_33 rfl ?_
  refine mv_aload_n dX12_goBack_34 rfl ?_
  refine mv_getf (ci := 12) (f := 39) dX12_goBack_35 HX rfl (by decide) wd_1238 rfl ?_
  refine mv_iload_n dX12_goBack_38 rfl ?_
  refine mv_iaN (j := 0) (x := nI o.1) dX12_goBack_39 X79 rfl (by decide) (by omega) rfl ?_
  refine mv_putf (ci := 12) (f := 10) dX12_goBack_40 HX rfl (by decide) wd_1209 rfl rfl (fun _ => ⟨rfl, rfl⟩) (Nat.le_of_ble_eq_true rfl) ?_
  refine mv_topH (fun h1 e2 => ?_)
  have HX : h1[52]? = some (.inr (12, [.ref 53, .ref 54, .int xt, .int xf, .int xa, .long xo, .int xe, .int xu, .ref 55, .int xs, .int (nI o.1), .ref 56, .ref 57, .ref 58, .int (nI t), .int (nI b.2.1), .ref 59, .ref 60, .ref 61, .ref 62, .int xg, .ref 63, .ref 64, .ref 65, .ref 66, .ref 67, .ref 68, .ref 69, .int xc, .ref 70, .ref 71, .ref 72, .ref 73, .ref 74, .ref 75, .int xw, .ref 76, .ref 77, .ref 78, .ref 79, .ref 80])) := mv_eq e2 HX
  have X56 := mv_ne e2 (by decide) X56
  have X57 := mv_ne e2 (by decide) X57
  have X58 := mv_ne e2 (by decide) X58
  have X79 := mv_ne e2 (by decide) X79
  have X80 := mv_ne e2 (by decide) X80
  have fr := fr.set e2 (by decide)
  clear e2
  refine mv_aload_n dX12_goBack_43 rfl ?_
  refine mv_aload_n dX12_goBack_44 rfl ?_
  refine mv_getf (ci := 12) (f := 39) dX12_goBack_45 HX rfl (by decide) wd_1238 rfl ?_
  refine mv_iload_n dX12_goBack_48 rfl ?_
  refine mv_iconst (v := nI 1) dX12_goBack_49 (by decide) ?_
  refine mv_iadd dX12_goBack_50 ?_
  refine mv_topI (y := nI 1) (nI_add _ _) ?_
  refine mv_iaN (j := 1) (x := nI u) dX12_goBack_51 X79 rfl (by decide) (by omega) rfl ?_
  refine mv_putf (ci := 12) (f := 14) dX12_goBack_52 HX rfl (by decide) wd_1213 rfl rfl (fun _ => ⟨rfl, rfl⟩) (Nat.le_of_ble_eq_true rfl) ?_
  refine mv_topH (fun h3 e4 => ?_)
  have HX : h3[52]? = some (.inr (12, [.ref 53, .ref 54, .int xt, .int xf, .int xa, .long xo, .int xe, .int xu, .ref 55, .int xs, .int (nI o.1), .ref 56, .ref 57, .ref 58, .int (nI u), .int (nI b.2.1), .ref 59, .ref 60, .ref 61, .ref 62, .int xg, .ref 63, .ref 64, .ref 65, .ref 66, .ref 67, .ref 68, .ref 69, .int xc, .ref 70, .ref 71, .ref 72, .ref 73, .ref 74, .ref 75, .int xw, .ref 76, .ref 77, .ref 78, .ref 79, .ref 80])) := mv_eq e4 HX
  have X56 := mv_ne e4 (by decide) X56
  have X57 := mv_ne e4 (by decide) X57
  have X58 := mv_ne e4 (by decide) X58
  have X79 := mv_ne e4 (by decide) X79
  have X80 := mv_ne e4 (by decide) X80
  have fr := fr.set e4 (by decide)
  clear e4
  refine mv_aload_n dX12_goBack_55 rfl ?_
  refine mv_aload_n dX12_goBack_56 rfl ?_
  refine mv_getf (ci := 12) (f := 39) dX12_goBack_57 HX rfl (by decide) wd_1238 rfl ?_
  refine mv_iload_n dX12_goBack_60 rfl ?_
  refine mv_iconst (v := nI 2) dX12_goBack_61 (by decide) ?_
  refine mv_iadd dX12_goBack_62 ?_
  refine mv_topI (y := nI 2) (nI_add _ _) ?_
  refine mv_iaN (j := 2) (x := nI o.2.1) dX12_goBack_63 X79 rfl (by decide) (by omega) rfl ?_
  refine mv_putf (ci := 12) (f := 15) dX12_goBack_64 HX rfl (by decide) wd_1214 rfl rfl (fun _ => ⟨rfl, rfl⟩) (Nat.le_of_ble_eq_true rfl) ?_
  refine mv_topH (fun h5 e6 => ?_)
  have HX : h5[52]? = some (.inr (12, [.ref 53, .ref 54, .int xt, .int xf, .int xa, .long xo, .int xe, .int xu, .ref 55, .int xs, .int (nI o.1), .ref 56, .ref 57, .ref 58, .int (nI u), .int (nI o.2.1), .ref 59, .ref 60, .ref 61, .ref 62, .int xg, .ref 63, .ref 64, .ref 65, .ref 66, .ref 67, .ref 68, .ref 69, .int xc, .ref 70, .ref 71, .ref 72, .ref 73, .ref 74, .ref 75, .int xw, .ref 76, .ref 77, .ref 78, .ref 79, .ref 80])) := mv_eq e6 HX
  have X56 := mv_ne e6 (by decide) X56
  have X57 := mv_ne e6 (by decide) X57
  have X58 := mv_ne e6 (by decide) X58
  have X79 := mv_ne e6 (by decide) X79
  have X80 := mv_ne e6 (by decide) X80
  have fr := fr.set e6 (by decide)
  clear e6
  rw [← q_kp_0 o.2.2.1 b.2.2.1] at X56
  rw [← q_kp_0 o.2.2.2.1 b.2.2.2.1] at X57
  rw [← q_kp_0 o.2.2.2.2 b.2.2.2.2] at X58
  refine mv_iconst (v := nI 0) dX12_goBack_67 (by decide) ?_
  refine mv_istore_n dX12_goBack_68 (by decide) ?_
  exact l_X12_goBack0 hkp hk (60 + 1) 0 h5 (by omega) fr HX X56 X57 X58 X79 X80 (Nat.zero_le _)
set_option maxRecDepth 100000 in
theorem l_X12_keep1 {ev : mv_E} {h : mv_H} {xt : Int32} {xf : Int32} {xa : Int32} {xo : Int64} {xe : Int32} {xu : Int32} {xs : Int32} {xg : Int32} {xc : Int32} {xw : Int32} {b : t_B} {t : Nat} {o : t_B} {u : Nat} {o2 : t_B} {u2 : Nat} {kp : Nat → Nat}   : ∀ (fu : Nat) (y : Nat), ∀ (g : mv_H), 60 < y + fu → mv_fra [79, 80] h g → g[79]? = some (.inl (0, 400, .inl (fun j => nI ((q_ik b t 200 (3 + 3 * y) (q_im o u o2 u2)) j)))) → g[52]? = some (.inr (12, [.ref 53, .ref 54, .int xt, .int xf, .int xa, .long xo, .int xe, .int xu, .ref 55, .int xs, .int (nI b.1), .ref 56, .ref 57, .ref 58, .int (nI t), .int (nI b.2.1), .ref 59, .ref 60, .ref 61, .ref 62, .int xg, .ref 63, .ref 64, .ref 65, .ref 66, .ref 67, .ref 68, .ref 69, .int xc, .ref 70, .ref 71, .ref 72, .ref 73, .ref 74, .ref 75, .int xw, .ref 76, .ref 77, .ref 78, .ref 79, .ref 80])) → g[56]? = some (.inl (0, 60, .inl (fun j => nI (b.2.2.1 j)))) → g[57]? = some (.inl (0, 60, .inl (fun j => nI (b.2.2.2.1 j)))) → g[58]? = some (.inl (0, 60, .inl (fun j => nI (b.2.2.2.2 j)))) → g[80]? = some (.inl (2, 2, .inl (fun j => nI (kp j)))) → (y ≤ 60) → mv_g ev mX12_keep 56 [.ref 52, .int (nI 1), .int (nI 200), .int (nI y)] [] g (fun r g => r = some (.int (nI 1)) ∧ mv_fra [79, 80] h g ∧ g[79]? = some (.inl (0, 400, .inl (fun j => nI ((q_im o u (q_cb o2 b) t) j)))) ∧ g[80]? = some (.inl (2, 2, .inl (fun j => nI ((t_up kp 1 1) j))))) := by
  intro fu
  induction fu with
  | zero => intro y g hm fr X79 HX X56 X57 X58 X80 hy; exact absurd hm (by omega)
  | succ fu ih =>
    intro y g hm fr X79 HX X56 X57 X58 X80 hy
    refine mv_iload_n dX12_keep_56 rfl ?_
    refine mv_bipush (v := nI 60) dX12_keep_57 (by decide) ?_
    refine mv_icmp_ge (tgt := 122) dX12_keep_59 (by decide) (fun c59 => ?_) (fun c59 => ?_)
    · have c59 : 60 ≤ y := (nI_leI (by omega) (by omega)).mp c59
      have ey : y = 60 := (by omega)
      subst ey
      have X79 : g[79]? = some (.inl (0, 400, .inl (fun j => nI ((q_im o u (q_cb o2 b) t) j)))) := (by rw [← q_ik_2]; exact X79)
      refine mv_aload_n dX12_keep_122 rfl ?_
      refine mv_getf (ci := 12) (f := 40) dX12_keep_123 HX rfl (by decide) wd_1239 rfl ?_
      refine mv_iload_n dX12_keep_126 rfl ?_
      refine mv_iconst (v := nI 1) dX12_keep_127 (by decide) ?_
      refine mv_zastN (j := 1) dX12_keep_128 X80 rfl (by decide) (by omega) rfl (fun h1 e2 => ?_)
      rw [upd_nI] at e2
      have HX := mv_ne e2 (by decide) HX
      have X56 := mv_ne e2 (by decide) X56
      have X57 := mv_ne e2 (by decide) X57
      have X58 := mv_ne e2 (by decide) X58
      have X79 := mv_ne e2 (by decide) X79
      have X80 : h1[80]? = some (.inl (2, 2, .inl (fun j => nI (t_up kp 1 1 j)))) := mv_eq e2 X80
      have fr := fr.set e2 (by decide)
      clear e2
      refine mv_iconst (v := nI 1) dX12_keep_129 (by decide) ?_
      exact mv_iret dX12_keep_130 rfl rfl ⟨rfl, fr, X79, X80⟩
    · have c59 : ¬ (60 ≤ y) := fun z => c59 ((nI_leI (by omega) (by omega)).mpr z)
      refine mv_aload_n dX12_keep_62 rfl ?_
      refine mv_getf (ci := 12) (f := 39) dX12_keep_63 HX rfl (by decide) wd_1238 rfl ?_
      refine mv_iload_n dX12_keep_66 rfl ?_
      refine mv_iconst (v := nI 3) dX12_keep_67 (by decide) ?_
      refine mv_iadd dX12_keep_68 ?_
      refine mv_topI (y := nI 203) (nI_add _ _) ?_
      refine mv_iconst (v := nI 3) dX12_keep_69 (by decide) ?_
      refine mv_iload_n dX12_keep_70 rfl ?_
      refine mv_imul dX12_keep_71 ?_
      refine mv_topI (y := nI (3 * y)) (pk_mul _ _) ?_
      refine mv_iadd dX12_keep_72 ?_
      refine mv_topI (y := nI (200 + (3 + 3 * y))) ((nI_add _ _).trans (congrArg nI (by omega))) ?_
      refine mv_aload_n dX12_keep_73 rfl ?_
      refine mv_getf (ci := 12) (f := 11) dX12_keep_74 HX rfl (by decide) wd_1210 rfl ?_
      refine mv_iload_n dX12_keep_77 rfl ?_
      refine mv_iaN (j := y) (x := nI (b.2.2.1 y)) dX12_keep_78 X56 rfl (by decide) (by omega) rfl ?_
      refine mv_iastN (j := (200 + (3 + 3 * y))) dX12_keep_79 X79 rfl (by decide) (by omega) (fun h3 e4 => ?_)
      rw [upd_nI] at e4
      have HX := mv_ne e4 (by decide) HX
      have X56 := mv_ne e4 (by decide) X56
      have X57 := mv_ne e4 (by decide) X57
      have X58 := mv_ne e4 (by decide) X58
      have X79 : h3[79]? = some (.inl (0, 400, .inl (fun j => nI (t_up (q_ik b t 200 (3 + 3 * y) (q_im o u o2 u2)) (200 + (3 + 3 * y)) (b.2.2.1 y) j)))) := mv_eq e4 X79
      have X80 := mv_ne e4 (by decide) X80
      have fr := fr.set e4 (by decide)
      clear e4
      have eu := q_ik_s (b := b) (t := t) (a := 200) (f := (q_im o u o2 u2)) (y := 3 + 3 * y) (x := (b.2.2.1 y)) (q_i1_d (by omega)).symm
      have X79 : h3[79]? = some (.inl (0, 400, .inl (fun j => nI ((q_ik b t 200 (3 + 3 * y + 1) (q_im o u o2 u2)) j)))) := (by rw [← eu]; exact X79)
      refine mv_aload_n dX12_keep_80 rfl ?_
      refine mv_getf (ci := 12) (f := 39) dX12_keep_81 HX rfl (by decide) wd_1238 rfl ?_
      refine mv_iload_n dX12_keep_84 rfl ?_
      refine mv_iconst (v := nI 4) dX12_keep_85 (by decide) ?_
      refine mv_iadd dX12_keep_86 ?_
      refine mv_topI (y := nI 204) (nI_add _ _) ?_
      refine mv_iconst (v := nI 3) dX12_keep_87 (by decide) ?_
      refine mv_iload_n dX12_keep_88 rfl ?_
      refine mv_imul dX12_keep_89 ?_
      refine mv_topI (y := nI (3 * y)) (pk_mul _ _) ?_
      refine mv_iadd dX12_keep_90 ?_
      refine mv_topI (y := nI (200 + (3 + 3 * y + 1))) ((nI_add _ _).trans (congrArg nI (by omega))) ?_
      refine mv_aload_n dX12_keep_91 rfl ?_
      refine mv_getf (ci := 12) (f := 12) dX12_keep_92 HX rfl (by decide) wd_1211 rfl ?_
      refine mv_iload_n dX12_keep_95 rfl ?_
      refine mv_iaN (j := y) (x := nI (b.2.2.2.1 y)) dX12_keep_96 X57 rfl (by decide) (by omega) rfl ?_
      refine mv_iastN (j := (200 + (3 + 3 * y + 1))) dX12_keep_97 X79 rfl (by decide) (by omega) (fun h5 e6 => ?_)
      rw [upd_nI] at e6
      have HX := mv_ne e6 (by decide) HX
      have X56 := mv_ne e6 (by decide) X56
      have X57 := mv_ne e6 (by decide) X57
      have X58 := mv_ne e6 (by decide) X58
      have X79 : h5[79]? = some (.inl (0, 400, .inl (fun j => nI (t_up (q_ik b t 200 (3 + 3 * y + 1) (q_im o u o2 u2)) (200 + (3 + 3 * y + 1)) (b.2.2.2.1 y) j)))) := mv_eq e6 X79
      have X80 := mv_ne e6 (by decide) X80
      have fr := fr.set e6 (by decide)
      clear e6
      have eu := q_ik_s (b := b) (t := t) (a := 200) (f := (q_im o u o2 u2)) (y := 3 + 3 * y + 1) (x := (b.2.2.2.1 y)) ((congrArg (q_i1 b t) (show 3 + 3 * y + 1 = 4 + 3 * y by omega)).trans (q_i1_p (by omega))).symm
      have X79 : h5[79]? = some (.inl (0, 400, .inl (fun j => nI ((q_ik b t 200 (3 + 3 * y + 1 + 1) (q_im o u o2 u2)) j)))) := (by rw [← eu]; exact X79)
      refine mv_aload_n dX12_keep_98 rfl ?_
      refine mv_getf (ci := 12) (f := 39) dX12_keep_99 HX rfl (by decide) wd_1238 rfl ?_
      refine mv_iload_n dX12_keep_102 rfl ?_
      refine mv_iconst (v := nI 5) dX12_keep_103 (by decide) ?_
      refine mv_iadd dX12_keep_104 ?_
      refine mv_topI (y := nI 205) (nI_add _ _) ?_
      refine mv_iconst (v := nI 3) dX12_keep_105 (by decide) ?_
      refine mv_iload_n dX12_keep_106 rfl ?_
      refine mv_imul dX12_keep_107 ?_
      refine mv_topI (y := nI (3 * y)) (pk_mul _ _) ?_
      refine mv_iadd dX12_keep_108 ?_
      refine mv_topI (y := nI (200 + (3 + 3 * y + 1 + 1))) ((nI_add _ _).trans (congrArg nI (by omega))) ?_
      refine mv_aload_n dX12_keep_109 rfl ?_
      refine mv_getf (ci := 12) (f := 13) dX12_keep_110 HX rfl (by decide) wd_1212 rfl ?_
      refine mv_iload_n dX12_keep_113 rfl ?_
      refine mv_iaN (j := y) (x := nI (b.2.2.2.2 y)) dX12_keep_114 X58 rfl (by decide) (by omega) rfl ?_
      refine mv_iastN (j := (200 + (3 + 3 * y + 1 + 1))) dX12_keep_115 X79 rfl (by decide) (by omega) (fun h7 e8 => ?_)
      rw [upd_nI] at e8
      have HX := mv_ne e8 (by decide) HX
      have X56 := mv_ne e8 (by decide) X56
      have X57 := mv_ne e8 (by decide) X57
      have X58 := mv_ne e8 (by decide) X58
      have X79 : h7[79]? = some (.inl (0, 400, .inl (fun j => nI (t_up (q_ik b t 200 (3 + 3 * y + 1 + 1) (q_im o u o2 u2)) (200 + (3 + 3 * y + 1 + 1)) (b.2.2.2.2 y) j)))) := mv_eq e8 X79
      have X80 := mv_ne e8 (by decide) X80
      have fr := fr.set e8 (by decide)
      clear e8
      have eu := q_ik_s (b := b) (t := t) (a := 200) (f := (q_im o u o2 u2)) (y := 3 + 3 * y + 1 + 1) (x := (b.2.2.2.2 y)) ((congrArg (q_i1 b t) (show 3 + 3 * y + 1 + 1 = 5 + 3 * y by omega)).trans (q_i1_z (by omega))).symm
      have X79 : h7[79]? = some (.inl (0, 400, .inl (fun j => nI ((q_ik b t 200 (3 + 3 * y + 1 + 1 + 1) (q_im o u o2 u2)) j)))) := (by rw [← eu]; exact X79)
      refine mv_iinc (v := nI (y + 1)) dX12_keep_116 rfl (mv_inc y 1) (by decide) ?_
      refine mv_goto (tgt := 56) dX12_keep_119 (by decide) ?_
      exact ih (y + 1) h7 (by omega) fr X79 HX X56 X57 X58 X80 (by omega)
set_option maxRecDepth 100000 in
theorem k_X12_keep_G1 {ev : mv_E} {h : mv_H} {xt : Int32} {xf : Int32} {xa : Int32} {xo : Int64} {xe : Int32} {xu : Int32} {xs : Int32} {xg : Int32} {xc : Int32} {xw : Int32} {b : t_B} {t : Nat} {o : t_B} {u : Nat} {o2 : t_B} {u2 : Nat} {kp : Nat → Nat} (HX : h[52]? = some (.inr (12, [.ref 53, .ref 54, .int xt, .int xf, .int xa, .long xo, .int xe, .int xu, .ref 55, .int xs, .int (nI b.1), .ref 56, .ref 57, .ref 58, .int (nI t), .int (nI b.2.1), .ref 59, .ref 60, .ref 61, .ref 62, .int xg, .ref 63, .ref 64, .ref 65, .ref 66, .ref 67, .ref 68, .ref 69, .int xc, .ref 70, .ref 71, .ref 72, .ref 73, .ref 74, .ref 75, .int xw, .ref 76, .ref 77, .ref 78, .ref 79, .ref 80]))) (X56 : h[56]? = some (.inl (0, 60, .inl (fun j => nI (b.2.2.1 j))))) (X57 : h[57]? = some (.inl (0, 60, .inl (fun j => nI (b.2.2.2.1 j))))) (X58 : h[58]? = some (.inl (0, 60, .inl (fun j => nI (b.2.2.2.2 j))))) (X79 : h[79]? = some (.inl (0, 400, .inl (fun j => nI ((q_im o u o2 u2) j))))) (X80 : h[80]? = some (.inl (2, 2, .inl (fun j => nI (kp j)))))  : ∃ h2, mv_K ev mX12_keep [.ref 52, .int (nI 1)] h (some (.int (nI 1))) h2 ∧ mv_fra [79, 80] h h2 ∧ h2[79]? = some (.inl (0, 400, .inl (fun j => nI ((q_im o u (q_cb o2 b) t) j)))) ∧ h2[80]? = some (.inl (2, 2, .inl (fun j => nI ((t_up kp 1 1) j)))) := by
  suffices g0 : mv_g ev mX12_keep 0 (mv_ent [.ref 52, .int (nI 1)] (mv_ml mX12_keep)) [] h (fun r g => r = some (.int (nI 1)) ∧ mv_fra [79, 80] h g ∧ g[79]? = some (.inl (0, 400, .inl (fun j => nI ((q_im o u (q_cb o2 b) t) j)))) ∧ g[80]? = some (.inl (2, 2, .inl (fun j => nI ((t_up kp 1 1) j))))) from (by obtain ⟨r0, h0, K0, q0, Q0⟩ := mv_Kex g0; subst q0; exact ⟨h0, K0, Q0⟩)
  show mv_g ev mX12_keep 0 [.ref 52, .int (nI 1), .null, .null] [] h _
  have fr : mv_fra [79, 80] h h := mv_fra.rf
  refine mv_iload_n dX12_keep_0 rfl ?_
  refine mv_i2l dX12_keep_1 ?_
  refine mv_topL (y := lN 1) (nI_l (by omega)) ?_
  refine mv_lconst (v := lN 0) dX12_keep_2 rfl ?_
  refine mv_lconst (v := lN 1) dX12_keep_3 rfl ?_
  refine mv_cS3 dX12_keep_4 lk_X12_keep_107 (Nat.le_of_ble_eq_true rfl) (Nat.le_of_ble_eq_true rfl) (k_X12_in (ev := ev)) ?_
  refine mv_if_ne (tgt := 14) dX12_keep_7 (by decide) (fun c7 => ?_) (fun z => absurd z ((fun z => (mv_b_0 _).mp z ((and_congr (lN_leB (by omega) (by omega)) (lN_leB (by omega) (by omega))).mpr ⟨by omega, by omega⟩))))
  refine mv_sipush (v := nI 200) dX12_keep_14 (by decide) ?_
  refine mv_iload_n dX12_keep_17 rfl ?_
  refine mv_imul dX12_keep_18 ?_
  refine mv_topI (y := nI 200) (pk_mul _ _) ?_
  refine mv_istore_n dX12_keep_19 (by decide) ?_
  rw [← q_ik_0 b t 200 (q_im o u o2 u2)] at X79
  refine mv_aload_n dX12_keep_20 rfl ?_
  refine mv_getf (ci := 12) (f := 39) dX12_keep_21 HX rfl (by decide) wd_1238 rfl ?_
  refine mv_iload_n dX12_keep_24 rfl ?_
  refine mv_aload_n dX12_keep_25 rfl ?_
  refine mv_getf (ci := 12) (f := 10) dX12_keep_26 HX rfl (by decide) wd_1209 rfl ?_
  refine mv_iastN (j := 200) dX12_keep_29 X79 rfl (by decide) (by omega) (fun h1 e2 => ?_)
  rw [upd_nI] at e2
  have HX := mv_ne e2 (by decide) HX
  have X56 := mv_ne e2 (by decide) X56
  have X57 := mv_ne e2 (by decide) X57
  have X58 := mv_ne e2 (by decide) X58
  have X79 : h1[79]? = some (.inl (0, 400, .inl (fun j => nI (t_up (q_ik b t 200 (0) (q_im o u o2 u2)) 200 b.1 j)))) := mv_eq e2 X79
  have X80 := mv_ne e2 (by decide) X80
  have fr := fr.set e2 (by decide)
  clear e2
  have eu := q_ik_s (b := b) (t := t) (a := 200) (f := (q_im o u o2 u2)) (y := 0) (x := b.1) rfl
  have X79 : h1[79]? = some (.inl (0, 400, .inl (fun j => nI ((q_ik b t 200 (0 + 1) (q_im o u o2 u2)) j)))) := (by rw [← eu]; exact X79)
  refine mv_aload_n dX12_keep_30 rfl ?_
  refine mv_getf (ci := 12) (f := 39) dX12_keep_31 HX rfl (by decide) wd_1238 rfl ?_
  refine mv_iload_n dX12_keep_34 rfl ?_
  refine mv_iconst (v := nI 1) dX12_keep_35 (by decide) ?_
  refine mv_iadd dX12_keep_36 ?_
  refine mv_topI (y := nI 201) (nI_add _ _) ?_
  refine mv_aload_n dX12_keep_37 rfl ?_
  refine mv_getf (ci := 12) (f := 14) dX12_keep_38 HX rfl (by decide) wd_1213 rfl ?_
  refine mv_iastN (j := 201) dX12_keep_41 X79 rfl (by decide) (by omega) (fun h3 e4 => ?_)
  rw [upd_nI] at e4
  have HX := mv_ne e4 (by decide) HX
  have X56 := mv_ne e4 (by decide) X56
  have X57 := mv_ne e4 (by decide) X57
  have X58 := mv_ne e4 (by decide) X58
  have X79 : h3[79]? = some (.inl (0, 400, .inl (fun j => nI (t_up (q_ik b t 200 (0 + 1) (q_im o u o2 u2)) 201 t j)))) := mv_eq e4 X79
  have X80 := mv_ne e4 (by decide) X80
  have fr := fr.set e4 (by decide)
  clear e4
  have eu := q_ik_s (b := b) (t := t) (a := 200) (f := (q_im o u o2 u2)) (y := 0 + 1) (x := t) rfl
  have X79 : h3[79]? = some (.inl (0, 400, .inl (fun j => nI ((q_ik b t 200 (0 + 1 + 1) (q_im o u o2 u2)) j)))) := (by rw [← eu]; exact X79)
  refine mv_aload_n dX12_keep_42 rfl ?_
  refine mv_getf (ci := 12) (f := 39) dX12_keep_43 HX rfl (by decide) wd_1238 rfl ?_
  refine mv_iload_n dX12_keep_46 rfl ?_
  refine mv_iconst (v := nI 2) dX12_keep_47 (by decide) ?_
  refine mv_iadd dX12_keep_48 ?_
  refine mv_topI (y := nI 202) (nI_add _ _) ?_
  refine mv_aload_n dX12_keep_49 rfl ?_
  refine mv_getf (ci := 12) (f := 15) dX12_keep_50 HX rfl (by decide) wd_1214 rfl ?_
  refine mv_iastN (j := 202) dX12_keep_53 X79 rfl (by decide) (by omega) (fun h5 e6 => ?_)
  rw [upd_nI] at e6
  have HX := mv_ne e6 (by decide) HX
  have X56 := mv_ne e6 (by decide) X56
  have X57 := mv_ne e6 (by decide) X57
  have X58 := mv_ne e6 (by decide) X58
  have X79 : h5[79]? = some (.inl (0, 400, .inl (fun j => nI (t_up (q_ik b t 200 (0 + 1 + 1) (q_im o u o2 u2)) 202 b.2.1 j)))) := mv_eq e6 X79
  have X80 := mv_ne e6 (by decide) X80
  have fr := fr.set e6 (by decide)
  clear e6
  have eu := q_ik_s (b := b) (t := t) (a := 200) (f := (q_im o u o2 u2)) (y := 0 + 1 + 1) (x := b.2.1) rfl
  have X79 : h5[79]? = some (.inl (0, 400, .inl (fun j => nI ((q_ik b t 200 (0 + 1 + 1 + 1) (q_im o u o2 u2)) j)))) := (by rw [← eu]; exact X79)
  refine mv_iconst (v := nI 0) dX12_keep_54 (by decide) ?_
  refine mv_istore_n dX12_keep_55 (by decide) ?_
  exact l_X12_keep1 (60 + 1) 0 h5 (by omega) fr X79 HX X56 X57 X58 X80 (Nat.zero_le _)
set_option maxRecDepth 100000 in
theorem l_X12_goBack1 {ev : mv_E} {h : mv_H} {xt : Int32} {xf : Int32} {xa : Int32} {xo : Int64} {xe : Int32} {xu : Int32} {xs : Int32} {xg : Int32} {xc : Int32} {xw : Int32} {b : t_B} {o : t_B} {u : Nat} {o2 : t_B} {u2 : Nat} {kp : Nat → Nat}  (hkp : ∀ i, kp i ≤ 1) (hk : kp 1 = 1) : ∀ (fu : Nat) (y : Nat), ∀ (g : mv_H), 60 < y + fu → mv_fra [52, 56, 57, 58] h g → g[52]? = some (.inr (12, [.ref 53, .ref 54, .int xt, .int xf, .int xa, .long xo, .int xe, .int xu, .ref 55, .int xs, .int (nI o2.1), .ref 56, .ref 57, .ref 58, .int (nI u2), .int (nI o2.2.1), .ref 59, .ref 60, .ref 61, .ref 62, .int xg, .ref 63, .ref 64, .ref 65, .ref 66, .ref 67, .ref 68, .ref 69, .int xc, .ref 70, .ref 71, .ref 72, .ref 73, .ref 74, .ref 75, .int xw, .ref 76, .ref 77, .ref 78, .ref 79, .ref 80])) → g[56]? = some (.inl (0, 60, .inl (fun j => nI ((q_kp o2.2.2.1 b.2.2.1 y) j)))) → g[57]? = some (.inl (0, 60, .inl (fun j => nI ((q_kp o2.2.2.2.1 b.2.2.2.1 y) j)))) → g[58]? = some (.inl (0, 60, .inl (fun j => nI ((q_kp o2.2.2.2.2 b.2.2.2.2 y) j)))) → g[79]? = some (.inl (0, 400, .inl (fun j => nI ((q_im o u o2 u2) j)))) → g[80]? = some (.inl (2, 2, .inl (fun j => nI (kp j)))) → (y ≤ 60) → mv_g ev mX12_goBack 69 [.ref 52, .int (nI 1), .int (nI 200), .int (nI y)] [] g (fun r g => r = some (.int (nI 1)) ∧ mv_fra [52, 56, 57, 58] h g ∧ g[52]? = some (.inr (12, [.ref 53, .ref 54, .int xt, .int xf, .int xa, .long xo, .int xe, .int xu, .ref 55, .int xs, .int (nI (q_cb b o2).1), .ref 56, .ref 57, .ref 58, .int (nI u2), .int (nI (q_cb b o2).2.1), .ref 59, .ref 60, .ref 61, .ref 62, .int xg, .ref 63, .ref 64, .ref 65, .ref 66, .ref 67, .ref 68, .ref 69, .int xc, .ref 70, .ref 71, .ref 72, .ref 73, .ref 74, .ref 75, .int xw, .ref 76, .ref 77, .ref 78, .ref 79, .ref 80])) ∧ g[56]? = some (.inl (0, 60, .inl (fun j => nI ((q_cb b o2).2.2.1 j)))) ∧ g[57]? = some (.inl (0, 60, .inl (fun j => nI ((q_cb b o2).2.2.2.1 j)))) ∧ g[58]? = some (.inl (0, 60, .inl (fun j => nI ((q_cb b o2).2.2.2.2 j))))) := by
  intro fu
  induction fu with
  | zero => intro y g hm fr HX X56 X57 X58 X79 X80 hy; exact absurd hm (by omega)
  | succ fu ih =>
    intro y g hm fr HX X56 X57 X58 X79 X80 hy
    refine mv_iload_n dX12_goBack_69 rfl ?_
    refine mv_bipush (v := nI 60) dX12_goBack_70 (by decide) ?_
    refine mv_icmp_ge (tgt := 135) dX12_goBack_72 (by decide) (fun c72 => ?_) (fun c72 => ?_)
    · have c72 : 60 ≤ y := (nI_leI (by omega) (by omega)).mp c72
      refine mv_iconst (v := nI 1) dX12_goBack_135 (by decide) ?_
      have ey : y = 60 := (by omega)
      subst ey
      exact mv_iret dX12_goBack_136 rfl rfl ⟨rfl, fr, HX, X56, X57, X58⟩
    · have c72 : ¬ (60 ≤ y) := fun z => c72 ((nI_leI (by omega) (by omega)).mpr z)
      refine mv_aload_n dX12_goBack_75 rfl ?_
      refine mv_getf (ci := 12) (f := 11) dX12_goBack_76 HX rfl (by decide) wd_1210 rfl ?_
      refine mv_iload_n dX12_goBack_79 rfl ?_
      refine mv_aload_n dX12_goBack_80 rfl ?_
      refine mv_getf (ci := 12) (f := 39) dX12_goBack_81 HX rfl (by decide) wd_1238 rfl ?_
      refine mv_iload_n dX12_goBack_84 rfl ?_
      refine mv_iconst (v := nI 3) dX12_goBack_85 (by decide) ?_
      refine mv_iadd dX12_goBack_86 ?_
      refine mv_topI (y := nI 203) (nI_add _ _) ?_
      refine mv_iconst (v := nI 3) dX12_goBack_87 (by decide) ?_
      refine mv_iload_n dX12_goBack_88 rfl ?_
      refine mv_imul dX12_goBack_89 ?_
      refine mv_topI (y := nI (3 * y)) (pk_mul _ _) ?_
      refine mv_iadd dX12_goBack_90 ?_
      refine mv_topI (y := nI (203 + (3 * y))) (nI_add _ _) ?_
      refine mv_iaN (j := (203 + (3 * y))) (x := nI (o2.2.2.1 y)) dX12_goBack_91 X79 rfl (by decide) (by omega) (congrArg nI (by show (if 203 + 3 * y < 200 then _ else _) = _; rw [if_neg (by omega)]; exact (congrArg (q_i1 o2 u2) (by omega)).trans (q_i1_d (by omega)))) ?_
      refine mv_iastN (j := y) dX12_goBack_92 X56 rfl (by decide) (by omega) (fun h1 e2 => ?_)
      rw [upd_nI] at e2
      have HX := mv_ne e2 (by decide) HX
      have X56 : h1[56]? = some (.inl (0, 60, .inl (fun j => nI (t_up (q_kp o2.2.2.1 b.2.2.1 y) y (o2.2.2.1 y) j)))) := mv_eq e2 X56
      have X57 := mv_ne e2 (by decide) X57
      have X58 := mv_ne e2 (by decide) X58
      have X79 := mv_ne e2 (by decide) X79
      have X80 := mv_ne e2 (by decide) X80
      have fr := fr.set e2 (by decide)
      clear e2
      rw [q_kp_s] at X56
      refine mv_aload_n dX12_goBack_93 rfl ?_
      refine mv_getf (ci := 12) (f := 12) dX12_goBack_94 HX rfl (by decide) wd_1211 rfl ?_
      refine mv_iload_n dX12_goBack_97 rfl ?_
      refine mv_aload_n dX12_goBack_98 rfl ?_
      refine mv_getf (ci := 12) (f := 39) dX12_goBack_99 HX rfl (by decide) wd_1238 rfl ?_
      refine mv_iload_n dX12_goBack_102 rfl ?_
      refine mv_iconst (v := nI 4) dX12_goBack_103 (by decide) ?_
      refine mv_iadd dX12_goBack_104 ?_
      refine mv_topI (y := nI 204) (nI_add _ _) ?_
      refine mv_iconst (v := nI 3) dX12_goBack_105 (by decide) ?_
      refine mv_iload_n dX12_goBack_106 rfl ?_
      refine mv_imul dX12_goBack_107 ?_
      refine mv_topI (y := nI (3 * y)) (pk_mul _ _) ?_
      refine mv_iadd dX12_goBack_108 ?_
      refine mv_topI (y := nI (204 + (3 * y))) (nI_add _ _) ?_
      refine mv_iaN (j := (204 + (3 * y))) (x := nI (o2.2.2.2.1 y)) dX12_goBack_109 X79 rfl (by decide) (by omega) (congrArg nI (by show (if 204 + 3 * y < 200 then _ else _) = _; rw [if_neg (by omega)]; exact (congrArg (q_i1 o2 u2) (by omega)).trans (q_i1_p (by omega)))) ?_
      refine mv_iastN (j := y) dX12_goBack_110 X57 rfl (by decide) (by omega) (fun h3 e4 => ?_)
      rw [upd_nI] at e4
      have HX := mv_ne e4 (by decide) HX
      have X56 := mv_ne e4 (by decide) X56
      have X57 : h3[57]? = some (.inl (0, 60, .inl (fun j => nI (t_up (q_kp o2.2.2.2.1 b.2.2.2.1 y) y (o2.2.2.2.1 y) j)))) := mv_eq e4 X57
      have X58 := mv_ne e4 (by decide) X58
      have X79 := mv_ne e4 (by decide) X79
      have X80 := mv_ne e4 (by decide) X80
      have fr := fr.set e4 (by decide)
      clear e4
      rw [q_kp_s] at X57
      refine mv_aload_n dX12_goBack_111 rfl ?_
      refine mv_getf (ci := 12) (f := 13) dX12_goBack_112 HX rfl (by decide) wd_1212 rfl ?_
      refine mv_iload_n dX12_goBack_115 rfl ?_
      refine mv_aload_n dX12_goBack_116 rfl ?_
      refine mv_getf (ci := 12) (f := 39) dX12_goBack_117 HX rfl (by decide) wd_1238 rfl ?_
      refine mv_iload_n dX12_goBack_120 rfl ?_
      refine mv_iconst (v := nI 5) dX12_goBack_121 (by decide) ?_
      refine mv_iadd dX12_goBack_122 ?_
      refine mv_topI (y := nI 205) (nI_add _ _) ?_
      refine mv_iconst (v := nI 3) dX12_goBack_123 (by decide) ?_
      refine mv_iload_n dX12_goBack_124 rfl ?_
      refine mv_imul dX12_goBack_125 ?_
      refine mv_topI (y := nI (3 * y)) (pk_mul _ _) ?_
      refine mv_iadd dX12_goBack_126 ?_
      refine mv_topI (y := nI (205 + (3 * y))) (nI_add _ _) ?_
      refine mv_iaN (j := (205 + (3 * y))) (x := nI (o2.2.2.2.2 y)) dX12_goBack_127 X79 rfl (by decide) (by omega) (congrArg nI (by show (if 205 + 3 * y < 200 then _ else _) = _; rw [if_neg (by omega)]; exact (congrArg (q_i1 o2 u2) (by omega)).trans (q_i1_z (by omega)))) ?_
      refine mv_iastN (j := y) dX12_goBack_128 X58 rfl (by decide) (by omega) (fun h5 e6 => ?_)
      rw [upd_nI] at e6
      have HX := mv_ne e6 (by decide) HX
      have X56 := mv_ne e6 (by decide) X56
      have X57 := mv_ne e6 (by decide) X57
      have X58 : h5[58]? = some (.inl (0, 60, .inl (fun j => nI (t_up (q_kp o2.2.2.2.2 b.2.2.2.2 y) y (o2.2.2.2.2 y) j)))) := mv_eq e6 X58
      have X79 := mv_ne e6 (by decide) X79
      have X80 := mv_ne e6 (by decide) X80
      have fr := fr.set e6 (by decide)
      clear e6
      rw [q_kp_s] at X58
      refine mv_iinc (v := nI (y + 1)) dX12_goBack_129 rfl (mv_inc y 1) (by decide) ?_
      refine mv_goto (tgt := 69) dX12_goBack_132 (by decide) ?_
      exact ih (y + 1) h5 (by omega) fr HX X56 X57 X58 X79 X80 (by omega)
set_option maxRecDepth 100000 in
theorem k_X12_goBack_G1 {ev : mv_E} {h : mv_H} {xt : Int32} {xf : Int32} {xa : Int32} {xo : Int64} {xe : Int32} {xu : Int32} {xs : Int32} {xg : Int32} {xc : Int32} {xw : Int32} {b : t_B} {t : Nat} {o : t_B} {u : Nat} {o2 : t_B} {u2 : Nat} {kp : Nat → Nat} (HX : h[52]? = some (.inr (12, [.ref 53, .ref 54, .int xt, .int xf, .int xa, .long xo, .int xe, .int xu, .ref 55, .int xs, .int (nI b.1), .ref 56, .ref 57, .ref 58, .int (nI t), .int (nI b.2.1), .ref 59, .ref 60, .ref 61, .ref 62, .int xg, .ref 63, .ref 64, .ref 65, .ref 66, .ref 67, .ref 68, .ref 69, .int xc, .ref 70, .ref 71, .ref 72, .ref 73, .ref 74, .ref 75, .int xw, .ref 76, .ref 77, .ref 78, .ref 79, .ref 80]))) (X56 : h[56]? = some (.inl (0, 60, .inl (fun j => nI (b.2.2.1 j))))) (X57 : h[57]? = some (.inl (0, 60, .inl (fun j => nI (b.2.2.2.1 j))))) (X58 : h[58]? = some (.inl (0, 60, .inl (fun j => nI (b.2.2.2.2 j))))) (X79 : h[79]? = some (.inl (0, 400, .inl (fun j => nI ((q_im o u o2 u2) j))))) (X80 : h[80]? = some (.inl (2, 2, .inl (fun j => nI (kp j))))) (hkp : ∀ i, kp i ≤ 1) (hk : kp 1 = 1) : ∃ h2, mv_K ev mX12_goBack [.ref 52, .int (nI 1)] h (some (.int (nI 1))) h2 ∧ mv_fra [52, 56, 57, 58] h h2 ∧ h2[52]? = some (.inr (12, [.ref 53, .ref 54, .int xt, .int xf, .int xa, .long xo, .int xe, .int xu, .ref 55, .int xs, .int (nI (q_cb b o2).1), .ref 56, .ref 57, .ref 58, .int (nI u2), .int (nI (q_cb b o2).2.1), .ref 59, .ref 60, .ref 61, .ref 62, .int xg, .ref 63, .ref 64, .ref 65, .ref 66, .ref 67, .ref 68, .ref 69, .int xc, .ref 70, .ref 71, .ref 72, .ref 73, .ref 74, .ref 75, .int xw, .ref 76, .ref 77, .ref 78, .ref 79, .ref 80])) ∧ h2[56]? = some (.inl (0, 60, .inl (fun j => nI ((q_cb b o2).2.2.1 j)))) ∧ h2[57]? = some (.inl (0, 60, .inl (fun j => nI ((q_cb b o2).2.2.2.1 j)))) ∧ h2[58]? = some (.inl (0, 60, .inl (fun j => nI ((q_cb b o2).2.2.2.2 j)))) := by
  suffices g0 : mv_g ev mX12_goBack 0 (mv_ent [.ref 52, .int (nI 1)] (mv_ml mX12_goBack)) [] h (fun r g => r = some (.int (nI 1)) ∧ mv_fra [52, 56, 57, 58] h g ∧ g[52]? = some (.inr (12, [.ref 53, .ref 54, .int xt, .int xf, .int xa, .long xo, .int xe, .int xu, .ref 55, .int xs, .int (nI (q_cb b o2).1), .ref 56, .ref 57, .ref 58, .int (nI u2), .int (nI (q_cb b o2).2.1), .ref 59, .ref 60, .ref 61, .ref 62, .int xg, .ref 63, .ref 64, .ref 65, .ref 66, .ref 67, .ref 68, .ref 69, .int xc, .ref 70, .ref 71, .ref 72, .ref 73, .ref 74, .ref 75, .int xw, .ref 76, .ref 77, .ref 78, .ref 79, .ref 80])) ∧ g[56]? = some (.inl (0, 60, .inl (fun j => nI ((q_cb b o2).2.2.1 j)))) ∧ g[57]? = some (.inl (0, 60, .inl (fun j => nI ((q_cb b o2).2.2.2.1 j)))) ∧ g[58]? = some (.inl (0, 60, .inl (fun j => nI ((q_cb b o2).2.2.2.2 j))))) from (by obtain ⟨r0, h0, K0, q0, Q0⟩ := mv_Kex g0; subst q0; exact ⟨h0, K0, Q0⟩)
  show mv_g ev mX12_goBack 0 [.ref 52, .int (nI 1), .null, .null] [] h _
  have fr : mv_fra [52, 56, 57, 58] h h := mv_fra.rf
  refine mv_iload_n dX12_goBack_0 rfl ?_
  refine mv_i2l dX12_goBack_1 ?_
  refine mv_topL (y := lN 1) (nI_l (by omega)) ?_
  refine mv_lconst (v := lN 0) dX12_goBack_2 rfl ?_
  refine mv_lconst (v := lN 1) dX12_goBack_3 rfl ?_
  refine mv_cS3 dX12_goBack_4 lk_X12_goBack_107 (Nat.le_of_ble_eq_true rfl) (Nat.le_of_ble_eq_true rfl) (k_X12_in (ev := ev)) ?_
  refine mv_if_ne (tgt := 14) dX12_goBack_7 (by decide) (fun c7 => ?_) (fun z => absurd z ((fun z => (mv_b_0 _).mp z ((and_congr (lN_leB (by omega) (by omega)) (lN_leB (by omega) (by omega))).mpr ⟨by omega, by omega⟩))))
  refine mv_aload_n dX12_goBack_14 rfl ?_
  refine mv_getf (ci := 12) (f := 40) dX12_goBack_15 HX rfl (by decide) wd_1239 rfl ?_
  refine mv_iload_n dX12_goBack_18 rfl ?_
  refine mv_zaN (j := 1) (x := nI (kp 1)) dX12_goBack_19 X80 rfl (by decide) (by omega) rfl ?_
  refine mv_if_ne (tgt := 27) dX12_goBack_20 (by decide) (fun c20 => ?_) (fun z => absurd z ((by rw [hk]; decide)))
  refine mv_sipush (v := nI 200) dX12_goBack_27 (by decide) ?_
  refine mv_iload_n dX12_goBack_30 rfl ?_
  refine mv_imul dX12_goBack_31 ?_
  refine mv_topI (y := nI 200) (pk_mul _ _) ?_
  refine mv_istore_n dX12_goBack_32 (by decide) ?_
  refine mv_aload_n dX12_goBack_33 rfl ?_
  refine mv_aload_n dX12_goBack_34 rfl ?_
  refine mv_getf (ci := 12) (f := 39) dX12_goBack_35 HX rfl (by decide) wd_1238 rfl ?_
  refine mv_iload_n dX12_goBack_38 rfl ?_
  refine mv_iaN (j := 200) (x := nI o2.1) dX12_goBack_39 X79 rfl (by decide) (by omega) rfl ?_
  refine mv_putf (ci := 12) (f := 10) dX12_goBack_40 HX rfl (by decide) wd_1209 rfl rfl (fun _ => ⟨rfl, rfl⟩) (Nat.le_of_ble_eq_true rfl) ?_
  refine mv_topH (fun h1 e2 => ?_)
  have HX : h1[52]? = some (.inr (12, [.ref 53, .ref 54, .int xt, .int xf, .int xa, .long xo, .int xe, .int xu, .ref 55, .int xs, .int (nI o2.1), .ref 56, .ref 57, .ref 58, .int (nI t), .int (nI b.2.1), .ref 59, .ref 60, .ref 61, .ref 62, .int xg, .ref 63, .ref 64, .ref 65, .ref 66, .ref 67, .ref 68, .ref 69, .int xc, .ref 70, .ref 71, .ref 72, .ref 73, .ref 74, .ref 75, .int xw, .ref 76, .ref 77, .ref 78, .ref 79, .ref 80])) := mv_eq e2 HX
  have X56 := mv_ne e2 (by decide) X56
  have X57 := mv_ne e2 (by decide) X57
  have X58 := mv_ne e2 (by decide) X58
  have X79 := mv_ne e2 (by decide) X79
  have X80 := mv_ne e2 (by decide) X80
  have fr := fr.set e2 (by decide)
  clear e2
  refine mv_aload_n dX12_goBack_43 rfl ?_
  refine mv_aload_n dX12_goBack_44 rfl ?_
  refine mv_getf (ci := 12) (f := 39) dX12_goBack_45 HX rfl (by decide) wd_1238 rfl ?_
  refine mv_iload_n dX12_goBack_48 rfl ?_
  refine mv_iconst (v := nI 1) dX12_goBack_49 (by decide) ?_
  refine mv_iadd dX12_goBack_50 ?_
  refine mv_topI (y := nI 201) (nI_add _ _) ?_
  refine mv_iaN (j := 201) (x := nI u2) dX12_goBack_51 X79 rfl (by decide) (by omega) rfl ?_
  refine mv_putf (ci := 12) (f := 14) dX12_goBack_52 HX rfl (by decide) wd_1213 rfl rfl (fun _ => ⟨rfl, rfl⟩) (Nat.le_of_ble_eq_true rfl) ?_
  refine mv_topH (fun h3 e4 => ?_)
  have HX : h3[52]? = some (.inr (12, [.ref 53, .ref 54, .int xt, .int xf, .int xa, .long xo, .int xe, .int xu, .ref 55, .int xs, .int (nI o2.1), .ref 56, .ref 57, .ref 58, .int (nI u2), .int (nI b.2.1), .ref 59, .ref 60, .ref 61, .ref 62, .int xg, .ref 63, .ref 64, .ref 65, .ref 66, .ref 67, .ref 68, .ref 69, .int xc, .ref 70, .ref 71, .ref 72, .ref 73, .ref 74, .ref 75, .int xw, .ref 76, .ref 77, .ref 78, .ref 79, .ref 80])) := mv_eq e4 HX
  have X56 := mv_ne e4 (by decide) X56
  have X57 := mv_ne e4 (by decide) X57
  have X58 := mv_ne e4 (by decide) X58
  have X79 := mv_ne e4 (by decide) X79
  have X80 := mv_ne e4 (by decide) X80
  have fr := fr.set e4 (by decide)
  clear e4
  refine mv_aload_n dX12_goBack_55 rfl ?_
  refine mv_aload_n dX12_goBack_56 rfl ?_
  refine mv_getf (ci := 12) (f := 39) dX12_goBack_57 HX rfl (by decide) wd_1238 rfl ?_
  refine mv_iload_n dX12_goBack_60 rfl ?_
  refine mv_iconst (v := nI 2) dX12_goBack_61 (by decide) ?_
  refine mv_iadd dX12_goBack_62 ?_
  refine mv_topI (y := nI 202) (nI_add _ _) ?_
  refine mv_iaN (j := 202) (x := nI o2.2.1) dX12_goBack_63 X79 rfl (by decide) (by omega) rfl ?_
  refine mv_putf (ci := 12) (f := 15) dX12_goBack_64 HX rfl (by decide) wd_1214 rfl rfl (fun _ => ⟨rfl, rfl⟩) (Nat.le_of_ble_eq_true rfl) ?_
  refine mv_topH (fun h5 e6 => ?_)
  have HX : h5[52]? = some (.inr (12, [.ref 53, .ref 54, .int xt, .int xf, .int xa, .long xo, .int xe, .int xu, .ref 55, .int xs, .int (nI o2.1), .ref 56, .ref 57, .ref 58, .int (nI u2), .int (nI o2.2.1), .ref 59, .ref 60, .ref 61, .ref 62, .int xg, .ref 63, .ref 64, .ref 65, .ref 66, .ref 67, .ref 68, .ref 69, .int xc, .ref 70, .ref 71, .ref 72, .ref 73, .ref 74, .ref 75, .int xw, .ref 76, .ref 77, .ref 78, .ref 79, .ref 80])) := mv_eq e6 HX
  have X56 := mv_ne e6 (by decide) X56
  have X57 := mv_ne e6 (by decide) X57
  have X58 := mv_ne e6 (by decide) X58
  have X79 := mv_ne e6 (by decide) X79
  have X80 := mv_ne e6 (by decide) X80
  have fr := fr.set e6 (by decide)
  clear e6
  rw [← q_kp_0 o2.2.2.1 b.2.2.1] at X56
  rw [← q_kp_0 o2.2.2.2.1 b.2.2.2.1] at X57
  rw [← q_kp_0 o2.2.2.2.2 b.2.2.2.2] at X58
  refine mv_iconst (v := nI 0) dX12_goBack_67 (by decide) ?_
  refine mv_istore_n dX12_goBack_68 (by decide) ?_
  exact l_X12_goBack1 hkp hk (60 + 1) 0 h5 (by omega) fr HX X56 X57 X58 X79 X80 (Nat.zero_le _)
