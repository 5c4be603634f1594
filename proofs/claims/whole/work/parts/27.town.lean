def q_tf (t : q_3) (f : Nat → Nat) : Nat → Nat := fun i => if i = 0 then t.1 else if i = 1 then t.2.1 else if i = 2 then t.2.2 else f i
theorem q_tf_0 (f : Nat → Nat) : q_tf (0, 0, 0) (q_z f 4) = q_z f 4 := by
  funext i
  unfold q_tf q_z
  by_cases c0 : i = 0
  · rw [if_pos c0, if_pos (show i < 4 by omega)]
  · by_cases c1 : i = 1
    · rw [if_neg c0, if_pos c1, if_pos (show i < 4 by omega)]
    · by_cases c2 : i = 2
      · rw [if_neg c0, if_neg c1, if_pos c2, if_pos (show i < 4 by omega)]
      · rw [if_neg c0, if_neg c1, if_neg c2]
theorem q_tf_u (t : q_3) (f : Nat → Nat) (x0 x1 x2 : Nat) : t_up (t_up (t_up (q_tf t f) 0 x0) 1 x1) 2 x2 = q_tf (x0, x1, x2) f := by
  funext i
  unfold t_up q_tf
  by_cases c0 : i = 0
  · rw [if_neg (show ¬ i = 2 by omega), if_neg (show ¬ i = 1 by omega), if_pos c0, if_pos c0]
  · by_cases c1 : i = 1
    · rw [if_neg (show ¬ i = 2 by omega), if_pos c1, if_neg c0, if_pos c1]
    · by_cases c2 : i = 2
      · rw [if_pos c2, if_neg c0, if_neg c1, if_pos c2]
      · rw [if_neg c2, if_neg c1, if_neg c0, if_neg c0, if_neg c1, if_neg c2, if_neg c0, if_neg c1, if_neg c2]
set_option maxRecDepth 100000 in
theorem l_X12_townB {ev : mv_E} {h : mv_H} {xt : Int32} {xf : Int32} {xa : Int32} {xo : Int64} {xe : Int32} {xu : Int32} {xs : Int32} {xg : Int32} {xc : Int32} {xw : Int32} {b : t_B} {t : Nat} {od : Nat → Nat} {sh : Nat → Nat} {tw : Nat → Nat} {li : Nat} {lc : Nat} {sc : Nat} {a : Nat} {e : Nat}  (ho : ∀ d, a ≤ d → d ≤ e → od d ≤ 1000000) (hsh : ∀ d, a ≤ d → d ≤ e → sh d ≤ 60) (hli : li ≤ 1000001) (hae : a ≤ e) (he : e ≤ 399) : ∀ (fu : Nat) (y : Nat), ∀ (g : mv_H), e + 1 < y + fu → mv_fra [73] h g → g[73]? = some (.inl (0, 4, .inl (fun j => nI (q_tf (q_tw od sh li a (y - a)) (q_z tw 4) j)))) → g[52]? = some (.inr (12, [.ref 53, .ref 54, .int xt, .int xf, .int xa, .long xo, .int xe, .int xu, .ref 55, .int xs, .int (nI b.1), .ref 56, .ref 57, .ref 58, .int (nI t), .int (nI b.2.1), .ref 59, .ref 60, .ref 61, .ref 62, .int xg, .ref 63, .ref 64, .ref 65, .ref 66, .ref 67, .ref 68, .ref 69, .int xc, .ref 70, .ref 71, .ref 72, .ref 73, .ref 74, .ref 75, .int xw, .ref 76, .ref 77, .ref 78, .ref 79, .ref 80])) → g[71]? = some (.inl (0, 400, .inl (fun j => nI (od j)))) → g[72]? = some (.inl (0, 400, .inl (fun j => nI (sh j)))) → (a ≤ y) → (y ≤ e + 1) → mv_g ev mX12_runTown 27 [.ref 52, .int (nI lc), .int (nI sc), .int (nI li), .int (nI a), .int (nI e), .int (nI y), .null] [] g (fun r g => r = some (.int (nI (q_co od sh a e lc sc li))) ∧ mv_fra [73] h g ∧ g[73]? = some (.inl (0, 4, .inl (fun j => nI (t_up (q_tf (q_tw od sh li a (e + 1 - a)) (q_z tw 4)) 3 (q_co od sh a e lc sc li) j))))) := by
  intro fu
  induction fu with
  | zero => intro y g hm fr X73 HX X71 X72 hy hy2; exact absurd hm (by omega)
  | succ fu ih =>
    intro y g hm fr X73 HX X71 X72 hy hy2
    refine mv_iload dX12_runTown_27 rfl ?_
    refine mv_iload dX12_runTown_29 rfl ?_
    refine mv_icmp_gt (tgt := 131) dX12_runTown_31 (by decide) (fun c31 => ?_) (fun c31 => ?_)
    · have c31 : e < y := (nI_ltI (by omega) (by omega)).mp c31
      have ey : y = e + 1 := (by omega)
      subst ey
      refine mv_aload_n dX12_runTown_131 rfl ?_
      refine mv_getf (ci := 12) (f := 32) dX12_runTown_132 HX rfl (by decide) wd_1231 rfl ?_
      refine mv_iconst (v := nI 3) dX12_runTown_135 (by decide) ?_
      refine mv_iload_n dX12_runTown_136 rfl ?_
      refine mv_aload_n dX12_runTown_137 rfl ?_
      refine mv_getf (ci := 12) (f := 32) dX12_runTown_138 HX rfl (by decide) wd_1231 rfl ?_
      refine mv_iconst (v := nI 0) dX12_runTown_141 (by decide) ?_
      refine mv_iaN (j := 0) (x := nI (q_tw od sh li a (e + 1 - a)).1) dX12_runTown_142 X73 rfl (by decide) (by omega) rfl ?_
      refine mv_imul dX12_runTown_143 ?_
      refine mv_topI (y := nI ((q_tw od sh li a (e + 1 - a)).1 * lc)) ((pk_mul _ _).trans (congrArg nI (Nat.mul_comm _ _))) ?_
      refine mv_iload_n dX12_runTown_144 rfl ?_
      refine mv_aload_n dX12_runTown_145 rfl ?_
      refine mv_getf (ci := 12) (f := 32) dX12_runTown_146 HX rfl (by decide) wd_1231 rfl ?_
      refine mv_iconst (v := nI 2) dX12_runTown_149 (by decide) ?_
      refine mv_iaN (j := 2) (x := nI (q_tw od sh li a (e + 1 - a)).2.2) dX12_runTown_150 X73 rfl (by decide) (by omega) rfl ?_
      refine mv_imul dX12_runTown_151 ?_
      refine mv_topI (y := nI ((q_tw od sh li a (e + 1 - a)).2.2 * sc)) ((pk_mul _ _).trans (congrArg nI (Nat.mul_comm _ _))) ?_
      refine mv_iadd dX12_runTown_152 ?_
      refine mv_topI (y := nI (q_co od sh a e lc sc li)) (nI_add _ _) ?_
      refine mv_iastN (j := 3) dX12_runTown_153 X73 rfl (by decide) (by omega) (fun h1 e2 => ?_)
      rw [upd_nI] at e2
      have HX := mv_ne e2 (by decide) HX
      have X71 := mv_ne e2 (by decide) X71
      have X72 := mv_ne e2 (by decide) X72
      have X73 : h1[73]? = some (.inl (0, 4, .inl (fun j => nI (t_up (q_tf (q_tw od sh li a (e + 1 - a)) (q_z tw 4)) 3 (q_co od sh a e lc sc li) j)))) := mv_eq e2 X73
      have fr := fr.set e2 (by decide)
      clear e2
      refine mv_aload_n dX12_runTown_154 rfl ?_
      refine mv_getf (ci := 12) (f := 32) dX12_runTown_155 HX rfl (by decide) wd_1231 rfl ?_
      refine mv_iconst (v := nI 3) dX12_runTown_158 (by decide) ?_
      refine mv_iaN (j := 3) (x := nI (q_co od sh a e lc sc li)) dX12_runTown_159 X73 rfl (by decide) (by omega) (congrArg nI (t_up_eq _ _ _)) ?_
      exact mv_iret dX12_runTown_160 rfl rfl ⟨rfl, fr, X73⟩
    · have c31 : ¬ (e < y) := fun z => c31 ((nI_ltI (by omega) (by omega)).mpr z)
      have n1 := ho y (by omega) (by omega)
      have n2 := hsh y (by omega) (by omega)
      refine mv_aload_n dX12_runTown_34 rfl ?_
      refine mv_getf (ci := 12) (f := 30) dX12_runTown_35 HX rfl (by decide) wd_1229 rfl ?_
      refine mv_iload dX12_runTown_38 rfl ?_
      refine mv_iaN (j := y) (x := nI (od y)) dX12_runTown_40 X71 rfl (by decide) (by omega) rfl ?_
      refine mv_iload_n dX12_runTown_41 rfl ?_
      refine mv_icmp_lt (tgt := 49) dX12_runTown_42 (by decide) (fun c42 => ?_) (fun c42 => ?_)
      · have c42 : od y < li := (nI_ltI (by omega) (by omega)).mp c42
        refine mv_iconst (v := nI 0) dX12_runTown_49 (by decide) ?_
        refine mv_istore dX12_runTown_50 (by decide) ?_
        refine mv_aload_n dX12_runTown_52 rfl ?_
        refine mv_getf (ci := 12) (f := 32) dX12_runTown_53 HX rfl (by decide) wd_1231 rfl ?_
        refine mv_iconst (v := nI 0) dX12_runTown_56 (by decide) ?_
        refine mv_dup2 dX12_runTown_57 rfl rfl ?_
        refine mv_iaN (j := 0) (x := nI (q_tw od sh li a (y - a)).1) dX12_runTown_58 X73 rfl (by decide) (by omega) rfl ?_
        refine mv_iload dX12_runTown_59 rfl ?_
        refine mv_if_eq (tgt := 68) dX12_runTown_61 (by decide) (fun c61 => ?_) (fun z => absurd ((by decide)) z)
        refine mv_iconst (v := nI 0) dX12_runTown_68 (by decide) ?_
        refine mv_iadd dX12_runTown_69 ?_
        refine mv_topI (y := nI ((q_tw od sh li a (y - a)).1 + 0)) (nI_add _ _) ?_
        refine mv_iastN (j := 0) dX12_runTown_70 X73 rfl (by decide) (by omega) (fun h3 e4 => ?_)
        rw [upd_nI] at e4
        have HX := mv_ne e4 (by decide) HX
        have X71 := mv_ne e4 (by decide) X71
        have X72 := mv_ne e4 (by decide) X72
        have X73 : h3[73]? = some (.inl (0, 4, .inl (fun j => nI (t_up (q_tf (q_tw od sh li a (y - a)) (q_z tw 4)) 0 ((q_tw od sh li a (y - a)).1 + 0) j)))) := mv_eq e4 X73
        have fr := fr.set e4 (by decide)
        clear e4
        refine mv_aload_n dX12_runTown_71 rfl ?_
        refine mv_getf (ci := 12) (f := 32) dX12_runTown_72 HX rfl (by decide) wd_1231 rfl ?_
        refine mv_iconst (v := nI 1) dX12_runTown_75 (by decide) ?_
        refine mv_dup2 dX12_runTown_76 rfl rfl ?_
        refine mv_iaN (j := 1) (x := nI (q_tw od sh li a (y - a)).2.1) dX12_runTown_77 X73 rfl (by decide) (by omega) rfl ?_
        refine mv_iload dX12_runTown_78 rfl ?_
        refine mv_if_eq (tgt := 97) dX12_runTown_80 (by decide) (fun c80 => ?_) (fun z => absurd ((by decide)) z)
        refine mv_iconst (v := nI 0) dX12_runTown_97 (by decide) ?_
        refine mv_iadd dX12_runTown_98 ?_
        refine mv_topI (y := nI ((q_tw od sh li a (y - a)).2.1 + 0)) (nI_add _ _) ?_
        refine mv_iastN (j := 1) dX12_runTown_99 X73 rfl (by decide) (by omega) (fun h5 e6 => ?_)
        rw [upd_nI] at e6
        have HX := mv_ne e6 (by decide) HX
        have X71 := mv_ne e6 (by decide) X71
        have X72 := mv_ne e6 (by decide) X72
        have X73 : h5[73]? = some (.inl (0, 4, .inl (fun j => nI (t_up (t_up (q_tf (q_tw od sh li a (y - a)) (q_z tw 4)) 0 ((q_tw od sh li a (y - a)).1 + 0)) 1 ((q_tw od sh li a (y - a)).2.1 + 0) j)))) := mv_eq e6 X73
        have fr := fr.set e6 (by decide)
        clear e6
        refine mv_aload_n dX12_runTown_100 rfl ?_
        refine mv_getf (ci := 12) (f := 32) dX12_runTown_101 HX rfl (by decide) wd_1231 rfl ?_
        refine mv_iconst (v := nI 2) dX12_runTown_104 (by decide) ?_
        refine mv_dup2 dX12_runTown_105 rfl rfl ?_
        refine mv_iaN (j := 2) (x := nI (q_tw od sh li a (y - a)).2.2) dX12_runTown_106 X73 rfl (by decide) (by omega) rfl ?_
        refine mv_iload dX12_runTown_107 rfl ?_
        refine mv_if_eq (tgt := 116) dX12_runTown_109 (by decide) (fun c109 => ?_) (fun z => absurd ((by decide)) z)
        refine mv_aload_n dX12_runTown_116 rfl ?_
        refine mv_getf (ci := 12) (f := 31) dX12_runTown_117 HX rfl (by decide) wd_1230 rfl ?_
        refine mv_iload dX12_runTown_120 rfl ?_
        refine mv_iaN (j := y) (x := nI (sh y)) dX12_runTown_122 X72 rfl (by decide) (by omega) rfl ?_
        refine mv_iadd dX12_runTown_123 ?_
        refine mv_topI (y := nI ((q_tw od sh li a (y - a)).2.2 + (sh y))) (nI_add _ _) ?_
        refine mv_iastN (j := 2) dX12_runTown_124 X73 rfl (by decide) (by omega) (fun h7 e8 => ?_)
        rw [upd_nI] at e8
        have HX := mv_ne e8 (by decide) HX
        have X71 := mv_ne e8 (by decide) X71
        have X72 := mv_ne e8 (by decide) X72
        have X73 : h7[73]? = some (.inl (0, 4, .inl (fun j => nI (t_up (t_up (t_up (q_tf (q_tw od sh li a (y - a)) (q_z tw 4)) 0 ((q_tw od sh li a (y - a)).1 + 0)) 1 ((q_tw od sh li a (y - a)).2.1 + 0)) 2 ((q_tw od sh li a (y - a)).2.2 + (sh y)) j)))) := mv_eq e8 X73
        have fr := fr.set e8 (by decide)
        clear e8
        have e8 : q_tl od sh li y (q_tw od sh li a (y - a)) = ((q_tw od sh li a (y - a)).1 + 0, (q_tw od sh li a (y - a)).2.1 + 0, (q_tw od sh li a (y - a)).2.2 + sh y) := (by unfold q_tl; first | exact if_pos (by omega) | exact (if_neg (by omega)).trans (if_pos (by omega)) | exact (if_neg (by omega)).trans (if_neg (by omega)))
        rw [q_tf_u, ← e8, ← q_tw_s (by omega)] at X73
        refine mv_iinc (v := nI (y + 1)) dX12_runTown_125 rfl (mv_inc y 1) (by decide) ?_
        refine mv_goto (tgt := 27) dX12_runTown_128 (by decide) ?_
        refine mv_sub (lv' := [.ref 52, .int (nI lc), .int (nI sc), .int (nI li), .int (nI a), .int (nI e), .int (nI (y + 1)), .null]) ⟨Or.inr rfl, Or.inr rfl, Or.inr rfl, Or.inr rfl, Or.inr rfl, Or.inr rfl, Or.inr rfl, Or.inl rfl, trivial⟩ ?_
        exact ih (y + 1) h7 (by omega) fr X73 HX X71 X72 (by omega) (by omega)
      · have c42 : ¬ (od y < li) := fun z => c42 ((nI_ltI (by omega) (by omega)).mpr z)
        refine mv_iconst (v := nI 1) dX12_runTown_45 (by decide) ?_
        refine mv_goto (tgt := 50) dX12_runTown_46 (by decide) ?_
        refine mv_istore dX12_runTown_50 (by decide) ?_
        refine mv_aload_n dX12_runTown_52 rfl ?_
        refine mv_getf (ci := 12) (f := 32) dX12_runTown_53 HX rfl (by decide) wd_1231 rfl ?_
        refine mv_iconst (v := nI 0) dX12_runTown_56 (by decide) ?_
        refine mv_dup2 dX12_runTown_57 rfl rfl ?_
        refine mv_iaN (j := 0) (x := nI (q_tw od sh li a (y - a)).1) dX12_runTown_58 X73 rfl (by decide) (by omega) rfl ?_
        refine mv_iload dX12_runTown_59 rfl ?_
        refine mv_if_eq (tgt := 68) dX12_runTown_61 (by decide) (fun z => absurd z ((by decide))) (fun c61 => ?_)
        refine mv_iconst (v := nI 1) dX12_runTown_64 (by decide) ?_
        refine mv_goto (tgt := 69) dX12_runTown_65 (by decide) ?_
        refine mv_iadd dX12_runTown_69 ?_
        refine mv_topI (y := nI ((q_tw od sh li a (y - a)).1 + 1)) (nI_add _ _) ?_
        refine mv_iastN (j := 0) dX12_runTown_70 X73 rfl (by decide) (by omega) (fun h9 e10 => ?_)
        rw [upd_nI] at e10
        have HX := mv_ne e10 (by decide) HX
        have X71 := mv_ne e10 (by decide) X71
        have X72 := mv_ne e10 (by decide) X72
        have X73 : h9[73]? = some (.inl (0, 4, .inl (fun j => nI (t_up (q_tf (q_tw od sh li a (y - a)) (q_z tw 4)) 0 ((q_tw od sh li a (y - a)).1 + 1) j)))) := mv_eq e10 X73
        have fr := fr.set e10 (by decide)
        clear e10
        refine mv_aload_n dX12_runTown_71 rfl ?_
        refine mv_getf (ci := 12) (f := 32) dX12_runTown_72 HX rfl (by decide) wd_1231 rfl ?_
        refine mv_iconst (v := nI 1) dX12_runTown_75 (by decide) ?_
        refine mv_dup2 dX12_runTown_76 rfl rfl ?_
        refine mv_iaN (j := 1) (x := nI (q_tw od sh li a (y - a)).2.1) dX12_runTown_77 X73 rfl (by decide) (by omega) rfl ?_
        refine mv_iload dX12_runTown_78 rfl ?_
        refine mv_if_eq (tgt := 97) dX12_runTown_80 (by decide) (fun z => absurd z ((by decide))) (fun c80 => ?_)
        refine mv_aload_n dX12_runTown_83 rfl ?_
        refine mv_getf (ci := 12) (f := 31) dX12_runTown_84 HX rfl (by decide) wd_1230 rfl ?_
        refine mv_iload dX12_runTown_87 rfl ?_
        refine mv_iaN (j := y) (x := nI (sh y)) dX12_runTown_89 X72 rfl (by decide) (by omega) rfl ?_
        refine mv_if_ne (tgt := 97) dX12_runTown_90 (by decide) (fun c90 => ?_) (fun c90 => ?_)
        · have c90 : ¬ (sh y = 0) := fun z => c90 ((nI_eq (b := 0) (by omega) (by omega)).mpr z)
          refine mv_iconst (v := nI 0) dX12_runTown_97 (by decide) ?_
          refine mv_iadd dX12_runTown_98 ?_
          refine mv_topI (y := nI ((q_tw od sh li a (y - a)).2.1 + 0)) (nI_add _ _) ?_
          refine mv_iastN (j := 1) dX12_runTown_99 X73 rfl (by decide) (by omega) (fun h11 e12 => ?_)
          rw [upd_nI] at e12
          have HX := mv_ne e12 (by decide) HX
          have X71 := mv_ne e12 (by decide) X71
          have X72 := mv_ne e12 (by decide) X72
          have X73 : h11[73]? = some (.inl (0, 4, .inl (fun j => nI (t_up (t_up (q_tf (q_tw od sh li a (y - a)) (q_z tw 4)) 0 ((q_tw od sh li a (y - a)).1 + 1)) 1 ((q_tw od sh li a (y - a)).2.1 + 0) j)))) := mv_eq e12 X73
          have fr := fr.set e12 (by decide)
          clear e12
          refine mv_aload_n dX12_runTown_100 rfl ?_
          refine mv_getf (ci := 12) (f := 32) dX12_runTown_101 HX rfl (by decide) wd_1231 rfl ?_
          refine mv_iconst (v := nI 2) dX12_runTown_104 (by decide) ?_
          refine mv_dup2 dX12_runTown_105 rfl rfl ?_
          refine mv_iaN (j := 2) (x := nI (q_tw od sh li a (y - a)).2.2) dX12_runTown_106 X73 rfl (by decide) (by omega) rfl ?_
          refine mv_iload dX12_runTown_107 rfl ?_
          refine mv_if_eq (tgt := 116) dX12_runTown_109 (by decide) (fun z => absurd z ((by decide))) (fun c109 => ?_)
          refine mv_iconst (v := nI 0) dX12_runTown_112 (by decide) ?_
          refine mv_goto (tgt := 123) dX12_runTown_113 (by decide) ?_
          refine mv_iadd dX12_runTown_123 ?_
          refine mv_topI (y := nI ((q_tw od sh li a (y - a)).2.2 + 0)) (nI_add _ _) ?_
          refine mv_iastN (j := 2) dX12_runTown_124 X73 rfl (by decide) (by omega) (fun h13 e14 => ?_)
          rw [upd_nI] at e14
          have HX := mv_ne e14 (by decide) HX
          have X71 := mv_ne e14 (by decide) X71
          have X72 := mv_ne e14 (by decide) X72
          have X73 : h13[73]? = some (.inl (0, 4, .inl (fun j => nI (t_up (t_up (t_up (q_tf (q_tw od sh li a (y - a)) (q_z tw 4)) 0 ((q_tw od sh li a (y - a)).1 + 1)) 1 ((q_tw od sh li a (y - a)).2.1 + 0)) 2 ((q_tw od sh li a (y - a)).2.2 + 0) j)))) := mv_eq e14 X73
          have fr := fr.set e14 (by decide)
          clear e14
          have e8 : q_tl od sh li y (q_tw od sh li a (y - a)) = ((q_tw od sh li a (y - a)).1 + 1, (q_tw od sh li a (y - a)).2.1 + 0, (q_tw od sh li a (y - a)).2.2 + 0) := (by unfold q_tl; first | exact if_pos (by omega) | exact (if_neg (by omega)).trans (if_pos (by omega)) | exact (if_neg (by omega)).trans (if_neg (by omega)))
          rw [q_tf_u, ← e8, ← q_tw_s (by omega)] at X73
          refine mv_iinc (v := nI (y + 1)) dX12_runTown_125 rfl (mv_inc y 1) (by decide) ?_
          refine mv_goto (tgt := 27) dX12_runTown_128 (by decide) ?_
          refine mv_sub (lv' := [.ref 52, .int (nI lc), .int (nI sc), .int (nI li), .int (nI a), .int (nI e), .int (nI (y + 1)), .null]) ⟨Or.inr rfl, Or.inr rfl, Or.inr rfl, Or.inr rfl, Or.inr rfl, Or.inr rfl, Or.inr rfl, Or.inl rfl, trivial⟩ ?_
          exact ih (y + 1) h13 (by omega) fr X73 HX X71 X72 (by omega) (by omega)
        · have c90 : sh y = 0 := (nI_eq (b := 0) (by omega) (by omega)).mp c90
          refine mv_iconst (v := nI 1) dX12_runTown_93 (by decide) ?_
          refine mv_goto (tgt := 98) dX12_runTown_94 (by decide) ?_
          refine mv_iadd dX12_runTown_98 ?_
          refine mv_topI (y := nI ((q_tw od sh li a (y - a)).2.1 + 1)) (nI_add _ _) ?_
          refine mv_iastN (j := 1) dX12_runTown_99 X73 rfl (by decide) (by omega) (fun h15 e16 => ?_)
          rw [upd_nI] at e16
          have HX := mv_ne e16 (by decide) HX
          have X71 := mv_ne e16 (by decide) X71
          have X72 := mv_ne e16 (by decide) X72
          have X73 : h15[73]? = some (.inl (0, 4, .inl (fun j => nI (t_up (t_up (q_tf (q_tw od sh li a (y - a)) (q_z tw 4)) 0 ((q_tw od sh li a (y - a)).1 + 1)) 1 ((q_tw od sh li a (y - a)).2.1 + 1) j)))) := mv_eq e16 X73
          have fr := fr.set e16 (by decide)
          clear e16
          refine mv_aload_n dX12_runTown_100 rfl ?_
          refine mv_getf (ci := 12) (f := 32) dX12_runTown_101 HX rfl (by decide) wd_1231 rfl ?_
          refine mv_iconst (v := nI 2) dX12_runTown_104 (by decide) ?_
          refine mv_dup2 dX12_runTown_105 rfl rfl ?_
          refine mv_iaN (j := 2) (x := nI (q_tw od sh li a (y - a)).2.2) dX12_runTown_106 X73 rfl (by decide) (by omega) rfl ?_
          refine mv_iload dX12_runTown_107 rfl ?_
          refine mv_if_eq (tgt := 116) dX12_runTown_109 (by decide) (fun z => absurd z ((by decide))) (fun c109 => ?_)
          refine mv_iconst (v := nI 0) dX12_runTown_112 (by decide) ?_
          refine mv_goto (tgt := 123) dX12_runTown_113 (by decide) ?_
          refine mv_iadd dX12_runTown_123 ?_
          refine mv_topI (y := nI ((q_tw od sh li a (y - a)).2.2 + 0)) (nI_add _ _) ?_
          refine mv_iastN (j := 2) dX12_runTown_124 X73 rfl (by decide) (by omega) (fun h17 e18 => ?_)
          rw [upd_nI] at e18
          have HX := mv_ne e18 (by decide) HX
          have X71 := mv_ne e18 (by decide) X71
          have X72 := mv_ne e18 (by decide) X72
          have X73 : h17[73]? = some (.inl (0, 4, .inl (fun j => nI (t_up (t_up (t_up (q_tf (q_tw od sh li a (y - a)) (q_z tw 4)) 0 ((q_tw od sh li a (y - a)).1 + 1)) 1 ((q_tw od sh li a (y - a)).2.1 + 1)) 2 ((q_tw od sh li a (y - a)).2.2 + 0) j)))) := mv_eq e18 X73
          have fr := fr.set e18 (by decide)
          clear e18
          have e8 : q_tl od sh li y (q_tw od sh li a (y - a)) = ((q_tw od sh li a (y - a)).1 + 1, (q_tw od sh li a (y - a)).2.1 + 1, (q_tw od sh li a (y - a)).2.2 + 0) := (by unfold q_tl; first | exact if_pos (by omega) | exact (if_neg (by omega)).trans (if_pos (by omega)) | exact (if_neg (by omega)).trans (if_neg (by omega)))
          rw [q_tf_u, ← e8, ← q_tw_s (by omega)] at X73
          refine mv_iinc (v := nI (y + 1)) dX12_runTown_125 rfl (mv_inc y 1) (by decide) ?_
          refine mv_goto (tgt := 27) dX12_runTown_128 (by decide) ?_
          refine mv_sub (lv' := [.ref 52, .int (nI lc), .int (nI sc), .int (nI li), .int (nI a), .int (nI e), .int (nI (y + 1)), .null]) ⟨Or.inr rfl, Or.inr rfl, Or.inr rfl, Or.inr rfl, Or.inr rfl, Or.inr rfl, Or.inr rfl, Or.inl rfl, trivial⟩ ?_
          exact ih (y + 1) h17 (by omega) fr X73 HX X71 X72 (by omega) (by omega)
set_option maxRecDepth 100000 in
theorem l_X12_townA {ev : mv_E} {h : mv_H} {xt : Int32} {xf : Int32} {xa : Int32} {xo : Int64} {xe : Int32} {xu : Int32} {xs : Int32} {xg : Int32} {xc : Int32} {xw : Int32} {b : t_B} {t : Nat} {od : Nat → Nat} {sh : Nat → Nat} {tw : Nat → Nat} {li : Nat} {lc : Nat} {sc : Nat} {a : Nat} {e : Nat}  (ho : ∀ d, a ≤ d → d ≤ e → od d ≤ 1000000) (hsh : ∀ d, a ≤ d → d ≤ e → sh d ≤ 60) (hli : li ≤ 1000001) (hae : a ≤ e) (he : e ≤ 399) : ∀ (fu : Nat) (u : Nat), ∀ (g : mv_H), 4 < u + fu → mv_fra [73] h g → g[73]? = some (.inl (0, 4, .inl (fun j => nI (q_z tw u j)))) → g[52]? = some (.inr (12, [.ref 53, .ref 54, .int xt, .int xf, .int xa, .long xo, .int xe, .int xu, .ref 55, .int xs, .int (nI b.1), .ref 56, .ref 57, .ref 58, .int (nI t), .int (nI b.2.1), .ref 59, .ref 60, .ref 61, .ref 62, .int xg, .ref 63, .ref 64, .ref 65, .ref 66, .ref 67, .ref 68, .ref 69, .int xc, .ref 70, .ref 71, .ref 72, .ref 73, .ref 74, .ref 75, .int xw, .ref 76, .ref 77, .ref 78, .ref 79, .ref 80])) → g[71]? = some (.inl (0, 400, .inl (fun j => nI (od j)))) → g[72]? = some (.inl (0, 400, .inl (fun j => nI (sh j)))) → (u ≤ 4) → mv_g ev mX12_runTown 3 [.ref 52, .int (nI lc), .int (nI sc), .int (nI li), .int (nI a), .int (nI e), .int (nI u), .null] [] g (fun r g => r = some (.int (nI (q_co od sh a e lc sc li))) ∧ mv_fra [73] h g ∧ g[73]? = some (.inl (0, 4, .inl (fun j => nI (t_up (q_tf (q_tw od sh li a (e + 1 - a)) (q_z tw 4)) 3 (q_co od sh a e lc sc li) j))))) := by
  intro fu
  induction fu with
  | zero => intro u g hm fr X73 HX X71 X72 hu; exact absurd hm (by omega)
  | succ fu ih =>
    intro u g hm fr X73 HX X71 X72 hu
    refine mv_iload dX12_runTown_3 rfl ?_
    refine mv_iconst (v := nI 4) dX12_runTown_5 (by decide) ?_
    refine mv_icmp_ge (tgt := 23) dX12_runTown_6 (by decide) (fun c6 => ?_) (fun c6 => ?_)
    · have c6 : 4 ≤ u := (nI_leI (by omega) (by omega)).mp c6
      have eu : u = 4 := (by omega)
      subst eu
      have ez : (q_tw od sh li a (a - a)) = (0, 0, 0) := (by rw [Nat.sub_self]; rfl)
      have X73 : g[73]? = some (.inl (0, 4, .inl (fun j => nI (q_tf (q_tw od sh li a (a - a)) (q_z tw 4) j)))) := (by rw [ez, q_tf_0]; exact X73)
      refine mv_iload dX12_runTown_23 rfl ?_
      refine mv_istore dX12_runTown_25 (by decide) ?_
      exact l_X12_townB ho hsh hli hae he (e + 2) a g (by omega) fr X73 HX X71 X72 (Nat.le_refl _) (by omega)
    · have c6 : ¬ (4 ≤ u) := fun z => c6 ((nI_leI (by omega) (by omega)).mpr z)
      refine mv_aload_n dX12_runTown_9 rfl ?_
      refine mv_getf (ci := 12) (f := 32) dX12_runTown_10 HX rfl (by decide) wd_1231 rfl ?_
      refine mv_iload dX12_runTown_13 rfl ?_
      refine mv_iconst (v := nI 0) dX12_runTown_15 (by decide) ?_
      refine mv_iastN (j := u) dX12_runTown_16 X73 rfl (by decide) (by omega) (fun h1 e2 => ?_)
      rw [upd_nI] at e2
      have HX := mv_ne e2 (by decide) HX
      have X71 := mv_ne e2 (by decide) X71
      have X72 := mv_ne e2 (by decide) X72
      have X73 : h1[73]? = some (.inl (0, 4, .inl (fun j => nI (t_up (q_z tw u) u 0 j)))) := mv_eq e2 X73
      have fr := fr.set e2 (by decide)
      clear e2
      rw [q_z_s] at X73
      refine mv_iinc (v := nI (u + 1)) dX12_runTown_17 rfl (mv_inc u 1) (by decide) ?_
      refine mv_goto (tgt := 3) dX12_runTown_20 (by decide) ?_
      exact ih (u + 1) h1 (by omega) fr X73 HX X71 X72 (by omega)
set_option maxRecDepth 100000 in
theorem k_X12_runTown {ev : mv_E} {h : mv_H} {xt : Int32} {xf : Int32} {xa : Int32} {xo : Int64} {xe : Int32} {xu : Int32} {xs : Int32} {xg : Int32} {xc : Int32} {xw : Int32} {b : t_B} {t : Nat} {od : Nat → Nat} {sh : Nat → Nat} {tw : Nat → Nat} {li : Nat} {lc : Nat} {sc : Nat} {a : Nat} {e : Nat} (HX : h[52]? = some (.inr (12, [.ref 53, .ref 54, .int xt, .int xf, .int xa, .long xo, .int xe, .int xu, .ref 55, .int xs, .int (nI b.1), .ref 56, .ref 57, .ref 58, .int (nI t), .int (nI b.2.1), .ref 59, .ref 60, .ref 61, .ref 62, .int xg, .ref 63, .ref 64, .ref 65, .ref 66, .ref 67, .ref 68, .ref 69, .int xc, .ref 70, .ref 71, .ref 72, .ref 73, .ref 74, .ref 75, .int xw, .ref 76, .ref 77, .ref 78, .ref 79, .ref 80]))) (X71 : h[71]? = some (.inl (0, 400, .inl (fun j => nI (od j))))) (X72 : h[72]? = some (.inl (0, 400, .inl (fun j => nI (sh j))))) (X73 : h[73]? = some (.inl (0, 4, .inl (fun j => nI (tw j))))) (ho : ∀ d, a ≤ d → d ≤ e → od d ≤ 1000000) (hsh : ∀ d, a ≤ d → d ≤ e → sh d ≤ 60) (hli : li ≤ 1000001) (hae : a ≤ e) (he : e ≤ 399) : ∃ h2, mv_K ev mX12_runTown [.ref 52, .int (nI lc), .int (nI sc), .int (nI li), .int (nI a), .int (nI e)] h (some (.int (nI (q_co od sh a e lc sc li)))) h2 ∧ mv_fra [73] h h2 ∧ h2[73]? = some (.inl (0, 4, .inl (fun j => nI (t_up (q_tf (q_tw od sh li a (e + 1 - a)) (q_z tw 4)) 3 (q_co od sh a e lc sc li) j)))) := by
  suffices g0 : mv_g ev mX12_runTown 0 (mv_ent [.ref 52, .int (nI lc), .int (nI sc), .int (nI li), .int (nI a), .int (nI e)] (mv_ml mX12_runTown)) [] h (fun r g => r = some (.int (nI (q_co od sh a e lc sc li))) ∧ mv_fra [73] h g ∧ g[73]? = some (.inl (0, 4, .inl (fun j => nI (t_up (q_tf (q_tw od sh li a (e + 1 - a)) (q_z tw 4)) 3 (q_co od sh a e lc sc li) j))))) from (by obtain ⟨r0, h0, K0, q0, Q0⟩ := mv_Kex g0; subst q0; exact ⟨h0, K0, Q0⟩)
  show mv_g ev mX12_runTown 0 [.ref 52, .int (nI lc), .int (nI sc), .int (nI li), .int (nI a), .int (nI e), .null, .null] [] h _
  have fr : mv_fra [73] h h := mv_fra.rf
  rw [← q_z_0 tw] at X73
  refine mv_iconst (v := nI 0) dX12_runTown_0 (by decide) ?_
  refine mv_istore dX12_runTown_1 (by decide) ?_
  exact l_X12_townA ho hsh hli hae he (4 + 1) 0 h (by omega) fr X73 HX X71 X72 (Nat.zero_le _)
