def q_hf (b : t_B) (p x a e : Nat) (sh : Nat → Nat) (y : Nat) : Nat → Nat := q_fil (fun i => q_hs b p 1 x i y) sh a (e + 1)
theorem q_hf_s {b : t_B} {p x a e : Nat} {sh : Nat → Nat} {y v : Nat} (hv : v = if (a ≤ b.2.2.1 y ∧ b.2.2.1 y ≤ e) ∧ q_su b p 1 x y then 1 else 0) : t_up (q_hf b p x a e sh y) (b.2.2.1 y) (q_hf b p x a e sh y (b.2.2.1 y) + v) = q_hf b p x a e sh (y + 1) := by
  funext i
  unfold t_up q_hf q_fil
  by_cases c : i = b.2.2.1 y
  · rw [if_pos c, c]
    by_cases c2 : a ≤ b.2.2.1 y ∧ b.2.2.1 y < e + 1
    · rw [if_pos c2, if_pos c2, hv]
      show q_hs b p 1 x (b.2.2.1 y) y + _ = q_hs b p 1 x (b.2.2.1 y) (y + 1)
      rw [q_hs_s]
      by_cases c3 : q_su b p 1 x y
      · rw [if_pos ⟨⟨c2.1, by omega⟩, c3⟩, if_pos ⟨rfl, c3⟩]
      · rw [if_neg (fun q => c3 q.2), if_neg (fun q => c3 q.2)]
    · rw [if_neg c2, if_neg c2, hv, if_neg (fun q => c2 ⟨q.1.1, by omega⟩), Nat.add_zero]
  · rw [if_neg c]
    by_cases c2 : a ≤ i ∧ i < e + 1
    · rw [if_pos c2, if_pos c2]
      show q_hs b p 1 x i y = q_hs b p 1 x i (y + 1)
      rw [q_hs_s, if_neg (fun q => c q.1.symm), Nat.add_zero]
    · rw [if_neg c2, if_neg c2]
set_option maxRecDepth 100000 in
theorem l_X12_daysB {ev : mv_E} {h : mv_H} {xt : Int32} {xf : Int32} {xa : Int32} {xo : Int64} {xe : Int32} {xu : Int32} {xs : Int32} {xg : Int32} {xc : Int32} {xw : Int32} {b : t_B} {t : Nat} {lw : Nat → Int32} {ln : Nat → Nat} {od : Nat → Nat} {sh : Nat → Nat} {p : Nat} {x : Nat} {a : Nat} {e : Nat} {dd : Nat}  (hw : q_LW lw ln) (hb : q_BI dd b) (hp : p < 64) (hz1 : 1 ≤ x) (hz9 : x ≤ 9) (ha : 1 ≤ a) (hae : a ≤ e) (he : e ≤ 399) : ∀ (fu : Nat) (k : Nat), ∀ (g : mv_H), b.1 < k + fu → mv_fra [71, 72] h g → g[71]? = some (.inl (0, 400, .inl (fun j => nI (q_fil (q_tO ln b p x) od a (e + 1) j)))) → g[72]? = some (.inl (0, 400, .inl (fun j => nI (q_hf b p x a e sh k j)))) → g[52]? = some (.inr (12, [.ref 53, .ref 54, .int xt, .int xf, .int xa, .long xo, .int xe, .int xu, .ref 55, .int xs, .int (nI b.1), .ref 56, .ref 57, .ref 58, .int (nI t), .int (nI b.2.1), .ref 59, .ref 60, .ref 61, .ref 62, .int xg, .ref 63, .ref 64, .ref 65, .ref 66, .ref 67, .ref 68, .ref 69, .int xc, .ref 70, .ref 71, .ref 72, .ref 73, .ref 74, .ref 75, .int xw, .ref 76, .ref 77, .ref 78, .ref 79, .ref 80])) → g[56]? = some (.inl (0, 60, .inl (fun j => nI (b.2.2.1 j)))) → g[57]? = some (.inl (0, 60, .inl (fun j => nI (b.2.2.2.1 j)))) → g[58]? = some (.inl (0, 60, .inl (fun j => nI (b.2.2.2.2 j)))) → g[53]? = some (.inl (0, 8, .inl lw)) → (k ≤ b.1) → mv_g ev mX12_findDays 53 [.ref 52, .int (nI p), .int (nI x), .int (nI a), .int (nI e), .int (nI k), .null] [] g (fun r g => r = none ∧ mv_fra [71, 72] h g ∧ g[71]? = some (.inl (0, 400, .inl (fun j => nI (q_fil (q_tO ln b p x) od a (e + 1) j)))) ∧ g[72]? = some (.inl (0, 400, .inl (fun j => nI (q_hf b p x a e sh b.1 j))))) := by
  intro fu
  induction fu with
  | zero => intro k g hm fr X71 X72 HX X56 X57 X58 X53 hk; exact absurd hm (by omega)
  | succ fu ih =>
    intro k g hm fr X71 X72 HX X56 X57 X58 X53 hk
    have n0 := hb.1
    have n1 := hb.2.2.1 k
    have n2 := hb.2.2.2.1 k
    have n3 := hb.2.2.2.2.1 k
    have n4 := t_far_lt hp n2
    refine mv_iload dX12_findDays_53 rfl ?_
    refine mv_aload_n dX12_findDays_55 rfl ?_
    refine mv_getf (ci := 12) (f := 10) dX12_findDays_56 HX rfl (by decide) wd_1209 rfl ?_
    refine mv_icmp_ge (tgt := 145) dX12_findDays_59 (by decide) (fun c59 => ?_) (fun c59 => ?_)
    · have c59 : b.1 ≤ k := (nI_leI (by omega) (by omega)).mp c59
      have ek : k = b.1 := (by omega)
      subst ek
      exact mv_vret dX12_findDays_145 rfl ⟨rfl, fr, X71, X72⟩
    · have c59 : ¬ (b.1 ≤ k) := fun z => c59 ((nI_leI (by omega) (by omega)).mpr z)
      refine mv_aload_n dX12_findDays_62 rfl ?_
      refine mv_getf (ci := 12) (f := 11) dX12_findDays_63 HX rfl (by decide) wd_1210 rfl ?_
      refine mv_iload dX12_findDays_66 rfl ?_
      refine mv_iaN (j := k) (x := nI (b.2.2.1 k)) dX12_findDays_68 X56 rfl (by decide) (by omega) rfl ?_
      refine mv_i2l dX12_findDays_69 ?_
      refine mv_topL (y := lN (b.2.2.1 k)) (nI_l (by omega)) ?_
      refine mv_iload_n dX12_findDays_70 rfl ?_
      refine mv_i2l dX12_findDays_71 ?_
      refine mv_topL (y := lN a) (nI_l (by omega)) ?_
      refine mv_iload dX12_findDays_72 rfl ?_
      refine mv_i2l dX12_findDays_74 ?_
      refine mv_topL (y := lN e) (nI_l (by omega)) ?_
      refine mv_cS3 dX12_findDays_75 lk_X12_findDays_107 (Nat.le_of_ble_eq_true rfl) (Nat.le_of_ble_eq_true rfl) (k_X12_in (ev := ev)) ?_
      refine mv_if_eq (tgt := 111) dX12_findDays_78 (by decide) (fun c78 => ?_) (fun c78 => ?_)
      · have c78 : ¬ (a ≤ b.2.2.1 k ∧ b.2.2.1 k ≤ e) := fun q => (mv_b_0 _).mp c78 ((and_congr (lN_leB (by omega) (by omega)) (lN_leB (by omega) (by omega))).mpr q)
        refine mv_iconst (v := nI 0) dX12_findDays_111 (by decide) ?_
        refine mv_istore dX12_findDays_112 (by decide) ?_
        refine mv_aload_n dX12_findDays_114 rfl ?_
        refine mv_getf (ci := 12) (f := 31) dX12_findDays_115 HX rfl (by decide) wd_1230 rfl ?_
        refine mv_aload_n dX12_findDays_118 rfl ?_
        refine mv_getf (ci := 12) (f := 11) dX12_findDays_119 HX rfl (by decide) wd_1210 rfl ?_
        refine mv_iload dX12_findDays_122 rfl ?_
        refine mv_iaN (j := k) (x := nI (b.2.2.1 k)) dX12_findDays_124 X56 rfl (by decide) (by omega) rfl ?_
        refine mv_dup2 dX12_findDays_125 rfl rfl ?_
        refine mv_iaN (j := (b.2.2.1 k)) (x := nI (q_hf b p x a e sh k (b.2.2.1 k))) dX12_findDays_126 X72 rfl (by decide) (by omega) rfl ?_
        refine mv_iload dX12_findDays_127 rfl ?_
        refine mv_if_eq (tgt := 136) dX12_findDays_129 (by decide) (fun c129 => ?_) (fun z => absurd ((by decide)) z)
        refine mv_iconst (v := nI 0) dX12_findDays_136 (by decide) ?_
        refine mv_iadd dX12_findDays_137 ?_
        refine mv_topI (y := nI ((q_hf b p x a e sh k (b.2.2.1 k)) + 0)) (nI_add _ _) ?_
        refine mv_iastN (j := (b.2.2.1 k)) dX12_findDays_138 X72 rfl (by decide) (by omega) (fun h1 e2 => ?_)
        rw [upd_nI] at e2
        have HX := mv_ne e2 (by decide) HX
        have X56 := mv_ne e2 (by decide) X56
        have X57 := mv_ne e2 (by decide) X57
        have X58 := mv_ne e2 (by decide) X58
        have X53 := mv_ne e2 (by decide) X53
        have X71 := mv_ne e2 (by decide) X71
        have X72 : h1[72]? = some (.inl (0, 400, .inl (fun j => nI (t_up (q_hf b p x a e sh k) (b.2.2.1 k) ((q_hf b p x a e sh k (b.2.2.1 k)) + 0) j)))) := mv_eq e2 X72
        have fr := fr.set e2 (by decide)
        clear e2
        have e8 : 0 = if (a ≤ b.2.2.1 k ∧ b.2.2.1 k ≤ e) ∧ q_su b p 1 x k then 1 else 0 := (by first | exact (if_pos ⟨c78, by omega, by rw [t_far_sym]; omega⟩).symm | exact (if_neg (fun q => c78 q.1)).symm | exact (if_neg (fun q => absurd q.2.1 (by omega))).symm | exact (if_neg (fun q => absurd q.2.2 (by rw [t_far_sym]; omega))).symm)
        rw [q_hf_s e8] at X72
        refine mv_iinc (v := nI (k + 1)) dX12_findDays_139 rfl (mv_inc k 1) (by decide) ?_
        refine mv_goto (tgt := 53) dX12_findDays_142 (by decide) ?_
        refine mv_sub (lv' := [.ref 52, .int (nI p), .int (nI x), .int (nI a), .int (nI e), .int (nI (k + 1)), .null]) ⟨Or.inr rfl, Or.inr rfl, Or.inr rfl, Or.inr rfl, Or.inr rfl, Or.inr rfl, Or.inl rfl, trivial⟩ ?_
        exact ih (k + 1) h1 (by omega) fr X71 X72 HX X56 X57 X58 X53 (by omega)
      · have c78 : a ≤ b.2.2.1 k ∧ b.2.2.1 k ≤ e := (and_congr (lN_leB (by omega) (by omega)) (lN_leB (by omega) (by omega))).mp (mv_b_ne c78)
        refine mv_aload_n dX12_findDays_81 rfl ?_
        refine mv_getf (ci := 12) (f := 13) dX12_findDays_82 HX rfl (by decide) wd_1212 rfl ?_
        refine mv_iload dX12_findDays_85 rfl ?_
        refine mv_iaN (j := k) (x := nI (b.2.2.2.2 k)) dX12_findDays_87 X58 rfl (by decide) (by omega) rfl ?_
        refine mv_iload_n dX12_findDays_88 rfl ?_
        refine mv_icmp_lt (tgt := 111) dX12_findDays_89 (by decide) (fun c89 => ?_) (fun c89 => ?_)
        · have c89 : b.2.2.2.2 k < x := (nI_ltI (by omega) (by omega)).mp c89
          refine mv_iconst (v := nI 0) dX12_findDays_111 (by decide) ?_
          refine mv_istore dX12_findDays_112 (by decide) ?_
          refine mv_aload_n dX12_findDays_114 rfl ?_
          refine mv_getf (ci := 12) (f := 31) dX12_findDays_115 HX rfl (by decide) wd_1230 rfl ?_
          refine mv_aload_n dX12_findDays_118 rfl ?_
          refine mv_getf (ci := 12) (f := 11) dX12_findDays_119 HX rfl (by decide) wd_1210 rfl ?_
          refine mv_iload dX12_findDays_122 rfl ?_
          refine mv_iaN (j := k) (x := nI (b.2.2.1 k)) dX12_findDays_124 X56 rfl (by decide) (by omega) rfl ?_
          refine mv_dup2 dX12_findDays_125 rfl rfl ?_
          refine mv_iaN (j := (b.2.2.1 k)) (x := nI (q_hf b p x a e sh k (b.2.2.1 k))) dX12_findDays_126 X72 rfl (by decide) (by omega) rfl ?_
          refine mv_iload dX12_findDays_127 rfl ?_
          refine mv_if_eq (tgt := 136) dX12_findDays_129 (by decide) (fun c129 => ?_) (fun z => absurd ((by decide)) z)
          refine mv_iconst (v := nI 0) dX12_findDays_136 (by decide) ?_
          refine mv_iadd dX12_findDays_137 ?_
          refine mv_topI (y := nI ((q_hf b p x a e sh k (b.2.2.1 k)) + 0)) (nI_add _ _) ?_
          refine mv_iastN (j := (b.2.2.1 k)) dX12_findDays_138 X72 rfl (by decide) (by omega) (fun h3 e4 => ?_)
          rw [upd_nI] at e4
          have HX := mv_ne e4 (by decide) HX
          have X56 := mv_ne e4 (by decide) X56
          have X57 := mv_ne e4 (by decide) X57
          have X58 := mv_ne e4 (by decide) X58
          have X53 := mv_ne e4 (by decide) X53
          have X71 := mv_ne e4 (by decide) X71
          have X72 : h3[72]? = some (.inl (0, 400, .inl (fun j => nI (t_up (q_hf b p x a e sh k) (b.2.2.1 k) ((q_hf b p x a e sh k (b.2.2.1 k)) + 0) j)))) := mv_eq e4 X72
          have fr := fr.set e4 (by decide)
          clear e4
          have e8 : 0 = if (a ≤ b.2.2.1 k ∧ b.2.2.1 k ≤ e) ∧ q_su b p 1 x k then 1 else 0 := (by first | exact (if_pos ⟨c78, by omega, by rw [t_far_sym]; omega⟩).symm | exact (if_neg (fun q => c78 q.1)).symm | exact (if_neg (fun q => absurd q.2.1 (by omega))).symm | exact (if_neg (fun q => absurd q.2.2 (by rw [t_far_sym]; omega))).symm)
          rw [q_hf_s e8] at X72
          refine mv_iinc (v := nI (k + 1)) dX12_findDays_139 rfl (mv_inc k 1) (by decide) ?_
          refine mv_goto (tgt := 53) dX12_findDays_142 (by decide) ?_
          refine mv_sub (lv' := [.ref 52, .int (nI p), .int (nI x), .int (nI a), .int (nI e), .int (nI (k + 1)), .null]) ⟨Or.inr rfl, Or.inr rfl, Or.inr rfl, Or.inr rfl, Or.inr rfl, Or.inr rfl, Or.inl rfl, trivial⟩ ?_
          exact ih (k + 1) h3 (by omega) fr X71 X72 HX X56 X57 X58 X53 (by omega)
        · have c89 : ¬ (b.2.2.2.2 k < x) := fun z => c89 ((nI_ltI (by omega) (by omega)).mpr z)
          refine mv_iload_n dX12_findDays_92 rfl ?_
          refine mv_aload_n dX12_findDays_93 rfl ?_
          refine mv_getf (ci := 12) (f := 12) dX12_findDays_94 HX rfl (by decide) wd_1211 rfl ?_
          refine mv_iload dX12_findDays_97 rfl ?_
          refine mv_iaN (j := k) (x := nI (b.2.2.2.1 k)) dX12_findDays_99 X57 rfl (by decide) (by omega) rfl ?_
          refine mv_cS2 dX12_findDays_100 lk_X12_findDays_117 (Nat.le_of_ble_eq_true rfl) (Nat.le_of_ble_eq_true rfl) (k_X12_far (ev := ev) (by omega) (by omega)) ?_
          refine mv_iconst (v := nI 1) dX12_findDays_103 (by decide) ?_
          refine mv_icmp_gt (tgt := 111) dX12_findDays_104 (by decide) (fun c104 => ?_) (fun c104 => ?_)
          · have c104 : 1 < t_far p (b.2.2.2.1 k) := (nI_ltI (by omega) (by omega)).mp c104
            refine mv_iconst (v := nI 0) dX12_findDays_111 (by decide) ?_
            refine mv_istore dX12_findDays_112 (by decide) ?_
            refine mv_aload_n dX12_findDays_114 rfl ?_
            refine mv_getf (ci := 12) (f := 31) dX12_findDays_115 HX rfl (by decide) wd_1230 rfl ?_
            refine mv_aload_n dX12_findDays_118 rfl ?_
            refine mv_getf (ci := 12) (f := 11) dX12_findDays_119 HX rfl (by decide) wd_1210 rfl ?_
            refine mv_iload dX12_findDays_122 rfl ?_
            refine mv_iaN (j := k) (x := nI (b.2.2.1 k)) dX12_findDays_124 X56 rfl (by decide) (by omega) rfl ?_
            refine mv_dup2 dX12_findDays_125 rfl rfl ?_
            refine mv_iaN (j := (b.2.2.1 k)) (x := nI (q_hf b p x a e sh k (b.2.2.1 k))) dX12_findDays_126 X72 rfl (by decide) (by omega) rfl ?_
            refine mv_iload dX12_findDays_127 rfl ?_
            refine mv_if_eq (tgt := 136) dX12_findDays_129 (by decide) (fun c129 => ?_) (fun z => absurd ((by decide)) z)
            refine mv_iconst (v := nI 0) dX12_findDays_136 (by decide) ?_
            refine mv_iadd dX12_findDays_137 ?_
            refine mv_topI (y := nI ((q_hf b p x a e sh k (b.2.2.1 k)) + 0)) (nI_add _ _) ?_
            refine mv_iastN (j := (b.2.2.1 k)) dX12_findDays_138 X72 rfl (by decide) (by omega) (fun h5 e6 => ?_)
            rw [upd_nI] at e6
            have HX := mv_ne e6 (by decide) HX
            have X56 := mv_ne e6 (by decide) X56
            have X57 := mv_ne e6 (by decide) X57
            have X58 := mv_ne e6 (by decide) X58
            have X53 := mv_ne e6 (by decide) X53
            have X71 := mv_ne e6 (by decide) X71
            have X72 : h5[72]? = some (.inl (0, 400, .inl (fun j => nI (t_up (q_hf b p x a e sh k) (b.2.2.1 k) ((q_hf b p x a e sh k (b.2.2.1 k)) + 0) j)))) := mv_eq e6 X72
            have fr := fr.set e6 (by decide)
            clear e6
            have e8 : 0 = if (a ≤ b.2.2.1 k ∧ b.2.2.1 k ≤ e) ∧ q_su b p 1 x k then 1 else 0 := (by first | exact (if_pos ⟨c78, by omega, by rw [t_far_sym]; omega⟩).symm | exact (if_neg (fun q => c78 q.1)).symm | exact (if_neg (fun q => absurd q.2.1 (by omega))).symm | exact (if_neg (fun q => absurd q.2.2 (by rw [t_far_sym]; omega))).symm)
            rw [q_hf_s e8] at X72
            refine mv_iinc (v := nI (k + 1)) dX12_findDays_139 rfl (mv_inc k 1) (by decide) ?_
            refine mv_goto (tgt := 53) dX12_findDays_142 (by decide) ?_
            refine mv_sub (lv' := [.ref 52, .int (nI p), .int (nI x), .int (nI a), .int (nI e), .int (nI (k + 1)), .null]) ⟨Or.inr rfl, Or.inr rfl, Or.inr rfl, Or.inr rfl, Or.inr rfl, Or.inr rfl, Or.inl rfl, trivial⟩ ?_
            exact ih (k + 1) h5 (by omega) fr X71 X72 HX X56 X57 X58 X53 (by omega)
          · have c104 : ¬ (1 < t_far p (b.2.2.2.1 k)) := fun z => c104 ((nI_ltI (by omega) (by omega)).mpr z)
            refine mv_iconst (v := nI 1) dX12_findDays_107 (by decide) ?_
            refine mv_goto (tgt := 112) dX12_findDays_108 (by decide) ?_
            refine mv_istore dX12_findDays_112 (by decide) ?_
            refine mv_aload_n dX12_findDays_114 rfl ?_
            refine mv_getf (ci := 12) (f := 31) dX12_findDays_115 HX rfl (by decide) wd_1230 rfl ?_
            refine mv_aload_n dX12_findDays_118 rfl ?_
            refine mv_getf (ci := 12) (f := 11) dX12_findDays_119 HX rfl (by decide) wd_1210 rfl ?_
            refine mv_iload dX12_findDays_122 rfl ?_
            refine mv_iaN (j := k) (x := nI (b.2.2.1 k)) dX12_findDays_124 X56 rfl (by decide) (by omega) rfl ?_
            refine mv_dup2 dX12_findDays_125 rfl rfl ?_
            refine mv_iaN (j := (b.2.2.1 k)) (x := nI (q_hf b p x a e sh k (b.2.2.1 k))) dX12_findDays_126 X72 rfl (by decide) (by omega) rfl ?_
            refine mv_iload dX12_findDays_127 rfl ?_
            refine mv_if_eq (tgt := 136) dX12_findDays_129 (by decide) (fun z => absurd z ((by decide))) (fun c129 => ?_)
            refine mv_iconst (v := nI 1) dX12_findDays_132 (by decide) ?_
            refine mv_goto (tgt := 137) dX12_findDays_133 (by decide) ?_
            refine mv_iadd dX12_findDays_137 ?_
            refine mv_topI (y := nI ((q_hf b p x a e sh k (b.2.2.1 k)) + 1)) (nI_add _ _) ?_
            refine mv_iastN (j := (b.2.2.1 k)) dX12_findDays_138 X72 rfl (by decide) (by omega) (fun h7 e8 => ?_)
            rw [upd_nI] at e8
            have HX := mv_ne e8 (by decide) HX
            have X56 := mv_ne e8 (by decide) X56
            have X57 := mv_ne e8 (by decide) X57
            have X58 := mv_ne e8 (by decide) X58
            have X53 := mv_ne e8 (by decide) X53
            have X71 := mv_ne e8 (by decide) X71
            have X72 : h7[72]? = some (.inl (0, 400, .inl (fun j => nI (t_up (q_hf b p x a e sh k) (b.2.2.1 k) ((q_hf b p x a e sh k (b.2.2.1 k)) + 1) j)))) := mv_eq e8 X72
            have fr := fr.set e8 (by decide)
            clear e8
            have e8 : 1 = if (a ≤ b.2.2.1 k ∧ b.2.2.1 k ≤ e) ∧ q_su b p 1 x k then 1 else 0 := (by first | exact (if_pos ⟨c78, by omega, by rw [t_far_sym]; omega⟩).symm | exact (if_neg (fun q => c78 q.1)).symm | exact (if_neg (fun q => absurd q.2.1 (by omega))).symm | exact (if_neg (fun q => absurd q.2.2 (by rw [t_far_sym]; omega))).symm)
            rw [q_hf_s e8] at X72
            refine mv_iinc (v := nI (k + 1)) dX12_findDays_139 rfl (mv_inc k 1) (by decide) ?_
            refine mv_goto (tgt := 53) dX12_findDays_142 (by decide) ?_
            refine mv_sub (lv' := [.ref 52, .int (nI p), .int (nI x), .int (nI a), .int (nI e), .int (nI (k + 1)), .null]) ⟨Or.inr rfl, Or.inr rfl, Or.inr rfl, Or.inr rfl, Or.inr rfl, Or.inr rfl, Or.inl rfl, trivial⟩ ?_
            exact ih (k + 1) h7 (by omega) fr X71 X72 HX X56 X57 X58 X53 (by omega)
set_option maxRecDepth 100000 in
theorem l_X12_daysA {ev : mv_E} {h : mv_H} {xt : Int32} {xf : Int32} {xa : Int32} {xo : Int64} {xe : Int32} {xu : Int32} {xs : Int32} {xg : Int32} {xc : Int32} {xw : Int32} {b : t_B} {t : Nat} {lw : Nat → Int32} {ln : Nat → Nat} {od : Nat → Nat} {sh : Nat → Nat} {p : Nat} {x : Nat} {a : Nat} {e : Nat} {dd : Nat}  (hw : q_LW lw ln) (hb : q_BI dd b) (hp : p < 64) (hz1 : 1 ≤ x) (hz9 : x ≤ 9) (ha : 1 ≤ a) (hae : a ≤ e) (he : e ≤ 399) : ∀ (fu : Nat) (y : Nat), ∀ (g : mv_H), e + 1 < y + fu → mv_fra [71, 72] h g → g[71]? = some (.inl (0, 400, .inl (fun j => nI (q_fil (q_tO ln b p x) od a y j)))) → g[72]? = some (.inl (0, 400, .inl (fun j => nI (q_fil (fun _ => 0) sh a y j)))) → g[52]? = some (.inr (12, [.ref 53, .ref 54, .int xt, .int xf, .int xa, .long xo, .int xe, .int xu, .ref 55, .int xs, .int (nI b.1), .ref 56, .ref 57, .ref 58, .int (nI t), .int (nI b.2.1), .ref 59, .ref 60, .ref 61, .ref 62, .int xg, .ref 63, .ref 64, .ref 65, .ref 66, .ref 67, .ref 68, .ref 69, .int xc, .ref 70, .ref 71, .ref 72, .ref 73, .ref 74, .ref 75, .int xw, .ref 76, .ref 77, .ref 78, .ref 79, .ref 80])) → g[56]? = some (.inl (0, 60, .inl (fun j => nI (b.2.2.1 j)))) → g[57]? = some (.inl (0, 60, .inl (fun j => nI (b.2.2.2.1 j)))) → g[58]? = some (.inl (0, 60, .inl (fun j => nI (b.2.2.2.2 j)))) → g[53]? = some (.inl (0, 8, .inl lw)) → (a ≤ y) → (y ≤ e + 1) → mv_g ev mX12_findDays 3 [.ref 52, .int (nI p), .int (nI x), .int (nI a), .int (nI e), .int (nI y), .null] [] g (fun r g => r = none ∧ mv_fra [71, 72] h g ∧ g[71]? = some (.inl (0, 400, .inl (fun j => nI (q_fil (q_tO ln b p x) od a (e + 1) j)))) ∧ g[72]? = some (.inl (0, 400, .inl (fun j => nI (q_hf b p x a e sh b.1 j))))) := by
  intro fu
  induction fu with
  | zero => intro y g hm fr X71 X72 HX X56 X57 X58 X53 hy hy2; exact absurd hm (by omega)
  | succ fu ih =>
    intro y g hm fr X71 X72 HX X56 X57 X58 X53 hy hy2
    have n0 := hb.1
    refine mv_iload dX12_findDays_3 rfl ?_
    refine mv_iload dX12_findDays_5 rfl ?_
    refine mv_icmp_gt (tgt := 50) dX12_findDays_7 (by decide) (fun c7 => ?_) (fun c7 => ?_)
    · have c7 : e < y := (nI_ltI (by omega) (by omega)).mp c7
      have ey : y = e + 1 := (by omega)
      subst ey
      refine mv_iconst (v := nI 0) dX12_findDays_50 (by decide) ?_
      refine mv_istore dX12_findDays_51 (by decide) ?_
      exact l_X12_daysB hw hb hp hz1 hz9 ha hae he (b.1 + 1) 0 g (by omega) fr X71 X72 HX X56 X57 X58 X53 (Nat.zero_le _)
    · have c7 : ¬ (e < y) := fun z => c7 ((nI_ltI (by omega) (by omega)).mpr z)
      refine mv_aload_n dX12_findDays_10 rfl ?_
      refine mv_getf (ci := 12) (f := 30) dX12_findDays_11 HX rfl (by decide) wd_1229 rfl ?_
      refine mv_iload dX12_findDays_14 rfl ?_
      refine mv_aload_n dX12_findDays_16 rfl ?_
      refine mv_aload_n dX12_findDays_17 rfl ?_
      refine mv_iload dX12_findDays_18 rfl ?_
      refine mv_iconst (v := nI 1) dX12_findDays_20 (by decide) ?_
      refine mv_isub dX12_findDays_21 ?_
      refine mv_topI (y := nI (y - 1)) (pk_sub (by omega)) ?_
      refine mv_cV1 (ci := 12) dX12_findDays_22 lk_X12_findDays_275 HX rfl (Nat.le_of_ble_eq_true rfl) (Nat.le_of_ble_eq_true rfl) (k_X12_upTo (ev := ev) HX X56 n0) ?_
      refine mv_iload_n dX12_findDays_25 rfl ?_
      refine mv_iconst (v := nI 1) dX12_findDays_26 (by decide) ?_
      refine mv_iload_n dX12_findDays_27 rfl ?_
      refine mv_iload dX12_findDays_28 rfl ?_
      refine mv_iload dX12_findDays_30 rfl ?_
      refine mv_cV6 (ci := 12) dX12_findDays_32 lk_X12_findDays_278 HX rfl (Nat.le_of_ble_eq_true rfl) (Nat.le_of_ble_eq_true rfl) (k_X12_oddsOf (ev := ev) HX X56 X57 X58 X53 hw hp (by omega) hz1 hz9 hb (by omega) (Nat.le_refl _) (q_ut_le _ _) (q_ut_a hb (by omega) ((nI_ltI (by omega) (by omega)).mpr (by omega)))) ?_
      refine mv_topI (y := nI (q_tO ln b p x y)) rfl ?_
      refine mv_iastN (j := y) dX12_findDays_35 X71 rfl (by decide) (by omega) (fun h1 e2 => ?_)
      rw [upd_nI] at e2
      have HX := mv_ne e2 (by decide) HX
      have X56 := mv_ne e2 (by decide) X56
      have X57 := mv_ne e2 (by decide) X57
      have X58 := mv_ne e2 (by decide) X58
      have X53 := mv_ne e2 (by decide) X53
      have X71 : h1[71]? = some (.inl (0, 400, .inl (fun j => nI (t_up (q_fil (q_tO ln b p x) od a y) y (q_tO ln b p x y) j)))) := mv_eq e2 X71
      have X72 := mv_ne e2 (by decide) X72
      have fr := fr.set e2 (by decide)
      clear e2
      refine mv_aload_n dX12_findDays_36 rfl ?_
      refine mv_getf (ci := 12) (f := 31) dX12_findDays_37 HX rfl (by decide) wd_1230 rfl ?_
      refine mv_iload dX12_findDays_40 rfl ?_
      refine mv_iconst (v := nI 0) dX12_findDays_42 (by decide) ?_
      refine mv_iastN (j := y) dX12_findDays_43 X72 rfl (by decide) (by omega) (fun h3 e4 => ?_)
      rw [upd_nI] at e4
      have HX := mv_ne e4 (by decide) HX
      have X56 := mv_ne e4 (by decide) X56
      have X57 := mv_ne e4 (by decide) X57
      have X58 := mv_ne e4 (by decide) X58
      have X53 := mv_ne e4 (by decide) X53
      have X71 := mv_ne e4 (by decide) X71
      have X72 : h3[72]? = some (.inl (0, 400, .inl (fun j => nI (t_up (q_fil (fun _ => 0) sh a y) y 0 j)))) := mv_eq e4 X72
      have fr := fr.set e4 (by decide)
      clear e4
      rw [q_fil_s (by omega)] at X71
      rw [q_fil_s (f := fun _ => 0) (by omega)] at X72
      refine mv_iinc (v := nI (y + 1)) dX12_findDays_44 rfl (mv_inc y 1) (by decide) ?_
      refine mv_goto (tgt := 3) dX12_findDays_47 (by decide) ?_
      exact ih (y + 1) h3 (by omega) fr X71 X72 HX X56 X57 X58 X53 (by omega) (by omega)
set_option maxRecDepth 100000 in
theorem k_X12_findDays {ev : mv_E} {h : mv_H} {xt : Int32} {xf : Int32} {xa : Int32} {xo : Int64} {xe : Int32} {xu : Int32} {xs : Int32} {xg : Int32} {xc : Int32} {xw : Int32} {b : t_B} {t : Nat} {lw : Nat → Int32} {ln : Nat → Nat} {od : Nat → Nat} {sh : Nat → Nat} {p : Nat} {x : Nat} {a : Nat} {e : Nat} {dd : Nat} (HX : h[52]? = some (.inr (12, [.ref 53, .ref 54, .int xt, .int xf, .int xa, .long xo, .int xe, .int xu, .ref 55, .int xs, .int (nI b.1), .ref 56, .ref 57, .ref 58, .int (nI t), .int (nI b.2.1), .ref 59, .ref 60, .ref 61, .ref 62, .int xg, .ref 63, .ref 64, .ref 65, .ref 66, .ref 67, .ref 68, .ref 69, .int xc, .ref 70, .ref 71, .ref 72, .ref 73, .ref 74, .ref 75, .int xw, .ref 76, .ref 77, .ref 78, .ref 79, .ref 80]))) (X56 : h[56]? = some (.inl (0, 60, .inl (fun j => nI (b.2.2.1 j))))) (X57 : h[57]? = some (.inl (0, 60, .inl (fun j => nI (b.2.2.2.1 j))))) (X58 : h[58]? = some (.inl (0, 60, .inl (fun j => nI (b.2.2.2.2 j))))) (X53 : h[53]? = some (.inl (0, 8, .inl lw))) (X71 : h[71]? = some (.inl (0, 400, .inl (fun j => nI (od j))))) (X72 : h[72]? = some (.inl (0, 400, .inl (fun j => nI (sh j))))) (hw : q_LW lw ln) (hb : q_BI dd b) (hp : p < 64) (hz1 : 1 ≤ x) (hz9 : x ≤ 9) (ha : 1 ≤ a) (hae : a ≤ e) (he : e ≤ 399) : ∃ h2, mv_K ev mX12_findDays [.ref 52, .int (nI p), .int (nI x), .int (nI a), .int (nI e)] h (none) h2 ∧ mv_fra [71, 72] h h2 ∧ h2[71]? = some (.inl (0, 400, .inl (fun j => nI (q_fil (q_tO ln b p x) od a (e + 1) j)))) ∧ h2[72]? = some (.inl (0, 400, .inl (fun j => nI (q_hf b p x a e sh b.1 j)))) := by
  suffices g0 : mv_g ev mX12_findDays 0 (mv_ent [.ref 52, .int (nI p), .int (nI x), .int (nI a), .int (nI e)] (mv_ml mX12_findDays)) [] h (fun r g => r = none ∧ mv_fra [71, 72] h g ∧ g[71]? = some (.inl (0, 400, .inl (fun j => nI (q_fil (q_tO ln b p x) od a (e + 1) j)))) ∧ g[72]? = some (.inl (0, 400, .inl (fun j => nI (q_hf b p x a e sh b.1 j))))) from (by obtain ⟨r0, h0, K0, q0, Q0⟩ := mv_Kex g0; subst q0; exact ⟨h0, K0, Q0⟩)
  show mv_g ev mX12_findDays 0 [.ref 52, .int (nI p), .int (nI x), .int (nI a), .int (nI e), .null, .null] [] h _
  have fr : mv_fra [71, 72] h h := mv_fra.rf
  have n0 := hb.1
  refine mv_iload_n dX12_findDays_0 rfl ?_
  rw [← q_fil_0 (q_tO ln b p x) od a] at X71
  rw [← q_fil_0 (fun _ => 0) sh a] at X72
  refine mv_istore dX12_findDays_1 (by decide) ?_
  exact l_X12_daysA hw hb hp hz1 hz9 ha hae he (e + 2) a h (by omega) fr X71 X72 HX X56 X57 X58 X53 (Nat.le_refl _) (by omega)
