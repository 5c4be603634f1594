noncomputable def q_fd (E : Nat → Prop) (s : q_S) (k : Nat) (f : Nat → Nat) : Nat → (Nat → Nat)
  | 0 => f
  | i + 1 => haveI := Classical.propDecidable (s.2.1 i = k ∧ E i); if s.2.1 i = k ∧ E i then t_up (q_fd E s k f i) (s.2.2.1 i) 1 else q_fd E s k f i
theorem q_fd_y {E : Nat → Prop} {s : q_S} {k : Nat} {f : Nat → Nat} {i : Nat} (h : s.2.1 i = k ∧ E i) : q_fd E s k f (i + 1) = t_up (q_fd E s k f i) (s.2.2.1 i) 1 := if_pos h
theorem q_fd_n {E : Nat → Prop} {s : q_S} {k : Nat} {f : Nat → Nat} {i : Nat} (h : ¬ (s.2.1 i = k ∧ E i)) : q_fd E s k f (i + 1) = q_fd E s k f i := if_neg h
theorem q_fd_le {E : Nat → Prop} {s : q_S} {k : Nat} {f : Nat → Nat} (hf : ∀ d, f d ≤ 1) (i : Nat) : ∀ d, q_fd E s k f i d ≤ 1 := by
  induction i with
  | zero => exact hf
  | succ i ih =>
    by_cases h : s.2.1 i = k ∧ E i
    · rw [q_fd_y h]
      exact t_up_P (P := fun x => x ≤ 1) ih (Nat.le_refl _)
    · rw [q_fd_n h]
      exact ih
theorem q_fd_i {E : Nat → Prop} {s : q_S} {k : Nat} {f : Nat → Nat} (n d : Nat) (hf : f d = 0) : q_fd E s k f n d = 1 ↔ ∃ i, i < n ∧ E i ∧ s.2.2.1 i = d ∧ s.2.1 i = k := by
  induction n with
  | zero =>
    have e : q_fd E s k f 0 = f := rfl
    rw [e, hf]
    constructor
    · intro z; exact absurd z (by decide)
    · intro ⟨i, hi, _⟩; exact absurd hi (Nat.not_lt_zero _)
  | succ n ih =>
    by_cases h : s.2.1 n = k ∧ E n
    · rw [q_fd_y h]
      by_cases c : d = s.2.2.1 n
      · rw [c, t_up_eq]
        constructor
        · intro _; exact ⟨n, by omega, h.2, rfl, h.1⟩
        · intro _; rfl
      · rw [t_up_ne _ _ c, ih]
        constructor
        · intro ⟨i, h1, h2, h3, h4⟩
          exact ⟨i, by omega, h2, h3, h4⟩
        · intro ⟨i, h1, h2, h3, h4⟩
          by_cases e : i = n
          · rw [e] at h3; exact absurd h3.symm c
          · exact ⟨i, by omega, h2, h3, h4⟩
    · rw [q_fd_n h, ih]
      constructor
      · intro ⟨i, h1, h2, h3, h4⟩
        exact ⟨i, by omega, h2, h3, h4⟩
      · intro ⟨i, h1, h2, h3, h4⟩
        by_cases e : i = n
        · rw [e] at h2 h4; exact absurd ⟨h4, h2⟩ h
        · exact ⟨i, by omega, h2, h3, h4⟩
theorem q_fd_b {lw : Nat → Int32} {ln : Nat → Nat} {s : q_S} {wa : Nat → Nat} {cf ct : Nat → Int32} {rr ok oa : Nat → Nat} {d k : Nat} (ho : ∀ d, oa d ≤ 1) (hd : d ≤ 399) : q_fd (q_ev lw ln s wa cf ct rr) s k (q_z oa 400) s.1 d = q_bt (q_oks lw ln s wa cf ct rr ok d) k := by
  have i1 := q_fd_i (E := q_ev lw ln s wa cf ct rr) (s := s) (k := k) (f := q_z oa 400) s.1 d (if_pos (by omega))
  have i2 := q_oks_b (lw := lw) (ln := ln) (s := s) (wa := wa) (cf := cf) (ct := ct) (rr := rr) (ok := ok) (k := k) hd
  have l1 := q_fd_le (E := q_ev lw ln s wa cf ct rr) (s := s) (k := k) (q_z_l1 ho 400) s.1 d
  have l2 := q_bt_lt (q_oks lw ln s wa cf ct rr ok d) k
  by_cases c : q_bt (q_oks lw ln s wa cf ct rr ok d) k = 1
  · rw [c]
    exact i1.mpr (i2.mp c)
  · have c2 : ¬ q_fd (q_ev lw ln s wa cf ct rr) s k (q_z oa 400) s.1 d = 1 := fun z => c (i2.mpr (i1.mp z))
    omega
theorem q_cr_z (oa : Nat → Nat) (n : Nat) (hn : n ≤ 400) : q_cr (q_z oa 400) n = 0 := by
  induction n with
  | zero => rfl
  | succ n ih =>
    have e : q_cr (q_z oa 400) (n + 1) = q_cr (q_z oa 400) n + q_z oa 400 n := rfl
    have e2 : q_z oa 400 n = 0 := if_pos (by omega)
    rw [e, ih (by omega), e2]
theorem q_cr_on {f ok : Nat → Nat} {k : Nat} (n : Nat) (h : ∀ d, d < n → f d = q_bt (ok d) k) : q_cr f n = q_on ok k n := by
  induction n with
  | zero => rfl
  | succ n ih =>
    have e : q_cr f (n + 1) = q_cr f n + f n := rfl
    have e2 := h n (by omega)
    have l2 := q_bt_lt (ok n) k
    rw [e, ih (fun d hd => h d (by omega))]
    by_cases c : q_bt (ok n) k = 1
    · rw [q_on_y c]; omega
    · rw [q_on_n c]; omega
set_option maxRecDepth 100000 in
theorem l_X12_findB67 {ev : mv_E} {h : mv_H} {xt : Int32} {xf : Int32} {xa : Int32} {xo : Int64} {xe : Int32} {xu : Int32} {xs : Int32} {xc : Int32} {xw : Int32} {b : t_B} {t : Nat} {s : q_S} {wa : Nat → Nat} {cf : Nat → Int32} {ct : Nat → Int32} {rr : Nat → Nat} {lw : Nat → Int32} {ln : Nat → Nat} {k : Nat} {oa : Nat → Nat}  (hw : q_LW lw ln) (hsi : q_SI s) (hr : ∀ d, rr d ≤ 1) (hwi : q_WI wa cf ct) (ho : ∀ d, oa d ≤ 1) (hk : k < 8) : ∀ (fu : Nat) (v : Nat) (i : Nat), ∀ (g : mv_H), s.1 < i + fu → mv_fra [67] h g → g[67]? = some (.inl (2, 400, .inl (fun j => nI (q_fd (q_ev lw ln s wa cf ct rr) s k (q_z oa 400) i j)))) → g[52]? = some (.inr (12, [.ref 53, .ref 54, .int xt, .int xf, .int xa, .long xo, .int xe, .int xu, .ref 55, .int xs, .int (nI b.1), .ref 56, .ref 57, .ref 58, .int (nI t), .int (nI b.2.1), .ref 59, .ref 60, .ref 61, .ref 62, .int (nI s.1), .ref 63, .ref 64, .ref 65, .ref 66, .ref 67, .ref 68, .ref 69, .int xc, .ref 70, .ref 71, .ref 72, .ref 73, .ref 74, .ref 75, .int xw, .ref 76, .ref 77, .ref 78, .ref 79, .ref 80])) → g[59]? = some (.inl (0, 8, .inl (fun j => nI (wa j)))) → g[60]? = some (.inl (0, 8, .inl cf)) → g[61]? = some (.inl (0, 8, .inl ct)) → g[62]? = some (.inl (2, 400, .inl (fun j => nI (rr j)))) → g[63]? = some (.inl (0, 100, .inl (fun j => nI (s.2.1 j)))) → g[64]? = some (.inl (0, 100, .inl (fun j => nI (s.2.2.1 j)))) → g[65]? = some (.inl (0, 100, .inl (fun j => nI (s.2.2.2.1 j)))) → g[66]? = some (.inl (0, 100, .inl (fun j => nI (s.2.2.2.2 j)))) → g[53]? = some (.inl (0, 8, .inl lw)) → (i ≤ s.1) → (v = q_cr (q_fd (q_ev lw ln s wa cf ct rr) s k (q_z oa 400) i) 400) → mv_g ev mX12_findOdd 24 [.ref 52, .int (nI k), .ref 67, .int (nI v), .int (nI i), .null] [] g (fun r g => r = some (.int (nI (q_on (q_oks lw ln s wa cf ct rr (fun _ => 0)) k 400))) ∧ mv_fra [67] h g ∧ g[67]? = some (.inl (2, 400, .inl (fun j => nI (q_fd (q_ev lw ln s wa cf ct rr) s k (q_z oa 400) s.1 j))))) := by
  intro fu
  induction fu with
  | zero => intro v i g hm fr XO HX X59 X60 X61 X62 X63 X64 X65 X66 X53 hi hv; exact absurd hm (by omega)
  | succ fu ih =>
    intro v i g hm fr XO HX X59 X60 X61 X62 X63 X64 X65 X66 X53 hi hv
    have n0 := hsi.1
    have n1 := hsi.2.2.1 i
    have n2 := q_fd_le (E := q_ev lw ln s wa cf ct rr) (s := s) (k := k) (q_z_l1 ho 400) i (s.2.2.1 i)
    have n4 := hsi.2.1 i
    have n5 := q_cr_le (q_fd_le (E := q_ev lw ln s wa cf ct rr) (s := s) (k := k) (q_z_l1 ho 400) i) 400
    refine mv_iload dX12_findOdd_24 rfl ?_
    refine mv_aload_n dX12_findOdd_26 rfl ?_
    refine mv_getf (ci := 12) (f := 20) dX12_findOdd_27 HX rfl (by decide) wd_1219 rfl ?_
    refine mv_icmp_ge (tgt := 122) dX12_findOdd_30 (by decide) (fun c30 => ?_) (fun c30 => ?_)
    · have c30 : s.1 ≤ i := (nI_leI (by omega) (by omega)).mp c30
      refine mv_iload_n dX12_findOdd_122 rfl ?_
      have ei : i = s.1 := (by omega)
      subst ei
      exact mv_iret dX12_findOdd_123 rfl rfl ⟨(congrArg (fun z => some (Value.int z)) (congrArg nI (hv.trans (q_cr_on 400 (fun d hd => q_fd_b ho (by omega)))))), fr, XO⟩
    · have c30 : ¬ (s.1 ≤ i) := fun z => c30 ((nI_leI (by omega) (by omega)).mpr z)
      refine mv_aload_n dX12_findOdd_33 rfl ?_
      refine mv_getf (ci := 12) (f := 21) dX12_findOdd_34 HX rfl (by decide) wd_1220 rfl ?_
      refine mv_iload dX12_findOdd_37 rfl ?_
      refine mv_iaN (j := i) (x := nI (s.2.1 i)) dX12_findOdd_39 X63 rfl (by decide) (by omega) rfl ?_
      refine mv_iload_n dX12_findOdd_40 rfl ?_
      refine mv_icmp_ne (tgt := 57) dX12_findOdd_41 (by decide) (fun c41 => ?_) (fun c41 => ?_)
      · have c41 : ¬ (s.2.1 i = k) := fun z => c41 ((nI_eq (by omega) (by omega)).mpr z)
        refine mv_iconst (v := nI 0) dX12_findOdd_57 (by decide) ?_
        refine mv_istore dX12_findOdd_58 (by decide) ?_
        refine mv_iload_n dX12_findOdd_60 rfl ?_
        refine mv_iload dX12_findOdd_61 rfl ?_
        refine mv_if_eq (tgt := 82) dX12_findOdd_63 (by decide) (fun c63 => ?_) (fun z => absurd ((by decide)) z)
        refine mv_iconst (v := nI 0) dX12_findOdd_82 (by decide) ?_
        refine mv_iadd dX12_findOdd_83 ?_
        refine mv_topI (y := nI (v + 0)) (nI_add _ _) ?_
        refine mv_istore_n dX12_findOdd_84 (by decide) ?_
        refine mv_aload_n dX12_findOdd_85 rfl ?_
        refine mv_aload_n dX12_findOdd_86 rfl ?_
        refine mv_getf (ci := 12) (f := 22) dX12_findOdd_87 HX rfl (by decide) wd_1221 rfl ?_
        refine mv_iload dX12_findOdd_90 rfl ?_
        refine mv_iaN (j := i) (x := nI (s.2.2.1 i)) dX12_findOdd_92 X64 rfl (by decide) (by omega) rfl ?_
        refine mv_aload_n dX12_findOdd_93 rfl ?_
        refine mv_aload_n dX12_findOdd_94 rfl ?_
        refine mv_getf (ci := 12) (f := 22) dX12_findOdd_95 HX rfl (by decide) wd_1221 rfl ?_
        refine mv_iload dX12_findOdd_98 rfl ?_
        refine mv_iaN (j := i) (x := nI (s.2.2.1 i)) dX12_findOdd_100 X64 rfl (by decide) (by omega) rfl ?_
        refine mv_zaN (j := (s.2.2.1 i)) (x := nI (q_fd (q_ev lw ln s wa cf ct rr) s k (q_z oa 400) i (s.2.2.1 i))) dX12_findOdd_101 XO rfl (by decide) (by omega) rfl ?_
        refine mv_if_ne (tgt := 110) dX12_findOdd_102 (by decide) (fun c102 => ?_) (fun c102 => ?_)
        · have c102 : ¬ (q_fd (q_ev lw ln s wa cf ct rr) s k (q_z oa 400) i (s.2.2.1 i) = 0) := fun z => c102 ((nI_eq (b := 0) (by omega) (by omega)).mpr z)
          refine mv_iconst (v := nI 1) dX12_findOdd_110 (by decide) ?_
          refine mv_goto (tgt := 115) dX12_findOdd_111 (by decide) ?_
          refine mv_zastN (j := (s.2.2.1 i)) dX12_findOdd_115 XO rfl (by decide) (by omega) rfl (fun h1 e2 => ?_)
          rw [upd_nI] at e2
          have HX := mv_ne e2 (by decide) HX
          have X59 := mv_ne e2 (by decide) X59
          have X60 := mv_ne e2 (by decide) X60
          have X61 := mv_ne e2 (by decide) X61
          have X62 := mv_ne e2 (by decide) X62
          have X63 := mv_ne e2 (by decide) X63
          have X64 := mv_ne e2 (by decide) X64
          have X65 := mv_ne e2 (by decide) X65
          have X66 := mv_ne e2 (by decide) X66
          have X53 := mv_ne e2 (by decide) X53
          have XO : h1[67]? = some (.inl (2, 400, .inl (fun j => nI (t_up (q_fd (q_ev lw ln s wa cf ct rr) s k (q_z oa 400) i) (s.2.2.1 i) 1 j)))) := mv_eq e2 XO
          have fr := fr.set e2 (by decide)
          clear e2
          have e8 : q_fd (q_ev lw ln s wa cf ct rr) s k (q_z oa 400) (i + 1) = q_fd (q_ev lw ln s wa cf ct rr) s k (q_z oa 400) i := q_fd_n (by first | exact fun q => c41 q.1 | exact fun q => c50 q.2)
          rw [q_up_id (by omega)] at XO
          rw [← e8] at XO
          refine mv_iinc (v := nI (i + 1)) dX12_findOdd_116 rfl (mv_inc i 1) (by decide) ?_
          refine mv_goto (tgt := 24) dX12_findOdd_119 (by decide) ?_
          refine mv_sub (lv' := [.ref 52, .int (nI k), .ref 67, .int (nI (v + 0)), .int (nI (i + 1)), .null]) ⟨Or.inr rfl, Or.inr rfl, Or.inr rfl, Or.inr rfl, Or.inr rfl, Or.inl rfl, trivial⟩ ?_
          exact ih (v + 0) (i + 1) h1 (by omega) fr XO HX X59 X60 X61 X62 X63 X64 X65 X66 X53 (by omega) (by rw [e8]; omega)
        · have c102 : q_fd (q_ev lw ln s wa cf ct rr) s k (q_z oa 400) i (s.2.2.1 i) = 0 := (nI_eq (b := 0) (by omega) (by omega)).mp c102
          refine mv_iload dX12_findOdd_105 rfl ?_
          refine mv_if_eq (tgt := 114) dX12_findOdd_107 (by decide) (fun c107 => ?_) (fun z => absurd ((by decide)) z)
          refine mv_iconst (v := nI 0) dX12_findOdd_114 (by decide) ?_
          refine mv_zastN (j := (s.2.2.1 i)) dX12_findOdd_115 XO rfl (by decide) (by omega) rfl (fun h3 e4 => ?_)
          rw [upd_nI] at e4
          have HX := mv_ne e4 (by decide) HX
          have X59 := mv_ne e4 (by decide) X59
          have X60 := mv_ne e4 (by decide) X60
          have X61 := mv_ne e4 (by decide) X61
          have X62 := mv_ne e4 (by decide) X62
          have X63 := mv_ne e4 (by decide) X63
          have X64 := mv_ne e4 (by decide) X64
          have X65 := mv_ne e4 (by decide) X65
          have X66 := mv_ne e4 (by decide) X66
          have X53 := mv_ne e4 (by decide) X53
          have XO : h3[67]? = some (.inl (2, 400, .inl (fun j => nI (t_up (q_fd (q_ev lw ln s wa cf ct rr) s k (q_z oa 400) i) (s.2.2.1 i) 0 j)))) := mv_eq e4 XO
          have fr := fr.set e4 (by decide)
          clear e4
          have e8 : q_fd (q_ev lw ln s wa cf ct rr) s k (q_z oa 400) (i + 1) = q_fd (q_ev lw ln s wa cf ct rr) s k (q_z oa 400) i := q_fd_n (by first | exact fun q => c41 q.1 | exact fun q => c50 q.2)
          rw [q_up_id (by omega)] at XO
          rw [← e8] at XO
          refine mv_iinc (v := nI (i + 1)) dX12_findOdd_116 rfl (mv_inc i 1) (by decide) ?_
          refine mv_goto (tgt := 24) dX12_findOdd_119 (by decide) ?_
          refine mv_sub (lv' := [.ref 52, .int (nI k), .ref 67, .int (nI (v + 0)), .int (nI (i + 1)), .null]) ⟨Or.inr rfl, Or.inr rfl, Or.inr rfl, Or.inr rfl, Or.inr rfl, Or.inl rfl, trivial⟩ ?_
          exact ih (v + 0) (i + 1) h3 (by omega) fr XO HX X59 X60 X61 X62 X63 X64 X65 X66 X53 (by omega) (by rw [e8]; omega)
      · have c41 : s.2.1 i = k := (nI_eq (by omega) (by omega)).mp c41
        refine mv_aload_n dX12_findOdd_44 rfl ?_
        refine mv_iload dX12_findOdd_45 rfl ?_
        refine mv_cV1 (ci := 12) dX12_findOdd_47 lk_X12_findOdd_295 HX rfl (Nat.le_of_ble_eq_true rfl) (Nat.le_of_ble_eq_true rfl) (k_X12_isEven (ev := ev) HX X59 X60 X61 X62 X63 X64 X65 X66 X53 hw hsi hr hwi (by omega)) ?_
        refine mv_if_eq (tgt := 57) dX12_findOdd_50 (by decide) (fun c50 => ?_) (fun c50 => ?_)
        · have c50 : ¬ (q_ev lw ln s wa cf ct rr i) := (mv_q_0 _).mp c50
          refine mv_iconst (v := nI 0) dX12_findOdd_57 (by decide) ?_
          refine mv_istore dX12_findOdd_58 (by decide) ?_
          refine mv_iload_n dX12_findOdd_60 rfl ?_
          refine mv_iload dX12_findOdd_61 rfl ?_
          refine mv_if_eq (tgt := 82) dX12_findOdd_63 (by decide) (fun c63 => ?_) (fun z => absurd ((by decide)) z)
          refine mv_iconst (v := nI 0) dX12_findOdd_82 (by decide) ?_
          refine mv_iadd dX12_findOdd_83 ?_
          refine mv_topI (y := nI (v + 0)) (nI_add _ _) ?_
          refine mv_istore_n dX12_findOdd_84 (by decide) ?_
          refine mv_aload_n dX12_findOdd_85 rfl ?_
          refine mv_aload_n dX12_findOdd_86 rfl ?_
          refine mv_getf (ci := 12) (f := 22) dX12_findOdd_87 HX rfl (by decide) wd_1221 rfl ?_
          refine mv_iload dX12_findOdd_90 rfl ?_
          refine mv_iaN (j := i) (x := nI (s.2.2.1 i)) dX12_findOdd_92 X64 rfl (by decide) (by omega) rfl ?_
          refine mv_aload_n dX12_findOdd_93 rfl ?_
          refine mv_aload_n dX12_findOdd_94 rfl ?_
          refine mv_getf (ci := 12) (f := 22) dX12_findOdd_95 HX rfl (by decide) wd_1221 rfl ?_
          refine mv_iload dX12_findOdd_98 rfl ?_
          refine mv_iaN (j := i) (x := nI (s.2.2.1 i)) dX12_findOdd_100 X64 rfl (by decide) (by omega) rfl ?_
          refine mv_zaN (j := (s.2.2.1 i)) (x := nI (q_fd (q_ev lw ln s wa cf ct rr) s k (q_z oa 400) i (s.2.2.1 i))) dX12_findOdd_101 XO rfl (by decide) (by omega) rfl ?_
          refine mv_if_ne (tgt := 110) dX12_findOdd_102 (by decide) (fun c102 => ?_) (fun c102 => ?_)
          · have c102 : ¬ (q_fd (q_ev lw ln s wa cf ct rr) s k (q_z oa 400) i (s.2.2.1 i) = 0) := fun z => c102 ((nI_eq (b := 0) (by omega) (by omega)).mpr z)
            refine mv_iconst (v := nI 1) dX12_findOdd_110 (by decide) ?_
            refine mv_goto (tgt := 115) dX12_findOdd_111 (by decide) ?_
            refine mv_zastN (j := (s.2.2.1 i)) dX12_findOdd_115 XO rfl (by decide) (by omega) rfl (fun h5 e6 => ?_)
            rw [upd_nI] at e6
            have HX := mv_ne e6 (by decide) HX
            have X59 := mv_ne e6 (by decide) X59
            have X60 := mv_ne e6 (by decide) X60
            have X61 := mv_ne e6 (by decide) X61
            have X62 := mv_ne e6 (by decide) X62
            have X63 := mv_ne e6 (by decide) X63
            have X64 := mv_ne e6 (by decide) X64
            have X65 := mv_ne e6 (by decide) X65
            have X66 := mv_ne e6 (by decide) X66
            have X53 := mv_ne e6 (by decide) X53
            have XO : h5[67]? = some (.inl (2, 400, .inl (fun j => nI (t_up (q_fd (q_ev lw ln s wa cf ct rr) s k (q_z oa 400) i) (s.2.2.1 i) 1 j)))) := mv_eq e6 XO
            have fr := fr.set e6 (by decide)
            clear e6
            have e8 : q_fd (q_ev lw ln s wa cf ct rr) s k (q_z oa 400) (i + 1) = q_fd (q_ev lw ln s wa cf ct rr) s k (q_z oa 400) i := q_fd_n (by first | exact fun q => c41 q.1 | exact fun q => c50 q.2)
            rw [q_up_id (by omega)] at XO
            rw [← e8] at XO
            refine mv_iinc (v := nI (i + 1)) dX12_findOdd_116 rfl (mv_inc i 1) (by decide) ?_
            refine mv_goto (tgt := 24) dX12_findOdd_119 (by decide) ?_
            refine mv_sub (lv' := [.ref 52, .int (nI k), .ref 67, .int (nI (v + 0)), .int (nI (i + 1)), .null]) ⟨Or.inr rfl, Or.inr rfl, Or.inr rfl, Or.inr rfl, Or.inr rfl, Or.inl rfl, trivial⟩ ?_
            exact ih (v + 0) (i + 1) h5 (by omega) fr XO HX X59 X60 X61 X62 X63 X64 X65 X66 X53 (by omega) (by rw [e8]; omega)
          · have c102 : q_fd (q_ev lw ln s wa cf ct rr) s k (q_z oa 400) i (s.2.2.1 i) = 0 := (nI_eq (b := 0) (by omega) (by omega)).mp c102
            refine mv_iload dX12_findOdd_105 rfl ?_
            refine mv_if_eq (tgt := 114) dX12_findOdd_107 (by decide) (fun c107 => ?_) (fun z => absurd ((by decide)) z)
            refine mv_iconst (v := nI 0) dX12_findOdd_114 (by decide) ?_
            refine mv_zastN (j := (s.2.2.1 i)) dX12_findOdd_115 XO rfl (by decide) (by omega) rfl (fun h7 e8 => ?_)
            rw [upd_nI] at e8
            have HX := mv_ne e8 (by decide) HX
            have X59 := mv_ne e8 (by decide) X59
            have X60 := mv_ne e8 (by decide) X60
            have X61 := mv_ne e8 (by decide) X61
            have X62 := mv_ne e8 (by decide) X62
            have X63 := mv_ne e8 (by decide) X63
            have X64 := mv_ne e8 (by decide) X64
            have X65 := mv_ne e8 (by decide) X65
            have X66 := mv_ne e8 (by decide) X66
            have X53 := mv_ne e8 (by decide) X53
            have XO : h7[67]? = some (.inl (2, 400, .inl (fun j => nI (t_up (q_fd (q_ev lw ln s wa cf ct rr) s k (q_z oa 400) i) (s.2.2.1 i) 0 j)))) := mv_eq e8 XO
            have fr := fr.set e8 (by decide)
            clear e8
            have e8 : q_fd (q_ev lw ln s wa cf ct rr) s k (q_z oa 400) (i + 1) = q_fd (q_ev lw ln s wa cf ct rr) s k (q_z oa 400) i := q_fd_n (by first | exact fun q => c41 q.1 | exact fun q => c50 q.2)
            rw [q_up_id (by omega)] at XO
            rw [← e8] at XO
            refine mv_iinc (v := nI (i + 1)) dX12_findOdd_116 rfl (mv_inc i 1) (by decide) ?_
            refine mv_goto (tgt := 24) dX12_findOdd_119 (by decide) ?_
            refine mv_sub (lv' := [.ref 52, .int (nI k), .ref 67, .int (nI (v + 0)), .int (nI (i + 1)), .null]) ⟨Or.inr rfl, Or.inr rfl, Or.inr rfl, Or.inr rfl, Or.inr rfl, Or.inl rfl, trivial⟩ ?_
            exact ih (v + 0) (i + 1) h7 (by omega) fr XO HX X59 X60 X61 X62 X63 X64 X65 X66 X53 (by omega) (by rw [e8]; omega)
        · have c50 : q_ev lw ln s wa cf ct rr i := Classical.byContradiction (fun z => c50 ((mv_q_0 _).mpr z))
          refine mv_iconst (v := nI 1) dX12_findOdd_53 (by decide) ?_
          refine mv_goto (tgt := 58) dX12_findOdd_54 (by decide) ?_
          refine mv_istore dX12_findOdd_58 (by decide) ?_
          refine mv_iload_n dX12_findOdd_60 rfl ?_
          refine mv_iload dX12_findOdd_61 rfl ?_
          refine mv_if_eq (tgt := 82) dX12_findOdd_63 (by decide) (fun z => absurd z ((by decide))) (fun c63 => ?_)
          refine mv_aload_n dX12_findOdd_66 rfl ?_
          refine mv_aload_n dX12_findOdd_67 rfl ?_
          refine mv_getf (ci := 12) (f := 22) dX12_findOdd_68 HX rfl (by decide) wd_1221 rfl ?_
          refine mv_iload dX12_findOdd_71 rfl ?_
          refine mv_iaN (j := i) (x := nI (s.2.2.1 i)) dX12_findOdd_73 X64 rfl (by decide) (by omega) rfl ?_
          refine mv_zaN (j := (s.2.2.1 i)) (x := nI (q_fd (q_ev lw ln s wa cf ct rr) s k (q_z oa 400) i (s.2.2.1 i))) dX12_findOdd_74 XO rfl (by decide) (by omega) rfl ?_
          refine mv_if_ne (tgt := 82) dX12_findOdd_75 (by decide) (fun c75 => ?_) (fun c75 => ?_)
          · have c75 : ¬ (q_fd (q_ev lw ln s wa cf ct rr) s k (q_z oa 400) i (s.2.2.1 i) = 0) := fun z => c75 ((nI_eq (b := 0) (by omega) (by omega)).mpr z)
            refine mv_iconst (v := nI 0) dX12_findOdd_82 (by decide) ?_
            refine mv_iadd dX12_findOdd_83 ?_
            refine mv_topI (y := nI (v + 0)) (nI_add _ _) ?_
            refine mv_istore_n dX12_findOdd_84 (by decide) ?_
            refine mv_aload_n dX12_findOdd_85 rfl ?_
            refine mv_aload_n dX12_findOdd_86 rfl ?_
            refine mv_getf (ci := 12) (f := 22) dX12_findOdd_87 HX rfl (by decide) wd_1221 rfl ?_
            refine mv_iload dX12_findOdd_90 rfl ?_
            refine mv_iaN (j := i) (x := nI (s.2.2.1 i)) dX12_findOdd_92 X64 rfl (by decide) (by omega) rfl ?_
            refine mv_aload_n dX12_findOdd_93 rfl ?_
            refine mv_aload_n dX12_findOdd_94 rfl ?_
            refine mv_getf (ci := 12) (f := 22) dX12_findOdd_95 HX rfl (by decide) wd_1221 rfl ?_
            refine mv_iload dX12_findOdd_98 rfl ?_
            refine mv_iaN (j := i) (x := nI (s.2.2.1 i)) dX12_findOdd_100 X64 rfl (by decide) (by omega) rfl ?_
            refine mv_zaN (j := (s.2.2.1 i)) (x := nI (q_fd (q_ev lw ln s wa cf ct rr) s k (q_z oa 400) i (s.2.2.1 i))) dX12_findOdd_101 XO rfl (by decide) (by omega) rfl ?_
            refine mv_if_ne (tgt := 110) dX12_findOdd_102 (by decide) (fun c102 => ?_) (fun c102 => ?_)
            · have c102 : ¬ (q_fd (q_ev lw ln s wa cf ct rr) s k (q_z oa 400) i (s.2.2.1 i) = 0) := fun z => c102 ((nI_eq (b := 0) (by omega) (by omega)).mpr z)
              refine mv_iconst (v := nI 1) dX12_findOdd_110 (by decide) ?_
              refine mv_goto (tgt := 115) dX12_findOdd_111 (by decide) ?_
              refine mv_zastN (j := (s.2.2.1 i)) dX12_findOdd_115 XO rfl (by decide) (by omega) rfl (fun h9 e10 => ?_)
              rw [upd_nI] at e10
              have HX := mv_ne e10 (by decide) HX
              have X59 := mv_ne e10 (by decide) X59
              have X60 := mv_ne e10 (by decide) X60
              have X61 := mv_ne e10 (by decide) X61
              have X62 := mv_ne e10 (by decide) X62
              have X63 := mv_ne e10 (by decide) X63
              have X64 := mv_ne e10 (by decide) X64
              have X65 := mv_ne e10 (by decide) X65
              have X66 := mv_ne e10 (by decide) X66
              have X53 := mv_ne e10 (by decide) X53
              have XO : h9[67]? = some (.inl (2, 400, .inl (fun j => nI (t_up (q_fd (q_ev lw ln s wa cf ct rr) s k (q_z oa 400) i) (s.2.2.1 i) 1 j)))) := mv_eq e10 XO
              have fr := fr.set e10 (by decide)
              clear e10
              have e8 := q_fd_y (E := q_ev lw ln s wa cf ct rr) (f := q_z oa 400) ⟨c41, c50⟩
              have n3 := q_cr_up (q_fd (q_ev lw ln s wa cf ct rr) s k (q_z oa 400) i) (s.2.2.1 i) 1 400
              rw [if_pos (by omega), if_pos (by omega)] at n3
              rw [← e8] at XO
              refine mv_iinc (v := nI (i + 1)) dX12_findOdd_116 rfl (mv_inc i 1) (by decide) ?_
              refine mv_goto (tgt := 24) dX12_findOdd_119 (by decide) ?_
              refine mv_sub (lv' := [.ref 52, .int (nI k), .ref 67, .int (nI (v + 0)), .int (nI (i + 1)), .null]) ⟨Or.inr rfl, Or.inr rfl, Or.inr rfl, Or.inr rfl, Or.inr rfl, Or.inl rfl, trivial⟩ ?_
              exact ih (v + 0) (i + 1) h9 (by omega) fr XO HX X59 X60 X61 X62 X63 X64 X65 X66 X53 (by omega) (by rw [e8]; omega)
            · have c102 : q_fd (q_ev lw ln s wa cf ct rr) s k (q_z oa 400) i (s.2.2.1 i) = 0 := (nI_eq (b := 0) (by omega) (by omega)).mp c102
              refine mv_iload dX12_findOdd_105 rfl ?_
              refine mv_if_eq (tgt := 114) dX12_findOdd_107 (by decide) (fun z => absurd z ((by decide))) (fun c107 => ?_)
              refine mv_iconst (v := nI 1) dX12_findOdd_110 (by decide) ?_
              refine mv_goto (tgt := 115) dX12_findOdd_111 (by decide) ?_
              refine mv_zastN (j := (s.2.2.1 i)) dX12_findOdd_115 XO rfl (by decide) (by omega) rfl (fun h11 e12 => ?_)
              rw [upd_nI] at e12
              have HX := mv_ne e12 (by decide) HX
              have X59 := mv_ne e12 (by decide) X59
              have X60 := mv_ne e12 (by decide) X60
              have X61 := mv_ne e12 (by decide) X61
              have X62 := mv_ne e12 (by decide) X62
              have X63 := mv_ne e12 (by decide) X63
              have X64 := mv_ne e12 (by decide) X64
              have X65 := mv_ne e12 (by decide) X65
              have X66 := mv_ne e12 (by decide) X66
              have X53 := mv_ne e12 (by decide) X53
              have XO : h11[67]? = some (.inl (2, 400, .inl (fun j => nI (t_up (q_fd (q_ev lw ln s wa cf ct rr) s k (q_z oa 400) i) (s.2.2.1 i) 1 j)))) := mv_eq e12 XO
              have fr := fr.set e12 (by decide)
              clear e12
              have e8 := q_fd_y (E := q_ev lw ln s wa cf ct rr) (f := q_z oa 400) ⟨c41, c50⟩
              have n3 := q_cr_up (q_fd (q_ev lw ln s wa cf ct rr) s k (q_z oa 400) i) (s.2.2.1 i) 1 400
              rw [if_pos (by omega), if_pos (by omega)] at n3
              rw [← e8] at XO
              refine mv_iinc (v := nI (i + 1)) dX12_findOdd_116 rfl (mv_inc i 1) (by decide) ?_
              refine mv_goto (tgt := 24) dX12_findOdd_119 (by decide) ?_
              refine mv_sub (lv' := [.ref 52, .int (nI k), .ref 67, .int (nI (v + 0)), .int (nI (i + 1)), .null]) ⟨Or.inr rfl, Or.inr rfl, Or.inr rfl, Or.inr rfl, Or.inr rfl, Or.inl rfl, trivial⟩ ?_
              exact ih (v + 0) (i + 1) h11 (by omega) fr XO HX X59 X60 X61 X62 X63 X64 X65 X66 X53 (by omega) (by rw [e8]; omega)
          · have c75 : q_fd (q_ev lw ln s wa cf ct rr) s k (q_z oa 400) i (s.2.2.1 i) = 0 := (nI_eq (b := 0) (by omega) (by omega)).mp c75
            refine mv_iconst (v := nI 1) dX12_findOdd_78 (by decide) ?_
            refine mv_goto (tgt := 83) dX12_findOdd_79 (by decide) ?_
            refine mv_iadd dX12_findOdd_83 ?_
            refine mv_topI (y := nI (v + 1)) (nI_add _ _) ?_
            refine mv_istore_n dX12_findOdd_84 (by decide) ?_
            refine mv_aload_n dX12_findOdd_85 rfl ?_
            refine mv_aload_n dX12_findOdd_86 rfl ?_
            refine mv_getf (ci := 12) (f := 22) dX12_findOdd_87 HX rfl (by decide) wd_1221 rfl ?_
            refine mv_iload dX12_findOdd_90 rfl ?_
            refine mv_iaN (j := i) (x := nI (s.2.2.1 i)) dX12_findOdd_92 X64 rfl (by decide) (by omega) rfl ?_
            refine mv_aload_n dX12_findOdd_93 rfl ?_
            refine mv_aload_n dX12_findOdd_94 rfl ?_
            refine mv_getf (ci := 12) (f := 22) dX12_findOdd_95 HX rfl (by decide) wd_1221 rfl ?_
            refine mv_iload dX12_findOdd_98 rfl ?_
            refine mv_iaN (j := i) (x := nI (s.2.2.1 i)) dX12_findOdd_100 X64 rfl (by decide) (by omega) rfl ?_
            refine mv_zaN (j := (s.2.2.1 i)) (x := nI (q_fd (q_ev lw ln s wa cf ct rr) s k (q_z oa 400) i (s.2.2.1 i))) dX12_findOdd_101 XO rfl (by decide) (by omega) rfl ?_
            refine mv_if_ne (tgt := 110) dX12_findOdd_102 (by decide) (fun c102 => ?_) (fun c102 => ?_)
            · have c102 : ¬ (q_fd (q_ev lw ln s wa cf ct rr) s k (q_z oa 400) i (s.2.2.1 i) = 0) := fun z => c102 ((nI_eq (b := 0) (by omega) (by omega)).mpr z)
              refine mv_iconst (v := nI 1) dX12_findOdd_110 (by decide) ?_
              refine mv_goto (tgt := 115) dX12_findOdd_111 (by decide) ?_
              refine mv_zastN (j := (s.2.2.1 i)) dX12_findOdd_115 XO rfl (by decide) (by omega) rfl (fun h13 e14 => ?_)
              rw [upd_nI] at e14
              have HX := mv_ne e14 (by decide) HX
              have X59 := mv_ne e14 (by decide) X59
              have X60 := mv_ne e14 (by decide) X60
              have X61 := mv_ne e14 (by decide) X61
              have X62 := mv_ne e14 (by decide) X62
              have X63 := mv_ne e14 (by decide) X63
              have X64 := mv_ne e14 (by decide) X64
              have X65 := mv_ne e14 (by decide) X65
              have X66 := mv_ne e14 (by decide) X66
              have X53 := mv_ne e14 (by decide) X53
              have XO : h13[67]? = some (.inl (2, 400, .inl (fun j => nI (t_up (q_fd (q_ev lw ln s wa cf ct rr) s k (q_z oa 400) i) (s.2.2.1 i) 1 j)))) := mv_eq e14 XO
              have fr := fr.set e14 (by decide)
              clear e14
              have e8 := q_fd_y (E := q_ev lw ln s wa cf ct rr) (f := q_z oa 400) ⟨c41, c50⟩
              have n3 := q_cr_up (q_fd (q_ev lw ln s wa cf ct rr) s k (q_z oa 400) i) (s.2.2.1 i) 1 400
              rw [if_pos (by omega), if_pos (by omega)] at n3
              rw [← e8] at XO
              refine mv_iinc (v := nI (i + 1)) dX12_findOdd_116 rfl (mv_inc i 1) (by decide) ?_
              refine mv_goto (tgt := 24) dX12_findOdd_119 (by decide) ?_
              refine mv_sub (lv' := [.ref 52, .int (nI k), .ref 67, .int (nI (v + 1)), .int (nI (i + 1)), .null]) ⟨Or.inr rfl, Or.inr rfl, Or.inr rfl, Or.inr rfl, Or.inr rfl, Or.inl rfl, trivial⟩ ?_
              exact ih (v + 1) (i + 1) h13 (by omega) fr XO HX X59 X60 X61 X62 X63 X64 X65 X66 X53 (by omega) (by rw [e8]; omega)
            · have c102 : q_fd (q_ev lw ln s wa cf ct rr) s k (q_z oa 400) i (s.2.2.1 i) = 0 := (nI_eq (b := 0) (by omega) (by omega)).mp c102
              refine mv_iload dX12_findOdd_105 rfl ?_
              refine mv_if_eq (tgt := 114) dX12_findOdd_107 (by decide) (fun z => absurd z ((by decide))) (fun c107 => ?_)
              refine mv_iconst (v := nI 1) dX12_findOdd_110 (by decide) ?_
              refine mv_goto (tgt := 115) dX12_findOdd_111 (by decide) ?_
              refine mv_zastN (j := (s.2.2.1 i)) dX12_findOdd_115 XO rfl (by decide) (by omega) rfl (fun h15 e16 => ?_)
              rw [upd_nI] at e16
              have HX := mv_ne e16 (by decide) HX
              have X59 := mv_ne e16 (by decide) X59
              have X60 := mv_ne e16 (by decide) X60
              have X61 := mv_ne e16 (by decide) X61
              have X62 := mv_ne e16 (by decide) X62
              have X63 := mv_ne e16 (by decide) X63
              have X64 := mv_ne e16 (by decide) X64
              have X65 := mv_ne e16 (by decide) X65
              have X66 := mv_ne e16 (by decide) X66
              have X53 := mv_ne e16 (by decide) X53
              have XO : h15[67]? = some (.inl (2, 400, .inl (fun j => nI (t_up (q_fd (q_ev lw ln s wa cf ct rr) s k (q_z oa 400) i) (s.2.2.1 i) 1 j)))) := mv_eq e16 XO
              have fr := fr.set e16 (by decide)
              clear e16
              have e8 := q_fd_y (E := q_ev lw ln s wa cf ct rr) (f := q_z oa 400) ⟨c41, c50⟩
              have n3 := q_cr_up (q_fd (q_ev lw ln s wa cf ct rr) s k (q_z oa 400) i) (s.2.2.1 i) 1 400
              rw [if_pos (by omega), if_pos (by omega)] at n3
              rw [← e8] at XO
              refine mv_iinc (v := nI (i + 1)) dX12_findOdd_116 rfl (mv_inc i 1) (by decide) ?_
              refine mv_goto (tgt := 24) dX12_findOdd_119 (by decide) ?_
              refine mv_sub (lv' := [.ref 52, .int (nI k), .ref 67, .int (nI (v + 1)), .int (nI (i + 1)), .null]) ⟨Or.inr rfl, Or.inr rfl, Or.inr rfl, Or.inr rfl, Or.inr rfl, Or.inl rfl, trivial⟩ ?_
              exact ih (v + 1) (i + 1) h15 (by omega) fr XO HX X59 X60 X61 X62 X63 X64 X65 X66 X53 (by omega) (by rw [e8]; omega)
set_option maxRecDepth 100000 in
theorem l_X12_findA67 {ev : mv_E} {h : mv_H} {xt : Int32} {xf : Int32} {xa : Int32} {xo : Int64} {xe : Int32} {xu : Int32} {xs : Int32} {xc : Int32} {xw : Int32} {b : t_B} {t : Nat} {s : q_S} {wa : Nat → Nat} {cf : Nat → Int32} {ct : Nat → Int32} {rr : Nat → Nat} {lw : Nat → Int32} {ln : Nat → Nat} {k : Nat} {oa : Nat → Nat}  (hw : q_LW lw ln) (hsi : q_SI s) (hr : ∀ d, rr d ≤ 1) (hwi : q_WI wa cf ct) (ho : ∀ d, oa d ≤ 1) (hk : k < 8) : ∀ (fu : Nat) (y : Nat), ∀ (g : mv_H), 400 < y + fu → mv_fra [67] h g → g[67]? = some (.inl (2, 400, .inl (fun j => nI (q_z oa y j)))) → g[52]? = some (.inr (12, [.ref 53, .ref 54, .int xt, .int xf, .int xa, .long xo, .int xe, .int xu, .ref 55, .int xs, .int (nI b.1), .ref 56, .ref 57, .ref 58, .int (nI t), .int (nI b.2.1), .ref 59, .ref 60, .ref 61, .ref 62, .int (nI s.1), .ref 63, .ref 64, .ref 65, .ref 66, .ref 67, .ref 68, .ref 69, .int xc, .ref 70, .ref 71, .ref 72, .ref 73, .ref 74, .ref 75, .int xw, .ref 76, .ref 77, .ref 78, .ref 79, .ref 80])) → g[59]? = some (.inl (0, 8, .inl (fun j => nI (wa j)))) → g[60]? = some (.inl (0, 8, .inl cf)) → g[61]? = some (.inl (0, 8, .inl ct)) → g[62]? = some (.inl (2, 400, .inl (fun j => nI (rr j)))) → g[63]? = some (.inl (0, 100, .inl (fun j => nI (s.2.1 j)))) → g[64]? = some (.inl (0, 100, .inl (fun j => nI (s.2.2.1 j)))) → g[65]? = some (.inl (0, 100, .inl (fun j => nI (s.2.2.2.1 j)))) → g[66]? = some (.inl (0, 100, .inl (fun j => nI (s.2.2.2.2 j)))) → g[53]? = some (.inl (0, 8, .inl lw)) → (y ≤ 400) → mv_g ev mX12_findOdd 2 [.ref 52, .int (nI k), .ref 67, .int (nI y), .null, .null] [] g (fun r g => r = some (.int (nI (q_on (q_oks lw ln s wa cf ct rr (fun _ => 0)) k 400))) ∧ mv_fra [67] h g ∧ g[67]? = some (.inl (2, 400, .inl (fun j => nI (q_fd (q_ev lw ln s wa cf ct rr) s k (q_z oa 400) s.1 j))))) := by
  intro fu
  induction fu with
  | zero => intro y g hm fr XO HX X59 X60 X61 X62 X63 X64 X65 X66 X53 hy; exact absurd hm (by omega)
  | succ fu ih =>
    intro y g hm fr XO HX X59 X60 X61 X62 X63 X64 X65 X66 X53 hy
    have n0 := hsi.1
    refine mv_iload_n dX12_findOdd_2 rfl ?_
    refine mv_sipush (v := nI 399) dX12_findOdd_3 (by decide) ?_
    refine mv_icmp_gt (tgt := 19) dX12_findOdd_6 (by decide) (fun c6 => ?_) (fun c6 => ?_)
    · have c6 : 399 < y := (nI_ltI (by omega) (by omega)).mp c6
      have ey : y = 400 := (by omega)
      subst ey
      refine mv_iconst (v := nI 0) dX12_findOdd_19 (by decide) ?_
      refine mv_istore_n dX12_findOdd_20 (by decide) ?_
      refine mv_iconst (v := nI 0) dX12_findOdd_21 (by decide) ?_
      refine mv_istore dX12_findOdd_22 (by decide) ?_
      exact l_X12_findB67 hw hsi hr hwi ho hk (s.1 + 1) 0 0 g (by omega) fr XO HX X59 X60 X61 X62 X63 X64 X65 X66 X53 (Nat.zero_le _) (q_cr_z oa 400 (Nat.le_refl _)).symm
    · have c6 : ¬ (399 < y) := fun z => c6 ((nI_ltI (by omega) (by omega)).mpr z)
      refine mv_aload_n dX12_findOdd_9 rfl ?_
      refine mv_iload_n dX12_findOdd_10 rfl ?_
      refine mv_iconst (v := nI 0) dX12_findOdd_11 (by decide) ?_
      refine mv_zastN (j := y) dX12_findOdd_12 XO rfl (by decide) (by omega) rfl (fun h1 e2 => ?_)
      rw [upd_nI] at e2
      have HX := mv_ne e2 (by decide) HX
      have X59 := mv_ne e2 (by decide) X59
      have X60 := mv_ne e2 (by decide) X60
      have X61 := mv_ne e2 (by decide) X61
      have X62 := mv_ne e2 (by decide) X62
      have X63 := mv_ne e2 (by decide) X63
      have X64 := mv_ne e2 (by decide) X64
      have X65 := mv_ne e2 (by decide) X65
      have X66 := mv_ne e2 (by decide) X66
      have X53 := mv_ne e2 (by decide) X53
      have XO : h1[67]? = some (.inl (2, 400, .inl (fun j => nI (t_up (q_z oa y) y 0 j)))) := mv_eq e2 XO
      have fr := fr.set e2 (by decide)
      clear e2
      rw [q_z_s] at XO
      refine mv_iinc (v := nI (y + 1)) dX12_findOdd_13 rfl (mv_inc y 1) (by decide) ?_
      refine mv_goto (tgt := 2) dX12_findOdd_16 (by decide) ?_
      exact ih (y + 1) h1 (by omega) fr XO HX X59 X60 X61 X62 X63 X64 X65 X66 X53 (by omega)
set_option maxRecDepth 100000 in
theorem k_X12_findOdd67 {ev : mv_E} {h : mv_H} {xt : Int32} {xf : Int32} {xa : Int32} {xo : Int64} {xe : Int32} {xu : Int32} {xs : Int32} {xc : Int32} {xw : Int32} {b : t_B} {t : Nat} {s : q_S} {wa : Nat → Nat} {cf : Nat → Int32} {ct : Nat → Int32} {rr : Nat → Nat} {lw : Nat → Int32} {ln : Nat → Nat} {k : Nat} {oa : Nat → Nat} (HX : h[52]? = some (.inr (12, [.ref 53, .ref 54, .int xt, .int xf, .int xa, .long xo, .int xe, .int xu, .ref 55, .int xs, .int (nI b.1), .ref 56, .ref 57, .ref 58, .int (nI t), .int (nI b.2.1), .ref 59, .ref 60, .ref 61, .ref 62, .int (nI s.1), .ref 63, .ref 64, .ref 65, .ref 66, .ref 67, .ref 68, .ref 69, .int xc, .ref 70, .ref 71, .ref 72, .ref 73, .ref 74, .ref 75, .int xw, .ref 76, .ref 77, .ref 78, .ref 79, .ref 80]))) (X59 : h[59]? = some (.inl (0, 8, .inl (fun j => nI (wa j))))) (X60 : h[60]? = some (.inl (0, 8, .inl cf))) (X61 : h[61]? = some (.inl (0, 8, .inl ct))) (X62 : h[62]? = some (.inl (2, 400, .inl (fun j => nI (rr j))))) (X63 : h[63]? = some (.inl (0, 100, .inl (fun j => nI (s.2.1 j))))) (X64 : h[64]? = some (.inl (0, 100, .inl (fun j => nI (s.2.2.1 j))))) (X65 : h[65]? = some (.inl (0, 100, .inl (fun j => nI (s.2.2.2.1 j))))) (X66 : h[66]? = some (.inl (0, 100, .inl (fun j => nI (s.2.2.2.2 j))))) (X53 : h[53]? = some (.inl (0, 8, .inl lw))) (XO : h[67]? = some (.inl (2, 400, .inl (fun j => nI (oa j))))) (hw : q_LW lw ln) (hsi : q_SI s) (hr : ∀ d, rr d ≤ 1) (hwi : q_WI wa cf ct) (ho : ∀ d, oa d ≤ 1) (hk : k < 8) : ∃ h2, mv_K ev mX12_findOdd [.ref 52, .int (nI k), .ref 67] h (some (.int (nI (q_on (q_oks lw ln s wa cf ct rr (fun _ => 0)) k 400)))) h2 ∧ mv_fra [67] h h2 ∧ h2[67]? = some (.inl (2, 400, .inl (fun j => nI (q_fd (q_ev lw ln s wa cf ct rr) s k (q_z oa 400) s.1 j)))) := by
  suffices g0 : mv_g ev mX12_findOdd 0 (mv_ent [.ref 52, .int (nI k), .ref 67] (mv_ml mX12_findOdd)) [] h (fun r g => r = some (.int (nI (q_on (q_oks lw ln s wa cf ct rr (fun _ => 0)) k 400))) ∧ mv_fra [67] h g ∧ g[67]? = some (.inl (2, 400, .inl (fun j => nI (q_fd (q_ev lw ln s wa cf ct rr) s k (q_z oa 400) s.1 j))))) from (by obtain ⟨r0, h0, K0, q0, Q0⟩ := mv_Kex g0; subst q0; exact ⟨h0, K0, Q0⟩)
  show mv_g ev mX12_findOdd 0 [.ref 52, .int (nI k), .ref 67, .null, .null, .null] [] h _
  have fr : mv_fra [67] h h := mv_fra.rf
  have n0 := hsi.1
  rw [← q_z_0 oa] at XO
  refine mv_iconst (v := nI 0) dX12_findOdd_0 (by decide) ?_
  refine mv_istore_n dX12_findOdd_1 (by decide) ?_
  exact l_X12_findA67 hw hsi hr hwi ho hk (400 + 1) 0 h (by omega) fr XO HX X59 X60 X61 X62 X63 X64 X65 X66 X53 (Nat.zero_le _)
set_option maxRecDepth 100000 in
theorem l_X12_findB68 {ev : mv_E} {h : mv_H} {xt : Int32} {xf : Int32} {xa : Int32} {xo : Int64} {xe : Int32} {xu : Int32} {xs : Int32} {xc : Int32} {xw : Int32} {b : t_B} {t : Nat} {s : q_S} {wa : Nat → Nat} {cf : Nat → Int32} {ct : Nat → Int32} {rr : Nat → Nat} {lw : Nat → Int32} {ln : Nat → Nat} {k : Nat} {oa : Nat → Nat}  (hw : q_LW lw ln) (hsi : q_SI s) (hr : ∀ d, rr d ≤ 1) (hwi : q_WI wa cf ct) (ho : ∀ d, oa d ≤ 1) (hk : k < 8) : ∀ (fu : Nat) (v : Nat) (i : Nat), ∀ (g : mv_H), s.1 < i + fu → mv_fra [68] h g → g[68]? = some (.inl (2, 400, .inl (fun j => nI (q_fd (q_ev lw ln s wa cf ct rr) s k (q_z oa 400) i j)))) → g[52]? = some (.inr (12, [.ref 53, .ref 54, .int xt, .int xf, .int xa, .long xo, .int xe, .int xu, .ref 55, .int xs, .int (nI b.1), .ref 56, .ref 57, .ref 58, .int (nI t), .int (nI b.2.1), .ref 59, .ref 60, .ref 61, .ref 62, .int (nI s.1), .ref 63, .ref 64, .ref 65, .ref 66, .ref 67, .ref 68, .ref 69, .int xc, .ref 70, .ref 71, .ref 72, .ref 73, .ref 74, .ref 75, .int xw, .ref 76, .ref 77, .ref 78, .ref 79, .ref 80])) → g[59]? = some (.inl (0, 8, .inl (fun j => nI (wa j)))) → g[60]? = some (.inl (0, 8, .inl cf)) → g[61]? = some (.inl (0, 8, .inl ct)) → g[62]? = some (.inl (2, 400, .inl (fun j => nI (rr j)))) → g[63]? = some (.inl (0, 100, .inl (fun j => nI (s.2.1 j)))) → g[64]? = some (.inl (0, 100, .inl (fun j => nI (s.2.2.1 j)))) → g[65]? = some (.inl (0, 100, .inl (fun j => nI (s.2.2.2.1 j)))) → g[66]? = some (.inl (0, 100, .inl (fun j => nI (s.2.2.2.2 j)))) → g[53]? = some (.inl (0, 8, .inl lw)) → (i ≤ s.1) → (v = q_cr (q_fd (q_ev lw ln s wa cf ct rr) s k (q_z oa 400) i) 400) → mv_g ev mX12_findOdd 24 [.ref 52, .int (nI k), .ref 68, .int (nI v), .int (nI i), .null] [] g (fun r g => r = some (.int (nI (q_on (q_oks lw ln s wa cf ct rr (fun _ => 0)) k 400))) ∧ mv_fra [68] h g ∧ g[68]? = some (.inl (2, 400, .inl (fun j => nI (q_fd (q_ev lw ln s wa cf ct rr) s k (q_z oa 400) s.1 j))))) := by
  intro fu
  induction fu with
  | zero => intro v i g hm fr XO HX X59 X60 X61 X62 X63 X64 X65 X66 X53 hi hv; exact absurd hm (by omega)
  | succ fu ih =>
    intro v i g hm fr XO HX X59 X60 X61 X62 X63 X64 X65 X66 X53 hi hv
    have n0 := hsi.1
    have n1 := hsi.2.2.1 i
    have n2 := q_fd_le (E := q_ev lw ln s wa cf ct rr) (s := s) (k := k) (q_z_l1 ho 400) i (s.2.2.1 i)
    have n4 := hsi.2.1 i
    have n5 := q_cr_le (q_fd_le (E := q_ev lw ln s wa cf ct rr) (s := s) (k := k) (q_z_l1 ho 400) i) 400
    refine mv_iload dX12_findOdd_24 rfl ?_
    refine mv_aload_n dX12_findOdd_26 rfl ?_
    refine mv_getf (ci := 12) (f := 20) dX12_findOdd_27 HX rfl (by decide) wd_1219 rfl ?_
    refine mv_icmp_ge (tgt := 122) dX12_findOdd_30 (by decide) (fun c30 => ?_) (fun c30 => ?_)
    · have c30 : s.1 ≤ i := (nI_leI (by omega) (by omega)).mp c30
      refine mv_iload_n dX12_findOdd_122 rfl ?_
      have ei : i = s.1 := (by omega)
      subst ei
      exact mv_iret dX12_findOdd_123 rfl rfl ⟨(congrArg (fun z => some (Value.int z)) (congrArg nI (hv.trans (q_cr_on 400 (fun d hd => q_fd_b ho (by omega)))))), fr, XO⟩
    · have c30 : ¬ (s.1 ≤ i) := fun z => c30 ((nI_leI (by omega) (by omega)).mpr z)
      refine mv_aload_n dX12_findOdd_33 rfl ?_
      refine mv_getf (ci := 12) (f := 21) dX12_findOdd_34 HX rfl (by decide) wd_1220 rfl ?_
      refine mv_iload dX12_findOdd_37 rfl ?_
      refine mv_iaN (j := i) (x := nI (s.2.1 i)) dX12_findOdd_39 X63 rfl (by decide) (by omega) rfl ?_
      refine mv_iload_n dX12_findOdd_40 rfl ?_
      refine mv_icmp_ne (tgt := 57) dX12_findOdd_41 (by decide) (fun c41 => ?_) (fun c41 => ?_)
      · have c41 : ¬ (s.2.1 i = k) := fun z => c41 ((nI_eq (by omega) (by omega)).mpr z)
        refine mv_iconst (v := nI 0) dX12_findOdd_57 (by decide) ?_
        refine mv_istore dX12_findOdd_58 (by decide) ?_
        refine mv_iload_n dX12_findOdd_60 rfl ?_
        refine mv_iload dX12_findOdd_61 rfl ?_
        refine mv_if_eq (tgt := 82) dX12_findOdd_63 (by decide) (fun c63 => ?_) (fun z => absurd ((by decide)) z)
        refine mv_iconst (v := nI 0) dX12_findOdd_82 (by decide) ?_
        refine mv_iadd dX12_findOdd_83 ?_
        refine mv_topI (y := nI (v + 0)) (nI_add _ _) ?_
        refine mv_istore_n dX12_findOdd_84 (by decide) ?_
        refine mv_aload_n dX12_findOdd_85 rfl ?_
        refine mv_aload_n dX12_findOdd_86 rfl ?_
        refine mv_getf (ci := 12) (f := 22) dX12_findOdd_87 HX rfl (by decide) wd_1221 rfl ?_
        refine mv_iload dX12_findOdd_90 rfl ?_
        refine mv_iaN (j := i) (x := nI (s.2.2.1 i)) dX12_findOdd_92 X64 rfl (by decide) (by omega) rfl ?_
        refine mv_aload_n dX12_findOdd_93 rfl ?_
        refine mv_aload_n dX12_findOdd_94 rfl ?_
        refine mv_getf (ci := 12) (f := 22) dX12_findOdd_95 HX rfl (by decide) wd_1221 rfl ?_
        refine mv_iload dX12_findOdd_98 rfl ?_
        refine mv_iaN (j := i) (x := nI (s.2.2.1 i)) dX12_findOdd_100 X64 rfl (by decide) (by omega) rfl ?_
        refine mv_zaN (j := (s.2.2.1 i)) (x := nI (q_fd (q_ev lw ln s wa cf ct rr) s k (q_z oa 400) i (s.2.2.1 i))) dX12_findOdd_101 XO rfl (by decide) (by omega) rfl ?_
        refine mv_if_ne (tgt := 110) dX12_findOdd_102 (by decide) (fun c102 => ?_) (fun c102 => ?_)
        · have c102 : ¬ (q_fd (q_ev lw ln s wa cf ct rr) s k (q_z oa 400) i (s.2.2.1 i) = 0) := fun z => c102 ((nI_eq (b := 0) (by omega) (by omega)).mpr z)
          refine mv_iconst (v := nI 1) dX12_findOdd_110 (by decide) ?_
          refine mv_goto (tgt := 115) dX12_findOdd_111 (by decide) ?_
          refine mv_zastN (j := (s.2.2.1 i)) dX12_findOdd_115 XO rfl (by decide) (by omega) rfl (fun h1 e2 => ?_)
          rw [upd_nI] at e2
          have HX := mv_ne e2 (by decide) HX
          have X59 := mv_ne e2 (by decide) X59
          have X60 := mv_ne e2 (by decide) X60
          have X61 := mv_ne e2 (by decide) X61
          have X62 := mv_ne e2 (by decide) X62
          have X63 := mv_ne e2 (by decide) X63
          have X64 := mv_ne e2 (by decide) X64
          have X65 := mv_ne e2 (by decide) X65
          have X66 := mv_ne e2 (by decide) X66
          have X53 := mv_ne e2 (by decide) X53
          have XO : h1[68]? = some (.inl (2, 400, .inl (fun j => nI (t_up (q_fd (q_ev lw ln s wa cf ct rr) s k (q_z oa 400) i) (s.2.2.1 i) 1 j)))) := mv_eq e2 XO
          have fr := fr.set e2 (by decide)
          clear e2
          have e8 : q_fd (q_ev lw ln s wa cf ct rr) s k (q_z oa 400) (i + 1) = q_fd (q_ev lw ln s wa cf ct rr) s k (q_z oa 400) i := q_fd_n (by first | exact fun q => c41 q.1 | exact fun q => c50 q.2)
          rw [q_up_id (by omega)] at XO
          rw [← e8] at XO
          refine mv_iinc (v := nI (i + 1)) dX12_findOdd_116 rfl (mv_inc i 1) (by decide) ?_
          refine mv_goto (tgt := 24) dX12_findOdd_119 (by decide) ?_
          refine mv_sub (lv' := [.ref 52, .int (nI k), .ref 68, .int (nI (v + 0)), .int (nI (i + 1)), .null]) ⟨Or.inr rfl, Or.inr rfl, Or.inr rfl, Or.inr rfl, Or.inr rfl, Or.inl rfl, trivial⟩ ?_
          exact ih (v + 0) (i + 1) h1 (by omega) fr XO HX X59 X60 X61 X62 X63 X64 X65 X66 X53 (by omega) (by rw [e8]; omega)
        · have c102 : q_fd (q_ev lw ln s wa cf ct rr) s k (q_z oa 400) i (s.2.2.1 i) = 0 := (nI_eq (b := 0) (by omega) (by omega)).mp c102
          refine mv_iload dX12_findOdd_105 rfl ?_
          refine mv_if_eq (tgt := 114) dX12_findOdd_107 (by decide) (fun c107 => ?_) (fun z => absurd ((by decide)) z)
          refine mv_iconst (v := nI 0) dX12_findOdd_114 (by decide) ?_
          refine mv_zastN (j := (s.2.2.1 i)) dX12_findOdd_115 XO rfl (by decide) (by omega) rfl (fun h3 e4 => ?_)
          rw [upd_nI] at e4
          have HX := mv_ne e4 (by decide) HX
          have X59 := mv_ne e4 (by decide) X59
          have X60 := mv_ne e4 (by decide) X60
          have X61 := mv_ne e4 (by decide) X61
          have X62 := mv_ne e4 (by decide) X62
          have X63 := mv_ne e4 (by decide) X63
          have X64 := mv_ne e4 (by decide) X64
          have X65 := mv_ne e4 (by decide) X65
          have X66 := mv_ne e4 (by decide) X66
          have X53 := mv_ne e4 (by decide) X53
          have XO : h3[68]? = some (.inl (2, 400, .inl (fun j => nI (t_up (q_fd (q_ev lw ln s wa cf ct rr) s k (q_z oa 400) i) (s.2.2.1 i) 0 j)))) := mv_eq e4 XO
          have fr := fr.set e4 (by decide)
          clear e4
          have e8 : q_fd (q_ev lw ln s wa cf ct rr) s k (q_z oa 400) (i + 1) = q_fd (q_ev lw ln s wa cf ct rr) s k (q_z oa 400) i := q_fd_n (by first | exact fun q => c41 q.1 | exact fun q => c50 q.2)
          rw [q_up_id (by omega)] at XO
          rw [← e8] at XO
          refine mv_iinc (v := nI (i + 1)) dX12_findOdd_116 rfl (mv_inc i 1) (by decide) ?_
          refine mv_goto (tgt := 24) dX12_findOdd_119 (by decide) ?_
          refine mv_sub (lv' := [.ref 52, .int (nI k), .ref 68, .int (nI (v + 0)), .int (nI (i + 1)), .null]) ⟨Or.inr rfl, Or.inr rfl, Or.inr rfl, Or.inr rfl, Or.inr rfl, Or.inl rfl, trivial⟩ ?_
          exact ih (v + 0) (i + 1) h3 (by omega) fr XO HX X59 X60 X61 X62 X63 X64 X65 X66 X53 (by omega) (by rw [e8]; omega)
      · have c41 : s.2.1 i = k := (nI_eq (by omega) (by omega)).mp c41
        refine mv_aload_n dX12_findOdd_44 rfl ?_
        refine mv_iload dX12_findOdd_45 rfl ?_
        refine mv_cV1 (ci := 12) dX12_findOdd_47 lk_X12_findOdd_295 HX rfl (Nat.le_of_ble_eq_true rfl) (Nat.le_of_ble_eq_true rfl) (k_X12_isEven (ev := ev) HX X59 X60 X61 X62 X63 X64 X65 X66 X53 hw hsi hr hwi (by omega)) ?_
        refine mv_if_eq (tgt := 57) dX12_findOdd_50 (by decide) (fun c50 => ?_) (fun c50 => ?_)
        · have c50 : ¬ (q_ev lw ln s wa cf ct rr i) := (mv_q_0 _).mp c50
          refine mv_iconst (v := nI 0) dX12_findOdd_57 (by decide) ?_
          refine mv_istore dX12_findOdd_58 (by decide) ?_
          refine mv_iload_n dX12_findOdd_60 rfl ?_
          refine mv_iload dX12_findOdd_61 rfl ?_
          refine mv_if_eq (tgt := 82) dX12_findOdd_63 (by decide) (fun c63 => ?_) (fun z => absurd ((by decide)) z)
          refine mv_iconst (v := nI 0) dX12_findOdd_82 (by decide) ?_
          refine mv_iadd dX12_findOdd_83 ?_
          refine mv_topI (y := nI (v + 0)) (nI_add _ _) ?_
          refine mv_istore_n dX12_findOdd_84 (by decide) ?_
          refine mv_aload_n dX12_findOdd_85 rfl ?_
          refine mv_aload_n dX12_findOdd_86 rfl ?_
          refine mv_getf (ci := 12) (f := 22) dX12_findOdd_87 HX rfl (by decide) wd_1221 rfl ?_
          refine mv_iload dX12_findOdd_90 rfl ?_
          refine mv_iaN (j := i) (x := nI (s.2.2.1 i)) dX12_findOdd_92 X64 rfl (by decide) (by omega) rfl ?_
          refine mv_aload_n dX12_findOdd_93 rfl ?_
          refine mv_aload_n dX12_findOdd_94 rfl ?_
          refine mv_getf (ci := 12) (f := 22) dX12_findOdd_95 HX rfl (by decide) wd_1221 rfl ?_
          refine mv_iload dX12_findOdd_98 rfl ?_
          refine mv_iaN (j := i) (x := nI (s.2.2.1 i)) dX12_findOdd_100 X64 rfl (by decide) (by omega) rfl ?_
          refine mv_zaN (j := (s.2.2.1 i)) (x := nI (q_fd (q_ev lw ln s wa cf ct rr) s k (q_z oa 400) i (s.2.2.1 i))) dX12_findOdd_101 XO rfl (by decide) (by omega) rfl ?_
          refine mv_if_ne (tgt := 110) dX12_findOdd_102 (by decide) (fun c102 => ?_) (fun c102 => ?_)
          · have c102 : ¬ (q_fd (q_ev lw ln s wa cf ct rr) s k (q_z oa 400) i (s.2.2.1 i) = 0) := fun z => c102 ((nI_eq (b := 0) (by omega) (by omega)).mpr z)
            refine mv_iconst (v := nI 1) dX12_findOdd_110 (by decide) ?_
            refine mv_goto (tgt := 115) dX12_findOdd_111 (by decide) ?_
            refine mv_zastN (j := (s.2.2.1 i)) dX12_findOdd_115 XO rfl (by decide) (by omega) rfl (fun h5 e6 => ?_)
            rw [upd_nI] at e6
            have HX := mv_ne e6 (by decide) HX
            have X59 := mv_ne e6 (by decide) X59
            have X60 := mv_ne e6 (by decide) X60
            have X61 := mv_ne e6 (by decide) X61
            have X62 := mv_ne e6 (by decide) X62
            have X63 := mv_ne e6 (by decide) X63
            have X64 := mv_ne e6 (by decide) X64
            have X65 := mv_ne e6 (by decide) X65
            have X66 := mv_ne e6 (by decide) X66
            have X53 := mv_ne e6 (by decide) X53
            have XO : h5[68]? = some (.inl (2, 400, .inl (fun j => nI (t_up (q_fd (q_ev lw ln s wa cf ct rr) s k (q_z oa 400) i) (s.2.2.1 i) 1 j)))) := mv_eq e6 XO
            have fr := fr.set e6 (by decide)
            clear e6
            have e8 : q_fd (q_ev lw ln s wa cf ct rr) s k (q_z oa 400) (i + 1) = q_fd (q_ev lw ln s wa cf ct rr) s k (q_z oa 400) i := q_fd_n (by first | exact fun q => c41 q.1 | exact fun q => c50 q.2)
            rw [q_up_id (by omega)] at XO
            rw [← e8] at XO
            refine mv_iinc (v := nI (i + 1)) dX12_findOdd_116 rfl (mv_inc i 1) (by decide) ?_
            refine mv_goto (tgt := 24) dX12_findOdd_119 (by decide) ?_
            refine mv_sub (lv' := [.ref 52, .int (nI k), .ref 68, .int (nI (v + 0)), .int (nI (i + 1)), .null]) ⟨Or.inr rfl, Or.inr rfl, Or.inr rfl, Or.inr rfl, Or.inr rfl, Or.inl rfl, trivial⟩ ?_
            exact ih (v + 0) (i + 1) h5 (by omega) fr XO HX X59 X60 X61 X62 X63 X64 X65 X66 X53 (by omega) (by rw [e8]; omega)
          · have c102 : q_fd (q_ev lw ln s wa cf ct rr) s k (q_z oa 400) i (s.2.2.1 i) = 0 := (nI_eq (b := 0) (by omega) (by omega)).mp c102
            refine mv_iload dX12_findOdd_105 rfl ?_
            refine mv_if_eq (tgt := 114) dX12_findOdd_107 (by decide) (fun c107 => ?_) (fun z => absurd ((by decide)) z)
            refine mv_iconst (v := nI 0) dX12_findOdd_114 (by decide) ?_
            refine mv_zastN (j := (s.2.2.1 i)) dX12_findOdd_115 XO rfl (by decide) (by omega) rfl (fun h7 e8 => ?_)
            rw [upd_nI] at e8
            have HX := mv_ne e8 (by decide) HX
            have X59 := mv_ne e8 (by decide) X59
            have X60 := mv_ne e8 (by decide) X60
            have X61 := mv_ne e8 (by decide) X61
            have X62 := mv_ne e8 (by decide) X62
            have X63 := mv_ne e8 (by decide) X63
            have X64 := mv_ne e8 (by decide) X64
            have X65 := mv_ne e8 (by decide) X65
            have X66 := mv_ne e8 (by decide) X66
            have X53 := mv_ne e8 (by decide) X53
            have XO : h7[68]? = some (.inl (2, 400, .inl (fun j => nI (t_up (q_fd (q_ev lw ln s wa cf ct rr) s k (q_z oa 400) i) (s.2.2.1 i) 0 j)))) := mv_eq e8 XO
            have fr := fr.set e8 (by decide)
            clear e8
            have e8 : q_fd (q_ev lw ln s wa cf ct rr) s k (q_z oa 400) (i + 1) = q_fd (q_ev lw ln s wa cf ct rr) s k (q_z oa 400) i := q_fd_n (by first | exact fun q => c41 q.1 | exact fun q => c50 q.2)
            rw [q_up_id (by omega)] at XO
            rw [← e8] at XO
            refine mv_iinc (v := nI (i + 1)) dX12_findOdd_116 rfl (mv_inc i 1) (by decide) ?_
            refine mv_goto (tgt := 24) dX12_findOdd_119 (by decide) ?_
            refine mv_sub (lv' := [.ref 52, .int (nI k), .ref 68, .int (nI (v + 0)), .int (nI (i + 1)), .null]) ⟨Or.inr rfl, Or.inr rfl, Or.inr rfl, Or.inr rfl, Or.inr rfl, Or.inl rfl, trivial⟩ ?_
            exact ih (v + 0) (i + 1) h7 (by omega) fr XO HX X59 X60 X61 X62 X63 X64 X65 X66 X53 (by omega) (by rw [e8]; omega)
        · have c50 : q_ev lw ln s wa cf ct rr i := Classical.byContradiction (fun z => c50 ((mv_q_0 _).mpr z))
          refine mv_iconst (v := nI 1) dX12_findOdd_53 (by decide) ?_
          refine mv_goto (tgt := 58) dX12_findOdd_54 (by decide) ?_
          refine mv_istore dX12_findOdd_58 (by decide) ?_
          refine mv_iload_n dX12_findOdd_60 rfl ?_
          refine mv_iload dX12_findOdd_61 rfl ?_
          refine mv_if_eq (tgt := 82) dX12_findOdd_63 (by decide) (fun z => absurd z ((by decide))) (fun c63 => ?_)
          refine mv_aload_n dX12_findOdd_66 rfl ?_
          refine mv_aload_n dX12_findOdd_67 rfl ?_
          refine mv_getf (ci := 12) (f := 22) dX12_findOdd_68 HX rfl (by decide) wd_1221 rfl ?_
          refine mv_iload dX12_findOdd_71 rfl ?_
          refine mv_iaN (j := i) (x := nI (s.2.2.1 i)) dX12_findOdd_73 X64 rfl (by decide) (by omega) rfl ?_
          refine mv_zaN (j := (s.2.2.1 i)) (x := nI (q_fd (q_ev lw ln s wa cf ct rr) s k (q_z oa 400) i (s.2.2.1 i))) dX12_findOdd_74 XO rfl (by decide) (by omega) rfl ?_
          refine mv_if_ne (tgt := 82) dX12_findOdd_75 (by decide) (fun c75 => ?_) (fun c75 => ?_)
          · have c75 : ¬ (q_fd (q_ev lw ln s wa cf ct rr) s k (q_z oa 400) i (s.2.2.1 i) = 0) := fun z => c75 ((nI_eq (b := 0) (by omega) (by omega)).mpr z)
            refine mv_iconst (v := nI 0) dX12_findOdd_82 (by decide) ?_
            refine mv_iadd dX12_findOdd_83 ?_
            refine mv_topI (y := nI (v + 0)) (nI_add _ _) ?_
            refine mv_istore_n dX12_findOdd_84 (by decide) ?_
            refine mv_aload_n dX12_findOdd_85 rfl ?_
            refine mv_aload_n dX12_findOdd_86 rfl ?_
            refine mv_getf (ci := 12) (f := 22) dX12_findOdd_87 HX rfl (by decide) wd_1221 rfl ?_
            refine mv_iload dX12_findOdd_90 rfl ?_
            refine mv_iaN (j := i) (x := nI (s.2.2.1 i)) dX12_findOdd_92 X64 rfl (by decide) (by omega) rfl ?_
            refine mv_aload_n dX12_findOdd_93 rfl ?_
            refine mv_aload_n dX12_findOdd_94 rfl ?_
            refine mv_getf (ci := 12) (f := 22) dX12_findOdd_95 HX rfl (by decide) wd_1221 rfl ?_
            refine mv_iload dX12_findOdd_98 rfl ?_
            refine mv_iaN (j := i) (x := nI (s.2.2.1 i)) dX12_findOdd_100 X64 rfl (by decide) (by omega) rfl ?_
            refine mv_zaN (j := (s.2.2.1 i)) (x := nI (q_fd (q_ev lw ln s wa cf ct rr) s k (q_z oa 400) i (s.2.2.1 i))) dX12_findOdd_101 XO rfl (by decide) (by omega) rfl ?_
            refine mv_if_ne (tgt := 110) dX12_findOdd_102 (by decide) (fun c102 => ?_) (fun c102 => ?_)
            · have c102 : ¬ (q_fd (q_ev lw ln s wa cf ct rr) s k (q_z oa 400) i (s.2.2.1 i) = 0) := fun z => c102 ((nI_eq (b := 0) (by omega) (by omega)).mpr z)
              refine mv_iconst (v := nI 1) dX12_findOdd_110 (by decide) ?_
              refine mv_goto (tgt := 115) dX12_findOdd_111 (by decide) ?_
              refine mv_zastN (j := (s.2.2.1 i)) dX12_findOdd_115 XO rfl (by decide) (by omega) rfl (fun h9 e10 => ?_)
              rw [upd_nI] at e10
              have HX := mv_ne e10 (by decide) HX
              have X59 := mv_ne e10 (by decide) X59
              have X60 := mv_ne e10 (by decide) X60
              have X61 := mv_ne e10 (by decide) X61
              have X62 := mv_ne e10 (by decide) X62
              have X63 := mv_ne e10 (by decide) X63
              have X64 := mv_ne e10 (by decide) X64
              have X65 := mv_ne e10 (by decide) X65
              have X66 := mv_ne e10 (by decide) X66
              have X53 := mv_ne e10 (by decide) X53
              have XO : h9[68]? = some (.inl (2, 400, .inl (fun j => nI (t_up (q_fd (q_ev lw ln s wa cf ct rr) s k (q_z oa 400) i) (s.2.2.1 i) 1 j)))) := mv_eq e10 XO
              have fr := fr.set e10 (by decide)
              clear e10
              have e8 := q_fd_y (E := q_ev lw ln s wa cf ct rr) (f := q_z oa 400) ⟨c41, c50⟩
              have n3 := q_cr_up (q_fd (q_ev lw ln s wa cf ct rr) s k (q_z oa 400) i) (s.2.2.1 i) 1 400
              rw [if_pos (by omega), if_pos (by omega)] at n3
              rw [← e8] at XO
              refine mv_iinc (v := nI (i + 1)) dX12_findOdd_116 rfl (mv_inc i 1) (by decide) ?_
              refine mv_goto (tgt := 24) dX12_findOdd_119 (by decide) ?_
              refine mv_sub (lv' := [.ref 52, .int (nI k), .ref 68, .int (nI (v + 0)), .int (nI (i + 1)), .null]) ⟨Or.inr rfl, Or.inr rfl, Or.inr rfl, Or.inr rfl, Or.inr rfl, Or.inl rfl, trivial⟩ ?_
              exact ih (v + 0) (i + 1) h9 (by omega) fr XO HX X59 X60 X61 X62 X63 X64 X65 X66 X53 (by omega) (by rw [e8]; omega)
            · have c102 : q_fd (q_ev lw ln s wa cf ct rr) s k (q_z oa 400) i (s.2.2.1 i) = 0 := (nI_eq (b := 0) (by omega) (by omega)).mp c102
              refine mv_iload dX12_findOdd_105 rfl ?_
              refine mv_if_eq (tgt := 114) dX12_findOdd_107 (by decide) (fun z => absurd z ((by decide))) (fun c107 => ?_)
              refine mv_iconst (v := nI 1) dX12_findOdd_110 (by decide) ?_
              refine mv_goto (tgt := 115) dX12_findOdd_111 (by decide) ?_
              refine mv_zastN (j := (s.2.2.1 i)) dX12_findOdd_115 XO rfl (by decide) (by omega) rfl (fun h11 e12 => ?_)
              rw [upd_nI] at e12
              have HX := mv_ne e12 (by decide) HX
              have X59 := mv_ne e12 (by decide) X59
              have X60 := mv_ne e12 (by decide) X60
              have X61 := mv_ne e12 (by decide) X61
              have X62 := mv_ne e12 (by decide) X62
              have X63 := mv_ne e12 (by decide) X63
              have X64 := mv_ne e12 (by decide) X64
              have X65 := mv_ne e12 (by decide) X65
              have X66 := mv_ne e12 (by decide) X66
              have X53 := mv_ne e12 (by decide) X53
              have XO : h11[68]? = some (.inl (2, 400, .inl (fun j => nI (t_up (q_fd (q_ev lw ln s wa cf ct rr) s k (q_z oa 400) i) (s.2.2.1 i) 1 j)))) := mv_eq e12 XO
              have fr := fr.set e12 (by decide)
              clear e12
              have e8 := q_fd_y (E := q_ev lw ln s wa cf ct rr) (f := q_z oa 400) ⟨c41, c50⟩
              have n3 := q_cr_up (q_fd (q_ev lw ln s wa cf ct rr) s k (q_z oa 400) i) (s.2.2.1 i) 1 400
              rw [if_pos (by omega), if_pos (by omega)] at n3
              rw [← e8] at XO
              refine mv_iinc (v := nI (i + 1)) dX12_findOdd_116 rfl (mv_inc i 1) (by decide) ?_
              refine mv_goto (tgt := 24) dX12_findOdd_119 (by decide) ?_
              refine mv_sub (lv' := [.ref 52, .int (nI k), .ref 68, .int (nI (v + 0)), .int (nI (i + 1)), .null]) ⟨Or.inr rfl, Or.inr rfl, Or.inr rfl, Or.inr rfl, Or.inr rfl, Or.inl rfl, trivial⟩ ?_
              exact ih (v + 0) (i + 1) h11 (by omega) fr XO HX X59 X60 X61 X62 X63 X64 X65 X66 X53 (by omega) (by rw [e8]; omega)
          · have c75 : q_fd (q_ev lw ln s wa cf ct rr) s k (q_z oa 400) i (s.2.2.1 i) = 0 := (nI_eq (b := 0) (by omega) (by omega)).mp c75
            refine mv_iconst (v := nI 1) dX12_findOdd_78 (by decide) ?_
            refine mv_goto (tgt := 83) dX12_findOdd_79 (by decide) ?_
            refine mv_iadd dX12_findOdd_83 ?_
            refine mv_topI (y := nI (v + 1)) (nI_add _ _) ?_
            refine mv_istore_n dX12_findOdd_84 (by decide) ?_
            refine mv_aload_n dX12_findOdd_85 rfl ?_
            refine mv_aload_n dX12_findOdd_86 rfl ?_
            refine mv_getf (ci := 12) (f := 22) dX12_findOdd_87 HX rfl (by decide) wd_1221 rfl ?_
            refine mv_iload dX12_findOdd_90 rfl ?_
            refine mv_iaN (j := i) (x := nI (s.2.2.1 i)) dX12_findOdd_92 X64 rfl (by decide) (by omega) rfl ?_
            refine mv_aload_n dX12_findOdd_93 rfl ?_
            refine mv_aload_n dX12_findOdd_94 rfl ?_
            refine mv_getf (ci := 12) (f := 22) dX12_findOdd_95 HX rfl (by decide) wd_1221 rfl ?_
            refine mv_iload dX12_findOdd_98 rfl ?_
            refine mv_iaN (j := i) (x := nI (s.2.2.1 i)) dX12_findOdd_100 X64 rfl (by decide) (by omega) rfl ?_
            refine mv_zaN (j := (s.2.2.1 i)) (x := nI (q_fd (q_ev lw ln s wa cf ct rr) s k (q_z oa 400) i (s.2.2.1 i))) dX12_findOdd_101 XO rfl (by decide) (by omega) rfl ?_
            refine mv_if_ne (tgt := 110) dX12_findOdd_102 (by decide) (fun c102 => ?_) (fun c102 => ?_)
            · have c102 : ¬ (q_fd (q_ev lw ln s wa cf ct rr) s k (q_z oa 400) i (s.2.2.1 i) = 0) := fun z => c102 ((nI_eq (b := 0) (by omega) (by omega)).mpr z)
              refine mv_iconst (v := nI 1) dX12_findOdd_110 (by decide) ?_
              refine mv_goto (tgt := 115) dX12_findOdd_111 (by decide) ?_
              refine mv_zastN (j := (s.2.2.1 i)) dX12_findOdd_115 XO rfl (by decide) (by omega) rfl (fun h13 e14 => ?_)
              rw [upd_nI] at e14
              have HX := mv_ne e14 (by decide) HX
              have X59 := mv_ne e14 (by decide) X59
              have X60 := mv_ne e14 (by decide) X60
              have X61 := mv_ne e14 (by decide) X61
              have X62 := mv_ne e14 (by decide) X62
              have X63 := mv_ne e14 (by decide) X63
              have X64 := mv_ne e14 (by decide) X64
              have X65 := mv_ne e14 (by decide) X65
              have X66 := mv_ne e14 (by decide) X66
              have X53 := mv_ne e14 (by decide) X53
              have XO : h13[68]? = some (.inl (2, 400, .inl (fun j => nI (t_up (q_fd (q_ev lw ln s wa cf ct rr) s k (q_z oa 400) i) (s.2.2.1 i) 1 j)))) := mv_eq e14 XO
              have fr := fr.set e14 (by decide)
              clear e14
              have e8 := q_fd_y (E := q_ev lw ln s wa cf ct rr) (f := q_z oa 400) ⟨c41, c50⟩
              have n3 := q_cr_up (q_fd (q_ev lw ln s wa cf ct rr) s k (q_z oa 400) i) (s.2.2.1 i) 1 400
              rw [if_pos (by omega), if_pos (by omega)] at n3
              rw [← e8] at XO
              refine mv_iinc (v := nI (i + 1)) dX12_findOdd_116 rfl (mv_inc i 1) (by decide) ?_
              refine mv_goto (tgt := 24) dX12_findOdd_119 (by decide) ?_
              refine mv_sub (lv' := [.ref 52, .int (nI k), .ref 68, .int (nI (v + 1)), .int (nI (i + 1)), .null]) ⟨Or.inr rfl, Or.inr rfl, Or.inr rfl, Or.inr rfl, Or.inr rfl, Or.inl rfl, trivial⟩ ?_
              exact ih (v + 1) (i + 1) h13 (by omega) fr XO HX X59 X60 X61 X62 X63 X64 X65 X66 X53 (by omega) (by rw [e8]; omega)
            · have c102 : q_fd (q_ev lw ln s wa cf ct rr) s k (q_z oa 400) i (s.2.2.1 i) = 0 := (nI_eq (b := 0) (by omega) (by omega)).mp c102
              refine mv_iload dX12_findOdd_105 rfl ?_
              refine mv_if_eq (tgt := 114) dX12_findOdd_107 (by decide) (fun z => absurd z ((by decide))) (fun c107 => ?_)
              refine mv_iconst (v := nI 1) dX12_findOdd_110 (by decide) ?_
              refine mv_goto (tgt := 115) dX12_findOdd_111 (by decide) ?_
              refine mv_zastN (j := (s.2.2.1 i)) dX12_findOdd_115 XO rfl (by decide) (by omega) rfl (fun h15 e16 => ?_)
              rw [upd_nI] at e16
              have HX := mv_ne e16 (by decide) HX
              have X59 := mv_ne e16 (by decide) X59
              have X60 := mv_ne e16 (by decide) X60
              have X61 := mv_ne e16 (by decide) X61
              have X62 := mv_ne e16 (by decide) X62
              have X63 := mv_ne e16 (by decide) X63
              have X64 := mv_ne e16 (by decide) X64
              have X65 := mv_ne e16 (by decide) X65
              have X66 := mv_ne e16 (by decide) X66
              have X53 := mv_ne e16 (by decide) X53
              have XO : h15[68]? = some (.inl (2, 400, .inl (fun j => nI (t_up (q_fd (q_ev lw ln s wa cf ct rr) s k (q_z oa 400) i) (s.2.2.1 i) 1 j)))) := mv_eq e16 XO
              have fr := fr.set e16 (by decide)
              clear e16
              have e8 := q_fd_y (E := q_ev lw ln s wa cf ct rr) (f := q_z oa 400) ⟨c41, c50⟩
              have n3 := q_cr_up (q_fd (q_ev lw ln s wa cf ct rr) s k (q_z oa 400) i) (s.2.2.1 i) 1 400
              rw [if_pos (by omega), if_pos (by omega)] at n3
              rw [← e8] at XO
              refine mv_iinc (v := nI (i + 1)) dX12_findOdd_116 rfl (mv_inc i 1) (by decide) ?_
              refine mv_goto (tgt := 24) dX12_findOdd_119 (by decide) ?_
              refine mv_sub (lv' := [.ref 52, .int (nI k), .ref 68, .int (nI (v + 1)), .int (nI (i + 1)), .null]) ⟨Or.inr rfl, Or.inr rfl, Or.inr rfl, Or.inr rfl, Or.inr rfl, Or.inl rfl, trivial⟩ ?_
              exact ih (v + 1) (i + 1) h15 (by omega) fr XO HX X59 X60 X61 X62 X63 X64 X65 X66 X53 (by omega) (by rw [e8]; omega)
set_option maxRecDepth 100000 in
theorem l_X12_findA68 {ev : mv_E} {h : mv_H} {xt : Int32} {xf : Int32} {xa : Int32} {xo : Int64} {xe : Int32} {xu : Int32} {xs : Int32} {xc : Int32} {xw : Int32} {b : t_B} {t : Nat} {s : q_S} {wa : Nat → Nat} {cf : Nat → Int32} {ct : Nat → Int32} {rr : Nat → Nat} {lw : Nat → Int32} {ln : Nat → Nat} {k : Nat} {oa : Nat → Nat}  (hw : q_LW lw ln) (hsi : q_SI s) (hr : ∀ d, rr d ≤ 1) (hwi : q_WI wa cf ct) (ho : ∀ d, oa d ≤ 1) (hk : k < 8) : ∀ (fu : Nat) (y : Nat), ∀ (g : mv_H), 400 < y + fu → mv_fra [68] h g → g[68]? = some (.inl (2, 400, .inl (fun j => nI (q_z oa y j)))) → g[52]? = some (.inr (12, [.ref 53, .ref 54, .int xt, .int xf, .int xa, .long xo, .int xe, .int xu, .ref 55, .int xs, .int (nI b.1), .ref 56, .ref 57, .ref 58, .int (nI t), .int (nI b.2.1), .ref 59, .ref 60, .ref 61, .ref 62, .int (nI s.1), .ref 63, .ref 64, .ref 65, .ref 66, .ref 67, .ref 68, .ref 69, .int xc, .ref 70, .ref 71, .ref 72, .ref 73, .ref 74, .ref 75, .int xw, .ref 76, .ref 77, .ref 78, .ref 79, .ref 80])) → g[59]? = some (.inl (0, 8, .inl (fun j => nI (wa j)))) → g[60]? = some (.inl (0, 8, .inl cf)) → g[61]? = some (.inl (0, 8, .inl ct)) → g[62]? = some (.inl (2, 400, .inl (fun j => nI (rr j)))) → g[63]? = some (.inl (0, 100, .inl (fun j => nI (s.2.1 j)))) → g[64]? = some (.inl (0, 100, .inl (fun j => nI (s.2.2.1 j)))) → g[65]? = some (.inl (0, 100, .inl (fun j => nI (s.2.2.2.1 j)))) → g[66]? = some (.inl (0, 100, .inl (fun j => nI (s.2.2.2.2 j)))) → g[53]? = some (.inl (0, 8, .inl lw)) → (y ≤ 400) → mv_g ev mX12_findOdd 2 [.ref 52, .int (nI k), .ref 68, .int (nI y), .null, .null] [] g (fun r g => r = some (.int (nI (q_on (q_oks lw ln s wa cf ct rr (fun _ => 0)) k 400))) ∧ mv_fra [68] h g ∧ g[68]? = some (.inl (2, 400, .inl (fun j => nI (q_fd (q_ev lw ln s wa cf ct rr) s k (q_z oa 400) s.1 j))))) := by
  intro fu
  induction fu with
  | zero => intro y g hm fr XO HX X59 X60 X61 X62 X63 X64 X65 X66 X53 hy; exact absurd hm (by omega)
  | succ fu ih =>
    intro y g hm fr XO HX X59 X60 X61 X62 X63 X64 X65 X66 X53 hy
    have n0 := hsi.1
    refine mv_iload_n dX12_findOdd_2 rfl ?_
    refine mv_sipush (v := nI 399) dX12_findOdd_3 (by decide) ?_
    refine mv_icmp_gt (tgt := 19) dX12_findOdd_6 (by decide) (fun c6 => ?_) (fun c6 => ?_)
    · have c6 : 399 < y := (nI_ltI (by omega) (by omega)).mp c6
      have ey : y = 400 := (by omega)
      subst ey
      refine mv_iconst (v := nI 0) dX12_findOdd_19 (by decide) ?_
      refine mv_istore_n dX12_findOdd_20 (by decide) ?_
      refine mv_iconst (v := nI 0) dX12_findOdd_21 (by decide) ?_
      refine mv_istore dX12_findOdd_22 (by decide) ?_
      exact l_X12_findB68 hw hsi hr hwi ho hk (s.1 + 1) 0 0 g (by omega) fr XO HX X59 X60 X61 X62 X63 X64 X65 X66 X53 (Nat.zero_le _) (q_cr_z oa 400 (Nat.le_refl _)).symm
    · have c6 : ¬ (399 < y) := fun z => c6 ((nI_ltI (by omega) (by omega)).mpr z)
      refine mv_aload_n dX12_findOdd_9 rfl ?_
      refine mv_iload_n dX12_findOdd_10 rfl ?_
      refine mv_iconst (v := nI 0) dX12_findOdd_11 (by decide) ?_
      refine mv_zastN (j := y) dX12_findOdd_12 XO rfl (by decide) (by omega) rfl (fun h1 e2 => ?_)
      rw [upd_nI] at e2
      have HX := mv_ne e2 (by decide) HX
      have X59 := mv_ne e2 (by decide) X59
      have X60 := mv_ne e2 (by decide) X60
      have X61 := mv_ne e2 (by decide) X61
      have X62 := mv_ne e2 (by decide) X62
      have X63 := mv_ne e2 (by decide) X63
      have X64 := mv_ne e2 (by decide) X64
      have X65 := mv_ne e2 (by decide) X65
      have X66 := mv_ne e2 (by decide) X66
      have X53 := mv_ne e2 (by decide) X53
      have XO : h1[68]? = some (.inl (2, 400, .inl (fun j => nI (t_up (q_z oa y) y 0 j)))) := mv_eq e2 XO
      have fr := fr.set e2 (by decide)
      clear e2
      rw [q_z_s] at XO
      refine mv_iinc (v := nI (y + 1)) dX12_findOdd_13 rfl (mv_inc y 1) (by decide) ?_
      refine mv_goto (tgt := 2) dX12_findOdd_16 (by decide) ?_
      exact ih (y + 1) h1 (by omega) fr XO HX X59 X60 X61 X62 X63 X64 X65 X66 X53 (by omega)
set_option maxRecDepth 100000 in
theorem k_X12_findOdd68 {ev : mv_E} {h : mv_H} {xt : Int32} {xf : Int32} {xa : Int32} {xo : Int64} {xe : Int32} {xu : Int32} {xs : Int32} {xc : Int32} {xw : Int32} {b : t_B} {t : Nat} {s : q_S} {wa : Nat → Nat} {cf : Nat → Int32} {ct : Nat → Int32} {rr : Nat → Nat} {lw : Nat → Int32} {ln : Nat → Nat} {k : Nat} {oa : Nat → Nat} (HX : h[52]? = some (.inr (12, [.ref 53, .ref 54, .int xt, .int xf, .int xa, .long xo, .int xe, .int xu, .ref 55, .int xs, .int (nI b.1), .ref 56, .ref 57, .ref 58, .int (nI t), .int (nI b.2.1), .ref 59, .ref 60, .ref 61, .ref 62, .int (nI s.1), .ref 63, .ref 64, .ref 65, .ref 66, .ref 67, .ref 68, .ref 69, .int xc, .ref 70, .ref 71, .ref 72, .ref 73, .ref 74, .ref 75, .int xw, .ref 76, .ref 77, .ref 78, .ref 79, .ref 80]))) (X59 : h[59]? = some (.inl (0, 8, .inl (fun j => nI (wa j))))) (X60 : h[60]? = some (.inl (0, 8, .inl cf))) (X61 : h[61]? = some (.inl (0, 8, .inl ct))) (X62 : h[62]? = some (.inl (2, 400, .inl (fun j => nI (rr j))))) (X63 : h[63]? = some (.inl (0, 100, .inl (fun j => nI (s.2.1 j))))) (X64 : h[64]? = some (.inl (0, 100, .inl (fun j => nI (s.2.2.1 j))))) (X65 : h[65]? = some (.inl (0, 100, .inl (fun j => nI (s.2.2.2.1 j))))) (X66 : h[66]? = some (.inl (0, 100, .inl (fun j => nI (s.2.2.2.2 j))))) (X53 : h[53]? = some (.inl (0, 8, .inl lw))) (XO : h[68]? = some (.inl (2, 400, .inl (fun j => nI (oa j))))) (hw : q_LW lw ln) (hsi : q_SI s) (hr : ∀ d, rr d ≤ 1) (hwi : q_WI wa cf ct) (ho : ∀ d, oa d ≤ 1) (hk : k < 8) : ∃ h2, mv_K ev mX12_findOdd [.ref 52, .int (nI k), .ref 68] h (some (.int (nI (q_on (q_oks lw ln s wa cf ct rr (fun _ => 0)) k 400)))) h2 ∧ mv_fra [68] h h2 ∧ h2[68]? = some (.inl (2, 400, .inl (fun j => nI (q_fd (q_ev lw ln s wa cf ct rr) s k (q_z oa 400) s.1 j)))) := by
  suffices g0 : mv_g ev mX12_findOdd 0 (mv_ent [.ref 52, .int (nI k), .ref 68] (mv_ml mX12_findOdd)) [] h (fun r g => r = some (.int (nI (q_on (q_oks lw ln s wa cf ct rr (fun _ => 0)) k 400))) ∧ mv_fra [68] h g ∧ g[68]? = some (.inl (2, 400, .inl (fun j => nI (q_fd (q_ev lw ln s wa cf ct rr) s k (q_z oa 400) s.1 j))))) from (by obtain ⟨r0, h0, K0, q0, Q0⟩ := mv_Kex g0; subst q0; exact ⟨h0, K0, Q0⟩)
  show mv_g ev mX12_findOdd 0 [.ref 52, .int (nI k), .ref 68, .null, .null, .null] [] h _
  have fr : mv_fra [68] h h := mv_fra.rf
  have n0 := hsi.1
  rw [← q_z_0 oa] at XO
  refine mv_iconst (v := nI 0) dX12_findOdd_0 (by decide) ?_
  refine mv_istore_n dX12_findOdd_1 (by decide) ?_
  exact l_X12_findA68 hw hsi hr hwi ho hk (400 + 1) 0 h (by omega) fr XO HX X59 X60 X61 X62 X63 X64 X65 X66 X53 (Nat.zero_le _)
theorem q_cd_1 {wa : Nat → Nat} {cf ct : Nat → Int32} (h : q_WI wa cf ct) {k : Nat} (hk : cf k ≠ -1) : 1 ≤ q_cd cf ct k := by
  obtain ⟨a, c, h1, h2, h3, h4⟩ := q_WI_c h hk
  unfold q_cd
  rw [if_neg hk, h3, h4, nI_toInt (by omega), nI_toInt (by omega)]
  omega
set_option maxRecDepth 100000 in
theorem k_X12_rateOf {ev : mv_E} {h : mv_H} {xt : Int32} {xf : Int32} {xa : Int32} {xo : Int64} {xe : Int32} {xu : Int32} {xs : Int32} {xc : Int32} {xw : Int32} {b : t_B} {t : Nat} {s : q_S} {wa : Nat → Nat} {cf : Nat → Int32} {ct : Nat → Int32} {rr : Nat → Nat} {lw : Nat → Int32} {ln : Nat → Nat} {k : Nat} {oa : Nat → Nat} (HX : h[52]? = some (.inr (12, [.ref 53, .ref 54, .int xt, .int xf, .int xa, .long xo, .int xe, .int xu, .ref 55, .int xs, .int (nI b.1), .ref 56, .ref 57, .ref 58, .int (nI t), .int (nI b.2.1), .ref 59, .ref 60, .ref 61, .ref 62, .int (nI s.1), .ref 63, .ref 64, .ref 65, .ref 66, .ref 67, .ref 68, .ref 69, .int xc, .ref 70, .ref 71, .ref 72, .ref 73, .ref 74, .ref 75, .int xw, .ref 76, .ref 77, .ref 78, .ref 79, .ref 80]))) (X59 : h[59]? = some (.inl (0, 8, .inl (fun j => nI (wa j))))) (X60 : h[60]? = some (.inl (0, 8, .inl cf))) (X61 : h[61]? = some (.inl (0, 8, .inl ct))) (X62 : h[62]? = some (.inl (2, 400, .inl (fun j => nI (rr j))))) (X63 : h[63]? = some (.inl (0, 100, .inl (fun j => nI (s.2.1 j))))) (X64 : h[64]? = some (.inl (0, 100, .inl (fun j => nI (s.2.2.1 j))))) (X65 : h[65]? = some (.inl (0, 100, .inl (fun j => nI (s.2.2.2.1 j))))) (X66 : h[66]? = some (.inl (0, 100, .inl (fun j => nI (s.2.2.2.2 j))))) (X53 : h[53]? = some (.inl (0, 8, .inl lw))) (XO : h[67]? = some (.inl (2, 400, .inl (fun j => nI (oa j))))) (hw : q_LW lw ln) (hsi : q_SI s) (hr : ∀ d, rr d ≤ 1) (hwi : q_WI wa cf ct) (ho : ∀ d, oa d ≤ 1) (hk : k < 8) (hc : cf k ≠ -1) : ∃ h2, mv_K ev mX12_rateOf [.ref 52, .int (nI k)] h (some (.int (nI (q_ra (q_oks lw ln s wa cf ct rr (fun _ => 0)) cf ct k)))) h2 ∧ mv_fra [67] h h2 ∧ h2[67]? = some (.inl (2, 400, .inl (fun j => nI (q_fd (q_ev lw ln s wa cf ct rr) s k (q_z oa 400) s.1 j)))) := by
  suffices g0 : mv_g ev mX12_rateOf 0 (mv_ent [.ref 52, .int (nI k)] (mv_ml mX12_rateOf)) [] h (fun r g => r = some (.int (nI (q_ra (q_oks lw ln s wa cf ct rr (fun _ => 0)) cf ct k))) ∧ mv_fra [67] h g ∧ g[67]? = some (.inl (2, 400, .inl (fun j => nI (q_fd (q_ev lw ln s wa cf ct rr) s k (q_z oa 400) s.1 j))))) from (by obtain ⟨r0, h0, K0, q0, Q0⟩ := mv_Kex g0; subst q0; exact ⟨h0, K0, Q0⟩)
  show mv_g ev mX12_rateOf 0 [.ref 52, .int (nI k)] [] h _
  have fr : mv_fra [67] h h := mv_fra.rf
  have n1 := q_cd_le hwi k
  have n2 := q_on_le (q_oks lw ln s wa cf ct rr (fun _ => 0)) k 400
  have n3 := q_cd_1 hwi hc
  refine mv_aload_n dX12_rateOf_0 rfl ?_
  refine mv_iload_n dX12_rateOf_1 rfl ?_
  refine mv_aload_n dX12_rateOf_2 rfl ?_
  refine mv_getf (ci := 12) (f := 25) dX12_rateOf_3 HX rfl (by decide) wd_1224 rfl ?_
  obtain ⟨h1, K2, f3, y4⟩ := (k_X12_findOdd67 (ev := ev) (xt := xt) (xf := xf) (xa := xa) (xo := xo) (xe := xe) (xu := xu) (xs := xs) (xc := xc) (xw := xw) (b := b) (t := t) (s := s) (wa := wa) (cf := cf) (ct := ct) (rr := rr) (lw := lw) (ln := ln) (k := k) (oa := oa) HX X59 X60 X61 X62 X63 X64 X65 X66 X53 XO hw hsi hr hwi ho hk)
  refine mv_cV2 (ci := 12) dX12_rateOf_6 lk_X12_rateOf_298 HX rfl (Nat.le_of_ble_eq_true rfl) (Nat.le_of_ble_eq_true rfl) K2 ?_
  have HX := f3.get (by decide) HX
  have X59 := f3.get (by decide) X59
  have X60 := f3.get (by decide) X60
  have X61 := f3.get (by decide) X61
  have X62 := f3.get (by decide) X62
  have X63 := f3.get (by decide) X63
  have X64 := f3.get (by decide) X64
  have X65 := f3.get (by decide) X65
  have X66 := f3.get (by decide) X66
  have X53 := f3.get (by decide) X53
  have XO : h1[67]? = some (.inl (2, 400, .inl (fun j => nI (q_fd (q_ev lw ln s wa cf ct rr) s k (q_z oa 400) s.1 j)))) := y4
  have fr := fr.trans f3 (by decide)
  refine mv_i2l dX12_rateOf_9 ?_
  refine mv_topL (y := lN (q_on (q_oks lw ln s wa cf ct rr (fun _ => 0)) k 400)) (nI_l (by omega)) ?_
  refine mv_ldc2 (v := lN 1000000) dX12_rateOf_10 wd_1484 ?_
  refine mv_lmul dX12_rateOf_13 ?_
  refine mv_topL (y := lN ((q_on (q_oks lw ln s wa cf ct rr (fun _ => 0)) k 400) * 1000000)) (lN_mul _ _) ?_
  refine mv_aload_n dX12_rateOf_14 rfl ?_
  refine mv_iload_n dX12_rateOf_15 rfl ?_
  refine mv_cV1 (ci := 12) dX12_rateOf_16 lk_X12_rateOf_285 HX rfl (Nat.le_of_ble_eq_true rfl) (Nat.le_of_ble_eq_true rfl) (k_X12_counted (ev := ev) HX X60 X61 hk hwi) ?_
  refine mv_i2l dX12_rateOf_19 ?_
  refine mv_topL (y := lN (q_cd cf ct k)) (nI_l (by omega)) ?_
  refine mv_ldiv dX12_rateOf_20 (by intro z; have z2 := (lN_eqB (b := 0) (by omega) (by omega)).mp z; omega) ?_
  refine mv_topL (y := lN (((q_on (q_oks lw ln s wa cf ct rr (fun _ => 0)) k 400) * 1000000) / (q_cd cf ct k))) (lN_div (by omega) (by omega) (by omega)) ?_
  refine mv_l2i dX12_rateOf_21 ?_
  refine mv_topI (y := nI (((q_on (q_oks lw ln s wa cf ct rr (fun _ => 0)) k 400) * 1000000) / (q_cd cf ct k))) (lN_i _) ?_
  exact mv_iret dX12_rateOf_22 rfl rfl ⟨rfl, fr, XO⟩
