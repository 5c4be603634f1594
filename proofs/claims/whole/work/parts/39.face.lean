set_option maxRecDepth 100000 in
theorem k_X11_window_R1 {ev : mv_E} {h : mv_H} {b : t_B} {t : Nat} {k : Int32} {w : Int32} {m : Int32} {set : Int32} (H0 : h[0]? = some (.inr (11, [.ref 1, .ref 3, .ref 7, .ref 11, .ref 21, .ref 22, .ref 32, .ref 34, .ref 42, .ref 45, .ref 48]))) (HB : h[7]? = some (.inr (0, [.ref 8, .ref 9, .ref 10, .int (nI b.1), .int (nI t), .int (nI b.2.1)]))) (hno : ¬ ((0 ≤ k ∧ k < nI b.1 ∧ k < nI 60))) : mv_K ev mX11_window [.ref 0, .int k, .int w, .int m, .int set] h (some (.int (-1001))) h := by
  refine mv_Kof ?_
  show mv_g ev mX11_window 0 [.ref 0, .int k, .int w, .int m, .int set] [] h _
  refine mv_aload_n dX11_window_0 rfl ?_
  refine mv_getf (ci := 11) (f := 2) dX11_window_1 H0 rfl (by decide) wd_378 rfl ?_
  refine mv_iload_n dX11_window_4 rfl ?_
  refine mv_cV1 (ci := 0) dX11_window_5 lk_X11_window_157 HB rfl (Nat.le_of_ble_eq_true rfl) (Nat.le_of_ble_eq_true rfl) (k_X0_hasI (ev := ev) HB) ?_
  refine mv_if_ne (tgt := 15) dX11_window_8 (by decide) (fun c8 => ?_) (fun c8 => ?_)
  · have c8 : 0 ≤ k ∧ k < nI b.1 ∧ k < nI 60 := Classical.byContradiction (fun z => c8 ((mv_b_0 _).mpr z))
    exact absurd (by assumption) hno
  · have c8 : ¬ (0 ≤ k ∧ k < nI b.1 ∧ k < nI 60) := (mv_b_0 _).mp c8
    refine mv_sipush (v := (-1001)) dX11_window_11 (by decide) ?_
    exact mv_iret dX11_window_14 rfl rfl ⟨rfl, rfl⟩
set_option maxRecDepth 100000 in
theorem k_X11_window_R2 {ev : mv_E} {h : mv_H} {b : t_B} {t : Nat} {k : Nat} {w : Int32} {m : Int32} {set : Int32} (H0 : h[0]? = some (.inr (11, [.ref 1, .ref 3, .ref 7, .ref 11, .ref 21, .ref 22, .ref 32, .ref 34, .ref 42, .ref 45, .ref 48]))) (HB : h[7]? = some (.inr (0, [.ref 8, .ref 9, .ref 10, .int (nI b.1), .int (nI t), .int (nI b.2.1)]))) (hk : k < b.1) (hb60 : b.1 ≤ 60) (hno : ¬ ((nI 1 ≤ w ∧ w ≤ nI 60) ∧ (nI 0 ≤ m ∧ m ≤ nI 7) ∧ (nI 0 ≤ set ∧ set ≤ nI 255))) : mv_K ev mX11_window [.ref 0, .int (nI k), .int w, .int m, .int set] h (some (.int (-1002))) h := by
  refine mv_Kof ?_
  show mv_g ev mX11_window 0 [.ref 0, .int (nI k), .int w, .int m, .int set] [] h _
  refine mv_aload_n dX11_window_0 rfl ?_
  refine mv_getf (ci := 11) (f := 2) dX11_window_1 H0 rfl (by decide) wd_378 rfl ?_
  refine mv_iload_n dX11_window_4 rfl ?_
  refine mv_cV1 (ci := 0) dX11_window_5 lk_X11_window_157 HB rfl (Nat.le_of_ble_eq_true rfl) (Nat.le_of_ble_eq_true rfl) (k_X0_has (ev := ev) HB hk hb60) ?_
  refine mv_if_ne (tgt := 15) dX11_window_8 (by decide) (fun c8 => ?_) (fun z => absurd z ((by decide)))
  refine mv_iload_n dX11_window_15 rfl ?_
  refine mv_cS1 dX11_window_16 lk_X11_window_234 (Nat.le_of_ble_eq_true rfl) (Nat.le_of_ble_eq_true rfl) (k_X11_isWindow (ev := ev)) ?_
  refine mv_if_eq (tgt := 37) dX11_window_19 (by decide) (fun c19 => ?_) (fun c19 => ?_)
  · have c19 : ¬ (nI 1 ≤ w ∧ w ≤ nI 60) := (mv_b_0 _).mp c19
    refine mv_sipush (v := (-1002)) dX11_window_37 (by decide) ?_
    exact mv_iret dX11_window_40 rfl rfl ⟨rfl, rfl⟩
  · have c19 : nI 1 ≤ w ∧ w ≤ nI 60 := Classical.byContradiction (fun z => c19 ((mv_b_0 _).mpr z))
    refine mv_iload_n dX11_window_22 rfl ?_
    refine mv_cS1 dX11_window_23 lk_X11_window_123 (Nat.le_of_ble_eq_true rfl) (Nat.le_of_ble_eq_true rfl) (k_X11_isDistance (ev := ev)) ?_
    refine mv_if_eq (tgt := 37) dX11_window_26 (by decide) (fun c26 => ?_) (fun c26 => ?_)
    · have c26 : ¬ (nI 0 ≤ m ∧ m ≤ nI 7) := (mv_b_0 _).mp c26
      refine mv_sipush (v := (-1002)) dX11_window_37 (by decide) ?_
      exact mv_iret dX11_window_40 rfl rfl ⟨rfl, rfl⟩
    · have c26 : nI 0 ≤ m ∧ m ≤ nI 7 := Classical.byContradiction (fun z => c26 ((mv_b_0 _).mpr z))
      refine mv_iload dX11_window_29 rfl ?_
      refine mv_cS1 dX11_window_31 lk_X11_window_237 (Nat.le_of_ble_eq_true rfl) (Nat.le_of_ble_eq_true rfl) (k_X11_isKindSet (ev := ev)) ?_
      refine mv_if_ne (tgt := 41) dX11_window_34 (by decide) (fun c34 => ?_) (fun c34 => ?_)
      · have c34 : nI 0 ≤ set ∧ set ≤ nI 255 := Classical.byContradiction (fun z => c34 ((mv_b_0 _).mpr z))
        exact absurd (by refine ⟨?_, ?_, ?_⟩ <;> assumption) hno
      · have c34 : ¬ (nI 0 ≤ set ∧ set ≤ nI 255) := (mv_b_0 _).mp c34
        refine mv_sipush (v := (-1002)) dX11_window_37 (by decide) ?_
        exact mv_iret dX11_window_40 rfl rfl ⟨rfl, rfl⟩
set_option maxRecDepth 100000 in
theorem k_X11_window_G {ev : mv_E} {h : mv_H} {b : t_B} {t : Nat} {s : q_S} {rc : Nat} {k : Nat} {w : Nat} {m : Nat} {set : Nat} {dd : Nat} (H0 : h[0]? = some (.inr (11, [.ref 1, .ref 3, .ref 7, .ref 11, .ref 21, .ref 22, .ref 32, .ref 34, .ref 42, .ref 45, .ref 48]))) (HB : h[7]? = some (.inr (0, [.ref 8, .ref 9, .ref 10, .int (nI b.1), .int (nI t), .int (nI b.2.1)]))) (H8 : h[8]? = some (.inl (0, 60, .inl (fun j => nI (b.2.2.1 j))))) (H9 : h[9]? = some (.inl (0, 60, .inl (fun j => nI (b.2.2.2.1 j))))) (H10 : h[10]? = some (.inl (0, 60, .inl (fun j => nI (b.2.2.2.2 j))))) (HS : h[22]? = some (.inr (7, [.ref 1, .ref 23, .ref 24, .ref 25, .ref 26, .int (nI s.1), .ref 27, .ref 28, .ref 29, .ref 30, .int (nI rc), .ref 31]))) (S23 : h[23]? = some (.inl (0, 100, .inl (fun j => nI (s.2.1 j))))) (S24 : h[24]? = some (.inl (0, 100, .inl (fun j => nI (s.2.2.1 j))))) (S25 : h[25]? = some (.inl (0, 100, .inl (fun j => nI (s.2.2.2.1 j))))) (hk : k < b.1) (hb : q_BI dd b) (hsi : q_SI s) (hw1 : 1 ≤ w) (hw6 : w ≤ 60) (hm0 : m < 8) (hset : set < 256) : mv_K ev mX11_window [.ref 0, .int (nI k), .int (nI w), .int (nI m), .int (nI set)] h (some (.int (nI (q_cnt (q_aP s (b.2.2.1 k) (b.2.2.2.1 k) w m set) s.1)))) h := by
  refine mv_Kof ?_
  show mv_g ev mX11_window 0 [.ref 0, .int (nI k), .int (nI w), .int (nI m), .int (nI set)] [] h _
  have hb60 := hb.1
  have n1 := hb.2.2.1 k
  have n2 := hb.2.2.2.1 k
  refine mv_aload_n dX11_window_0 rfl ?_
  refine mv_getf (ci := 11) (f := 2) dX11_window_1 H0 rfl (by decide) wd_378 rfl ?_
  refine mv_iload_n dX11_window_4 rfl ?_
  refine mv_cV1 (ci := 0) dX11_window_5 lk_X11_window_157 HB rfl (Nat.le_of_ble_eq_true rfl) (Nat.le_of_ble_eq_true rfl) (k_X0_has (ev := ev) HB hk hb60) ?_
  refine mv_if_ne (tgt := 15) dX11_window_8 (by decide) (fun c8 => ?_) (fun z => absurd z ((by decide)))
  refine mv_iload_n dX11_window_15 rfl ?_
  refine mv_cS1 dX11_window_16 lk_X11_window_234 (Nat.le_of_ble_eq_true rfl) (Nat.le_of_ble_eq_true rfl) (k_X11_isWindow (ev := ev)) ?_
  refine mv_if_eq (tgt := 37) dX11_window_19 (by decide) (fun z => absurd z ((fun z => (mv_b_0 _).mp z (mv_in_i (by omega) (by omega) (by omega))))) (fun c19 => ?_)
  refine mv_iload_n dX11_window_22 rfl ?_
  refine mv_cS1 dX11_window_23 lk_X11_window_123 (Nat.le_of_ble_eq_true rfl) (Nat.le_of_ble_eq_true rfl) (k_X11_isDistance (ev := ev)) ?_
  refine mv_if_eq (tgt := 37) dX11_window_26 (by decide) (fun z => absurd z ((fun z => (mv_b_0 _).mp z (mv_in_i (by omega) (by omega) (by omega))))) (fun c26 => ?_)
  refine mv_iload dX11_window_29 rfl ?_
  refine mv_cS1 dX11_window_31 lk_X11_window_237 (Nat.le_of_ble_eq_true rfl) (Nat.le_of_ble_eq_true rfl) (k_X11_isKindSet (ev := ev)) ?_
  refine mv_if_ne (tgt := 41) dX11_window_34 (by decide) (fun c34 => ?_) (fun z => absurd z ((fun z => (mv_b_0 _).mp z (mv_in_i (by omega) (by omega) (by omega)))))
  refine mv_aload_n dX11_window_41 rfl ?_
  refine mv_getf (ci := 11) (f := 5) dX11_window_42 H0 rfl (by decide) wd_381 rfl ?_
  refine mv_aload_n dX11_window_45 rfl ?_
  refine mv_getf (ci := 11) (f := 2) dX11_window_46 H0 rfl (by decide) wd_378 rfl ?_
  refine mv_iload_n dX11_window_49 rfl ?_
  refine mv_cV1 (ci := 0) dX11_window_50 lk_X11_window_160 HB rfl (Nat.le_of_ble_eq_true rfl) (Nat.le_of_ble_eq_true rfl) (k_X0_dayOf (ev := ev) HB H8 hk hb60) ?_
  refine mv_aload_n dX11_window_53 rfl ?_
  refine mv_getf (ci := 11) (f := 2) dX11_window_54 H0 rfl (by decide) wd_378 rfl ?_
  refine mv_iload_n dX11_window_57 rfl ?_
  refine mv_cV1 (ci := 0) dX11_window_58 lk_X11_window_163 HB rfl (Nat.le_of_ble_eq_true rfl) (Nat.le_of_ble_eq_true rfl) (k_X0_placeOf (ev := ev) HB H9 hk hb60) ?_
  refine mv_iload_n dX11_window_61 rfl ?_
  refine mv_iload_n dX11_window_62 rfl ?_
  refine mv_iload dX11_window_63 rfl ?_
  refine mv_cV5 (ci := 7) dX11_window_65 lk_X11_window_240 HS rfl (Nat.le_of_ble_eq_true rfl) (Nat.le_of_ble_eq_true rfl) (k_X7_howManyAhead (ev := ev) HS S23 S24 S25 hsi n1 n2 (by omega) hm0 hset) ?_
  exact mv_iret dX11_window_68 rfl rfl ⟨rfl, rfl⟩
set_option maxRecDepth 100000 in
theorem k_X11_chance_R1 {ev : mv_E} {h : mv_H} {w : Int32} {set : Int32}  (hno : ¬ ((nI 1 ≤ w ∧ w ≤ nI 60) ∧ (nI 0 ≤ set ∧ set ≤ nI 255))) : mv_K ev mX11_chance [.ref 0, .int w, .int set] h (some (.int (-1002))) h := by
  refine mv_Kof ?_
  show mv_g ev mX11_chance 0 [.ref 0, .int w, .int set] [] h _
  refine mv_iload_n dX11_chance_0 rfl ?_
  refine mv_cS1 dX11_chance_1 lk_X11_chance_234 (Nat.le_of_ble_eq_true rfl) (Nat.le_of_ble_eq_true rfl) (k_X11_isWindow (ev := ev)) ?_
  refine mv_if_eq (tgt := 14) dX11_chance_4 (by decide) (fun c4 => ?_) (fun c4 => ?_)
  · have c4 : ¬ (nI 1 ≤ w ∧ w ≤ nI 60) := (mv_b_0 _).mp c4
    refine mv_sipush (v := (-1002)) dX11_chance_14 (by decide) ?_
    exact mv_iret dX11_chance_17 rfl rfl ⟨rfl, rfl⟩
  · have c4 : nI 1 ≤ w ∧ w ≤ nI 60 := Classical.byContradiction (fun z => c4 ((mv_b_0 _).mpr z))
    refine mv_iload_n dX11_chance_7 rfl ?_
    refine mv_cS1 dX11_chance_8 lk_X11_chance_237 (Nat.le_of_ble_eq_true rfl) (Nat.le_of_ble_eq_true rfl) (k_X11_isKindSet (ev := ev)) ?_
    refine mv_if_ne (tgt := 18) dX11_chance_11 (by decide) (fun c11 => ?_) (fun c11 => ?_)
    · have c11 : nI 0 ≤ set ∧ set ≤ nI 255 := Classical.byContradiction (fun z => c11 ((mv_b_0 _).mpr z))
      exact absurd (by refine ⟨?_, ?_⟩ <;> assumption) hno
    · have c11 : ¬ (nI 0 ≤ set ∧ set ≤ nI 255) := (mv_b_0 _).mp c11
      refine mv_sipush (v := (-1002)) dX11_chance_14 (by decide) ?_
      exact mv_iret dX11_chance_17 rfl rfl ⟨rfl, rfl⟩
set_option maxRecDepth 100000 in
theorem k_X11_chance_R2 {ev : mv_E} {h : mv_H} {s : q_S} {cf : Nat → Int32} {rc : Nat} {w : Nat} {set : Nat} (H0 : h[0]? = some (.inr (11, [.ref 1, .ref 3, .ref 7, .ref 11, .ref 21, .ref 22, .ref 32, .ref 34, .ref 42, .ref 45, .ref 48]))) (HS : h[22]? = some (.inr (7, [.ref 1, .ref 23, .ref 24, .ref 25, .ref 26, .int (nI s.1), .ref 27, .ref 28, .ref 29, .ref 30, .int (nI rc), .ref 31]))) (S28 : h[28]? = some (.inl (0, 8, .inl cf))) (hw1 : 1 ≤ w) (hw6 : w ≤ 60) (hset : set < 256) (hno : ¬ (q_aC cf set)) : mv_K ev mX11_chance [.ref 0, .int (nI w), .int (nI set)] h (some (.int (-1003))) h := by
  refine mv_Kof ?_
  show mv_g ev mX11_chance 0 [.ref 0, .int (nI w), .int (nI set)] [] h _
  refine mv_iload_n dX11_chance_0 rfl ?_
  refine mv_cS1 dX11_chance_1 lk_X11_chance_234 (Nat.le_of_ble_eq_true rfl) (Nat.le_of_ble_eq_true rfl) (k_X11_isWindow (ev := ev)) ?_
  refine mv_if_eq (tgt := 14) dX11_chance_4 (by decide) (fun z => absurd z ((fun z => (mv_b_0 _).mp z (mv_in_i (by omega) (by omega) (by omega))))) (fun c4 => ?_)
  refine mv_iload_n dX11_chance_7 rfl ?_
  refine mv_cS1 dX11_chance_8 lk_X11_chance_237 (Nat.le_of_ble_eq_true rfl) (Nat.le_of_ble_eq_true rfl) (k_X11_isKindSet (ev := ev)) ?_
  refine mv_if_ne (tgt := 18) dX11_chance_11 (by decide) (fun c11 => ?_) (fun z => absurd z ((fun z => (mv_b_0 _).mp z (mv_in_i (by omega) (by omega) (by omega)))))
  refine mv_aload_n dX11_chance_18 rfl ?_
  refine mv_getf (ci := 11) (f := 5) dX11_chance_19 H0 rfl (by decide) wd_381 rfl ?_
  refine mv_iload_n dX11_chance_22 rfl ?_
  refine mv_cV1 (ci := 7) dX11_chance_23 lk_X11_chance_244 HS rfl (Nat.le_of_ble_eq_true rfl) (Nat.le_of_ble_eq_true rfl) (k_X7_areAllCounted (ev := ev) HS S28 hset) ?_
  refine mv_if_eq (tgt := 41) dX11_chance_26 (by decide) (fun c26 => ?_) (fun c26 => ?_)
  · have c26 : ¬ (q_aC cf set) := (mv_q_0 _).mp c26
    refine mv_sipush (v := (-1003)) dX11_chance_41 (by decide) ?_
    exact mv_iret dX11_chance_44 rfl rfl ⟨rfl, rfl⟩
  · have c26 : q_aC cf set := Classical.byContradiction (fun z => c26 ((mv_q_0 _).mpr z))
    exact absurd c26 hno
set_option maxRecDepth 100000 in
theorem k_X11_chance_G {ev : mv_E} {h : mv_H} {s : q_S} {wa : Nat → Nat} {cf : Nat → Int32} {ct : Nat → Int32} {rr : Nat → Nat} {rc : Nat} {ok : Nat → Nat} {lw : Nat → Int32} {ln : Nat → Nat} {w : Nat} {set : Nat} (H0 : h[0]? = some (.inr (11, [.ref 1, .ref 3, .ref 7, .ref 11, .ref 21, .ref 22, .ref 32, .ref 34, .ref 42, .ref 45, .ref 48]))) (HL : h[1]? = some (.inr (5, [.ref 2]))) (HV : h[2]? = some (.inl (0, 8, .inl lw))) (HS : h[22]? = some (.inr (7, [.ref 1, .ref 23, .ref 24, .ref 25, .ref 26, .int (nI s.1), .ref 27, .ref 28, .ref 29, .ref 30, .int (nI rc), .ref 31]))) (S23 : h[23]? = some (.inl (0, 100, .inl (fun j => nI (s.2.1 j))))) (S24 : h[24]? = some (.inl (0, 100, .inl (fun j => nI (s.2.2.1 j))))) (S25 : h[25]? = some (.inl (0, 100, .inl (fun j => nI (s.2.2.2.1 j))))) (S26 : h[26]? = some (.inl (0, 100, .inl (fun j => nI (s.2.2.2.2 j))))) (S27 : h[27]? = some (.inl (0, 8, .inl (fun j => nI (wa j))))) (S28 : h[28]? = some (.inl (0, 8, .inl cf))) (S29 : h[29]? = some (.inl (0, 8, .inl ct))) (S30 : h[30]? = some (.inl (2, 400, .inl (fun j => nI (rr j))))) (S31 : h[31]? = some (.inl (0, 400, .inl (fun j => nI (ok j))))) (hw : q_LW lw ln) (hsi : q_SI s) (hr : ∀ d, rr d ≤ 1) (hwi : q_WI wa cf ct) (hok : ∀ d, ok d < 256) (hw1 : 1 ≤ w) (hw6 : w ≤ 60) (hset : set < 256) (hac : q_aC cf set) : ∃ h2, mv_K ev mX11_chance [.ref 0, .int (nI w), .int (nI set)] h (some (.int (nI (1000000 - q_ch (q_ra (q_oks lw ln s wa cf ct rr ok) cf ct) w set 8 0 1000000)))) h2 ∧ mv_fra [31] h h2 ∧ h2[31]? = some (.inl (0, 400, .inl (fun j => nI ((q_oks lw ln s wa cf ct rr ok) j)))) := by
  suffices g0 : mv_g ev mX11_chance 0 (mv_ent [.ref 0, .int (nI w), .int (nI set)] (mv_ml mX11_chance)) [] h (fun r g => r = some (.int (nI (1000000 - q_ch (q_ra (q_oks lw ln s wa cf ct rr ok) cf ct) w set 8 0 1000000))) ∧ mv_fra [31] h g ∧ g[31]? = some (.inl (0, 400, .inl (fun j => nI ((q_oks lw ln s wa cf ct rr ok) j))))) from (by obtain ⟨r0, h0, K0, q0, Q0⟩ := mv_Kex g0; subst q0; exact ⟨h0, K0, Q0⟩)
  show mv_g ev mX11_chance 0 [.ref 0, .int (nI w), .int (nI set)] [] h _
  have fr : mv_fra [31] h h := mv_fra.rf
  refine mv_iload_n dX11_chance_0 rfl ?_
  refine mv_cS1 dX11_chance_1 lk_X11_chance_234 (Nat.le_of_ble_eq_true rfl) (Nat.le_of_ble_eq_true rfl) (k_X11_isWindow (ev := ev)) ?_
  refine mv_if_eq (tgt := 14) dX11_chance_4 (by decide) (fun z => absurd z ((fun z => (mv_b_0 _).mp z (mv_in_i (by omega) (by omega) (by omega))))) (fun c4 => ?_)
  refine mv_iload_n dX11_chance_7 rfl ?_
  refine mv_cS1 dX11_chance_8 lk_X11_chance_237 (Nat.le_of_ble_eq_true rfl) (Nat.le_of_ble_eq_true rfl) (k_X11_isKindSet (ev := ev)) ?_
  refine mv_if_ne (tgt := 18) dX11_chance_11 (by decide) (fun c11 => ?_) (fun z => absurd z ((fun z => (mv_b_0 _).mp z (mv_in_i (by omega) (by omega) (by omega)))))
  refine mv_aload_n dX11_chance_18 rfl ?_
  refine mv_getf (ci := 11) (f := 5) dX11_chance_19 H0 rfl (by decide) wd_381 rfl ?_
  refine mv_iload_n dX11_chance_22 rfl ?_
  refine mv_cV1 (ci := 7) dX11_chance_23 lk_X11_chance_244 HS rfl (Nat.le_of_ble_eq_true rfl) (Nat.le_of_ble_eq_true rfl) (k_X7_areAllCounted (ev := ev) HS S28 hset) ?_
  refine mv_if_eq (tgt := 41) dX11_chance_26 (by decide) (fun z => absurd z ((fun z => (mv_q_0 _).mp z hac))) (fun c26 => ?_)
  refine mv_aload_n dX11_chance_29 rfl ?_
  refine mv_getf (ci := 11) (f := 5) dX11_chance_30 H0 rfl (by decide) wd_381 rfl ?_
  refine mv_iload_n dX11_chance_33 rfl ?_
  refine mv_iload_n dX11_chance_34 rfl ?_
  obtain ⟨h1, K2, f3, y4⟩ := (k_X7_byChance (ev := ev) (s := s) (wa := wa) (cf := cf) (ct := ct) (rr := rr) (rc := rc) (ok := ok) (lw := lw) (ln := ln) (w := w) (set := set) HL HV HS S23 S24 S25 S26 S27 S28 S29 S30 S31 hw hsi hr hwi hok (by omega) hset)
  refine mv_cV2 (ci := 7) dX11_chance_35 lk_X11_chance_247 HS rfl (Nat.le_of_ble_eq_true rfl) (Nat.le_of_ble_eq_true rfl) K2 ?_
  have H0 := f3.get (by decide) H0
  have HL := f3.get (by decide) HL
  have HV := f3.get (by decide) HV
  have HS := f3.get (by decide) HS
  have S23 := f3.get (by decide) S23
  have S24 := f3.get (by decide) S24
  have S25 := f3.get (by decide) S25
  have S26 := f3.get (by decide) S26
  have S27 := f3.get (by decide) S27
  have S28 := f3.get (by decide) S28
  have S29 := f3.get (by decide) S29
  have S30 := f3.get (by decide) S30
  have S31 : h1[31]? = some (.inl (0, 400, .inl (fun j => nI ((q_oks lw ln s wa cf ct rr ok) j)))) := y4
  have fr := fr.trans f3 (by decide)
  refine mv_goto (tgt := 44) dX11_chance_38 (by decide) ?_
  exact mv_iret dX11_chance_44 rfl rfl ⟨rfl, fr, S31⟩
set_option maxRecDepth 100000 in
theorem k_X11_table_R1 {ev : mv_E} {h : mv_H} {k : Int32} {w : Int32} {m : Int32} {x : Int32} {i : Int32}  (hno : ¬ ((nI 0 ≤ k ∧ k ≤ nI 7))) : mv_K ev mX11_table [.ref 0, .int k, .int w, .int m, .int x, .int i] h (some (.int (-1001))) h := by
  refine mv_Kof ?_
  show mv_g ev mX11_table 0 [.ref 0, .int k, .int w, .int m, .int x, .int i] [] h _
  refine mv_iload_n dX11_table_0 rfl ?_
  refine mv_cS1 dX11_table_1 lk_X11_table_186 (Nat.le_of_ble_eq_true rfl) (Nat.le_of_ble_eq_true rfl) (k_X11_isKind (ev := ev)) ?_
  refine mv_if_ne (tgt := 11) dX11_table_4 (by decide) (fun c4 => ?_) (fun c4 => ?_)
  · have c4 : nI 0 ≤ k ∧ k ≤ nI 7 := Classical.byContradiction (fun z => c4 ((mv_b_0 _).mpr z))
    exact absurd (by assumption) hno
  · have c4 : ¬ (nI 0 ≤ k ∧ k ≤ nI 7) := (mv_b_0 _).mp c4
    refine mv_sipush (v := (-1001)) dX11_table_7 (by decide) ?_
    exact mv_iret dX11_table_10 rfl rfl ⟨rfl, rfl⟩
set_option maxRecDepth 100000 in
theorem k_X11_table_R2 {ev : mv_E} {h : mv_H} {k : Nat} {w : Int32} {m : Int32} {x : Int32} {i : Int32}  (hk : k < 8) (hno : ¬ ((nI 1 ≤ w ∧ w ≤ nI 60) ∧ (nI 0 ≤ m ∧ m ≤ nI 7) ∧ (nI 1 ≤ x ∧ x ≤ nI 9) ∧ (nI 0 ≤ i ∧ i ≤ nI 4))) : mv_K ev mX11_table [.ref 0, .int (nI k), .int w, .int m, .int x, .int i] h (some (.int (-1002))) h := by
  refine mv_Kof ?_
  show mv_g ev mX11_table 0 [.ref 0, .int (nI k), .int w, .int m, .int x, .int i] [] h _
  refine mv_iload_n dX11_table_0 rfl ?_
  refine mv_cS1 dX11_table_1 lk_X11_table_186 (Nat.le_of_ble_eq_true rfl) (Nat.le_of_ble_eq_true rfl) (k_X11_isKind (ev := ev)) ?_
  refine mv_if_ne (tgt := 11) dX11_table_4 (by decide) (fun c4 => ?_) (fun z => absurd z ((fun z => (mv_b_0 _).mp z (mv_in_i (by omega) (by omega) (by omega)))))
  refine mv_iload_n dX11_table_11 rfl ?_
  refine mv_cS1 dX11_table_12 lk_X11_table_234 (Nat.le_of_ble_eq_true rfl) (Nat.le_of_ble_eq_true rfl) (k_X11_isWindow (ev := ev)) ?_
  refine mv_if_eq (tgt := 43) dX11_table_15 (by decide) (fun c15 => ?_) (fun c15 => ?_)
  · have c15 : ¬ (nI 1 ≤ w ∧ w ≤ nI 60) := (mv_b_0 _).mp c15
    refine mv_sipush (v := (-1002)) dX11_table_43 (by decide) ?_
    exact mv_iret dX11_table_46 rfl rfl ⟨rfl, rfl⟩
  · have c15 : nI 1 ≤ w ∧ w ≤ nI 60 := Classical.byContradiction (fun z => c15 ((mv_b_0 _).mpr z))
    refine mv_iload_n dX11_table_18 rfl ?_
    refine mv_cS1 dX11_table_19 lk_X11_table_123 (Nat.le_of_ble_eq_true rfl) (Nat.le_of_ble_eq_true rfl) (k_X11_isDistance (ev := ev)) ?_
    refine mv_if_eq (tgt := 43) dX11_table_22 (by decide) (fun c22 => ?_) (fun c22 => ?_)
    · have c22 : ¬ (nI 0 ≤ m ∧ m ≤ nI 7) := (mv_b_0 _).mp c22
      refine mv_sipush (v := (-1002)) dX11_table_43 (by decide) ?_
      exact mv_iret dX11_table_46 rfl rfl ⟨rfl, rfl⟩
    · have c22 : nI 0 ≤ m ∧ m ≤ nI 7 := Classical.byContradiction (fun z => c22 ((mv_b_0 _).mpr z))
      refine mv_iload dX11_table_25 rfl ?_
      refine mv_cS1 dX11_table_27 lk_X11_table_130 (Nat.le_of_ble_eq_true rfl) (Nat.le_of_ble_eq_true rfl) (k_X11_isSize (ev := ev)) ?_
      refine mv_if_eq (tgt := 43) dX11_table_30 (by decide) (fun c30 => ?_) (fun c30 => ?_)
      · have c30 : ¬ (nI 1 ≤ x ∧ x ≤ nI 9) := (mv_b_0 _).mp c30
        refine mv_sipush (v := (-1002)) dX11_table_43 (by decide) ?_
        exact mv_iret dX11_table_46 rfl rfl ⟨rfl, rfl⟩
      · have c30 : nI 1 ≤ x ∧ x ≤ nI 9 := Classical.byContradiction (fun z => c30 ((mv_b_0 _).mpr z))
        refine mv_iload dX11_table_33 rfl ?_
        refine mv_iconst (v := nI 0) dX11_table_35 (by decide) ?_
        refine mv_iconst (v := nI 4) dX11_table_36 (by decide) ?_
        refine mv_cS3 dX11_table_37 lk_X11_table_96 (Nat.le_of_ble_eq_true rfl) (Nat.le_of_ble_eq_true rfl) (k_X11_within (ev := ev)) ?_
        refine mv_if_ne (tgt := 47) dX11_table_40 (by decide) (fun c40 => ?_) (fun c40 => ?_)
        · have c40 : (nI 0) ≤ i ∧ i ≤ (nI 4) := Classical.byContradiction (fun z => c40 ((mv_b_0 _).mpr z))
          exact absurd (by refine ⟨?_, ?_, ?_, ?_⟩ <;> assumption) hno
        · have c40 : ¬ ((nI 0) ≤ i ∧ i ≤ (nI 4)) := (mv_b_0 _).mp c40
          refine mv_sipush (v := (-1002)) dX11_table_43 (by decide) ?_
          exact mv_iret dX11_table_46 rfl rfl ⟨rfl, rfl⟩
set_option maxRecDepth 100000 in
theorem k_X11_table_R3 {ev : mv_E} {h : mv_H} {s : q_S} {wa : Nat → Nat} {cf : Nat → Int32} {ct : Nat → Int32} {rc : Nat} {k : Nat} {w : Nat} {m : Nat} {x : Nat} {i : Nat} (H0 : h[0]? = some (.inr (11, [.ref 1, .ref 3, .ref 7, .ref 11, .ref 21, .ref 22, .ref 32, .ref 34, .ref 42, .ref 45, .ref 48]))) (HS : h[22]? = some (.inr (7, [.ref 1, .ref 23, .ref 24, .ref 25, .ref 26, .int (nI s.1), .ref 27, .ref 28, .ref 29, .ref 30, .int (nI rc), .ref 31]))) (S28 : h[28]? = some (.inl (0, 8, .inl cf))) (S29 : h[29]? = some (.inl (0, 8, .inl ct))) (hk : k < 8) (hw1 : 1 ≤ w) (hw6 : w ≤ 60) (hm0 : m < 8) (hz1 : 1 ≤ x) (hz9 : x ≤ 9) (hi : i ≤ 4) (hwi : q_WI wa cf ct) (hno : ¬ (w < q_cd cf ct k)) : mv_K ev mX11_table [.ref 0, .int (nI k), .int (nI w), .int (nI m), .int (nI x), .int (nI i)] h (some (.int (-1003))) h := by
  refine mv_Kof ?_
  show mv_g ev mX11_table 0 [.ref 0, .int (nI k), .int (nI w), .int (nI m), .int (nI x), .int (nI i)] [] h _
  have n1 := q_cd_le hwi k
  refine mv_iload_n dX11_table_0 rfl ?_
  refine mv_cS1 dX11_table_1 lk_X11_table_186 (Nat.le_of_ble_eq_true rfl) (Nat.le_of_ble_eq_true rfl) (k_X11_isKind (ev := ev)) ?_
  refine mv_if_ne (tgt := 11) dX11_table_4 (by decide) (fun c4 => ?_) (fun z => absurd z ((fun z => (mv_b_0 _).mp z (mv_in_i (by omega) (by omega) (by omega)))))
  refine mv_iload_n dX11_table_11 rfl ?_
  refine mv_cS1 dX11_table_12 lk_X11_table_234 (Nat.le_of_ble_eq_true rfl) (Nat.le_of_ble_eq_true rfl) (k_X11_isWindow (ev := ev)) ?_
  refine mv_if_eq (tgt := 43) dX11_table_15 (by decide) (fun z => absurd z ((fun z => (mv_b_0 _).mp z (mv_in_i (by omega) (by omega) (by omega))))) (fun c15 => ?_)
  refine mv_iload_n dX11_table_18 rfl ?_
  refine mv_cS1 dX11_table_19 lk_X11_table_123 (Nat.le_of_ble_eq_true rfl) (Nat.le_of_ble_eq_true rfl) (k_X11_isDistance (ev := ev)) ?_
  refine mv_if_eq (tgt := 43) dX11_table_22 (by decide) (fun z => absurd z ((fun z => (mv_b_0 _).mp z (mv_in_i (by omega) (by omega) (by omega))))) (fun c22 => ?_)
  refine mv_iload dX11_table_25 rfl ?_
  refine mv_cS1 dX11_table_27 lk_X11_table_130 (Nat.le_of_ble_eq_true rfl) (Nat.le_of_ble_eq_true rfl) (k_X11_isSize (ev := ev)) ?_
  refine mv_if_eq (tgt := 43) dX11_table_30 (by decide) (fun z => absurd z ((fun z => (mv_b_0 _).mp z (mv_in_i (by omega) (by omega) (by omega))))) (fun c30 => ?_)
  refine mv_iload dX11_table_33 rfl ?_
  refine mv_iconst (v := nI 0) dX11_table_35 (by decide) ?_
  refine mv_iconst (v := nI 4) dX11_table_36 (by decide) ?_
  refine mv_cS3 dX11_table_37 lk_X11_table_96 (Nat.le_of_ble_eq_true rfl) (Nat.le_of_ble_eq_true rfl) (k_X11_within (ev := ev)) ?_
  refine mv_if_ne (tgt := 47) dX11_table_40 (by decide) (fun c40 => ?_) (fun z => absurd z ((fun z => (mv_b_0 _).mp z (mv_in_i (by omega) (by omega) (by omega)))))
  refine mv_aload_n dX11_table_47 rfl ?_
  refine mv_getf (ci := 11) (f := 5) dX11_table_48 H0 rfl (by decide) wd_381 rfl ?_
  refine mv_iload_n dX11_table_51 rfl ?_
  refine mv_cV1 (ci := 7) dX11_table_52 lk_X11_table_219 HS rfl (Nat.le_of_ble_eq_true rfl) (Nat.le_of_ble_eq_true rfl) (k_X7_countedDays (ev := ev) HS S28 S29 hk hwi) ?_
  refine mv_iload_n dX11_table_55 rfl ?_
  refine mv_icmp_gt (tgt := 63) dX11_table_56 (by decide) (fun c56 => ?_) (fun c56 => ?_)
  · have c56 : w < q_cd cf ct k := (nI_ltI (by omega) (by omega)).mp c56
    exact absurd c56 hno
  · have c56 : ¬ (w < q_cd cf ct k) := fun z => c56 ((nI_ltI (by omega) (by omega)).mpr z)
    refine mv_sipush (v := (-1003)) dX11_table_59 (by decide) ?_
    exact mv_iret dX11_table_62 rfl rfl ⟨rfl, rfl⟩
theorem q_cd_ac {wa : Nat → Nat} {cf ct : Nat → Int32} (h : q_WI wa cf ct) {k w : Nat} (hk : w < q_cd cf ct k) : ∃ a c : Nat, cf k = nI a ∧ ct k = nI c ∧ c ≤ 399 ∧ a + w ≤ c ∧ a ≤ 399 := by
  by_cases e : cf k = -1
  · rw [q_cd_0 e] at hk
    exact absurd hk (Nat.not_lt_zero _)
  · obtain ⟨a, c, h1, h2, h3, h4⟩ := q_WI_c h e
    unfold q_cd at hk
    rw [if_neg e, h3, h4, nI_toInt (by omega), nI_toInt (by omega)] at hk
    exact ⟨a, c, h3, h4, h2, by omega, by omega⟩
theorem q_pt_le {u v n : Nat} {t : q_4} (hu : u ≤ 1) (hv : v ≤ 1) (h : t.1 ≤ n ∧ t.2.1 ≤ n ∧ t.2.2.1 ≤ n ∧ t.2.2.2 ≤ n) : (q_pt u v t).1 ≤ n + 1 ∧ (q_pt u v t).2.1 ≤ n + 1 ∧ (q_pt u v t).2.2.1 ≤ n + 1 ∧ (q_pt u v t).2.2.2 ≤ n + 1 := by
  have e : (u = 0 ∨ u = 1) ∧ (v = 0 ∨ v = 1) := by omega
  obtain ⟨h1, h2, h3, h4⟩ := h
  unfold q_pt
  rcases e with ⟨rfl | rfl, rfl | rfl⟩
  · exact ⟨by show t.1 + 0 * 0 ≤ _; omega, by show t.2.1 + 0 * 1 ≤ _; omega, by show t.2.2.1 + 1 * 0 ≤ _; omega, by show t.2.2.2 + 1 * 1 ≤ _; omega⟩
  · exact ⟨by show t.1 + 0 * 1 ≤ _; omega, by show t.2.1 + 0 * 0 ≤ _; omega, by show t.2.2.1 + 1 * 1 ≤ _; omega, by show t.2.2.2 + 1 * 0 ≤ _; omega⟩
  · exact ⟨by show t.1 + 1 * 0 ≤ _; omega, by show t.2.1 + 1 * 1 ≤ _; omega, by show t.2.2.1 + 0 * 0 ≤ _; omega, by show t.2.2.2 + 0 * 1 ≤ _; omega⟩
  · exact ⟨by show t.1 + 1 * 1 ≤ _; omega, by show t.2.1 + 1 * 0 ≤ _; omega, by show t.2.2.1 + 0 * 1 ≤ _; omega, by show t.2.2.2 + 0 * 0 ≤ _; omega⟩
theorem q_tb_le {ok hs : Nat → Nat} {k a : Nat} (hh : ∀ i, hs i ≤ 1) (n : Nat) : (q_tb ok hs k a n).1 ≤ n ∧ (q_tb ok hs k a n).2.1 ≤ n ∧ (q_tb ok hs k a n).2.2.1 ≤ n ∧ (q_tb ok hs k a n).2.2.2 ≤ n := by
  induction n with
  | zero => exact ⟨Nat.le_refl _, Nat.le_refl _, Nat.le_refl _, Nat.le_refl _⟩
  | succ n ih => exact q_pt_le (Nat.le_of_lt_succ (q_bt_lt _ _)) (hh _) ih
def q_wo (t : q_4) : Int32 := nI (q_th t.1 (t.1 + t.2.1)) - nI (q_th t.2.2.1 (t.2.2.1 + t.2.2.2))
set_option maxRecDepth 100000 in
theorem k_X11_table_G4 {ev : mv_E} {h : mv_H} {s : q_S} {wa : Nat → Nat} {cf : Nat → Int32} {ct : Nat → Int32} {rr : Nat → Nat} {rc : Nat} {ok : Nat → Nat} {lw : Nat → Int32} {ln : Nat → Nat} {b : t_B} {t : Nat} {hs : Nat → Nat} {t4 : q_4} {k : Nat} {w : Nat} {m : Nat} {x : Nat} {a1 : Nat} {c1 : Nat} {dd : Nat} (H0 : h[0]? = some (.inr (11, [.ref 1, .ref 3, .ref 7, .ref 11, .ref 21, .ref 22, .ref 32, .ref 34, .ref 42, .ref 45, .ref 48]))) (HL : h[1]? = some (.inr (5, [.ref 2]))) (HV : h[2]? = some (.inl (0, 8, .inl lw))) (HS : h[22]? = some (.inr (7, [.ref 1, .ref 23, .ref 24, .ref 25, .ref 26, .int (nI s.1), .ref 27, .ref 28, .ref 29, .ref 30, .int (nI rc), .ref 31]))) (S23 : h[23]? = some (.inl (0, 100, .inl (fun j => nI (s.2.1 j))))) (S24 : h[24]? = some (.inl (0, 100, .inl (fun j => nI (s.2.2.1 j))))) (S25 : h[25]? = some (.inl (0, 100, .inl (fun j => nI (s.2.2.2.1 j))))) (S26 : h[26]? = some (.inl (0, 100, .inl (fun j => nI (s.2.2.2.2 j))))) (S27 : h[27]? = some (.inl (0, 8, .inl (fun j => nI (wa j))))) (S28 : h[28]? = some (.inl (0, 8, .inl cf))) (S29 : h[29]? = some (.inl (0, 8, .inl ct))) (S30 : h[30]? = some (.inl (2, 400, .inl (fun j => nI (rr j))))) (S31 : h[31]? = some (.inl (0, 400, .inl (fun j => nI (ok j))))) (HB : h[7]? = some (.inr (0, [.ref 8, .ref 9, .ref 10, .int (nI b.1), .int (nI t), .int (nI b.2.1)]))) (H8 : h[8]? = some (.inl (0, 60, .inl (fun j => nI (b.2.2.1 j))))) (H9 : h[9]? = some (.inl (0, 60, .inl (fun j => nI (b.2.2.2.1 j))))) (H10 : h[10]? = some (.inl (0, 60, .inl (fun j => nI (b.2.2.2.2 j))))) (HT : h[32]? = some (.inr (8, [.ref 22, .ref 7, .ref 33, .int (nI t4.1), .int (nI t4.2.1), .int (nI t4.2.2.1), .int (nI t4.2.2.2)]))) (T33 : h[33]? = some (.inl (2, 400, .inl (fun j => nI (hs j))))) (hw : q_LW lw ln) (hsi : q_SI s) (hr : ∀ d, rr d ≤ 1) (hwi : q_WI wa cf ct) (hok : ∀ d, ok d < 256) (hk : k < 8) (hw1 : 1 ≤ w) (hw6 : w ≤ 60) (hm0 : m < 8) (hz1 : 1 ≤ x) (hz9 : x ≤ 9) (hh : ∀ i, hs i ≤ 1) (hb : q_BI dd b) (hcw : w < q_cd cf ct k) (e1 : cf k = nI a1) (f1 : ct k = nI c1) (hc1 : c1 ≤ 399) (hac : a1 + w ≤ c1) : ∃ h2, mv_K ev mX11_table [.ref 0, .int (nI k), .int (nI w), .int (nI m), .int (nI x), .int (nI 4)] h (some (.int (q_wo (q_tb (q_oks lw ln s wa cf ct rr ok) (q_fm b (wa k) m x w (q_z hs 400) b.1) k a1 (c1 - w + 1 - a1))))) h2 ∧ mv_fra [31, 32, 33] h h2 ∧ h2[31]? = some (.inl (0, 400, .inl (fun j => nI ((q_oks lw ln s wa cf ct rr ok) j)))) ∧ h2[32]? = some (.inr (8, [.ref 22, .ref 7, .ref 33, .int (nI (q_tb (q_oks lw ln s wa cf ct rr ok) (q_fm b (wa k) m x w (q_z hs 400) b.1) k a1 (c1 - w + 1 - a1)).1), .int (nI (q_tb (q_oks lw ln s wa cf ct rr ok) (q_fm b (wa k) m x w (q_z hs 400) b.1) k a1 (c1 - w + 1 - a1)).2.1), .int (nI (q_tb (q_oks lw ln s wa cf ct rr ok) (q_fm b (wa k) m x w (q_z hs 400) b.1) k a1 (c1 - w + 1 - a1)).2.2.1), .int (nI (q_tb (q_oks lw ln s wa cf ct rr ok) (q_fm b (wa k) m x w (q_z hs 400) b.1) k a1 (c1 - w + 1 - a1)).2.2.2)])) ∧ h2[33]? = some (.inl (2, 400, .inl (fun j => nI ((q_fm b (wa k) m x w (q_z hs 400) b.1) j)))) := by
  suffices g0 : mv_g ev mX11_table 0 (mv_ent [.ref 0, .int (nI k), .int (nI w), .int (nI m), .int (nI x), .int (nI 4)] (mv_ml mX11_table)) [] h (fun r g => r = some (.int (q_wo (q_tb (q_oks lw ln s wa cf ct rr ok) (q_fm b (wa k) m x w (q_z hs 400) b.1) k a1 (c1 - w + 1 - a1)))) ∧ mv_fra [31, 32, 33] h g ∧ g[31]? = some (.inl (0, 400, .inl (fun j => nI ((q_oks lw ln s wa cf ct rr ok) j)))) ∧ g[32]? = some (.inr (8, [.ref 22, .ref 7, .ref 33, .int (nI (q_tb (q_oks lw ln s wa cf ct rr ok) (q_fm b (wa k) m x w (q_z hs 400) b.1) k a1 (c1 - w + 1 - a1)).1), .int (nI (q_tb (q_oks lw ln s wa cf ct rr ok) (q_fm b (wa k) m x w (q_z hs 400) b.1) k a1 (c1 - w + 1 - a1)).2.1), .int (nI (q_tb (q_oks lw ln s wa cf ct rr ok) (q_fm b (wa k) m x w (q_z hs 400) b.1) k a1 (c1 - w + 1 - a1)).2.2.1), .int (nI (q_tb (q_oks lw ln s wa cf ct rr ok) (q_fm b (wa k) m x w (q_z hs 400) b.1) k a1 (c1 - w + 1 - a1)).2.2.2)])) ∧ g[33]? = some (.inl (2, 400, .inl (fun j => nI ((q_fm b (wa k) m x w (q_z hs 400) b.1) j))))) from (by obtain ⟨r0, h0, K0, q0, Q0⟩ := mv_Kex g0; subst q0; exact ⟨h0, K0, Q0⟩)
  show mv_g ev mX11_table 0 [.ref 0, .int (nI k), .int (nI w), .int (nI m), .int (nI x), .int (nI 4)] [] h _
  have fr : mv_fra [31, 32, 33] h h := mv_fra.rf
  have n1 := q_cd_le hwi k
  have nh : ∀ i, (q_fm b (wa k) m x w (q_z hs 400) b.1) i ≤ 1 := q_fm_le (q_z_l1 hh 400) b.1
  have n2 := q_tb_le (ok := (q_oks lw ln s wa cf ct rr ok)) (hs := (q_fm b (wa k) m x w (q_z hs 400) b.1)) (k := k) (a := a1) nh (c1 - w + 1 - a1)
  refine mv_iload_n dX11_table_0 rfl ?_
  refine mv_cS1 dX11_table_1 lk_X11_table_186 (Nat.le_of_ble_eq_true rfl) (Nat.le_of_ble_eq_true rfl) (k_X11_isKind (ev := ev)) ?_
  refine mv_if_ne (tgt := 11) dX11_table_4 (by decide) (fun c4 => ?_) (fun z => absurd z ((fun z => (mv_b_0 _).mp z (mv_in_i (by omega) (by omega) (by omega)))))
  refine mv_iload_n dX11_table_11 rfl ?_
  refine mv_cS1 dX11_table_12 lk_X11_table_234 (Nat.le_of_ble_eq_true rfl) (Nat.le_of_ble_eq_true rfl) (k_X11_isWindow (ev := ev)) ?_
  refine mv_if_eq (tgt := 43) dX11_table_15 (by decide) (fun z => absurd z ((fun z => (mv_b_0 _).mp z (mv_in_i (by omega) (by omega) (by omega))))) (fun c15 => ?_)
  refine mv_iload_n dX11_table_18 rfl ?_
  refine mv_cS1 dX11_table_19 lk_X11_table_123 (Nat.le_of_ble_eq_true rfl) (Nat.le_of_ble_eq_true rfl) (k_X11_isDistance (ev := ev)) ?_
  refine mv_if_eq (tgt := 43) dX11_table_22 (by decide) (fun z => absurd z ((fun z => (mv_b_0 _).mp z (mv_in_i (by omega) (by omega) (by omega))))) (fun c22 => ?_)
  refine mv_iload dX11_table_25 rfl ?_
  refine mv_cS1 dX11_table_27 lk_X11_table_130 (Nat.le_of_ble_eq_true rfl) (Nat.le_of_ble_eq_true rfl) (k_X11_isSize (ev := ev)) ?_
  refine mv_if_eq (tgt := 43) dX11_table_30 (by decide) (fun z => absurd z ((fun z => (mv_b_0 _).mp z (mv_in_i (by omega) (by omega) (by omega))))) (fun c30 => ?_)
  refine mv_iload dX11_table_33 rfl ?_
  refine mv_iconst (v := nI 0) dX11_table_35 (by decide) ?_
  refine mv_iconst (v := nI 4) dX11_table_36 (by decide) ?_
  refine mv_cS3 dX11_table_37 lk_X11_table_96 (Nat.le_of_ble_eq_true rfl) (Nat.le_of_ble_eq_true rfl) (k_X11_within (ev := ev)) ?_
  refine mv_if_ne (tgt := 47) dX11_table_40 (by decide) (fun c40 => ?_) (fun z => absurd z ((fun z => (mv_b_0 _).mp z (mv_in_i (by omega) (by omega) (by omega)))))
  refine mv_aload_n dX11_table_47 rfl ?_
  refine mv_getf (ci := 11) (f := 5) dX11_table_48 H0 rfl (by decide) wd_381 rfl ?_
  refine mv_iload_n dX11_table_51 rfl ?_
  refine mv_cV1 (ci := 7) dX11_table_52 lk_X11_table_219 HS rfl (Nat.le_of_ble_eq_true rfl) (Nat.le_of_ble_eq_true rfl) (k_X7_countedDays (ev := ev) HS S28 S29 hk hwi) ?_
  refine mv_iload_n dX11_table_55 rfl ?_
  refine mv_icmp_gt (tgt := 63) dX11_table_56 (by decide) (fun c56 => ?_) (fun z => absurd (((nI_ltI (by omega) (by omega)).mpr hcw)) z)
  refine mv_aload_n dX11_table_63 rfl ?_
  refine mv_getf (ci := 11) (f := 6) dX11_table_64 H0 rfl (by decide) wd_382 rfl ?_
  refine mv_iload_n dX11_table_67 rfl ?_
  refine mv_iload_n dX11_table_68 rfl ?_
  refine mv_iload_n dX11_table_69 rfl ?_
  refine mv_iload dX11_table_70 rfl ?_
  obtain ⟨h1, K2, f3, y4, y5, y6⟩ := (k_X8_fill (ev := ev) (s := s) (wa := wa) (cf := cf) (ct := ct) (rr := rr) (rc := rc) (ok := ok) (lw := lw) (ln := ln) (b := b) (t := t) (hs := hs) (t4 := t4) (k := k) (w := w) (m := m) (z := x) (a1 := a1) (c1 := c1) (dd := dd) HL HV HS S23 S24 S25 S26 S27 S28 S29 S30 S31 HB H8 H9 H10 HT T33 hw hsi hr hwi hok hh hb hk hm0 hz9 (by omega) e1 f1 hc1 hac)
  refine mv_cV4 (ci := 8) dX11_table_72 lk_X11_table_250 HT rfl (Nat.le_of_ble_eq_true rfl) (Nat.le_of_ble_eq_true rfl) K2 ?_
  have H0 := f3.get (by decide) H0
  have HL := f3.get (by decide) HL
  have HV := f3.get (by decide) HV
  have HS := f3.get (by decide) HS
  have S23 := f3.get (by decide) S23
  have S24 := f3.get (by decide) S24
  have S25 := f3.get (by decide) S25
  have S26 := f3.get (by decide) S26
  have S27 := f3.get (by decide) S27
  have S28 := f3.get (by decide) S28
  have S29 := f3.get (by decide) S29
  have S30 := f3.get (by decide) S30
  have S31 : h1[31]? = some (.inl (0, 400, .inl (fun j => nI ((q_oks lw ln s wa cf ct rr ok) j)))) := y4
  have HB := f3.get (by decide) HB
  have H8 := f3.get (by decide) H8
  have H9 := f3.get (by decide) H9
  have H10 := f3.get (by decide) H10
  have HT : h1[32]? = some (.inr (8, [.ref 22, .ref 7, .ref 33, .int (nI (q_tb (q_oks lw ln s wa cf ct rr ok) (q_fm b (wa k) m x w (q_z hs 400) b.1) k a1 (c1 - w + 1 - a1)).1), .int (nI (q_tb (q_oks lw ln s wa cf ct rr ok) (q_fm b (wa k) m x w (q_z hs 400) b.1) k a1 (c1 - w + 1 - a1)).2.1), .int (nI (q_tb (q_oks lw ln s wa cf ct rr ok) (q_fm b (wa k) m x w (q_z hs 400) b.1) k a1 (c1 - w + 1 - a1)).2.2.1), .int (nI (q_tb (q_oks lw ln s wa cf ct rr ok) (q_fm b (wa k) m x w (q_z hs 400) b.1) k a1 (c1 - w + 1 - a1)).2.2.2)])) := y5
  have T33 : h1[33]? = some (.inl (2, 400, .inl (fun j => nI ((q_fm b (wa k) m x w (q_z hs 400) b.1) j)))) := y6
  have fr := fr.trans f3 (by decide)
  refine mv_iload dX11_table_75 rfl ?_
  refine mv_iconst (v := nI 4) dX11_table_77 (by decide) ?_
  refine mv_icmp_ne (tgt := 91) dX11_table_78 (by decide) (fun z => absurd ((by decide)) z) (fun c78 => ?_)
  refine mv_aload_n dX11_table_81 rfl ?_
  refine mv_getf (ci := 11) (f := 6) dX11_table_82 H0 rfl (by decide) wd_382 rfl ?_
  refine mv_cV0 (ci := 8) dX11_table_85 lk_X11_table_254 HT rfl (Nat.le_of_ble_eq_true rfl) (Nat.le_of_ble_eq_true rfl) (k_X8_worth (ev := ev) HT (by omega) (by omega) (by omega) (by omega)) ?_
  refine mv_goto (tgt := 100) dX11_table_88 (by decide) ?_
  exact mv_iret dX11_table_100 rfl rfl ⟨rfl, fr, S31, HT, T33⟩
set_option maxRecDepth 100000 in
theorem k_X11_table_G {ev : mv_E} {h : mv_H} {s : q_S} {wa : Nat → Nat} {cf : Nat → Int32} {ct : Nat → Int32} {rr : Nat → Nat} {rc : Nat} {ok : Nat → Nat} {lw : Nat → Int32} {ln : Nat → Nat} {b : t_B} {t : Nat} {hs : Nat → Nat} {t4 : q_4} {k : Nat} {w : Nat} {m : Nat} {x : Nat} {i : Nat} {a1 : Nat} {c1 : Nat} {dd : Nat} (H0 : h[0]? = some (.inr (11, [.ref 1, .ref 3, .ref 7, .ref 11, .ref 21, .ref 22, .ref 32, .ref 34, .ref 42, .ref 45, .ref 48]))) (HL : h[1]? = some (.inr (5, [.ref 2]))) (HV : h[2]? = some (.inl (0, 8, .inl lw))) (HS : h[22]? = some (.inr (7, [.ref 1, .ref 23, .ref 24, .ref 25, .ref 26, .int (nI s.1), .ref 27, .ref 28, .ref 29, .ref 30, .int (nI rc), .ref 31]))) (S23 : h[23]? = some (.inl (0, 100, .inl (fun j => nI (s.2.1 j))))) (S24 : h[24]? = some (.inl (0, 100, .inl (fun j => nI (s.2.2.1 j))))) (S25 : h[25]? = some (.inl (0, 100, .inl (fun j => nI (s.2.2.2.1 j))))) (S26 : h[26]? = some (.inl (0, 100, .inl (fun j => nI (s.2.2.2.2 j))))) (S27 : h[27]? = some (.inl (0, 8, .inl (fun j => nI (wa j))))) (S28 : h[28]? = some (.inl (0, 8, .inl cf))) (S29 : h[29]? = some (.inl (0, 8, .inl ct))) (S30 : h[30]? = some (.inl (2, 400, .inl (fun j => nI (rr j))))) (S31 : h[31]? = some (.inl (0, 400, .inl (fun j => nI (ok j))))) (HB : h[7]? = some (.inr (0, [.ref 8, .ref 9, .ref 10, .int (nI b.1), .int (nI t), .int (nI b.2.1)]))) (H8 : h[8]? = some (.inl (0, 60, .inl (fun j => nI (b.2.2.1 j))))) (H9 : h[9]? = some (.inl (0, 60, .inl (fun j => nI (b.2.2.2.1 j))))) (H10 : h[10]? = some (.inl (0, 60, .inl (fun j => nI (b.2.2.2.2 j))))) (HT : h[32]? = some (.inr (8, [.ref 22, .ref 7, .ref 33, .int (nI t4.1), .int (nI t4.2.1), .int (nI t4.2.2.1), .int (nI t4.2.2.2)]))) (T33 : h[33]? = some (.inl (2, 400, .inl (fun j => nI (hs j))))) (hw : q_LW lw ln) (hsi : q_SI s) (hr : ∀ d, rr d ≤ 1) (hwi : q_WI wa cf ct) (hok : ∀ d, ok d < 256) (hk : k < 8) (hw1 : 1 ≤ w) (hw6 : w ≤ 60) (hm0 : m < 8) (hz1 : 1 ≤ x) (hz9 : x ≤ 9) (hh : ∀ i, hs i ≤ 1) (hb : q_BI dd b) (hcw : w < q_cd cf ct k) (e1 : cf k = nI a1) (f1 : ct k = nI c1) (hc1 : c1 ≤ 399) (hac : a1 + w ≤ c1) (hi : i ≤ 3) : ∃ h2, mv_K ev mX11_table [.ref 0, .int (nI k), .int (nI w), .int (nI m), .int (nI x), .int (nI i)] h (some (.int (nI (q_nb (q_tb (q_oks lw ln s wa cf ct rr ok) (q_fm b (wa k) m x w (q_z hs 400) b.1) k a1 (c1 - w + 1 - a1)) i)))) h2 ∧ mv_fra [31, 32, 33] h h2 ∧ h2[31]? = some (.inl (0, 400, .inl (fun j => nI ((q_oks lw ln s wa cf ct rr ok) j)))) ∧ h2[32]? = some (.inr (8, [.ref 22, .ref 7, .ref 33, .int (nI (q_tb (q_oks lw ln s wa cf ct rr ok) (q_fm b (wa k) m x w (q_z hs 400) b.1) k a1 (c1 - w + 1 - a1)).1), .int (nI (q_tb (q_oks lw ln s wa cf ct rr ok) (q_fm b (wa k) m x w (q_z hs 400) b.1) k a1 (c1 - w + 1 - a1)).2.1), .int (nI (q_tb (q_oks lw ln s wa cf ct rr ok) (q_fm b (wa k) m x w (q_z hs 400) b.1) k a1 (c1 - w + 1 - a1)).2.2.1), .int (nI (q_tb (q_oks lw ln s wa cf ct rr ok) (q_fm b (wa k) m x w (q_z hs 400) b.1) k a1 (c1 - w + 1 - a1)).2.2.2)])) ∧ h2[33]? = some (.inl (2, 400, .inl (fun j => nI ((q_fm b (wa k) m x w (q_z hs 400) b.1) j)))) := by
  suffices g0 : mv_g ev mX11_table 0 (mv_ent [.ref 0, .int (nI k), .int (nI w), .int (nI m), .int (nI x), .int (nI i)] (mv_ml mX11_table)) [] h (fun r g => r = some (.int (nI (q_nb (q_tb (q_oks lw ln s wa cf ct rr ok) (q_fm b (wa k) m x w (q_z hs 400) b.1) k a1 (c1 - w + 1 - a1)) i))) ∧ mv_fra [31, 32, 33] h g ∧ g[31]? = some (.inl (0, 400, .inl (fun j => nI ((q_oks lw ln s wa cf ct rr ok) j)))) ∧ g[32]? = some (.inr (8, [.ref 22, .ref 7, .ref 33, .int (nI (q_tb (q_oks lw ln s wa cf ct rr ok) (q_fm b (wa k) m x w (q_z hs 400) b.1) k a1 (c1 - w + 1 - a1)).1), .int (nI (q_tb (q_oks lw ln s wa cf ct rr ok) (q_fm b (wa k) m x w (q_z hs 400) b.1) k a1 (c1 - w + 1 - a1)).2.1), .int (nI (q_tb (q_oks lw ln s wa cf ct rr ok) (q_fm b (wa k) m x w (q_z hs 400) b.1) k a1 (c1 - w + 1 - a1)).2.2.1), .int (nI (q_tb (q_oks lw ln s wa cf ct rr ok) (q_fm b (wa k) m x w (q_z hs 400) b.1) k a1 (c1 - w + 1 - a1)).2.2.2)])) ∧ g[33]? = some (.inl (2, 400, .inl (fun j => nI ((q_fm b (wa k) m x w (q_z hs 400) b.1) j))))) from (by obtain ⟨r0, h0, K0, q0, Q0⟩ := mv_Kex g0; subst q0; exact ⟨h0, K0, Q0⟩)
  show mv_g ev mX11_table 0 [.ref 0, .int (nI k), .int (nI w), .int (nI m), .int (nI x), .int (nI i)] [] h _
  have fr : mv_fra [31, 32, 33] h h := mv_fra.rf
  have n1 := q_cd_le hwi k
  have nh : ∀ i, (q_fm b (wa k) m x w (q_z hs 400) b.1) i ≤ 1 := q_fm_le (q_z_l1 hh 400) b.1
  have n2 := q_tb_le (ok := (q_oks lw ln s wa cf ct rr ok)) (hs := (q_fm b (wa k) m x w (q_z hs 400) b.1)) (k := k) (a := a1) nh (c1 - w + 1 - a1)
  refine mv_iload_n dX11_table_0 rfl ?_
  refine mv_cS1 dX11_table_1 lk_X11_table_186 (Nat.le_of_ble_eq_true rfl) (Nat.le_of_ble_eq_true rfl) (k_X11_isKind (ev := ev)) ?_
  refine mv_if_ne (tgt := 11) dX11_table_4 (by decide) (fun c4 => ?_) (fun z => absurd z ((fun z => (mv_b_0 _).mp z (mv_in_i (by omega) (by omega) (by omega)))))
  refine mv_iload_n dX11_table_11 rfl ?_
  refine mv_cS1 dX11_table_12 lk_X11_table_234 (Nat.le_of_ble_eq_true rfl) (Nat.le_of_ble_eq_true rfl) (k_X11_isWindow (ev := ev)) ?_
  refine mv_if_eq (tgt := 43) dX11_table_15 (by decide) (fun z => absurd z ((fun z => (mv_b_0 _).mp z (mv_in_i (by omega) (by omega) (by omega))))) (fun c15 => ?_)
  refine mv_iload_n dX11_table_18 rfl ?_
  refine mv_cS1 dX11_table_19 lk_X11_table_123 (Nat.le_of_ble_eq_true rfl) (Nat.le_of_ble_eq_true rfl) (k_X11_isDistance (ev := ev)) ?_
  refine mv_if_eq (tgt := 43) dX11_table_22 (by decide) (fun z => absurd z ((fun z => (mv_b_0 _).mp z (mv_in_i (by omega) (by omega) (by omega))))) (fun c22 => ?_)
  refine mv_iload dX11_table_25 rfl ?_
  refine mv_cS1 dX11_table_27 lk_X11_table_130 (Nat.le_of_ble_eq_true rfl) (Nat.le_of_ble_eq_true rfl) (k_X11_isSize (ev := ev)) ?_
  refine mv_if_eq (tgt := 43) dX11_table_30 (by decide) (fun z => absurd z ((fun z => (mv_b_0 _).mp z (mv_in_i (by omega) (by omega) (by omega))))) (fun c30 => ?_)
  refine mv_iload dX11_table_33 rfl ?_
  refine mv_iconst (v := nI 0) dX11_table_35 (by decide) ?_
  refine mv_iconst (v := nI 4) dX11_table_36 (by decide) ?_
  refine mv_cS3 dX11_table_37 lk_X11_table_96 (Nat.le_of_ble_eq_true rfl) (Nat.le_of_ble_eq_true rfl) (k_X11_within (ev := ev)) ?_
  refine mv_if_ne (tgt := 47) dX11_table_40 (by decide) (fun c40 => ?_) (fun z => absurd z ((fun z => (mv_b_0 _).mp z (mv_in_i (by omega) (by omega) (by omega)))))
  refine mv_aload_n dX11_table_47 rfl ?_
  refine mv_getf (ci := 11) (f := 5) dX11_table_48 H0 rfl (by decide) wd_381 rfl ?_
  refine mv_iload_n dX11_table_51 rfl ?_
  refine mv_cV1 (ci := 7) dX11_table_52 lk_X11_table_219 HS rfl (Nat.le_of_ble_eq_true rfl) (Nat.le_of_ble_eq_true rfl) (k_X7_countedDays (ev := ev) HS S28 S29 hk hwi) ?_
  refine mv_iload_n dX11_table_55 rfl ?_
  refine mv_icmp_gt (tgt := 63) dX11_table_56 (by decide) (fun c56 => ?_) (fun z => absurd (((nI_ltI (by omega) (by omega)).mpr hcw)) z)
  refine mv_aload_n dX11_table_63 rfl ?_
  refine mv_getf (ci := 11) (f := 6) dX11_table_64 H0 rfl (by decide) wd_382 rfl ?_
  refine mv_iload_n dX11_table_67 rfl ?_
  refine mv_iload_n dX11_table_68 rfl ?_
  refine mv_iload_n dX11_table_69 rfl ?_
  refine mv_iload dX11_table_70 rfl ?_
  obtain ⟨h1, K2, f3, y4, y5, y6⟩ := (k_X8_fill (ev := ev) (s := s) (wa := wa) (cf := cf) (ct := ct) (rr := rr) (rc := rc) (ok := ok) (lw := lw) (ln := ln) (b := b) (t := t) (hs := hs) (t4 := t4) (k := k) (w := w) (m := m) (z := x) (a1 := a1) (c1 := c1) (dd := dd) HL HV HS S23 S24 S25 S26 S27 S28 S29 S30 S31 HB H8 H9 H10 HT T33 hw hsi hr hwi hok hh hb hk hm0 hz9 (by omega) e1 f1 hc1 hac)
  refine mv_cV4 (ci := 8) dX11_table_72 lk_X11_table_250 HT rfl (Nat.le_of_ble_eq_true rfl) (Nat.le_of_ble_eq_true rfl) K2 ?_
  have H0 := f3.get (by decide) H0
  have HL := f3.get (by decide) HL
  have HV := f3.get (by decide) HV
  have HS := f3.get (by decide) HS
  have S23 := f3.get (by decide) S23
  have S24 := f3.get (by decide) S24
  have S25 := f3.get (by decide) S25
  have S26 := f3.get (by decide) S26
  have S27 := f3.get (by decide) S27
  have S28 := f3.get (by decide) S28
  have S29 := f3.get (by decide) S29
  have S30 := f3.get (by decide) S30
  have S31 : h1[31]? = some (.inl (0, 400, .inl (fun j => nI ((q_oks lw ln s wa cf ct rr ok) j)))) := y4
  have HB := f3.get (by decide) HB
  have H8 := f3.get (by decide) H8
  have H9 := f3.get (by decide) H9
  have H10 := f3.get (by decide) H10
  have HT : h1[32]? = some (.inr (8, [.ref 22, .ref 7, .ref 33, .int (nI (q_tb (q_oks lw ln s wa cf ct rr ok) (q_fm b (wa k) m x w (q_z hs 400) b.1) k a1 (c1 - w + 1 - a1)).1), .int (nI (q_tb (q_oks lw ln s wa cf ct rr ok) (q_fm b (wa k) m x w (q_z hs 400) b.1) k a1 (c1 - w + 1 - a1)).2.1), .int (nI (q_tb (q_oks lw ln s wa cf ct rr ok) (q_fm b (wa k) m x w (q_z hs 400) b.1) k a1 (c1 - w + 1 - a1)).2.2.1), .int (nI (q_tb (q_oks lw ln s wa cf ct rr ok) (q_fm b (wa k) m x w (q_z hs 400) b.1) k a1 (c1 - w + 1 - a1)).2.2.2)])) := y5
  have T33 : h1[33]? = some (.inl (2, 400, .inl (fun j => nI ((q_fm b (wa k) m x w (q_z hs 400) b.1) j)))) := y6
  have fr := fr.trans f3 (by decide)
  refine mv_iload dX11_table_75 rfl ?_
  refine mv_iconst (v := nI 4) dX11_table_77 (by decide) ?_
  refine mv_icmp_ne (tgt := 91) dX11_table_78 (by decide) (fun c78 => ?_) (fun z => absurd z ((fun q => absurd ((nI_eq (by omega) (by omega)).mp q) (by omega))))
  refine mv_aload_n dX11_table_91 rfl ?_
  refine mv_getf (ci := 11) (f := 6) dX11_table_92 H0 rfl (by decide) wd_382 rfl ?_
  refine mv_iload dX11_table_95 rfl ?_
  refine mv_cV1 (ci := 8) dX11_table_97 lk_X11_table_257 HT rfl (Nat.le_of_ble_eq_true rfl) (Nat.le_of_ble_eq_true rfl) (k_X8_number (ev := ev) HT hi) ?_
  exact mv_iret dX11_table_100 rfl rfl ⟨rfl, fr, S31, HT, T33⟩
set_option maxRecDepth 100000 in
theorem k_X11_story_R1 {ev : mv_E} {h : mv_H} {k1 : Int32} {k2 : Int32} {w : Int32}  (hno : ¬ ((nI 0 ≤ k1 ∧ k1 ≤ nI 7) ∧ (nI 0 ≤ k2 ∧ k2 ≤ nI 7))) : mv_K ev mX11_story [.ref 0, .int k1, .int k2, .int w] h (some (.int (-1001))) h := by
  refine mv_Kof ?_
  show mv_g ev mX11_story 0 [.ref 0, .int k1, .int k2, .int w] [] h _
  refine mv_iload_n dX11_story_0 rfl ?_
  refine mv_cS1 dX11_story_1 lk_X11_story_186 (Nat.le_of_ble_eq_true rfl) (Nat.le_of_ble_eq_true rfl) (k_X11_isKind (ev := ev)) ?_
  refine mv_if_eq (tgt := 14) dX11_story_4 (by decide) (fun c4 => ?_) (fun c4 => ?_)
  · have c4 : ¬ (nI 0 ≤ k1 ∧ k1 ≤ nI 7) := (mv_b_0 _).mp c4
    refine mv_sipush (v := (-1001)) dX11_story_14 (by decide) ?_
    exact mv_iret dX11_story_17 rfl rfl ⟨rfl, rfl⟩
  · have c4 : nI 0 ≤ k1 ∧ k1 ≤ nI 7 := Classical.byContradiction (fun z => c4 ((mv_b_0 _).mpr z))
    refine mv_iload_n dX11_story_7 rfl ?_
    refine mv_cS1 dX11_story_8 lk_X11_story_186 (Nat.le_of_ble_eq_true rfl) (Nat.le_of_ble_eq_true rfl) (k_X11_isKind (ev := ev)) ?_
    refine mv_if_ne (tgt := 18) dX11_story_11 (by decide) (fun c11 => ?_) (fun c11 => ?_)
    · have c11 : nI 0 ≤ k2 ∧ k2 ≤ nI 7 := Classical.byContradiction (fun z => c11 ((mv_b_0 _).mpr z))
      exact absurd (by refine ⟨?_, ?_⟩ <;> assumption) hno
    · have c11 : ¬ (nI 0 ≤ k2 ∧ k2 ≤ nI 7) := (mv_b_0 _).mp c11
      refine mv_sipush (v := (-1001)) dX11_story_14 (by decide) ?_
      exact mv_iret dX11_story_17 rfl rfl ⟨rfl, rfl⟩
set_option maxRecDepth 100000 in
theorem k_X11_story_R2 {ev : mv_E} {h : mv_H} {k1 : Nat} {k2 : Nat} {w : Int32}  (hk1 : k1 < 8) (hk2 : k2 < 8) (hno : ¬ ((nI 0 ≤ w ∧ w ≤ nI 60))) : mv_K ev mX11_story [.ref 0, .int (nI k1), .int (nI k2), .int w] h (some (.int (-1002))) h := by
  refine mv_Kof ?_
  show mv_g ev mX11_story 0 [.ref 0, .int (nI k1), .int (nI k2), .int w] [] h _
  refine mv_iload_n dX11_story_0 rfl ?_
  refine mv_cS1 dX11_story_1 lk_X11_story_186 (Nat.le_of_ble_eq_true rfl) (Nat.le_of_ble_eq_true rfl) (k_X11_isKind (ev := ev)) ?_
  refine mv_if_eq (tgt := 14) dX11_story_4 (by decide) (fun z => absurd z ((fun z => (mv_b_0 _).mp z (mv_in_i (by omega) (by omega) (by omega))))) (fun c4 => ?_)
  refine mv_iload_n dX11_story_7 rfl ?_
  refine mv_cS1 dX11_story_8 lk_X11_story_186 (Nat.le_of_ble_eq_true rfl) (Nat.le_of_ble_eq_true rfl) (k_X11_isKind (ev := ev)) ?_
  refine mv_if_ne (tgt := 18) dX11_story_11 (by decide) (fun c11 => ?_) (fun z => absurd z ((fun z => (mv_b_0 _).mp z (mv_in_i (by omega) (by omega) (by omega)))))
  refine mv_iload_n dX11_story_18 rfl ?_
  refine mv_iconst (v := nI 0) dX11_story_19 (by decide) ?_
  refine mv_bipush (v := nI 60) dX11_story_20 (by decide) ?_
  refine mv_cS3 dX11_story_22 lk_X11_story_96 (Nat.le_of_ble_eq_true rfl) (Nat.le_of_ble_eq_true rfl) (k_X11_within (ev := ev)) ?_
  refine mv_if_ne (tgt := 32) dX11_story_25 (by decide) (fun c25 => ?_) (fun c25 => ?_)
  · have c25 : (nI 0) ≤ w ∧ w ≤ (nI 60) := Classical.byContradiction (fun z => c25 ((mv_b_0 _).mpr z))
    exact absurd (by assumption) hno
  · have c25 : ¬ ((nI 0) ≤ w ∧ w ≤ (nI 60)) := (mv_b_0 _).mp c25
    refine mv_sipush (v := (-1002)) dX11_story_28 (by decide) ?_
    exact mv_iret dX11_story_31 rfl rfl ⟨rfl, rfl⟩
set_option maxRecDepth 100000 in
theorem k_X11_story_R3 {ev : mv_E} {h : mv_H} {s : q_S} {cf : Nat → Int32} {rc : Nat} {k1 : Nat} {k2 : Nat} {w : Nat} (H0 : h[0]? = some (.inr (11, [.ref 1, .ref 3, .ref 7, .ref 11, .ref 21, .ref 22, .ref 32, .ref 34, .ref 42, .ref 45, .ref 48]))) (HS : h[22]? = some (.inr (7, [.ref 1, .ref 23, .ref 24, .ref 25, .ref 26, .int (nI s.1), .ref 27, .ref 28, .ref 29, .ref 30, .int (nI rc), .ref 31]))) (S28 : h[28]? = some (.inl (0, 8, .inl cf))) (hk1 : k1 < 8) (hk2 : k2 < 8) (hw6 : w ≤ 60) (hno : ¬ (cf k1 ≠ -1 ∧ cf k2 ≠ -1)) : mv_K ev mX11_story [.ref 0, .int (nI k1), .int (nI k2), .int (nI w)] h (some (.int (-1003))) h := by
  refine mv_Kof ?_
  show mv_g ev mX11_story 0 [.ref 0, .int (nI k1), .int (nI k2), .int (nI w)] [] h _
  refine mv_iload_n dX11_story_0 rfl ?_
  refine mv_cS1 dX11_story_1 lk_X11_story_186 (Nat.le_of_ble_eq_true rfl) (Nat.le_of_ble_eq_true rfl) (k_X11_isKind (ev := ev)) ?_
  refine mv_if_eq (tgt := 14) dX11_story_4 (by decide) (fun z => absurd z ((fun z => (mv_b_0 _).mp z (mv_in_i (by omega) (by omega) (by omega))))) (fun c4 => ?_)
  refine mv_iload_n dX11_story_7 rfl ?_
  refine mv_cS1 dX11_story_8 lk_X11_story_186 (Nat.le_of_ble_eq_true rfl) (Nat.le_of_ble_eq_true rfl) (k_X11_isKind (ev := ev)) ?_
  refine mv_if_ne (tgt := 18) dX11_story_11 (by decide) (fun c11 => ?_) (fun z => absurd z ((fun z => (mv_b_0 _).mp z (mv_in_i (by omega) (by omega) (by omega)))))
  refine mv_iload_n dX11_story_18 rfl ?_
  refine mv_iconst (v := nI 0) dX11_story_19 (by decide) ?_
  refine mv_bipush (v := nI 60) dX11_story_20 (by decide) ?_
  refine mv_cS3 dX11_story_22 lk_X11_story_96 (Nat.le_of_ble_eq_true rfl) (Nat.le_of_ble_eq_true rfl) (k_X11_within (ev := ev)) ?_
  refine mv_if_ne (tgt := 32) dX11_story_25 (by decide) (fun c25 => ?_) (fun z => absurd z ((fun z => (mv_b_0 _).mp z (mv_in_i (by omega) (by omega) (by omega)))))
  refine mv_aload_n dX11_story_32 rfl ?_
  refine mv_getf (ci := 11) (f := 5) dX11_story_33 H0 rfl (by decide) wd_381 rfl ?_
  refine mv_iload_n dX11_story_36 rfl ?_
  refine mv_cV1 (ci := 7) dX11_story_37 lk_X11_story_222 HS rfl (Nat.le_of_ble_eq_true rfl) (Nat.le_of_ble_eq_true rfl) (k_X7_isCounted (ev := ev) HS S28 (by omega)) ?_
  refine mv_if_eq (tgt := 54) dX11_story_40 (by decide) (fun c40 => ?_) (fun c40 => ?_)
  · have c40 : ¬ (cf k1 ≠ -1) := (mv_b_0 _).mp c40
    refine mv_sipush (v := (-1003)) dX11_story_54 (by decide) ?_
    exact mv_iret dX11_story_57 rfl rfl ⟨rfl, rfl⟩
  · have c40 : cf k1 ≠ -1 := Classical.byContradiction (fun z => c40 ((mv_b_0 _).mpr z))
    refine mv_aload_n dX11_story_43 rfl ?_
    refine mv_getf (ci := 11) (f := 5) dX11_story_44 H0 rfl (by decide) wd_381 rfl ?_
    refine mv_iload_n dX11_story_47 rfl ?_
    refine mv_cV1 (ci := 7) dX11_story_48 lk_X11_story_222 HS rfl (Nat.le_of_ble_eq_true rfl) (Nat.le_of_ble_eq_true rfl) (k_X7_isCounted (ev := ev) HS S28 (by omega)) ?_
    refine mv_if_ne (tgt := 58) dX11_story_51 (by decide) (fun c51 => ?_) (fun c51 => ?_)
    · have c51 : cf k2 ≠ -1 := Classical.byContradiction (fun z => c51 ((mv_b_0 _).mpr z))
      exact absurd (by refine ⟨?_, ?_⟩ <;> assumption) hno
    · have c51 : ¬ (cf k2 ≠ -1) := (mv_b_0 _).mp c51
      refine mv_sipush (v := (-1003)) dX11_story_54 (by decide) ?_
      exact mv_iret dX11_story_57 rfl rfl ⟨rfl, rfl⟩
set_option maxRecDepth 100000 in
theorem k_X11_story_G {ev : mv_E} {h : mv_H} {s : q_S} {wa : Nat → Nat} {cf : Nat → Int32} {ct : Nat → Int32} {rr : Nat → Nat} {rc : Nat} {ok : Nat → Nat} {lw : Nat → Int32} {ln : Nat → Nat} {k1 : Nat} {k2 : Nat} {w : Nat} {a1 : Nat} {c1 : Nat} {a2 : Nat} {c2 : Nat} (H0 : h[0]? = some (.inr (11, [.ref 1, .ref 3, .ref 7, .ref 11, .ref 21, .ref 22, .ref 32, .ref 34, .ref 42, .ref 45, .ref 48]))) (HL : h[1]? = some (.inr (5, [.ref 2]))) (HV : h[2]? = some (.inl (0, 8, .inl lw))) (HS : h[22]? = some (.inr (7, [.ref 1, .ref 23, .ref 24, .ref 25, .ref 26, .int (nI s.1), .ref 27, .ref 28, .ref 29, .ref 30, .int (nI rc), .ref 31]))) (S23 : h[23]? = some (.inl (0, 100, .inl (fun j => nI (s.2.1 j))))) (S24 : h[24]? = some (.inl (0, 100, .inl (fun j => nI (s.2.2.1 j))))) (S25 : h[25]? = some (.inl (0, 100, .inl (fun j => nI (s.2.2.2.1 j))))) (S26 : h[26]? = some (.inl (0, 100, .inl (fun j => nI (s.2.2.2.2 j))))) (S27 : h[27]? = some (.inl (0, 8, .inl (fun j => nI (wa j))))) (S28 : h[28]? = some (.inl (0, 8, .inl cf))) (S29 : h[29]? = some (.inl (0, 8, .inl ct))) (S30 : h[30]? = some (.inl (2, 400, .inl (fun j => nI (rr j))))) (S31 : h[31]? = some (.inl (0, 400, .inl (fun j => nI (ok j))))) (hw : q_LW lw ln) (hsi : q_SI s) (hr : ∀ d, rr d ≤ 1) (hwi : q_WI wa cf ct) (hok : ∀ d, ok d < 256) (hk1 : k1 < 8) (hk2 : k2 < 8) (hw6 : w ≤ 60) (e1 : cf k1 = nI a1) (f1 : ct k1 = nI c1) (e2 : cf k2 = nI a2) (f2 : ct k2 = nI c2) (hc1 : c1 ≤ 399) (hc2 : c2 ≤ 399) (ha1 : a1 ≤ 399) (ha2 : a2 ≤ 399) : ∃ h2, mv_K ev mX11_story [.ref 0, .int (nI k1), .int (nI k2), .int (nI w)] h (some (.int (nI (q_cnt (q_sP (q_oks lw ln s wa cf ct rr ok) k1 k2 w a1 a2 c1 c2) 400)))) h2 ∧ mv_fra [31] h h2 ∧ h2[31]? = some (.inl (0, 400, .inl (fun j => nI ((q_oks lw ln s wa cf ct rr ok) j)))) := by
  suffices g0 : mv_g ev mX11_story 0 (mv_ent [.ref 0, .int (nI k1), .int (nI k2), .int (nI w)] (mv_ml mX11_story)) [] h (fun r g => r = some (.int (nI (q_cnt (q_sP (q_oks lw ln s wa cf ct rr ok) k1 k2 w a1 a2 c1 c2) 400))) ∧ mv_fra [31] h g ∧ g[31]? = some (.inl (0, 400, .inl (fun j => nI ((q_oks lw ln s wa cf ct rr ok) j))))) from (by obtain ⟨r0, h0, K0, q0, Q0⟩ := mv_Kex g0; subst q0; exact ⟨h0, K0, Q0⟩)
  show mv_g ev mX11_story 0 [.ref 0, .int (nI k1), .int (nI k2), .int (nI w)] [] h _
  have fr : mv_fra [31] h h := mv_fra.rf
  have m1 : cf k1 ≠ -1 := (by rw [e1]; exact nI_m1 (by omega))
  have m2 : cf k2 ≠ -1 := (by rw [e2]; exact nI_m1 (by omega))
  refine mv_iload_n dX11_story_0 rfl ?_
  refine mv_cS1 dX11_story_1 lk_X11_story_186 (Nat.le_of_ble_eq_true rfl) (Nat.le_of_ble_eq_true rfl) (k_X11_isKind (ev := ev)) ?_
  refine mv_if_eq (tgt := 14) dX11_story_4 (by decide) (fun z => absurd z ((fun z => (mv_b_0 _).mp z (mv_in_i (by omega) (by omega) (by omega))))) (fun c4 => ?_)
  refine mv_iload_n dX11_story_7 rfl ?_
  refine mv_cS1 dX11_story_8 lk_X11_story_186 (Nat.le_of_ble_eq_true rfl) (Nat.le_of_ble_eq_true rfl) (k_X11_isKind (ev := ev)) ?_
  refine mv_if_ne (tgt := 18) dX11_story_11 (by decide) (fun c11 => ?_) (fun z => absurd z ((fun z => (mv_b_0 _).mp z (mv_in_i (by omega) (by omega) (by omega)))))
  refine mv_iload_n dX11_story_18 rfl ?_
  refine mv_iconst (v := nI 0) dX11_story_19 (by decide) ?_
  refine mv_bipush (v := nI 60) dX11_story_20 (by decide) ?_
  refine mv_cS3 dX11_story_22 lk_X11_story_96 (Nat.le_of_ble_eq_true rfl) (Nat.le_of_ble_eq_true rfl) (k_X11_within (ev := ev)) ?_
  refine mv_if_ne (tgt := 32) dX11_story_25 (by decide) (fun c25 => ?_) (fun z => absurd z ((fun z => (mv_b_0 _).mp z (mv_in_i (by omega) (by omega) (by omega)))))
  refine mv_aload_n dX11_story_32 rfl ?_
  refine mv_getf (ci := 11) (f := 5) dX11_story_33 H0 rfl (by decide) wd_381 rfl ?_
  refine mv_iload_n dX11_story_36 rfl ?_
  refine mv_cV1 (ci := 7) dX11_story_37 lk_X11_story_222 HS rfl (Nat.le_of_ble_eq_true rfl) (Nat.le_of_ble_eq_true rfl) (k_X7_isCounted (ev := ev) HS S28 (by omega)) ?_
  refine mv_if_eq (tgt := 54) dX11_story_40 (by decide) (fun z => absurd z ((fun z => (mv_b_0 _).mp z m1))) (fun c40 => ?_)
  refine mv_aload_n dX11_story_43 rfl ?_
  refine mv_getf (ci := 11) (f := 5) dX11_story_44 H0 rfl (by decide) wd_381 rfl ?_
  refine mv_iload_n dX11_story_47 rfl ?_
  refine mv_cV1 (ci := 7) dX11_story_48 lk_X11_story_222 HS rfl (Nat.le_of_ble_eq_true rfl) (Nat.le_of_ble_eq_true rfl) (k_X7_isCounted (ev := ev) HS S28 (by omega)) ?_
  refine mv_if_ne (tgt := 58) dX11_story_51 (by decide) (fun c51 => ?_) (fun z => absurd z ((fun z => (mv_b_0 _).mp z m2)))
  refine mv_aload_n dX11_story_58 rfl ?_
  refine mv_getf (ci := 11) (f := 5) dX11_story_59 H0 rfl (by decide) wd_381 rfl ?_
  refine mv_iload_n dX11_story_62 rfl ?_
  refine mv_iload_n dX11_story_63 rfl ?_
  refine mv_iload_n dX11_story_64 rfl ?_
  obtain ⟨h1, K2, f3, y4⟩ := (k_X7_againstStory (ev := ev) (s := s) (wa := wa) (cf := cf) (ct := ct) (rr := rr) (rc := rc) (ok := ok) (lw := lw) (ln := ln) (k1 := k1) (k2 := k2) (w := w) (a1 := a1) (c1 := c1) (a2 := a2) (c2 := c2) HL HV HS S23 S24 S25 S26 S27 S28 S29 S30 S31 hw hsi hr hwi hok hk1 hk2 (by omega) e1 f1 e2 f2 hc1 hc2 ha1 ha2)
  refine mv_cV3 (ci := 7) dX11_story_65 lk_X11_story_260 HS rfl (Nat.le_of_ble_eq_true rfl) (Nat.le_of_ble_eq_true rfl) K2 ?_
  have H0 := f3.get (by decide) H0
  have HL := f3.get (by decide) HL
  have HV := f3.get (by decide) HV
  have HS := f3.get (by decide) HS
  have S23 := f3.get (by decide) S23
  have S24 := f3.get (by decide) S24
  have S25 := f3.get (by decide) S25
  have S26 := f3.get (by decide) S26
  have S27 := f3.get (by decide) S27
  have S28 := f3.get (by decide) S28
  have S29 := f3.get (by decide) S29
  have S30 := f3.get (by decide) S30
  have S31 : h1[31]? = some (.inl (0, 400, .inl (fun j => nI ((q_oks lw ln s wa cf ct rr ok) j)))) := y4
  have fr := fr.trans f3 (by decide)
  exact mv_iret dX11_story_68 rfl rfl ⟨rfl, fr, S31⟩
set_option maxRecDepth 100000 in
theorem k_X11_claim_R1 {ev : mv_E} {h : mv_H} {t : Int32} {p : Int32} {m : Int32} {x : Int32} {a : Int32} {e : Int32} {q : Int32}  (hno : ¬ ((nI 0 ≤ p ∧ p ≤ nI 63))) : mv_K ev mX11_claim [.ref 0, .int t, .int p, .int m, .int x, .int a, .int e, .int q] h (some (.int (-1001))) h := by
  refine mv_Kof ?_
  show mv_g ev mX11_claim 0 [.ref 0, .int t, .int p, .int m, .int x, .int a, .int e, .int q] [] h _
  refine mv_iload_n dX11_claim_0 rfl ?_
  refine mv_cS1 dX11_claim_1 lk_X11_claim_120 (Nat.le_of_ble_eq_true rfl) (Nat.le_of_ble_eq_true rfl) (k_X11_isPlace (ev := ev)) ?_
  refine mv_if_ne (tgt := 11) dX11_claim_4 (by decide) (fun c4 => ?_) (fun c4 => ?_)
  · have c4 : nI 0 ≤ p ∧ p ≤ nI 63 := Classical.byContradiction (fun z => c4 ((mv_b_0 _).mpr z))
    exact absurd (by assumption) hno
  · have c4 : ¬ (nI 0 ≤ p ∧ p ≤ nI 63) := (mv_b_0 _).mp c4
    refine mv_sipush (v := (-1001)) dX11_claim_7 (by decide) ?_
    exact mv_iret dX11_claim_10 rfl rfl ⟨rfl, rfl⟩
set_option maxRecDepth 100000 in
theorem k_X11_claim_R2 {ev : mv_E} {h : mv_H} {t : Int32} {m : Int32} {x : Int32} {a : Int32} {e : Int32} {q : Int32} {p : Nat}  (hp : p < 64) (hno : ¬ ((nI 0 ≤ t ∧ t ≤ nI 399) ∧ (t < a ∧ a ≤ nI 399) ∧ (a ≤ e ∧ e ≤ nI 399) ∧ (nI 0 ≤ m ∧ m ≤ nI 7) ∧ (nI 1 ≤ x ∧ x ≤ nI 9) ∧ (nI 0 ≤ q ∧ q ≤ nI 100))) : mv_K ev mX11_claim [.ref 0, .int t, .int (nI p), .int m, .int x, .int a, .int e, .int q] h (some (.int (-1002))) h := by
  refine mv_Kof ?_
  show mv_g ev mX11_claim 0 [.ref 0, .int t, .int (nI p), .int m, .int x, .int a, .int e, .int q] [] h _
  refine mv_iload_n dX11_claim_0 rfl ?_
  refine mv_cS1 dX11_claim_1 lk_X11_claim_120 (Nat.le_of_ble_eq_true rfl) (Nat.le_of_ble_eq_true rfl) (k_X11_isPlace (ev := ev)) ?_
  refine mv_if_ne (tgt := 11) dX11_claim_4 (by decide) (fun c4 => ?_) (fun z => absurd z ((fun z => (mv_b_0 _).mp z (mv_in_i (by omega) (by omega) (by omega)))))
  refine mv_iload_n dX11_claim_11 rfl ?_
  refine mv_iload dX11_claim_12 rfl ?_
  refine mv_iload dX11_claim_14 rfl ?_
  refine mv_cS3 dX11_claim_16 lk_X11_claim_179 (Nat.le_of_ble_eq_true rfl) (Nat.le_of_ble_eq_true rfl) (k_X11_areDaysAfter (ev := ev)) ?_
  refine mv_if_eq (tgt := 48) dX11_claim_19 (by decide) (fun c19 => ?_) (fun c19 => ?_)
  · have c19 : ¬ ((nI 0 ≤ t ∧ t ≤ nI 399) ∧ (t < a ∧ a ≤ nI 399) ∧ (a ≤ e ∧ e ≤ nI 399)) := (mv_b_0 _).mp c19
    refine mv_sipush (v := (-1002)) dX11_claim_48 (by decide) ?_
    exact mv_iret dX11_claim_51 rfl rfl ⟨rfl, rfl⟩
  · have c19 : (nI 0 ≤ t ∧ t ≤ nI 399) ∧ (t < a ∧ a ≤ nI 399) ∧ (a ≤ e ∧ e ≤ nI 399) := Classical.byContradiction (fun z => c19 ((mv_b_0 _).mpr z))
    refine mv_iload_n dX11_claim_22 rfl ?_
    refine mv_cS1 dX11_claim_23 lk_X11_claim_123 (Nat.le_of_ble_eq_true rfl) (Nat.le_of_ble_eq_true rfl) (k_X11_isDistance (ev := ev)) ?_
    refine mv_if_eq (tgt := 48) dX11_claim_26 (by decide) (fun c26 => ?_) (fun c26 => ?_)
    · have c26 : ¬ (nI 0 ≤ m ∧ m ≤ nI 7) := (mv_b_0 _).mp c26
      refine mv_sipush (v := (-1002)) dX11_claim_48 (by decide) ?_
      exact mv_iret dX11_claim_51 rfl rfl ⟨rfl, rfl⟩
    · have c26 : nI 0 ≤ m ∧ m ≤ nI 7 := Classical.byContradiction (fun z => c26 ((mv_b_0 _).mpr z))
      refine mv_iload dX11_claim_29 rfl ?_
      refine mv_cS1 dX11_claim_31 lk_X11_claim_130 (Nat.le_of_ble_eq_true rfl) (Nat.le_of_ble_eq_true rfl) (k_X11_isSize (ev := ev)) ?_
      refine mv_if_eq (tgt := 48) dX11_claim_34 (by decide) (fun c34 => ?_) (fun c34 => ?_)
      · have c34 : ¬ (nI 1 ≤ x ∧ x ≤ nI 9) := (mv_b_0 _).mp c34
        refine mv_sipush (v := (-1002)) dX11_claim_48 (by decide) ?_
        exact mv_iret dX11_claim_51 rfl rfl ⟨rfl, rfl⟩
      · have c34 : nI 1 ≤ x ∧ x ≤ nI 9 := Classical.byContradiction (fun z => c34 ((mv_b_0 _).mpr z))
        refine mv_iload dX11_claim_37 rfl ?_
        refine mv_iconst (v := nI 0) dX11_claim_39 (by decide) ?_
        refine mv_bipush (v := nI 100) dX11_claim_40 (by decide) ?_
        refine mv_cS3 dX11_claim_42 lk_X11_claim_96 (Nat.le_of_ble_eq_true rfl) (Nat.le_of_ble_eq_true rfl) (k_X11_within (ev := ev)) ?_
        refine mv_if_ne (tgt := 52) dX11_claim_45 (by decide) (fun c45 => ?_) (fun c45 => ?_)
        · have c45 : (nI 0) ≤ q ∧ q ≤ (nI 100) := Classical.byContradiction (fun z => c45 ((mv_b_0 _).mpr z))
          exact absurd ⟨c19.1, c19.2.1, c19.2.2, c26, c34, c45⟩ hno
        · have c45 : ¬ ((nI 0) ≤ q ∧ q ≤ (nI 100)) := (mv_b_0 _).mp c45
          refine mv_sipush (v := (-1002)) dX11_claim_48 (by decide) ?_
          exact mv_iret dX11_claim_51 rfl rfl ⟨rfl, rfl⟩
set_option maxRecDepth 100000 in
theorem k_X11_claim_R3 {ev : mv_E} {h : mv_H} {c : q_C} {t : Nat} {p : Nat} {m : Nat} {x : Nat} {a : Nat} {e : Nat} {q : Nat} (H0 : h[0]? = some (.inr (11, [.ref 1, .ref 3, .ref 7, .ref 11, .ref 21, .ref 22, .ref 32, .ref 34, .ref 42, .ref 45, .ref 48]))) (HC : h[34]? = some (.inr (1, [.ref 21, .ref 7, .ref 35, .ref 36, .ref 37, .ref 38, .ref 39, .ref 40, .ref 41, .int (nI c.1)]))) (hp : p < 64) (hm0 : m < 8) (hz1 : 1 ≤ x) (hz9 : x ≤ 9) (hta : t < a) (hae : a ≤ e) (he : e ≤ 399) (hq : q ≤ 100) (hn : c.1 ≤ 12) (hno : ¬ (c.1 < 12)) : mv_K ev mX11_claim [.ref 0, .int (nI t), .int (nI p), .int (nI m), .int (nI x), .int (nI a), .int (nI e), .int (nI q)] h (some (.int (-1004))) h := by
  refine mv_Kof ?_
  show mv_g ev mX11_claim 0 [.ref 0, .int (nI t), .int (nI p), .int (nI m), .int (nI x), .int (nI a), .int (nI e), .int (nI q)] [] h _
  refine mv_iload_n dX11_claim_0 rfl ?_
  refine mv_cS1 dX11_claim_1 lk_X11_claim_120 (Nat.le_of_ble_eq_true rfl) (Nat.le_of_ble_eq_true rfl) (k_X11_isPlace (ev := ev)) ?_
  refine mv_if_ne (tgt := 11) dX11_claim_4 (by decide) (fun c4 => ?_) (fun z => absurd z ((fun z => (mv_b_0 _).mp z (mv_in_i (by omega) (by omega) (by omega)))))
  refine mv_iload_n dX11_claim_11 rfl ?_
  refine mv_iload dX11_claim_12 rfl ?_
  refine mv_iload dX11_claim_14 rfl ?_
  refine mv_cS3 dX11_claim_16 lk_X11_claim_179 (Nat.le_of_ble_eq_true rfl) (Nat.le_of_ble_eq_true rfl) (k_X11_areDaysAfter (ev := ev)) ?_
  refine mv_if_eq (tgt := 48) dX11_claim_19 (by decide) (fun z => absurd z ((fun z => (mv_b_0 _).mp z ⟨mv_in_i (Nat.zero_le _) (by omega) (by decide), ⟨(nI_ltI (by omega) (by omega)).mpr (by omega), (nI_leI (by omega) (by decide)).mpr (by omega)⟩, (nI_leI (by omega) (by omega)).mpr (by omega), (nI_leI (by omega) (by decide)).mpr (by omega)⟩))) (fun c19 => ?_)
  refine mv_iload_n dX11_claim_22 rfl ?_
  refine mv_cS1 dX11_claim_23 lk_X11_claim_123 (Nat.le_of_ble_eq_true rfl) (Nat.le_of_ble_eq_true rfl) (k_X11_isDistance (ev := ev)) ?_
  refine mv_if_eq (tgt := 48) dX11_claim_26 (by decide) (fun z => absurd z ((fun z => (mv_b_0 _).mp z (mv_in_i (by omega) (by omega) (by omega))))) (fun c26 => ?_)
  refine mv_iload dX11_claim_29 rfl ?_
  refine mv_cS1 dX11_claim_31 lk_X11_claim_130 (Nat.le_of_ble_eq_true rfl) (Nat.le_of_ble_eq_true rfl) (k_X11_isSize (ev := ev)) ?_
  refine mv_if_eq (tgt := 48) dX11_claim_34 (by decide) (fun z => absurd z ((fun z => (mv_b_0 _).mp z (mv_in_i (by omega) (by omega) (by omega))))) (fun c34 => ?_)
  refine mv_iload dX11_claim_37 rfl ?_
  refine mv_iconst (v := nI 0) dX11_claim_39 (by decide) ?_
  refine mv_bipush (v := nI 100) dX11_claim_40 (by decide) ?_
  refine mv_cS3 dX11_claim_42 lk_X11_claim_96 (Nat.le_of_ble_eq_true rfl) (Nat.le_of_ble_eq_true rfl) (k_X11_within (ev := ev)) ?_
  refine mv_if_ne (tgt := 52) dX11_claim_45 (by decide) (fun c45 => ?_) (fun z => absurd z ((fun z => (mv_b_0 _).mp z (mv_in_i (by omega) (by omega) (by omega)))))
  refine mv_aload_n dX11_claim_52 rfl ?_
  refine mv_getf (ci := 11) (f := 7) dX11_claim_53 H0 rfl (by decide) wd_383 rfl ?_
  refine mv_cV0 (ci := 1) dX11_claim_56 lk_X11_claim_263 HC rfl (Nat.le_of_ble_eq_true rfl) (Nat.le_of_ble_eq_true rfl) (k_X1_isFull (ev := ev) HC (by omega)) ?_
  refine mv_if_eq (tgt := 68) dX11_claim_59 (by decide) (fun c59 => ?_) (fun c59 => ?_)
  · have c59 : ¬ (12 ≤ c.1) := (mv_b_0 _).mp c59
    exact absurd (by omega) hno
  · have c59 : 12 ≤ c.1 := Classical.byContradiction (fun z => c59 ((mv_b_0 _).mpr z))
    refine mv_sipush (v := (-1004)) dX11_claim_62 (by decide) ?_
    refine mv_goto (tgt := 86) dX11_claim_65 (by decide) ?_
    exact mv_iret dX11_claim_86 rfl rfl ⟨rfl, rfl⟩
set_option maxRecDepth 100000 in
theorem k_X11_claim_G {ev : mv_E} {h : mv_H} {c : q_C} {t : Nat} {p : Nat} {m : Nat} {x : Nat} {a : Nat} {e : Nat} {q : Nat} (H0 : h[0]? = some (.inr (11, [.ref 1, .ref 3, .ref 7, .ref 11, .ref 21, .ref 22, .ref 32, .ref 34, .ref 42, .ref 45, .ref 48]))) (HC : h[34]? = some (.inr (1, [.ref 21, .ref 7, .ref 35, .ref 36, .ref 37, .ref 38, .ref 39, .ref 40, .ref 41, .int (nI c.1)]))) (C35 : h[35]? = some (.inl (0, 12, .inl (fun j => nI (c.2.1 j))))) (C36 : h[36]? = some (.inl (0, 12, .inl (fun j => nI (c.2.2.1 j))))) (C37 : h[37]? = some (.inl (0, 12, .inl (fun j => nI (c.2.2.2.1 j))))) (C38 : h[38]? = some (.inl (0, 12, .inl (fun j => nI (c.2.2.2.2.1 j))))) (C39 : h[39]? = some (.inl (0, 12, .inl (fun j => nI (c.2.2.2.2.2.1 j))))) (C40 : h[40]? = some (.inl (0, 12, .inl (fun j => nI (c.2.2.2.2.2.2.1 j))))) (C41 : h[41]? = some (.inl (0, 12, .inl (fun j => nI (c.2.2.2.2.2.2.2 j))))) (hp : p < 64) (hm0 : m < 8) (hz1 : 1 ≤ x) (hz9 : x ≤ 9) (hta : t < a) (hae : a ≤ e) (he : e ≤ 399) (hq : q ≤ 100) (hn : c.1 < 12) : ∃ h2, mv_K ev mX11_claim [.ref 0, .int (nI t), .int (nI p), .int (nI m), .int (nI x), .int (nI a), .int (nI e), .int (nI q)] h (some (.int (nI c.1))) h2 ∧ mv_fra [34, 35, 36, 37, 38, 39, 40, 41] h h2 ∧ h2[34]? = some (.inr (1, [.ref 21, .ref 7, .ref 35, .ref 36, .ref 37, .ref 38, .ref 39, .ref 40, .ref 41, .int (nI (q_cw c t p m x a e q).1)])) ∧ h2[35]? = some (.inl (0, 12, .inl (fun j => nI ((q_cw c t p m x a e q).2.1 j)))) ∧ h2[36]? = some (.inl (0, 12, .inl (fun j => nI ((q_cw c t p m x a e q).2.2.1 j)))) ∧ h2[37]? = some (.inl (0, 12, .inl (fun j => nI ((q_cw c t p m x a e q).2.2.2.1 j)))) ∧ h2[38]? = some (.inl (0, 12, .inl (fun j => nI ((q_cw c t p m x a e q).2.2.2.2.1 j)))) ∧ h2[39]? = some (.inl (0, 12, .inl (fun j => nI ((q_cw c t p m x a e q).2.2.2.2.2.1 j)))) ∧ h2[40]? = some (.inl (0, 12, .inl (fun j => nI ((q_cw c t p m x a e q).2.2.2.2.2.2.1 j)))) ∧ h2[41]? = some (.inl (0, 12, .inl (fun j => nI ((q_cw c t p m x a e q).2.2.2.2.2.2.2 j)))) := by
  suffices g0 : mv_g ev mX11_claim 0 (mv_ent [.ref 0, .int (nI t), .int (nI p), .int (nI m), .int (nI x), .int (nI a), .int (nI e), .int (nI q)] (mv_ml mX11_claim)) [] h (fun r g => r = some (.int (nI c.1)) ∧ mv_fra [34, 35, 36, 37, 38, 39, 40, 41] h g ∧ g[34]? = some (.inr (1, [.ref 21, .ref 7, .ref 35, .ref 36, .ref 37, .ref 38, .ref 39, .ref 40, .ref 41, .int (nI (q_cw c t p m x a e q).1)])) ∧ g[35]? = some (.inl (0, 12, .inl (fun j => nI ((q_cw c t p m x a e q).2.1 j)))) ∧ g[36]? = some (.inl (0, 12, .inl (fun j => nI ((q_cw c t p m x a e q).2.2.1 j)))) ∧ g[37]? = some (.inl (0, 12, .inl (fun j => nI ((q_cw c t p m x a e q).2.2.2.1 j)))) ∧ g[38]? = some (.inl (0, 12, .inl (fun j => nI ((q_cw c t p m x a e q).2.2.2.2.1 j)))) ∧ g[39]? = some (.inl (0, 12, .inl (fun j => nI ((q_cw c t p m x a e q).2.2.2.2.2.1 j)))) ∧ g[40]? = some (.inl (0, 12, .inl (fun j => nI ((q_cw c t p m x a e q).2.2.2.2.2.2.1 j)))) ∧ g[41]? = some (.inl (0, 12, .inl (fun j => nI ((q_cw c t p m x a e q).2.2.2.2.2.2.2 j))))) from (by obtain ⟨r0, h0, K0, q0, Q0⟩ := mv_Kex g0; subst q0; exact ⟨h0, K0, Q0⟩)
  show mv_g ev mX11_claim 0 [.ref 0, .int (nI t), .int (nI p), .int (nI m), .int (nI x), .int (nI a), .int (nI e), .int (nI q)] [] h _
  have fr : mv_fra [34, 35, 36, 37, 38, 39, 40, 41] h h := mv_fra.rf
  refine mv_iload_n dX11_claim_0 rfl ?_
  refine mv_cS1 dX11_claim_1 lk_X11_claim_120 (Nat.le_of_ble_eq_true rfl) (Nat.le_of_ble_eq_true rfl) (k_X11_isPlace (ev := ev)) ?_
  refine mv_if_ne (tgt := 11) dX11_claim_4 (by decide) (fun c4 => ?_) (fun z => absurd z ((fun z => (mv_b_0 _).mp z (mv_in_i (by omega) (by omega) (by omega)))))
  refine mv_iload_n dX11_claim_11 rfl ?_
  refine mv_iload dX11_claim_12 rfl ?_
  refine mv_iload dX11_claim_14 rfl ?_
  refine mv_cS3 dX11_claim_16 lk_X11_claim_179 (Nat.le_of_ble_eq_true rfl) (Nat.le_of_ble_eq_true rfl) (k_X11_areDaysAfter (ev := ev)) ?_
  refine mv_if_eq (tgt := 48) dX11_claim_19 (by decide) (fun z => absurd z ((fun z => (mv_b_0 _).mp z ⟨mv_in_i (Nat.zero_le _) (by omega) (by decide), ⟨(nI_ltI (by omega) (by omega)).mpr (by omega), (nI_leI (by omega) (by decide)).mpr (by omega)⟩, (nI_leI (by omega) (by omega)).mpr (by omega), (nI_leI (by omega) (by decide)).mpr (by omega)⟩))) (fun c19 => ?_)
  refine mv_iload_n dX11_claim_22 rfl ?_
  refine mv_cS1 dX11_claim_23 lk_X11_claim_123 (Nat.le_of_ble_eq_true rfl) (Nat.le_of_ble_eq_true rfl) (k_X11_isDistance (ev := ev)) ?_
  refine mv_if_eq (tgt := 48) dX11_claim_26 (by decide) (fun z => absurd z ((fun z => (mv_b_0 _).mp z (mv_in_i (by omega) (by omega) (by omega))))) (fun c26 => ?_)
  refine mv_iload dX11_claim_29 rfl ?_
  refine mv_cS1 dX11_claim_31 lk_X11_claim_130 (Nat.le_of_ble_eq_true rfl) (Nat.le_of_ble_eq_true rfl) (k_X11_isSize (ev := ev)) ?_
  refine mv_if_eq (tgt := 48) dX11_claim_34 (by decide) (fun z => absurd z ((fun z => (mv_b_0 _).mp z (mv_in_i (by omega) (by omega) (by omega))))) (fun c34 => ?_)
  refine mv_iload dX11_claim_37 rfl ?_
  refine mv_iconst (v := nI 0) dX11_claim_39 (by decide) ?_
  refine mv_bipush (v := nI 100) dX11_claim_40 (by decide) ?_
  refine mv_cS3 dX11_claim_42 lk_X11_claim_96 (Nat.le_of_ble_eq_true rfl) (Nat.le_of_ble_eq_true rfl) (k_X11_within (ev := ev)) ?_
  refine mv_if_ne (tgt := 52) dX11_claim_45 (by decide) (fun c45 => ?_) (fun z => absurd z ((fun z => (mv_b_0 _).mp z (mv_in_i (by omega) (by omega) (by omega)))))
  refine mv_aload_n dX11_claim_52 rfl ?_
  refine mv_getf (ci := 11) (f := 7) dX11_claim_53 H0 rfl (by decide) wd_383 rfl ?_
  refine mv_cV0 (ci := 1) dX11_claim_56 lk_X11_claim_263 HC rfl (Nat.le_of_ble_eq_true rfl) (Nat.le_of_ble_eq_true rfl) (k_X1_isFull (ev := ev) HC (by omega)) ?_
  refine mv_if_eq (tgt := 68) dX11_claim_59 (by decide) (fun c59 => ?_) (fun z => absurd (((mv_b_0 _).mpr (by omega))) z)
  refine mv_aload_n dX11_claim_68 rfl ?_
  refine mv_getf (ci := 11) (f := 7) dX11_claim_69 H0 rfl (by decide) wd_383 rfl ?_
  refine mv_iload_n dX11_claim_72 rfl ?_
  refine mv_iload_n dX11_claim_73 rfl ?_
  refine mv_iload_n dX11_claim_74 rfl ?_
  refine mv_iload dX11_claim_75 rfl ?_
  refine mv_iload dX11_claim_77 rfl ?_
  refine mv_iload dX11_claim_79 rfl ?_
  refine mv_iload dX11_claim_81 rfl ?_
  obtain ⟨h1, K2, f3, y4, y5, y6, y7, y8, y9, y10, y11⟩ := (k_X1_write (ev := ev) (c := c) (t := t) (p := p) (m := m) (z := x) (a := a) (e := e) (q := q) HC C35 C36 C37 C38 C39 C40 C41 hn)
  refine mv_cV7 (ci := 1) dX11_claim_83 lk_X11_claim_264 HC rfl (Nat.le_of_ble_eq_true rfl) (Nat.le_of_ble_eq_true rfl) K2 ?_
  have H0 := f3.get (by decide) H0
  have HC : h1[34]? = some (.inr (1, [.ref 21, .ref 7, .ref 35, .ref 36, .ref 37, .ref 38, .ref 39, .ref 40, .ref 41, .int (nI (q_cw c t p m x a e q).1)])) := y4
  have C35 : h1[35]? = some (.inl (0, 12, .inl (fun j => nI ((q_cw c t p m x a e q).2.1 j)))) := y5
  have C36 : h1[36]? = some (.inl (0, 12, .inl (fun j => nI ((q_cw c t p m x a e q).2.2.1 j)))) := y6
  have C37 : h1[37]? = some (.inl (0, 12, .inl (fun j => nI ((q_cw c t p m x a e q).2.2.2.1 j)))) := y7
  have C38 : h1[38]? = some (.inl (0, 12, .inl (fun j => nI ((q_cw c t p m x a e q).2.2.2.2.1 j)))) := y8
  have C39 : h1[39]? = some (.inl (0, 12, .inl (fun j => nI ((q_cw c t p m x a e q).2.2.2.2.2.1 j)))) := y9
  have C40 : h1[40]? = some (.inl (0, 12, .inl (fun j => nI ((q_cw c t p m x a e q).2.2.2.2.2.2.1 j)))) := y10
  have C41 : h1[41]? = some (.inl (0, 12, .inl (fun j => nI ((q_cw c t p m x a e q).2.2.2.2.2.2.2 j)))) := y11
  have fr := fr.trans f3 (by decide)
  exact mv_iret dX11_claim_86 rfl rfl ⟨rfl, fr, HC, C35, C36, C37, C38, C39, C40, C41⟩
set_option maxRecDepth 100000 in
theorem k_X11_score_R1 {ev : mv_E} {h : mv_H} {c : q_C} {k : Int32} {w : Int32} (H0 : h[0]? = some (.inr (11, [.ref 1, .ref 3, .ref 7, .ref 11, .ref 21, .ref 22, .ref 32, .ref 34, .ref 42, .ref 45, .ref 48]))) (HC : h[34]? = some (.inr (1, [.ref 21, .ref 7, .ref 35, .ref 36, .ref 37, .ref 38, .ref 39, .ref 40, .ref 41, .int (nI c.1)]))) (hno : ¬ ((0 ≤ k ∧ k < nI c.1 ∧ k < nI 12))) : mv_K ev mX11_score [.ref 0, .int k, .int w] h (some (.int (-1001))) h := by
  refine mv_Kof ?_
  show mv_g ev mX11_score 0 [.ref 0, .int k, .int w] [] h _
  refine mv_aload_n dX11_score_0 rfl ?_
  refine mv_getf (ci := 11) (f := 7) dX11_score_1 H0 rfl (by decide) wd_383 rfl ?_
  refine mv_iload_n dX11_score_4 rfl ?_
  refine mv_cV1 (ci := 1) dX11_score_5 lk_X11_score_267 HC rfl (Nat.le_of_ble_eq_true rfl) (Nat.le_of_ble_eq_true rfl) (k_X1_hasI (ev := ev) HC) ?_
  refine mv_if_ne (tgt := 15) dX11_score_8 (by decide) (fun c8 => ?_) (fun c8 => ?_)
  · have c8 : 0 ≤ k ∧ k < nI c.1 ∧ k < nI 12 := Classical.byContradiction (fun z => c8 ((mv_b_0 _).mpr z))
    exact absurd (by assumption) hno
  · have c8 : ¬ (0 ≤ k ∧ k < nI c.1 ∧ k < nI 12) := (mv_b_0 _).mp c8
    refine mv_sipush (v := (-1001)) dX11_score_11 (by decide) ?_
    exact mv_iret dX11_score_14 rfl rfl ⟨rfl, rfl⟩
set_option maxRecDepth 100000 in
theorem k_X11_score_G {ev : mv_E} {h : mv_H} {c : q_C} {lw : Nat → Int32} {ln : Nat → Nat} {b : t_B} {t : Nat} {k : Nat} {dd : Nat} {w : Int32} (H0 : h[0]? = some (.inr (11, [.ref 1, .ref 3, .ref 7, .ref 11, .ref 21, .ref 22, .ref 32, .ref 34, .ref 42, .ref 45, .ref 48]))) (HC : h[34]? = some (.inr (1, [.ref 21, .ref 7, .ref 35, .ref 36, .ref 37, .ref 38, .ref 39, .ref 40, .ref 41, .int (nI c.1)]))) (C35 : h[35]? = some (.inl (0, 12, .inl (fun j => nI (c.2.1 j))))) (C36 : h[36]? = some (.inl (0, 12, .inl (fun j => nI (c.2.2.1 j))))) (C37 : h[37]? = some (.inl (0, 12, .inl (fun j => nI (c.2.2.2.1 j))))) (C38 : h[38]? = some (.inl (0, 12, .inl (fun j => nI (c.2.2.2.2.1 j))))) (C39 : h[39]? = some (.inl (0, 12, .inl (fun j => nI (c.2.2.2.2.2.1 j))))) (C40 : h[40]? = some (.inl (0, 12, .inl (fun j => nI (c.2.2.2.2.2.2.1 j))))) (C41 : h[41]? = some (.inl (0, 12, .inl (fun j => nI (c.2.2.2.2.2.2.2 j))))) (HF : h[21]? = some (.inr (3, [.ref 1, .ref 7]))) (HL : h[1]? = some (.inr (5, [.ref 2]))) (HV : h[2]? = some (.inl (0, 8, .inl lw))) (HB : h[7]? = some (.inr (0, [.ref 8, .ref 9, .ref 10, .int (nI b.1), .int (nI t), .int (nI b.2.1)]))) (H8 : h[8]? = some (.inl (0, 60, .inl (fun j => nI (b.2.2.1 j))))) (H9 : h[9]? = some (.inl (0, 60, .inl (fun j => nI (b.2.2.2.1 j))))) (H10 : h[10]? = some (.inl (0, 60, .inl (fun j => nI (b.2.2.2.2 j))))) (hci : q_CI c) (hk : k < c.1) (hw : q_LW lw ln) (hb : q_BI dd b) : mv_K ev mX11_score [.ref 0, .int (nI k), .int w] h (some (.int (q_scA ln c b k w))) h := by
  refine mv_Kof ?_
  show mv_g ev mX11_score 0 [.ref 0, .int (nI k), .int w] [] h _
  have n0 := hci.1
  refine mv_aload_n dX11_score_0 rfl ?_
  refine mv_getf (ci := 11) (f := 7) dX11_score_1 H0 rfl (by decide) wd_383 rfl ?_
  refine mv_iload_n dX11_score_4 rfl ?_
  refine mv_cV1 (ci := 1) dX11_score_5 lk_X11_score_267 HC rfl (Nat.le_of_ble_eq_true rfl) (Nat.le_of_ble_eq_true rfl) (k_X1_has (ev := ev) HC hk n0) ?_
  refine mv_if_ne (tgt := 15) dX11_score_8 (by decide) (fun c8 => ?_) (fun z => absurd z ((by decide)))
  refine mv_iload_n dX11_score_15 rfl ?_
  by_cases z16_0 : w = nI 0
  · subst z16_0
    refine mv_tswIn (tgt := 44) dX11_score_16 (by decide) (by decide) rfl (by decide) ?_
    refine mv_aload_n dX11_score_44 rfl ?_
    refine mv_getf (ci := 11) (f := 7) dX11_score_45 H0 rfl (by decide) wd_383 rfl ?_
    refine mv_iload_n dX11_score_48 rfl ?_
    refine mv_cV1 (ci := 1) dX11_score_49 lk_X11_score_268 HC rfl (Nat.le_of_ble_eq_true rfl) (Nat.le_of_ble_eq_true rfl) (k_X1_hitBy (ev := ev) HC C36 C37 C38 C39 C40 HB H8 H9 H10 hci hk hb) ?_
    have e9 : q_scA ln c b k (nI 0) = q_hit c b k := (if_pos rfl)
    exact mv_iret dX11_score_52 rfl rfl ⟨(by rw [e9]), rfl⟩
  · skip
    by_cases z16_1 : w = nI 1
    · subst z16_1
      refine mv_tswIn (tgt := 53) dX11_score_16 (by decide) (by decide) rfl (by decide) ?_
      refine mv_aload_n dX11_score_53 rfl ?_
      refine mv_getf (ci := 11) (f := 7) dX11_score_54 H0 rfl (by decide) wd_383 rfl ?_
      refine mv_iload_n dX11_score_57 rfl ?_
      refine mv_cV1 (ci := 1) dX11_score_58 lk_X11_score_271 HC rfl (Nat.le_of_ble_eq_true rfl) (Nat.le_of_ble_eq_true rfl) (k_X1_aloneOf (ev := ev) HC C35 C36 C37 C38 C39 C40 HF HL HV HB H8 H9 H10 hci hk hw hb) ?_
      have e9 : q_scA ln c b k (nI 1) = nI (q_al ln c b k) := ((if_neg (show ¬ (nI 1) = nI 0 by decide)).trans (if_pos rfl))
      exact mv_iret dX11_score_61 rfl rfl ⟨(by rw [e9]), rfl⟩
    · skip
      by_cases z16_2 : w = nI 2
      · subst z16_2
        refine mv_tswIn (tgt := 62) dX11_score_16 (by decide) (by decide) rfl (by decide) ?_
        refine mv_aload_n dX11_score_62 rfl ?_
        refine mv_getf (ci := 11) (f := 7) dX11_score_63 H0 rfl (by decide) wd_383 rfl ?_
        refine mv_iload_n dX11_score_66 rfl ?_
        refine mv_cV1 (ci := 1) dX11_score_67 lk_X11_score_274 HC rfl (Nat.le_of_ble_eq_true rfl) (Nat.le_of_ble_eq_true rfl) (k_X1_scoreOf (ev := ev) HC C35 C36 C37 C38 C39 C40 C41 HF HL HV HB H8 H9 H10 hci hk hw hb) ?_
        have e9 : q_scA ln c b k (nI 2) = q_sc ln c b k := ((if_neg (show ¬ (nI 2) = nI 0 by decide)).trans ((if_neg (show ¬ (nI 2) = nI 1 by decide)).trans (if_pos rfl)))
        exact mv_iret dX11_score_70 rfl rfl ⟨(by rw [e9]), rfl⟩
      · skip
        refine mv_tswOut (tgt := 71) dX11_score_16 (by have t0 := mv_tn z16_0 (by decide); have t1 := mv_tn z16_1 (by decide); have t2 := mv_tn z16_2 (by decide); omega) (by decide) ?_
        refine mv_sipush (v := (-1002)) dX11_score_71 (by decide) ?_
        have e9 : q_scA ln c b k w = -1002 := ((if_neg (show ¬ w = nI 0 by assumption)).trans ((if_neg (show ¬ w = nI 1 by assumption)).trans (if_neg (show ¬ w = nI 2 by assumption))))
        exact mv_iret dX11_score_74 rfl rfl ⟨(by rw [e9]), rfl⟩
def q_ssm (f : Nat → Int32) : Nat → Int32
  | 0 => nI 0
  | n + 1 => q_ssm f n + f n
theorem q_ssm_s (f : Nat → Int32) (n : Nat) : q_ssm f (n + 1) = q_ssm f n + f n := rfl
set_option maxRecDepth 100000 in
theorem l_X11_scores {ev : mv_E} {h : mv_H} {c : q_C} {lw : Nat → Int32} {ln : Nat → Nat} {b : t_B} {t : Nat} {dd : Nat} (H0 : h[0]? = some (.inr (11, [.ref 1, .ref 3, .ref 7, .ref 11, .ref 21, .ref 22, .ref 32, .ref 34, .ref 42, .ref 45, .ref 48]))) (HC : h[34]? = some (.inr (1, [.ref 21, .ref 7, .ref 35, .ref 36, .ref 37, .ref 38, .ref 39, .ref 40, .ref 41, .int (nI c.1)]))) (C35 : h[35]? = some (.inl (0, 12, .inl (fun j => nI (c.2.1 j))))) (C36 : h[36]? = some (.inl (0, 12, .inl (fun j => nI (c.2.2.1 j))))) (C37 : h[37]? = some (.inl (0, 12, .inl (fun j => nI (c.2.2.2.1 j))))) (C38 : h[38]? = some (.inl (0, 12, .inl (fun j => nI (c.2.2.2.2.1 j))))) (C39 : h[39]? = some (.inl (0, 12, .inl (fun j => nI (c.2.2.2.2.2.1 j))))) (C40 : h[40]? = some (.inl (0, 12, .inl (fun j => nI (c.2.2.2.2.2.2.1 j))))) (C41 : h[41]? = some (.inl (0, 12, .inl (fun j => nI (c.2.2.2.2.2.2.2 j))))) (HF : h[21]? = some (.inr (3, [.ref 1, .ref 7]))) (HL : h[1]? = some (.inr (5, [.ref 2]))) (HV : h[2]? = some (.inl (0, 8, .inl lw))) (HB : h[7]? = some (.inr (0, [.ref 8, .ref 9, .ref 10, .int (nI b.1), .int (nI t), .int (nI b.2.1)]))) (H8 : h[8]? = some (.inl (0, 60, .inl (fun j => nI (b.2.2.1 j))))) (H9 : h[9]? = some (.inl (0, 60, .inl (fun j => nI (b.2.2.2.1 j))))) (H10 : h[10]? = some (.inl (0, 60, .inl (fun j => nI (b.2.2.2.2 j))))) (hci : q_CI c) (hw : q_LW lw ln) (hb : q_BI dd b) : ∀ (fu : Nat) (v : Int32) (y : Nat), c.1 < y + fu → (y ≤ c.1) → (v = q_ssm (q_sc ln c b) y) → mv_g ev mX11_scores 4 [.ref 0, .int v, .int (nI y)] [] h (fun r g => r = some (.int (q_ssm (q_sc ln c b) c.1)) ∧ g = h) := by
  intro fu
  induction fu with
  | zero => intro v y hm hy hv; exact absurd hm (by omega)
  | succ fu ih =>
    intro v y hm hy hv
    have n0 := hci.1
    refine mv_iload_n dX11_scores_4 rfl ?_
    refine mv_aload_n dX11_scores_5 rfl ?_
    refine mv_getf (ci := 11) (f := 7) dX11_scores_6 H0 rfl (by decide) wd_383 rfl ?_
    refine mv_cV0 (ci := 1) dX11_scores_9 lk_X11_scores_173 HC rfl (Nat.le_of_ble_eq_true rfl) (Nat.le_of_ble_eq_true rfl) (k_X1_size (ev := ev) HC) ?_
    refine mv_icmp_ge (tgt := 32) dX11_scores_12 (by decide) (fun c12 => ?_) (fun c12 => ?_)
    · have c12 : c.1 ≤ y := (nI_leI (by omega) (by omega)).mp c12
      refine mv_iload_n dX11_scores_32 rfl ?_
      exact mv_iret dX11_scores_33 rfl rfl ⟨(congrArg (fun z => some (Value.int z)) (by have e : y = c.1 := (by omega); subst e; exact hv)), rfl⟩
    · have c12 : ¬ (c.1 ≤ y) := fun z => c12 ((nI_leI (by omega) (by omega)).mpr z)
      refine mv_iload_n dX11_scores_15 rfl ?_
      refine mv_aload_n dX11_scores_16 rfl ?_
      refine mv_getf (ci := 11) (f := 7) dX11_scores_17 H0 rfl (by decide) wd_383 rfl ?_
      refine mv_iload_n dX11_scores_20 rfl ?_
      refine mv_cV1 (ci := 1) dX11_scores_21 lk_X11_scores_274 HC rfl (Nat.le_of_ble_eq_true rfl) (Nat.le_of_ble_eq_true rfl) (k_X1_scoreOf (ev := ev) HC C35 C36 C37 C38 C39 C40 C41 HF HL HV HB H8 H9 H10 hci (by omega) hw hb) ?_
      refine mv_iadd dX11_scores_24 ?_
      refine mv_istore_n dX11_scores_25 (by decide) ?_
      refine mv_iinc (v := nI (y + 1)) dX11_scores_26 rfl (mv_inc y 1) (by decide) ?_
      refine mv_goto (tgt := 4) dX11_scores_29 (by decide) ?_
      exact ih (v + (q_sc ln c b y)) (y + 1) (by omega) (by omega) (by rw [q_ssm_s, ← hv])
set_option maxRecDepth 100000 in
theorem k_X11_scores_G {ev : mv_E} {h : mv_H} {c : q_C} {lw : Nat → Int32} {ln : Nat → Nat} {b : t_B} {t : Nat} {dd : Nat} (H0 : h[0]? = some (.inr (11, [.ref 1, .ref 3, .ref 7, .ref 11, .ref 21, .ref 22, .ref 32, .ref 34, .ref 42, .ref 45, .ref 48]))) (HC : h[34]? = some (.inr (1, [.ref 21, .ref 7, .ref 35, .ref 36, .ref 37, .ref 38, .ref 39, .ref 40, .ref 41, .int (nI c.1)]))) (C35 : h[35]? = some (.inl (0, 12, .inl (fun j => nI (c.2.1 j))))) (C36 : h[36]? = some (.inl (0, 12, .inl (fun j => nI (c.2.2.1 j))))) (C37 : h[37]? = some (.inl (0, 12, .inl (fun j => nI (c.2.2.2.1 j))))) (C38 : h[38]? = some (.inl (0, 12, .inl (fun j => nI (c.2.2.2.2.1 j))))) (C39 : h[39]? = some (.inl (0, 12, .inl (fun j => nI (c.2.2.2.2.2.1 j))))) (C40 : h[40]? = some (.inl (0, 12, .inl (fun j => nI (c.2.2.2.2.2.2.1 j))))) (C41 : h[41]? = some (.inl (0, 12, .inl (fun j => nI (c.2.2.2.2.2.2.2 j))))) (HF : h[21]? = some (.inr (3, [.ref 1, .ref 7]))) (HL : h[1]? = some (.inr (5, [.ref 2]))) (HV : h[2]? = some (.inl (0, 8, .inl lw))) (HB : h[7]? = some (.inr (0, [.ref 8, .ref 9, .ref 10, .int (nI b.1), .int (nI t), .int (nI b.2.1)]))) (H8 : h[8]? = some (.inl (0, 60, .inl (fun j => nI (b.2.2.1 j))))) (H9 : h[9]? = some (.inl (0, 60, .inl (fun j => nI (b.2.2.2.1 j))))) (H10 : h[10]? = some (.inl (0, 60, .inl (fun j => nI (b.2.2.2.2 j))))) (hci : q_CI c) (hw : q_LW lw ln) (hb : q_BI dd b) : mv_K ev mX11_scores [.ref 0] h (some (.int (q_ssm (q_sc ln c b) c.1))) h := by
  refine mv_Kof ?_
  show mv_g ev mX11_scores 0 [.ref 0, .null, .null] [] h _
  have n0 := hci.1
  refine mv_iconst (v := nI 0) dX11_scores_0 (by decide) ?_
  refine mv_istore_n dX11_scores_1 (by decide) ?_
  refine mv_iconst (v := nI 0) dX11_scores_2 (by decide) ?_
  refine mv_istore_n dX11_scores_3 (by decide) ?_
  exact l_X11_scores H0 HC C35 C36 C37 C38 C39 C40 C41 HF HL HV HB H8 H9 H10 hci hw hb (c.1 + 1) (nI 0) 0 (by omega) (Nat.zero_le _) rfl
set_option maxRecDepth 100000 in
theorem k_X11_town_R1 {ev : mv_E} {h : mv_H} {p : Int32} {x : Int32} {lc : Int32} {sc : Int32} {li : Int32} {a : Int32} {e : Int32} {w : Int32}  (hno : ¬ ((nI 0 ≤ p ∧ p ≤ nI 63))) : mv_K ev mX11_town [.ref 0, .int p, .int x, .int lc, .int sc, .int li, .int a, .int e, .int w] h (some (.int (-1001))) h := by
  refine mv_Kof ?_
  show mv_g ev mX11_town 0 [.ref 0, .int p, .int x, .int lc, .int sc, .int li, .int a, .int e, .int w] [] h _
  refine mv_iload_n dX11_town_0 rfl ?_
  refine mv_cS1 dX11_town_1 lk_X11_town_120 (Nat.le_of_ble_eq_true rfl) (Nat.le_of_ble_eq_true rfl) (k_X11_isPlace (ev := ev)) ?_
  refine mv_if_ne (tgt := 11) dX11_town_4 (by decide) (fun c4 => ?_) (fun c4 => ?_)
  · have c4 : nI 0 ≤ p ∧ p ≤ nI 63 := Classical.byContradiction (fun z => c4 ((mv_b_0 _).mpr z))
    exact absurd (by assumption) hno
  · have c4 : ¬ (nI 0 ≤ p ∧ p ≤ nI 63) := (mv_b_0 _).mp c4
    refine mv_sipush (v := (-1001)) dX11_town_7 (by decide) ?_
    exact mv_iret dX11_town_10 rfl rfl ⟨rfl, rfl⟩
set_option maxRecDepth 100000 in
theorem k_X11_town_R2 {ev : mv_E} {h : mv_H} {p : Nat} {x : Int32} {lc : Int32} {sc : Int32} {li : Int32} {a : Int32} {e : Int32} {w : Int32}  (hp : p < 64) (hno : ¬ ((nI 1 ≤ x ∧ x ≤ nI 9) ∧ (nI 1 ≤ lc ∧ lc ≤ nI 999) ∧ (nI 1 ≤ sc ∧ sc ≤ nI 9999) ∧ (nI 1 ≤ a ∧ a ≤ nI 399) ∧ (a ≤ e ∧ e ≤ nI 399) ∧ (nI 0 ≤ li ∧ li ≤ nI 1000001) ∧ (nI 0 ≤ w ∧ w ≤ nI 3))) : mv_K ev mX11_town [.ref 0, .int (nI p), .int x, .int lc, .int sc, .int li, .int a, .int e, .int w] h (some (.int (-1002))) h := by
  refine mv_Kof ?_
  show mv_g ev mX11_town 0 [.ref 0, .int (nI p), .int x, .int lc, .int sc, .int li, .int a, .int e, .int w] [] h _
  refine mv_iload_n dX11_town_0 rfl ?_
  refine mv_cS1 dX11_town_1 lk_X11_town_120 (Nat.le_of_ble_eq_true rfl) (Nat.le_of_ble_eq_true rfl) (k_X11_isPlace (ev := ev)) ?_
  refine mv_if_ne (tgt := 11) dX11_town_4 (by decide) (fun c4 => ?_) (fun z => absurd z ((fun z => (mv_b_0 _).mp z (mv_in_i (by omega) (by omega) (by omega)))))
  refine mv_iload_n dX11_town_11 rfl ?_
  refine mv_iload_n dX11_town_12 rfl ?_
  refine mv_iload dX11_town_13 rfl ?_
  refine mv_iload dX11_town_15 rfl ?_
  refine mv_iload dX11_town_17 rfl ?_
  refine mv_cS5 dX11_town_19 lk_X11_town_277 (Nat.le_of_ble_eq_true rfl) (Nat.le_of_ble_eq_true rfl) (k_X11_areTownBounds (ev := ev)) ?_
  refine mv_if_eq (tgt := 47) dX11_town_22 (by decide) (fun c22 => ?_) (fun c22 => ?_)
  · have c22 : ¬ ((nI 1 ≤ x ∧ x ≤ nI 9) ∧ (nI 1 ≤ lc ∧ lc ≤ nI 999) ∧ (nI 1 ≤ sc ∧ sc ≤ nI 9999) ∧ (nI 1 ≤ a ∧ a ≤ nI 399) ∧ (a ≤ e ∧ e ≤ nI 399)) := (mv_b_0 _).mp c22
    refine mv_sipush (v := (-1002)) dX11_town_47 (by decide) ?_
    exact mv_iret dX11_town_50 rfl rfl ⟨rfl, rfl⟩
  · have c22 : (nI 1 ≤ x ∧ x ≤ nI 9) ∧ (nI 1 ≤ lc ∧ lc ≤ nI 999) ∧ (nI 1 ≤ sc ∧ sc ≤ nI 9999) ∧ (nI 1 ≤ a ∧ a ≤ nI 399) ∧ (a ≤ e ∧ e ≤ nI 399) := Classical.byContradiction (fun z => c22 ((mv_b_0 _).mpr z))
    refine mv_iload dX11_town_25 rfl ?_
    refine mv_iconst (v := nI 0) dX11_town_27 (by decide) ?_
    refine mv_ldcw (v := nI 1000001) dX11_town_28 wd_1039 ?_
    refine mv_cS3 dX11_town_31 lk_X11_town_96 (Nat.le_of_ble_eq_true rfl) (Nat.le_of_ble_eq_true rfl) (k_X11_within (ev := ev)) ?_
    refine mv_if_eq (tgt := 47) dX11_town_34 (by decide) (fun c34 => ?_) (fun c34 => ?_)
    · have c34 : ¬ ((nI 0) ≤ li ∧ li ≤ (nI 1000001)) := (mv_b_0 _).mp c34
      refine mv_sipush (v := (-1002)) dX11_town_47 (by decide) ?_
      exact mv_iret dX11_town_50 rfl rfl ⟨rfl, rfl⟩
    · have c34 : (nI 0) ≤ li ∧ li ≤ (nI 1000001) := Classical.byContradiction (fun z => c34 ((mv_b_0 _).mpr z))
      refine mv_iload dX11_town_37 rfl ?_
      refine mv_iconst (v := nI 0) dX11_town_39 (by decide) ?_
      refine mv_iconst (v := nI 3) dX11_town_40 (by decide) ?_
      refine mv_cS3 dX11_town_41 lk_X11_town_96 (Nat.le_of_ble_eq_true rfl) (Nat.le_of_ble_eq_true rfl) (k_X11_within (ev := ev)) ?_
      refine mv_if_ne (tgt := 51) dX11_town_44 (by decide) (fun c44 => ?_) (fun c44 => ?_)
      · have c44 : (nI 0) ≤ w ∧ w ≤ (nI 3) := Classical.byContradiction (fun z => c44 ((mv_b_0 _).mpr z))
        exact absurd ⟨c22.1, c22.2.1, c22.2.2.1, c22.2.2.2.1, c22.2.2.2.2, c34, c44⟩ hno
      · have c44 : ¬ ((nI 0) ≤ w ∧ w ≤ (nI 3)) := (mv_b_0 _).mp c44
        refine mv_sipush (v := (-1002)) dX11_town_47 (by decide) ?_
        exact mv_iret dX11_town_50 rfl rfl ⟨rfl, rfl⟩
set_option maxRecDepth 100000 in
theorem k_X11_town_G {ev : mv_E} {h : mv_H} {od : Nat → Nat} {sh : Nat → Nat} {t3 : q_3} {co : Nat} {lw : Nat → Int32} {ln : Nat → Nat} {b : t_B} {t : Nat} {p : Nat} {x : Nat} {lc : Nat} {sc : Nat} {li : Nat} {a : Nat} {e : Nat} {w : Nat} {dd : Nat} (H0 : h[0]? = some (.inr (11, [.ref 1, .ref 3, .ref 7, .ref 11, .ref 21, .ref 22, .ref 32, .ref 34, .ref 42, .ref 45, .ref 48]))) (H42 : h[42]? = some (.inr (9, [.ref 21, .ref 7, .ref 43, .ref 44, .int (nI t3.1), .int (nI t3.2.1), .int (nI t3.2.2), .int (nI co)]))) (T43 : h[43]? = some (.inl (0, 400, .inl (fun j => nI (od j))))) (T44 : h[44]? = some (.inl (0, 400, .inl (fun j => nI (sh j))))) (HF : h[21]? = some (.inr (3, [.ref 1, .ref 7]))) (HL : h[1]? = some (.inr (5, [.ref 2]))) (HV : h[2]? = some (.inl (0, 8, .inl lw))) (HB : h[7]? = some (.inr (0, [.ref 8, .ref 9, .ref 10, .int (nI b.1), .int (nI t), .int (nI b.2.1)]))) (H8 : h[8]? = some (.inl (0, 60, .inl (fun j => nI (b.2.2.1 j))))) (H9 : h[9]? = some (.inl (0, 60, .inl (fun j => nI (b.2.2.2.1 j))))) (H10 : h[10]? = some (.inl (0, 60, .inl (fun j => nI (b.2.2.2.2 j))))) (hw : q_LW lw ln) (hb : q_BI dd b) (hp : p < 64) (hz1 : 1 ≤ x) (hz9 : x ≤ 9) (hl1 : 1 ≤ lc) (hl : lc ≤ 999) (hs1 : 1 ≤ sc) (hsc : sc ≤ 9999) (ha : 1 ≤ a) (hae : a ≤ e) (he : e ≤ 399) (hli : li ≤ 1000001) (hw3 : w ≤ 3) : ∃ h2, mv_K ev mX11_town [.ref 0, .int (nI p), .int (nI x), .int (nI lc), .int (nI sc), .int (nI li), .int (nI a), .int (nI e), .int (nI w)] h (some (.int (nI (q_to (q_tw (q_fil (q_tO ln b p x) od a (e + 1)) (q_fil (q_tS b p x) sh a (e + 1)) li a (e + 1 - a)) (q_co (q_fil (q_tO ln b p x) od a (e + 1)) (q_fil (q_tS b p x) sh a (e + 1)) a e lc sc li) w)))) h2 ∧ mv_fra [42, 43, 44] h h2 ∧ h2[42]? = some (.inr (9, [.ref 21, .ref 7, .ref 43, .ref 44, .int (nI (q_tw (q_fil (q_tO ln b p x) od a (e + 1)) (q_fil (q_tS b p x) sh a (e + 1)) li a (e + 1 - a)).1), .int (nI (q_tw (q_fil (q_tO ln b p x) od a (e + 1)) (q_fil (q_tS b p x) sh a (e + 1)) li a (e + 1 - a)).2.1), .int (nI (q_tw (q_fil (q_tO ln b p x) od a (e + 1)) (q_fil (q_tS b p x) sh a (e + 1)) li a (e + 1 - a)).2.2), .int (nI (q_co (q_fil (q_tO ln b p x) od a (e + 1)) (q_fil (q_tS b p x) sh a (e + 1)) a e lc sc li))])) ∧ h2[43]? = some (.inl (0, 400, .inl (fun j => nI (q_fil (q_tO ln b p x) od a (e + 1) j)))) ∧ h2[44]? = some (.inl (0, 400, .inl (fun j => nI (q_fil (q_tS b p x) sh a (e + 1) j)))) := by
  suffices g0 : mv_g ev mX11_town 0 (mv_ent [.ref 0, .int (nI p), .int (nI x), .int (nI lc), .int (nI sc), .int (nI li), .int (nI a), .int (nI e), .int (nI w)] (mv_ml mX11_town)) [] h (fun r g => r = some (.int (nI (q_to (q_tw (q_fil (q_tO ln b p x) od a (e + 1)) (q_fil (q_tS b p x) sh a (e + 1)) li a (e + 1 - a)) (q_co (q_fil (q_tO ln b p x) od a (e + 1)) (q_fil (q_tS b p x) sh a (e + 1)) a e lc sc li) w))) ∧ mv_fra [42, 43, 44] h g ∧ g[42]? = some (.inr (9, [.ref 21, .ref 7, .ref 43, .ref 44, .int (nI (q_tw (q_fil (q_tO ln b p x) od a (e + 1)) (q_fil (q_tS b p x) sh a (e + 1)) li a (e + 1 - a)).1), .int (nI (q_tw (q_fil (q_tO ln b p x) od a (e + 1)) (q_fil (q_tS b p x) sh a (e + 1)) li a (e + 1 - a)).2.1), .int (nI (q_tw (q_fil (q_tO ln b p x) od a (e + 1)) (q_fil (q_tS b p x) sh a (e + 1)) li a (e + 1 - a)).2.2), .int (nI (q_co (q_fil (q_tO ln b p x) od a (e + 1)) (q_fil (q_tS b p x) sh a (e + 1)) a e lc sc li))])) ∧ g[43]? = some (.inl (0, 400, .inl (fun j => nI (q_fil (q_tO ln b p x) od a (e + 1) j)))) ∧ g[44]? = some (.inl (0, 400, .inl (fun j => nI (q_fil (q_tS b p x) sh a (e + 1) j))))) from (by obtain ⟨r0, h0, K0, q0, Q0⟩ := mv_Kex g0; subst q0; exact ⟨h0, K0, Q0⟩)
  show mv_g ev mX11_town 0 [.ref 0, .int (nI p), .int (nI x), .int (nI lc), .int (nI sc), .int (nI li), .int (nI a), .int (nI e), .int (nI w)] [] h _
  have fr : mv_fra [42, 43, 44] h h := mv_fra.rf
  have n0 := hb.1
  have ho2 : ∀ d, a ≤ d → d ≤ e → (q_fil (q_tO ln b p x) od a (e + 1)) d ≤ 1000000 := (fun d h1 h2 => by rw [q_fil_in ⟨h1, by omega⟩]; exact q_tO_le _ _ _ _ _)
  have hs2 : ∀ d, a ≤ d → d ≤ e → (q_fil (q_tS b p x) sh a (e + 1)) d ≤ 60 := (fun d h1 h2 => by rw [q_fil_in ⟨h1, by omega⟩]; exact Nat.le_trans (q_tS_le _ _ _ _) n0)
  refine mv_iload_n dX11_town_0 rfl ?_
  refine mv_cS1 dX11_town_1 lk_X11_town_120 (Nat.le_of_ble_eq_true rfl) (Nat.le_of_ble_eq_true rfl) (k_X11_isPlace (ev := ev)) ?_
  refine mv_if_ne (tgt := 11) dX11_town_4 (by decide) (fun c4 => ?_) (fun z => absurd z ((fun z => (mv_b_0 _).mp z (mv_in_i (by omega) (by omega) (by omega)))))
  refine mv_iload_n dX11_town_11 rfl ?_
  refine mv_iload_n dX11_town_12 rfl ?_
  refine mv_iload dX11_town_13 rfl ?_
  refine mv_iload dX11_town_15 rfl ?_
  refine mv_iload dX11_town_17 rfl ?_
  refine mv_cS5 dX11_town_19 lk_X11_town_277 (Nat.le_of_ble_eq_true rfl) (Nat.le_of_ble_eq_true rfl) (k_X11_areTownBounds (ev := ev)) ?_
  refine mv_if_eq (tgt := 47) dX11_town_22 (by decide) (fun z => absurd z ((fun z => (mv_b_0 _).mp z ⟨mv_in_i hz1 hz9 (by decide), mv_in_i hl1 hl (by decide), mv_in_i hs1 hsc (by decide), mv_in_i ha (by omega) (by decide), (nI_leI (by omega) (by omega)).mpr hae, (nI_leI (by omega) (by decide)).mpr he⟩))) (fun c22 => ?_)
  refine mv_iload dX11_town_25 rfl ?_
  refine mv_iconst (v := nI 0) dX11_town_27 (by decide) ?_
  refine mv_ldcw (v := nI 1000001) dX11_town_28 wd_1039 ?_
  refine mv_cS3 dX11_town_31 lk_X11_town_96 (Nat.le_of_ble_eq_true rfl) (Nat.le_of_ble_eq_true rfl) (k_X11_within (ev := ev)) ?_
  refine mv_if_eq (tgt := 47) dX11_town_34 (by decide) (fun z => absurd z ((fun z => (mv_b_0 _).mp z (mv_in_i (by omega) (by omega) (by omega))))) (fun c34 => ?_)
  refine mv_iload dX11_town_37 rfl ?_
  refine mv_iconst (v := nI 0) dX11_town_39 (by decide) ?_
  refine mv_iconst (v := nI 3) dX11_town_40 (by decide) ?_
  refine mv_cS3 dX11_town_41 lk_X11_town_96 (Nat.le_of_ble_eq_true rfl) (Nat.le_of_ble_eq_true rfl) (k_X11_within (ev := ev)) ?_
  refine mv_if_ne (tgt := 51) dX11_town_44 (by decide) (fun c44 => ?_) (fun z => absurd z ((fun z => (mv_b_0 _).mp z (mv_in_i (by omega) (by omega) (by omega)))))
  refine mv_aload_n dX11_town_51 rfl ?_
  refine mv_getf (ci := 11) (f := 8) dX11_town_52 H0 rfl (by decide) wd_384 rfl ?_
  refine mv_iload_n dX11_town_55 rfl ?_
  refine mv_iload_n dX11_town_56 rfl ?_
  refine mv_iload dX11_town_57 rfl ?_
  refine mv_iload dX11_town_59 rfl ?_
  obtain ⟨h1, K2, f3, y4, y5⟩ := (k_X9_learn (ev := ev) (od := od) (sh := sh) (t3 := t3) (co := co) (lw := lw) (ln := ln) (b := b) (t := t) (p := p) (z := x) (a := a) (e := e) (dd := dd) H42 T43 T44 HF HL HV HB H8 H9 H10 hw hb hp hz1 hz9 ha hae he)
  refine mv_cV4 (ci := 9) dX11_town_61 lk_X11_town_282 H42 rfl (Nat.le_of_ble_eq_true rfl) (Nat.le_of_ble_eq_true rfl) K2 ?_
  have H0 := f3.get (by decide) H0
  have H42 := f3.get (by decide) H42
  have T43 : h1[43]? = some (.inl (0, 400, .inl (fun j => nI (q_fil (q_tO ln b p x) od a (e + 1) j)))) := y4
  have T44 : h1[44]? = some (.inl (0, 400, .inl (fun j => nI (q_fil (q_tS b p x) sh a (e + 1) j)))) := y5
  have HF := f3.get (by decide) HF
  have HL := f3.get (by decide) HL
  have HV := f3.get (by decide) HV
  have HB := f3.get (by decide) HB
  have H8 := f3.get (by decide) H8
  have H9 := f3.get (by decide) H9
  have H10 := f3.get (by decide) H10
  have fr := fr.trans f3 (by decide)
  refine mv_aload_n dX11_town_64 rfl ?_
  refine mv_getf (ci := 11) (f := 8) dX11_town_65 H0 rfl (by decide) wd_384 rfl ?_
  refine mv_iload dX11_town_68 rfl ?_
  refine mv_iload_n dX11_town_70 rfl ?_
  refine mv_iload dX11_town_71 rfl ?_
  refine mv_iload dX11_town_73 rfl ?_
  refine mv_iload dX11_town_75 rfl ?_
  obtain ⟨h6, K7, f8, y9⟩ := (k_X9_liveBy (ev := ev) (od := q_fil (q_tO ln b p x) od a (e + 1)) (sh := q_fil (q_tS b p x) sh a (e + 1)) (t3 := t3) (co := co) (li := li) (lc := lc) (sc := sc) (a := a) (e := e) H42 T43 T44 ho2 hs2 hli hae he)
  refine mv_cV5 (ci := 9) dX11_town_77 lk_X11_town_285 H42 rfl (Nat.le_of_ble_eq_true rfl) (Nat.le_of_ble_eq_true rfl) K7 ?_
  have H0 := f8.get (by decide) H0
  have H42 : h6[42]? = some (.inr (9, [.ref 21, .ref 7, .ref 43, .ref 44, .int (nI (q_tw (q_fil (q_tO ln b p x) od a (e + 1)) (q_fil (q_tS b p x) sh a (e + 1)) li a (e + 1 - a)).1), .int (nI (q_tw (q_fil (q_tO ln b p x) od a (e + 1)) (q_fil (q_tS b p x) sh a (e + 1)) li a (e + 1 - a)).2.1), .int (nI (q_tw (q_fil (q_tO ln b p x) od a (e + 1)) (q_fil (q_tS b p x) sh a (e + 1)) li a (e + 1 - a)).2.2), .int (nI (q_co (q_fil (q_tO ln b p x) od a (e + 1)) (q_fil (q_tS b p x) sh a (e + 1)) a e lc sc li))])) := y9
  have T43 := f8.get (by decide) T43
  have T44 := f8.get (by decide) T44
  have HF := f8.get (by decide) HF
  have HL := f8.get (by decide) HL
  have HV := f8.get (by decide) HV
  have HB := f8.get (by decide) HB
  have H8 := f8.get (by decide) H8
  have H9 := f8.get (by decide) H9
  have H10 := f8.get (by decide) H10
  have fr := fr.trans f8 (by decide)
  refine mv_aload_n dX11_town_80 rfl ?_
  refine mv_getf (ci := 11) (f := 8) dX11_town_81 H0 rfl (by decide) wd_384 rfl ?_
  refine mv_iload dX11_town_84 rfl ?_
  refine mv_cV1 (ci := 9) dX11_town_86 lk_X11_town_289 H42 rfl (Nat.le_of_ble_eq_true rfl) (Nat.le_of_ble_eq_true rfl) (k_X9_outcome (ev := ev) H42 hw3) ?_
  exact mv_iret dX11_town_89 rfl rfl ⟨rfl, fr, H42, T43, T44⟩
set_option maxRecDepth 100000 in
theorem k_X11_bestLine_R1 {ev : mv_E} {h : mv_H} {p : Int32} {x : Int32} {lc : Int32} {sc : Int32} {a : Int32} {e : Int32}  (hno : ¬ ((nI 0 ≤ p ∧ p ≤ nI 63))) : mv_K ev mX11_bestLine [.ref 0, .int p, .int x, .int lc, .int sc, .int a, .int e] h (some (.int (-1001))) h := by
  refine mv_Kof ?_
  show mv_g ev mX11_bestLine 0 [.ref 0, .int p, .int x, .int lc, .int sc, .int a, .int e] [] h _
  refine mv_iload_n dX11_bestLine_0 rfl ?_
  refine mv_cS1 dX11_bestLine_1 lk_X11_bestLine_120 (Nat.le_of_ble_eq_true rfl) (Nat.le_of_ble_eq_true rfl) (k_X11_isPlace (ev := ev)) ?_
  refine mv_if_ne (tgt := 11) dX11_bestLine_4 (by decide) (fun c4 => ?_) (fun c4 => ?_)
  · have c4 : nI 0 ≤ p ∧ p ≤ nI 63 := Classical.byContradiction (fun z => c4 ((mv_b_0 _).mpr z))
    exact absurd (by assumption) hno
  · have c4 : ¬ (nI 0 ≤ p ∧ p ≤ nI 63) := (mv_b_0 _).mp c4
    refine mv_sipush (v := (-1001)) dX11_bestLine_7 (by decide) ?_
    exact mv_iret dX11_bestLine_10 rfl rfl ⟨rfl, rfl⟩
set_option maxRecDepth 100000 in
theorem k_X11_bestLine_R2 {ev : mv_E} {h : mv_H} {p : Nat} {x : Int32} {lc : Int32} {sc : Int32} {a : Int32} {e : Int32}  (hp : p < 64) (hno : ¬ ((nI 1 ≤ x ∧ x ≤ nI 9) ∧ (nI 1 ≤ lc ∧ lc ≤ nI 999) ∧ (nI 1 ≤ sc ∧ sc ≤ nI 9999) ∧ (nI 1 ≤ a ∧ a ≤ nI 399) ∧ (a ≤ e ∧ e ≤ nI 399))) : mv_K ev mX11_bestLine [.ref 0, .int (nI p), .int x, .int lc, .int sc, .int a, .int e] h (some (.int (-1002))) h := by
  refine mv_Kof ?_
  show mv_g ev mX11_bestLine 0 [.ref 0, .int (nI p), .int x, .int lc, .int sc, .int a, .int e] [] h _
  refine mv_iload_n dX11_bestLine_0 rfl ?_
  refine mv_cS1 dX11_bestLine_1 lk_X11_bestLine_120 (Nat.le_of_ble_eq_true rfl) (Nat.le_of_ble_eq_true rfl) (k_X11_isPlace (ev := ev)) ?_
  refine mv_if_ne (tgt := 11) dX11_bestLine_4 (by decide) (fun c4 => ?_) (fun z => absurd z ((fun z => (mv_b_0 _).mp z (mv_in_i (by omega) (by omega) (by omega)))))
  refine mv_iload_n dX11_bestLine_11 rfl ?_
  refine mv_iload_n dX11_bestLine_12 rfl ?_
  refine mv_iload dX11_bestLine_13 rfl ?_
  refine mv_iload dX11_bestLine_15 rfl ?_
  refine mv_iload dX11_bestLine_17 rfl ?_
  refine mv_cS5 dX11_bestLine_19 lk_X11_bestLine_277 (Nat.le_of_ble_eq_true rfl) (Nat.le_of_ble_eq_true rfl) (k_X11_areTownBounds (ev := ev)) ?_
  refine mv_if_ne (tgt := 29) dX11_bestLine_22 (by decide) (fun c22 => ?_) (fun c22 => ?_)
  · have c22 : (nI 1 ≤ x ∧ x ≤ nI 9) ∧ (nI 1 ≤ lc ∧ lc ≤ nI 999) ∧ (nI 1 ≤ sc ∧ sc ≤ nI 9999) ∧ (nI 1 ≤ a ∧ a ≤ nI 399) ∧ (a ≤ e ∧ e ≤ nI 399) := Classical.byContradiction (fun z => c22 ((mv_b_0 _).mpr z))
    exact absurd c22 hno
  · have c22 : ¬ ((nI 1 ≤ x ∧ x ≤ nI 9) ∧ (nI 1 ≤ lc ∧ lc ≤ nI 999) ∧ (nI 1 ≤ sc ∧ sc ≤ nI 9999) ∧ (nI 1 ≤ a ∧ a ≤ nI 399) ∧ (a ≤ e ∧ e ≤ nI 399)) := (mv_b_0 _).mp c22
    refine mv_sipush (v := (-1002)) dX11_bestLine_25 (by decide) ?_
    exact mv_iret dX11_bestLine_28 rfl rfl ⟨rfl, rfl⟩
set_option maxRecDepth 100000 in
theorem k_X11_bestLine_G {ev : mv_E} {h : mv_H} {od : Nat → Nat} {sh : Nat → Nat} {t3 : q_3} {co : Nat} {lw : Nat → Int32} {ln : Nat → Nat} {b : t_B} {t : Nat} {p : Nat} {x : Nat} {lc : Nat} {sc : Nat} {a : Nat} {e : Nat} {dd : Nat} (H0 : h[0]? = some (.inr (11, [.ref 1, .ref 3, .ref 7, .ref 11, .ref 21, .ref 22, .ref 32, .ref 34, .ref 42, .ref 45, .ref 48]))) (H42 : h[42]? = some (.inr (9, [.ref 21, .ref 7, .ref 43, .ref 44, .int (nI t3.1), .int (nI t3.2.1), .int (nI t3.2.2), .int (nI co)]))) (T43 : h[43]? = some (.inl (0, 400, .inl (fun j => nI (od j))))) (T44 : h[44]? = some (.inl (0, 400, .inl (fun j => nI (sh j))))) (HF : h[21]? = some (.inr (3, [.ref 1, .ref 7]))) (HL : h[1]? = some (.inr (5, [.ref 2]))) (HV : h[2]? = some (.inl (0, 8, .inl lw))) (HB : h[7]? = some (.inr (0, [.ref 8, .ref 9, .ref 10, .int (nI b.1), .int (nI t), .int (nI b.2.1)]))) (H8 : h[8]? = some (.inl (0, 60, .inl (fun j => nI (b.2.2.1 j))))) (H9 : h[9]? = some (.inl (0, 60, .inl (fun j => nI (b.2.2.2.1 j))))) (H10 : h[10]? = some (.inl (0, 60, .inl (fun j => nI (b.2.2.2.2 j))))) (hw : q_LW lw ln) (hb : q_BI dd b) (hp : p < 64) (hz1 : 1 ≤ x) (hz9 : x ≤ 9) (hl1 : 1 ≤ lc) (hl : lc ≤ 999) (hs1 : 1 ≤ sc) (hsc : sc ≤ 9999) (ha : 1 ≤ a) (hae : a ≤ e) (he : e ≤ 399) : ∃ h2, mv_K ev mX11_bestLine [.ref 0, .int (nI p), .int (nI x), .int (nI lc), .int (nI sc), .int (nI a), .int (nI e)] h (some (.int (nI (q_bl (q_co (q_fil (q_tO ln b p x) od a (e + 1)) (q_fil (q_tS b p x) sh a (e + 1)) a e lc sc) 51 ((q_co (q_fil (q_tO ln b p x) od a (e + 1)) (q_fil (q_tS b p x) sh a (e + 1)) a e lc sc) 1000001, 1000001)).2))) h2 ∧ mv_fra [42, 43, 44] h h2 ∧ h2[42]? = some (.inr (9, [.ref 21, .ref 7, .ref 43, .ref 44, .int (nI (q_tw (q_fil (q_tO ln b p x) od a (e + 1)) (q_fil (q_tS b p x) sh a (e + 1)) 0 a (e + 1 - a)).1), .int (nI (q_tw (q_fil (q_tO ln b p x) od a (e + 1)) (q_fil (q_tS b p x) sh a (e + 1)) 0 a (e + 1 - a)).2.1), .int (nI (q_tw (q_fil (q_tO ln b p x) od a (e + 1)) (q_fil (q_tS b p x) sh a (e + 1)) 0 a (e + 1 - a)).2.2), .int (nI (q_co (q_fil (q_tO ln b p x) od a (e + 1)) (q_fil (q_tS b p x) sh a (e + 1)) a e lc sc 0))])) ∧ h2[43]? = some (.inl (0, 400, .inl (fun j => nI (q_fil (q_tO ln b p x) od a (e + 1) j)))) ∧ h2[44]? = some (.inl (0, 400, .inl (fun j => nI (q_fil (q_tS b p x) sh a (e + 1) j)))) := by
  suffices g0 : mv_g ev mX11_bestLine 0 (mv_ent [.ref 0, .int (nI p), .int (nI x), .int (nI lc), .int (nI sc), .int (nI a), .int (nI e)] (mv_ml mX11_bestLine)) [] h (fun r g => r = some (.int (nI (q_bl (q_co (q_fil (q_tO ln b p x) od a (e + 1)) (q_fil (q_tS b p x) sh a (e + 1)) a e lc sc) 51 ((q_co (q_fil (q_tO ln b p x) od a (e + 1)) (q_fil (q_tS b p x) sh a (e + 1)) a e lc sc) 1000001, 1000001)).2)) ∧ mv_fra [42, 43, 44] h g ∧ g[42]? = some (.inr (9, [.ref 21, .ref 7, .ref 43, .ref 44, .int (nI (q_tw (q_fil (q_tO ln b p x) od a (e + 1)) (q_fil (q_tS b p x) sh a (e + 1)) 0 a (e + 1 - a)).1), .int (nI (q_tw (q_fil (q_tO ln b p x) od a (e + 1)) (q_fil (q_tS b p x) sh a (e + 1)) 0 a (e + 1 - a)).2.1), .int (nI (q_tw (q_fil (q_tO ln b p x) od a (e + 1)) (q_fil (q_tS b p x) sh a (e + 1)) 0 a (e + 1 - a)).2.2), .int (nI (q_co (q_fil (q_tO ln b p x) od a (e + 1)) (q_fil (q_tS b p x) sh a (e + 1)) a e lc sc 0))])) ∧ g[43]? = some (.inl (0, 400, .inl (fun j => nI (q_fil (q_tO ln b p x) od a (e + 1) j)))) ∧ g[44]? = some (.inl (0, 400, .inl (fun j => nI (q_fil (q_tS b p x) sh a (e + 1) j))))) from (by obtain ⟨r0, h0, K0, q0, Q0⟩ := mv_Kex g0; subst q0; exact ⟨h0, K0, Q0⟩)
  show mv_g ev mX11_bestLine 0 [.ref 0, .int (nI p), .int (nI x), .int (nI lc), .int (nI sc), .int (nI a), .int (nI e)] [] h _
  have fr : mv_fra [42, 43, 44] h h := mv_fra.rf
  have n0 := hb.1
  have ho2 : ∀ d, a ≤ d → d ≤ e → (q_fil (q_tO ln b p x) od a (e + 1)) d ≤ 1000000 := (fun d h1 h2 => by rw [q_fil_in ⟨h1, by omega⟩]; exact q_tO_le _ _ _ _ _)
  have hs2 : ∀ d, a ≤ d → d ≤ e → (q_fil (q_tS b p x) sh a (e + 1)) d ≤ 60 := (fun d h1 h2 => by rw [q_fil_in ⟨h1, by omega⟩]; exact Nat.le_trans (q_tS_le _ _ _ _) n0)
  refine mv_iload_n dX11_bestLine_0 rfl ?_
  refine mv_cS1 dX11_bestLine_1 lk_X11_bestLine_120 (Nat.le_of_ble_eq_true rfl) (Nat.le_of_ble_eq_true rfl) (k_X11_isPlace (ev := ev)) ?_
  refine mv_if_ne (tgt := 11) dX11_bestLine_4 (by decide) (fun c4 => ?_) (fun z => absurd z ((fun z => (mv_b_0 _).mp z (mv_in_i (by omega) (by omega) (by omega)))))
  refine mv_iload_n dX11_bestLine_11 rfl ?_
  refine mv_iload_n dX11_bestLine_12 rfl ?_
  refine mv_iload dX11_bestLine_13 rfl ?_
  refine mv_iload dX11_bestLine_15 rfl ?_
  refine mv_iload dX11_bestLine_17 rfl ?_
  refine mv_cS5 dX11_bestLine_19 lk_X11_bestLine_277 (Nat.le_of_ble_eq_true rfl) (Nat.le_of_ble_eq_true rfl) (k_X11_areTownBounds (ev := ev)) ?_
  refine mv_if_ne (tgt := 29) dX11_bestLine_22 (by decide) (fun c22 => ?_) (fun z => absurd z ((fun z => (mv_b_0 _).mp z ⟨mv_in_i hz1 hz9 (by decide), mv_in_i hl1 hl (by decide), mv_in_i hs1 hsc (by decide), mv_in_i ha (by omega) (by decide), (nI_leI (by omega) (by omega)).mpr hae, (nI_leI (by omega) (by decide)).mpr he⟩)))
  refine mv_aload_n dX11_bestLine_29 rfl ?_
  refine mv_getf (ci := 11) (f := 8) dX11_bestLine_30 H0 rfl (by decide) wd_384 rfl ?_
  refine mv_iload_n dX11_bestLine_33 rfl ?_
  refine mv_iload_n dX11_bestLine_34 rfl ?_
  refine mv_iload dX11_bestLine_35 rfl ?_
  refine mv_iload dX11_bestLine_37 rfl ?_
  obtain ⟨h1, K2, f3, y4, y5⟩ := (k_X9_learn (ev := ev) (od := od) (sh := sh) (t3 := t3) (co := co) (lw := lw) (ln := ln) (b := b) (t := t) (p := p) (z := x) (a := a) (e := e) (dd := dd) H42 T43 T44 HF HL HV HB H8 H9 H10 hw hb hp hz1 hz9 ha hae he)
  refine mv_cV4 (ci := 9) dX11_bestLine_39 lk_X11_bestLine_282 H42 rfl (Nat.le_of_ble_eq_true rfl) (Nat.le_of_ble_eq_true rfl) K2 ?_
  have H0 := f3.get (by decide) H0
  have H42 := f3.get (by decide) H42
  have T43 : h1[43]? = some (.inl (0, 400, .inl (fun j => nI (q_fil (q_tO ln b p x) od a (e + 1) j)))) := y4
  have T44 : h1[44]? = some (.inl (0, 400, .inl (fun j => nI (q_fil (q_tS b p x) sh a (e + 1) j)))) := y5
  have HF := f3.get (by decide) HF
  have HL := f3.get (by decide) HL
  have HV := f3.get (by decide) HV
  have HB := f3.get (by decide) HB
  have H8 := f3.get (by decide) H8
  have H9 := f3.get (by decide) H9
  have H10 := f3.get (by decide) H10
  have fr := fr.trans f3 (by decide)
  refine mv_aload_n dX11_bestLine_42 rfl ?_
  refine mv_getf (ci := 11) (f := 8) dX11_bestLine_43 H0 rfl (by decide) wd_384 rfl ?_
  refine mv_iload_n dX11_bestLine_46 rfl ?_
  refine mv_iload dX11_bestLine_47 rfl ?_
  refine mv_iload dX11_bestLine_49 rfl ?_
  refine mv_iload dX11_bestLine_51 rfl ?_
  obtain ⟨h6, K7, f8, y9⟩ := (k_X9_cheapestLine (ev := ev) (od := q_fil (q_tO ln b p x) od a (e + 1)) (sh := q_fil (q_tS b p x) sh a (e + 1)) (t3 := t3) (co := co) (lc := lc) (sc := sc) (a := a) (e := e) H42 T43 T44 ho2 hs2 hae he hl hsc)
  refine mv_cV4 (ci := 9) dX11_bestLine_53 lk_X11_bestLine_292 H42 rfl (Nat.le_of_ble_eq_true rfl) (Nat.le_of_ble_eq_true rfl) K7 ?_
  have H0 := f8.get (by decide) H0
  have H42 : h6[42]? = some (.inr (9, [.ref 21, .ref 7, .ref 43, .ref 44, .int (nI (q_tw (q_fil (q_tO ln b p x) od a (e + 1)) (q_fil (q_tS b p x) sh a (e + 1)) 0 a (e + 1 - a)).1), .int (nI (q_tw (q_fil (q_tO ln b p x) od a (e + 1)) (q_fil (q_tS b p x) sh a (e + 1)) 0 a (e + 1 - a)).2.1), .int (nI (q_tw (q_fil (q_tO ln b p x) od a (e + 1)) (q_fil (q_tS b p x) sh a (e + 1)) 0 a (e + 1 - a)).2.2), .int (nI (q_co (q_fil (q_tO ln b p x) od a (e + 1)) (q_fil (q_tS b p x) sh a (e + 1)) a e lc sc 0))])) := y9
  have T43 := f8.get (by decide) T43
  have T44 := f8.get (by decide) T44
  have HF := f8.get (by decide) HF
  have HL := f8.get (by decide) HL
  have HV := f8.get (by decide) HV
  have HB := f8.get (by decide) HB
  have H8 := f8.get (by decide) H8
  have H9 := f8.get (by decide) H9
  have H10 := f8.get (by decide) H10
  have fr := fr.trans f8 (by decide)
  exact mv_iret dX11_bestLine_56 rfl rfl ⟨rfl, fr, H42, T43, T44⟩
set_option maxRecDepth 100000 in
theorem k_X11_luck_R1 {ev : mv_E} {h : mv_H} {n : Int32} {p : Int32} {k : Int32}  (hno : ¬ ((nI 1 ≤ n ∧ n ≤ nI 200) ∧ (nI 0 ≤ p ∧ p ≤ nI 1000) ∧ (nI 0 ≤ k ∧ k ≤ n))) : mv_K ev mX11_luck [.ref 0, .int n, .int p, .int k] h (some (.int (-1002))) h := by
  refine mv_Kof ?_
  show mv_g ev mX11_luck 0 [.ref 0, .int n, .int p, .int k] [] h _
  refine mv_iload_n dX11_luck_0 rfl ?_
  refine mv_iconst (v := nI 1) dX11_luck_1 (by decide) ?_
  refine mv_sipush (v := nI 200) dX11_luck_2 (by decide) ?_
  refine mv_cS3 dX11_luck_5 lk_X11_luck_96 (Nat.le_of_ble_eq_true rfl) (Nat.le_of_ble_eq_true rfl) (k_X11_within (ev := ev)) ?_
  refine mv_if_eq (tgt := 27) dX11_luck_8 (by decide) (fun c8 => ?_) (fun c8 => ?_)
  · have c8 : ¬ ((nI 1) ≤ n ∧ n ≤ (nI 200)) := (mv_b_0 _).mp c8
    refine mv_sipush (v := (-1002)) dX11_luck_27 (by decide) ?_
    exact mv_iret dX11_luck_30 rfl rfl ⟨rfl, rfl⟩
  · have c8 : (nI 1) ≤ n ∧ n ≤ (nI 200) := Classical.byContradiction (fun z => c8 ((mv_b_0 _).mpr z))
    refine mv_iload_n dX11_luck_11 rfl ?_
    refine mv_cS1 dX11_luck_12 lk_X11_luck_295 (Nat.le_of_ble_eq_true rfl) (Nat.le_of_ble_eq_true rfl) (k_X11_isThousandth (ev := ev)) ?_
    refine mv_if_eq (tgt := 27) dX11_luck_15 (by decide) (fun c15 => ?_) (fun c15 => ?_)
    · have c15 : ¬ (nI 0 ≤ p ∧ p ≤ nI 1000) := (mv_b_0 _).mp c15
      refine mv_sipush (v := (-1002)) dX11_luck_27 (by decide) ?_
      exact mv_iret dX11_luck_30 rfl rfl ⟨rfl, rfl⟩
    · have c15 : nI 0 ≤ p ∧ p ≤ nI 1000 := Classical.byContradiction (fun z => c15 ((mv_b_0 _).mpr z))
      refine mv_iload_n dX11_luck_18 rfl ?_
      refine mv_iconst (v := nI 0) dX11_luck_19 (by decide) ?_
      refine mv_iload_n dX11_luck_20 rfl ?_
      refine mv_cS3 dX11_luck_21 lk_X11_luck_96 (Nat.le_of_ble_eq_true rfl) (Nat.le_of_ble_eq_true rfl) (k_X11_within (ev := ev)) ?_
      refine mv_if_ne (tgt := 31) dX11_luck_24 (by decide) (fun c24 => ?_) (fun c24 => ?_)
      · have c24 : (nI 0) ≤ k ∧ k ≤ n := Classical.byContradiction (fun z => c24 ((mv_b_0 _).mpr z))
        exact absurd (by refine ⟨?_, ?_, ?_⟩ <;> assumption) hno
      · have c24 : ¬ ((nI 0) ≤ k ∧ k ≤ n) := (mv_b_0 _).mp c24
        refine mv_sipush (v := (-1002)) dX11_luck_27 (by decide) ?_
        exact mv_iret dX11_luck_30 rfl rfl ⟨rfl, rfl⟩
set_option maxRecDepth 100000 in
theorem k_X11_luck_G {ev : mv_E} {h : mv_H} {f : Nat → Nat} {fo : Int32} {n : Nat} {p : Nat} {k : Nat} (H0 : h[0]? = some (.inr (11, [.ref 1, .ref 3, .ref 7, .ref 11, .ref 21, .ref 22, .ref 32, .ref 34, .ref 42, .ref 45, .ref 48]))) (HM : h[45]? = some (.inr (2, [.ref 46, .ref 47, .int fo]))) (H46 : h[46]? = some (.inl (1, 201, .inr (.inl (fun j => lN (f j)))))) (hf : ∀ i, f i ≤ 1000000) (hn1 : 1 ≤ n) (hn : n ≤ 200) (hp : p ≤ 1000) (hk : k ≤ n) : ∃ h2, mv_K ev mX11_luck [.ref 0, .int (nI n), .int (nI p), .int (nI k)] h (some (.int (nI (q_sm (q_rows p (q_bg f 201) n) k (n + 1 - k))))) h2 ∧ mv_fra [46] h h2 ∧ h2[46]? = some (.inl (1, 201, .inr (.inl (fun j => lN ((q_rows p (q_bg f 201) n) j))))) := by
  suffices g0 : mv_g ev mX11_luck 0 (mv_ent [.ref 0, .int (nI n), .int (nI p), .int (nI k)] (mv_ml mX11_luck)) [] h (fun r g => r = some (.int (nI (q_sm (q_rows p (q_bg f 201) n) k (n + 1 - k)))) ∧ mv_fra [46] h g ∧ g[46]? = some (.inl (1, 201, .inr (.inl (fun j => lN ((q_rows p (q_bg f 201) n) j)))))) from (by obtain ⟨r0, h0, K0, q0, Q0⟩ := mv_Kex g0; subst q0; exact ⟨h0, K0, Q0⟩)
  show mv_g ev mX11_luck 0 [.ref 0, .int (nI n), .int (nI p), .int (nI k)] [] h _
  have fr : mv_fra [46] h h := mv_fra.rf
  refine mv_iload_n dX11_luck_0 rfl ?_
  refine mv_iconst (v := nI 1) dX11_luck_1 (by decide) ?_
  refine mv_sipush (v := nI 200) dX11_luck_2 (by decide) ?_
  refine mv_cS3 dX11_luck_5 lk_X11_luck_96 (Nat.le_of_ble_eq_true rfl) (Nat.le_of_ble_eq_true rfl) (k_X11_within (ev := ev)) ?_
  refine mv_if_eq (tgt := 27) dX11_luck_8 (by decide) (fun z => absurd z ((fun z => (mv_b_0 _).mp z (mv_in_i (by omega) (by omega) (by omega))))) (fun c8 => ?_)
  refine mv_iload_n dX11_luck_11 rfl ?_
  refine mv_cS1 dX11_luck_12 lk_X11_luck_295 (Nat.le_of_ble_eq_true rfl) (Nat.le_of_ble_eq_true rfl) (k_X11_isThousandth (ev := ev)) ?_
  refine mv_if_eq (tgt := 27) dX11_luck_15 (by decide) (fun z => absurd z ((fun z => (mv_b_0 _).mp z (mv_in_i (by omega) (by omega) (by omega))))) (fun c15 => ?_)
  refine mv_iload_n dX11_luck_18 rfl ?_
  refine mv_iconst (v := nI 0) dX11_luck_19 (by decide) ?_
  refine mv_iload_n dX11_luck_20 rfl ?_
  refine mv_cS3 dX11_luck_21 lk_X11_luck_96 (Nat.le_of_ble_eq_true rfl) (Nat.le_of_ble_eq_true rfl) (k_X11_within (ev := ev)) ?_
  refine mv_if_ne (tgt := 31) dX11_luck_24 (by decide) (fun c24 => ?_) (fun z => absurd z ((fun z => (mv_b_0 _).mp z (mv_in_i (by omega) (by omega) (by omega)))))
  refine mv_aload_n dX11_luck_31 rfl ?_
  refine mv_getf (ci := 11) (f := 9) dX11_luck_32 H0 rfl (by decide) wd_385 rfl ?_
  refine mv_iload_n dX11_luck_35 rfl ?_
  refine mv_iload_n dX11_luck_36 rfl ?_
  refine mv_iload_n dX11_luck_37 rfl ?_
  obtain ⟨h1, K2, f3, y4⟩ := (k_X2_rightByLuck (ev := ev) (f := f) (fo := fo) (n := n) (p := p) (k := k) HM H46 hf hn hp hk)
  refine mv_cV3 (ci := 2) dX11_luck_38 lk_X11_luck_298 HM rfl (Nat.le_of_ble_eq_true rfl) (Nat.le_of_ble_eq_true rfl) K2 ?_
  have H0 := f3.get (by decide) H0
  have HM := f3.get (by decide) HM
  have H46 : h1[46]? = some (.inl (1, 201, .inr (.inl (fun j => lN ((q_rows p (q_bg f 201) n) j))))) := y4
  have fr := fr.trans f3 (by decide)
  exact mv_iret dX11_luck_41 rfl rfl ⟨rfl, fr, H46⟩
set_option maxRecDepth 100000 in
theorem k_X11_lake_R1 {ev : mv_E} {h : mv_H} {r1 : Int32} {t : Int32} {x : Int32} {y : Int32} {w : Int32}  (hno : ¬ ((nI 0 ≤ r1 ∧ r1 ≤ nI 1000) ∧ (nI 0 ≤ t ∧ t ≤ nI 1000) ∧ (nI 0 ≤ x ∧ x ≤ nI 1000000) ∧ (nI 0 ≤ y ∧ y ≤ nI 1000000) ∧ (nI 0 ≤ w ∧ w ≤ nI 1))) : mv_K ev mX11_lake [.ref 0, .int r1, .int t, .int x, .int y, .int w] h (some (.int (-1002))) h := by
  refine mv_Kof ?_
  show mv_g ev mX11_lake 0 [.ref 0, .int r1, .int t, .int x, .int y, .int w, .null] [] h _
  refine mv_iload_n dX11_lake_0 rfl ?_
  refine mv_cS1 dX11_lake_1 lk_X11_lake_295 (Nat.le_of_ble_eq_true rfl) (Nat.le_of_ble_eq_true rfl) (k_X11_isThousandth (ev := ev)) ?_
  refine mv_if_eq (tgt := 47) dX11_lake_4 (by decide) (fun c4 => ?_) (fun c4 => ?_)
  · have c4 : ¬ (nI 0 ≤ r1 ∧ r1 ≤ nI 1000) := (mv_b_0 _).mp c4
    refine mv_sipush (v := (-1002)) dX11_lake_47 (by decide) ?_
    exact mv_iret dX11_lake_50 rfl rfl ⟨rfl, rfl⟩
  · have c4 : nI 0 ≤ r1 ∧ r1 ≤ nI 1000 := Classical.byContradiction (fun z => c4 ((mv_b_0 _).mpr z))
    refine mv_iload_n dX11_lake_7 rfl ?_
    refine mv_cS1 dX11_lake_8 lk_X11_lake_295 (Nat.le_of_ble_eq_true rfl) (Nat.le_of_ble_eq_true rfl) (k_X11_isThousandth (ev := ev)) ?_
    refine mv_if_eq (tgt := 47) dX11_lake_11 (by decide) (fun c11 => ?_) (fun c11 => ?_)
    · have c11 : ¬ (nI 0 ≤ t ∧ t ≤ nI 1000) := (mv_b_0 _).mp c11
      refine mv_sipush (v := (-1002)) dX11_lake_47 (by decide) ?_
      exact mv_iret dX11_lake_50 rfl rfl ⟨rfl, rfl⟩
    · have c11 : nI 0 ≤ t ∧ t ≤ nI 1000 := Classical.byContradiction (fun z => c11 ((mv_b_0 _).mpr z))
      refine mv_iload_n dX11_lake_14 rfl ?_
      refine mv_iconst (v := nI 0) dX11_lake_15 (by decide) ?_
      refine mv_ldcw (v := nI 1000000) dX11_lake_16 wd_1099 ?_
      refine mv_cS3 dX11_lake_19 lk_X11_lake_96 (Nat.le_of_ble_eq_true rfl) (Nat.le_of_ble_eq_true rfl) (k_X11_within (ev := ev)) ?_
      refine mv_if_eq (tgt := 47) dX11_lake_22 (by decide) (fun c22 => ?_) (fun c22 => ?_)
      · have c22 : ¬ ((nI 0) ≤ x ∧ x ≤ (nI 1000000)) := (mv_b_0 _).mp c22
        refine mv_sipush (v := (-1002)) dX11_lake_47 (by decide) ?_
        exact mv_iret dX11_lake_50 rfl rfl ⟨rfl, rfl⟩
      · have c22 : (nI 0) ≤ x ∧ x ≤ (nI 1000000) := Classical.byContradiction (fun z => c22 ((mv_b_0 _).mpr z))
        refine mv_iload dX11_lake_25 rfl ?_
        refine mv_iconst (v := nI 0) dX11_lake_27 (by decide) ?_
        refine mv_ldcw (v := nI 1000000) dX11_lake_28 wd_1099 ?_
        refine mv_cS3 dX11_lake_31 lk_X11_lake_96 (Nat.le_of_ble_eq_true rfl) (Nat.le_of_ble_eq_true rfl) (k_X11_within (ev := ev)) ?_
        refine mv_if_eq (tgt := 47) dX11_lake_34 (by decide) (fun c34 => ?_) (fun c34 => ?_)
        · have c34 : ¬ ((nI 0) ≤ y ∧ y ≤ (nI 1000000)) := (mv_b_0 _).mp c34
          refine mv_sipush (v := (-1002)) dX11_lake_47 (by decide) ?_
          exact mv_iret dX11_lake_50 rfl rfl ⟨rfl, rfl⟩
        · have c34 : (nI 0) ≤ y ∧ y ≤ (nI 1000000) := Classical.byContradiction (fun z => c34 ((mv_b_0 _).mpr z))
          refine mv_iload dX11_lake_37 rfl ?_
          refine mv_iconst (v := nI 0) dX11_lake_39 (by decide) ?_
          refine mv_iconst (v := nI 1) dX11_lake_40 (by decide) ?_
          refine mv_cS3 dX11_lake_41 lk_X11_lake_96 (Nat.le_of_ble_eq_true rfl) (Nat.le_of_ble_eq_true rfl) (k_X11_within (ev := ev)) ?_
          refine mv_if_ne (tgt := 51) dX11_lake_44 (by decide) (fun c44 => ?_) (fun c44 => ?_)
          · have c44 : (nI 0) ≤ w ∧ w ≤ (nI 1) := Classical.byContradiction (fun z => c44 ((mv_b_0 _).mpr z))
            exact absurd (by refine ⟨?_, ?_, ?_, ?_, ?_⟩ <;> assumption) hno
          · have c44 : ¬ ((nI 0) ≤ w ∧ w ≤ (nI 1)) := (mv_b_0 _).mp c44
            refine mv_sipush (v := (-1002)) dX11_lake_47 (by decide) ?_
            exact mv_iret dX11_lake_50 rfl rfl ⟨rfl, rfl⟩
set_option maxRecDepth 100000 in
theorem k_X11_lake_G0 {ev : mv_E} {h : mv_H} {f : Nat → Nat} {gg : Nat → Nat} {fo : Int32} {r1 : Nat} {t : Nat} {x : Nat} {y : Nat} (H0 : h[0]? = some (.inr (11, [.ref 1, .ref 3, .ref 7, .ref 11, .ref 21, .ref 22, .ref 32, .ref 34, .ref 42, .ref 45, .ref 48]))) (HM : h[45]? = some (.inr (2, [.ref 46, .ref 47, .int fo]))) (H46 : h[46]? = some (.inl (1, 201, .inr (.inl (fun j => lN (f j)))))) (H47 : h[47]? = some (.inl (1, 201, .inr (.inl (fun j => lN (gg j)))))) (hf : ∀ i, f i ≤ 1000000) (hg : ∀ i, gg i ≤ 1000000) (hr : r1 ≤ 1000) (ht : t ≤ 1000) (hx : x ≤ 1000000) (hy : y ≤ 1000000) : ∃ h2, mv_K ev mX11_lake [.ref 0, .int (nI r1), .int (nI t), .int (nI x), .int (nI y), .int (nI 0)] h (some (.int (q_yr (q_lP r1 t x y (q_bg f 201) (q_bg gg 201))))) h2 ∧ mv_fra [45, 46, 47] h h2 ∧ h2[45]? = some (.inr (2, [.ref 46, .ref 47, .int ((q_lP r1 t x y (q_bg f 201) (q_bg gg 201)) (q_yn (q_lP r1 t x y (q_bg f 201) (q_bg gg 201)) 60 0))])) ∧ h2[46]? = some (.inl (1, 201, .inr (.inl (fun j => lN (q_rows r1 (q_bg f 201) (q_yn (q_lP r1 t x y (q_bg f 201) (q_bg gg 201)) 60 0) j))))) ∧ h2[47]? = some (.inl (1, 201, .inr (.inl (fun j => lN (q_rows t (q_bg gg 201) (q_yn (q_lP r1 t x y (q_bg f 201) (q_bg gg 201)) 60 0) j))))) := by
  suffices g0 : mv_g ev mX11_lake 0 (mv_ent [.ref 0, .int (nI r1), .int (nI t), .int (nI x), .int (nI y), .int (nI 0)] (mv_ml mX11_lake)) [] h (fun r g => r = some (.int (q_yr (q_lP r1 t x y (q_bg f 201) (q_bg gg 201)))) ∧ mv_fra [45, 46, 47] h g ∧ g[45]? = some (.inr (2, [.ref 46, .ref 47, .int ((q_lP r1 t x y (q_bg f 201) (q_bg gg 201)) (q_yn (q_lP r1 t x y (q_bg f 201) (q_bg gg 201)) 60 0))])) ∧ g[46]? = some (.inl (1, 201, .inr (.inl (fun j => lN (q_rows r1 (q_bg f 201) (q_yn (q_lP r1 t x y (q_bg f 201) (q_bg gg 201)) 60 0) j))))) ∧ g[47]? = some (.inl (1, 201, .inr (.inl (fun j => lN (q_rows t (q_bg gg 201) (q_yn (q_lP r1 t x y (q_bg f 201) (q_bg gg 201)) 60 0) j)))))) from (by obtain ⟨r0, h0, K0, q0, Q0⟩ := mv_Kex g0; subst q0; exact ⟨h0, K0, Q0⟩)
  show mv_g ev mX11_lake 0 [.ref 0, .int (nI r1), .int (nI t), .int (nI x), .int (nI y), .int (nI 0), .null] [] h _
  have fr : mv_fra [45, 46, 47] h h := mv_fra.rf
  refine mv_iload_n dX11_lake_0 rfl ?_
  refine mv_cS1 dX11_lake_1 lk_X11_lake_295 (Nat.le_of_ble_eq_true rfl) (Nat.le_of_ble_eq_true rfl) (k_X11_isThousandth (ev := ev)) ?_
  refine mv_if_eq (tgt := 47) dX11_lake_4 (by decide) (fun z => absurd z ((fun z => (mv_b_0 _).mp z (mv_in_i (by omega) (by omega) (by omega))))) (fun c4 => ?_)
  refine mv_iload_n dX11_lake_7 rfl ?_
  refine mv_cS1 dX11_lake_8 lk_X11_lake_295 (Nat.le_of_ble_eq_true rfl) (Nat.le_of_ble_eq_true rfl) (k_X11_isThousandth (ev := ev)) ?_
  refine mv_if_eq (tgt := 47) dX11_lake_11 (by decide) (fun z => absurd z ((fun z => (mv_b_0 _).mp z (mv_in_i (by omega) (by omega) (by omega))))) (fun c11 => ?_)
  refine mv_iload_n dX11_lake_14 rfl ?_
  refine mv_iconst (v := nI 0) dX11_lake_15 (by decide) ?_
  refine mv_ldcw (v := nI 1000000) dX11_lake_16 wd_1099 ?_
  refine mv_cS3 dX11_lake_19 lk_X11_lake_96 (Nat.le_of_ble_eq_true rfl) (Nat.le_of_ble_eq_true rfl) (k_X11_within (ev := ev)) ?_
  refine mv_if_eq (tgt := 47) dX11_lake_22 (by decide) (fun z => absurd z ((fun z => (mv_b_0 _).mp z (mv_in_i (by omega) (by omega) (by omega))))) (fun c22 => ?_)
  refine mv_iload dX11_lake_25 rfl ?_
  refine mv_iconst (v := nI 0) dX11_lake_27 (by decide) ?_
  refine mv_ldcw (v := nI 1000000) dX11_lake_28 wd_1099 ?_
  refine mv_cS3 dX11_lake_31 lk_X11_lake_96 (Nat.le_of_ble_eq_true rfl) (Nat.le_of_ble_eq_true rfl) (k_X11_within (ev := ev)) ?_
  refine mv_if_eq (tgt := 47) dX11_lake_34 (by decide) (fun z => absurd z ((fun z => (mv_b_0 _).mp z (mv_in_i (by omega) (by omega) (by omega))))) (fun c34 => ?_)
  refine mv_iload dX11_lake_37 rfl ?_
  refine mv_iconst (v := nI 0) dX11_lake_39 (by decide) ?_
  refine mv_iconst (v := nI 1) dX11_lake_40 (by decide) ?_
  refine mv_cS3 dX11_lake_41 lk_X11_lake_96 (Nat.le_of_ble_eq_true rfl) (Nat.le_of_ble_eq_true rfl) (k_X11_within (ev := ev)) ?_
  refine mv_if_ne (tgt := 51) dX11_lake_44 (by decide) (fun c44 => ?_) (fun z => absurd z ((fun z => (mv_b_0 _).mp z (mv_in_i (by omega) (by omega) (by omega)))))
  refine mv_aload_n dX11_lake_51 rfl ?_
  refine mv_getf (ci := 11) (f := 9) dX11_lake_52 H0 rfl (by decide) wd_385 rfl ?_
  refine mv_iload_n dX11_lake_55 rfl ?_
  refine mv_iload_n dX11_lake_56 rfl ?_
  refine mv_iload_n dX11_lake_57 rfl ?_
  refine mv_iload dX11_lake_58 rfl ?_
  obtain ⟨h1, K2, f3, y4, y5, y6⟩ := (k_X2_yearsToCount (ev := ev) (f := f) (gg := gg) (fo := fo) (r1 := r1) (t := t) (x := x) (y := y) HM H46 H47 hf hg hr ht hx hy)
  refine mv_cV4 (ci := 2) dX11_lake_60 lk_X11_lake_302 HM rfl (Nat.le_of_ble_eq_true rfl) (Nat.le_of_ble_eq_true rfl) K2 ?_
  have H0 := f3.get (by decide) H0
  have HM : h1[45]? = some (.inr (2, [.ref 46, .ref 47, .int ((q_lP r1 t x y (q_bg f 201) (q_bg gg 201)) (q_yn (q_lP r1 t x y (q_bg f 201) (q_bg gg 201)) 60 0))])) := y4
  have H46 : h1[46]? = some (.inl (1, 201, .inr (.inl (fun j => lN (q_rows r1 (q_bg f 201) (q_yn (q_lP r1 t x y (q_bg f 201) (q_bg gg 201)) 60 0) j))))) := y5
  have H47 : h1[47]? = some (.inl (1, 201, .inr (.inl (fun j => lN (q_rows t (q_bg gg 201) (q_yn (q_lP r1 t x y (q_bg f 201) (q_bg gg 201)) 60 0) j))))) := y6
  have fr := fr.trans f3 (by decide)
  refine mv_istore dX11_lake_63 (by decide) ?_
  refine mv_iload dX11_lake_65 rfl ?_
  refine mv_if_ne (tgt := 75) dX11_lake_67 (by decide) (fun z => absurd ((by decide)) z) (fun c67 => ?_)
  refine mv_iload dX11_lake_70 rfl ?_
  refine mv_goto (tgt := 82) dX11_lake_72 (by decide) ?_
  exact mv_iret dX11_lake_82 rfl rfl ⟨rfl, fr, HM, H46, H47⟩
set_option maxRecDepth 100000 in
theorem k_X11_lake_G1 {ev : mv_E} {h : mv_H} {f : Nat → Nat} {gg : Nat → Nat} {fo : Int32} {r1 : Nat} {t : Nat} {x : Nat} {y : Nat} (H0 : h[0]? = some (.inr (11, [.ref 1, .ref 3, .ref 7, .ref 11, .ref 21, .ref 22, .ref 32, .ref 34, .ref 42, .ref 45, .ref 48]))) (HM : h[45]? = some (.inr (2, [.ref 46, .ref 47, .int fo]))) (H46 : h[46]? = some (.inl (1, 201, .inr (.inl (fun j => lN (f j)))))) (H47 : h[47]? = some (.inl (1, 201, .inr (.inl (fun j => lN (gg j)))))) (hf : ∀ i, f i ≤ 1000000) (hg : ∀ i, gg i ≤ 1000000) (hr : r1 ≤ 1000) (ht : t ≤ 1000) (hx : x ≤ 1000000) (hy : y ≤ 1000000) : ∃ h2, mv_K ev mX11_lake [.ref 0, .int (nI r1), .int (nI t), .int (nI x), .int (nI y), .int (nI 1)] h (some (.int ((q_lP r1 t x y (q_bg f 201) (q_bg gg 201)) (q_yn (q_lP r1 t x y (q_bg f 201) (q_bg gg 201)) 60 0)))) h2 ∧ mv_fra [45, 46, 47] h h2 ∧ h2[45]? = some (.inr (2, [.ref 46, .ref 47, .int ((q_lP r1 t x y (q_bg f 201) (q_bg gg 201)) (q_yn (q_lP r1 t x y (q_bg f 201) (q_bg gg 201)) 60 0))])) ∧ h2[46]? = some (.inl (1, 201, .inr (.inl (fun j => lN (q_rows r1 (q_bg f 201) (q_yn (q_lP r1 t x y (q_bg f 201) (q_bg gg 201)) 60 0) j))))) ∧ h2[47]? = some (.inl (1, 201, .inr (.inl (fun j => lN (q_rows t (q_bg gg 201) (q_yn (q_lP r1 t x y (q_bg f 201) (q_bg gg 201)) 60 0) j))))) := by
  suffices g0 : mv_g ev mX11_lake 0 (mv_ent [.ref 0, .int (nI r1), .int (nI t), .int (nI x), .int (nI y), .int (nI 1)] (mv_ml mX11_lake)) [] h (fun r g => r = some (.int ((q_lP r1 t x y (q_bg f 201) (q_bg gg 201)) (q_yn (q_lP r1 t x y (q_bg f 201) (q_bg gg 201)) 60 0))) ∧ mv_fra [45, 46, 47] h g ∧ g[45]? = some (.inr (2, [.ref 46, .ref 47, .int ((q_lP r1 t x y (q_bg f 201) (q_bg gg 201)) (q_yn (q_lP r1 t x y (q_bg f 201) (q_bg gg 201)) 60 0))])) ∧ g[46]? = some (.inl (1, 201, .inr (.inl (fun j => lN (q_rows r1 (q_bg f 201) (q_yn (q_lP r1 t x y (q_bg f 201) (q_bg gg 201)) 60 0) j))))) ∧ g[47]? = some (.inl (1, 201, .inr (.inl (fun j => lN (q_rows t (q_bg gg 201) (q_yn (q_lP r1 t x y (q_bg f 201) (q_bg gg 201)) 60 0) j)))))) from (by obtain ⟨r0, h0, K0, q0, Q0⟩ := mv_Kex g0; subst q0; exact ⟨h0, K0, Q0⟩)
  show mv_g ev mX11_lake 0 [.ref 0, .int (nI r1), .int (nI t), .int (nI x), .int (nI y), .int (nI 1), .null] [] h _
  have fr : mv_fra [45, 46, 47] h h := mv_fra.rf
  refine mv_iload_n dX11_lake_0 rfl ?_
  refine mv_cS1 dX11_lake_1 lk_X11_lake_295 (Nat.le_of_ble_eq_true rfl) (Nat.le_of_ble_eq_true rfl) (k_X11_isThousandth (ev := ev)) ?_
  refine mv_if_eq (tgt := 47) dX11_lake_4 (by decide) (fun z => absurd z ((fun z => (mv_b_0 _).mp z (mv_in_i (by omega) (by omega) (by omega))))) (fun c4 => ?_)
  refine mv_iload_n dX11_lake_7 rfl ?_
  refine mv_cS1 dX11_lake_8 lk_X11_lake_295 (Nat.le_of_ble_eq_true rfl) (Nat.le_of_ble_eq_true rfl) (k_X11_isThousandth (ev := ev)) ?_
  refine mv_if_eq (tgt := 47) dX11_lake_11 (by decide) (fun z => absurd z ((fun z => (mv_b_0 _).mp z (mv_in_i (by omega) (by omega) (by omega))))) (fun c11 => ?_)
  refine mv_iload_n dX11_lake_14 rfl ?_
  refine mv_iconst (v := nI 0) dX11_lake_15 (by decide) ?_
  refine mv_ldcw (v := nI 1000000) dX11_lake_16 wd_1099 ?_
  refine mv_cS3 dX11_lake_19 lk_X11_lake_96 (Nat.le_of_ble_eq_true rfl) (Nat.le_of_ble_eq_true rfl) (k_X11_within (ev := ev)) ?_
  refine mv_if_eq (tgt := 47) dX11_lake_22 (by decide) (fun z => absurd z ((fun z => (mv_b_0 _).mp z (mv_in_i (by omega) (by omega) (by omega))))) (fun c22 => ?_)
  refine mv_iload dX11_lake_25 rfl ?_
  refine mv_iconst (v := nI 0) dX11_lake_27 (by decide) ?_
  refine mv_ldcw (v := nI 1000000) dX11_lake_28 wd_1099 ?_
  refine mv_cS3 dX11_lake_31 lk_X11_lake_96 (Nat.le_of_ble_eq_true rfl) (Nat.le_of_ble_eq_true rfl) (k_X11_within (ev := ev)) ?_
  refine mv_if_eq (tgt := 47) dX11_lake_34 (by decide) (fun z => absurd z ((fun z => (mv_b_0 _).mp z (mv_in_i (by omega) (by omega) (by omega))))) (fun c34 => ?_)
  refine mv_iload dX11_lake_37 rfl ?_
  refine mv_iconst (v := nI 0) dX11_lake_39 (by decide) ?_
  refine mv_iconst (v := nI 1) dX11_lake_40 (by decide) ?_
  refine mv_cS3 dX11_lake_41 lk_X11_lake_96 (Nat.le_of_ble_eq_true rfl) (Nat.le_of_ble_eq_true rfl) (k_X11_within (ev := ev)) ?_
  refine mv_if_ne (tgt := 51) dX11_lake_44 (by decide) (fun c44 => ?_) (fun z => absurd z ((fun z => (mv_b_0 _).mp z (mv_in_i (by omega) (by omega) (by omega)))))
  refine mv_aload_n dX11_lake_51 rfl ?_
  refine mv_getf (ci := 11) (f := 9) dX11_lake_52 H0 rfl (by decide) wd_385 rfl ?_
  refine mv_iload_n dX11_lake_55 rfl ?_
  refine mv_iload_n dX11_lake_56 rfl ?_
  refine mv_iload_n dX11_lake_57 rfl ?_
  refine mv_iload dX11_lake_58 rfl ?_
  obtain ⟨h1, K2, f3, y4, y5, y6⟩ := (k_X2_yearsToCount (ev := ev) (f := f) (gg := gg) (fo := fo) (r1 := r1) (t := t) (x := x) (y := y) HM H46 H47 hf hg hr ht hx hy)
  refine mv_cV4 (ci := 2) dX11_lake_60 lk_X11_lake_302 HM rfl (Nat.le_of_ble_eq_true rfl) (Nat.le_of_ble_eq_true rfl) K2 ?_
  have H0 := f3.get (by decide) H0
  have HM : h1[45]? = some (.inr (2, [.ref 46, .ref 47, .int ((q_lP r1 t x y (q_bg f 201) (q_bg gg 201)) (q_yn (q_lP r1 t x y (q_bg f 201) (q_bg gg 201)) 60 0))])) := y4
  have H46 : h1[46]? = some (.inl (1, 201, .inr (.inl (fun j => lN (q_rows r1 (q_bg f 201) (q_yn (q_lP r1 t x y (q_bg f 201) (q_bg gg 201)) 60 0) j))))) := y5
  have H47 : h1[47]? = some (.inl (1, 201, .inr (.inl (fun j => lN (q_rows t (q_bg gg 201) (q_yn (q_lP r1 t x y (q_bg f 201) (q_bg gg 201)) 60 0) j))))) := y6
  have fr := fr.trans f3 (by decide)
  refine mv_istore dX11_lake_63 (by decide) ?_
  refine mv_iload dX11_lake_65 rfl ?_
  refine mv_if_ne (tgt := 75) dX11_lake_67 (by decide) (fun c67 => ?_) (fun z => absurd z ((by decide)))
  refine mv_aload_n dX11_lake_75 rfl ?_
  refine mv_getf (ci := 11) (f := 9) dX11_lake_76 H0 rfl (by decide) wd_385 rfl ?_
  refine mv_cV0 (ci := 2) dX11_lake_79 lk_X11_lake_305 HM rfl (Nat.le_of_ble_eq_true rfl) (Nat.le_of_ble_eq_true rfl) (k_X2_oddYears (ev := ev) HM) ?_
  exact mv_iret dX11_lake_82 rfl rfl ⟨rfl, fr, HM, H46, H47⟩
set_option maxRecDepth 100000 in
theorem k_X11_say_R1 {ev : mv_E} {h : mv_H} {d : Int32} {p : Int32} {x : Int32}  (hno : ¬ ((nI 0 ≤ p ∧ p ≤ nI 63))) : mv_K ev mX11_say [.ref 0, .int d, .int p, .int x] h (some (.int (-1001))) h := by
  refine mv_Kof ?_
  show mv_g ev mX11_say 0 [.ref 0, .int d, .int p, .int x] [] h _
  refine mv_iload_n dX11_say_0 rfl ?_
  refine mv_cS1 dX11_say_1 lk_X11_say_120 (Nat.le_of_ble_eq_true rfl) (Nat.le_of_ble_eq_true rfl) (k_X11_isPlace (ev := ev)) ?_
  refine mv_if_ne (tgt := 11) dX11_say_4 (by decide) (fun c4 => ?_) (fun c4 => ?_)
  · have c4 : nI 0 ≤ p ∧ p ≤ nI 63 := Classical.byContradiction (fun z => c4 ((mv_b_0 _).mpr z))
    exact absurd (by assumption) hno
  · have c4 : ¬ (nI 0 ≤ p ∧ p ≤ nI 63) := (mv_b_0 _).mp c4
    refine mv_sipush (v := (-1001)) dX11_say_7 (by decide) ?_
    exact mv_iret dX11_say_10 rfl rfl ⟨rfl, rfl⟩
set_option maxRecDepth 100000 in
theorem k_X11_say_R2 {ev : mv_E} {h : mv_H} {d : Int32} {x : Int32} {p : Nat}  (hp : p < 64) (hno : ¬ ((nI 0 ≤ d ∧ d ≤ nI 398) ∧ (nI 0 ≤ x ∧ x ≤ nI 2))) : mv_K ev mX11_say [.ref 0, .int d, .int (nI p), .int x] h (some (.int (-1002))) h := by
  refine mv_Kof ?_
  show mv_g ev mX11_say 0 [.ref 0, .int d, .int (nI p), .int x] [] h _
  refine mv_iload_n dX11_say_0 rfl ?_
  refine mv_cS1 dX11_say_1 lk_X11_say_120 (Nat.le_of_ble_eq_true rfl) (Nat.le_of_ble_eq_true rfl) (k_X11_isPlace (ev := ev)) ?_
  refine mv_if_ne (tgt := 11) dX11_say_4 (by decide) (fun c4 => ?_) (fun z => absurd z ((fun z => (mv_b_0 _).mp z (mv_in_i (by omega) (by omega) (by omega)))))
  refine mv_iload_n dX11_say_11 rfl ?_
  refine mv_iconst (v := nI 0) dX11_say_12 (by decide) ?_
  refine mv_sipush (v := nI 398) dX11_say_13 (by decide) ?_
  refine mv_cS3 dX11_say_16 lk_X11_say_96 (Nat.le_of_ble_eq_true rfl) (Nat.le_of_ble_eq_true rfl) (k_X11_within (ev := ev)) ?_
  refine mv_if_eq (tgt := 31) dX11_say_19 (by decide) (fun c19 => ?_) (fun c19 => ?_)
  · have c19 : ¬ ((nI 0) ≤ d ∧ d ≤ (nI 398)) := (mv_b_0 _).mp c19
    refine mv_sipush (v := (-1002)) dX11_say_31 (by decide) ?_
    exact mv_iret dX11_say_34 rfl rfl ⟨rfl, rfl⟩
  · have c19 : (nI 0) ≤ d ∧ d ≤ (nI 398) := Classical.byContradiction (fun z => c19 ((mv_b_0 _).mpr z))
    refine mv_iload_n dX11_say_22 rfl ?_
    refine mv_iconst (v := nI 0) dX11_say_23 (by decide) ?_
    refine mv_iconst (v := nI 2) dX11_say_24 (by decide) ?_
    refine mv_cS3 dX11_say_25 lk_X11_say_96 (Nat.le_of_ble_eq_true rfl) (Nat.le_of_ble_eq_true rfl) (k_X11_within (ev := ev)) ?_
    refine mv_if_ne (tgt := 35) dX11_say_28 (by decide) (fun c28 => ?_) (fun c28 => ?_)
    · have c28 : (nI 0) ≤ x ∧ x ≤ (nI 2) := Classical.byContradiction (fun z => c28 ((mv_b_0 _).mpr z))
      exact absurd (by refine ⟨?_, ?_⟩ <;> assumption) hno
    · have c28 : ¬ ((nI 0) ≤ x ∧ x ≤ (nI 2)) := (mv_b_0 _).mp c28
      refine mv_sipush (v := (-1002)) dX11_say_31 (by decide) ?_
      exact mv_iret dX11_say_34 rfl rfl ⟨rfl, rfl⟩
set_option maxRecDepth 100000 in
theorem k_X11_say_R3 {ev : mv_E} {h : mv_H} {wo : q_W} {d : Nat} {p : Nat} {x : Nat} (H0 : h[0]? = some (.inr (11, [.ref 1, .ref 3, .ref 7, .ref 11, .ref 21, .ref 22, .ref 32, .ref 34, .ref 42, .ref 45, .ref 48]))) (HW : h[48]? = some (.inr (10, [.ref 21, .ref 49, .ref 50, .ref 51, .int (nI wo.1)]))) (hp : p < 64) (hd : d ≤ 398) (hx : x ≤ 2) (hn : wo.1 ≤ 12) (hno : ¬ (wo.1 < 12)) : mv_K ev mX11_say [.ref 0, .int (nI d), .int (nI p), .int (nI x)] h (some (.int (-1004))) h := by
  refine mv_Kof ?_
  show mv_g ev mX11_say 0 [.ref 0, .int (nI d), .int (nI p), .int (nI x)] [] h _
  refine mv_iload_n dX11_say_0 rfl ?_
  refine mv_cS1 dX11_say_1 lk_X11_say_120 (Nat.le_of_ble_eq_true rfl) (Nat.le_of_ble_eq_true rfl) (k_X11_isPlace (ev := ev)) ?_
  refine mv_if_ne (tgt := 11) dX11_say_4 (by decide) (fun c4 => ?_) (fun z => absurd z ((fun z => (mv_b_0 _).mp z (mv_in_i (by omega) (by omega) (by omega)))))
  refine mv_iload_n dX11_say_11 rfl ?_
  refine mv_iconst (v := nI 0) dX11_say_12 (by decide) ?_
  refine mv_sipush (v := nI 398) dX11_say_13 (by decide) ?_
  refine mv_cS3 dX11_say_16 lk_X11_say_96 (Nat.le_of_ble_eq_true rfl) (Nat.le_of_ble_eq_true rfl) (k_X11_within (ev := ev)) ?_
  refine mv_if_eq (tgt := 31) dX11_say_19 (by decide) (fun z => absurd z ((fun z => (mv_b_0 _).mp z (mv_in_i (by omega) (by omega) (by omega))))) (fun c19 => ?_)
  refine mv_iload_n dX11_say_22 rfl ?_
  refine mv_iconst (v := nI 0) dX11_say_23 (by decide) ?_
  refine mv_iconst (v := nI 2) dX11_say_24 (by decide) ?_
  refine mv_cS3 dX11_say_25 lk_X11_say_96 (Nat.le_of_ble_eq_true rfl) (Nat.le_of_ble_eq_true rfl) (k_X11_within (ev := ev)) ?_
  refine mv_if_ne (tgt := 35) dX11_say_28 (by decide) (fun c28 => ?_) (fun z => absurd z ((fun z => (mv_b_0 _).mp z (mv_in_i (by omega) (by omega) (by omega)))))
  refine mv_aload_n dX11_say_35 rfl ?_
  refine mv_getf (ci := 11) (f := 10) dX11_say_36 H0 rfl (by decide) wd_386 rfl ?_
  refine mv_cV0 (ci := 10) dX11_say_39 lk_X11_say_308 HW rfl (Nat.le_of_ble_eq_true rfl) (Nat.le_of_ble_eq_true rfl) (k_X10_isFull (ev := ev) HW (by omega)) ?_
  refine mv_if_eq (tgt := 51) dX11_say_42 (by decide) (fun c42 => ?_) (fun c42 => ?_)
  · have c42 : ¬ (12 ≤ wo.1) := (mv_b_0 _).mp c42
    exact absurd (by omega) hno
  · have c42 : 12 ≤ wo.1 := Classical.byContradiction (fun z => c42 ((mv_b_0 _).mpr z))
    refine mv_sipush (v := (-1004)) dX11_say_45 (by decide) ?_
    refine mv_goto (tgt := 61) dX11_say_48 (by decide) ?_
    exact mv_iret dX11_say_61 rfl rfl ⟨rfl, rfl⟩
set_option maxRecDepth 100000 in
theorem k_X11_say_G {ev : mv_E} {h : mv_H} {wo : q_W} {d : Nat} {p : Nat} {x : Nat} (H0 : h[0]? = some (.inr (11, [.ref 1, .ref 3, .ref 7, .ref 11, .ref 21, .ref 22, .ref 32, .ref 34, .ref 42, .ref 45, .ref 48]))) (HW : h[48]? = some (.inr (10, [.ref 21, .ref 49, .ref 50, .ref 51, .int (nI wo.1)]))) (W49 : h[49]? = some (.inl (0, 12, .inl (fun j => nI (wo.2.1 j))))) (W50 : h[50]? = some (.inl (0, 12, .inl (fun j => nI (wo.2.2.1 j))))) (W51 : h[51]? = some (.inl (0, 12, .inl (fun j => nI (wo.2.2.2 j))))) (hp : p < 64) (hd : d ≤ 398) (hx : x ≤ 2) (hn : wo.1 < 12) : ∃ h2, mv_K ev mX11_say [.ref 0, .int (nI d), .int (nI p), .int (nI x)] h (some (.int (nI wo.1))) h2 ∧ mv_fra [48, 49, 50, 51] h h2 ∧ h2[48]? = some (.inr (10, [.ref 21, .ref 49, .ref 50, .ref 51, .int (nI (q_ww wo d p x).1)])) ∧ h2[49]? = some (.inl (0, 12, .inl (fun j => nI ((q_ww wo d p x).2.1 j)))) ∧ h2[50]? = some (.inl (0, 12, .inl (fun j => nI ((q_ww wo d p x).2.2.1 j)))) ∧ h2[51]? = some (.inl (0, 12, .inl (fun j => nI ((q_ww wo d p x).2.2.2 j)))) := by
  suffices g0 : mv_g ev mX11_say 0 (mv_ent [.ref 0, .int (nI d), .int (nI p), .int (nI x)] (mv_ml mX11_say)) [] h (fun r g => r = some (.int (nI wo.1)) ∧ mv_fra [48, 49, 50, 51] h g ∧ g[48]? = some (.inr (10, [.ref 21, .ref 49, .ref 50, .ref 51, .int (nI (q_ww wo d p x).1)])) ∧ g[49]? = some (.inl (0, 12, .inl (fun j => nI ((q_ww wo d p x).2.1 j)))) ∧ g[50]? = some (.inl (0, 12, .inl (fun j => nI ((q_ww wo d p x).2.2.1 j)))) ∧ g[51]? = some (.inl (0, 12, .inl (fun j => nI ((q_ww wo d p x).2.2.2 j))))) from (by obtain ⟨r0, h0, K0, q0, Q0⟩ := mv_Kex g0; subst q0; exact ⟨h0, K0, Q0⟩)
  show mv_g ev mX11_say 0 [.ref 0, .int (nI d), .int (nI p), .int (nI x)] [] h _
  have fr : mv_fra [48, 49, 50, 51] h h := mv_fra.rf
  refine mv_iload_n dX11_say_0 rfl ?_
  refine mv_cS1 dX11_say_1 lk_X11_say_120 (Nat.le_of_ble_eq_true rfl) (Nat.le_of_ble_eq_true rfl) (k_X11_isPlace (ev := ev)) ?_
  refine mv_if_ne (tgt := 11) dX11_say_4 (by decide) (fun c4 => ?_) (fun z => absurd z ((fun z => (mv_b_0 _).mp z (mv_in_i (by omega) (by omega) (by omega)))))
  refine mv_iload_n dX11_say_11 rfl ?_
  refine mv_iconst (v := nI 0) dX11_say_12 (by decide) ?_
  refine mv_sipush (v := nI 398) dX11_say_13 (by decide) ?_
  refine mv_cS3 dX11_say_16 lk_X11_say_96 (Nat.le_of_ble_eq_true rfl) (Nat.le_of_ble_eq_true rfl) (k_X11_within (ev := ev)) ?_
  refine mv_if_eq (tgt := 31) dX11_say_19 (by decide) (fun z => absurd z ((fun z => (mv_b_0 _).mp z (mv_in_i (by omega) (by omega) (by omega))))) (fun c19 => ?_)
  refine mv_iload_n dX11_say_22 rfl ?_
  refine mv_iconst (v := nI 0) dX11_say_23 (by decide) ?_
  refine mv_iconst (v := nI 2) dX11_say_24 (by decide) ?_
  refine mv_cS3 dX11_say_25 lk_X11_say_96 (Nat.le_of_ble_eq_true rfl) (Nat.le_of_ble_eq_true rfl) (k_X11_within (ev := ev)) ?_
  refine mv_if_ne (tgt := 35) dX11_say_28 (by decide) (fun c28 => ?_) (fun z => absurd z ((fun z => (mv_b_0 _).mp z (mv_in_i (by omega) (by omega) (by omega)))))
  refine mv_aload_n dX11_say_35 rfl ?_
  refine mv_getf (ci := 11) (f := 10) dX11_say_36 H0 rfl (by decide) wd_386 rfl ?_
  refine mv_cV0 (ci := 10) dX11_say_39 lk_X11_say_308 HW rfl (Nat.le_of_ble_eq_true rfl) (Nat.le_of_ble_eq_true rfl) (k_X10_isFull (ev := ev) HW (by omega)) ?_
  refine mv_if_eq (tgt := 51) dX11_say_42 (by decide) (fun c42 => ?_) (fun z => absurd (((mv_b_0 _).mpr (by omega))) z)
  refine mv_aload_n dX11_say_51 rfl ?_
  refine mv_getf (ci := 11) (f := 10) dX11_say_52 H0 rfl (by decide) wd_386 rfl ?_
  refine mv_iload_n dX11_say_55 rfl ?_
  refine mv_iload_n dX11_say_56 rfl ?_
  refine mv_iload_n dX11_say_57 rfl ?_
  obtain ⟨h1, K2, f3, y4, y5, y6, y7⟩ := (k_X10_write (ev := ev) (w := wo) (d := d) (p := p) (x := x) HW W49 W50 W51 hn)
  refine mv_cV3 (ci := 10) dX11_say_58 lk_X11_say_309 HW rfl (Nat.le_of_ble_eq_true rfl) (Nat.le_of_ble_eq_true rfl) K2 ?_
  have H0 := f3.get (by decide) H0
  have HW : h1[48]? = some (.inr (10, [.ref 21, .ref 49, .ref 50, .ref 51, .int (nI (q_ww wo d p x).1)])) := y4
  have W49 : h1[49]? = some (.inl (0, 12, .inl (fun j => nI ((q_ww wo d p x).2.1 j)))) := y5
  have W50 : h1[50]? = some (.inl (0, 12, .inl (fun j => nI ((q_ww wo d p x).2.2.1 j)))) := y6
  have W51 : h1[51]? = some (.inl (0, 12, .inl (fun j => nI ((q_ww wo d p x).2.2.2 j)))) := y7
  have fr := fr.trans f3 (by decide)
  exact mv_iret dX11_say_61 rfl rfl ⟨rfl, fr, HW, W49, W50, W51⟩
set_option maxRecDepth 100000 in
theorem k_X11_judged_R1 {ev : mv_E} {h : mv_H} {wo : q_W} {k : Int32} {x : Int32} {n : Int32} {w : Int32} (H0 : h[0]? = some (.inr (11, [.ref 1, .ref 3, .ref 7, .ref 11, .ref 21, .ref 22, .ref 32, .ref 34, .ref 42, .ref 45, .ref 48]))) (HW : h[48]? = some (.inr (10, [.ref 21, .ref 49, .ref 50, .ref 51, .int (nI wo.1)]))) (hno : ¬ ((0 ≤ k ∧ k < nI wo.1 ∧ k < nI 12))) : mv_K ev mX11_judged [.ref 0, .int k, .int x, .int n, .int w] h (some (.int (-1001))) h := by
  refine mv_Kof ?_
  show mv_g ev mX11_judged 0 [.ref 0, .int k, .int x, .int n, .int w, .null] [] h _
  refine mv_aload_n dX11_judged_0 rfl ?_
  refine mv_getf (ci := 11) (f := 10) dX11_judged_1 H0 rfl (by decide) wd_386 rfl ?_
  refine mv_iload_n dX11_judged_4 rfl ?_
  refine mv_cV1 (ci := 10) dX11_judged_5 lk_X11_judged_310 HW rfl (Nat.le_of_ble_eq_true rfl) (Nat.le_of_ble_eq_true rfl) (k_X10_hasI (ev := ev) HW) ?_
  refine mv_if_ne (tgt := 15) dX11_judged_8 (by decide) (fun c8 => ?_) (fun c8 => ?_)
  · have c8 : 0 ≤ k ∧ k < nI wo.1 ∧ k < nI 12 := Classical.byContradiction (fun z => c8 ((mv_b_0 _).mpr z))
    exact absurd (by assumption) hno
  · have c8 : ¬ (0 ≤ k ∧ k < nI wo.1 ∧ k < nI 12) := (mv_b_0 _).mp c8
    refine mv_sipush (v := (-1001)) dX11_judged_11 (by decide) ?_
    exact mv_iret dX11_judged_14 rfl rfl ⟨rfl, rfl⟩
set_option maxRecDepth 100000 in
theorem k_X11_judged_R2 {ev : mv_E} {h : mv_H} {wo : q_W} {k : Nat} {x : Int32} {n : Int32} {w : Int32} (H0 : h[0]? = some (.inr (11, [.ref 1, .ref 3, .ref 7, .ref 11, .ref 21, .ref 22, .ref 32, .ref 34, .ref 42, .ref 45, .ref 48]))) (HW : h[48]? = some (.inr (10, [.ref 21, .ref 49, .ref 50, .ref 51, .int (nI wo.1)]))) (W49 : h[49]? = some (.inl (0, 12, .inl (fun j => nI (wo.2.1 j))))) (hk : k < wo.1) (hn : wo.1 ≤ 12) (hno : ¬ ((nI 1 ≤ x ∧ x ≤ nI 9) ∧ (nI 1 ≤ n ∧ n ≤ nI 60) ∧ (nI 0 ≤ w ∧ w ≤ nI 1) ∧ nI (wo.2.1 k) + n ≤ nI 399)) : mv_K ev mX11_judged [.ref 0, .int (nI k), .int x, .int n, .int w] h (some (.int (-1002))) h := by
  refine mv_Kof ?_
  show mv_g ev mX11_judged 0 [.ref 0, .int (nI k), .int x, .int n, .int w, .null] [] h _
  refine mv_aload_n dX11_judged_0 rfl ?_
  refine mv_getf (ci := 11) (f := 10) dX11_judged_1 H0 rfl (by decide) wd_386 rfl ?_
  refine mv_iload_n dX11_judged_4 rfl ?_
  refine mv_cV1 (ci := 10) dX11_judged_5 lk_X11_judged_310 HW rfl (Nat.le_of_ble_eq_true rfl) (Nat.le_of_ble_eq_true rfl) (k_X10_has (ev := ev) HW hk hn) ?_
  refine mv_if_ne (tgt := 15) dX11_judged_8 (by decide) (fun c8 => ?_) (fun z => absurd z ((by decide)))
  refine mv_iload_n dX11_judged_15 rfl ?_
  refine mv_cS1 dX11_judged_16 lk_X11_judged_130 (Nat.le_of_ble_eq_true rfl) (Nat.le_of_ble_eq_true rfl) (k_X11_isSize (ev := ev)) ?_
  refine mv_if_eq (tgt := 58) dX11_judged_19 (by decide) (fun c19 => ?_) (fun c19 => ?_)
  · have c19 : ¬ (nI 1 ≤ x ∧ x ≤ nI 9) := (mv_b_0 _).mp c19
    refine mv_sipush (v := (-1002)) dX11_judged_58 (by decide) ?_
    exact mv_iret dX11_judged_61 rfl rfl ⟨rfl, rfl⟩
  · have c19 : nI 1 ≤ x ∧ x ≤ nI 9 := Classical.byContradiction (fun z => c19 ((mv_b_0 _).mpr z))
    refine mv_iload_n dX11_judged_22 rfl ?_
    refine mv_iconst (v := nI 1) dX11_judged_23 (by decide) ?_
    refine mv_bipush (v := nI 60) dX11_judged_24 (by decide) ?_
    refine mv_cS3 dX11_judged_26 lk_X11_judged_96 (Nat.le_of_ble_eq_true rfl) (Nat.le_of_ble_eq_true rfl) (k_X11_within (ev := ev)) ?_
    refine mv_if_eq (tgt := 58) dX11_judged_29 (by decide) (fun c29 => ?_) (fun c29 => ?_)
    · have c29 : ¬ ((nI 1) ≤ n ∧ n ≤ (nI 60)) := (mv_b_0 _).mp c29
      refine mv_sipush (v := (-1002)) dX11_judged_58 (by decide) ?_
      exact mv_iret dX11_judged_61 rfl rfl ⟨rfl, rfl⟩
    · have c29 : (nI 1) ≤ n ∧ n ≤ (nI 60) := Classical.byContradiction (fun z => c29 ((mv_b_0 _).mpr z))
      refine mv_iload dX11_judged_32 rfl ?_
      refine mv_iconst (v := nI 0) dX11_judged_34 (by decide) ?_
      refine mv_iconst (v := nI 1) dX11_judged_35 (by decide) ?_
      refine mv_cS3 dX11_judged_36 lk_X11_judged_96 (Nat.le_of_ble_eq_true rfl) (Nat.le_of_ble_eq_true rfl) (k_X11_within (ev := ev)) ?_
      refine mv_if_eq (tgt := 58) dX11_judged_39 (by decide) (fun c39 => ?_) (fun c39 => ?_)
      · have c39 : ¬ ((nI 0) ≤ w ∧ w ≤ (nI 1)) := (mv_b_0 _).mp c39
        refine mv_sipush (v := (-1002)) dX11_judged_58 (by decide) ?_
        exact mv_iret dX11_judged_61 rfl rfl ⟨rfl, rfl⟩
      · have c39 : (nI 0) ≤ w ∧ w ≤ (nI 1) := Classical.byContradiction (fun z => c39 ((mv_b_0 _).mpr z))
        refine mv_aload_n dX11_judged_42 rfl ?_
        refine mv_getf (ci := 11) (f := 10) dX11_judged_43 H0 rfl (by decide) wd_386 rfl ?_
        refine mv_iload_n dX11_judged_46 rfl ?_
        refine mv_cV1 (ci := 10) dX11_judged_47 lk_X11_judged_311 HW rfl (Nat.le_of_ble_eq_true rfl) (Nat.le_of_ble_eq_true rfl) (k_X10_dayOf (ev := ev) HW W49 hk hn) ?_
        refine mv_iload_n dX11_judged_50 rfl ?_
        refine mv_iadd dX11_judged_51 ?_
        refine mv_sipush (v := nI 399) dX11_judged_52 (by decide) ?_
        refine mv_icmp_le (tgt := 62) dX11_judged_55 (by decide) (fun c55 => ?_) (fun c55 => ?_)
        · skip
          exact absurd ⟨c19, c29, c39, c55⟩ hno
        · skip
          refine mv_sipush (v := (-1002)) dX11_judged_58 (by decide) ?_
          exact mv_iret dX11_judged_61 rfl rfl ⟨rfl, rfl⟩
/-- less, alike, more -/
def q_cmp (x y : Nat) : Int32 := if x < y then -1 else if x = y then nI 0 else nI 1
set_option maxRecDepth 100000 in
theorem k_J6_compare_7cf53 {ev : mv_E} {h : mv_H} {x : Nat} {y : Nat}  (hx : x < 1000) (hy : y < 1000) : mv_K ev mJ6_compare_7cf53 [.int (nI x), .int (nI y)] h (some (.int (q_cmp x y))) h := by
  refine mv_Kof ?_
  show mv_g ev mJ6_compare_7cf53 0 [.int (nI x), .int (nI y)] [] h _
  refine mv_iload_n dJ6_compare_7cf53_0 rfl ?_
  refine mv_iload_n dJ6_compare_7cf53_1 rfl ?_
  refine mv_icmp_ge (tgt := 9) dJ6_compare_7cf53_2 (by decide) (fun c2 => ?_) (fun c2 => ?_)
  · have c2 : y ≤ x := (nI_leI (by omega) (by omega)).mp c2
    refine mv_iload_n dJ6_compare_7cf53_9 rfl ?_
    refine mv_iload_n dJ6_compare_7cf53_10 rfl ?_
    refine mv_icmp_ne (tgt := 18) dJ6_compare_7cf53_11 (by decide) (fun c11 => ?_) (fun c11 => ?_)
    · have c11 : ¬ (x = y) := fun z => c11 ((nI_eq (by omega) (by omega)).mpr z)
      refine mv_iconst (v := nI 1) dJ6_compare_7cf53_18 (by decide) ?_
      exact mv_iret dJ6_compare_7cf53_19 rfl rfl ⟨(congrArg (fun z => some (Value.int z)) (by unfold q_cmp; first | exact (if_pos (by omega)).symm | exact ((if_neg (by omega)).trans (if_pos (by omega))).symm | exact ((if_neg (by omega)).trans (if_neg (by omega))).symm)), rfl⟩
    · have c11 : x = y := (nI_eq (by omega) (by omega)).mp c11
      refine mv_iconst (v := nI 0) dJ6_compare_7cf53_14 (by decide) ?_
      refine mv_goto (tgt := 19) dJ6_compare_7cf53_15 (by decide) ?_
      exact mv_iret dJ6_compare_7cf53_19 rfl rfl ⟨(congrArg (fun z => some (Value.int z)) (by unfold q_cmp; first | exact (if_pos (by omega)).symm | exact ((if_neg (by omega)).trans (if_pos (by omega))).symm | exact ((if_neg (by omega)).trans (if_neg (by omega))).symm)), rfl⟩
  · have c2 : ¬ (y ≤ x) := fun z => c2 ((nI_leI (by omega) (by omega)).mpr z)
    refine mv_iconst (v := (-1)) dJ6_compare_7cf53_5 (by decide) ?_
    refine mv_goto (tgt := 19) dJ6_compare_7cf53_6 (by decide) ?_
    exact mv_iret dJ6_compare_7cf53_19 rfl rfl ⟨(congrArg (fun z => some (Value.int z)) (by unfold q_cmp; first | exact (if_pos (by omega)).symm | exact ((if_neg (by omega)).trans (if_pos (by omega))).symm | exact ((if_neg (by omega)).trans (if_neg (by omega))).symm)), rfl⟩
theorem q_kn_le (x y : Nat) : q_kn x y ≤ 2 := by
  unfold q_kn
  split
  · decide
  · split <;> decide
set_option maxRecDepth 100000 in
theorem k_X11_judged_G0 {ev : mv_E} {h : mv_H} {wo : q_W} {lw : Nat → Int32} {ln : Nat → Nat} {b : t_B} {t : Nat} {k : Nat} {x : Nat} {n : Nat} {dd : Nat} (H0 : h[0]? = some (.inr (11, [.ref 1, .ref 3, .ref 7, .ref 11, .ref 21, .ref 22, .ref 32, .ref 34, .ref 42, .ref 45, .ref 48]))) (HW : h[48]? = some (.inr (10, [.ref 21, .ref 49, .ref 50, .ref 51, .int (nI wo.1)]))) (W49 : h[49]? = some (.inl (0, 12, .inl (fun j => nI (wo.2.1 j))))) (W50 : h[50]? = some (.inl (0, 12, .inl (fun j => nI (wo.2.2.1 j))))) (W51 : h[51]? = some (.inl (0, 12, .inl (fun j => nI (wo.2.2.2 j))))) (HF : h[21]? = some (.inr (3, [.ref 1, .ref 7]))) (HL : h[1]? = some (.inr (5, [.ref 2]))) (HV : h[2]? = some (.inl (0, 8, .inl lw))) (HB : h[7]? = some (.inr (0, [.ref 8, .ref 9, .ref 10, .int (nI b.1), .int (nI t), .int (nI b.2.1)]))) (H8 : h[8]? = some (.inl (0, 60, .inl (fun j => nI (b.2.2.1 j))))) (H9 : h[9]? = some (.inl (0, 60, .inl (fun j => nI (b.2.2.2.1 j))))) (H10 : h[10]? = some (.inl (0, 60, .inl (fun j => nI (b.2.2.2.2 j))))) (hwo : q_WOI wo) (hk : k < wo.1) (hw : q_LW lw ln) (hb : q_BI dd b) (hz1 : 1 ≤ x) (hz9 : x ≤ 9) (hn1 : 1 ≤ n) (hn6 : n ≤ 60) (hdn : wo.2.1 k + n ≤ 399) : mv_K ev mX11_judged [.ref 0, .int (nI k), .int (nI x), .int (nI n), .int (nI 0)] h (some (.int (nI (q_jk ln wo b k x n)))) h := by
  refine mv_Kof ?_
  show mv_g ev mX11_judged 0 [.ref 0, .int (nI k), .int (nI x), .int (nI n), .int (nI 0), .null] [] h _
  have n0 := hwo.1
  have n2 := hwo.2.2.2 k
  have n3 : (q_jk ln wo b k x n) ≤ 2 := q_kn_le _ _
  refine mv_aload_n dX11_judged_0 rfl ?_
  refine mv_getf (ci := 11) (f := 10) dX11_judged_1 H0 rfl (by decide) wd_386 rfl ?_
  refine mv_iload_n dX11_judged_4 rfl ?_
  refine mv_cV1 (ci := 10) dX11_judged_5 lk_X11_judged_310 HW rfl (Nat.le_of_ble_eq_true rfl) (Nat.le_of_ble_eq_true rfl) (k_X10_has (ev := ev) HW hk n0) ?_
  refine mv_if_ne (tgt := 15) dX11_judged_8 (by decide) (fun c8 => ?_) (fun z => absurd z ((by decide)))
  refine mv_iload_n dX11_judged_15 rfl ?_
  refine mv_cS1 dX11_judged_16 lk_X11_judged_130 (Nat.le_of_ble_eq_true rfl) (Nat.le_of_ble_eq_true rfl) (k_X11_isSize (ev := ev)) ?_
  refine mv_if_eq (tgt := 58) dX11_judged_19 (by decide) (fun z => absurd z ((fun z => (mv_b_0 _).mp z (mv_in_i (by omega) (by omega) (by omega))))) (fun c19 => ?_)
  refine mv_iload_n dX11_judged_22 rfl ?_
  refine mv_iconst (v := nI 1) dX11_judged_23 (by decide) ?_
  refine mv_bipush (v := nI 60) dX11_judged_24 (by decide) ?_
  refine mv_cS3 dX11_judged_26 lk_X11_judged_96 (Nat.le_of_ble_eq_true rfl) (Nat.le_of_ble_eq_true rfl) (k_X11_within (ev := ev)) ?_
  refine mv_if_eq (tgt := 58) dX11_judged_29 (by decide) (fun z => absurd z ((fun z => (mv_b_0 _).mp z (mv_in_i (by omega) (by omega) (by omega))))) (fun c29 => ?_)
  refine mv_iload dX11_judged_32 rfl ?_
  refine mv_iconst (v := nI 0) dX11_judged_34 (by decide) ?_
  refine mv_iconst (v := nI 1) dX11_judged_35 (by decide) ?_
  refine mv_cS3 dX11_judged_36 lk_X11_judged_96 (Nat.le_of_ble_eq_true rfl) (Nat.le_of_ble_eq_true rfl) (k_X11_within (ev := ev)) ?_
  refine mv_if_eq (tgt := 58) dX11_judged_39 (by decide) (fun z => absurd z ((fun z => (mv_b_0 _).mp z (mv_in_i (by omega) (by omega) (by omega))))) (fun c39 => ?_)
  refine mv_aload_n dX11_judged_42 rfl ?_
  refine mv_getf (ci := 11) (f := 10) dX11_judged_43 H0 rfl (by decide) wd_386 rfl ?_
  refine mv_iload_n dX11_judged_46 rfl ?_
  refine mv_cV1 (ci := 10) dX11_judged_47 lk_X11_judged_311 HW rfl (Nat.le_of_ble_eq_true rfl) (Nat.le_of_ble_eq_true rfl) (k_X10_dayOf (ev := ev) HW W49 hk n0) ?_
  refine mv_iload_n dX11_judged_50 rfl ?_
  refine mv_iadd dX11_judged_51 ?_
  refine mv_topI (y := nI (wo.2.1 k + n)) (nI_add _ _) ?_
  refine mv_sipush (v := nI 399) dX11_judged_52 (by decide) ?_
  refine mv_icmp_le (tgt := 62) dX11_judged_55 (by decide) (fun c55 => ?_) (fun z => absurd (((nI_leI (by omega) (by omega)).mpr hdn)) z)
  refine mv_aload_n dX11_judged_62 rfl ?_
  refine mv_getf (ci := 11) (f := 10) dX11_judged_63 H0 rfl (by decide) wd_386 rfl ?_
  refine mv_iload_n dX11_judged_66 rfl ?_
  refine mv_iload_n dX11_judged_67 rfl ?_
  refine mv_iload_n dX11_judged_68 rfl ?_
  refine mv_cV3 (ci := 10) dX11_judged_69 lk_X11_judged_312 HW rfl (Nat.le_of_ble_eq_true rfl) (Nat.le_of_ble_eq_true rfl) (k_X10_couldBeKnown (ev := ev) HW W49 W50 HF HL HV HB H8 H9 H10 hwo hk hw hb hz1 hz9 hn1 hdn) ?_
  refine mv_istore dX11_judged_72 (by decide) ?_
  refine mv_iload dX11_judged_74 rfl ?_
  refine mv_if_ne (tgt := 84) dX11_judged_76 (by decide) (fun z => absurd ((by decide)) z) (fun c76 => ?_)
  refine mv_iload dX11_judged_79 rfl ?_
  refine mv_goto (tgt := 97) dX11_judged_81 (by decide) ?_
  exact mv_iret dX11_judged_97 rfl rfl ⟨rfl, rfl⟩
set_option maxRecDepth 100000 in
theorem k_X11_judged_G1 {ev : mv_E} {h : mv_H} {wo : q_W} {lw : Nat → Int32} {ln : Nat → Nat} {b : t_B} {t : Nat} {k : Nat} {x : Nat} {n : Nat} {dd : Nat} (H0 : h[0]? = some (.inr (11, [.ref 1, .ref 3, .ref 7, .ref 11, .ref 21, .ref 22, .ref 32, .ref 34, .ref 42, .ref 45, .ref 48]))) (HW : h[48]? = some (.inr (10, [.ref 21, .ref 49, .ref 50, .ref 51, .int (nI wo.1)]))) (W49 : h[49]? = some (.inl (0, 12, .inl (fun j => nI (wo.2.1 j))))) (W50 : h[50]? = some (.inl (0, 12, .inl (fun j => nI (wo.2.2.1 j))))) (W51 : h[51]? = some (.inl (0, 12, .inl (fun j => nI (wo.2.2.2 j))))) (HF : h[21]? = some (.inr (3, [.ref 1, .ref 7]))) (HL : h[1]? = some (.inr (5, [.ref 2]))) (HV : h[2]? = some (.inl (0, 8, .inl lw))) (HB : h[7]? = some (.inr (0, [.ref 8, .ref 9, .ref 10, .int (nI b.1), .int (nI t), .int (nI b.2.1)]))) (H8 : h[8]? = some (.inl (0, 60, .inl (fun j => nI (b.2.2.1 j))))) (H9 : h[9]? = some (.inl (0, 60, .inl (fun j => nI (b.2.2.2.1 j))))) (H10 : h[10]? = some (.inl (0, 60, .inl (fun j => nI (b.2.2.2.2 j))))) (hwo : q_WOI wo) (hk : k < wo.1) (hw : q_LW lw ln) (hb : q_BI dd b) (hz1 : 1 ≤ x) (hz9 : x ≤ 9) (hn1 : 1 ≤ n) (hn6 : n ≤ 60) (hdn : wo.2.1 k + n ≤ 399) : mv_K ev mX11_judged [.ref 0, .int (nI k), .int (nI x), .int (nI n), .int (nI 1)] h (some (.int (q_cmp (wo.2.2.2 k) (q_jk ln wo b k x n)))) h := by
  refine mv_Kof ?_
  show mv_g ev mX11_judged 0 [.ref 0, .int (nI k), .int (nI x), .int (nI n), .int (nI 1), .null] [] h _
  have n0 := hwo.1
  have n2 := hwo.2.2.2 k
  have n3 : (q_jk ln wo b k x n) ≤ 2 := q_kn_le _ _
  refine mv_aload_n dX11_judged_0 rfl ?_
  refine mv_getf (ci := 11) (f := 10) dX11_judged_1 H0 rfl (by decide) wd_386 rfl ?_
  refine mv_iload_n dX11_judged_4 rfl ?_
  refine mv_cV1 (ci := 10) dX11_judged_5 lk_X11_judged_310 HW rfl (Nat.le_of_ble_eq_true rfl) (Nat.le_of_ble_eq_true rfl) (k_X10_has (ev := ev) HW hk n0) ?_
  refine mv_if_ne (tgt := 15) dX11_judged_8 (by decide) (fun c8 => ?_) (fun z => absurd z ((by decide)))
  refine mv_iload_n dX11_judged_15 rfl ?_
  refine mv_cS1 dX11_judged_16 lk_X11_judged_130 (Nat.le_of_ble_eq_true rfl) (Nat.le_of_ble_eq_true rfl) (k_X11_isSize (ev := ev)) ?_
  refine mv_if_eq (tgt := 58) dX11_judged_19 (by decide) (fun z => absurd z ((fun z => (mv_b_0 _).mp z (mv_in_i (by omega) (by omega) (by omega))))) (fun c19 => ?_)
  refine mv_iload_n dX11_judged_22 rfl ?_
  refine mv_iconst (v := nI 1) dX11_judged_23 (by decide) ?_
  refine mv_bipush (v := nI 60) dX11_judged_24 (by decide) ?_
  refine mv_cS3 dX11_judged_26 lk_X11_judged_96 (Nat.le_of_ble_eq_true rfl) (Nat.le_of_ble_eq_true rfl) (k_X11_within (ev := ev)) ?_
  refine mv_if_eq (tgt := 58) dX11_judged_29 (by decide) (fun z => absurd z ((fun z => (mv_b_0 _).mp z (mv_in_i (by omega) (by omega) (by omega))))) (fun c29 => ?_)
  refine mv_iload dX11_judged_32 rfl ?_
  refine mv_iconst (v := nI 0) dX11_judged_34 (by decide) ?_
  refine mv_iconst (v := nI 1) dX11_judged_35 (by decide) ?_
  refine mv_cS3 dX11_judged_36 lk_X11_judged_96 (Nat.le_of_ble_eq_true rfl) (Nat.le_of_ble_eq_true rfl) (k_X11_within (ev := ev)) ?_
  refine mv_if_eq (tgt := 58) dX11_judged_39 (by decide) (fun z => absurd z ((fun z => (mv_b_0 _).mp z (mv_in_i (by omega) (by omega) (by omega))))) (fun c39 => ?_)
  refine mv_aload_n dX11_judged_42 rfl ?_
  refine mv_getf (ci := 11) (f := 10) dX11_judged_43 H0 rfl (by decide) wd_386 rfl ?_
  refine mv_iload_n dX11_judged_46 rfl ?_
  refine mv_cV1 (ci := 10) dX11_judged_47 lk_X11_judged_311 HW rfl (Nat.le_of_ble_eq_true rfl) (Nat.le_of_ble_eq_true rfl) (k_X10_dayOf (ev := ev) HW W49 hk n0) ?_
  refine mv_iload_n dX11_judged_50 rfl ?_
  refine mv_iadd dX11_judged_51 ?_
  refine mv_topI (y := nI (wo.2.1 k + n)) (nI_add _ _) ?_
  refine mv_sipush (v := nI 399) dX11_judged_52 (by decide) ?_
  refine mv_icmp_le (tgt := 62) dX11_judged_55 (by decide) (fun c55 => ?_) (fun z => absurd (((nI_leI (by omega) (by omega)).mpr hdn)) z)
  refine mv_aload_n dX11_judged_62 rfl ?_
  refine mv_getf (ci := 11) (f := 10) dX11_judged_63 H0 rfl (by decide) wd_386 rfl ?_
  refine mv_iload_n dX11_judged_66 rfl ?_
  refine mv_iload_n dX11_judged_67 rfl ?_
  refine mv_iload_n dX11_judged_68 rfl ?_
  refine mv_cV3 (ci := 10) dX11_judged_69 lk_X11_judged_312 HW rfl (Nat.le_of_ble_eq_true rfl) (Nat.le_of_ble_eq_true rfl) (k_X10_couldBeKnown (ev := ev) HW W49 W50 HF HL HV HB H8 H9 H10 hwo hk hw hb hz1 hz9 hn1 hdn) ?_
  refine mv_istore dX11_judged_72 (by decide) ?_
  refine mv_iload dX11_judged_74 rfl ?_
  refine mv_if_ne (tgt := 84) dX11_judged_76 (by decide) (fun c76 => ?_) (fun z => absurd z ((by decide)))
  refine mv_aload_n dX11_judged_84 rfl ?_
  refine mv_getf (ci := 11) (f := 10) dX11_judged_85 H0 rfl (by decide) wd_386 rfl ?_
  refine mv_iload_n dX11_judged_88 rfl ?_
  refine mv_cV1 (ci := 10) dX11_judged_89 lk_X11_judged_315 HW rfl (Nat.le_of_ble_eq_true rfl) (Nat.le_of_ble_eq_true rfl) (k_X10_saidOf (ev := ev) HW W51 hk n0) ?_
  refine mv_iload dX11_judged_92 rfl ?_
  refine mv_cS2 dX11_judged_94 lk_X11_judged_318 (Nat.le_of_ble_eq_true rfl) (Nat.le_of_ble_eq_true rfl) (k_J6_compare_7cf53 (ev := ev) (by omega) (by omega)) ?_
  exact mv_iret dX11_judged_97 rfl rfl ⟨rfl, rfl⟩
set_option maxRecDepth 100000 in
theorem k_X11_keep_R1 {ev : mv_E} {h : mv_H} {kp : Nat → Nat} {i : Int32} (H0 : h[0]? = some (.inr (11, [.ref 1, .ref 3, .ref 7, .ref 11, .ref 21, .ref 22, .ref 32, .ref 34, .ref 42, .ref 45, .ref 48]))) (HI : h[11]? = some (.inr (4, [.ref 12, .ref 16, .ref 20]))) (HK : h[20]? = some (.inl (2, 2, .inl (fun j => nI (kp j))))) (hno : ¬ ((nI 0 ≤ i ∧ i ≤ nI 1))) : mv_K ev mX11_keep [.ref 0, .int i] h (some (.int (-1001))) h := by
  refine mv_Kof ?_
  show mv_g ev mX11_keep 0 [.ref 0, .int i] [] h _
  refine mv_aload_n dX11_keep_0 rfl ?_
  refine mv_getf (ci := 11) (f := 3) dX11_keep_1 H0 rfl (by decide) wd_379 rfl ?_
  refine mv_iload_n dX11_keep_4 rfl ?_
  refine mv_cV1 (ci := 4) dX11_keep_5 lk_X11_keep_323 HI rfl (Nat.le_of_ble_eq_true rfl) (Nat.le_of_ble_eq_true rfl) (k_X4_has (ev := ev) HI HK) ?_
  refine mv_if_eq (tgt := 26) dX11_keep_8 (by decide) (fun c8 => ?_) (fun c8 => ?_)
  · have c8 : ¬ (nI 0 ≤ i ∧ i ≤ nI 1) := (mv_b_0 _).mp c8
    refine mv_sipush (v := (-1001)) dX11_keep_26 (by decide) ?_
    exact mv_iret dX11_keep_29 rfl rfl ⟨rfl, rfl⟩
  · have c8 : nI 0 ≤ i ∧ i ≤ nI 1 := Classical.byContradiction (fun z => c8 ((mv_b_0 _).mpr z))
    exact absurd (by assumption) hno
set_option maxRecDepth 100000 in
theorem k_X11_goBack_R1 {ev : mv_E} {h : mv_H} {kp : Nat → Nat} {i : Int32} (H0 : h[0]? = some (.inr (11, [.ref 1, .ref 3, .ref 7, .ref 11, .ref 21, .ref 22, .ref 32, .ref 34, .ref 42, .ref 45, .ref 48]))) (HI : h[11]? = some (.inr (4, [.ref 12, .ref 16, .ref 20]))) (HK : h[20]? = some (.inl (2, 2, .inl (fun j => nI (kp j))))) (hno : ¬ ((nI 0 ≤ i ∧ i ≤ nI 1))) : mv_K ev mX11_goBack [.ref 0, .int i] h (some (.int (-1001))) h := by
  refine mv_Kof ?_
  show mv_g ev mX11_goBack 0 [.ref 0, .int i] [] h _
  refine mv_aload_n dX11_goBack_0 rfl ?_
  refine mv_getf (ci := 11) (f := 3) dX11_goBack_1 H0 rfl (by decide) wd_379 rfl ?_
  refine mv_iload_n dX11_goBack_4 rfl ?_
  refine mv_cV1 (ci := 4) dX11_goBack_5 lk_X11_goBack_323 HI rfl (Nat.le_of_ble_eq_true rfl) (Nat.le_of_ble_eq_true rfl) (k_X4_has (ev := ev) HI HK) ?_
  refine mv_if_ne (tgt := 15) dX11_goBack_8 (by decide) (fun c8 => ?_) (fun c8 => ?_)
  · have c8 : nI 0 ≤ i ∧ i ≤ nI 1 := Classical.byContradiction (fun z => c8 ((mv_b_0 _).mpr z))
    exact absurd (by assumption) hno
  · have c8 : ¬ (nI 0 ≤ i ∧ i ≤ nI 1) := (mv_b_0 _).mp c8
    refine mv_sipush (v := (-1001)) dX11_goBack_11 (by decide) ?_
    exact mv_iret dX11_goBack_14 rfl rfl ⟨rfl, rfl⟩
set_option maxRecDepth 100000 in
theorem k_X11_goBack_R2 {ev : mv_E} {h : mv_H} {kp : Nat → Nat} {i : Nat} (H0 : h[0]? = some (.inr (11, [.ref 1, .ref 3, .ref 7, .ref 11, .ref 21, .ref 22, .ref 32, .ref 34, .ref 42, .ref 45, .ref 48]))) (HI : h[11]? = some (.inr (4, [.ref 12, .ref 16, .ref 20]))) (HK : h[20]? = some (.inl (2, 2, .inl (fun j => nI (kp j))))) (hi : i ≤ 1) (hkp : ∀ i, kp i ≤ 1) (hno : ¬ (kp i = 1)) : mv_K ev mX11_goBack [.ref 0, .int (nI i)] h (some (.int (-1003))) h := by
  refine mv_Kof ?_
  show mv_g ev mX11_goBack 0 [.ref 0, .int (nI i)] [] h _
  have n1 := hkp i
  refine mv_aload_n dX11_goBack_0 rfl ?_
  refine mv_getf (ci := 11) (f := 3) dX11_goBack_1 H0 rfl (by decide) wd_379 rfl ?_
  refine mv_iload_n dX11_goBack_4 rfl ?_
  refine mv_cV1 (ci := 4) dX11_goBack_5 lk_X11_goBack_323 HI rfl (Nat.le_of_ble_eq_true rfl) (Nat.le_of_ble_eq_true rfl) (k_X4_has (ev := ev) HI HK) ?_
  refine mv_if_ne (tgt := 15) dX11_goBack_8 (by decide) (fun c8 => ?_) (fun z => absurd z ((fun z => (mv_b_0 _).mp z (mv_in_i (by omega) (by omega) (by omega)))))
  refine mv_aload_n dX11_goBack_15 rfl ?_
  refine mv_getf (ci := 11) (f := 3) dX11_goBack_16 H0 rfl (by decide) wd_379 rfl ?_
  refine mv_iload_n dX11_goBack_19 rfl ?_
  refine mv_cV1 (ci := 4) dX11_goBack_20 lk_X11_goBack_328 HI rfl (Nat.le_of_ble_eq_true rfl) (Nat.le_of_ble_eq_true rfl) (k_X4_isKept (ev := ev) HI HK hi hkp) ?_
  refine mv_if_eq (tgt := 41) dX11_goBack_23 (by decide) (fun c23 => ?_) (fun c23 => ?_)
  · have c23 : kp i = 0 := (nI_eq (b := 0) (by omega) (by omega)).mp c23
    refine mv_sipush (v := (-1003)) dX11_goBack_41 (by decide) ?_
    exact mv_iret dX11_goBack_44 rfl rfl ⟨rfl, rfl⟩
  · have c23 : ¬ (kp i = 0) := fun z => c23 ((nI_eq (b := 0) (by omega) (by omega)).mpr z)
    exact absurd (by omega) hno
set_option maxRecDepth 100000 in
theorem k_X11_keep_G0 {ev : mv_E} {h : mv_H} {b : t_B} {t : Nat} {o : t_B} {u : Nat} {kp : Nat → Nat} (H0 : h[0]? = some (.inr (11, [.ref 1, .ref 3, .ref 7, .ref 11, .ref 21, .ref 22, .ref 32, .ref 34, .ref 42, .ref 45, .ref 48]))) (HI : h[11]? = some (.inr (4, [.ref 12, .ref 16, .ref 20]))) (HK : h[20]? = some (.inl (2, 2, .inl (fun j => nI (kp j))))) (HB : h[7]? = some (.inr (0, [.ref 8, .ref 9, .ref 10, .int (nI b.1), .int (nI t), .int (nI b.2.1)]))) (H8 : h[8]? = some (.inl (0, 60, .inl (fun j => nI (b.2.2.1 j))))) (H9 : h[9]? = some (.inl (0, 60, .inl (fun j => nI (b.2.2.2.1 j))))) (H10 : h[10]? = some (.inl (0, 60, .inl (fun j => nI (b.2.2.2.2 j))))) (OHB : h[12]? = some (.inr (0, [.ref 13, .ref 14, .ref 15, .int (nI o.1), .int (nI u), .int (nI o.2.1)]))) (OH8 : h[13]? = some (.inl (0, 60, .inl (fun j => nI (o.2.2.1 j))))) (OH9 : h[14]? = some (.inl (0, 60, .inl (fun j => nI (o.2.2.2.1 j))))) (OH10 : h[15]? = some (.inl (0, 60, .inl (fun j => nI (o.2.2.2.2 j)))))  : ∃ h2, mv_K ev mX11_keep [.ref 0, .int (nI 0)] h (some (.int (nI 1))) h2 ∧ mv_fra [12, 13, 14, 15, 20] h h2 ∧ h2[12]? = some (.inr (0, [.ref 13, .ref 14, .ref 15, .int (nI (q_cb o b).1), .int (nI t), .int (nI (q_cb o b).2.1)])) ∧ h2[13]? = some (.inl (0, 60, .inl (fun j => nI ((q_cb o b).2.2.1 j)))) ∧ h2[14]? = some (.inl (0, 60, .inl (fun j => nI ((q_cb o b).2.2.2.1 j)))) ∧ h2[15]? = some (.inl (0, 60, .inl (fun j => nI ((q_cb o b).2.2.2.2 j)))) ∧ h2[20]? = some (.inl (2, 2, .inl (fun j => nI (t_up kp 0 1 j)))) := by
  suffices g0 : mv_g ev mX11_keep 0 (mv_ent [.ref 0, .int (nI 0)] (mv_ml mX11_keep)) [] h (fun r g => r = some (.int (nI 1)) ∧ mv_fra [12, 13, 14, 15, 20] h g ∧ g[12]? = some (.inr (0, [.ref 13, .ref 14, .ref 15, .int (nI (q_cb o b).1), .int (nI t), .int (nI (q_cb o b).2.1)])) ∧ g[13]? = some (.inl (0, 60, .inl (fun j => nI ((q_cb o b).2.2.1 j)))) ∧ g[14]? = some (.inl (0, 60, .inl (fun j => nI ((q_cb o b).2.2.2.1 j)))) ∧ g[15]? = some (.inl (0, 60, .inl (fun j => nI ((q_cb o b).2.2.2.2 j)))) ∧ g[20]? = some (.inl (2, 2, .inl (fun j => nI (t_up kp 0 1 j))))) from (by obtain ⟨r0, h0, K0, q0, Q0⟩ := mv_Kex g0; subst q0; exact ⟨h0, K0, Q0⟩)
  show mv_g ev mX11_keep 0 [.ref 0, .int (nI 0)] [] h _
  have fr : mv_fra [12, 13, 14, 15, 20] h h := mv_fra.rf
  refine mv_aload_n dX11_keep_0 rfl ?_
  refine mv_getf (ci := 11) (f := 3) dX11_keep_1 H0 rfl (by decide) wd_379 rfl ?_
  refine mv_iload_n dX11_keep_4 rfl ?_
  refine mv_cV1 (ci := 4) dX11_keep_5 lk_X11_keep_323 HI rfl (Nat.le_of_ble_eq_true rfl) (Nat.le_of_ble_eq_true rfl) (k_X4_has (ev := ev) HI HK) ?_
  refine mv_if_eq (tgt := 26) dX11_keep_8 (by decide) (fun z => absurd z ((fun z => (mv_b_0 _).mp z (mv_in_i (by omega) (by omega) (by omega))))) (fun c8 => ?_)
  refine mv_aload_n dX11_keep_11 rfl ?_
  refine mv_getf (ci := 11) (f := 3) dX11_keep_12 H0 rfl (by decide) wd_379 rfl ?_
  refine mv_iload_n dX11_keep_15 rfl ?_
  refine mv_aload_n dX11_keep_16 rfl ?_
  refine mv_getf (ci := 11) (f := 2) dX11_keep_17 H0 rfl (by decide) wd_378 rfl ?_
  obtain ⟨h1, K2, f3, y4, y5, y6, y7, y8⟩ := (k_X4_keepImage0 (ev := ev) (b := b) (t := t) (o := o) (u := u) (kp := kp) HI HK HB H8 H9 H10 OHB OH8 OH9 OH10)
  refine mv_cV2 (ci := 4) dX11_keep_20 lk_X11_keep_324 HI rfl (Nat.le_of_ble_eq_true rfl) (Nat.le_of_ble_eq_true rfl) K2 ?_
  have H0 := f3.get (by decide) H0
  have HI := f3.get (by decide) HI
  have HK : h1[20]? = some (.inl (2, 2, .inl (fun j => nI (t_up kp 0 1 j)))) := y8
  have HB := f3.get (by decide) HB
  have H8 := f3.get (by decide) H8
  have H9 := f3.get (by decide) H9
  have H10 := f3.get (by decide) H10
  have OHB : h1[12]? = some (.inr (0, [.ref 13, .ref 14, .ref 15, .int (nI (q_cb o b).1), .int (nI t), .int (nI (q_cb o b).2.1)])) := y4
  have OH8 : h1[13]? = some (.inl (0, 60, .inl (fun j => nI ((q_cb o b).2.2.1 j)))) := y5
  have OH9 : h1[14]? = some (.inl (0, 60, .inl (fun j => nI ((q_cb o b).2.2.2.1 j)))) := y6
  have OH10 : h1[15]? = some (.inl (0, 60, .inl (fun j => nI ((q_cb o b).2.2.2.2 j)))) := y7
  have fr := fr.trans f3 (by decide)
  refine mv_goto (tgt := 29) dX11_keep_23 (by decide) ?_
  exact mv_iret dX11_keep_29 rfl rfl ⟨rfl, fr, OHB, OH8, OH9, OH10, HK⟩
set_option maxRecDepth 100000 in
theorem k_X11_goBack_G0 {ev : mv_E} {h : mv_H} {b : t_B} {t : Nat} {o : t_B} {u : Nat} {kp : Nat → Nat} (H0 : h[0]? = some (.inr (11, [.ref 1, .ref 3, .ref 7, .ref 11, .ref 21, .ref 22, .ref 32, .ref 34, .ref 42, .ref 45, .ref 48]))) (HI : h[11]? = some (.inr (4, [.ref 12, .ref 16, .ref 20]))) (HK : h[20]? = some (.inl (2, 2, .inl (fun j => nI (kp j))))) (HB : h[7]? = some (.inr (0, [.ref 8, .ref 9, .ref 10, .int (nI b.1), .int (nI t), .int (nI b.2.1)]))) (H8 : h[8]? = some (.inl (0, 60, .inl (fun j => nI (b.2.2.1 j))))) (H9 : h[9]? = some (.inl (0, 60, .inl (fun j => nI (b.2.2.2.1 j))))) (H10 : h[10]? = some (.inl (0, 60, .inl (fun j => nI (b.2.2.2.2 j))))) (OHB : h[12]? = some (.inr (0, [.ref 13, .ref 14, .ref 15, .int (nI o.1), .int (nI u), .int (nI o.2.1)]))) (OH8 : h[13]? = some (.inl (0, 60, .inl (fun j => nI (o.2.2.1 j))))) (OH9 : h[14]? = some (.inl (0, 60, .inl (fun j => nI (o.2.2.2.1 j))))) (OH10 : h[15]? = some (.inl (0, 60, .inl (fun j => nI (o.2.2.2.2 j))))) (hkp : ∀ i, kp i ≤ 1) (hk : kp 0 = 1) : ∃ h2, mv_K ev mX11_goBack [.ref 0, .int (nI 0)] h (some (.int (nI 1))) h2 ∧ mv_fra [7, 8, 9, 10] h h2 ∧ h2[7]? = some (.inr (0, [.ref 8, .ref 9, .ref 10, .int (nI (q_cb b o).1), .int (nI u), .int (nI (q_cb b o).2.1)])) ∧ h2[8]? = some (.inl (0, 60, .inl (fun j => nI ((q_cb b o).2.2.1 j)))) ∧ h2[9]? = some (.inl (0, 60, .inl (fun j => nI ((q_cb b o).2.2.2.1 j)))) ∧ h2[10]? = some (.inl (0, 60, .inl (fun j => nI ((q_cb b o).2.2.2.2 j)))) := by
  suffices g0 : mv_g ev mX11_goBack 0 (mv_ent [.ref 0, .int (nI 0)] (mv_ml mX11_goBack)) [] h (fun r g => r = some (.int (nI 1)) ∧ mv_fra [7, 8, 9, 10] h g ∧ g[7]? = some (.inr (0, [.ref 8, .ref 9, .ref 10, .int (nI (q_cb b o).1), .int (nI u), .int (nI (q_cb b o).2.1)])) ∧ g[8]? = some (.inl (0, 60, .inl (fun j => nI ((q_cb b o).2.2.1 j)))) ∧ g[9]? = some (.inl (0, 60, .inl (fun j => nI ((q_cb b o).2.2.2.1 j)))) ∧ g[10]? = some (.inl (0, 60, .inl (fun j => nI ((q_cb b o).2.2.2.2 j))))) from (by obtain ⟨r0, h0, K0, q0, Q0⟩ := mv_Kex g0; subst q0; exact ⟨h0, K0, Q0⟩)
  show mv_g ev mX11_goBack 0 [.ref 0, .int (nI 0)] [] h _
  have fr : mv_fra [7, 8, 9, 10] h h := mv_fra.rf
  refine mv_aload_n dX11_goBack_0 rfl ?_
  refine mv_getf (ci := 11) (f := 3) dX11_goBack_1 H0 rfl (by decide) wd_379 rfl ?_
  refine mv_iload_n dX11_goBack_4 rfl ?_
  refine mv_cV1 (ci := 4) dX11_goBack_5 lk_X11_goBack_323 HI rfl (Nat.le_of_ble_eq_true rfl) (Nat.le_of_ble_eq_true rfl) (k_X4_has (ev := ev) HI HK) ?_
  refine mv_if_ne (tgt := 15) dX11_goBack_8 (by decide) (fun c8 => ?_) (fun z => absurd z ((fun z => (mv_b_0 _).mp z (mv_in_i (by omega) (by omega) (by omega)))))
  refine mv_aload_n dX11_goBack_15 rfl ?_
  refine mv_getf (ci := 11) (f := 3) dX11_goBack_16 H0 rfl (by decide) wd_379 rfl ?_
  refine mv_iload_n dX11_goBack_19 rfl ?_
  refine mv_cV1 (ci := 4) dX11_goBack_20 lk_X11_goBack_328 HI rfl (Nat.le_of_ble_eq_true rfl) (Nat.le_of_ble_eq_true rfl) (k_X4_isKept (ev := ev) HI HK (by decide) hkp) ?_
  refine mv_if_eq (tgt := 41) dX11_goBack_23 (by decide) (fun z => absurd z ((by rw [hk]; decide))) (fun c23 => ?_)
  refine mv_aload_n dX11_goBack_26 rfl ?_
  refine mv_getf (ci := 11) (f := 3) dX11_goBack_27 H0 rfl (by decide) wd_379 rfl ?_
  refine mv_iload_n dX11_goBack_30 rfl ?_
  refine mv_aload_n dX11_goBack_31 rfl ?_
  refine mv_getf (ci := 11) (f := 2) dX11_goBack_32 H0 rfl (by decide) wd_378 rfl ?_
  obtain ⟨h1, K2, f3, y4, y5, y6, y7⟩ := (k_X4_bringBack0 (ev := ev) (b := b) (t := t) (o := o) (u := u) HI HB H8 H9 H10 OHB OH8 OH9 OH10)
  refine mv_cV2 (ci := 4) dX11_goBack_35 lk_X11_goBack_331 HI rfl (Nat.le_of_ble_eq_true rfl) (Nat.le_of_ble_eq_true rfl) K2 ?_
  have H0 := f3.get (by decide) H0
  have HI := f3.get (by decide) HI
  have HK := f3.get (by decide) HK
  have HB : h1[7]? = some (.inr (0, [.ref 8, .ref 9, .ref 10, .int (nI (q_cb b o).1), .int (nI u), .int (nI (q_cb b o).2.1)])) := y4
  have H8 : h1[8]? = some (.inl (0, 60, .inl (fun j => nI ((q_cb b o).2.2.1 j)))) := y5
  have H9 : h1[9]? = some (.inl (0, 60, .inl (fun j => nI ((q_cb b o).2.2.2.1 j)))) := y6
  have H10 : h1[10]? = some (.inl (0, 60, .inl (fun j => nI ((q_cb b o).2.2.2.2 j)))) := y7
  have OHB := f3.get (by decide) OHB
  have OH8 := f3.get (by decide) OH8
  have OH9 := f3.get (by decide) OH9
  have OH10 := f3.get (by decide) OH10
  have fr := fr.trans f3 (by decide)
  refine mv_goto (tgt := 44) dX11_goBack_38 (by decide) ?_
  exact mv_iret dX11_goBack_44 rfl rfl ⟨rfl, fr, HB, H8, H9, H10⟩
set_option maxRecDepth 100000 in
theorem k_X11_keep_G1 {ev : mv_E} {h : mv_H} {b : t_B} {t : Nat} {o : t_B} {u : Nat} {kp : Nat → Nat} (H0 : h[0]? = some (.inr (11, [.ref 1, .ref 3, .ref 7, .ref 11, .ref 21, .ref 22, .ref 32, .ref 34, .ref 42, .ref 45, .ref 48]))) (HI : h[11]? = some (.inr (4, [.ref 12, .ref 16, .ref 20]))) (HK : h[20]? = some (.inl (2, 2, .inl (fun j => nI (kp j))))) (HB : h[7]? = some (.inr (0, [.ref 8, .ref 9, .ref 10, .int (nI b.1), .int (nI t), .int (nI b.2.1)]))) (H8 : h[8]? = some (.inl (0, 60, .inl (fun j => nI (b.2.2.1 j))))) (H9 : h[9]? = some (.inl (0, 60, .inl (fun j => nI (b.2.2.2.1 j))))) (H10 : h[10]? = some (.inl (0, 60, .inl (fun j => nI (b.2.2.2.2 j))))) (OHB : h[16]? = some (.inr (0, [.ref 17, .ref 18, .ref 19, .int (nI o.1), .int (nI u), .int (nI o.2.1)]))) (OH8 : h[17]? = some (.inl (0, 60, .inl (fun j => nI (o.2.2.1 j))))) (OH9 : h[18]? = some (.inl (0, 60, .inl (fun j => nI (o.2.2.2.1 j))))) (OH10 : h[19]? = some (.inl (0, 60, .inl (fun j => nI (o.2.2.2.2 j)))))  : ∃ h2, mv_K ev mX11_keep [.ref 0, .int (nI 1)] h (some (.int (nI 1))) h2 ∧ mv_fra [16, 17, 18, 19, 20] h h2 ∧ h2[16]? = some (.inr (0, [.ref 17, .ref 18, .ref 19, .int (nI (q_cb o b).1), .int (nI t), .int (nI (q_cb o b).2.1)])) ∧ h2[17]? = some (.inl (0, 60, .inl (fun j => nI ((q_cb o b).2.2.1 j)))) ∧ h2[18]? = some (.inl (0, 60, .inl (fun j => nI ((q_cb o b).2.2.2.1 j)))) ∧ h2[19]? = some (.inl (0, 60, .inl (fun j => nI ((q_cb o b).2.2.2.2 j)))) ∧ h2[20]? = some (.inl (2, 2, .inl (fun j => nI (t_up kp 1 1 j)))) := by
  suffices g0 : mv_g ev mX11_keep 0 (mv_ent [.ref 0, .int (nI 1)] (mv_ml mX11_keep)) [] h (fun r g => r = some (.int (nI 1)) ∧ mv_fra [16, 17, 18, 19, 20] h g ∧ g[16]? = some (.inr (0, [.ref 17, .ref 18, .ref 19, .int (nI (q_cb o b).1), .int (nI t), .int (nI (q_cb o b).2.1)])) ∧ g[17]? = some (.inl (0, 60, .inl (fun j => nI ((q_cb o b).2.2.1 j)))) ∧ g[18]? = some (.inl (0, 60, .inl (fun j => nI ((q_cb o b).2.2.2.1 j)))) ∧ g[19]? = some (.inl (0, 60, .inl (fun j => nI ((q_cb o b).2.2.2.2 j)))) ∧ g[20]? = some (.inl (2, 2, .inl (fun j => nI (t_up kp 1 1 j))))) from (by obtain ⟨r0, h0, K0, q0, Q0⟩ := mv_Kex g0; subst q0; exact ⟨h0, K0, Q0⟩)
  show mv_g ev mX11_keep 0 [.ref 0, .int (nI 1)] [] h _
  have fr : mv_fra [16, 17, 18, 19, 20] h h := mv_fra.rf
  refine mv_aload_n dX11_keep_0 rfl ?_
  refine mv_getf (ci := 11) (f := 3) dX11_keep_1 H0 rfl (by decide) wd_379 rfl ?_
  refine mv_iload_n dX11_keep_4 rfl ?_
  refine mv_cV1 (ci := 4) dX11_keep_5 lk_X11_keep_323 HI rfl (Nat.le_of_ble_eq_true rfl) (Nat.le_of_ble_eq_true rfl) (k_X4_has (ev := ev) HI HK) ?_
  refine mv_if_eq (tgt := 26) dX11_keep_8 (by decide) (fun z => absurd z ((fun z => (mv_b_0 _).mp z (mv_in_i (by omega) (by omega) (by omega))))) (fun c8 => ?_)
  refine mv_aload_n dX11_keep_11 rfl ?_
  refine mv_getf (ci := 11) (f := 3) dX11_keep_12 H0 rfl (by decide) wd_379 rfl ?_
  refine mv_iload_n dX11_keep_15 rfl ?_
  refine mv_aload_n dX11_keep_16 rfl ?_
  refine mv_getf (ci := 11) (f := 2) dX11_keep_17 H0 rfl (by decide) wd_378 rfl ?_
  obtain ⟨h1, K2, f3, y4, y5, y6, y7, y8⟩ := (k_X4_keepImage1 (ev := ev) (b := b) (t := t) (o := o) (u := u) (kp := kp) HI HK HB H8 H9 H10 OHB OH8 OH9 OH10)
  refine mv_cV2 (ci := 4) dX11_keep_20 lk_X11_keep_324 HI rfl (Nat.le_of_ble_eq_true rfl) (Nat.le_of_ble_eq_true rfl) K2 ?_
  have H0 := f3.get (by decide) H0
  have HI := f3.get (by decide) HI
  have HK : h1[20]? = some (.inl (2, 2, .inl (fun j => nI (t_up kp 1 1 j)))) := y8
  have HB := f3.get (by decide) HB
  have H8 := f3.get (by decide) H8
  have H9 := f3.get (by decide) H9
  have H10 := f3.get (by decide) H10
  have OHB : h1[16]? = some (.inr (0, [.ref 17, .ref 18, .ref 19, .int (nI (q_cb o b).1), .int (nI t), .int (nI (q_cb o b).2.1)])) := y4
  have OH8 : h1[17]? = some (.inl (0, 60, .inl (fun j => nI ((q_cb o b).2.2.1 j)))) := y5
  have OH9 : h1[18]? = some (.inl (0, 60, .inl (fun j => nI ((q_cb o b).2.2.2.1 j)))) := y6
  have OH10 : h1[19]? = some (.inl (0, 60, .inl (fun j => nI ((q_cb o b).2.2.2.2 j)))) := y7
  have fr := fr.trans f3 (by decide)
  refine mv_goto (tgt := 29) dX11_keep_23 (by decide) ?_
  exact mv_iret dX11_keep_29 rfl rfl ⟨rfl, fr, OHB, OH8, OH9, OH10, HK⟩
set_option maxRecDepth 100000 in
theorem k_X11_goBack_G1 {ev : mv_E} {h : mv_H} {b : t_B} {t : Nat} {o : t_B} {u : Nat} {kp : Nat → Nat} (H0 : h[0]? = some (.inr (11, [.ref 1, .ref 3, .ref 7, .ref 11, .ref 21, .ref 22, .ref 32, .ref 34, .ref 42, .ref 45, .ref 48]))) (HI : h[11]? = some (.inr (4, [.ref 12, .ref 16, .ref 20]))) (HK : h[20]? = some (.inl (2, 2, .inl (fun j => nI (kp j))))) (HB : h[7]? = some (.inr (0, [.ref 8, .ref 9, .ref 10, .int (nI b.1), .int (nI t), .int (nI b.2.1)]))) (H8 : h[8]? = some (.inl (0, 60, .inl (fun j => nI (b.2.2.1 j))))) (H9 : h[9]? = some (.inl (0, 60, .inl (fun j => nI (b.2.2.2.1 j))))) (H10 : h[10]? = some (.inl (0, 60, .inl (fun j => nI (b.2.2.2.2 j))))) (OHB : h[16]? = some (.inr (0, [.ref 17, .ref 18, .ref 19, .int (nI o.1), .int (nI u), .int (nI o.2.1)]))) (OH8 : h[17]? = some (.inl (0, 60, .inl (fun j => nI (o.2.2.1 j))))) (OH9 : h[18]? = some (.inl (0, 60, .inl (fun j => nI (o.2.2.2.1 j))))) (OH10 : h[19]? = some (.inl (0, 60, .inl (fun j => nI (o.2.2.2.2 j))))) (hkp : ∀ i, kp i ≤ 1) (hk : kp 1 = 1) : ∃ h2, mv_K ev mX11_goBack [.ref 0, .int (nI 1)] h (some (.int (nI 1))) h2 ∧ mv_fra [7, 8, 9, 10] h h2 ∧ h2[7]? = some (.inr (0, [.ref 8, .ref 9, .ref 10, .int (nI (q_cb b o).1), .int (nI u), .int (nI (q_cb b o).2.1)])) ∧ h2[8]? = some (.inl (0, 60, .inl (fun j => nI ((q_cb b o).2.2.1 j)))) ∧ h2[9]? = some (.inl (0, 60, .inl (fun j => nI ((q_cb b o).2.2.2.1 j)))) ∧ h2[10]? = some (.inl (0, 60, .inl (fun j => nI ((q_cb b o).2.2.2.2 j)))) := by
  suffices g0 : mv_g ev mX11_goBack 0 (mv_ent [.ref 0, .int (nI 1)] (mv_ml mX11_goBack)) [] h (fun r g => r = some (.int (nI 1)) ∧ mv_fra [7, 8, 9, 10] h g ∧ g[7]? = some (.inr (0, [.ref 8, .ref 9, .ref 10, .int (nI (q_cb b o).1), .int (nI u), .int (nI (q_cb b o).2.1)])) ∧ g[8]? = some (.inl (0, 60, .inl (fun j => nI ((q_cb b o).2.2.1 j)))) ∧ g[9]? = some (.inl (0, 60, .inl (fun j => nI ((q_cb b o).2.2.2.1 j)))) ∧ g[10]? = some (.inl (0, 60, .inl (fun j => nI ((q_cb b o).2.2.2.2 j))))) from (by obtain ⟨r0, h0, K0, q0, Q0⟩ := mv_Kex g0; subst q0; exact ⟨h0, K0, Q0⟩)
  show mv_g ev mX11_goBack 0 [.ref 0, .int (nI 1)] [] h _
  have fr : mv_fra [7, 8, 9, 10] h h := mv_fra.rf
  refine mv_aload_n dX11_goBack_0 rfl ?_
  refine mv_getf (ci := 11) (f := 3) dX11_goBack_1 H0 rfl (by decide) wd_379 rfl ?_
  refine mv_iload_n dX11_goBack_4 rfl ?_
  refine mv_cV1 (ci := 4) dX11_goBack_5 lk_X11_goBack_323 HI rfl (Nat.le_of_ble_eq_true rfl) (Nat.le_of_ble_eq_true rfl) (k_X4_has (ev := ev) HI HK) ?_
  refine mv_if_ne (tgt := 15) dX11_goBack_8 (by decide) (fun c8 => ?_) (fun z => absurd z ((fun z => (mv_b_0 _).mp z (mv_in_i (by omega) (by omega) (by omega)))))
  refine mv_aload_n dX11_goBack_15 rfl ?_
  refine mv_getf (ci := 11) (f := 3) dX11_goBack_16 H0 rfl (by decide) wd_379 rfl ?_
  refine mv_iload_n dX11_goBack_19 rfl ?_
  refine mv_cV1 (ci := 4) dX11_goBack_20 lk_X11_goBack_328 HI rfl (Nat.le_of_ble_eq_true rfl) (Nat.le_of_ble_eq_true rfl) (k_X4_isKept (ev := ev) HI HK (by decide) hkp) ?_
  refine mv_if_eq (tgt := 41) dX11_goBack_23 (by decide) (fun z => absurd z ((by rw [hk]; decide))) (fun c23 => ?_)
  refine mv_aload_n dX11_goBack_26 rfl ?_
  refine mv_getf (ci := 11) (f := 3) dX11_goBack_27 H0 rfl (by decide) wd_379 rfl ?_
  refine mv_iload_n dX11_goBack_30 rfl ?_
  refine mv_aload_n dX11_goBack_31 rfl ?_
  refine mv_getf (ci := 11) (f := 2) dX11_goBack_32 H0 rfl (by decide) wd_378 rfl ?_
  obtain ⟨h1, K2, f3, y4, y5, y6, y7⟩ := (k_X4_bringBack1 (ev := ev) (b := b) (t := t) (o := o) (u := u) HI HB H8 H9 H10 OHB OH8 OH9 OH10)
  refine mv_cV2 (ci := 4) dX11_goBack_35 lk_X11_goBack_331 HI rfl (Nat.le_of_ble_eq_true rfl) (Nat.le_of_ble_eq_true rfl) K2 ?_
  have H0 := f3.get (by decide) H0
  have HI := f3.get (by decide) HI
  have HK := f3.get (by decide) HK
  have HB : h1[7]? = some (.inr (0, [.ref 8, .ref 9, .ref 10, .int (nI (q_cb b o).1), .int (nI u), .int (nI (q_cb b o).2.1)])) := y4
  have H8 : h1[8]? = some (.inl (0, 60, .inl (fun j => nI ((q_cb b o).2.2.1 j)))) := y5
  have H9 : h1[9]? = some (.inl (0, 60, .inl (fun j => nI ((q_cb b o).2.2.2.1 j)))) := y6
  have H10 : h1[10]? = some (.inl (0, 60, .inl (fun j => nI ((q_cb b o).2.2.2.2 j)))) := y7
  have OHB := f3.get (by decide) OHB
  have OH8 := f3.get (by decide) OH8
  have OH9 := f3.get (by decide) OH9
  have OH10 := f3.get (by decide) OH10
  have fr := fr.trans f3 (by decide)
  refine mv_goto (tgt := 44) dX11_goBack_38 (by decide) ?_
  exact mv_iret dX11_goBack_44 rfl rfl ⟨rfl, fr, HB, H8, H9, H10⟩
