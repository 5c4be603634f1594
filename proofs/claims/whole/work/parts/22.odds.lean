set_option maxRecDepth 100000 in
theorem l_X12_oddsI {ev : mv_E} {h : mv_H} {xt : Int32} {xf : Int32} {xa : Int32} {xo : Int64} {xe : Int32} {xu : Int32} {xs : Int32} {xg : Int32} {xc : Int32} {xw : Int32} {b : t_B} {t : Nat} {lw : Nat → Int32} {ln : Nat → Nat} {p : Nat} {m : Nat} {x : Nat} {a : Nat} {e : Nat} {c : Nat} {dd : Nat} (HX : h[52]? = some (.inr (12, [.ref 53, .ref 54, .int xt, .int xf, .int xa, .long xo, .int xe, .int xu, .ref 55, .int xs, .int (nI b.1), .ref 56, .ref 57, .ref 58, .int (nI t), .int (nI b.2.1), .ref 59, .ref 60, .ref 61, .ref 62, .int xg, .ref 63, .ref 64, .ref 65, .ref 66, .ref 67, .ref 68, .ref 69, .int xc, .ref 70, .ref 71, .ref 72, .ref 73, .ref 74, .ref 75, .int xw, .ref 76, .ref 77, .ref 78, .ref 79, .ref 80]))) (X56 : h[56]? = some (.inl (0, 60, .inl (fun j => nI (b.2.2.1 j))))) (X57 : h[57]? = some (.inl (0, 60, .inl (fun j => nI (b.2.2.2.1 j))))) (X58 : h[58]? = some (.inl (0, 60, .inl (fun j => nI (b.2.2.2.2 j))))) (X53 : h[53]? = some (.inl (0, 8, .inl lw))) (hw : q_LW lw ln) (hp : p < 64) (hm0 : m < 8) (hz1 : 1 ≤ x) (hz9 : x ≤ 9) (hb : q_BI dd b) (he : e ≤ 399) (hae : a ≤ e) (hc : c ≤ b.1) (hca : ∀ k, k < c → b.2.2.1 k < a) : ∀ (fu : Nat) (day : Nat) (v : Nat) (w : Nat) (k : Nat), c < k + fu → (a ≤ day) → (day ≤ e) → (v ≤ 1000000) → (q_oo (ln 0) (ln 2) (ln 3) (ln 4) b p m (t_gr (ln 1) (x - 1)) c (e + 1 - day) day v = q_oo (ln 0) (ln 2) (ln 3) (ln 4) b p m (t_gr (ln 1) (x - 1)) c (e + 1 - a) a 1000000) → (k ≤ c) → (w ≤ 1000000) → (q_oi (ln 2) (ln 3) (ln 4) b p m (t_gr (ln 1) (x - 1)) day (c - k) k w = q_oi (ln 2) (ln 3) (ln 4) b p m (t_gr (ln 1) (x - 1)) day c 0 (q_le v (q_ma (ln 0) p m (t_gr (ln 1) (x - 1))))) → (mv_g ev mX12_oddsOf 96 [.ref 52, .int (nI c), .int (nI p), .int (nI m), .int (nI x), .int (nI a), .int (nI e), .int (nI (q_oi (ln 2) (ln 3) (ln 4) b p m (t_gr (ln 1) (x - 1)) day c 0 (q_le v (q_ma (ln 0) p m (t_gr (ln 1) (x - 1)))))), .int (nI (q_ma (ln 0) p m (t_gr (ln 1) (x - 1)))), .int (nI day), .null, .null] [] h (fun r g => r = some (.int (nI (q_od ln b p m x a e c))) ∧ g = h)) → mv_g ev mX12_oddsOf 37 [.ref 52, .int (nI c), .int (nI p), .int (nI m), .int (nI x), .int (nI a), .int (nI e), .int (nI w), .int (nI (q_ma (ln 0) p m (t_gr (ln 1) (x - 1)))), .int (nI day), .int (nI k), .null] [] h (fun r g => r = some (.int (nI (q_od ln b p m x a e c))) ∧ g = h) := by
  intro fu
  induction fu with
  | zero => intro day v w k hm hday hday2 hv hq hk hw1 hq2 kx; exact absurd hm (by omega)
  | succ fu ih =>
    intro day v w k hm hday hday2 hv hq hk hw1 hq2 kx
    have hwv := hw.1
    obtain ⟨g0, g1, g2, g3, g3b, g4, g7, gmo⟩ := hw.2
    have n0 := hb.1
    have s1 := t_gr_le g1 (x - 1)
    have s2 := q_ma_le (p := p) (m := m) g0 s1
    have n1 := hb.2.2.1 k
    refine mv_iload dX12_oddsOf_37 rfl ?_
    refine mv_iload_n dX12_oddsOf_39 rfl ?_
    refine mv_icmp_ge (tgt := 96) dX12_oddsOf_40 (by decide) (fun c40 => ?_) (fun c40 => ?_)
    · have c40 : c ≤ k := (nI_leI (by omega) (by omega)).mp c40
      have ek : k = c := (by omega)
      have e9 : w = q_oi (ln 2) (ln 3) (ln 4) b p m (t_gr (ln 1) (x - 1)) day c 0 (q_le v (q_ma (ln 0) p m (t_gr (ln 1) (x - 1)))) := (by rw [← hq2, ek, Nat.sub_self]; rfl)
      rw [e9]
      refine mv_sub (lv' := [.ref 52, .int (nI c), .int (nI p), .int (nI m), .int (nI x), .int (nI a), .int (nI e), .int (nI (q_oi (ln 2) (ln 3) (ln 4) b p m (t_gr (ln 1) (x - 1)) day c 0 (q_le v (q_ma (ln 0) p m (t_gr (ln 1) (x - 1)))))), .int (nI (q_ma (ln 0) p m (t_gr (ln 1) (x - 1)))), .int (nI day), .null, .null]) ⟨Or.inr rfl, Or.inr rfl, Or.inr rfl, Or.inr rfl, Or.inr rfl, Or.inr rfl, Or.inr rfl, Or.inr rfl, Or.inr rfl, Or.inr rfl, Or.inl rfl, Or.inl rfl, trivial⟩ ?_
      exact kx
    · have c40 : ¬ (c ≤ k) := fun z => c40 ((nI_leI (by omega) (by omega)).mpr z)
      have m2 := hca k (by omega)
      have s3 := q_af_le (A := ln 2) (N := ln 4) (b := b) (k := k) (late := day - b.2.2.1 k) (p := p) (m := m) s1
      refine mv_iload dX12_oddsOf_43 rfl ?_
      refine mv_aload_n dX12_oddsOf_45 rfl ?_
      refine mv_getf (ci := 12) (f := 11) dX12_oddsOf_46 HX rfl (by decide) wd_1210 rfl ?_
      refine mv_iload dX12_oddsOf_49 rfl ?_
      refine mv_iaN (j := k) (x := nI (b.2.2.1 k)) dX12_oddsOf_51 X56 rfl (by decide) (by omega) rfl ?_
      refine mv_isub dX12_oddsOf_52 ?_
      refine mv_topI (y := nI (day - (b.2.2.1 k))) (pk_sub (by omega)) ?_
      refine mv_istore dX12_oddsOf_53 (by decide) ?_
      refine mv_iload dX12_oddsOf_55 rfl ?_
      refine mv_aload_n dX12_oddsOf_57 rfl ?_
      refine mv_getf (ci := 12) (f := 0) dX12_oddsOf_58 HX rfl (by decide) wd_1199 rfl ?_
      refine mv_iconst (v := nI 3) dX12_oddsOf_61 (by decide) ?_
      refine mv_iaN (j := 3) (x := nI (ln 3)) dX12_oddsOf_62 X53 rfl (by decide) (by omega) (hwv 3 (by decide) (by decide)) ?_
      refine mv_icmp_gt (tgt := 86) dX12_oddsOf_63 (by decide) (fun c63 => ?_) (fun c63 => ?_)
      · have c63 : ln 3 < day - (b.2.2.1 k) := (nI_ltI (by omega) (by omega)).mp c63
        refine mv_iload dX12_oddsOf_86 rfl ?_
        refine mv_istore dX12_oddsOf_88 (by decide) ?_
        refine mv_iinc (v := nI (k + 1)) dX12_oddsOf_90 rfl (mv_inc k 1) (by decide) ?_
        refine mv_goto (tgt := 37) dX12_oddsOf_93 (by decide) ?_
        refine mv_sub (lv' := [.ref 52, .int (nI c), .int (nI p), .int (nI m), .int (nI x), .int (nI a), .int (nI e), .int (nI w), .int (nI (q_ma (ln 0) p m (t_gr (ln 1) (x - 1)))), .int (nI day), .int (nI (k + 1)), .null]) ⟨Or.inr rfl, Or.inr rfl, Or.inr rfl, Or.inr rfl, Or.inr rfl, Or.inr rfl, Or.inr rfl, Or.inr rfl, Or.inr rfl, Or.inr rfl, Or.inr rfl, Or.inl rfl, trivial⟩ ?_
        exact ih day v w (k + 1) (by omega) hday hday2 hv hq (by omega) hw1 (by rw [← hq2, q_oi_s (f := c - k) (by omega), if_neg (by omega), Nat.sub_sub]) kx
      · have c63 : ¬ (ln 3 < day - (b.2.2.1 k)) := fun z => c63 ((nI_ltI (by omega) (by omega)).mpr z)
        refine mv_iload dX12_oddsOf_66 rfl ?_
        refine mv_aload_n dX12_oddsOf_68 rfl ?_
        refine mv_iload dX12_oddsOf_69 rfl ?_
        refine mv_iload dX12_oddsOf_71 rfl ?_
        refine mv_iload_n dX12_oddsOf_73 rfl ?_
        refine mv_iload_n dX12_oddsOf_74 rfl ?_
        refine mv_iload dX12_oddsOf_75 rfl ?_
        refine mv_cV5 (ci := 12) dX12_oddsOf_77 lk_X12_oddsOf_271 HX rfl (Nat.le_of_ble_eq_true rfl) (Nat.le_of_ble_eq_true rfl) (k_X12_afterOf (ev := ev) HX X57 X58 X53 hw hp hm0 hz1 hz9 hb (by omega) (by omega) (by omega)) ?_
        refine mv_cS2 dX12_oddsOf_80 lk_X12_oddsOf_268 (Nat.le_of_ble_eq_true rfl) (Nat.le_of_ble_eq_true rfl) (k_X12_lessened (ev := ev) hw1 s3) ?_
        refine mv_goto (tgt := 88) dX12_oddsOf_83 (by decide) ?_
        refine mv_istore dX12_oddsOf_88 (by decide) ?_
        refine mv_iinc (v := nI (k + 1)) dX12_oddsOf_90 rfl (mv_inc k 1) (by decide) ?_
        refine mv_goto (tgt := 37) dX12_oddsOf_93 (by decide) ?_
        refine mv_sub (lv' := [.ref 52, .int (nI c), .int (nI p), .int (nI m), .int (nI x), .int (nI a), .int (nI e), .int (nI (q_le w (q_af (ln 2) (ln 4) b k (day - (b.2.2.1 k)) p m (t_gr (ln 1) (x - 1))))), .int (nI (q_ma (ln 0) p m (t_gr (ln 1) (x - 1)))), .int (nI day), .int (nI (k + 1)), .null]) ⟨Or.inr rfl, Or.inr rfl, Or.inr rfl, Or.inr rfl, Or.inr rfl, Or.inr rfl, Or.inr rfl, Or.inr rfl, Or.inr rfl, Or.inr rfl, Or.inr rfl, Or.inl rfl, trivial⟩ ?_
        exact ih day v (q_le w (q_af (ln 2) (ln 4) b k (day - (b.2.2.1 k)) p m (t_gr (ln 1) (x - 1)))) (k + 1) (by omega) hday hday2 hv hq (by omega) (q_le_le _ _ hw1) (by rw [← hq2, q_oi_s (f := c - k) (by omega), if_pos (by omega), Nat.sub_sub]) kx
set_option maxRecDepth 100000 in
theorem l_X12_odds {ev : mv_E} {h : mv_H} {xt : Int32} {xf : Int32} {xa : Int32} {xo : Int64} {xe : Int32} {xu : Int32} {xs : Int32} {xg : Int32} {xc : Int32} {xw : Int32} {b : t_B} {t : Nat} {lw : Nat → Int32} {ln : Nat → Nat} {p : Nat} {m : Nat} {x : Nat} {a : Nat} {e : Nat} {c : Nat} {dd : Nat} (HX : h[52]? = some (.inr (12, [.ref 53, .ref 54, .int xt, .int xf, .int xa, .long xo, .int xe, .int xu, .ref 55, .int xs, .int (nI b.1), .ref 56, .ref 57, .ref 58, .int (nI t), .int (nI b.2.1), .ref 59, .ref 60, .ref 61, .ref 62, .int xg, .ref 63, .ref 64, .ref 65, .ref 66, .ref 67, .ref 68, .ref 69, .int xc, .ref 70, .ref 71, .ref 72, .ref 73, .ref 74, .ref 75, .int xw, .ref 76, .ref 77, .ref 78, .ref 79, .ref 80]))) (X56 : h[56]? = some (.inl (0, 60, .inl (fun j => nI (b.2.2.1 j))))) (X57 : h[57]? = some (.inl (0, 60, .inl (fun j => nI (b.2.2.2.1 j))))) (X58 : h[58]? = some (.inl (0, 60, .inl (fun j => nI (b.2.2.2.2 j))))) (X53 : h[53]? = some (.inl (0, 8, .inl lw))) (hw : q_LW lw ln) (hp : p < 64) (hm0 : m < 8) (hz1 : 1 ≤ x) (hz9 : x ≤ 9) (hb : q_BI dd b) (he : e ≤ 399) (hae : a ≤ e) (hc : c ≤ b.1) (hca : ∀ k, k < c → b.2.2.1 k < a) : ∀ (fu : Nat) (v : Nat) (day : Nat), e + 1 < day + fu → (a ≤ day) → (day ≤ e + 1) → (v ≤ 1000000) → (q_oo (ln 0) (ln 2) (ln 3) (ln 4) b p m (t_gr (ln 1) (x - 1)) c (e + 1 - day) day v = q_oo (ln 0) (ln 2) (ln 3) (ln 4) b p m (t_gr (ln 1) (x - 1)) c (e + 1 - a) a 1000000) → mv_g ev mX12_oddsOf 18 [.ref 52, .int (nI c), .int (nI p), .int (nI m), .int (nI x), .int (nI a), .int (nI e), .int (nI v), .int (nI (q_ma (ln 0) p m (t_gr (ln 1) (x - 1)))), .int (nI day), .null, .null] [] h (fun r g => r = some (.int (nI (q_od ln b p m x a e c))) ∧ g = h) := by
  intro fu
  induction fu with
  | zero => intro v day hm hday hday2 hv hq; exact absurd hm (by omega)
  | succ fu ih =>
    intro v day hm hday hday2 hv hq
    have hwv := hw.1
    obtain ⟨g0, g1, g2, g3, g3b, g4, g7, gmo⟩ := hw.2
    have n0 := hb.1
    have s1 := t_gr_le g1 (x - 1)
    have s2 := q_ma_le (p := p) (m := m) g0 s1
    refine mv_iload dX12_oddsOf_18 rfl ?_
    refine mv_iload dX12_oddsOf_20 rfl ?_
    refine mv_icmp_gt (tgt := 102) dX12_oddsOf_22 (by decide) (fun c22 => ?_) (fun c22 => ?_)
    · have c22 : e < day := (nI_ltI (by omega) (by omega)).mp c22
      refine mv_ldc (v := nI 1000000) dX12_oddsOf_102 wd_1414 ?_
      refine mv_iload dX12_oddsOf_104 rfl ?_
      refine mv_isub dX12_oddsOf_106 ?_
      refine mv_topI (y := nI (1000000 - v)) (pk_sub (by omega)) ?_
      exact mv_iret dX12_oddsOf_107 rfl rfl ⟨(congrArg (fun z => some (Value.int z)) (congrArg nI (by unfold q_od; rw [← hq, show e + 1 - day = 0 by omega]; rfl))), rfl⟩
    · have c22 : ¬ (e < day) := fun z => c22 ((nI_ltI (by omega) (by omega)).mpr z)
      refine mv_iload dX12_oddsOf_25 rfl ?_
      refine mv_iload dX12_oddsOf_27 rfl ?_
      refine mv_cS2 dX12_oddsOf_29 lk_X12_oddsOf_268 (Nat.le_of_ble_eq_true rfl) (Nat.le_of_ble_eq_true rfl) (k_X12_lessened (ev := ev) hv s2) ?_
      refine mv_istore dX12_oddsOf_32 (by decide) ?_
      refine mv_iconst (v := nI 0) dX12_oddsOf_34 (by decide) ?_
      refine mv_istore dX12_oddsOf_35 (by decide) ?_
      refine l_X12_oddsI HX X56 X57 X58 X53 hw hp hm0 hz1 hz9 hb he hae hc hca (c + 1) day v (q_le v (q_ma (ln 0) p m (t_gr (ln 1) (x - 1)))) 0 (by omega) hday (by omega) hv hq (Nat.zero_le _) (q_le_le _ _ hv) rfl ?_
      refine mv_iinc (v := nI (day + 1)) dX12_oddsOf_96 rfl (mv_inc day 1) (by decide) ?_
      refine mv_goto (tgt := 18) dX12_oddsOf_99 (by decide) ?_
      exact ih (q_oi (ln 2) (ln 3) (ln 4) b p m (t_gr (ln 1) (x - 1)) day c 0 (q_le v (q_ma (ln 0) p m (t_gr (ln 1) (x - 1))))) (day + 1) (by omega) (by omega) (by omega) (q_oi_le c 0 _ (q_le_le _ _ hv)) (by rw [← hq, q_oo_s (f := e + 1 - day) (by omega), Nat.sub_sub])
set_option maxRecDepth 100000 in
theorem k_X12_oddsOf {ev : mv_E} {h : mv_H} {xt : Int32} {xf : Int32} {xa : Int32} {xo : Int64} {xe : Int32} {xu : Int32} {xs : Int32} {xg : Int32} {xc : Int32} {xw : Int32} {b : t_B} {t : Nat} {lw : Nat → Int32} {ln : Nat → Nat} {p : Nat} {m : Nat} {x : Nat} {a : Nat} {e : Nat} {c : Nat} {dd : Nat} (HX : h[52]? = some (.inr (12, [.ref 53, .ref 54, .int xt, .int xf, .int xa, .long xo, .int xe, .int xu, .ref 55, .int xs, .int (nI b.1), .ref 56, .ref 57, .ref 58, .int (nI t), .int (nI b.2.1), .ref 59, .ref 60, .ref 61, .ref 62, .int xg, .ref 63, .ref 64, .ref 65, .ref 66, .ref 67, .ref 68, .ref 69, .int xc, .ref 70, .ref 71, .ref 72, .ref 73, .ref 74, .ref 75, .int xw, .ref 76, .ref 77, .ref 78, .ref 79, .ref 80]))) (X56 : h[56]? = some (.inl (0, 60, .inl (fun j => nI (b.2.2.1 j))))) (X57 : h[57]? = some (.inl (0, 60, .inl (fun j => nI (b.2.2.2.1 j))))) (X58 : h[58]? = some (.inl (0, 60, .inl (fun j => nI (b.2.2.2.2 j))))) (X53 : h[53]? = some (.inl (0, 8, .inl lw))) (hw : q_LW lw ln) (hp : p < 64) (hm0 : m < 8) (hz1 : 1 ≤ x) (hz9 : x ≤ 9) (hb : q_BI dd b) (he : e ≤ 399) (hae : a ≤ e) (hc : c ≤ b.1) (hca : ∀ k, k < c → b.2.2.1 k < a) : mv_K ev mX12_oddsOf [.ref 52, .int (nI c), .int (nI p), .int (nI m), .int (nI x), .int (nI a), .int (nI e)] h (some (.int (nI (q_od ln b p m x a e c)))) h := by
  refine mv_Kof ?_
  show mv_g ev mX12_oddsOf 0 [.ref 52, .int (nI c), .int (nI p), .int (nI m), .int (nI x), .int (nI a), .int (nI e), .null, .null, .null, .null, .null] [] h _
  have hwv := hw.1
  obtain ⟨g0, g1, g2, g3, g3b, g4, g7, gmo⟩ := hw.2
  have n0 := hb.1
  have s1 := t_gr_le g1 (x - 1)
  have s2 := q_ma_le (p := p) (m := m) g0 s1
  refine mv_ldc (v := nI 1000000) dX12_oddsOf_0 wd_1414 ?_
  refine mv_istore dX12_oddsOf_2 (by decide) ?_
  refine mv_aload_n dX12_oddsOf_4 rfl ?_
  refine mv_iload_n dX12_oddsOf_5 rfl ?_
  refine mv_iload_n dX12_oddsOf_6 rfl ?_
  refine mv_iload dX12_oddsOf_7 rfl ?_
  refine mv_cV3 (ci := 12) dX12_oddsOf_9 lk_X12_oddsOf_264 HX rfl (Nat.le_of_ble_eq_true rfl) (Nat.le_of_ble_eq_true rfl) (k_X12_mainOf (ev := ev) HX X53 hw hp hm0 hz1 hz9) ?_
  refine mv_istore dX12_oddsOf_12 (by decide) ?_
  refine mv_iload dX12_oddsOf_14 rfl ?_
  refine mv_istore dX12_oddsOf_16 (by decide) ?_
  exact l_X12_odds HX X56 X57 X58 X53 hw hp hm0 hz1 hz9 hb he hae hc hca (e + 2) 1000000 a (by omega) (Nat.le_refl _) (by omega) (Nat.le_refl _) rfl
def q_n (x : Int32) : Nat := x.toInt.toNat
theorem q_n_n {a : Nat} (h : a < 2 ^ 31) : q_n (nI a) = a := by
  unfold q_n
  rw [nI_toInt h]
  rfl
noncomputable def q_rnF (ln : Nat → Nat) (t n : Nat) (b : t_B) : Nat × t_B := q_rn (ln 0) (ln 1) (ln 2) (ln 3) (ln 4) (min 399 (t + n) - t) t b
noncomputable def q_rnR (ln : Nat → Nat) (b : t_B) (t : Nat) (n : Int32) : Int32 × Nat × t_B := if nI 1 ≤ n ∧ n ≤ nI 399 then (if b.1 = 60 then (-1004, t, b) else (nI ((q_rnF ln t (q_n n) b).2.1 - b.1), q_rnF ln t (q_n n) b)) else (-1002, t, b)
