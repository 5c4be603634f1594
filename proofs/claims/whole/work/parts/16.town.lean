/-- towns: what a day's odds are, how many shakes it has, what a line brings -/
noncomputable def q_tO (ln : Nat → Nat) (b : t_B) (p z d : Nat) : Nat := q_od ln b p 1 z d d (q_ut b (nI (d - 1)))
def q_tS (b : t_B) (p z d : Nat) : Nat := q_hs b p 1 z d b.1
theorem q_tO_le (ln : Nat → Nat) (b : t_B) (p z d : Nat) : q_tO ln b p z d ≤ 1000000 := q_od_le _ _ _ _ _ _ _ _
theorem q_tS_le (b : t_B) (p z d : Nat) : q_tS b p z d ≤ b.1 := q_hs_le _ _ _ _ _ _
def q_fil (f g : Nat → Nat) (a y : Nat) : Nat → Nat := fun i => if a ≤ i ∧ i < y then f i else g i
theorem q_fil_0 (f g : Nat → Nat) (a : Nat) : q_fil f g a a = g := by
  funext i
  exact if_neg (by omega)
theorem q_fil_s {f g : Nat → Nat} {a y : Nat} (h : a ≤ y) : t_up (q_fil f g a y) y (f y) = q_fil f g a (y + 1) := by
  funext i
  unfold t_up q_fil
  by_cases c : i = y
  · rw [if_pos c, if_pos (by omega), c]
  · rw [if_neg c]
    by_cases c2 : a ≤ i ∧ i < y
    · rw [if_pos c2, if_pos (by omega)]
    · rw [if_neg c2, if_neg (by omega)]
theorem q_fil_in {f g : Nat → Nat} {a y i : Nat} (h : a ≤ i ∧ i < y) : q_fil f g a y i = f i := if_pos h
abbrev q_3 : Type := Nat × Nat × Nat
def q_tl (od sh : Nat → Nat) (li d : Nat) (t : q_3) : q_3 := if od d < li then (t.1, t.2.1, t.2.2 + sh d) else if sh d = 0 then (t.1 + 1, t.2.1 + 1, t.2.2) else (t.1 + 1, t.2.1, t.2.2)
def q_tw (od sh : Nat → Nat) (li a : Nat) : Nat → q_3
  | 0 => (0, 0, 0)
  | n + 1 => q_tl od sh li (a + n) (q_tw od sh li a n)
theorem q_tw_s {od sh : Nat → Nat} {li a y : Nat} (h : a ≤ y) : q_tw od sh li a (y + 1 - a) = q_tl od sh li y (q_tw od sh li a (y - a)) := by
  have e : y + 1 - a = (y - a) + 1 := by omega
  have e2 : q_tw od sh li a ((y - a) + 1) = q_tl od sh li (a + (y - a)) (q_tw od sh li a (y - a)) := rfl
  rw [e, e2, show a + (y - a) = y by omega]
theorem q_tl_le {od sh : Nat → Nat} {li d n : Nat} {t : q_3} (hs : sh d ≤ 60) (h : t.1 ≤ n ∧ t.2.2 ≤ 60 * n) : (q_tl od sh li d t).1 ≤ n + 1 ∧ (q_tl od sh li d t).2.2 ≤ 60 * (n + 1) := by
  unfold q_tl
  split
  · exact ⟨by have := h.1; show t.1 ≤ n + 1; omega, by have := h.2; show t.2.2 + sh d ≤ 60 * (n + 1); omega⟩
  · split
    · exact ⟨by have := h.1; show t.1 + 1 ≤ n + 1; omega, by have := h.2; show t.2.2 ≤ 60 * (n + 1); omega⟩
    · exact ⟨by have := h.1; show t.1 + 1 ≤ n + 1; omega, by have := h.2; show t.2.2 ≤ 60 * (n + 1); omega⟩
theorem q_tw_le {od sh : Nat → Nat} {li a : Nat} (n : Nat) (hs : ∀ d, a ≤ d → d < a + n → sh d ≤ 60) : (q_tw od sh li a n).1 ≤ n ∧ (q_tw od sh li a n).2.2 ≤ 60 * n := by
  induction n with
  | zero => exact ⟨Nat.le_refl _, Nat.le_refl _⟩
  | succ n ih => exact q_tl_le (hs (a + n) (by omega) (by omega)) (ih (fun d h1 h2 => hs d h1 (by omega)))
def q_co (od sh : Nat → Nat) (a e lc sc li : Nat) : Nat := (q_tw od sh li a (e + 1 - a)).1 * lc + (q_tw od sh li a (e + 1 - a)).2.2 * sc
theorem q_co_le {od sh : Nat → Nat} {a e lc sc : Nat} (li : Nat) (he : e ≤ 399) (hl : lc ≤ 999) (hsc : sc ≤ 9999) (hs : ∀ d, a ≤ d → d ≤ e → sh d ≤ 60) : q_co od sh a e lc sc li ≤ 400 * 999 + 24000 * 9999 := by
  have h := q_tw_le (od := od) (li := li) (e + 1 - a) (fun d h1 h2 => hs d h1 (by omega))
  have h1 : (q_tw od sh li a (e + 1 - a)).1 * lc ≤ 400 * 999 := Nat.mul_le_mul (by omega) hl
  have h2 : (q_tw od sh li a (e + 1 - a)).2.2 * sc ≤ 24000 * 9999 := Nat.mul_le_mul (by omega) hsc
  unfold q_co
  omega
/-- from the highest line down -/
def q_bl (K : Nat → Nat) : Nat → Nat × Nat → Nat × Nat
  | 0, r => r
  | y + 1, r => q_bl K y (if K (1000 * y) ≤ r.1 then (K (1000 * y), 1000 * y) else r)
theorem q_bl_s {K : Nat → Nat} {y : Nat} {r : Nat × Nat} (h : 0 < y) : q_bl K y r = q_bl K (y - 1) (if K (1000 * (y - 1)) ≤ r.1 then (K (1000 * (y - 1)), 1000 * (y - 1)) else r) := by
  obtain ⟨g, rfl⟩ : ∃ g, y = g + 1 := ⟨y - 1, by omega⟩
  rfl
theorem q_dn {y : Nat} (h : 1 ≤ y) : nI (1000 * y) - nI 1000 + Int32.ofInt (-1000) = nI (1000 * (y - 1)) - nI 1000 := by
  have e : nI (1000 * y) - nI 1000 = nI (1000 * (y - 1)) := by rw [pk_sub (by omega)]; exact congrArg nI (by omega)
  have e2 : Int32.ofInt (-1000) = -nI 1000 := by decide
  rw [e, e2, Int32.sub_eq_add_neg]
theorem q_dn0 {y : Nat} (hy : y < 100) : nI (1000 * y) - nI 1000 < 0 ↔ y = 0 := by
  have h1 := pk_sub_toInt (a := 1000 * y) (b := 1000) (by omega) (by omega)
  rw [Int32.lt_iff_toInt_lt, h1, show (0 : Int32).toInt = 0 by decide]
  omega
set_option maxRecDepth 100000 in
theorem l_X9_learn {ev : mv_E} {h : mv_H} {od : Nat → Nat} {sh : Nat → Nat} {t3 : q_3} {co : Nat} {lw : Nat → Int32} {ln : Nat → Nat} {b : t_B} {t : Nat} {p : Nat} {z : Nat} {a : Nat} {e : Nat} {dd : Nat}  (hw : q_LW lw ln) (hb : q_BI dd b) (hp : p < 64) (hz1 : 1 ≤ z) (hz9 : z ≤ 9) (ha : 1 ≤ a) (hae : a ≤ e) (he : e ≤ 399) : ∀ (fu : Nat) (y : Nat), ∀ (g : mv_H), e + 1 < y + fu → mv_fra [43, 44] h g → g[43]? = some (.inl (0, 400, .inl (fun j => nI (q_fil (q_tO ln b p z) od a y j)))) → g[44]? = some (.inl (0, 400, .inl (fun j => nI (q_fil (q_tS b p z) sh a y j)))) → g[42]? = some (.inr (9, [.ref 21, .ref 7, .ref 43, .ref 44, .int (nI t3.1), .int (nI t3.2.1), .int (nI t3.2.2), .int (nI co)])) → g[21]? = some (.inr (3, [.ref 1, .ref 7])) → g[1]? = some (.inr (5, [.ref 2])) → g[2]? = some (.inl (0, 8, .inl lw)) → g[7]? = some (.inr (0, [.ref 8, .ref 9, .ref 10, .int (nI b.1), .int (nI t), .int (nI b.2.1)])) → g[8]? = some (.inl (0, 60, .inl (fun j => nI (b.2.2.1 j)))) → g[9]? = some (.inl (0, 60, .inl (fun j => nI (b.2.2.2.1 j)))) → g[10]? = some (.inl (0, 60, .inl (fun j => nI (b.2.2.2.2 j)))) → (a ≤ y) → (y ≤ e + 1) → mv_g ev mX9_learn 7 [.ref 42, .int (nI p), .int (nI z), .int (nI a), .int (nI e), .int (nI y)] [] g (fun r g => r = none ∧ mv_fra [43, 44] h g ∧ g[43]? = some (.inl (0, 400, .inl (fun j => nI (q_fil (q_tO ln b p z) od a (e + 1) j)))) ∧ g[44]? = some (.inl (0, 400, .inl (fun j => nI (q_fil (q_tS b p z) sh a (e + 1) j))))) := by
  intro fu
  induction fu with
  | zero => intro y g hm fr T43 T44 H42 HF HL HV HB H8 H9 H10 hy hy2; exact absurd hm (by omega)
  | succ fu ih =>
    intro y g hm fr T43 T44 H42 HF HL HV HB H8 H9 H10 hy hy2
    have n0 := hb.1
    refine mv_iload dX9_learn_7 rfl ?_
    refine mv_iload dX9_learn_9 rfl ?_
    refine mv_icmp_gt (tgt := 72) dX9_learn_11 (by decide) (fun c11 => ?_) (fun c11 => ?_)
    · have c11 : e < y := (nI_ltI (by omega) (by omega)).mp c11
      have ey : y = e + 1 := (by omega)
      subst ey
      exact mv_vret dX9_learn_72 rfl ⟨rfl, fr, T43, T44⟩
    · have c11 : ¬ (e < y) := fun z => c11 ((nI_ltI (by omega) (by omega)).mpr z)
      refine mv_iload dX9_learn_14 rfl ?_
      refine mv_sipush (v := nI 400) dX9_learn_16 (by decide) ?_
      refine mv_icmp_ge (tgt := 72) dX9_learn_19 (by decide) (fun z => absurd z ((fun z => absurd ((nI_leI (by omega) (by omega)).mp z) (by omega)))) (fun c19 => ?_)
      refine mv_aload_n dX9_learn_22 rfl ?_
      refine mv_getf (ci := 9) (f := 2) dX9_learn_23 H42 rfl (by decide) wd_314 rfl ?_
      refine mv_iload dX9_learn_26 rfl ?_
      refine mv_aload_n dX9_learn_28 rfl ?_
      refine mv_getf (ci := 9) (f := 0) dX9_learn_29 H42 rfl (by decide) wd_312 rfl ?_
      refine mv_iload dX9_learn_32 rfl ?_
      refine mv_iconst (v := nI 1) dX9_learn_34 (by decide) ?_
      refine mv_isub dX9_learn_35 ?_
      refine mv_topI (y := nI (y - 1)) (pk_sub (by omega)) ?_
      refine mv_iload_n dX9_learn_36 rfl ?_
      refine mv_iconst (v := nI 1) dX9_learn_37 (by decide) ?_
      refine mv_iload_n dX9_learn_38 rfl ?_
      refine mv_iload dX9_learn_39 rfl ?_
      refine mv_iload dX9_learn_41 rfl ?_
      refine mv_cV6 (ci := 3) dX9_learn_43 lk_X9_learn_45 HF rfl (Nat.le_of_ble_eq_true rfl) (Nat.le_of_ble_eq_true rfl) (k_X3_odds (ev := ev) HF HL HV HB H8 H9 H10 hw hb (by omega) (by omega) (by omega) (by omega) (by omega) (by omega) ((nI_ltI (by omega) (by omega)).mpr (by omega))) ?_
      refine mv_topI (y := nI (q_tO ln b p z y)) rfl ?_
      refine mv_iastN (j := y) dX9_learn_46 T43 rfl (by decide) (by omega) (fun h1 e2 => ?_)
      rw [upd_nI] at e2
      have H42 := mv_ne e2 (by decide) H42
      have T43 : h1[43]? = some (.inl (0, 400, .inl (fun j => nI (t_up (q_fil (q_tO ln b p z) od a y) y (q_tO ln b p z y) j)))) := mv_eq e2 T43
      have T44 := mv_ne e2 (by decide) T44
      have HF := mv_ne e2 (by decide) HF
      have HL := mv_ne e2 (by decide) HL
      have HV := mv_ne e2 (by decide) HV
      have HB := mv_ne e2 (by decide) HB
      have H8 := mv_ne e2 (by decide) H8
      have H9 := mv_ne e2 (by decide) H9
      have H10 := mv_ne e2 (by decide) H10
      have fr := fr.set e2 (by decide)
      clear e2
      refine mv_aload_n dX9_learn_47 rfl ?_
      refine mv_getf (ci := 9) (f := 3) dX9_learn_48 H42 rfl (by decide) wd_315 rfl ?_
      refine mv_iload dX9_learn_51 rfl ?_
      refine mv_aload_n dX9_learn_53 rfl ?_
      refine mv_getf (ci := 9) (f := 1) dX9_learn_54 H42 rfl (by decide) wd_313 rfl ?_
      refine mv_iload_n dX9_learn_57 rfl ?_
      refine mv_iconst (v := nI 1) dX9_learn_58 (by decide) ?_
      refine mv_iload_n dX9_learn_59 rfl ?_
      refine mv_iload dX9_learn_60 rfl ?_
      refine mv_cV4 (ci := 0) dX9_learn_62 lk_X9_learn_51 HB rfl (Nat.le_of_ble_eq_true rfl) (Nat.le_of_ble_eq_true rfl) (k_X0_howManySuch (ev := ev) HB H8 H9 H10 hb hp (by omega) hz9 (by omega)) ?_
      refine mv_topI (y := nI (q_tS b p z y)) rfl ?_
      refine mv_iastN (j := y) dX9_learn_65 T44 rfl (by decide) (by omega) (fun h3 e4 => ?_)
      rw [upd_nI] at e4
      have H42 := mv_ne e4 (by decide) H42
      have T43 := mv_ne e4 (by decide) T43
      have T44 : h3[44]? = some (.inl (0, 400, .inl (fun j => nI (t_up (q_fil (q_tS b p z) sh a y) y (q_tS b p z y) j)))) := mv_eq e4 T44
      have HF := mv_ne e4 (by decide) HF
      have HL := mv_ne e4 (by decide) HL
      have HV := mv_ne e4 (by decide) HV
      have HB := mv_ne e4 (by decide) HB
      have H8 := mv_ne e4 (by decide) H8
      have H9 := mv_ne e4 (by decide) H9
      have H10 := mv_ne e4 (by decide) H10
      have fr := fr.set e4 (by decide)
      clear e4
      rw [q_fil_s (by omega)] at T43 T44
      refine mv_iinc (v := nI (y + 1)) dX9_learn_66 rfl (mv_inc y 1) (by decide) ?_
      refine mv_goto (tgt := 7) dX9_learn_69 (by decide) ?_
      exact ih (y + 1) h3 (by omega) fr T43 T44 H42 HF HL HV HB H8 H9 H10 (by omega) (by omega)
set_option maxRecDepth 100000 in
theorem k_X9_learn {ev : mv_E} {h : mv_H} {od : Nat → Nat} {sh : Nat → Nat} {t3 : q_3} {co : Nat} {lw : Nat → Int32} {ln : Nat → Nat} {b : t_B} {t : Nat} {p : Nat} {z : Nat} {a : Nat} {e : Nat} {dd : Nat} (H42 : h[42]? = some (.inr (9, [.ref 21, .ref 7, .ref 43, .ref 44, .int (nI t3.1), .int (nI t3.2.1), .int (nI t3.2.2), .int (nI co)]))) (T43 : h[43]? = some (.inl (0, 400, .inl (fun j => nI (od j))))) (T44 : h[44]? = some (.inl (0, 400, .inl (fun j => nI (sh j))))) (HF : h[21]? = some (.inr (3, [.ref 1, .ref 7]))) (HL : h[1]? = some (.inr (5, [.ref 2]))) (HV : h[2]? = some (.inl (0, 8, .inl lw))) (HB : h[7]? = some (.inr (0, [.ref 8, .ref 9, .ref 10, .int (nI b.1), .int (nI t), .int (nI b.2.1)]))) (H8 : h[8]? = some (.inl (0, 60, .inl (fun j => nI (b.2.2.1 j))))) (H9 : h[9]? = some (.inl (0, 60, .inl (fun j => nI (b.2.2.2.1 j))))) (H10 : h[10]? = some (.inl (0, 60, .inl (fun j => nI (b.2.2.2.2 j))))) (hw : q_LW lw ln) (hb : q_BI dd b) (hp : p < 64) (hz1 : 1 ≤ z) (hz9 : z ≤ 9) (ha : 1 ≤ a) (hae : a ≤ e) (he : e ≤ 399) : ∃ h2, mv_K ev mX9_learn [.ref 42, .int (nI p), .int (nI z), .int (nI a), .int (nI e)] h (none) h2 ∧ mv_fra [43, 44] h h2 ∧ h2[43]? = some (.inl (0, 400, .inl (fun j => nI (q_fil (q_tO ln b p z) od a (e + 1) j)))) ∧ h2[44]? = some (.inl (0, 400, .inl (fun j => nI (q_fil (q_tS b p z) sh a (e + 1) j)))) := by
  suffices g0 : mv_g ev mX9_learn 0 (mv_ent [.ref 42, .int (nI p), .int (nI z), .int (nI a), .int (nI e)] (mv_ml mX9_learn)) [] h (fun r g => r = none ∧ mv_fra [43, 44] h g ∧ g[43]? = some (.inl (0, 400, .inl (fun j => nI (q_fil (q_tO ln b p z) od a (e + 1) j)))) ∧ g[44]? = some (.inl (0, 400, .inl (fun j => nI (q_fil (q_tS b p z) sh a (e + 1) j))))) from (by obtain ⟨r0, h0, K0, q0, Q0⟩ := mv_Kex g0; subst q0; exact ⟨h0, K0, Q0⟩)
  show mv_g ev mX9_learn 0 [.ref 42, .int (nI p), .int (nI z), .int (nI a), .int (nI e), .null] [] h _
  have fr : mv_fra [43, 44] h h := mv_fra.rf
  have n0 := hb.1
  refine mv_iconst (v := nI 0) dX9_learn_0 (by decide) ?_
  refine mv_iload_n dX9_learn_1 rfl ?_
  refine mv_mmax dX9_learn_2 wd_1044 (by decide) (Nat.le_of_ble_eq_true rfl) ?_
  refine mv_topI (y := nI a) (by rw [mv_nmax (by omega) (by omega)]; exact congrArg nI (by omega)) ?_
  rw [← q_fil_0 (q_tO ln b p z) od a] at T43
  rw [← q_fil_0 (q_tS b p z) sh a] at T44
  refine mv_istore dX9_learn_5 (by decide) ?_
  exact l_X9_learn hw hb hp hz1 hz9 ha hae he (e + 2) a h (by omega) fr T43 T44 H42 HF HL HV HB H8 H9 H10 (Nat.le_refl _) (by omega)
set_option maxRecDepth 100000 in
theorem k_X9_liveThrough {ev : mv_E} {h : mv_H} {od : Nat → Nat} {sh : Nat → Nat} {t3 : q_3} {co : Nat} {d : Nat} {li : Nat} (H42 : h[42]? = some (.inr (9, [.ref 21, .ref 7, .ref 43, .ref 44, .int (nI t3.1), .int (nI t3.2.1), .int (nI t3.2.2), .int (nI co)]))) (T43 : h[43]? = some (.inl (0, 400, .inl (fun j => nI (od j))))) (T44 : h[44]? = some (.inl (0, 400, .inl (fun j => nI (sh j))))) (hd : d ≤ 399) (ho : od d ≤ 1000000) (hsh : sh d ≤ 60) (hli : li ≤ 1000001) : ∃ h2, mv_K ev mX9_liveThrough [.ref 42, .int (nI d), .int (nI li)] h (none) h2 ∧ mv_fra [42] h h2 ∧ h2[42]? = some (.inr (9, [.ref 21, .ref 7, .ref 43, .ref 44, .int (nI (q_tl od sh li d t3).1), .int (nI (q_tl od sh li d t3).2.1), .int (nI (q_tl od sh li d t3).2.2), .int (nI co)])) := by
  suffices g0 : mv_g ev mX9_liveThrough 0 (mv_ent [.ref 42, .int (nI d), .int (nI li)] (mv_ml mX9_liveThrough)) [] h (fun r g => r = none ∧ mv_fra [42] h g ∧ g[42]? = some (.inr (9, [.ref 21, .ref 7, .ref 43, .ref 44, .int (nI (q_tl od sh li d t3).1), .int (nI (q_tl od sh li d t3).2.1), .int (nI (q_tl od sh li d t3).2.2), .int (nI co)]))) from (by obtain ⟨r0, h0, K0, q0, Q0⟩ := mv_Kex g0; subst q0; exact ⟨h0, K0, Q0⟩)
  show mv_g ev mX9_liveThrough 0 [.ref 42, .int (nI d), .int (nI li)] [] h _
  have fr : mv_fra [42] h h := mv_fra.rf
  refine mv_iload_n dX9_liveThrough_0 rfl ?_
  refine mv_cSN1 dX9_liveThrough_1 lk_X9_liveThrough_61 (Nat.le_of_ble_eq_true rfl) (Nat.le_of_ble_eq_true rfl) (k_X11_isDay (ev := ev)) ?_
  refine mv_if_ne (tgt := 8) dX9_liveThrough_4 (by decide) (fun c4 => ?_) (fun z => absurd z ((fun z => (mv_b_0 _).mp z (mv_in_i (by omega) (by omega) (by omega)))))
  refine mv_aload_n dX9_liveThrough_8 rfl ?_
  refine mv_getf (ci := 9) (f := 2) dX9_liveThrough_9 H42 rfl (by decide) wd_314 rfl ?_
  refine mv_iload_n dX9_liveThrough_12 rfl ?_
  refine mv_iaN (j := d) (x := nI (od d)) dX9_liveThrough_13 T43 rfl (by decide) (by omega) rfl ?_
  refine mv_iload_n dX9_liveThrough_14 rfl ?_
  refine mv_icmp_ge (tgt := 34) dX9_liveThrough_15 (by decide) (fun c15 => ?_) (fun c15 => ?_)
  · have c15 : li ≤ od d := (nI_leI (by omega) (by omega)).mp c15
    refine mv_aload_n dX9_liveThrough_34 rfl ?_
    refine mv_dup dX9_liveThrough_35 rfl ?_
    refine mv_getf (ci := 9) (f := 4) dX9_liveThrough_36 H42 rfl (by decide) wd_316 rfl ?_
    refine mv_iconst (v := nI 1) dX9_liveThrough_39 (by decide) ?_
    refine mv_iadd dX9_liveThrough_40 ?_
    refine mv_topI (y := nI (t3.1 + 1)) (nI_add _ _) ?_
    refine mv_putf (ci := 9) (f := 4) dX9_liveThrough_41 H42 rfl (by decide) wd_316 rfl rfl (fun _ => ⟨rfl, rfl⟩) (Nat.le_of_ble_eq_true rfl) ?_
    refine mv_topH (fun h1 e2 => ?_)
    have H42 : h1[42]? = some (.inr (9, [.ref 21, .ref 7, .ref 43, .ref 44, .int (nI (t3.1 + 1)), .int (nI t3.2.1), .int (nI t3.2.2), .int (nI co)])) := mv_eq e2 H42
    have T43 := mv_ne e2 (by decide) T43
    have T44 := mv_ne e2 (by decide) T44
    have fr := fr.set e2 (by decide)
    clear e2
    refine mv_aload_n dX9_liveThrough_44 rfl ?_
    refine mv_getf (ci := 9) (f := 3) dX9_liveThrough_45 H42 rfl (by decide) wd_315 rfl ?_
    refine mv_iload_n dX9_liveThrough_48 rfl ?_
    refine mv_iaN (j := d) (x := nI (sh d)) dX9_liveThrough_49 T44 rfl (by decide) (by omega) rfl ?_
    refine mv_if_ne (tgt := 63) dX9_liveThrough_50 (by decide) (fun c50 => ?_) (fun c50 => ?_)
    · have c50 : ¬ (sh d = 0) := fun z => c50 ((nI_eq (b := 0) (by omega) (by omega)).mpr z)
      have e9 : q_tl od sh li d t3 = (t3.1 + 1, t3.2.1, t3.2.2) := (by unfold q_tl; first | exact if_pos (by omega) | exact (if_neg (by omega)).trans (if_pos (by omega)) | exact (if_neg (by omega)).trans (if_neg (by omega)))
      exact mv_vret dX9_liveThrough_63 rfl ⟨rfl, fr, (by rw [e9]; exact H42)⟩
    · have c50 : sh d = 0 := (nI_eq (b := 0) (by omega) (by omega)).mp c50
      refine mv_aload_n dX9_liveThrough_53 rfl ?_
      refine mv_dup dX9_liveThrough_54 rfl ?_
      refine mv_getf (ci := 9) (f := 5) dX9_liveThrough_55 H42 rfl (by decide) wd_317 rfl ?_
      refine mv_iconst (v := nI 1) dX9_liveThrough_58 (by decide) ?_
      refine mv_iadd dX9_liveThrough_59 ?_
      refine mv_topI (y := nI (t3.2.1 + 1)) (nI_add _ _) ?_
      refine mv_putf (ci := 9) (f := 5) dX9_liveThrough_60 H42 rfl (by decide) wd_317 rfl rfl (fun _ => ⟨rfl, rfl⟩) (Nat.le_of_ble_eq_true rfl) ?_
      refine mv_topH (fun h3 e4 => ?_)
      have H42 : h3[42]? = some (.inr (9, [.ref 21, .ref 7, .ref 43, .ref 44, .int (nI (t3.1 + 1)), .int (nI (t3.2.1 + 1)), .int (nI t3.2.2), .int (nI co)])) := mv_eq e4 H42
      have T43 := mv_ne e4 (by decide) T43
      have T44 := mv_ne e4 (by decide) T44
      have fr := fr.set e4 (by decide)
      clear e4
      have e9 : q_tl od sh li d t3 = (t3.1 + 1, t3.2.1 + 1, t3.2.2) := (by unfold q_tl; first | exact if_pos (by omega) | exact (if_neg (by omega)).trans (if_pos (by omega)) | exact (if_neg (by omega)).trans (if_neg (by omega)))
      exact mv_vret dX9_liveThrough_63 rfl ⟨rfl, fr, (by rw [e9]; exact H42)⟩
  · have c15 : ¬ (li ≤ od d) := fun z => c15 ((nI_leI (by omega) (by omega)).mpr z)
    refine mv_aload_n dX9_liveThrough_18 rfl ?_
    refine mv_dup dX9_liveThrough_19 rfl ?_
    refine mv_getf (ci := 9) (f := 6) dX9_liveThrough_20 H42 rfl (by decide) wd_318 rfl ?_
    refine mv_aload_n dX9_liveThrough_23 rfl ?_
    refine mv_getf (ci := 9) (f := 3) dX9_liveThrough_24 H42 rfl (by decide) wd_315 rfl ?_
    refine mv_iload_n dX9_liveThrough_27 rfl ?_
    refine mv_iaN (j := d) (x := nI (sh d)) dX9_liveThrough_28 T44 rfl (by decide) (by omega) rfl ?_
    refine mv_iadd dX9_liveThrough_29 ?_
    refine mv_topI (y := nI (t3.2.2 + (sh d))) (nI_add _ _) ?_
    refine mv_putf (ci := 9) (f := 6) dX9_liveThrough_30 H42 rfl (by decide) wd_318 rfl rfl (fun _ => ⟨rfl, rfl⟩) (Nat.le_of_ble_eq_true rfl) ?_
    refine mv_topH (fun h5 e6 => ?_)
    have H42 : h5[42]? = some (.inr (9, [.ref 21, .ref 7, .ref 43, .ref 44, .int (nI t3.1), .int (nI t3.2.1), .int (nI (t3.2.2 + (sh d))), .int (nI co)])) := mv_eq e6 H42
    have T43 := mv_ne e6 (by decide) T43
    have T44 := mv_ne e6 (by decide) T44
    have fr := fr.set e6 (by decide)
    clear e6
    have e9 : q_tl od sh li d t3 = (t3.1, t3.2.1, t3.2.2 + (sh d)) := (by unfold q_tl; first | exact if_pos (by omega) | exact (if_neg (by omega)).trans (if_pos (by omega)) | exact (if_neg (by omega)).trans (if_neg (by omega)))
    exact mv_vret dX9_liveThrough_33 rfl ⟨rfl, fr, (by rw [e9]; exact H42)⟩
set_option maxRecDepth 100000 in
theorem l_X9_liveBy {ev : mv_E} {h : mv_H} {od : Nat → Nat} {sh : Nat → Nat} {co : Nat} {li : Nat} {lc : Nat} {sc : Nat} {a : Nat} {e : Nat}  (ho : ∀ d, a ≤ d → d ≤ e → od d ≤ 1000000) (hsh : ∀ d, a ≤ d → d ≤ e → sh d ≤ 60) (hli : li ≤ 1000001) (hae : a ≤ e) (he : e ≤ 399) : ∀ (fu : Nat) (y : Nat), ∀ (g : mv_H), e + 1 < y + fu → mv_fra [42] h g → g[42]? = some (.inr (9, [.ref 21, .ref 7, .ref 43, .ref 44, .int (nI (q_tw od sh li a (y - a)).1), .int (nI (q_tw od sh li a (y - a)).2.1), .int (nI (q_tw od sh li a (y - a)).2.2), .int (nI co)])) → g[43]? = some (.inl (0, 400, .inl (fun j => nI (od j)))) → g[44]? = some (.inl (0, 400, .inl (fun j => nI (sh j)))) → (a ≤ y) → (y ≤ e + 1) → mv_g ev mX9_liveBy 23 [.ref 42, .int (nI li), .int (nI lc), .int (nI sc), .int (nI a), .int (nI e), .int (nI y)] [] g (fun r g => r = none ∧ mv_fra [42] h g ∧ g[42]? = some (.inr (9, [.ref 21, .ref 7, .ref 43, .ref 44, .int (nI (q_tw od sh li a (e + 1 - a)).1), .int (nI (q_tw od sh li a (e + 1 - a)).2.1), .int (nI (q_tw od sh li a (e + 1 - a)).2.2), .int (nI (q_co od sh a e lc sc li))]))) := by
  intro fu
  induction fu with
  | zero => intro y g hm fr H42 T43 T44 hy hy2; exact absurd hm (by omega)
  | succ fu ih =>
    intro y g hm fr H42 T43 T44 hy hy2
    refine mv_iload dX9_liveBy_23 rfl ?_
    refine mv_iload dX9_liveBy_25 rfl ?_
    refine mv_icmp_gt (tgt := 51) dX9_liveBy_27 (by decide) (fun c27 => ?_) (fun c27 => ?_)
    · have c27 : e < y := (nI_ltI (by omega) (by omega)).mp c27
      have ey : y = e + 1 := (by omega)
      subst ey
      refine mv_aload_n dX9_liveBy_51 rfl ?_
      refine mv_aload_n dX9_liveBy_52 rfl ?_
      refine mv_getf (ci := 9) (f := 4) dX9_liveBy_53 H42 rfl (by decide) wd_316 rfl ?_
      refine mv_iload_n dX9_liveBy_56 rfl ?_
      refine mv_imul dX9_liveBy_57 ?_
      refine mv_topI (y := nI ((q_tw od sh li a ((e + 1) - a)).1 * lc)) (pk_mul _ _) ?_
      refine mv_aload_n dX9_liveBy_58 rfl ?_
      refine mv_getf (ci := 9) (f := 6) dX9_liveBy_59 H42 rfl (by decide) wd_318 rfl ?_
      refine mv_iload_n dX9_liveBy_62 rfl ?_
      refine mv_imul dX9_liveBy_63 ?_
      refine mv_topI (y := nI ((q_tw od sh li a ((e + 1) - a)).2.2 * sc)) (pk_mul _ _) ?_
      refine mv_iadd dX9_liveBy_64 ?_
      refine mv_topI (y := nI (((q_tw od sh li a ((e + 1) - a)).1 * lc) + ((q_tw od sh li a ((e + 1) - a)).2.2 * sc))) (nI_add _ _) ?_
      refine mv_putf (ci := 9) (f := 7) dX9_liveBy_65 H42 rfl (by decide) wd_319 rfl rfl (fun _ => ⟨rfl, rfl⟩) (Nat.le_of_ble_eq_true rfl) ?_
      refine mv_topH (fun h1 e2 => ?_)
      have H42 : h1[42]? = some (.inr (9, [.ref 21, .ref 7, .ref 43, .ref 44, .int (nI (q_tw od sh li a ((e + 1) - a)).1), .int (nI (q_tw od sh li a ((e + 1) - a)).2.1), .int (nI (q_tw od sh li a ((e + 1) - a)).2.2), .int (nI (((q_tw od sh li a ((e + 1) - a)).1 * lc) + ((q_tw od sh li a ((e + 1) - a)).2.2 * sc)))])) := mv_eq e2 H42
      have T43 := mv_ne e2 (by decide) T43
      have T44 := mv_ne e2 (by decide) T44
      have fr := fr.set e2 (by decide)
      clear e2
      exact mv_vret dX9_liveBy_68 rfl ⟨rfl, fr, H42⟩
    · have c27 : ¬ (e < y) := fun z => c27 ((nI_ltI (by omega) (by omega)).mpr z)
      refine mv_iload dX9_liveBy_30 rfl ?_
      refine mv_sipush (v := nI 400) dX9_liveBy_32 (by decide) ?_
      refine mv_icmp_ge (tgt := 51) dX9_liveBy_35 (by decide) (fun z => absurd z ((fun z => absurd ((nI_leI (by omega) (by omega)).mp z) (by omega)))) (fun c35 => ?_)
      refine mv_aload_n dX9_liveBy_38 rfl ?_
      refine mv_iload dX9_liveBy_39 rfl ?_
      refine mv_iload_n dX9_liveBy_41 rfl ?_
      obtain ⟨h3, K4, f5, y6⟩ := (k_X9_liveThrough (ev := ev) (od := od) (sh := sh) (t3 := (q_tw od sh li a (y - a))) (co := co) (d := y) (li := li) H42 T43 T44 (by omega) (ho y (by omega) (by omega)) (hsh y (by omega) (by omega)) hli)
      refine mv_cV2 (ci := 9) dX9_liveBy_42 lk_X9_liveBy_57 H42 rfl (Nat.le_of_ble_eq_true rfl) (Nat.le_of_ble_eq_true rfl) K4 ?_
      have H42 : h3[42]? = some (.inr (9, [.ref 21, .ref 7, .ref 43, .ref 44, .int (nI (q_tl od sh li y (q_tw od sh li a (y - a))).1), .int (nI (q_tl od sh li y (q_tw od sh li a (y - a))).2.1), .int (nI (q_tl od sh li y (q_tw od sh li a (y - a))).2.2), .int (nI co)])) := y6
      have T43 := f5.get (by decide) T43
      have T44 := f5.get (by decide) T44
      have fr := fr.trans f5 (by decide)
      rw [← q_tw_s (by omega)] at H42
      refine mv_iinc (v := nI (y + 1)) dX9_liveBy_45 rfl (mv_inc y 1) (by decide) ?_
      refine mv_goto (tgt := 23) dX9_liveBy_48 (by decide) ?_
      exact ih (y + 1) h3 (by omega) fr H42 T43 T44 (by omega) (by omega)
set_option maxRecDepth 100000 in
theorem k_X9_liveBy {ev : mv_E} {h : mv_H} {od : Nat → Nat} {sh : Nat → Nat} {t3 : q_3} {co : Nat} {li : Nat} {lc : Nat} {sc : Nat} {a : Nat} {e : Nat} (H42 : h[42]? = some (.inr (9, [.ref 21, .ref 7, .ref 43, .ref 44, .int (nI t3.1), .int (nI t3.2.1), .int (nI t3.2.2), .int (nI co)]))) (T43 : h[43]? = some (.inl (0, 400, .inl (fun j => nI (od j))))) (T44 : h[44]? = some (.inl (0, 400, .inl (fun j => nI (sh j))))) (ho : ∀ d, a ≤ d → d ≤ e → od d ≤ 1000000) (hsh : ∀ d, a ≤ d → d ≤ e → sh d ≤ 60) (hli : li ≤ 1000001) (hae : a ≤ e) (he : e ≤ 399) : ∃ h2, mv_K ev mX9_liveBy [.ref 42, .int (nI li), .int (nI lc), .int (nI sc), .int (nI a), .int (nI e)] h (none) h2 ∧ mv_fra [42] h h2 ∧ h2[42]? = some (.inr (9, [.ref 21, .ref 7, .ref 43, .ref 44, .int (nI (q_tw od sh li a (e + 1 - a)).1), .int (nI (q_tw od sh li a (e + 1 - a)).2.1), .int (nI (q_tw od sh li a (e + 1 - a)).2.2), .int (nI (q_co od sh a e lc sc li))])) := by
  suffices g0 : mv_g ev mX9_liveBy 0 (mv_ent [.ref 42, .int (nI li), .int (nI lc), .int (nI sc), .int (nI a), .int (nI e)] (mv_ml mX9_liveBy)) [] h (fun r g => r = none ∧ mv_fra [42] h g ∧ g[42]? = some (.inr (9, [.ref 21, .ref 7, .ref 43, .ref 44, .int (nI (q_tw od sh li a (e + 1 - a)).1), .int (nI (q_tw od sh li a (e + 1 - a)).2.1), .int (nI (q_tw od sh li a (e + 1 - a)).2.2), .int (nI (q_co od sh a e lc sc li))]))) from (by obtain ⟨r0, h0, K0, q0, Q0⟩ := mv_Kex g0; subst q0; exact ⟨h0, K0, Q0⟩)
  show mv_g ev mX9_liveBy 0 [.ref 42, .int (nI li), .int (nI lc), .int (nI sc), .int (nI a), .int (nI e), .null] [] h _
  have fr : mv_fra [42] h h := mv_fra.rf
  refine mv_aload_n dX9_liveBy_0 rfl ?_
  refine mv_iconst (v := nI 0) dX9_liveBy_1 (by decide) ?_
  refine mv_putf (ci := 9) (f := 4) dX9_liveBy_2 H42 rfl (by decide) wd_316 rfl rfl (fun _ => ⟨rfl, rfl⟩) (Nat.le_of_ble_eq_true rfl) ?_
  refine mv_topH (fun h1 e2 => ?_)
  have H42 : h1[42]? = some (.inr (9, [.ref 21, .ref 7, .ref 43, .ref 44, .int (nI 0), .int (nI t3.2.1), .int (nI t3.2.2), .int (nI co)])) := mv_eq e2 H42
  have T43 := mv_ne e2 (by decide) T43
  have T44 := mv_ne e2 (by decide) T44
  have fr := fr.set e2 (by decide)
  clear e2
  refine mv_aload_n dX9_liveBy_5 rfl ?_
  refine mv_iconst (v := nI 0) dX9_liveBy_6 (by decide) ?_
  refine mv_putf (ci := 9) (f := 5) dX9_liveBy_7 H42 rfl (by decide) wd_317 rfl rfl (fun _ => ⟨rfl, rfl⟩) (Nat.le_of_ble_eq_true rfl) ?_
  refine mv_topH (fun h3 e4 => ?_)
  have H42 : h3[42]? = some (.inr (9, [.ref 21, .ref 7, .ref 43, .ref 44, .int (nI 0), .int (nI 0), .int (nI t3.2.2), .int (nI co)])) := mv_eq e4 H42
  have T43 := mv_ne e4 (by decide) T43
  have T44 := mv_ne e4 (by decide) T44
  have fr := fr.set e4 (by decide)
  clear e4
  refine mv_aload_n dX9_liveBy_10 rfl ?_
  refine mv_iconst (v := nI 0) dX9_liveBy_11 (by decide) ?_
  refine mv_putf (ci := 9) (f := 6) dX9_liveBy_12 H42 rfl (by decide) wd_318 rfl rfl (fun _ => ⟨rfl, rfl⟩) (Nat.le_of_ble_eq_true rfl) ?_
  refine mv_topH (fun h5 e6 => ?_)
  have H42 : h5[42]? = some (.inr (9, [.ref 21, .ref 7, .ref 43, .ref 44, .int (nI 0), .int (nI 0), .int (nI 0), .int (nI co)])) := mv_eq e6 H42
  have T43 := mv_ne e6 (by decide) T43
  have T44 := mv_ne e6 (by decide) T44
  have fr := fr.set e6 (by decide)
  clear e6
  refine mv_iconst (v := nI 0) dX9_liveBy_15 (by decide) ?_
  refine mv_iload dX9_liveBy_16 rfl ?_
  refine mv_mmax dX9_liveBy_18 wd_1044 (by decide) (Nat.le_of_ble_eq_true rfl) ?_
  refine mv_topI (y := nI a) (by rw [mv_nmax (by omega) (by omega)]; exact congrArg nI (by omega)) ?_
  have ez : (q_tw od sh li a (a - a)) = (0, 0, 0) := (by rw [Nat.sub_self]; rfl)
  have H42 : h5[42]? = some (.inr (9, [.ref 21, .ref 7, .ref 43, .ref 44, .int (nI (q_tw od sh li a (a - a)).1), .int (nI (q_tw od sh li a (a - a)).2.1), .int (nI (q_tw od sh li a (a - a)).2.2), .int (nI co)])) := (by rw [ez]; exact H42)
  refine mv_istore dX9_liveBy_21 (by decide) ?_
  exact l_X9_liveBy ho hsh hli hae he (e + 2) a h5 (by omega) fr H42 T43 T44 (Nat.le_refl _) (by omega)
set_option maxRecDepth 100000 in
theorem k_X9_outcome0 {ev : mv_E} {h : mv_H} {t3 : q_3} {co : Nat} (H42 : h[42]? = some (.inr (9, [.ref 21, .ref 7, .ref 43, .ref 44, .int (nI t3.1), .int (nI t3.2.1), .int (nI t3.2.2), .int (nI co)])))  : mv_K ev mX9_outcome [.ref 42, .int (nI 0)] h (some (.int (nI t3.1))) h := by
  refine mv_Kof ?_
  show mv_g ev mX9_outcome 0 [.ref 42, .int (nI 0)] [] h _
  refine mv_iload_n dX9_outcome_0 rfl ?_
  refine mv_tswIn (tgt := 28) dX9_outcome_1 (by decide) (by decide) rfl (by decide) ?_
  refine mv_aload_n dX9_outcome_28 rfl ?_
  refine mv_getf (ci := 9) (f := 4) dX9_outcome_29 H42 rfl (by decide) wd_316 rfl ?_
  exact mv_iret dX9_outcome_32 rfl rfl ⟨rfl, rfl⟩
set_option maxRecDepth 100000 in
theorem k_X9_outcome1 {ev : mv_E} {h : mv_H} {t3 : q_3} {co : Nat} (H42 : h[42]? = some (.inr (9, [.ref 21, .ref 7, .ref 43, .ref 44, .int (nI t3.1), .int (nI t3.2.1), .int (nI t3.2.2), .int (nI co)])))  : mv_K ev mX9_outcome [.ref 42, .int (nI 1)] h (some (.int (nI t3.2.1))) h := by
  refine mv_Kof ?_
  show mv_g ev mX9_outcome 0 [.ref 42, .int (nI 1)] [] h _
  refine mv_iload_n dX9_outcome_0 rfl ?_
  refine mv_tswIn (tgt := 33) dX9_outcome_1 (by decide) (by decide) rfl (by decide) ?_
  refine mv_aload_n dX9_outcome_33 rfl ?_
  refine mv_getf (ci := 9) (f := 5) dX9_outcome_34 H42 rfl (by decide) wd_317 rfl ?_
  exact mv_iret dX9_outcome_37 rfl rfl ⟨rfl, rfl⟩
set_option maxRecDepth 100000 in
theorem k_X9_outcome2 {ev : mv_E} {h : mv_H} {t3 : q_3} {co : Nat} (H42 : h[42]? = some (.inr (9, [.ref 21, .ref 7, .ref 43, .ref 44, .int (nI t3.1), .int (nI t3.2.1), .int (nI t3.2.2), .int (nI co)])))  : mv_K ev mX9_outcome [.ref 42, .int (nI 2)] h (some (.int (nI t3.2.2))) h := by
  refine mv_Kof ?_
  show mv_g ev mX9_outcome 0 [.ref 42, .int (nI 2)] [] h _
  refine mv_iload_n dX9_outcome_0 rfl ?_
  refine mv_tswIn (tgt := 38) dX9_outcome_1 (by decide) (by decide) rfl (by decide) ?_
  refine mv_aload_n dX9_outcome_38 rfl ?_
  refine mv_getf (ci := 9) (f := 6) dX9_outcome_39 H42 rfl (by decide) wd_318 rfl ?_
  exact mv_iret dX9_outcome_42 rfl rfl ⟨rfl, rfl⟩
set_option maxRecDepth 100000 in
theorem k_X9_outcome3 {ev : mv_E} {h : mv_H} {t3 : q_3} {co : Nat} (H42 : h[42]? = some (.inr (9, [.ref 21, .ref 7, .ref 43, .ref 44, .int (nI t3.1), .int (nI t3.2.1), .int (nI t3.2.2), .int (nI co)])))  : mv_K ev mX9_outcome [.ref 42, .int (nI 3)] h (some (.int (nI co))) h := by
  refine mv_Kof ?_
  show mv_g ev mX9_outcome 0 [.ref 42, .int (nI 3)] [] h _
  refine mv_iload_n dX9_outcome_0 rfl ?_
  refine mv_tswOut (tgt := 43) dX9_outcome_1 (by decide) (by decide) ?_
  refine mv_aload_n dX9_outcome_43 rfl ?_
  refine mv_getf (ci := 9) (f := 7) dX9_outcome_44 H42 rfl (by decide) wd_319 rfl ?_
  exact mv_iret dX9_outcome_47 rfl rfl ⟨rfl, rfl⟩
def q_to (t : q_3) (co i : Nat) : Nat := if i = 0 then t.1 else if i = 1 then t.2.1 else if i = 2 then t.2.2 else co
theorem k_X9_outcome {ev : mv_E} {h : mv_H} {t3 : q_3} {co i : Nat} (H42 : h[42]? = some (.inr (9, [.ref 21, .ref 7, .ref 43, .ref 44, .int (nI t3.1), .int (nI t3.2.1), .int (nI t3.2.2), .int (nI co)]))) (hi : i ≤ 3) : mv_K ev mX9_outcome [.ref 42, .int (nI i)] h (some (.int (nI (q_to t3 co i)))) h := by
  have e : i = 0 ∨ i = 1 ∨ i = 2 ∨ i = 3 := by omega
  rcases e with rfl | rfl | rfl | rfl
  · exact k_X9_outcome0 H42
  · exact k_X9_outcome1 H42
  · exact k_X9_outcome2 H42
  · exact k_X9_outcome3 H42
set_option maxRecDepth 100000 in
theorem l_X9_cheap {ev : mv_E} {h : mv_H} {od : Nat → Nat} {sh : Nat → Nat} {lc : Nat} {sc : Nat} {a : Nat} {e : Nat}  (ho : ∀ d, a ≤ d → d ≤ e → od d ≤ 1000000) (hsh : ∀ d, a ≤ d → d ≤ e → sh d ≤ 60) (hae : a ≤ e) (he : e ≤ 399) (hl : lc ≤ 999) (hsc : sc ≤ 9999) : ∀ (fu : Nat) (tt : q_3) (cc : Nat) (u : Nat) (v : Nat) (y : Nat), ∀ (g : mv_H), y < 0 + fu → mv_fra [42] h g → g[42]? = some (.inr (9, [.ref 21, .ref 7, .ref 43, .ref 44, .int (nI tt.1), .int (nI tt.2.1), .int (nI tt.2.2), .int (nI cc)])) → g[43]? = some (.inl (0, 400, .inl (fun j => nI (od j)))) → g[44]? = some (.inl (0, 400, .inl (fun j => nI (sh j)))) → (y ≤ 51) → (v ≤ 400 * 999 + 24000 * 9999) → (q_bl (q_co od sh a e lc sc) y (v, u) = q_bl (q_co od sh a e lc sc) 51 ((q_co od sh a e lc sc) 1000001, 1000001)) → (y < 51 → tt = (q_tw od sh (1000 * y) a (e + 1 - a)) ∧ cc = q_co od sh a e lc sc (1000 * y)) → mv_g ev mX9_cheapestLine 25 [.ref 42, .int (nI lc), .int (nI sc), .int (nI a), .int (nI e), .int (nI u), .int (nI v), .int (nI (1000 * y) - nI 1000)] [] g (fun r g => r = some (.int (nI (q_bl (q_co od sh a e lc sc) 51 ((q_co od sh a e lc sc) 1000001, 1000001)).2)) ∧ mv_fra [42] h g ∧ g[42]? = some (.inr (9, [.ref 21, .ref 7, .ref 43, .ref 44, .int (nI (q_tw od sh 0 a (e + 1 - a)).1), .int (nI (q_tw od sh 0 a (e + 1 - a)).2.1), .int (nI (q_tw od sh 0 a (e + 1 - a)).2.2), .int (nI (q_co od sh a e lc sc 0))]))) := by
  intro fu
  induction fu with
  | zero => intro tt cc u v y g hm fr H42 T43 T44 hy hvb hq ht; exact absurd hm (by omega)
  | succ fu ih =>
    intro tt cc u v y g hm fr H42 T43 T44 hy hvb hq ht
    refine mv_iload dX9_cheapestLine_25 rfl ?_
    refine mv_if_lt (tgt := 69) dX9_cheapestLine_27 (by decide) (fun c27 => ?_) (fun c27 => ?_)
    · have c27 := (q_dn0 (by omega)).mp c27
      obtain ⟨et, ec⟩ := ht (by omega)
      refine mv_iload dX9_cheapestLine_69 rfl ?_
      have e9 : q_bl (q_co od sh a e lc sc) 51 ((q_co od sh a e lc sc) 1000001, 1000001) = (v, u) := (by rw [← hq, c27]; rfl)
      rw [c27, Nat.mul_zero] at et ec
      exact mv_iret dX9_cheapestLine_71 rfl rfl ⟨(by rw [e9]), fr, (by rw [← et, ← ec]; exact H42)⟩
    · have c27 : 1 ≤ y := (by have c0 : ¬ y = 0 := fun z => c27 ((q_dn0 (by omega)).mpr z); omega)
      have ey : 1000 * (y - 1) = 1000 * y - 1000 := (by omega)
      refine mv_aload_n dX9_cheapestLine_30 rfl ?_
      refine mv_iload dX9_cheapestLine_31 rfl ?_
      refine mv_topI (y := nI (1000 * y - 1000)) (pk_sub (by omega)) ?_
      refine mv_iload_n dX9_cheapestLine_33 rfl ?_
      refine mv_iload_n dX9_cheapestLine_34 rfl ?_
      refine mv_iload_n dX9_cheapestLine_35 rfl ?_
      refine mv_iload dX9_cheapestLine_36 rfl ?_
      obtain ⟨h1, K2, f3, y4⟩ := (k_X9_liveBy (ev := ev) (od := od) (sh := sh) (t3 := tt) (co := cc) (li := (1000 * y - 1000)) (lc := lc) (sc := sc) (a := a) (e := e) H42 T43 T44 ho hsh (by omega) hae he)
      refine mv_cV5 (ci := 9) dX9_cheapestLine_38 lk_X9_cheapestLine_66 H42 rfl (Nat.le_of_ble_eq_true rfl) (Nat.le_of_ble_eq_true rfl) K2 ?_
      have H42 : h1[42]? = some (.inr (9, [.ref 21, .ref 7, .ref 43, .ref 44, .int (nI (q_tw od sh (1000 * y - 1000) a (e + 1 - a)).1), .int (nI (q_tw od sh (1000 * y - 1000) a (e + 1 - a)).2.1), .int (nI (q_tw od sh (1000 * y - 1000) a (e + 1 - a)).2.2), .int (nI (q_co od sh a e lc sc (1000 * y - 1000)))])) := y4
      have T43 := f3.get (by decide) T43
      have T44 := f3.get (by decide) T44
      have fr := fr.trans f3 (by decide)
      have n5 := q_co_le (od := od) (1000 * y - 1000) he hl hsc hsh
      refine mv_aload_n dX9_cheapestLine_41 rfl ?_
      refine mv_getf (ci := 9) (f := 7) dX9_cheapestLine_42 H42 rfl (by decide) wd_319 rfl ?_
      refine mv_iload dX9_cheapestLine_45 rfl ?_
      refine mv_icmp_gt (tgt := 60) dX9_cheapestLine_47 (by decide) (fun c47 => ?_) (fun c47 => ?_)
      · have c47 : v < q_co od sh a e lc sc (1000 * y - 1000) := (nI_ltI (by omega) (by omega)).mp c47
        refine mv_iincW (v := nI (1000 * (y - 1)) - nI 1000) dX9_cheapestLine_60 rfl (q_dn c27) (by decide) ?_
        refine mv_goto (tgt := 25) dX9_cheapestLine_66 (by decide) ?_
        exact ih (q_tw od sh (1000 * y - 1000) a (e + 1 - a)) (q_co od sh a e lc sc (1000 * y - 1000)) u v (y - 1) h1 (by omega) fr H42 T43 T44 (by omega) (by first | exact hvb | exact q_co_le _ he hl hsc hsh) (by rw [← hq, q_bl_s (y := y) (by omega), ey]; first | rw [if_pos (show q_co od sh a e lc sc (1000 * y - 1000) ≤ (v, u).1 from (by show _ ≤ v; omega))] | rw [if_neg (show ¬ q_co od sh a e lc sc (1000 * y - 1000) ≤ (v, u).1 from (by show ¬ _ ≤ v; omega))]) (fun _ => ⟨by rw [ey], by rw [ey]⟩)
      · have c47 : ¬ (v < q_co od sh a e lc sc (1000 * y - 1000)) := fun z => c47 ((nI_ltI (by omega) (by omega)).mpr z)
        refine mv_aload_n dX9_cheapestLine_50 rfl ?_
        refine mv_getf (ci := 9) (f := 7) dX9_cheapestLine_51 H42 rfl (by decide) wd_319 rfl ?_
        refine mv_istore dX9_cheapestLine_54 (by decide) ?_
        refine mv_iload dX9_cheapestLine_56 rfl ?_
        refine mv_topI (y := nI (1000 * y - 1000)) (pk_sub (by omega)) ?_
        refine mv_istore dX9_cheapestLine_58 (by decide) ?_
        refine mv_iincW (v := nI (1000 * (y - 1)) - nI 1000) dX9_cheapestLine_60 rfl (q_dn c27) (by decide) ?_
        refine mv_goto (tgt := 25) dX9_cheapestLine_66 (by decide) ?_
        exact ih (q_tw od sh (1000 * y - 1000) a (e + 1 - a)) (q_co od sh a e lc sc (1000 * y - 1000)) (1000 * y - 1000) (q_co od sh a e lc sc (1000 * y - 1000)) (y - 1) h1 (by omega) fr H42 T43 T44 (by omega) (by first | exact hvb | exact q_co_le _ he hl hsc hsh) (by rw [← hq, q_bl_s (y := y) (by omega), ey]; first | rw [if_pos (show q_co od sh a e lc sc (1000 * y - 1000) ≤ (v, u).1 from (by show _ ≤ v; omega))] | rw [if_neg (show ¬ q_co od sh a e lc sc (1000 * y - 1000) ≤ (v, u).1 from (by show ¬ _ ≤ v; omega))]) (fun _ => ⟨by rw [ey], by rw [ey]⟩)
set_option maxRecDepth 100000 in
theorem k_X9_cheapestLine {ev : mv_E} {h : mv_H} {od : Nat → Nat} {sh : Nat → Nat} {t3 : q_3} {co : Nat} {lc : Nat} {sc : Nat} {a : Nat} {e : Nat} (H42 : h[42]? = some (.inr (9, [.ref 21, .ref 7, .ref 43, .ref 44, .int (nI t3.1), .int (nI t3.2.1), .int (nI t3.2.2), .int (nI co)]))) (T43 : h[43]? = some (.inl (0, 400, .inl (fun j => nI (od j))))) (T44 : h[44]? = some (.inl (0, 400, .inl (fun j => nI (sh j))))) (ho : ∀ d, a ≤ d → d ≤ e → od d ≤ 1000000) (hsh : ∀ d, a ≤ d → d ≤ e → sh d ≤ 60) (hae : a ≤ e) (he : e ≤ 399) (hl : lc ≤ 999) (hsc : sc ≤ 9999) : ∃ h2, mv_K ev mX9_cheapestLine [.ref 42, .int (nI lc), .int (nI sc), .int (nI a), .int (nI e)] h (some (.int (nI (q_bl (q_co od sh a e lc sc) 51 ((q_co od sh a e lc sc) 1000001, 1000001)).2))) h2 ∧ mv_fra [42] h h2 ∧ h2[42]? = some (.inr (9, [.ref 21, .ref 7, .ref 43, .ref 44, .int (nI (q_tw od sh 0 a (e + 1 - a)).1), .int (nI (q_tw od sh 0 a (e + 1 - a)).2.1), .int (nI (q_tw od sh 0 a (e + 1 - a)).2.2), .int (nI (q_co od sh a e lc sc 0))])) := by
  suffices g0 : mv_g ev mX9_cheapestLine 0 (mv_ent [.ref 42, .int (nI lc), .int (nI sc), .int (nI a), .int (nI e)] (mv_ml mX9_cheapestLine)) [] h (fun r g => r = some (.int (nI (q_bl (q_co od sh a e lc sc) 51 ((q_co od sh a e lc sc) 1000001, 1000001)).2)) ∧ mv_fra [42] h g ∧ g[42]? = some (.inr (9, [.ref 21, .ref 7, .ref 43, .ref 44, .int (nI (q_tw od sh 0 a (e + 1 - a)).1), .int (nI (q_tw od sh 0 a (e + 1 - a)).2.1), .int (nI (q_tw od sh 0 a (e + 1 - a)).2.2), .int (nI (q_co od sh a e lc sc 0))]))) from (by obtain ⟨r0, h0, K0, q0, Q0⟩ := mv_Kex g0; subst q0; exact ⟨h0, K0, Q0⟩)
  show mv_g ev mX9_cheapestLine 0 [.ref 42, .int (nI lc), .int (nI sc), .int (nI a), .int (nI e), .null, .null, .null] [] h _
  have fr : mv_fra [42] h h := mv_fra.rf
  refine mv_aload_n dX9_cheapestLine_0 rfl ?_
  refine mv_ldc (v := nI 1000001) dX9_cheapestLine_1 wd_1071 ?_
  refine mv_iload_n dX9_cheapestLine_3 rfl ?_
  refine mv_iload_n dX9_cheapestLine_4 rfl ?_
  refine mv_iload_n dX9_cheapestLine_5 rfl ?_
  refine mv_iload dX9_cheapestLine_6 rfl ?_
  obtain ⟨h1, K2, f3, y4⟩ := (k_X9_liveBy (ev := ev) (od := od) (sh := sh) (t3 := t3) (co := co) (li := 1000001) (lc := lc) (sc := sc) (a := a) (e := e) H42 T43 T44 ho hsh (by omega) hae he)
  refine mv_cV5 (ci := 9) dX9_cheapestLine_8 lk_X9_cheapestLine_66 H42 rfl (Nat.le_of_ble_eq_true rfl) (Nat.le_of_ble_eq_true rfl) K2 ?_
  have H42 : h1[42]? = some (.inr (9, [.ref 21, .ref 7, .ref 43, .ref 44, .int (nI (q_tw od sh 1000001 a (e + 1 - a)).1), .int (nI (q_tw od sh 1000001 a (e + 1 - a)).2.1), .int (nI (q_tw od sh 1000001 a (e + 1 - a)).2.2), .int (nI (q_co od sh a e lc sc 1000001))])) := y4
  have T43 := f3.get (by decide) T43
  have T44 := f3.get (by decide) T44
  have fr := fr.trans f3 (by decide)
  refine mv_ldc (v := nI 1000001) dX9_cheapestLine_11 wd_1071 ?_
  refine mv_istore dX9_cheapestLine_13 (by decide) ?_
  refine mv_aload_n dX9_cheapestLine_15 rfl ?_
  refine mv_getf (ci := 9) (f := 7) dX9_cheapestLine_16 H42 rfl (by decide) wd_319 rfl ?_
  refine mv_istore dX9_cheapestLine_19 (by decide) ?_
  refine mv_ldc (v := nI 50000) dX9_cheapestLine_21 wd_1073 ?_
  refine mv_topI (y := nI (1000 * 51) - nI 1000) (by decide) ?_
  refine mv_istore dX9_cheapestLine_23 (by decide) ?_
  exact l_X9_cheap ho hsh hae he hl hsc 52 (q_tw od sh 1000001 a (e + 1 - a)) (q_co od sh a e lc sc 1000001) 1000001 (q_co od sh a e lc sc 1000001) 51 h1 (by omega) fr H42 T43 T44 (Nat.le_refl _) (q_co_le _ he hl hsc hsh) rfl (fun z => absurd z (by decide))
