/-- days before a shake -/
def q_mk (f : Nat → Nat) (d x : Nat) : Nat → Nat := fun i => if i < d ∧ d ≤ i + x then 1 else f i
theorem q_mk_0 (f : Nat → Nat) (d : Nat) : q_mk f d 0 = f := by
  funext i
  exact if_neg (by omega)
theorem q_mk_y {f : Nat → Nat} {d x : Nat} (h : x + 1 ≤ d) : t_up (q_mk f d x) (d - (x + 1)) 1 = q_mk f d (x + 1) := by
  funext i
  unfold t_up q_mk
  by_cases c : i = d - (x + 1)
  · rw [if_pos c, if_pos (by omega)]
  · rw [if_neg c]
    by_cases c2 : i < d ∧ d ≤ i + x
    · rw [if_pos c2, if_pos (by omega)]
    · rw [if_neg c2, if_neg (by omega)]
theorem q_mk_n {f : Nat → Nat} {d x : Nat} (h : ¬ x + 1 ≤ d) : q_mk f d (x + 1) = q_mk f d x := by
  funext i
  unfold q_mk
  by_cases c2 : i < d ∧ d ≤ i + x
  · rw [if_pos c2, if_pos (by omega)]
  · rw [if_neg c2, if_neg (by omega)]
theorem q_mk_le {f : Nat → Nat} (h : ∀ i, f i ≤ 1) (d x : Nat) : ∀ i, q_mk f d x i ≤ 1 := by
  intro i
  unfold q_mk
  split
  · exact Nat.le_refl _
  · exact h i
theorem q_dy {d y : Nat} (hd : d ≤ 399) (hy : y < 1000) : (nI 0 ≤ nI d - nI y ∧ nI d - nI y ≤ nI 399) ↔ y ≤ d := by
  have h1 := pk_sub_toInt (a := d) (b := y) (by omega) (by omega)
  rw [Int32.le_iff_toInt_le, Int32.le_iff_toInt_le, h1, nI_toInt (show 0 < 2 ^ 31 by decide), nI_toInt (show 399 < 2 ^ 31 by decide)]
  omega
def q_fm (b : t_B) (p m z w : Nat) (f : Nat → Nat) : Nat → (Nat → Nat)
  | 0 => f
  | k + 1 => if q_su b p m z k then q_mk (q_fm b p m z w f k) (b.2.2.1 k) w else q_fm b p m z w f k
theorem q_fm_y {b : t_B} {p m z w : Nat} {f : Nat → Nat} {k : Nat} (h : q_su b p m z k) : q_fm b p m z w f (k + 1) = q_mk (q_fm b p m z w f k) (b.2.2.1 k) w := if_pos h
theorem q_fm_n {b : t_B} {p m z w : Nat} {f : Nat → Nat} {k : Nat} (h : ¬ q_su b p m z k) : q_fm b p m z w f (k + 1) = q_fm b p m z w f k := if_neg h
theorem q_fm_le {b : t_B} {p m z w : Nat} {f : Nat → Nat} (h : ∀ i, f i ≤ 1) (k : Nat) : ∀ i, q_fm b p m z w f k i ≤ 1 := by
  induction k with
  | zero => exact h
  | succ k ih =>
    by_cases c : q_su b p m z k
    · rw [q_fm_y c]; exact q_mk_le ih _ _
    · rw [q_fm_n c]; exact ih
theorem q_z_l1 {f : Nat → Nat} (h : ∀ i, f i ≤ 1) (n : Nat) : ∀ i, q_z f n i ≤ 1 := by
  intro i
  unfold q_z
  split
  · decide
  · exact h i
abbrev q_4 : Type := Nat × Nat × Nat × Nat
def q_pt (u v : Nat) (t : q_4) : q_4 := (t.1 + u * v, t.2.1 + u * (1 - v), t.2.2.1 + (1 - u) * v, t.2.2.2 + (1 - u) * (1 - v))
def q_tb (ok hs : Nat → Nat) (k a : Nat) : Nat → q_4
  | 0 => (0, 0, 0, 0)
  | n + 1 => q_pt (q_bt (ok (a + n)) k) (hs (a + n)) (q_tb ok hs k a n)
theorem q_tb_s {ok hs : Nat → Nat} {k a y : Nat} (h : a ≤ y) : q_tb ok hs k a (y + 1 - a) = q_pt (q_bt (ok y) k) (hs y) (q_tb ok hs k a (y - a)) := by
  have e : y + 1 - a = (y - a) + 1 := by omega
  have e2 : q_tb ok hs k a ((y - a) + 1) = q_pt (q_bt (ok (a + (y - a))) k) (hs (a + (y - a))) (q_tb ok hs k a (y - a)) := rfl
  rw [e, e2, show a + (y - a) = y by omega]
def q_th (x y : Nat) : Nat := 1000 * x / y
theorem q_b1 (x k : Nat) : mv_b (q_bt x k = 1) = nI (q_bt x k) := by
  have h := q_bt_lt x k
  by_cases c : q_bt x k = 1
  · rw [mv_b_t c, c]; rfl
  · have e : q_bt x k = 0 := by omega
    rw [mv_b_f c, e]; rfl
def q_nb (t : q_4) (i : Nat) : Nat := if i = 0 then t.1 else if i = 1 then t.2.1 else if i = 2 then t.2.2.1 else t.2.2.2
set_option maxRecDepth 100000 in
theorem l_X8_markAhead {ev : mv_E} {h : mv_H} {hs : Nat → Nat} {t4 : q_4} {d : Nat} {w : Nat}  (hd : d ≤ 399) (hw6 : w < 900) : ∀ (fu : Nat) (x : Nat), ∀ (g : mv_H), w < x + fu → mv_fra [33] h g → g[33]? = some (.inl (2, 400, .inl (fun j => nI (q_mk hs d x j)))) → g[32]? = some (.inr (8, [.ref 22, .ref 7, .ref 33, .int (nI t4.1), .int (nI t4.2.1), .int (nI t4.2.2.1), .int (nI t4.2.2.2)])) → (x ≤ w) → mv_g ev mX8_markAhead 2 [.ref 32, .int (nI d), .int (nI w), .int (nI (x + 1))] [] g (fun r g => r = none ∧ mv_fra [33] h g ∧ g[33]? = some (.inl (2, 400, .inl (fun j => nI (q_mk hs d w j))))) := by
  intro fu
  induction fu with
  | zero => intro x g hm fr T33 HT hx; exact absurd hm (by omega)
  | succ fu ih =>
    intro x g hm fr T33 HT hx
    refine mv_iload_n dX8_markAhead_2 rfl ?_
    refine mv_iload_n dX8_markAhead_3 rfl ?_
    refine mv_icmp_gt (tgt := 31) dX8_markAhead_4 (by decide) (fun c4 => ?_) (fun c4 => ?_)
    · have c4 : w < x + 1 := (nI_ltI (by omega) (by omega)).mp c4
      have ex : x = w := (by omega)
      subst ex
      exact mv_vret dX8_markAhead_31 rfl ⟨rfl, fr, T33⟩
    · have c4 : ¬ (w < x + 1) := fun z => c4 ((nI_ltI (by omega) (by omega)).mpr z)
      refine mv_iload_n dX8_markAhead_7 rfl ?_
      refine mv_iload_n dX8_markAhead_8 rfl ?_
      refine mv_isub dX8_markAhead_9 ?_
      refine mv_cSN1 dX8_markAhead_10 lk_X8_markAhead_63 (Nat.le_of_ble_eq_true rfl) (Nat.le_of_ble_eq_true rfl) (k_X11_isDay (ev := ev)) ?_
      refine mv_if_eq (tgt := 25) dX8_markAhead_13 (by decide) (fun c13 => ?_) (fun c13 => ?_)
      · have c13 : ¬ (x + 1 ≤ d) := fun z => (mv_b_0 _).mp c13 ((q_dy hd (by omega)).mpr z)
        rw [← q_mk_n c13] at T33
        refine mv_iinc (v := nI (x + 1 + 1)) dX8_markAhead_25 rfl (mv_inc (x + 1) 1) (by decide) ?_
        refine mv_goto (tgt := 2) dX8_markAhead_28 (by decide) ?_
        exact ih (x + 1) g (by omega) fr T33 HT (by omega)
      · have c13 := (q_dy hd (by omega)).mp (mv_b_ne c13)
        refine mv_aload_n dX8_markAhead_16 rfl ?_
        refine mv_getf (ci := 8) (f := 2) dX8_markAhead_17 HT rfl (by decide) wd_249 rfl ?_
        refine mv_iload_n dX8_markAhead_20 rfl ?_
        refine mv_iload_n dX8_markAhead_21 rfl ?_
        refine mv_isub dX8_markAhead_22 ?_
        refine mv_topI (y := nI (d - (x + 1))) (pk_sub (by omega)) ?_
        refine mv_iconst (v := nI 1) dX8_markAhead_23 (by decide) ?_
        refine mv_zastN (j := (d - (x + 1))) dX8_markAhead_24 T33 rfl (by decide) (by omega) rfl (fun h1 e2 => ?_)
        rw [upd_nI] at e2
        have HT := mv_ne e2 (by decide) HT
        have T33 : h1[33]? = some (.inl (2, 400, .inl (fun j => nI (t_up (q_mk hs d x) (d - (x + 1)) 1 j)))) := mv_eq e2 T33
        have fr := fr.set e2 (by decide)
        clear e2
        rw [q_mk_y c13] at T33
        refine mv_iinc (v := nI (x + 1 + 1)) dX8_markAhead_25 rfl (mv_inc (x + 1) 1) (by decide) ?_
        refine mv_goto (tgt := 2) dX8_markAhead_28 (by decide) ?_
        exact ih (x + 1) h1 (by omega) fr T33 HT (by omega)
set_option maxRecDepth 100000 in
theorem k_X8_markAhead {ev : mv_E} {h : mv_H} {hs : Nat → Nat} {t4 : q_4} {d : Nat} {w : Nat} (HT : h[32]? = some (.inr (8, [.ref 22, .ref 7, .ref 33, .int (nI t4.1), .int (nI t4.2.1), .int (nI t4.2.2.1), .int (nI t4.2.2.2)]))) (T33 : h[33]? = some (.inl (2, 400, .inl (fun j => nI (hs j))))) (hd : d ≤ 399) (hw6 : w < 900) : ∃ h2, mv_K ev mX8_markAhead [.ref 32, .int (nI d), .int (nI w)] h (none) h2 ∧ mv_fra [33] h h2 ∧ h2[33]? = some (.inl (2, 400, .inl (fun j => nI (q_mk hs d w j)))) := by
  suffices g0 : mv_g ev mX8_markAhead 0 (mv_ent [.ref 32, .int (nI d), .int (nI w)] (mv_ml mX8_markAhead)) [] h (fun r g => r = none ∧ mv_fra [33] h g ∧ g[33]? = some (.inl (2, 400, .inl (fun j => nI (q_mk hs d w j))))) from (by obtain ⟨r0, h0, K0, q0, Q0⟩ := mv_Kex g0; subst q0; exact ⟨h0, K0, Q0⟩)
  show mv_g ev mX8_markAhead 0 [.ref 32, .int (nI d), .int (nI w), .null] [] h _
  have fr : mv_fra [33] h h := mv_fra.rf
  rw [← q_mk_0 hs d] at T33
  refine mv_iconst (v := nI 1) dX8_markAhead_0 (by decide) ?_
  refine mv_topI (y := nI (0 + 1)) rfl ?_
  refine mv_istore_n dX8_markAhead_1 (by decide) ?_
  exact l_X8_markAhead hd hw6 (w + 1) 0 h (by omega) fr T33 HT (Nat.zero_le _)
set_option maxRecDepth 100000 in
theorem l_X8_findB {ev : mv_E} {h : mv_H} {hs : Nat → Nat} {t4 : q_4} {b : t_B} {t : Nat} {p : Nat} {w : Nat} {m : Nat} {z : Nat} {dd : Nat}  (hb : q_BI dd b) (hp : p < 64) (hm0 : m < 8) (hz : z ≤ 9) (hw6 : w < 900) : ∀ (fu : Nat) (k : Nat), ∀ (g : mv_H), b.1 < k + fu → mv_fra [33] h g → g[33]? = some (.inl (2, 400, .inl (fun j => nI (q_fm b p m z w (q_z hs 400) k j)))) → g[32]? = some (.inr (8, [.ref 22, .ref 7, .ref 33, .int (nI t4.1), .int (nI t4.2.1), .int (nI t4.2.2.1), .int (nI t4.2.2.2)])) → g[7]? = some (.inr (0, [.ref 8, .ref 9, .ref 10, .int (nI b.1), .int (nI t), .int (nI b.2.1)])) → g[8]? = some (.inl (0, 60, .inl (fun j => nI (b.2.2.1 j)))) → g[9]? = some (.inl (0, 60, .inl (fun j => nI (b.2.2.2.1 j)))) → g[10]? = some (.inl (0, 60, .inl (fun j => nI (b.2.2.2.2 j)))) → (k ≤ b.1) → mv_g ev mX8_findShakes 28 [.ref 32, .int (nI p), .int (nI w), .int (nI m), .int (nI z), .int (nI k)] [] g (fun r g => r = none ∧ mv_fra [33] h g ∧ g[33]? = some (.inl (2, 400, .inl (fun j => nI (q_fm b p m z w (q_z hs 400) b.1 j))))) := by
  intro fu
  induction fu with
  | zero => intro k g hm fr T33 HT HB H8 H9 H10 hk; exact absurd hm (by omega)
  | succ fu ih =>
    intro k g hm fr T33 HT HB H8 H9 H10 hk
    have n0 := hb.1
    have n1 := hb.2.2.1 k
    refine mv_iload dX8_findShakes_28 rfl ?_
    refine mv_aload_n dX8_findShakes_30 rfl ?_
    refine mv_getf (ci := 8) (f := 1) dX8_findShakes_31 HT rfl (by decide) wd_248 rfl ?_
    refine mv_cV0 (ci := 0) dX8_findShakes_34 lk_X8_findShakes_71 HB rfl (Nat.le_of_ble_eq_true rfl) (Nat.le_of_ble_eq_true rfl) (k_X0_size (ev := ev) HB) ?_
    refine mv_icmp_ge (tgt := 76) dX8_findShakes_37 (by decide) (fun c37 => ?_) (fun c37 => ?_)
    · have c37 : b.1 ≤ k := (nI_leI (by omega) (by omega)).mp c37
      have ek : k = b.1 := (by omega)
      subst ek
      exact mv_vret dX8_findShakes_76 rfl ⟨rfl, fr, T33⟩
    · have c37 : ¬ (b.1 ≤ k) := fun z => c37 ((nI_leI (by omega) (by omega)).mpr z)
      refine mv_aload_n dX8_findShakes_40 rfl ?_
      refine mv_getf (ci := 8) (f := 1) dX8_findShakes_41 HT rfl (by decide) wd_248 rfl ?_
      refine mv_iload dX8_findShakes_44 rfl ?_
      refine mv_iload_n dX8_findShakes_46 rfl ?_
      refine mv_iload_n dX8_findShakes_47 rfl ?_
      refine mv_iload dX8_findShakes_48 rfl ?_
      refine mv_cV4 (ci := 0) dX8_findShakes_50 lk_X8_findShakes_77 HB rfl (Nat.le_of_ble_eq_true rfl) (Nat.le_of_ble_eq_true rfl) (k_X0_isSuch (ev := ev) HB H9 H10 (by omega) hb hp hm0 hz) ?_
      refine mv_if_eq (tgt := 70) dX8_findShakes_53 (by decide) (fun c53 => ?_) (fun c53 => ?_)
      · have c53 : ¬ (q_su b p m z k) := (mv_b_0 _).mp c53
        rw [← q_fm_n c53] at T33
        refine mv_iinc (v := nI (k + 1)) dX8_findShakes_70 rfl (mv_inc k 1) (by decide) ?_
        refine mv_goto (tgt := 28) dX8_findShakes_73 (by decide) ?_
        exact ih (k + 1) g (by omega) fr T33 HT HB H8 H9 H10 (by omega)
      · have c53 : q_su b p m z k := Classical.byContradiction (fun z => c53 ((mv_b_0 _).mpr z))
        refine mv_aload_n dX8_findShakes_56 rfl ?_
        refine mv_aload_n dX8_findShakes_57 rfl ?_
        refine mv_getf (ci := 8) (f := 1) dX8_findShakes_58 HT rfl (by decide) wd_248 rfl ?_
        refine mv_iload dX8_findShakes_61 rfl ?_
        refine mv_cV1 (ci := 0) dX8_findShakes_63 lk_X8_findShakes_81 HB rfl (Nat.le_of_ble_eq_true rfl) (Nat.le_of_ble_eq_true rfl) (k_X0_dayOf (ev := ev) HB H8 (by omega) (by omega)) ?_
        refine mv_iload_n dX8_findShakes_66 rfl ?_
        obtain ⟨h1, K2, f3, y4⟩ := (k_X8_markAhead (ev := ev) (hs := q_fm b p m z w (q_z hs 400) k) (t4 := t4) (d := (b.2.2.1 k)) (w := w) HT T33 n1 hw6)
        refine mv_cV2 (ci := 8) dX8_findShakes_67 lk_X8_findShakes_84 HT rfl (Nat.le_of_ble_eq_true rfl) (Nat.le_of_ble_eq_true rfl) K2 ?_
        have HT := f3.get (by decide) HT
        have T33 : h1[33]? = some (.inl (2, 400, .inl (fun j => nI (q_mk (q_fm b p m z w (q_z hs 400) k) (b.2.2.1 k) w j)))) := y4
        have HB := f3.get (by decide) HB
        have H8 := f3.get (by decide) H8
        have H9 := f3.get (by decide) H9
        have H10 := f3.get (by decide) H10
        have fr := fr.trans f3 (by decide)
        rw [← q_fm_y c53] at T33
        refine mv_iinc (v := nI (k + 1)) dX8_findShakes_70 rfl (mv_inc k 1) (by decide) ?_
        refine mv_goto (tgt := 28) dX8_findShakes_73 (by decide) ?_
        exact ih (k + 1) h1 (by omega) fr T33 HT HB H8 H9 H10 (by omega)
set_option maxRecDepth 100000 in
theorem l_X8_findA {ev : mv_E} {h : mv_H} {hs : Nat → Nat} {t4 : q_4} {b : t_B} {t : Nat} {p : Nat} {w : Nat} {m : Nat} {z : Nat} {dd : Nat}  (hb : q_BI dd b) (hp : p < 64) (hm0 : m < 8) (hz : z ≤ 9) (hw6 : w < 900) : ∀ (fu : Nat) (y : Nat), ∀ (g : mv_H), 400 < y + fu → mv_fra [33] h g → g[33]? = some (.inl (2, 400, .inl (fun j => nI (q_z hs y j)))) → g[32]? = some (.inr (8, [.ref 22, .ref 7, .ref 33, .int (nI t4.1), .int (nI t4.2.1), .int (nI t4.2.2.1), .int (nI t4.2.2.2)])) → g[7]? = some (.inr (0, [.ref 8, .ref 9, .ref 10, .int (nI b.1), .int (nI t), .int (nI b.2.1)])) → g[8]? = some (.inl (0, 60, .inl (fun j => nI (b.2.2.1 j)))) → g[9]? = some (.inl (0, 60, .inl (fun j => nI (b.2.2.2.1 j)))) → g[10]? = some (.inl (0, 60, .inl (fun j => nI (b.2.2.2.2 j)))) → (y ≤ 400) → mv_g ev mX8_findShakes 3 [.ref 32, .int (nI p), .int (nI w), .int (nI m), .int (nI z), .int (nI y)] [] g (fun r g => r = none ∧ mv_fra [33] h g ∧ g[33]? = some (.inl (2, 400, .inl (fun j => nI (q_fm b p m z w (q_z hs 400) b.1 j))))) := by
  intro fu
  induction fu with
  | zero => intro y g hm fr T33 HT HB H8 H9 H10 hy; exact absurd hm (by omega)
  | succ fu ih =>
    intro y g hm fr T33 HT HB H8 H9 H10 hy
    have n0 := hb.1
    refine mv_iload dX8_findShakes_3 rfl ?_
    refine mv_sipush (v := nI 400) dX8_findShakes_5 (by decide) ?_
    refine mv_icmp_ge (tgt := 25) dX8_findShakes_8 (by decide) (fun c8 => ?_) (fun c8 => ?_)
    · have c8 : 400 ≤ y := (nI_leI (by omega) (by omega)).mp c8
      have ey : y = 400 := (by omega)
      subst ey
      refine mv_iconst (v := nI 0) dX8_findShakes_25 (by decide) ?_
      refine mv_istore dX8_findShakes_26 (by decide) ?_
      exact l_X8_findB hb hp hm0 hz hw6 (b.1 + 1) 0 g (by omega) fr T33 HT HB H8 H9 H10 (Nat.zero_le _)
    · have c8 : ¬ (400 ≤ y) := fun z => c8 ((nI_leI (by omega) (by omega)).mpr z)
      refine mv_aload_n dX8_findShakes_11 rfl ?_
      refine mv_getf (ci := 8) (f := 2) dX8_findShakes_12 HT rfl (by decide) wd_249 rfl ?_
      refine mv_iload dX8_findShakes_15 rfl ?_
      refine mv_iconst (v := nI 0) dX8_findShakes_17 (by decide) ?_
      refine mv_zastN (j := y) dX8_findShakes_18 T33 rfl (by decide) (by omega) rfl (fun h1 e2 => ?_)
      rw [upd_nI] at e2
      have HT := mv_ne e2 (by decide) HT
      have T33 : h1[33]? = some (.inl (2, 400, .inl (fun j => nI (t_up (q_z hs y) y 0 j)))) := mv_eq e2 T33
      have HB := mv_ne e2 (by decide) HB
      have H8 := mv_ne e2 (by decide) H8
      have H9 := mv_ne e2 (by decide) H9
      have H10 := mv_ne e2 (by decide) H10
      have fr := fr.set e2 (by decide)
      clear e2
      rw [q_z_s] at T33
      refine mv_iinc (v := nI (y + 1)) dX8_findShakes_19 rfl (mv_inc y 1) (by decide) ?_
      refine mv_goto (tgt := 3) dX8_findShakes_22 (by decide) ?_
      exact ih (y + 1) h1 (by omega) fr T33 HT HB H8 H9 H10 (by omega)
set_option maxRecDepth 100000 in
theorem k_X8_findShakes {ev : mv_E} {h : mv_H} {hs : Nat → Nat} {t4 : q_4} {b : t_B} {t : Nat} {p : Nat} {w : Nat} {m : Nat} {z : Nat} {dd : Nat} (HT : h[32]? = some (.inr (8, [.ref 22, .ref 7, .ref 33, .int (nI t4.1), .int (nI t4.2.1), .int (nI t4.2.2.1), .int (nI t4.2.2.2)]))) (T33 : h[33]? = some (.inl (2, 400, .inl (fun j => nI (hs j))))) (HB : h[7]? = some (.inr (0, [.ref 8, .ref 9, .ref 10, .int (nI b.1), .int (nI t), .int (nI b.2.1)]))) (H8 : h[8]? = some (.inl (0, 60, .inl (fun j => nI (b.2.2.1 j))))) (H9 : h[9]? = some (.inl (0, 60, .inl (fun j => nI (b.2.2.2.1 j))))) (H10 : h[10]? = some (.inl (0, 60, .inl (fun j => nI (b.2.2.2.2 j))))) (hb : q_BI dd b) (hp : p < 64) (hm0 : m < 8) (hz : z ≤ 9) (hw6 : w < 900) : ∃ h2, mv_K ev mX8_findShakes [.ref 32, .int (nI p), .int (nI w), .int (nI m), .int (nI z)] h (none) h2 ∧ mv_fra [33] h h2 ∧ h2[33]? = some (.inl (2, 400, .inl (fun j => nI (q_fm b p m z w (q_z hs 400) b.1 j)))) := by
  suffices g0 : mv_g ev mX8_findShakes 0 (mv_ent [.ref 32, .int (nI p), .int (nI w), .int (nI m), .int (nI z)] (mv_ml mX8_findShakes)) [] h (fun r g => r = none ∧ mv_fra [33] h g ∧ g[33]? = some (.inl (2, 400, .inl (fun j => nI (q_fm b p m z w (q_z hs 400) b.1 j))))) from (by obtain ⟨r0, h0, K0, q0, Q0⟩ := mv_Kex g0; subst q0; exact ⟨h0, K0, Q0⟩)
  show mv_g ev mX8_findShakes 0 [.ref 32, .int (nI p), .int (nI w), .int (nI m), .int (nI z), .null] [] h _
  have fr : mv_fra [33] h h := mv_fra.rf
  have n0 := hb.1
  rw [← q_z_0 hs] at T33
  refine mv_iconst (v := nI 0) dX8_findShakes_0 (by decide) ?_
  refine mv_istore dX8_findShakes_1 (by decide) ?_
  exact l_X8_findA hb hp hm0 hz hw6 (400 + 1) 0 h (by omega) fr T33 HT HB H8 H9 H10 (Nat.zero_le _)
set_option maxRecDepth 100000 in
theorem k_X8_put {ev : mv_E} {h : mv_H} {t4 : q_4} {u : Nat} {v : Nat} (HT : h[32]? = some (.inr (8, [.ref 22, .ref 7, .ref 33, .int (nI t4.1), .int (nI t4.2.1), .int (nI t4.2.2.1), .int (nI t4.2.2.2)]))) (hu : u ≤ 1) (hv : v ≤ 1) : ∃ h2, mv_K ev mX8_put [.ref 32, .int (nI u), .int (nI v)] h (none) h2 ∧ mv_fra [32] h h2 ∧ h2[32]? = some (.inr (8, [.ref 22, .ref 7, .ref 33, .int (nI (q_pt u v t4).1), .int (nI (q_pt u v t4).2.1), .int (nI (q_pt u v t4).2.2.1), .int (nI (q_pt u v t4).2.2.2)])) := by
  suffices g0 : mv_g ev mX8_put 0 (mv_ent [.ref 32, .int (nI u), .int (nI v)] (mv_ml mX8_put)) [] h (fun r g => r = none ∧ mv_fra [32] h g ∧ g[32]? = some (.inr (8, [.ref 22, .ref 7, .ref 33, .int (nI (q_pt u v t4).1), .int (nI (q_pt u v t4).2.1), .int (nI (q_pt u v t4).2.2.1), .int (nI (q_pt u v t4).2.2.2)]))) from (by obtain ⟨r0, h0, K0, q0, Q0⟩ := mv_Kex g0; subst q0; exact ⟨h0, K0, Q0⟩)
  show mv_g ev mX8_put 0 [.ref 32, .int (nI u), .int (nI v)] [] h _
  have fr : mv_fra [32] h h := mv_fra.rf
  refine mv_iload_n dX8_put_0 rfl ?_
  refine mv_if_eq (tgt := 21) dX8_put_1 (by decide) (fun c1 => ?_) (fun c1 => ?_)
  · have c1 : u = 0 := (nI_eq (b := 0) (by omega) (by omega)).mp c1
    refine mv_iload_n dX8_put_21 rfl ?_
    refine mv_if_eq (tgt := 38) dX8_put_22 (by decide) (fun c22 => ?_) (fun c22 => ?_)
    · have c22 : u = 0 := (nI_eq (b := 0) (by omega) (by omega)).mp c22
      refine mv_iload_n dX8_put_38 rfl ?_
      refine mv_if_eq (tgt := 55) dX8_put_39 (by decide) (fun c39 => ?_) (fun c39 => ?_)
      · have c39 : v = 0 := (nI_eq (b := 0) (by omega) (by omega)).mp c39
        have eu : u = 0 := (by omega)
        have ev2 : v = 0 := (by omega)
        subst eu ev2
        refine mv_aload_n dX8_put_55 rfl ?_
        refine mv_dup dX8_put_56 rfl ?_
        refine mv_getf (ci := 8) (f := 6) dX8_put_57 HT rfl (by decide) wd_253 rfl ?_
        refine mv_iconst (v := nI 1) dX8_put_60 (by decide) ?_
        refine mv_iadd dX8_put_61 ?_
        refine mv_topI (y := nI (t4.2.2.2 + 1)) (nI_add _ _) ?_
        refine mv_putf (ci := 8) (f := 6) dX8_put_62 HT rfl (by decide) wd_253 rfl rfl (fun _ => ⟨rfl, rfl⟩) (Nat.le_of_ble_eq_true rfl) ?_
        refine mv_topH (fun h1 e2 => ?_)
        have HT : h1[32]? = some (.inr (8, [.ref 22, .ref 7, .ref 33, .int (nI t4.1), .int (nI t4.2.1), .int (nI t4.2.2.1), .int (nI (t4.2.2.2 + 1))])) := mv_eq e2 HT
        have fr := fr.set e2 (by decide)
        clear e2
        exact mv_vret dX8_put_65 rfl ⟨rfl, fr, HT⟩
      · have c39 : ¬ (v = 0) := fun z => c39 ((nI_eq (b := 0) (by omega) (by omega)).mpr z)
        have eu : u = 0 := (by omega)
        have ev2 : v = 1 := (by omega)
        subst eu ev2
        refine mv_aload_n dX8_put_42 rfl ?_
        refine mv_dup dX8_put_43 rfl ?_
        refine mv_getf (ci := 8) (f := 5) dX8_put_44 HT rfl (by decide) wd_252 rfl ?_
        refine mv_iconst (v := nI 1) dX8_put_47 (by decide) ?_
        refine mv_iadd dX8_put_48 ?_
        refine mv_topI (y := nI (t4.2.2.1 + 1)) (nI_add _ _) ?_
        refine mv_putf (ci := 8) (f := 5) dX8_put_49 HT rfl (by decide) wd_252 rfl rfl (fun _ => ⟨rfl, rfl⟩) (Nat.le_of_ble_eq_true rfl) ?_
        refine mv_topH (fun h3 e4 => ?_)
        have HT : h3[32]? = some (.inr (8, [.ref 22, .ref 7, .ref 33, .int (nI t4.1), .int (nI t4.2.1), .int (nI (t4.2.2.1 + 1)), .int (nI t4.2.2.2)])) := mv_eq e4 HT
        have fr := fr.set e4 (by decide)
        clear e4
        refine mv_goto (tgt := 65) dX8_put_52 (by decide) ?_
        exact mv_vret dX8_put_65 rfl ⟨rfl, fr, HT⟩
    · have c22 : ¬ (u = 0) := fun z => c22 ((nI_eq (b := 0) (by omega) (by omega)).mpr z)
      have eu : u = 1 := (by omega)
      have ev2 : v = 0 := (by omega)
      subst eu ev2
      refine mv_aload_n dX8_put_25 rfl ?_
      refine mv_dup dX8_put_26 rfl ?_
      refine mv_getf (ci := 8) (f := 4) dX8_put_27 HT rfl (by decide) wd_251 rfl ?_
      refine mv_iconst (v := nI 1) dX8_put_30 (by decide) ?_
      refine mv_iadd dX8_put_31 ?_
      refine mv_topI (y := nI (t4.2.1 + 1)) (nI_add _ _) ?_
      refine mv_putf (ci := 8) (f := 4) dX8_put_32 HT rfl (by decide) wd_251 rfl rfl (fun _ => ⟨rfl, rfl⟩) (Nat.le_of_ble_eq_true rfl) ?_
      refine mv_topH (fun h5 e6 => ?_)
      have HT : h5[32]? = some (.inr (8, [.ref 22, .ref 7, .ref 33, .int (nI t4.1), .int (nI (t4.2.1 + 1)), .int (nI t4.2.2.1), .int (nI t4.2.2.2)])) := mv_eq e6 HT
      have fr := fr.set e6 (by decide)
      clear e6
      refine mv_goto (tgt := 65) dX8_put_35 (by decide) ?_
      exact mv_vret dX8_put_65 rfl ⟨rfl, fr, HT⟩
  · have c1 : ¬ (u = 0) := fun z => c1 ((nI_eq (b := 0) (by omega) (by omega)).mpr z)
    refine mv_iload_n dX8_put_4 rfl ?_
    refine mv_if_eq (tgt := 21) dX8_put_5 (by decide) (fun c5 => ?_) (fun c5 => ?_)
    · have c5 : v = 0 := (nI_eq (b := 0) (by omega) (by omega)).mp c5
      refine mv_iload_n dX8_put_21 rfl ?_
      refine mv_if_eq (tgt := 38) dX8_put_22 (by decide) (fun c22 => ?_) (fun c22 => ?_)
      · have c22 : u = 0 := (nI_eq (b := 0) (by omega) (by omega)).mp c22
        refine mv_iload_n dX8_put_38 rfl ?_
        refine mv_if_eq (tgt := 55) dX8_put_39 (by decide) (fun c39 => ?_) (fun c39 => ?_)
        · have c39 : v = 0 := (nI_eq (b := 0) (by omega) (by omega)).mp c39
          have eu : u = 0 := (by omega)
          have ev2 : v = 0 := (by omega)
          subst eu ev2
          refine mv_aload_n dX8_put_55 rfl ?_
          refine mv_dup dX8_put_56 rfl ?_
          refine mv_getf (ci := 8) (f := 6) dX8_put_57 HT rfl (by decide) wd_253 rfl ?_
          refine mv_iconst (v := nI 1) dX8_put_60 (by decide) ?_
          refine mv_iadd dX8_put_61 ?_
          refine mv_topI (y := nI (t4.2.2.2 + 1)) (nI_add _ _) ?_
          refine mv_putf (ci := 8) (f := 6) dX8_put_62 HT rfl (by decide) wd_253 rfl rfl (fun _ => ⟨rfl, rfl⟩) (Nat.le_of_ble_eq_true rfl) ?_
          refine mv_topH (fun h7 e8 => ?_)
          have HT : h7[32]? = some (.inr (8, [.ref 22, .ref 7, .ref 33, .int (nI t4.1), .int (nI t4.2.1), .int (nI t4.2.2.1), .int (nI (t4.2.2.2 + 1))])) := mv_eq e8 HT
          have fr := fr.set e8 (by decide)
          clear e8
          exact mv_vret dX8_put_65 rfl ⟨rfl, fr, HT⟩
        · have c39 : ¬ (v = 0) := fun z => c39 ((nI_eq (b := 0) (by omega) (by omega)).mpr z)
          have eu : u = 0 := (by omega)
          have ev2 : v = 1 := (by omega)
          subst eu ev2
          refine mv_aload_n dX8_put_42 rfl ?_
          refine mv_dup dX8_put_43 rfl ?_
          refine mv_getf (ci := 8) (f := 5) dX8_put_44 HT rfl (by decide) wd_252 rfl ?_
          refine mv_iconst (v := nI 1) dX8_put_47 (by decide) ?_
          refine mv_iadd dX8_put_48 ?_
          refine mv_topI (y := nI (t4.2.2.1 + 1)) (nI_add _ _) ?_
          refine mv_putf (ci := 8) (f := 5) dX8_put_49 HT rfl (by decide) wd_252 rfl rfl (fun _ => ⟨rfl, rfl⟩) (Nat.le_of_ble_eq_true rfl) ?_
          refine mv_topH (fun h9 e10 => ?_)
          have HT : h9[32]? = some (.inr (8, [.ref 22, .ref 7, .ref 33, .int (nI t4.1), .int (nI t4.2.1), .int (nI (t4.2.2.1 + 1)), .int (nI t4.2.2.2)])) := mv_eq e10 HT
          have fr := fr.set e10 (by decide)
          clear e10
          refine mv_goto (tgt := 65) dX8_put_52 (by decide) ?_
          exact mv_vret dX8_put_65 rfl ⟨rfl, fr, HT⟩
      · have c22 : ¬ (u = 0) := fun z => c22 ((nI_eq (b := 0) (by omega) (by omega)).mpr z)
        have eu : u = 1 := (by omega)
        have ev2 : v = 0 := (by omega)
        subst eu ev2
        refine mv_aload_n dX8_put_25 rfl ?_
        refine mv_dup dX8_put_26 rfl ?_
        refine mv_getf (ci := 8) (f := 4) dX8_put_27 HT rfl (by decide) wd_251 rfl ?_
        refine mv_iconst (v := nI 1) dX8_put_30 (by decide) ?_
        refine mv_iadd dX8_put_31 ?_
        refine mv_topI (y := nI (t4.2.1 + 1)) (nI_add _ _) ?_
        refine mv_putf (ci := 8) (f := 4) dX8_put_32 HT rfl (by decide) wd_251 rfl rfl (fun _ => ⟨rfl, rfl⟩) (Nat.le_of_ble_eq_true rfl) ?_
        refine mv_topH (fun h11 e12 => ?_)
        have HT : h11[32]? = some (.inr (8, [.ref 22, .ref 7, .ref 33, .int (nI t4.1), .int (nI (t4.2.1 + 1)), .int (nI t4.2.2.1), .int (nI t4.2.2.2)])) := mv_eq e12 HT
        have fr := fr.set e12 (by decide)
        clear e12
        refine mv_goto (tgt := 65) dX8_put_35 (by decide) ?_
        exact mv_vret dX8_put_65 rfl ⟨rfl, fr, HT⟩
    · have c5 : ¬ (v = 0) := fun z => c5 ((nI_eq (b := 0) (by omega) (by omega)).mpr z)
      have eu : u = 1 := (by omega)
      have ev2 : v = 1 := (by omega)
      subst eu ev2
      refine mv_aload_n dX8_put_8 rfl ?_
      refine mv_dup dX8_put_9 rfl ?_
      refine mv_getf (ci := 8) (f := 3) dX8_put_10 HT rfl (by decide) wd_250 rfl ?_
      refine mv_iconst (v := nI 1) dX8_put_13 (by decide) ?_
      refine mv_iadd dX8_put_14 ?_
      refine mv_topI (y := nI (t4.1 + 1)) (nI_add _ _) ?_
      refine mv_putf (ci := 8) (f := 3) dX8_put_15 HT rfl (by decide) wd_250 rfl rfl (fun _ => ⟨rfl, rfl⟩) (Nat.le_of_ble_eq_true rfl) ?_
      refine mv_topH (fun h13 e14 => ?_)
      have HT : h13[32]? = some (.inr (8, [.ref 22, .ref 7, .ref 33, .int (nI (t4.1 + 1)), .int (nI t4.2.1), .int (nI t4.2.2.1), .int (nI t4.2.2.2)])) := mv_eq e14 HT
      have fr := fr.set e14 (by decide)
      clear e14
      refine mv_goto (tgt := 65) dX8_put_18 (by decide) ?_
      exact mv_vret dX8_put_65 rfl ⟨rfl, fr, HT⟩
set_option maxRecDepth 100000 in
theorem k_X8_thousandths {ev : mv_E} {h : mv_H} {x : Nat} {y : Nat}  (hx : x < 100000) (hy : y < 100000) : mv_K ev mX8_thousandths [.int (nI x), .int (nI y)] h (some (.int (nI (q_th x y)))) h := by
  refine mv_Kof ?_
  show mv_g ev mX8_thousandths 0 [.int (nI x), .int (nI y)] [] h _
  refine mv_iload_n dX8_thousandths_0 rfl ?_
  refine mv_iconst (v := nI 1) dX8_thousandths_1 (by decide) ?_
  refine mv_icmp_ge (tgt := 9) dX8_thousandths_2 (by decide) (fun c2 => ?_) (fun c2 => ?_)
  · have c2 : 1 ≤ y := (nI_leI (by omega) (by omega)).mp c2
    refine mv_sipush (v := nI 1000) dX8_thousandths_9 (by decide) ?_
    refine mv_iload_n dX8_thousandths_12 rfl ?_
    refine mv_imul dX8_thousandths_13 ?_
    refine mv_topI (y := nI (1000 * x)) (pk_mul _ _) ?_
    refine mv_iload_n dX8_thousandths_14 rfl ?_
    refine mv_idiv dX8_thousandths_15 (by intro z; have z2 := (nI_eq (b := 0) (by omega) (by omega)).mp z; omega) ?_
    refine mv_topI (y := nI ((1000 * x) / y)) (pk_div (by omega) (by omega) (by omega)) ?_
    exact mv_iret dX8_thousandths_16 rfl rfl ⟨(congrArg (fun z => some (Value.int z)) (by first | rfl | exact congrArg nI (by unfold q_th; rw [show y = 0 by omega, Nat.div_zero]))), rfl⟩
  · have c2 : ¬ (1 ≤ y) := fun z => c2 ((nI_leI (by omega) (by omega)).mpr z)
    refine mv_iconst (v := nI 0) dX8_thousandths_5 (by decide) ?_
    refine mv_goto (tgt := 16) dX8_thousandths_6 (by decide) ?_
    exact mv_iret dX8_thousandths_16 rfl rfl ⟨(congrArg (fun z => some (Value.int z)) (by first | rfl | exact congrArg nI (by unfold q_th; rw [show y = 0 by omega, Nat.div_zero]))), rfl⟩
set_option maxRecDepth 100000 in
theorem k_X8_worth {ev : mv_E} {h : mv_H} {t4 : q_4} (HT : h[32]? = some (.inr (8, [.ref 22, .ref 7, .ref 33, .int (nI t4.1), .int (nI t4.2.1), .int (nI t4.2.2.1), .int (nI t4.2.2.2)]))) (h1 : t4.1 ≤ 400) (h2 : t4.2.1 ≤ 400) (h3 : t4.2.2.1 ≤ 400) (h4 : t4.2.2.2 ≤ 400) : mv_K ev mX8_worth [.ref 32] h (some (.int (nI (q_th t4.1 (t4.1 + t4.2.1)) - nI (q_th t4.2.2.1 (t4.2.2.1 + t4.2.2.2))))) h := by
  refine mv_Kof ?_
  show mv_g ev mX8_worth 0 [.ref 32] [] h _
  refine mv_aload_n dX8_worth_0 rfl ?_
  refine mv_getf (ci := 8) (f := 3) dX8_worth_1 HT rfl (by decide) wd_250 rfl ?_
  refine mv_aload_n dX8_worth_4 rfl ?_
  refine mv_getf (ci := 8) (f := 3) dX8_worth_5 HT rfl (by decide) wd_250 rfl ?_
  refine mv_aload_n dX8_worth_8 rfl ?_
  refine mv_getf (ci := 8) (f := 4) dX8_worth_9 HT rfl (by decide) wd_251 rfl ?_
  refine mv_iadd dX8_worth_12 ?_
  refine mv_topI (y := nI (t4.1 + t4.2.1)) (nI_add _ _) ?_
  refine mv_cS2 dX8_worth_13 lk_X8_worth_36 (Nat.le_of_ble_eq_true rfl) (Nat.le_of_ble_eq_true rfl) (k_X8_thousandths (ev := ev) (by omega) (by omega)) ?_
  refine mv_aload_n dX8_worth_16 rfl ?_
  refine mv_getf (ci := 8) (f := 5) dX8_worth_17 HT rfl (by decide) wd_252 rfl ?_
  refine mv_aload_n dX8_worth_20 rfl ?_
  refine mv_getf (ci := 8) (f := 5) dX8_worth_21 HT rfl (by decide) wd_252 rfl ?_
  refine mv_aload_n dX8_worth_24 rfl ?_
  refine mv_getf (ci := 8) (f := 6) dX8_worth_25 HT rfl (by decide) wd_253 rfl ?_
  refine mv_iadd dX8_worth_28 ?_
  refine mv_topI (y := nI (t4.2.2.1 + t4.2.2.2)) (nI_add _ _) ?_
  refine mv_cS2 dX8_worth_29 lk_X8_worth_36 (Nat.le_of_ble_eq_true rfl) (Nat.le_of_ble_eq_true rfl) (k_X8_thousandths (ev := ev) (by omega) (by omega)) ?_
  refine mv_isub dX8_worth_32 ?_
  exact mv_iret dX8_worth_33 rfl rfl ⟨rfl, rfl⟩
set_option maxRecDepth 100000 in
theorem k_X8_number0 {ev : mv_E} {h : mv_H} {t4 : q_4} (HT : h[32]? = some (.inr (8, [.ref 22, .ref 7, .ref 33, .int (nI t4.1), .int (nI t4.2.1), .int (nI t4.2.2.1), .int (nI t4.2.2.2)])))  : mv_K ev mX8_number [.ref 32, .int (nI 0)] h (some (.int (nI t4.1))) h := by
  refine mv_Kof ?_
  show mv_g ev mX8_number 0 [.ref 32, .int (nI 0)] [] h _
  refine mv_iload_n dX8_number_0 rfl ?_
  refine mv_tswIn (tgt := 28) dX8_number_1 (by decide) (by decide) rfl (by decide) ?_
  refine mv_aload_n dX8_number_28 rfl ?_
  refine mv_getf (ci := 8) (f := 3) dX8_number_29 HT rfl (by decide) wd_250 rfl ?_
  exact mv_iret dX8_number_32 rfl rfl ⟨rfl, rfl⟩
set_option maxRecDepth 100000 in
theorem k_X8_number1 {ev : mv_E} {h : mv_H} {t4 : q_4} (HT : h[32]? = some (.inr (8, [.ref 22, .ref 7, .ref 33, .int (nI t4.1), .int (nI t4.2.1), .int (nI t4.2.2.1), .int (nI t4.2.2.2)])))  : mv_K ev mX8_number [.ref 32, .int (nI 1)] h (some (.int (nI t4.2.1))) h := by
  refine mv_Kof ?_
  show mv_g ev mX8_number 0 [.ref 32, .int (nI 1)] [] h _
  refine mv_iload_n dX8_number_0 rfl ?_
  refine mv_tswIn (tgt := 33) dX8_number_1 (by decide) (by decide) rfl (by decide) ?_
  refine mv_aload_n dX8_number_33 rfl ?_
  refine mv_getf (ci := 8) (f := 4) dX8_number_34 HT rfl (by decide) wd_251 rfl ?_
  exact mv_iret dX8_number_37 rfl rfl ⟨rfl, rfl⟩
set_option maxRecDepth 100000 in
theorem k_X8_number2 {ev : mv_E} {h : mv_H} {t4 : q_4} (HT : h[32]? = some (.inr (8, [.ref 22, .ref 7, .ref 33, .int (nI t4.1), .int (nI t4.2.1), .int (nI t4.2.2.1), .int (nI t4.2.2.2)])))  : mv_K ev mX8_number [.ref 32, .int (nI 2)] h (some (.int (nI t4.2.2.1))) h := by
  refine mv_Kof ?_
  show mv_g ev mX8_number 0 [.ref 32, .int (nI 2)] [] h _
  refine mv_iload_n dX8_number_0 rfl ?_
  refine mv_tswIn (tgt := 38) dX8_number_1 (by decide) (by decide) rfl (by decide) ?_
  refine mv_aload_n dX8_number_38 rfl ?_
  refine mv_getf (ci := 8) (f := 5) dX8_number_39 HT rfl (by decide) wd_252 rfl ?_
  exact mv_iret dX8_number_42 rfl rfl ⟨rfl, rfl⟩
set_option maxRecDepth 100000 in
theorem k_X8_number3 {ev : mv_E} {h : mv_H} {t4 : q_4} (HT : h[32]? = some (.inr (8, [.ref 22, .ref 7, .ref 33, .int (nI t4.1), .int (nI t4.2.1), .int (nI t4.2.2.1), .int (nI t4.2.2.2)])))  : mv_K ev mX8_number [.ref 32, .int (nI 3)] h (some (.int (nI t4.2.2.2))) h := by
  refine mv_Kof ?_
  show mv_g ev mX8_number 0 [.ref 32, .int (nI 3)] [] h _
  refine mv_iload_n dX8_number_0 rfl ?_
  refine mv_tswOut (tgt := 43) dX8_number_1 (by decide) (by decide) ?_
  refine mv_aload_n dX8_number_43 rfl ?_
  refine mv_getf (ci := 8) (f := 6) dX8_number_44 HT rfl (by decide) wd_253 rfl ?_
  exact mv_iret dX8_number_47 rfl rfl ⟨rfl, rfl⟩
theorem k_X8_number {ev : mv_E} {h : mv_H} {t4 : q_4} {i : Nat} (HT : h[32]? = some (.inr (8, [.ref 22, .ref 7, .ref 33, .int (nI t4.1), .int (nI t4.2.1), .int (nI t4.2.2.1), .int (nI t4.2.2.2)]))) (hi : i ≤ 3) : mv_K ev mX8_number [.ref 32, .int (nI i)] h (some (.int (nI (q_nb t4 i)))) h := by
  have e : i = 0 ∨ i = 1 ∨ i = 2 ∨ i = 3 := by omega
  rcases e with rfl | rfl | rfl | rfl
  · exact k_X8_number0 HT
  · exact k_X8_number1 HT
  · exact k_X8_number2 HT
  · exact k_X8_number3 HT
set_option maxRecDepth 100000 in
theorem l_X8_fill {ev : mv_E} {h : mv_H} {s : q_S} {wa : Nat → Nat} {cf : Nat → Int32} {ct : Nat → Int32} {rr : Nat → Nat} {rc : Nat} {ok : Nat → Nat} {lw : Nat → Int32} {ln : Nat → Nat} {b : t_B} {t : Nat} {hs : Nat → Nat} {k : Nat} {w : Nat} {m : Nat} {z : Nat} {a1 : Nat} {c1 : Nat} {dd : Nat}  (hw : q_LW lw ln) (hsi : q_SI s) (hr : ∀ d, rr d ≤ 1) (hwi : q_WI wa cf ct) (hok : ∀ d, ok d < 256) (hh : ∀ i, hs i ≤ 1) (hb : q_BI dd b) (hk : k < 8) (hm0 : m < 8) (hz : z ≤ 9) (hw6 : w < 900) (e1 : cf k = nI a1) (f1 : ct k = nI c1) (hc1 : c1 ≤ 399) (hac : a1 + w ≤ c1) : ∀ (fu : Nat) (y : Nat), ∀ (g : mv_H), c1 + 1 < y + fu → mv_fra [31, 32, 33] h g → g[31]? = some (.inl (0, 400, .inl (fun j => nI ((q_oks lw ln s wa cf ct rr ok) j)))) → g[32]? = some (.inr (8, [.ref 22, .ref 7, .ref 33, .int (nI (q_tb (q_oks lw ln s wa cf ct rr ok) (q_fm b (wa k) m z w (q_z hs 400) b.1) k a1 (y - a1)).1), .int (nI (q_tb (q_oks lw ln s wa cf ct rr ok) (q_fm b (wa k) m z w (q_z hs 400) b.1) k a1 (y - a1)).2.1), .int (nI (q_tb (q_oks lw ln s wa cf ct rr ok) (q_fm b (wa k) m z w (q_z hs 400) b.1) k a1 (y - a1)).2.2.1), .int (nI (q_tb (q_oks lw ln s wa cf ct rr ok) (q_fm b (wa k) m z w (q_z hs 400) b.1) k a1 (y - a1)).2.2.2)])) → g[33]? = some (.inl (2, 400, .inl (fun j => nI ((q_fm b (wa k) m z w (q_z hs 400) b.1) j)))) → g[1]? = some (.inr (5, [.ref 2])) → g[2]? = some (.inl (0, 8, .inl lw)) → g[22]? = some (.inr (7, [.ref 1, .ref 23, .ref 24, .ref 25, .ref 26, .int (nI s.1), .ref 27, .ref 28, .ref 29, .ref 30, .int (nI rc), .ref 31])) → g[23]? = some (.inl (0, 100, .inl (fun j => nI (s.2.1 j)))) → g[24]? = some (.inl (0, 100, .inl (fun j => nI (s.2.2.1 j)))) → g[25]? = some (.inl (0, 100, .inl (fun j => nI (s.2.2.2.1 j)))) → g[26]? = some (.inl (0, 100, .inl (fun j => nI (s.2.2.2.2 j)))) → g[27]? = some (.inl (0, 8, .inl (fun j => nI (wa j)))) → g[28]? = some (.inl (0, 8, .inl cf)) → g[29]? = some (.inl (0, 8, .inl ct)) → g[30]? = some (.inl (2, 400, .inl (fun j => nI (rr j)))) → g[7]? = some (.inr (0, [.ref 8, .ref 9, .ref 10, .int (nI b.1), .int (nI t), .int (nI b.2.1)])) → g[8]? = some (.inl (0, 60, .inl (fun j => nI (b.2.2.1 j)))) → g[9]? = some (.inl (0, 60, .inl (fun j => nI (b.2.2.2.1 j)))) → g[10]? = some (.inl (0, 60, .inl (fun j => nI (b.2.2.2.2 j)))) → (a1 ≤ y) → (y ≤ c1 - w + 1) → mv_g ev mX8_fill 65 [.ref 32, .int (nI k), .int (nI w), .int (nI m), .int (nI z), .int (nI (c1 - w)), .int (nI y)] [] g (fun r g => r = none ∧ mv_fra [31, 32, 33] h g ∧ g[31]? = some (.inl (0, 400, .inl (fun j => nI ((q_oks lw ln s wa cf ct rr ok) j)))) ∧ g[32]? = some (.inr (8, [.ref 22, .ref 7, .ref 33, .int (nI (q_tb (q_oks lw ln s wa cf ct rr ok) (q_fm b (wa k) m z w (q_z hs 400) b.1) k a1 (c1 - w + 1 - a1)).1), .int (nI (q_tb (q_oks lw ln s wa cf ct rr ok) (q_fm b (wa k) m z w (q_z hs 400) b.1) k a1 (c1 - w + 1 - a1)).2.1), .int (nI (q_tb (q_oks lw ln s wa cf ct rr ok) (q_fm b (wa k) m z w (q_z hs 400) b.1) k a1 (c1 - w + 1 - a1)).2.2.1), .int (nI (q_tb (q_oks lw ln s wa cf ct rr ok) (q_fm b (wa k) m z w (q_z hs 400) b.1) k a1 (c1 - w + 1 - a1)).2.2.2)])) ∧ g[33]? = some (.inl (2, 400, .inl (fun j => nI ((q_fm b (wa k) m z w (q_z hs 400) b.1) j))))) := by
  intro fu
  induction fu with
  | zero => intro y g hm fr S31 HT T33 HL HV HS S23 S24 S25 S26 S27 S28 S29 S30 HB H8 H9 H10 hy hy2; exact absurd hm (by omega)
  | succ fu ih =>
    intro y g hm fr S31 HT T33 HL HV HS S23 S24 S25 S26 S27 S28 S29 S30 HB H8 H9 H10 hy hy2
    have m1 : cf k ≠ -1 := (by rw [e1]; exact nI_m1 (by omega))
    have n5 := hwi.1 k
    have hok2 := q_oks_lt (lw := lw) (ln := ln) (wa := wa) (cf := cf) (ct := ct) (rr := rr) hsi hok
    refine mv_iload dX8_fill_65 rfl ?_
    refine mv_iload dX8_fill_67 rfl ?_
    refine mv_icmp_gt (tgt := 115) dX8_fill_69 (by decide) (fun c69 => ?_) (fun c69 => ?_)
    · have c69 : c1 - w < y := (nI_ltI (by omega) (by omega)).mp c69
      have ey : y = c1 - w + 1 := (by omega)
      subst ey
      exact mv_vret dX8_fill_115 rfl ⟨rfl, fr, S31, HT, T33⟩
    · have c69 : ¬ (c1 - w < y) := fun z => c69 ((nI_ltI (by omega) (by omega)).mpr z)
      refine mv_aload_n dX8_fill_72 rfl ?_
      refine mv_aload_n dX8_fill_73 rfl ?_
      refine mv_getf (ci := 8) (f := 0) dX8_fill_74 HT rfl (by decide) wd_247 rfl ?_
      refine mv_iload_n dX8_fill_77 rfl ?_
      refine mv_iload dX8_fill_78 rfl ?_
      refine mv_cV2 (ci := 7) dX8_fill_80 lk_X8_fill_59 HS rfl (Nat.le_of_ble_eq_true rfl) (Nat.le_of_ble_eq_true rfl) (k_X7_isOdd (ev := ev) HS S31 hk (by omega) hok2) ?_
      refine mv_topI (y := nI (q_bt ((q_oks lw ln s wa cf ct rr ok) y) k)) (q_b1 _ _) ?_
      refine mv_iload dX8_fill_83 rfl ?_
      refine mv_cSN1 dX8_fill_85 lk_X8_fill_63 (Nat.le_of_ble_eq_true rfl) (Nat.le_of_ble_eq_true rfl) (k_X11_isDay (ev := ev)) ?_
      refine mv_if_eq (tgt := 105) dX8_fill_88 (by decide) (fun z => absurd z ((fun z => (mv_b_0 _).mp z (mv_in_i (by omega) (by omega) (by omega))))) (fun c88 => ?_)
      have n7 := q_fm_le (b := b) (p := wa k) (m := m) (z := z) (w := w) (q_z_l1 hh 400) b.1 y
      refine mv_aload_n dX8_fill_91 rfl ?_
      refine mv_getf (ci := 8) (f := 2) dX8_fill_92 HT rfl (by decide) wd_249 rfl ?_
      refine mv_iload dX8_fill_95 rfl ?_
      refine mv_zaN (j := y) (x := nI ((q_fm b (wa k) m z w (q_z hs 400) b.1) y)) dX8_fill_97 T33 rfl (by decide) (by omega) rfl ?_
      refine mv_if_eq (tgt := 105) dX8_fill_98 (by decide) (fun c98 => ?_) (fun c98 => ?_)
      · have c98 : (q_fm b (wa k) m z w (q_z hs 400) b.1) y = 0 := (nI_eq (b := 0) (by omega) (by omega)).mp c98
        refine mv_iconst (v := nI 0) dX8_fill_105 (by decide) ?_
        obtain ⟨h1, K2, f3, y4⟩ := (k_X8_put (ev := ev) (t4 := (q_tb (q_oks lw ln s wa cf ct rr ok) (q_fm b (wa k) m z w (q_z hs 400) b.1) k a1 (y - a1))) (u := (q_bt ((q_oks lw ln s wa cf ct rr ok) y) k)) (v := 0) HT (by have := q_bt_lt ((q_oks lw ln s wa cf ct rr ok) y) k; omega) (by first | decide | omega))
        refine mv_cV2 (ci := 8) dX8_fill_106 lk_X8_fill_67 HT rfl (Nat.le_of_ble_eq_true rfl) (Nat.le_of_ble_eq_true rfl) K2 ?_
        have HL := f3.get (by decide) HL
        have HV := f3.get (by decide) HV
        have HS := f3.get (by decide) HS
        have S23 := f3.get (by decide) S23
        have S24 := f3.get (by decide) S24
        have S25 := f3.get (by decide) S25
        have S26 := f3.get (by decide) S26
        have S27 := f3.get (by decide) S27
        have S28 := f3.get (by decide) S28
        have S29 := f3.get (by decide) S29
        have S30 := f3.get (by decide) S30
        have S31 := f3.get (by decide) S31
        have HB := f3.get (by decide) HB
        have H8 := f3.get (by decide) H8
        have H9 := f3.get (by decide) H9
        have H10 := f3.get (by decide) H10
        have HT : h1[32]? = some (.inr (8, [.ref 22, .ref 7, .ref 33, .int (nI (q_pt (q_bt ((q_oks lw ln s wa cf ct rr ok) y) k) 0 (q_tb (q_oks lw ln s wa cf ct rr ok) (q_fm b (wa k) m z w (q_z hs 400) b.1) k a1 (y - a1))).1), .int (nI (q_pt (q_bt ((q_oks lw ln s wa cf ct rr ok) y) k) 0 (q_tb (q_oks lw ln s wa cf ct rr ok) (q_fm b (wa k) m z w (q_z hs 400) b.1) k a1 (y - a1))).2.1), .int (nI (q_pt (q_bt ((q_oks lw ln s wa cf ct rr ok) y) k) 0 (q_tb (q_oks lw ln s wa cf ct rr ok) (q_fm b (wa k) m z w (q_z hs 400) b.1) k a1 (y - a1))).2.2.1), .int (nI (q_pt (q_bt ((q_oks lw ln s wa cf ct rr ok) y) k) 0 (q_tb (q_oks lw ln s wa cf ct rr ok) (q_fm b (wa k) m z w (q_z hs 400) b.1) k a1 (y - a1))).2.2.2)])) := y4
        have T33 := f3.get (by decide) T33
        have fr := fr.trans f3 (by decide)
        have es := q_tb_s (ok := (q_oks lw ln s wa cf ct rr ok)) (hs := (q_fm b (wa k) m z w (q_z hs 400) b.1)) (k := k) (show a1 ≤ y by omega)
        have HT : h1[32]? = some (.inr (8, [.ref 22, .ref 7, .ref 33, .int (nI (q_tb (q_oks lw ln s wa cf ct rr ok) (q_fm b (wa k) m z w (q_z hs 400) b.1) k a1 (y + 1 - a1)).1), .int (nI (q_tb (q_oks lw ln s wa cf ct rr ok) (q_fm b (wa k) m z w (q_z hs 400) b.1) k a1 (y + 1 - a1)).2.1), .int (nI (q_tb (q_oks lw ln s wa cf ct rr ok) (q_fm b (wa k) m z w (q_z hs 400) b.1) k a1 (y + 1 - a1)).2.2.1), .int (nI (q_tb (q_oks lw ln s wa cf ct rr ok) (q_fm b (wa k) m z w (q_z hs 400) b.1) k a1 (y + 1 - a1)).2.2.2)])) := (by rw [es]; first | exact HT | (rw [show (q_fm b (wa k) m z w (q_z hs 400) b.1) y = 1 by omega]; exact HT) | (rw [show (q_fm b (wa k) m z w (q_z hs 400) b.1) y = 0 by omega]; exact HT))
        refine mv_iinc (v := nI (y + 1)) dX8_fill_109 rfl (mv_inc y 1) (by decide) ?_
        refine mv_goto (tgt := 65) dX8_fill_112 (by decide) ?_
        exact ih (y + 1) h1 (by omega) fr S31 HT T33 HL HV HS S23 S24 S25 S26 S27 S28 S29 S30 HB H8 H9 H10 (by omega) (by omega)
      · have c98 : ¬ ((q_fm b (wa k) m z w (q_z hs 400) b.1) y = 0) := fun z => c98 ((nI_eq (b := 0) (by omega) (by omega)).mpr z)
        refine mv_iconst (v := nI 1) dX8_fill_101 (by decide) ?_
        refine mv_goto (tgt := 106) dX8_fill_102 (by decide) ?_
        obtain ⟨h5, K6, f7, y8⟩ := (k_X8_put (ev := ev) (t4 := (q_tb (q_oks lw ln s wa cf ct rr ok) (q_fm b (wa k) m z w (q_z hs 400) b.1) k a1 (y - a1))) (u := (q_bt ((q_oks lw ln s wa cf ct rr ok) y) k)) (v := 1) HT (by have := q_bt_lt ((q_oks lw ln s wa cf ct rr ok) y) k; omega) (by first | decide | omega))
        refine mv_cV2 (ci := 8) dX8_fill_106 lk_X8_fill_67 HT rfl (Nat.le_of_ble_eq_true rfl) (Nat.le_of_ble_eq_true rfl) K6 ?_
        have HL := f7.get (by decide) HL
        have HV := f7.get (by decide) HV
        have HS := f7.get (by decide) HS
        have S23 := f7.get (by decide) S23
        have S24 := f7.get (by decide) S24
        have S25 := f7.get (by decide) S25
        have S26 := f7.get (by decide) S26
        have S27 := f7.get (by decide) S27
        have S28 := f7.get (by decide) S28
        have S29 := f7.get (by decide) S29
        have S30 := f7.get (by decide) S30
        have S31 := f7.get (by decide) S31
        have HB := f7.get (by decide) HB
        have H8 := f7.get (by decide) H8
        have H9 := f7.get (by decide) H9
        have H10 := f7.get (by decide) H10
        have HT : h5[32]? = some (.inr (8, [.ref 22, .ref 7, .ref 33, .int (nI (q_pt (q_bt ((q_oks lw ln s wa cf ct rr ok) y) k) 1 (q_tb (q_oks lw ln s wa cf ct rr ok) (q_fm b (wa k) m z w (q_z hs 400) b.1) k a1 (y - a1))).1), .int (nI (q_pt (q_bt ((q_oks lw ln s wa cf ct rr ok) y) k) 1 (q_tb (q_oks lw ln s wa cf ct rr ok) (q_fm b (wa k) m z w (q_z hs 400) b.1) k a1 (y - a1))).2.1), .int (nI (q_pt (q_bt ((q_oks lw ln s wa cf ct rr ok) y) k) 1 (q_tb (q_oks lw ln s wa cf ct rr ok) (q_fm b (wa k) m z w (q_z hs 400) b.1) k a1 (y - a1))).2.2.1), .int (nI (q_pt (q_bt ((q_oks lw ln s wa cf ct rr ok) y) k) 1 (q_tb (q_oks lw ln s wa cf ct rr ok) (q_fm b (wa k) m z w (q_z hs 400) b.1) k a1 (y - a1))).2.2.2)])) := y8
        have T33 := f7.get (by decide) T33
        have fr := fr.trans f7 (by decide)
        have es := q_tb_s (ok := (q_oks lw ln s wa cf ct rr ok)) (hs := (q_fm b (wa k) m z w (q_z hs 400) b.1)) (k := k) (show a1 ≤ y by omega)
        have HT : h5[32]? = some (.inr (8, [.ref 22, .ref 7, .ref 33, .int (nI (q_tb (q_oks lw ln s wa cf ct rr ok) (q_fm b (wa k) m z w (q_z hs 400) b.1) k a1 (y + 1 - a1)).1), .int (nI (q_tb (q_oks lw ln s wa cf ct rr ok) (q_fm b (wa k) m z w (q_z hs 400) b.1) k a1 (y + 1 - a1)).2.1), .int (nI (q_tb (q_oks lw ln s wa cf ct rr ok) (q_fm b (wa k) m z w (q_z hs 400) b.1) k a1 (y + 1 - a1)).2.2.1), .int (nI (q_tb (q_oks lw ln s wa cf ct rr ok) (q_fm b (wa k) m z w (q_z hs 400) b.1) k a1 (y + 1 - a1)).2.2.2)])) := (by rw [es]; first | exact HT | (rw [show (q_fm b (wa k) m z w (q_z hs 400) b.1) y = 1 by omega]; exact HT) | (rw [show (q_fm b (wa k) m z w (q_z hs 400) b.1) y = 0 by omega]; exact HT))
        refine mv_iinc (v := nI (y + 1)) dX8_fill_109 rfl (mv_inc y 1) (by decide) ?_
        refine mv_goto (tgt := 65) dX8_fill_112 (by decide) ?_
        exact ih (y + 1) h5 (by omega) fr S31 HT T33 HL HV HS S23 S24 S25 S26 S27 S28 S29 S30 HB H8 H9 H10 (by omega) (by omega)
set_option maxRecDepth 100000 in
theorem k_X8_fill {ev : mv_E} {h : mv_H} {s : q_S} {wa : Nat → Nat} {cf : Nat → Int32} {ct : Nat → Int32} {rr : Nat → Nat} {rc : Nat} {ok : Nat → Nat} {lw : Nat → Int32} {ln : Nat → Nat} {b : t_B} {t : Nat} {hs : Nat → Nat} {t4 : q_4} {k : Nat} {w : Nat} {m : Nat} {z : Nat} {a1 : Nat} {c1 : Nat} {dd : Nat} (HL : h[1]? = some (.inr (5, [.ref 2]))) (HV : h[2]? = some (.inl (0, 8, .inl lw))) (HS : h[22]? = some (.inr (7, [.ref 1, .ref 23, .ref 24, .ref 25, .ref 26, .int (nI s.1), .ref 27, .ref 28, .ref 29, .ref 30, .int (nI rc), .ref 31]))) (S23 : h[23]? = some (.inl (0, 100, .inl (fun j => nI (s.2.1 j))))) (S24 : h[24]? = some (.inl (0, 100, .inl (fun j => nI (s.2.2.1 j))))) (S25 : h[25]? = some (.inl (0, 100, .inl (fun j => nI (s.2.2.2.1 j))))) (S26 : h[26]? = some (.inl (0, 100, .inl (fun j => nI (s.2.2.2.2 j))))) (S27 : h[27]? = some (.inl (0, 8, .inl (fun j => nI (wa j))))) (S28 : h[28]? = some (.inl (0, 8, .inl cf))) (S29 : h[29]? = some (.inl (0, 8, .inl ct))) (S30 : h[30]? = some (.inl (2, 400, .inl (fun j => nI (rr j))))) (S31 : h[31]? = some (.inl (0, 400, .inl (fun j => nI (ok j))))) (HB : h[7]? = some (.inr (0, [.ref 8, .ref 9, .ref 10, .int (nI b.1), .int (nI t), .int (nI b.2.1)]))) (H8 : h[8]? = some (.inl (0, 60, .inl (fun j => nI (b.2.2.1 j))))) (H9 : h[9]? = some (.inl (0, 60, .inl (fun j => nI (b.2.2.2.1 j))))) (H10 : h[10]? = some (.inl (0, 60, .inl (fun j => nI (b.2.2.2.2 j))))) (HT : h[32]? = some (.inr (8, [.ref 22, .ref 7, .ref 33, .int (nI t4.1), .int (nI t4.2.1), .int (nI t4.2.2.1), .int (nI t4.2.2.2)]))) (T33 : h[33]? = some (.inl (2, 400, .inl (fun j => nI (hs j))))) (hw : q_LW lw ln) (hsi : q_SI s) (hr : ∀ d, rr d ≤ 1) (hwi : q_WI wa cf ct) (hok : ∀ d, ok d < 256) (hh : ∀ i, hs i ≤ 1) (hb : q_BI dd b) (hk : k < 8) (hm0 : m < 8) (hz : z ≤ 9) (hw6 : w < 900) (e1 : cf k = nI a1) (f1 : ct k = nI c1) (hc1 : c1 ≤ 399) (hac : a1 + w ≤ c1) : ∃ h2, mv_K ev mX8_fill [.ref 32, .int (nI k), .int (nI w), .int (nI m), .int (nI z)] h (none) h2 ∧ mv_fra [31, 32, 33] h h2 ∧ h2[31]? = some (.inl (0, 400, .inl (fun j => nI ((q_oks lw ln s wa cf ct rr ok) j)))) ∧ h2[32]? = some (.inr (8, [.ref 22, .ref 7, .ref 33, .int (nI (q_tb (q_oks lw ln s wa cf ct rr ok) (q_fm b (wa k) m z w (q_z hs 400) b.1) k a1 (c1 - w + 1 - a1)).1), .int (nI (q_tb (q_oks lw ln s wa cf ct rr ok) (q_fm b (wa k) m z w (q_z hs 400) b.1) k a1 (c1 - w + 1 - a1)).2.1), .int (nI (q_tb (q_oks lw ln s wa cf ct rr ok) (q_fm b (wa k) m z w (q_z hs 400) b.1) k a1 (c1 - w + 1 - a1)).2.2.1), .int (nI (q_tb (q_oks lw ln s wa cf ct rr ok) (q_fm b (wa k) m z w (q_z hs 400) b.1) k a1 (c1 - w + 1 - a1)).2.2.2)])) ∧ h2[33]? = some (.inl (2, 400, .inl (fun j => nI ((q_fm b (wa k) m z w (q_z hs 400) b.1) j)))) := by
  suffices g0 : mv_g ev mX8_fill 0 (mv_ent [.ref 32, .int (nI k), .int (nI w), .int (nI m), .int (nI z)] (mv_ml mX8_fill)) [] h (fun r g => r = none ∧ mv_fra [31, 32, 33] h g ∧ g[31]? = some (.inl (0, 400, .inl (fun j => nI ((q_oks lw ln s wa cf ct rr ok) j)))) ∧ g[32]? = some (.inr (8, [.ref 22, .ref 7, .ref 33, .int (nI (q_tb (q_oks lw ln s wa cf ct rr ok) (q_fm b (wa k) m z w (q_z hs 400) b.1) k a1 (c1 - w + 1 - a1)).1), .int (nI (q_tb (q_oks lw ln s wa cf ct rr ok) (q_fm b (wa k) m z w (q_z hs 400) b.1) k a1 (c1 - w + 1 - a1)).2.1), .int (nI (q_tb (q_oks lw ln s wa cf ct rr ok) (q_fm b (wa k) m z w (q_z hs 400) b.1) k a1 (c1 - w + 1 - a1)).2.2.1), .int (nI (q_tb (q_oks lw ln s wa cf ct rr ok) (q_fm b (wa k) m z w (q_z hs 400) b.1) k a1 (c1 - w + 1 - a1)).2.2.2)])) ∧ g[33]? = some (.inl (2, 400, .inl (fun j => nI ((q_fm b (wa k) m z w (q_z hs 400) b.1) j))))) from (by obtain ⟨r0, h0, K0, q0, Q0⟩ := mv_Kex g0; subst q0; exact ⟨h0, K0, Q0⟩)
  show mv_g ev mX8_fill 0 [.ref 32, .int (nI k), .int (nI w), .int (nI m), .int (nI z), .null, .null] [] h _
  have fr : mv_fra [31, 32, 33] h h := mv_fra.rf
  have m1 : cf k ≠ -1 := (by rw [e1]; exact nI_m1 (by omega))
  have n5 := hwi.1 k
  have hok2 := q_oks_lt (lw := lw) (ln := ln) (wa := wa) (cf := cf) (ct := ct) (rr := rr) hsi hok
  refine mv_aload_n dX8_fill_0 rfl ?_
  refine mv_getf (ci := 8) (f := 0) dX8_fill_1 HT rfl (by decide) wd_247 rfl ?_
  obtain ⟨h1, K2, f3, y4⟩ := (k_X7_findOddDays (ev := ev) (s := s) (wa := wa) (cf := cf) (ct := ct) (rr := rr) (rc := rc) (ok := ok) (lw := lw) (ln := ln) HL HV HS S23 S24 S25 S26 S27 S28 S29 S30 S31 hw hsi hr hwi)
  refine mv_cV0 (ci := 7) dX8_fill_4 lk_X8_fill_40 HS rfl (Nat.le_of_ble_eq_true rfl) (Nat.le_of_ble_eq_true rfl) K2 ?_
  have HL := f3.get (by decide) HL
  have HV := f3.get (by decide) HV
  have HS := f3.get (by decide) HS
  have S23 := f3.get (by decide) S23
  have S24 := f3.get (by decide) S24
  have S25 := f3.get (by decide) S25
  have S26 := f3.get (by decide) S26
  have S27 := f3.get (by decide) S27
  have S28 := f3.get (by decide) S28
  have S29 := f3.get (by decide) S29
  have S30 := f3.get (by decide) S30
  have S31 : h1[31]? = some (.inl (0, 400, .inl (fun j => nI ((q_oks lw ln s wa cf ct rr ok) j)))) := y4
  have HB := f3.get (by decide) HB
  have H8 := f3.get (by decide) H8
  have H9 := f3.get (by decide) H9
  have H10 := f3.get (by decide) H10
  have HT := f3.get (by decide) HT
  have T33 := f3.get (by decide) T33
  have fr := fr.trans f3 (by decide)
  refine mv_aload_n dX8_fill_7 rfl ?_
  refine mv_aload_n dX8_fill_8 rfl ?_
  refine mv_getf (ci := 8) (f := 0) dX8_fill_9 HT rfl (by decide) wd_247 rfl ?_
  refine mv_iload_n dX8_fill_12 rfl ?_
  refine mv_cV1 (ci := 7) dX8_fill_13 lk_X8_fill_45 HS rfl (Nat.le_of_ble_eq_true rfl) (Nat.le_of_ble_eq_true rfl) (k_X7_watchPlace (ev := ev) HS S27 (by omega)) ?_
  refine mv_iload_n dX8_fill_16 rfl ?_
  refine mv_iload_n dX8_fill_17 rfl ?_
  refine mv_iload dX8_fill_18 rfl ?_
  obtain ⟨h5, K6, f7, y8⟩ := (k_X8_findShakes (ev := ev) (hs := hs) (t4 := t4) (b := b) (t := t) (p := (wa k)) (w := w) (m := m) (z := z) (dd := dd) HT T33 HB H8 H9 H10 hb n5 hm0 hz hw6)
  refine mv_cV4 (ci := 8) dX8_fill_20 lk_X8_fill_49 HT rfl (Nat.le_of_ble_eq_true rfl) (Nat.le_of_ble_eq_true rfl) K6 ?_
  have HL := f7.get (by decide) HL
  have HV := f7.get (by decide) HV
  have HS := f7.get (by decide) HS
  have S23 := f7.get (by decide) S23
  have S24 := f7.get (by decide) S24
  have S25 := f7.get (by decide) S25
  have S26 := f7.get (by decide) S26
  have S27 := f7.get (by decide) S27
  have S28 := f7.get (by decide) S28
  have S29 := f7.get (by decide) S29
  have S30 := f7.get (by decide) S30
  have S31 := f7.get (by decide) S31
  have HB := f7.get (by decide) HB
  have H8 := f7.get (by decide) H8
  have H9 := f7.get (by decide) H9
  have H10 := f7.get (by decide) H10
  have HT := f7.get (by decide) HT
  have T33 : h5[33]? = some (.inl (2, 400, .inl (fun j => nI (q_fm b (wa k) m z w (q_z hs 400) b.1 j)))) := y8
  have fr := fr.trans f7 (by decide)
  refine mv_aload_n dX8_fill_23 rfl ?_
  refine mv_iconst (v := nI 0) dX8_fill_24 (by decide) ?_
  refine mv_putf (ci := 8) (f := 3) dX8_fill_25 HT rfl (by decide) wd_250 rfl rfl (fun _ => ⟨rfl, rfl⟩) (Nat.le_of_ble_eq_true rfl) ?_
  refine mv_topH (fun h9 e10 => ?_)
  have HL := mv_ne e10 (by decide) HL
  have HV := mv_ne e10 (by decide) HV
  have HS := mv_ne e10 (by decide) HS
  have S23 := mv_ne e10 (by decide) S23
  have S24 := mv_ne e10 (by decide) S24
  have S25 := mv_ne e10 (by decide) S25
  have S26 := mv_ne e10 (by decide) S26
  have S27 := mv_ne e10 (by decide) S27
  have S28 := mv_ne e10 (by decide) S28
  have S29 := mv_ne e10 (by decide) S29
  have S30 := mv_ne e10 (by decide) S30
  have S31 := mv_ne e10 (by decide) S31
  have HB := mv_ne e10 (by decide) HB
  have H8 := mv_ne e10 (by decide) H8
  have H9 := mv_ne e10 (by decide) H9
  have H10 := mv_ne e10 (by decide) H10
  have HT : h9[32]? = some (.inr (8, [.ref 22, .ref 7, .ref 33, .int (nI 0), .int (nI t4.2.1), .int (nI t4.2.2.1), .int (nI t4.2.2.2)])) := mv_eq e10 HT
  have T33 := mv_ne e10 (by decide) T33
  have fr := fr.set e10 (by decide)
  clear e10
  refine mv_aload_n dX8_fill_28 rfl ?_
  refine mv_iconst (v := nI 0) dX8_fill_29 (by decide) ?_
  refine mv_putf (ci := 8) (f := 4) dX8_fill_30 HT rfl (by decide) wd_251 rfl rfl (fun _ => ⟨rfl, rfl⟩) (Nat.le_of_ble_eq_true rfl) ?_
  refine mv_topH (fun h11 e12 => ?_)
  have HL := mv_ne e12 (by decide) HL
  have HV := mv_ne e12 (by decide) HV
  have HS := mv_ne e12 (by decide) HS
  have S23 := mv_ne e12 (by decide) S23
  have S24 := mv_ne e12 (by decide) S24
  have S25 := mv_ne e12 (by decide) S25
  have S26 := mv_ne e12 (by decide) S26
  have S27 := mv_ne e12 (by decide) S27
  have S28 := mv_ne e12 (by decide) S28
  have S29 := mv_ne e12 (by decide) S29
  have S30 := mv_ne e12 (by decide) S30
  have S31 := mv_ne e12 (by decide) S31
  have HB := mv_ne e12 (by decide) HB
  have H8 := mv_ne e12 (by decide) H8
  have H9 := mv_ne e12 (by decide) H9
  have H10 := mv_ne e12 (by decide) H10
  have HT : h11[32]? = some (.inr (8, [.ref 22, .ref 7, .ref 33, .int (nI 0), .int (nI 0), .int (nI t4.2.2.1), .int (nI t4.2.2.2)])) := mv_eq e12 HT
  have T33 := mv_ne e12 (by decide) T33
  have fr := fr.set e12 (by decide)
  clear e12
  refine mv_aload_n dX8_fill_33 rfl ?_
  refine mv_iconst (v := nI 0) dX8_fill_34 (by decide) ?_
  refine mv_putf (ci := 8) (f := 5) dX8_fill_35 HT rfl (by decide) wd_252 rfl rfl (fun _ => ⟨rfl, rfl⟩) (Nat.le_of_ble_eq_true rfl) ?_
  refine mv_topH (fun h13 e14 => ?_)
  have HL := mv_ne e14 (by decide) HL
  have HV := mv_ne e14 (by decide) HV
  have HS := mv_ne e14 (by decide) HS
  have S23 := mv_ne e14 (by decide) S23
  have S24 := mv_ne e14 (by decide) S24
  have S25 := mv_ne e14 (by decide) S25
  have S26 := mv_ne e14 (by decide) S26
  have S27 := mv_ne e14 (by decide) S27
  have S28 := mv_ne e14 (by decide) S28
  have S29 := mv_ne e14 (by decide) S29
  have S30 := mv_ne e14 (by decide) S30
  have S31 := mv_ne e14 (by decide) S31
  have HB := mv_ne e14 (by decide) HB
  have H8 := mv_ne e14 (by decide) H8
  have H9 := mv_ne e14 (by decide) H9
  have H10 := mv_ne e14 (by decide) H10
  have HT : h13[32]? = some (.inr (8, [.ref 22, .ref 7, .ref 33, .int (nI 0), .int (nI 0), .int (nI 0), .int (nI t4.2.2.2)])) := mv_eq e14 HT
  have T33 := mv_ne e14 (by decide) T33
  have fr := fr.set e14 (by decide)
  clear e14
  refine mv_aload_n dX8_fill_38 rfl ?_
  refine mv_iconst (v := nI 0) dX8_fill_39 (by decide) ?_
  refine mv_putf (ci := 8) (f := 6) dX8_fill_40 HT rfl (by decide) wd_253 rfl rfl (fun _ => ⟨rfl, rfl⟩) (Nat.le_of_ble_eq_true rfl) ?_
  refine mv_topH (fun h15 e16 => ?_)
  have HL := mv_ne e16 (by decide) HL
  have HV := mv_ne e16 (by decide) HV
  have HS := mv_ne e16 (by decide) HS
  have S23 := mv_ne e16 (by decide) S23
  have S24 := mv_ne e16 (by decide) S24
  have S25 := mv_ne e16 (by decide) S25
  have S26 := mv_ne e16 (by decide) S26
  have S27 := mv_ne e16 (by decide) S27
  have S28 := mv_ne e16 (by decide) S28
  have S29 := mv_ne e16 (by decide) S29
  have S30 := mv_ne e16 (by decide) S30
  have S31 := mv_ne e16 (by decide) S31
  have HB := mv_ne e16 (by decide) HB
  have H8 := mv_ne e16 (by decide) H8
  have H9 := mv_ne e16 (by decide) H9
  have H10 := mv_ne e16 (by decide) H10
  have HT : h15[32]? = some (.inr (8, [.ref 22, .ref 7, .ref 33, .int (nI 0), .int (nI 0), .int (nI 0), .int (nI 0)])) := mv_eq e16 HT
  have T33 := mv_ne e16 (by decide) T33
  have fr := fr.set e16 (by decide)
  clear e16
  refine mv_aload_n dX8_fill_43 rfl ?_
  refine mv_getf (ci := 8) (f := 0) dX8_fill_44 HT rfl (by decide) wd_247 rfl ?_
  refine mv_iload_n dX8_fill_47 rfl ?_
  refine mv_cV1 (ci := 7) dX8_fill_48 lk_X8_fill_53 HS rfl (Nat.le_of_ble_eq_true rfl) (Nat.le_of_ble_eq_true rfl) (k_X7_lastCounted (ev := ev) HS S28 S29 hk m1) ?_
  refine mv_topI (y := nI c1) f1 ?_
  refine mv_iload_n dX8_fill_51 rfl ?_
  refine mv_isub dX8_fill_52 ?_
  refine mv_topI (y := nI (c1 - w)) (pk_sub (by omega)) ?_
  refine mv_istore dX8_fill_53 (by decide) ?_
  refine mv_aload_n dX8_fill_55 rfl ?_
  refine mv_getf (ci := 8) (f := 0) dX8_fill_56 HT rfl (by decide) wd_247 rfl ?_
  refine mv_iload_n dX8_fill_59 rfl ?_
  refine mv_cV1 (ci := 7) dX8_fill_60 lk_X8_fill_56 HS rfl (Nat.le_of_ble_eq_true rfl) (Nat.le_of_ble_eq_true rfl) (k_X7_firstCounted (ev := ev) HS S28 (by omega)) ?_
  refine mv_topI (y := nI a1) e1 ?_
  have ez : (q_tb (q_oks lw ln s wa cf ct rr ok) (q_fm b (wa k) m z w (q_z hs 400) b.1) k a1 (a1 - a1)) = (0, 0, 0, 0) := (by rw [Nat.sub_self]; rfl)
  have HT : h15[32]? = some (.inr (8, [.ref 22, .ref 7, .ref 33, .int (nI (q_tb (q_oks lw ln s wa cf ct rr ok) (q_fm b (wa k) m z w (q_z hs 400) b.1) k a1 (a1 - a1)).1), .int (nI (q_tb (q_oks lw ln s wa cf ct rr ok) (q_fm b (wa k) m z w (q_z hs 400) b.1) k a1 (a1 - a1)).2.1), .int (nI (q_tb (q_oks lw ln s wa cf ct rr ok) (q_fm b (wa k) m z w (q_z hs 400) b.1) k a1 (a1 - a1)).2.2.1), .int (nI (q_tb (q_oks lw ln s wa cf ct rr ok) (q_fm b (wa k) m z w (q_z hs 400) b.1) k a1 (a1 - a1)).2.2.2)])) := (by rw [ez]; exact HT)
  refine mv_istore dX8_fill_63 (by decide) ?_
  exact l_X8_fill hw hsi hr hwi hok hh hb hk hm0 hz hw6 e1 f1 hc1 hac (c1 + 2) a1 h15 (by omega) fr S31 HT T33 HL HV HS S23 S24 S25 S26 S27 S28 S29 S30 HB H8 H9 H10 (Nat.le_refl _) (by omega)
