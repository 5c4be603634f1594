/-- such a shake -/
abbrev q_su (b : t_B) (p m z k : Nat) : Prop := z ≤ b.2.2.2.2 k ∧ t_far (b.2.2.2.1 k) p ≤ m
def q_fs (b : t_B) (p m z a c : Nat) : Nat → Nat → Int32
  | 0, _ => -1
  | f + 1, k => if (a ≤ b.2.2.1 k ∧ b.2.2.1 k ≤ c) ∧ q_su b p m z k then nI k else q_fs b p m z a c f (k + 1)
theorem q_fs_y {b : t_B} {p m z a c f k : Nat} (h : (a ≤ b.2.2.1 k ∧ b.2.2.1 k ≤ c) ∧ q_su b p m z k) (hf : 0 < f) : q_fs b p m z a c f k = nI k := by
  obtain ⟨g, rfl⟩ : ∃ g, f = g + 1 := ⟨f - 1, by omega⟩
  exact if_pos h
theorem q_fs_n {b : t_B} {p m z a c f k : Nat} (h : ¬ ((a ≤ b.2.2.1 k ∧ b.2.2.1 k ≤ c) ∧ q_su b p m z k)) (hf : 0 < f) : q_fs b p m z a c f k = q_fs b p m z a c (f - 1) (k + 1) := by
  obtain ⟨g, rfl⟩ : ∃ g, f = g + 1 := ⟨f - 1, by omega⟩
  exact if_neg h
def q_hs (b : t_B) (p m z d : Nat) : Nat → Nat
  | 0 => 0
  | k + 1 => q_hs b p m z d k + (if b.2.2.1 k = d ∧ q_su b p m z k then 1 else 0)
theorem q_hs_le (b : t_B) (p m z d k : Nat) : q_hs b p m z d k ≤ k := by
  induction k with
  | zero => exact Nat.le_refl _
  | succ k ih =>
    have e : q_hs b p m z d (k + 1) = q_hs b p m z d k + (if b.2.2.1 k = d ∧ q_su b p m z k then 1 else 0) := rfl
    rw [e]
    split <;> omega
theorem q_hs_s (b : t_B) (p m z d k : Nat) : q_hs b p m z d (k + 1) = q_hs b p m z d k + (if b.2.2.1 k = d ∧ q_su b p m z k then 1 else 0) := rfl
/-- odds: of one chief shake, of one behind, a day's, all days' -/
def q_ma (R p m s : Nat) : Nat := R * 1000 * t_near p m / 64 * s / 1000000
def q_af (A N : Nat) (b : t_B) (k late p m s : Nat) : Nat := min 1000 (A * b.2.2.2.2 k / late) * 1000 * t_nearB (b.2.2.2.1 k) N p m / t_near (b.2.2.2.1 k) N * s / 1000000
def q_le (v y : Nat) : Nat := v * (1000000 - y) / 1000000
def q_oi (A D N : Nat) (b : t_B) (p m s day : Nat) : Nat → Nat → Nat → Nat
  | 0, _, v => v
  | f + 1, k, v => q_oi A D N b p m s day f (k + 1) (if day - b.2.2.1 k ≤ D then q_le v (q_af A N b k (day - b.2.2.1 k) p m s) else v)
def q_oo (R A D N : Nat) (b : t_B) (p m s c : Nat) : Nat → Nat → Nat → Nat
  | 0, _, v => v
  | f + 1, day, v => q_oo R A D N b p m s c f (day + 1) (q_oi A D N b p m s day c 0 (q_le v (q_ma R p m s)))
def q_od (ln : Nat → Nat) (b : t_B) (p m z a e c : Nat) : Nat := 1000000 - q_oo (ln 0) (ln 2) (ln 3) (ln 4) b p m (t_gr (ln 1) (z - 1)) c (e + 1 - a) a 1000000
theorem q_oi_s {A D N : Nat} {b : t_B} {p m s day f k v : Nat} (hf : 0 < f) : q_oi A D N b p m s day f k v = q_oi A D N b p m s day (f - 1) (k + 1) (if day - b.2.2.1 k ≤ D then q_le v (q_af A N b k (day - b.2.2.1 k) p m s) else v) := by
  obtain ⟨g, rfl⟩ : ∃ g, f = g + 1 := ⟨f - 1, by omega⟩
  rfl
theorem q_oo_s {R A D N : Nat} {b : t_B} {p m s c f day v : Nat} (hf : 0 < f) : q_oo R A D N b p m s c f day v = q_oo R A D N b p m s c (f - 1) (day + 1) (q_oi A D N b p m s day c 0 (q_le v (q_ma R p m s))) := by
  obtain ⟨g, rfl⟩ : ∃ g, f = g + 1 := ⟨f - 1, by omega⟩
  rfl
theorem q_le_le (v y : Nat) (h : v ≤ 1000000) : q_le v y ≤ 1000000 := by
  unfold q_le
  have h1 : v * (1000000 - y) ≤ 1000000 * 1000000 := Nat.mul_le_mul h (Nat.sub_le _ _)
  exact Nat.div_le_of_le_mul h1
theorem q_oi_le {A D N : Nat} {b : t_B} {p m s day : Nat} (f : Nat) : ∀ (k v : Nat), v ≤ 1000000 → q_oi A D N b p m s day f k v ≤ 1000000 := by
  induction f with
  | zero => intro k v h; exact h
  | succ f ih =>
    intro k v h
    refine ih (k + 1) _ ?_
    split
    · exact q_le_le _ _ h
    · exact h
theorem q_oo_le {R A D N : Nat} {b : t_B} {p m s c : Nat} (f : Nat) : ∀ (day v : Nat), v ≤ 1000000 → q_oo R A D N b p m s c f day v ≤ 1000000 := by
  induction f with
  | zero => intro k v h; exact h
  | succ f ih =>
    intro day v h
    exact ih (day + 1) _ (q_oi_le c 0 _ (q_le_le _ _ h))
theorem q_od_le (ln : Nat → Nat) (b : t_B) (p m z a e c : Nat) : q_od ln b p m z a e c ≤ 1000000 := Nat.sub_le _ _
theorem t_shl_sub (x m y n : Nat) : t_shl x m y n ≤ t_shl x m x m := by unfold t_shl; omega
theorem t_nearB_sub (p m q n : Nat) : t_nearB p m q n ≤ t_near p m := Nat.mul_le_mul (t_shl_sub _ _ _ _) (t_shl_sub _ _ _ _)
theorem q_ma_le {R p m s : Nat} (hR : R ≤ 999) (hs : s ≤ 1000000) : q_ma R p m s ≤ 1000000 := by
  unfold q_ma
  have b1 : R * 1000 * t_near p m ≤ 999000 * 64 := Nat.mul_le_mul (by omega) (t_near_le p m)
  have b2 : R * 1000 * t_near p m / 64 * s ≤ 999000 * 1000000 := Nat.mul_le_mul (by omega) hs
  omega
theorem q_af_le {A N : Nat} {b : t_B} {k late p m s : Nat} (hs : s ≤ 1000000) : q_af A N b k late p m s ≤ 1000000 := by
  unfold q_af
  have b1 : min 1000 (A * b.2.2.2.2 k / late) * 1000 * t_nearB (b.2.2.2.1 k) N p m ≤ t_near (b.2.2.2.1 k) N * 1000000 := by
    rw [Nat.mul_comm (t_near _ _)]
    exact Nat.mul_le_mul (by omega) (t_nearB_sub _ _ _ _)
  have b2 := Nat.div_le_of_le_mul b1
  have b3 : min 1000 (A * b.2.2.2.2 k / late) * 1000 * t_nearB (b.2.2.2.1 k) N p m / t_near (b.2.2.2.1 k) N * s ≤ 1000000 * 1000000 := Nat.mul_le_mul b2 hs
  exact Nat.div_le_of_le_mul b3
set_option maxRecDepth 100000 in
theorem l_X0_goOn {ev : mv_E} {h : mv_H} {b : t_B} {t : Nat} {n : Nat} {lw : Nat → Int32} {ln : Nat → Nat}  (hb : q_BI t b) (ht : t ≤ 399) (hn : n ≤ 399) (hw : q_LW lw ln) : ∀ (fu : Nat) (y : Nat) (b2 : t_B), ∀ (g : mv_H), min 399 (t + n) < y + fu → mv_fra [7, 8, 9, 10] h g → g[7]? = some (.inr (0, [.ref 8, .ref 9, .ref 10, .int (nI b2.1), .int (nI y), .int (nI b2.2.1)])) → g[8]? = some (.inl (0, 60, .inl (fun j => nI (b2.2.2.1 j)))) → g[9]? = some (.inl (0, 60, .inl (fun j => nI (b2.2.2.2.1 j)))) → g[10]? = some (.inl (0, 60, .inl (fun j => nI (b2.2.2.2.2 j)))) → g[1]? = some (.inr (5, [.ref 2])) → g[2]? = some (.inl (0, 8, .inl lw)) → (q_BI y b2) → (b.1 ≤ b2.1) → (y ≤ min 399 (t + n)) → (t ≤ y) → (q_rn (ln 0) (ln 1) (ln 2) (ln 3) (ln 4) (min 399 (t + n) - y) y b2 = q_rn (ln 0) (ln 1) (ln 2) (ln 3) (ln 4) (min 399 (t + n) - t) t b) → mv_g ev mX0_goOn 27 [.ref 7, .int (nI n), .ref 1, .int (nI b.1), .int (nI (min 399 (t + n))), .int (nI (y + 1))] [] g (fun r g => r = some (.int (nI ((q_rn (ln 0) (ln 1) (ln 2) (ln 3) (ln 4) (min 399 (t + n) - t) t b).2.1 - b.1))) ∧ mv_fra [7, 8, 9, 10] h g ∧ g[7]? = some (.inr (0, [.ref 8, .ref 9, .ref 10, .int (nI (q_rn (ln 0) (ln 1) (ln 2) (ln 3) (ln 4) (min 399 (t + n) - t) t b).2.1), .int (nI (q_rn (ln 0) (ln 1) (ln 2) (ln 3) (ln 4) (min 399 (t + n) - t) t b).1), .int (nI (q_rn (ln 0) (ln 1) (ln 2) (ln 3) (ln 4) (min 399 (t + n) - t) t b).2.2.1)])) ∧ g[8]? = some (.inl (0, 60, .inl (fun j => nI ((q_rn (ln 0) (ln 1) (ln 2) (ln 3) (ln 4) (min 399 (t + n) - t) t b).2.2.2.1 j)))) ∧ g[9]? = some (.inl (0, 60, .inl (fun j => nI ((q_rn (ln 0) (ln 1) (ln 2) (ln 3) (ln 4) (min 399 (t + n) - t) t b).2.2.2.2.1 j)))) ∧ g[10]? = some (.inl (0, 60, .inl (fun j => nI ((q_rn (ln 0) (ln 1) (ln 2) (ln 3) (ln 4) (min 399 (t + n) - t) t b).2.2.2.2.2 j))))) := by
  intro fu
  induction fu with
  | zero => intro y b2 g hm fr HB H8 H9 H10 HL HV hb2 he hj hj2 hq; exact absurd hm (by omega)
  | succ fu ih =>
    intro y b2 g hm fr HB H8 H9 H10 HL HV hb2 he hj hj2 hq
    have hwv := hw.1
    obtain ⟨g0, g1, g2, g3, g3b, g4, g7, gmo⟩ := hw.2
    have n1 := hb.1
    have n2 := hb2.1
    refine mv_iload dX0_goOn_27 rfl ?_
    refine mv_iload dX0_goOn_29 rfl ?_
    refine mv_icmp_gt (tgt := 60) dX0_goOn_31 (by decide) (fun c31 => ?_) (fun c31 => ?_)
    · have c31 : min 399 (t + n) < y + 1 := (nI_ltI (by omega) (by omega)).mp c31
      refine mv_aload_n dX0_goOn_60 rfl ?_
      refine mv_getf (ci := 0) (f := 3) dX0_goOn_61 HB rfl (by decide) wd_151 rfl ?_
      refine mv_iload_n dX0_goOn_64 rfl ?_
      refine mv_isub dX0_goOn_65 ?_
      refine mv_topI (y := nI (b2.1 - b.1)) (pk_sub he) ?_
      have e9 : q_rn (ln 0) (ln 1) (ln 2) (ln 3) (ln 4) (min 399 (t + n) - t) t b = (y, b2) := (by rw [← hq]; exact q_rn_x (by omega))
      exact mv_iret dX0_goOn_66 rfl rfl ⟨(by rw [e9]), fr, (by rw [e9]; exact HB), (by rw [e9]; exact H8), (by rw [e9]; exact H9), (by rw [e9]; exact H10)⟩
    · have c31 : ¬ (min 399 (t + n) < y + 1) := fun z => c31 ((nI_ltI (by omega) (by omega)).mpr z)
      refine mv_aload_n dX0_goOn_34 rfl ?_
      refine mv_cV0 (ci := 0) dX0_goOn_35 lk_X0_goOn_35 HB rfl (Nat.le_of_ble_eq_true rfl) (Nat.le_of_ble_eq_true rfl) (k_X0_isFull (ev := ev) HB n2) ?_
      refine mv_if_ne (tgt := 60) dX0_goOn_38 (by decide) (fun c38 => ?_) (fun c38 => ?_)
      · have c38 : 60 ≤ b2.1 := Classical.byContradiction (fun z => c38 ((mv_b_0 _).mpr z))
        refine mv_aload_n dX0_goOn_60 rfl ?_
        refine mv_getf (ci := 0) (f := 3) dX0_goOn_61 HB rfl (by decide) wd_151 rfl ?_
        refine mv_iload_n dX0_goOn_64 rfl ?_
        refine mv_isub dX0_goOn_65 ?_
        refine mv_topI (y := nI (b2.1 - b.1)) (pk_sub he) ?_
        have e9 : q_rn (ln 0) (ln 1) (ln 2) (ln 3) (ln 4) (min 399 (t + n) - t) t b = (y, b2) := (by rw [← hq]; exact q_rn_x (by omega))
        exact mv_iret dX0_goOn_66 rfl rfl ⟨(by rw [e9]), fr, (by rw [e9]; exact HB), (by rw [e9]; exact H8), (by rw [e9]; exact H9), (by rw [e9]; exact H10)⟩
      · have c38 : ¬ (60 ≤ b2.1) := (mv_b_0 _).mp c38
        refine mv_aload_n dX0_goOn_41 rfl ?_
        refine mv_iload dX0_goOn_42 rfl ?_
        refine mv_putf (ci := 0) (f := 4) dX0_goOn_44 HB rfl (by decide) wd_152 rfl rfl (fun _ => ⟨rfl, rfl⟩) (Nat.le_of_ble_eq_true rfl) ?_
        refine mv_topH (fun h1 e2 => ?_)
        have HB : h1[7]? = some (.inr (0, [.ref 8, .ref 9, .ref 10, .int (nI b2.1), .int (nI (y + 1)), .int (nI b2.2.1)])) := mv_eq e2 HB
        have H8 := mv_ne e2 (by decide) H8
        have H9 := mv_ne e2 (by decide) H9
        have H10 := mv_ne e2 (by decide) H10
        have HL := mv_ne e2 (by decide) HL
        have HV := mv_ne e2 (by decide) HV
        have fr := fr.set e2 (by decide)
        clear e2
        have xq := q_day_BI (R := ln 0) (G := ln 1) (A := ln 2) (D := ln 3) (N := ln 4) (q_BI_le (e := y + 1) hb2 (by omega)) (by omega) (by omega) (by omega)
        refine mv_aload_n dX0_goOn_47 rfl ?_
        refine mv_iload dX0_goOn_48 rfl ?_
        refine mv_aload_n dX0_goOn_50 rfl ?_
        obtain ⟨h3, K4, f5, y6, y7, y8, y9⟩ := (k_X0_liveThrough (ev := ev) (b := b2) (d := (y + 1)) (lw := lw) (ln := ln) HB H8 H9 H10 HL HV (q_BI_le (e := y + 1) hb2 (by omega)) (by omega) (fun i hi => Nat.lt_succ_of_le (hb2.2.2.2.2.2.1 i hi)) (by omega) hw)
        refine mv_cV2 (ci := 0) dX0_goOn_51 lk_X0_goOn_51 HB rfl (Nat.le_of_ble_eq_true rfl) (Nat.le_of_ble_eq_true rfl) K4 ?_
        have HB : h3[7]? = some (.inr (0, [.ref 8, .ref 9, .ref 10, .int (nI (q_day (ln 0) (ln 1) (ln 2) (ln 3) (ln 4) (y + 1) b2).1), .int (nI (y + 1)), .int (nI (q_day (ln 0) (ln 1) (ln 2) (ln 3) (ln 4) (y + 1) b2).2.1)])) := y6
        have H8 : h3[8]? = some (.inl (0, 60, .inl (fun j => nI ((q_day (ln 0) (ln 1) (ln 2) (ln 3) (ln 4) (y + 1) b2).2.2.1 j)))) := y7
        have H9 : h3[9]? = some (.inl (0, 60, .inl (fun j => nI ((q_day (ln 0) (ln 1) (ln 2) (ln 3) (ln 4) (y + 1) b2).2.2.2.1 j)))) := y8
        have H10 : h3[10]? = some (.inl (0, 60, .inl (fun j => nI ((q_day (ln 0) (ln 1) (ln 2) (ln 3) (ln 4) (y + 1) b2).2.2.2.2 j)))) := y9
        have HL := f5.get (by decide) HL
        have HV := f5.get (by decide) HV
        have fr := fr.trans f5 (by decide)
        refine mv_iinc (v := nI (y + 1 + 1)) dX0_goOn_54 rfl (mv_inc (y + 1) 1) (by decide) ?_
        refine mv_goto (tgt := 27) dX0_goOn_57 (by decide) ?_
        exact ih (y + 1) (q_day (ln 0) (ln 1) (ln 2) (ln 3) (ln 4) (y + 1) b2) h3 (by omega) fr HB H8 H9 H10 HL HV xq.1 (Nat.le_trans he xq.2) (by omega) (by omega) (by rw [← hq, q_rn_s (f := min 399 (t + n) - y) (by omega) (by omega), Nat.sub_sub])
set_option maxRecDepth 100000 in
theorem k_X0_goOn {ev : mv_E} {h : mv_H} {b : t_B} {t : Nat} {n : Nat} {lw : Nat → Int32} {ln : Nat → Nat} (HB : h[7]? = some (.inr (0, [.ref 8, .ref 9, .ref 10, .int (nI b.1), .int (nI t), .int (nI b.2.1)]))) (H8 : h[8]? = some (.inl (0, 60, .inl (fun j => nI (b.2.2.1 j))))) (H9 : h[9]? = some (.inl (0, 60, .inl (fun j => nI (b.2.2.2.1 j))))) (H10 : h[10]? = some (.inl (0, 60, .inl (fun j => nI (b.2.2.2.2 j))))) (HL : h[1]? = some (.inr (5, [.ref 2]))) (HV : h[2]? = some (.inl (0, 8, .inl lw))) (hb : q_BI t b) (ht : t ≤ 399) (hn : n ≤ 399) (hw : q_LW lw ln) : ∃ h2, mv_K ev mX0_goOn [.ref 7, .int (nI n), .ref 1] h (some (.int (nI ((q_rn (ln 0) (ln 1) (ln 2) (ln 3) (ln 4) (min 399 (t + n) - t) t b).2.1 - b.1)))) h2 ∧ mv_fra [7, 8, 9, 10] h h2 ∧ h2[7]? = some (.inr (0, [.ref 8, .ref 9, .ref 10, .int (nI (q_rn (ln 0) (ln 1) (ln 2) (ln 3) (ln 4) (min 399 (t + n) - t) t b).2.1), .int (nI (q_rn (ln 0) (ln 1) (ln 2) (ln 3) (ln 4) (min 399 (t + n) - t) t b).1), .int (nI (q_rn (ln 0) (ln 1) (ln 2) (ln 3) (ln 4) (min 399 (t + n) - t) t b).2.2.1)])) ∧ h2[8]? = some (.inl (0, 60, .inl (fun j => nI ((q_rn (ln 0) (ln 1) (ln 2) (ln 3) (ln 4) (min 399 (t + n) - t) t b).2.2.2.1 j)))) ∧ h2[9]? = some (.inl (0, 60, .inl (fun j => nI ((q_rn (ln 0) (ln 1) (ln 2) (ln 3) (ln 4) (min 399 (t + n) - t) t b).2.2.2.2.1 j)))) ∧ h2[10]? = some (.inl (0, 60, .inl (fun j => nI ((q_rn (ln 0) (ln 1) (ln 2) (ln 3) (ln 4) (min 399 (t + n) - t) t b).2.2.2.2.2 j)))) := by
  suffices g0 : mv_g ev mX0_goOn 0 (mv_ent [.ref 7, .int (nI n), .ref 1] (mv_ml mX0_goOn)) [] h (fun r g => r = some (.int (nI ((q_rn (ln 0) (ln 1) (ln 2) (ln 3) (ln 4) (min 399 (t + n) - t) t b).2.1 - b.1))) ∧ mv_fra [7, 8, 9, 10] h g ∧ g[7]? = some (.inr (0, [.ref 8, .ref 9, .ref 10, .int (nI (q_rn (ln 0) (ln 1) (ln 2) (ln 3) (ln 4) (min 399 (t + n) - t) t b).2.1), .int (nI (q_rn (ln 0) (ln 1) (ln 2) (ln 3) (ln 4) (min 399 (t + n) - t) t b).1), .int (nI (q_rn (ln 0) (ln 1) (ln 2) (ln 3) (ln 4) (min 399 (t + n) - t) t b).2.2.1)])) ∧ g[8]? = some (.inl (0, 60, .inl (fun j => nI ((q_rn (ln 0) (ln 1) (ln 2) (ln 3) (ln 4) (min 399 (t + n) - t) t b).2.2.2.1 j)))) ∧ g[9]? = some (.inl (0, 60, .inl (fun j => nI ((q_rn (ln 0) (ln 1) (ln 2) (ln 3) (ln 4) (min 399 (t + n) - t) t b).2.2.2.2.1 j)))) ∧ g[10]? = some (.inl (0, 60, .inl (fun j => nI ((q_rn (ln 0) (ln 1) (ln 2) (ln 3) (ln 4) (min 399 (t + n) - t) t b).2.2.2.2.2 j))))) from (by obtain ⟨r0, h0, K0, q0, Q0⟩ := mv_Kex g0; subst q0; exact ⟨h0, K0, Q0⟩)
  show mv_g ev mX0_goOn 0 [.ref 7, .int (nI n), .ref 1, .null, .null, .null] [] h _
  have fr : mv_fra [7, 8, 9, 10] h h := mv_fra.rf
  have hwv := hw.1
  obtain ⟨g0, g1, g2, g3, g3b, g4, g7, gmo⟩ := hw.2
  have n1 := hb.1
  refine mv_aload_n dX0_goOn_0 rfl ?_
  refine mv_getf (ci := 0) (f := 3) dX0_goOn_1 HB rfl (by decide) wd_151 rfl ?_
  refine mv_istore_n dX0_goOn_4 (by decide) ?_
  refine mv_sipush (v := nI 399) dX0_goOn_5 (by decide) ?_
  refine mv_aload_n dX0_goOn_8 rfl ?_
  refine mv_getf (ci := 0) (f := 4) dX0_goOn_9 HB rfl (by decide) wd_152 rfl ?_
  refine mv_iload_n dX0_goOn_12 rfl ?_
  refine mv_iadd dX0_goOn_13 ?_
  refine mv_topI (y := nI (t + n)) (nI_add _ _) ?_
  refine mv_mmin dX0_goOn_14 wd_647 (by decide) (Nat.le_of_ble_eq_true rfl) ?_
  refine mv_topI (y := nI (min 399 (t + n))) (mv_nmin (by omega) (by omega)) ?_
  refine mv_istore dX0_goOn_17 (by decide) ?_
  refine mv_aload_n dX0_goOn_19 rfl ?_
  refine mv_getf (ci := 0) (f := 4) dX0_goOn_20 HB rfl (by decide) wd_152 rfl ?_
  refine mv_iconst (v := nI 1) dX0_goOn_23 (by decide) ?_
  refine mv_iadd dX0_goOn_24 ?_
  refine mv_topI (y := nI (t + 1)) (nI_add _ _) ?_
  refine mv_istore dX0_goOn_25 (by decide) ?_
  exact l_X0_goOn hb ht hn hw (min 399 (t + n) + 1) t b h (by omega) fr HB H8 H9 H10 HL HV hb (Nat.le_refl _) (by omega) (Nat.le_refl _) rfl
set_option maxRecDepth 100000 in
theorem k_X0_isSuch {ev : mv_E} {h : mv_H} {b : t_B} {t : Nat} {k : Nat} {p : Nat} {m : Nat} {z : Nat} {dd : Nat} (HB : h[7]? = some (.inr (0, [.ref 8, .ref 9, .ref 10, .int (nI b.1), .int (nI t), .int (nI b.2.1)]))) (H9 : h[9]? = some (.inl (0, 60, .inl (fun j => nI (b.2.2.2.1 j))))) (H10 : h[10]? = some (.inl (0, 60, .inl (fun j => nI (b.2.2.2.2 j))))) (hk : k < b.1) (hb : q_BI dd b) (hp : p < 64) (hm0 : m < 8) (hz : z ≤ 9) : mv_K ev mX0_isSuch [.ref 7, .int (nI k), .int (nI p), .int (nI m), .int (nI z)] h (some (.int (mv_b (q_su b p m z k)))) h := by
  refine mv_Kof ?_
  show mv_g ev mX0_isSuch 0 [.ref 7, .int (nI k), .int (nI p), .int (nI m), .int (nI z)] [] h _
  have n0 := hb.1
  have n1 := hb.2.2.2.2.1 k
  have n2 := hb.2.2.2.1 k
  have n3 := t_far_lt n2 hp
  refine mv_aload_n dX0_isSuch_0 rfl ?_
  refine mv_iload_n dX0_isSuch_1 rfl ?_
  refine mv_cV1 (ci := 0) dX0_isSuch_2 lk_X0_isSuch_31 HB rfl (Nat.le_of_ble_eq_true rfl) (Nat.le_of_ble_eq_true rfl) (k_X0_has (ev := ev) HB (by omega) (by omega)) ?_
  refine mv_if_eq (tgt := 37) dX0_isSuch_5 (by decide) (fun z => absurd z ((by decide))) (fun c5 => ?_)
  refine mv_aload_n dX0_isSuch_8 rfl ?_
  refine mv_getf (ci := 0) (f := 2) dX0_isSuch_9 HB rfl (by decide) wd_150 rfl ?_
  refine mv_iload_n dX0_isSuch_12 rfl ?_
  refine mv_iaN (j := k) (x := nI (b.2.2.2.2 k)) dX0_isSuch_13 H10 rfl (by decide) (by omega) rfl ?_
  refine mv_iload dX0_isSuch_14 rfl ?_
  refine mv_icmp_lt (tgt := 37) dX0_isSuch_16 (by decide) (fun c16 => ?_) (fun c16 => ?_)
  · have c16 : b.2.2.2.2 k < z := (nI_ltI (by omega) (by omega)).mp c16
    refine mv_iconst (v := nI 0) dX0_isSuch_37 (by decide) ?_
    exact mv_iret dX0_isSuch_38 rfl rfl ⟨(congrArg (fun z => some (Value.int z)) (by first | exact (mv_b_t (by omega)).symm | exact (mv_b_f (by omega)).symm)), rfl⟩
  · have c16 : ¬ (b.2.2.2.2 k < z) := fun z => c16 ((nI_ltI (by omega) (by omega)).mpr z)
    refine mv_aload_n dX0_isSuch_19 rfl ?_
    refine mv_getf (ci := 0) (f := 1) dX0_isSuch_20 HB rfl (by decide) wd_149 rfl ?_
    refine mv_iload_n dX0_isSuch_23 rfl ?_
    refine mv_iaN (j := k) (x := nI (b.2.2.2.1 k)) dX0_isSuch_24 H9 rfl (by decide) (by omega) rfl ?_
    refine mv_iload_n dX0_isSuch_25 rfl ?_
    refine mv_cSN2 dX0_isSuch_26 lk_X0_isSuch_101 (Nat.le_of_ble_eq_true rfl) (Nat.le_of_ble_eq_true rfl) (k_X11_distance (ev := ev) (by omega) (by omega)) ?_
    refine mv_iload_n dX0_isSuch_29 rfl ?_
    refine mv_icmp_gt (tgt := 37) dX0_isSuch_30 (by decide) (fun c30 => ?_) (fun c30 => ?_)
    · have c30 : m < t_far (b.2.2.2.1 k) p := (nI_ltI (by omega) (by omega)).mp c30
      refine mv_iconst (v := nI 0) dX0_isSuch_37 (by decide) ?_
      exact mv_iret dX0_isSuch_38 rfl rfl ⟨(congrArg (fun z => some (Value.int z)) (by first | exact (mv_b_t (by omega)).symm | exact (mv_b_f (by omega)).symm)), rfl⟩
    · have c30 : ¬ (m < t_far (b.2.2.2.1 k) p) := fun z => c30 ((nI_ltI (by omega) (by omega)).mpr z)
      refine mv_iconst (v := nI 1) dX0_isSuch_33 (by decide) ?_
      refine mv_goto (tgt := 38) dX0_isSuch_34 (by decide) ?_
      exact mv_iret dX0_isSuch_38 rfl rfl ⟨(congrArg (fun z => some (Value.int z)) (by first | exact (mv_b_t (by omega)).symm | exact (mv_b_f (by omega)).symm)), rfl⟩
set_option maxRecDepth 100000 in
theorem l_X0_firstSuch {ev : mv_E} {h : mv_H} {b : t_B} {t : Nat} {p : Nat} {m : Nat} {z : Nat} {a : Nat} {c : Nat} {dd : Nat} (HB : h[7]? = some (.inr (0, [.ref 8, .ref 9, .ref 10, .int (nI b.1), .int (nI t), .int (nI b.2.1)]))) (H8 : h[8]? = some (.inl (0, 60, .inl (fun j => nI (b.2.2.1 j))))) (H9 : h[9]? = some (.inl (0, 60, .inl (fun j => nI (b.2.2.2.1 j))))) (H10 : h[10]? = some (.inl (0, 60, .inl (fun j => nI (b.2.2.2.2 j))))) (hb : q_BI dd b) (hp : p < 64) (hm0 : m < 8) (hz : z ≤ 9) (ha : a < 1000) (hc : c < 1000) : ∀ (fu : Nat) (k : Nat), b.1 < k + fu → (k ≤ b.1) → (q_fs b p m z a c (b.1 - k) k = q_fs b p m z a c b.1 0) → mv_g ev mX0_firstSuch 3 [.ref 7, .int (nI p), .int (nI m), .int (nI z), .int (nI a), .int (nI c), .int (nI k)] [] h (fun r g => r = some (.int (q_fs b p m z a c b.1 0)) ∧ g = h) := by
  intro fu
  induction fu with
  | zero => intro k hm hk hq; exact absurd hm (by omega)
  | succ fu ih =>
    intro k hm hk hq
    have n0 := hb.1
    have n1 := hb.2.2.1 k
    refine mv_iload dX0_firstSuch_3 rfl ?_
    refine mv_aload_n dX0_firstSuch_5 rfl ?_
    refine mv_getf (ci := 0) (f := 3) dX0_firstSuch_6 HB rfl (by decide) wd_151 rfl ?_
    refine mv_icmp_ge (tgt := 49) dX0_firstSuch_9 (by decide) (fun c9 => ?_) (fun c9 => ?_)
    · have c9 : b.1 ≤ k := (nI_leI (by omega) (by omega)).mp c9
      refine mv_iconst (v := (-1)) dX0_firstSuch_49 (by decide) ?_
      exact mv_iret dX0_firstSuch_50 rfl rfl ⟨(congrArg (fun z => some (Value.int z)) (by rw [← hq, show b.1 - k = 0 by omega]; rfl)), rfl⟩
    · have c9 : ¬ (b.1 ≤ k) := fun z => c9 ((nI_leI (by omega) (by omega)).mpr z)
      refine mv_aload_n dX0_firstSuch_12 rfl ?_
      refine mv_iload dX0_firstSuch_13 rfl ?_
      refine mv_cV1 (ci := 0) dX0_firstSuch_15 lk_X0_firstSuch_68 HB rfl (Nat.le_of_ble_eq_true rfl) (Nat.le_of_ble_eq_true rfl) (k_X0_dayOf (ev := ev) HB H8 (by omega) (by omega)) ?_
      refine mv_iload dX0_firstSuch_18 rfl ?_
      refine mv_iload dX0_firstSuch_20 rfl ?_
      refine mv_cSN3 dX0_firstSuch_22 lk_X0_firstSuch_71 (Nat.le_of_ble_eq_true rfl) (Nat.le_of_ble_eq_true rfl) (k_X11_within (ev := ev)) ?_
      refine mv_if_eq (tgt := 43) dX0_firstSuch_25 (by decide) (fun c25 => ?_) (fun c25 => ?_)
      · have c25 : ¬ (a ≤ b.2.2.1 k ∧ b.2.2.1 k ≤ c) := fun z => (mv_b_0 _).mp c25 (mv_in_i z.1 z.2 (by omega))
        refine mv_iinc (v := nI (k + 1)) dX0_firstSuch_43 rfl (mv_inc k 1) (by decide) ?_
        refine mv_goto (tgt := 3) dX0_firstSuch_46 (by decide) ?_
        exact ih (k + 1) (by omega) (by omega) (by rw [← hq, q_fs_n (f := b.1 - k) (fun z => absurd z (by omega)) (by omega), Nat.sub_sub])
      · have c25 : a ≤ b.2.2.1 k ∧ b.2.2.1 k ≤ c := ⟨(nI_leI (by omega) (by omega)).mp (mv_b_ne c25).1, (nI_leI (by omega) (by omega)).mp (mv_b_ne c25).2⟩
        refine mv_aload_n dX0_firstSuch_28 rfl ?_
        refine mv_iload dX0_firstSuch_29 rfl ?_
        refine mv_iload_n dX0_firstSuch_31 rfl ?_
        refine mv_iload_n dX0_firstSuch_32 rfl ?_
        refine mv_iload_n dX0_firstSuch_33 rfl ?_
        refine mv_cV4 (ci := 0) dX0_firstSuch_34 lk_X0_firstSuch_104 HB rfl (Nat.le_of_ble_eq_true rfl) (Nat.le_of_ble_eq_true rfl) (k_X0_isSuch (ev := ev) HB H9 H10 (by omega) hb hp hm0 hz) ?_
        refine mv_if_eq (tgt := 43) dX0_firstSuch_37 (by decide) (fun c37 => ?_) (fun c37 => ?_)
        · have c37 : ¬ (q_su b p m z k) := (mv_b_0 _).mp c37
          refine mv_iinc (v := nI (k + 1)) dX0_firstSuch_43 rfl (mv_inc k 1) (by decide) ?_
          refine mv_goto (tgt := 3) dX0_firstSuch_46 (by decide) ?_
          exact ih (k + 1) (by omega) (by omega) (by rw [← hq, q_fs_n (f := b.1 - k) (fun z => absurd z (by omega)) (by omega), Nat.sub_sub])
        · have c37 : q_su b p m z k := Classical.byContradiction (fun z => c37 ((mv_b_0 _).mpr z))
          refine mv_iload dX0_firstSuch_40 rfl ?_
          exact mv_iret dX0_firstSuch_42 rfl rfl ⟨(congrArg (fun z => some (Value.int z)) (by rw [← hq]; exact (q_fs_y ⟨c25, c37⟩ (by omega)).symm)), rfl⟩
set_option maxRecDepth 100000 in
theorem k_X0_firstSuch {ev : mv_E} {h : mv_H} {b : t_B} {t : Nat} {p : Nat} {m : Nat} {z : Nat} {a : Nat} {c : Nat} {dd : Nat} (HB : h[7]? = some (.inr (0, [.ref 8, .ref 9, .ref 10, .int (nI b.1), .int (nI t), .int (nI b.2.1)]))) (H8 : h[8]? = some (.inl (0, 60, .inl (fun j => nI (b.2.2.1 j))))) (H9 : h[9]? = some (.inl (0, 60, .inl (fun j => nI (b.2.2.2.1 j))))) (H10 : h[10]? = some (.inl (0, 60, .inl (fun j => nI (b.2.2.2.2 j))))) (hb : q_BI dd b) (hp : p < 64) (hm0 : m < 8) (hz : z ≤ 9) (ha : a < 1000) (hc : c < 1000) : mv_K ev mX0_firstSuch [.ref 7, .int (nI p), .int (nI m), .int (nI z), .int (nI a), .int (nI c)] h (some (.int (q_fs b p m z a c b.1 0))) h := by
  refine mv_Kof ?_
  show mv_g ev mX0_firstSuch 0 [.ref 7, .int (nI p), .int (nI m), .int (nI z), .int (nI a), .int (nI c), .null] [] h _
  have n0 := hb.1
  refine mv_iconst (v := nI 0) dX0_firstSuch_0 (by decide) ?_
  refine mv_istore dX0_firstSuch_1 (by decide) ?_
  exact l_X0_firstSuch HB H8 H9 H10 hb hp hm0 hz ha hc (b.1 + 1) 0 (by omega) (by omega) rfl
set_option maxRecDepth 100000 in
theorem l_X0_howManySuch {ev : mv_E} {h : mv_H} {b : t_B} {t : Nat} {p : Nat} {m : Nat} {z : Nat} {d : Nat} {dd : Nat} (HB : h[7]? = some (.inr (0, [.ref 8, .ref 9, .ref 10, .int (nI b.1), .int (nI t), .int (nI b.2.1)]))) (H8 : h[8]? = some (.inl (0, 60, .inl (fun j => nI (b.2.2.1 j))))) (H9 : h[9]? = some (.inl (0, 60, .inl (fun j => nI (b.2.2.2.1 j))))) (H10 : h[10]? = some (.inl (0, 60, .inl (fun j => nI (b.2.2.2.2 j))))) (hb : q_BI dd b) (hp : p < 64) (hm0 : m < 8) (hz : z ≤ 9) (hd : d < 1000) : ∀ (fu : Nat) (v : Nat) (k : Nat), b.1 < k + fu → (k ≤ b.1) → (v = q_hs b p m z d k) → mv_g ev mX0_howManySuch 6 [.ref 7, .int (nI p), .int (nI m), .int (nI z), .int (nI d), .int (nI v), .int (nI k)] [] h (fun r g => r = some (.int (nI (q_hs b p m z d b.1))) ∧ g = h) := by
  intro fu
  induction fu with
  | zero => intro v k hm hk hv; exact absurd hm (by omega)
  | succ fu ih =>
    intro v k hm hk hv
    have n0 := hb.1
    have n1 := hb.2.2.1 k
    refine mv_iload dX0_howManySuch_6 rfl ?_
    refine mv_aload_n dX0_howManySuch_8 rfl ?_
    refine mv_getf (ci := 0) (f := 3) dX0_howManySuch_9 HB rfl (by decide) wd_151 rfl ?_
    refine mv_icmp_ge (tgt := 47) dX0_howManySuch_12 (by decide) (fun c12 => ?_) (fun c12 => ?_)
    · have c12 : b.1 ≤ k := (nI_leI (by omega) (by omega)).mp c12
      refine mv_iload dX0_howManySuch_47 rfl ?_
      exact mv_iret dX0_howManySuch_49 rfl rfl ⟨(congrArg (fun z => some (Value.int z)) (congrArg nI (by have e : k = b.1 := (by omega); subst e; exact hv))), rfl⟩
    · have c12 : ¬ (b.1 ≤ k) := fun z => c12 ((nI_leI (by omega) (by omega)).mpr z)
      refine mv_aload_n dX0_howManySuch_15 rfl ?_
      refine mv_iload dX0_howManySuch_16 rfl ?_
      refine mv_cV1 (ci := 0) dX0_howManySuch_18 lk_X0_howManySuch_68 HB rfl (Nat.le_of_ble_eq_true rfl) (Nat.le_of_ble_eq_true rfl) (k_X0_dayOf (ev := ev) HB H8 (by omega) (by omega)) ?_
      refine mv_iload dX0_howManySuch_21 rfl ?_
      refine mv_icmp_ne (tgt := 41) dX0_howManySuch_23 (by decide) (fun c23 => ?_) (fun c23 => ?_)
      · have c23 : ¬ (b.2.2.1 k = d) := fun z => c23 ((nI_eq (by omega) (by omega)).mpr z)
        refine mv_iinc (v := nI (k + 1)) dX0_howManySuch_41 rfl (mv_inc k 1) (by decide) ?_
        refine mv_goto (tgt := 6) dX0_howManySuch_44 (by decide) ?_
        exact ih v (k + 1) (by omega) (by omega) (by rw [q_hs_s, ← hv]; first | rw [if_pos (by omega)] | (rw [if_neg (by omega)]; rfl))
      · have c23 : b.2.2.1 k = d := (nI_eq (by omega) (by omega)).mp c23
        refine mv_aload_n dX0_howManySuch_26 rfl ?_
        refine mv_iload dX0_howManySuch_27 rfl ?_
        refine mv_iload_n dX0_howManySuch_29 rfl ?_
        refine mv_iload_n dX0_howManySuch_30 rfl ?_
        refine mv_iload_n dX0_howManySuch_31 rfl ?_
        refine mv_cV4 (ci := 0) dX0_howManySuch_32 lk_X0_howManySuch_104 HB rfl (Nat.le_of_ble_eq_true rfl) (Nat.le_of_ble_eq_true rfl) (k_X0_isSuch (ev := ev) HB H9 H10 (by omega) hb hp hm0 hz) ?_
        refine mv_if_eq (tgt := 41) dX0_howManySuch_35 (by decide) (fun c35 => ?_) (fun c35 => ?_)
        · have c35 : ¬ (q_su b p m z k) := (mv_b_0 _).mp c35
          refine mv_iinc (v := nI (k + 1)) dX0_howManySuch_41 rfl (mv_inc k 1) (by decide) ?_
          refine mv_goto (tgt := 6) dX0_howManySuch_44 (by decide) ?_
          exact ih v (k + 1) (by omega) (by omega) (by rw [q_hs_s, ← hv]; first | rw [if_pos (by omega)] | (rw [if_neg (by omega)]; rfl))
        · have c35 : q_su b p m z k := Classical.byContradiction (fun z => c35 ((mv_b_0 _).mpr z))
          refine mv_iinc (v := nI (v + 1)) dX0_howManySuch_38 rfl (mv_inc v 1) (by decide) ?_
          refine mv_iinc (v := nI (k + 1)) dX0_howManySuch_41 rfl (mv_inc k 1) (by decide) ?_
          refine mv_goto (tgt := 6) dX0_howManySuch_44 (by decide) ?_
          exact ih (v + 1) (k + 1) (by omega) (by omega) (by rw [q_hs_s, ← hv]; first | rw [if_pos (by omega)] | (rw [if_neg (by omega)]; rfl))
set_option maxRecDepth 100000 in
theorem k_X0_howManySuch {ev : mv_E} {h : mv_H} {b : t_B} {t : Nat} {p : Nat} {m : Nat} {z : Nat} {d : Nat} {dd : Nat} (HB : h[7]? = some (.inr (0, [.ref 8, .ref 9, .ref 10, .int (nI b.1), .int (nI t), .int (nI b.2.1)]))) (H8 : h[8]? = some (.inl (0, 60, .inl (fun j => nI (b.2.2.1 j))))) (H9 : h[9]? = some (.inl (0, 60, .inl (fun j => nI (b.2.2.2.1 j))))) (H10 : h[10]? = some (.inl (0, 60, .inl (fun j => nI (b.2.2.2.2 j))))) (hb : q_BI dd b) (hp : p < 64) (hm0 : m < 8) (hz : z ≤ 9) (hd : d < 1000) : mv_K ev mX0_howManySuch [.ref 7, .int (nI p), .int (nI m), .int (nI z), .int (nI d)] h (some (.int (nI (q_hs b p m z d b.1)))) h := by
  refine mv_Kof ?_
  show mv_g ev mX0_howManySuch 0 [.ref 7, .int (nI p), .int (nI m), .int (nI z), .int (nI d), .null, .null] [] h _
  have n0 := hb.1
  refine mv_iconst (v := nI 0) dX0_howManySuch_0 (by decide) ?_
  refine mv_istore dX0_howManySuch_1 (by decide) ?_
  refine mv_iconst (v := nI 0) dX0_howManySuch_3 (by decide) ?_
  refine mv_istore dX0_howManySuch_4 (by decide) ?_
  exact l_X0_howManySuch HB H8 H9 H10 hb hp hm0 hz hd (b.1 + 1) 0 0 (by omega) (by omega) rfl
set_option maxRecDepth 100000 in
theorem k_X5_isMoonOn {ev : mv_E} {h : mv_H} {lw : Nat → Int32} {ln : Nat → Nat} {d : Nat} (HL : h[1]? = some (.inr (5, [.ref 2]))) (HV : h[2]? = some (.inl (0, 8, .inl lw))) (hw : q_LW lw ln) (hd : d < 1000) : mv_K ev mX5_isMoonOn [.ref 1, .int (nI d)] h (some (.int (mv_b (t_mo (lw 5) (lw 6) (nI (d % 28)))))) h := by
  refine mv_Kof ?_
  show mv_g ev mX5_isMoonOn 0 [.ref 1, .int (nI d), .null, .null, .null] [] h _
  have hwv := hw.1
  obtain ⟨g0, g1, g2, g3, g3b, g4, g7, gmo⟩ := hw.2
  refine mv_aload_n dX5_isMoonOn_0 rfl ?_
  refine mv_iconst (v := nI 5) dX5_isMoonOn_1 (by decide) ?_
  refine mv_cV1 (ci := 5) dX5_isMoonOn_2 lk_X5_isMoonOn_40 HL rfl (Nat.le_of_ble_eq_true rfl) (Nat.le_of_ble_eq_true rfl) (k_X5_value (ev := ev) HL HV (by omega)) ?_
  refine mv_istore_n dX5_isMoonOn_5 (by decide) ?_
  refine mv_aload_n dX5_isMoonOn_6 rfl ?_
  refine mv_bipush (v := nI 6) dX5_isMoonOn_7 (by decide) ?_
  refine mv_cV1 (ci := 5) dX5_isMoonOn_9 lk_X5_isMoonOn_40 HL rfl (Nat.le_of_ble_eq_true rfl) (Nat.le_of_ble_eq_true rfl) (k_X5_value (ev := ev) HL HV (by omega)) ?_
  refine mv_istore_n dX5_isMoonOn_12 (by decide) ?_
  refine mv_iload_n dX5_isMoonOn_13 rfl ?_
  refine mv_iconst (v := (-1)) dX5_isMoonOn_14 (by decide) ?_
  refine mv_icmp_ne (tgt := 20) dX5_isMoonOn_15 (by decide) (fun c15 => ?_) (fun c15 => ?_)
  · skip
    have g5 : 0 ≤ lw 5 := gmo.elim (fun g => absurd g.1 c15) (fun ⟨a, c, ha, hc, e5, e6⟩ => by rw [e5]; exact Int32.not_lt.mp (nI_pos (by omega)))
    refine mv_iload_n dX5_isMoonOn_20 rfl ?_
    refine mv_bipush (v := nI 28) dX5_isMoonOn_21 (by decide) ?_
    refine mv_irem dX5_isMoonOn_23 (by decide) ?_
    refine mv_topI (y := nI (d % 28)) (pk_rem (by omega) (by omega) (by omega)) ?_
    refine mv_istore dX5_isMoonOn_24 (by decide) ?_
    refine mv_iload_n dX5_isMoonOn_26 rfl ?_
    refine mv_iload_n dX5_isMoonOn_27 rfl ?_
    refine mv_icmp_gt (tgt := 51) dX5_isMoonOn_28 (by decide) (fun c28 => ?_) (fun c28 => ?_)
    · skip
      refine mv_iload_n dX5_isMoonOn_51 rfl ?_
      refine mv_iload dX5_isMoonOn_52 rfl ?_
      refine mv_icmp_le (tgt := 63) dX5_isMoonOn_54 (by decide) (fun c54 => ?_) (fun c54 => ?_)
      · skip
        refine mv_iconst (v := nI 1) dX5_isMoonOn_63 (by decide) ?_
        refine mv_goto (tgt := 68) dX5_isMoonOn_64 (by decide) ?_
        exact mv_iret dX5_isMoonOn_68 rfl rfl ⟨(congrArg (fun z => some (Value.int z)) (by first | exact (mv_b_t (by simp only [t_mo, Int32.le_iff_toInt_le, Int32.lt_iff_toInt_lt, show (0 : Int32).toInt = 0 from by decide] at *; omega)).symm | exact (mv_b_f (by simp only [t_mo, Int32.le_iff_toInt_le, Int32.lt_iff_toInt_lt, show (0 : Int32).toInt = 0 from by decide] at *; omega)).symm)), rfl⟩
      · skip
        refine mv_iload dX5_isMoonOn_57 rfl ?_
        refine mv_iload_n dX5_isMoonOn_59 rfl ?_
        refine mv_icmp_gt (tgt := 67) dX5_isMoonOn_60 (by decide) (fun c60 => ?_) (fun c60 => ?_)
        · skip
          refine mv_iconst (v := nI 0) dX5_isMoonOn_67 (by decide) ?_
          exact mv_iret dX5_isMoonOn_68 rfl rfl ⟨(congrArg (fun z => some (Value.int z)) (by first | exact (mv_b_t (by simp only [t_mo, Int32.le_iff_toInt_le, Int32.lt_iff_toInt_lt, show (0 : Int32).toInt = 0 from by decide] at *; omega)).symm | exact (mv_b_f (by simp only [t_mo, Int32.le_iff_toInt_le, Int32.lt_iff_toInt_lt, show (0 : Int32).toInt = 0 from by decide] at *; omega)).symm)), rfl⟩
        · skip
          refine mv_iconst (v := nI 1) dX5_isMoonOn_63 (by decide) ?_
          refine mv_goto (tgt := 68) dX5_isMoonOn_64 (by decide) ?_
          exact mv_iret dX5_isMoonOn_68 rfl rfl ⟨(congrArg (fun z => some (Value.int z)) (by first | exact (mv_b_t (by simp only [t_mo, Int32.le_iff_toInt_le, Int32.lt_iff_toInt_lt, show (0 : Int32).toInt = 0 from by decide] at *; omega)).symm | exact (mv_b_f (by simp only [t_mo, Int32.le_iff_toInt_le, Int32.lt_iff_toInt_lt, show (0 : Int32).toInt = 0 from by decide] at *; omega)).symm)), rfl⟩
    · skip
      refine mv_iload_n dX5_isMoonOn_31 rfl ?_
      refine mv_iload dX5_isMoonOn_32 rfl ?_
      refine mv_icmp_gt (tgt := 47) dX5_isMoonOn_34 (by decide) (fun c34 => ?_) (fun c34 => ?_)
      · skip
        refine mv_iconst (v := nI 0) dX5_isMoonOn_47 (by decide) ?_
        refine mv_goto (tgt := 68) dX5_isMoonOn_48 (by decide) ?_
        exact mv_iret dX5_isMoonOn_68 rfl rfl ⟨(congrArg (fun z => some (Value.int z)) (by first | exact (mv_b_t (by simp only [t_mo, Int32.le_iff_toInt_le, Int32.lt_iff_toInt_lt, show (0 : Int32).toInt = 0 from by decide] at *; omega)).symm | exact (mv_b_f (by simp only [t_mo, Int32.le_iff_toInt_le, Int32.lt_iff_toInt_lt, show (0 : Int32).toInt = 0 from by decide] at *; omega)).symm)), rfl⟩
      · skip
        refine mv_iload dX5_isMoonOn_37 rfl ?_
        refine mv_iload_n dX5_isMoonOn_39 rfl ?_
        refine mv_icmp_gt (tgt := 47) dX5_isMoonOn_40 (by decide) (fun c40 => ?_) (fun c40 => ?_)
        · skip
          refine mv_iconst (v := nI 0) dX5_isMoonOn_47 (by decide) ?_
          refine mv_goto (tgt := 68) dX5_isMoonOn_48 (by decide) ?_
          exact mv_iret dX5_isMoonOn_68 rfl rfl ⟨(congrArg (fun z => some (Value.int z)) (by first | exact (mv_b_t (by simp only [t_mo, Int32.le_iff_toInt_le, Int32.lt_iff_toInt_lt, show (0 : Int32).toInt = 0 from by decide] at *; omega)).symm | exact (mv_b_f (by simp only [t_mo, Int32.le_iff_toInt_le, Int32.lt_iff_toInt_lt, show (0 : Int32).toInt = 0 from by decide] at *; omega)).symm)), rfl⟩
        · skip
          refine mv_iconst (v := nI 1) dX5_isMoonOn_43 (by decide) ?_
          refine mv_goto (tgt := 68) dX5_isMoonOn_44 (by decide) ?_
          exact mv_iret dX5_isMoonOn_68 rfl rfl ⟨(congrArg (fun z => some (Value.int z)) (by first | exact (mv_b_t (by simp only [t_mo, Int32.le_iff_toInt_le, Int32.lt_iff_toInt_lt, show (0 : Int32).toInt = 0 from by decide] at *; omega)).symm | exact (mv_b_f (by simp only [t_mo, Int32.le_iff_toInt_le, Int32.lt_iff_toInt_lt, show (0 : Int32).toInt = 0 from by decide] at *; omega)).symm)), rfl⟩
  · skip
    refine mv_iconst (v := nI 0) dX5_isMoonOn_18 (by decide) ?_
    exact mv_iret dX5_isMoonOn_19 rfl rfl ⟨(congrArg (fun z => some (Value.int z)) (mv_b_f (by rw [c15]; intro z; exact absurd z.1 (by decide))).symm), rfl⟩
set_option maxRecDepth 100000 in
theorem k_X3_chanceOfMain {ev : mv_E} {h : mv_H} {lw : Nat → Int32} {ln : Nat → Nat} {p : Nat} {m : Nat} {s : Nat} (HF : h[21]? = some (.inr (3, [.ref 1, .ref 7]))) (HL : h[1]? = some (.inr (5, [.ref 2]))) (HV : h[2]? = some (.inl (0, 8, .inl lw))) (hw : q_LW lw ln) (hp : p < 64) (hm0 : m < 8) (hs : s ≤ 1000000) : mv_K ev mX3_chanceOfMain [.ref 21, .int (nI p), .int (nI m), .int (nI s)] h (some (.long (lN (q_ma (ln 0) p m s)))) h := by
  refine mv_Kof ?_
  show mv_g ev mX3_chanceOfMain 0 [.ref 21, .int (nI p), .int (nI m), .int (nI s), .null, .null] [] h _
  have hwv := hw.1
  obtain ⟨g0, g1, g2, g3, g3b, g4, g7, gmo⟩ := hw.2
  have b0 : ln 0 * 1000 ≤ 999000 := (by omega)
  have b1 : ln 0 * 1000 * t_near p m ≤ 999000 * 64 := Nat.mul_le_mul b0 (t_near_le p m)
  have b2 : ln 0 * 1000 * t_near p m / 64 * s ≤ 999000 * 1000000 := Nat.mul_le_mul (by omega) hs
  refine mv_aload_n dX3_chanceOfMain_0 rfl ?_
  refine mv_getf (ci := 3) (f := 0) dX3_chanceOfMain_1 HF rfl (by decide) wd_191 rfl ?_
  refine mv_iconst (v := nI 0) dX3_chanceOfMain_4 (by decide) ?_
  refine mv_cV1 (ci := 5) dX3_chanceOfMain_5 lk_X3_chanceOfMain_40 HL rfl (Nat.le_of_ble_eq_true rfl) (Nat.le_of_ble_eq_true rfl) (k_X5_value (ev := ev) HL HV (by omega)) ?_
  refine mv_topI (y := nI (ln 0)) (hwv 0 (by decide) (by decide)) ?_
  refine mv_sipush (v := nI 1000) dX3_chanceOfMain_8 (by decide) ?_
  refine mv_imul dX3_chanceOfMain_11 ?_
  refine mv_topI (y := nI ((ln 0) * 1000)) (pk_mul _ _) ?_
  refine mv_iload_n dX3_chanceOfMain_12 rfl ?_
  refine mv_iload_n dX3_chanceOfMain_13 rfl ?_
  refine mv_cSN2 dX3_chanceOfMain_14 lk_X3_chanceOfMain_47 (Nat.le_of_ble_eq_true rfl) (Nat.le_of_ble_eq_true rfl) (k_X11_howManyNear (ev := ev) (by omega) (by omega)) ?_
  refine mv_imul dX3_chanceOfMain_17 ?_
  refine mv_topI (y := nI (((ln 0) * 1000) * (t_near p m))) (pk_mul _ _) ?_
  refine mv_bipush (v := nI 64) dX3_chanceOfMain_18 (by decide) ?_
  refine mv_idiv dX3_chanceOfMain_20 (by decide) ?_
  refine mv_topI (y := nI ((((ln 0) * 1000) * (t_near p m)) / 64)) (pk_div (by omega) (by omega) (by omega)) ?_
  refine mv_i2l dX3_chanceOfMain_21 ?_
  refine mv_topL (y := lN ((((ln 0) * 1000) * (t_near p m)) / 64)) (nI_l (by omega)) ?_
  refine mv_lstore dX3_chanceOfMain_22 (by decide) ?_
  refine mv_lload dX3_chanceOfMain_24 rfl ?_
  refine mv_iload_n dX3_chanceOfMain_26 rfl ?_
  refine mv_i2l dX3_chanceOfMain_27 ?_
  refine mv_topL (y := lN s) (nI_l (by omega)) ?_
  refine mv_lmul dX3_chanceOfMain_28 ?_
  refine mv_topL (y := lN (((((ln 0) * 1000) * (t_near p m)) / 64) * s)) (lN_mul _ _) ?_
  refine mv_ldc2 (v := lN 1000000) dX3_chanceOfMain_29 wd_742 ?_
  refine mv_ldiv dX3_chanceOfMain_32 (by decide) ?_
  refine mv_topL (y := lN ((((((ln 0) * 1000) * (t_near p m)) / 64) * s) / 1000000)) (lN_div (by omega) (by omega) (by omega)) ?_
  exact mv_lret dX3_chanceOfMain_33 rfl ⟨rfl, rfl⟩
set_option maxRecDepth 100000 in
theorem k_X3_chanceBehind {ev : mv_E} {h : mv_H} {b : t_B} {t : Nat} {lw : Nat → Int32} {ln : Nat → Nat} {k : Nat} {e : Nat} {p : Nat} {m : Nat} {s : Nat} {dd : Nat} (HF : h[21]? = some (.inr (3, [.ref 1, .ref 7]))) (HL : h[1]? = some (.inr (5, [.ref 2]))) (HV : h[2]? = some (.inl (0, 8, .inl lw))) (HB : h[7]? = some (.inr (0, [.ref 8, .ref 9, .ref 10, .int (nI b.1), .int (nI t), .int (nI b.2.1)]))) (H8 : h[8]? = some (.inl (0, 60, .inl (fun j => nI (b.2.2.1 j))))) (H9 : h[9]? = some (.inl (0, 60, .inl (fun j => nI (b.2.2.2.1 j))))) (H10 : h[10]? = some (.inl (0, 60, .inl (fun j => nI (b.2.2.2.2 j))))) (hw : q_LW lw ln) (hb : q_BI dd b) (hk : k < b.1) (he : 1 ≤ e) (he2 : e < 1000) (hp : p < 64) (hm0 : m < 8) (hs : s ≤ 1000000) : mv_K ev mX3_chanceBehind [.ref 21, .int (nI k), .int (nI e), .int (nI p), .int (nI m), .int (nI s)] h (some (.long (lN (q_af (ln 2) (ln 4) b k e p m s)))) h := by
  refine mv_Kof ?_
  show mv_g ev mX3_chanceBehind 0 [.ref 21, .int (nI k), .int (nI e), .int (nI p), .int (nI m), .int (nI s), .null, .null, .null, .null, .null, .null, .null] [] h _
  have hwv := hw.1
  obtain ⟨g0, g1, g2, g3, g3b, g4, g7, gmo⟩ := hw.2
  have n0 := hb.1
  have n1 := hb.2.2.2.1 k
  have n2 := hb.2.2.2.2.1 k
  have n3 : ln 2 * b.2.2.2.2 k ≤ 999 * 9 := Nat.mul_le_mul g2 n2
  have n4 : ln 2 * b.2.2.2.2 k / e ≤ 999 * 9 := Nat.le_trans (Nat.div_le_self _ _) n3
  have z0 : 1 ≤ t_near (b.2.2.2.1 k) (ln 4) := t_near_pos n1
  have z1 := t_near_le (b.2.2.2.1 k) (ln 4)
  have z2 := t_nearB_le (b.2.2.2.1 k) (ln 4) p m
  have n5 : min 1000 (ln 2 * b.2.2.2.2 k / e) * 1000 * t_nearB (b.2.2.2.1 k) (ln 4) p m ≤ 1000000 * 64 := Nat.mul_le_mul (by omega) z2
  have n6 : min 1000 (ln 2 * b.2.2.2.2 k / e) * 1000 * t_nearB (b.2.2.2.1 k) (ln 4) p m / t_near (b.2.2.2.1 k) (ln 4) ≤ 1000000 * 64 := Nat.le_trans (Nat.div_le_self _ _) n5
  have n7 : min 1000 (ln 2 * b.2.2.2.2 k / e) * 1000 * t_nearB (b.2.2.2.1 k) (ln 4) p m / t_near (b.2.2.2.1 k) (ln 4) * s ≤ 1000000 * 64 * 1000000 := Nat.mul_le_mul n6 hs
  refine mv_aload_n dX3_chanceBehind_0 rfl ?_
  refine mv_getf (ci := 3) (f := 1) dX3_chanceBehind_1 HF rfl (by decide) wd_192 rfl ?_
  refine mv_iload_n dX3_chanceBehind_4 rfl ?_
  refine mv_cV1 (ci := 0) dX3_chanceBehind_5 lk_X3_chanceBehind_51 HB rfl (Nat.le_of_ble_eq_true rfl) (Nat.le_of_ble_eq_true rfl) (k_X0_placeOf (ev := ev) HB H9 (by omega) (by omega)) ?_
  refine mv_istore dX3_chanceBehind_8 (by decide) ?_
  refine mv_aload_n dX3_chanceBehind_10 rfl ?_
  refine mv_getf (ci := 3) (f := 0) dX3_chanceBehind_11 HF rfl (by decide) wd_191 rfl ?_
  refine mv_iconst (v := nI 4) dX3_chanceBehind_14 (by decide) ?_
  refine mv_cV1 (ci := 5) dX3_chanceBehind_15 lk_X3_chanceBehind_40 HL rfl (Nat.le_of_ble_eq_true rfl) (Nat.le_of_ble_eq_true rfl) (k_X5_value (ev := ev) HL HV (by omega)) ?_
  refine mv_topI (y := nI (ln 4)) (hwv 4 (by decide) (by decide)) ?_
  refine mv_istore dX3_chanceBehind_18 (by decide) ?_
  refine mv_iload dX3_chanceBehind_20 rfl ?_
  refine mv_iload dX3_chanceBehind_22 rfl ?_
  refine mv_cSN2 dX3_chanceBehind_24 lk_X3_chanceBehind_47 (Nat.le_of_ble_eq_true rfl) (Nat.le_of_ble_eq_true rfl) (k_X11_howManyNear (ev := ev) (by omega) (by omega)) ?_
  refine mv_istore dX3_chanceBehind_27 (by decide) ?_
  refine mv_iload_n dX3_chanceBehind_29 rfl ?_
  refine mv_iconst (v := nI 1) dX3_chanceBehind_30 (by decide) ?_
  refine mv_icmp_lt (tgt := 40) dX3_chanceBehind_31 (by decide) (fun z => absurd z ((fun z => absurd ((nI_ltI (by omega) (by omega)).mp z) (by omega)))) (fun c31 => ?_)
  refine mv_iload dX3_chanceBehind_34 rfl ?_
  refine mv_iconst (v := nI 1) dX3_chanceBehind_36 (by decide) ?_
  refine mv_icmp_ge (tgt := 42) dX3_chanceBehind_37 (by decide) (fun c37 => ?_) (fun z => absurd (((nI_leI (by omega) (by omega)).mpr z0)) z)
  refine mv_sipush (v := nI 1000) dX3_chanceBehind_42 (by decide) ?_
  refine mv_aload_n dX3_chanceBehind_45 rfl ?_
  refine mv_getf (ci := 3) (f := 0) dX3_chanceBehind_46 HF rfl (by decide) wd_191 rfl ?_
  refine mv_iconst (v := nI 2) dX3_chanceBehind_49 (by decide) ?_
  refine mv_cV1 (ci := 5) dX3_chanceBehind_50 lk_X3_chanceBehind_40 HL rfl (Nat.le_of_ble_eq_true rfl) (Nat.le_of_ble_eq_true rfl) (k_X5_value (ev := ev) HL HV (by omega)) ?_
  refine mv_topI (y := nI (ln 2)) (hwv 2 (by decide) (by decide)) ?_
  refine mv_aload_n dX3_chanceBehind_53 rfl ?_
  refine mv_getf (ci := 3) (f := 1) dX3_chanceBehind_54 HF rfl (by decide) wd_192 rfl ?_
  refine mv_iload_n dX3_chanceBehind_57 rfl ?_
  refine mv_cV1 (ci := 0) dX3_chanceBehind_58 lk_X3_chanceBehind_54 HB rfl (Nat.le_of_ble_eq_true rfl) (Nat.le_of_ble_eq_true rfl) (k_X0_sizeOf (ev := ev) HB H10 (by omega) (by omega)) ?_
  refine mv_imul dX3_chanceBehind_61 ?_
  refine mv_topI (y := nI ((ln 2) * (b.2.2.2.2 k))) (pk_mul _ _) ?_
  refine mv_iload_n dX3_chanceBehind_62 rfl ?_
  refine mv_idiv dX3_chanceBehind_63 (by intro z; have z2 := (nI_eq (b := 0) (by omega) (by omega)).mp z; omega) ?_
  refine mv_topI (y := nI (((ln 2) * (b.2.2.2.2 k)) / e)) (pk_div (by omega) (by omega) (by omega)) ?_
  refine mv_mmin dX3_chanceBehind_64 wd_757 (by decide) (Nat.le_of_ble_eq_true rfl) ?_
  refine mv_topI (y := nI (min 1000 (((ln 2) * (b.2.2.2.2 k)) / e))) (mv_nmin (by omega) (by omega)) ?_
  refine mv_i2l dX3_chanceBehind_67 ?_
  refine mv_topL (y := lN (min 1000 (((ln 2) * (b.2.2.2.2 k)) / e))) (nI_l (by omega)) ?_
  refine mv_lstore dX3_chanceBehind_68 (by decide) ?_
  refine mv_lload dX3_chanceBehind_70 rfl ?_
  refine mv_ldc2 (v := lN 1000) dX3_chanceBehind_72 wd_758 ?_
  refine mv_lmul dX3_chanceBehind_75 ?_
  refine mv_topL (y := lN ((min 1000 (((ln 2) * (b.2.2.2.2 k)) / e)) * 1000)) (lN_mul _ _) ?_
  refine mv_iload dX3_chanceBehind_76 rfl ?_
  refine mv_iload dX3_chanceBehind_78 rfl ?_
  refine mv_iload_n dX3_chanceBehind_80 rfl ?_
  refine mv_iload dX3_chanceBehind_81 rfl ?_
  refine mv_cSN4 dX3_chanceBehind_83 lk_X3_chanceBehind_64 (Nat.le_of_ble_eq_true rfl) (Nat.le_of_ble_eq_true rfl) (k_X11_howManyNearBoth (ev := ev) (by omega) (by omega) (by omega) (by omega)) ?_
  refine mv_i2l dX3_chanceBehind_86 ?_
  refine mv_topL (y := lN (t_nearB (b.2.2.2.1 k) (ln 4) p m)) (nI_l (by omega)) ?_
  refine mv_lmul dX3_chanceBehind_87 ?_
  refine mv_topL (y := lN (((min 1000 (((ln 2) * (b.2.2.2.2 k)) / e)) * 1000) * (t_nearB (b.2.2.2.1 k) (ln 4) p m))) (lN_mul _ _) ?_
  refine mv_iload dX3_chanceBehind_88 rfl ?_
  refine mv_i2l dX3_chanceBehind_90 ?_
  refine mv_topL (y := lN (t_near (b.2.2.2.1 k) (ln 4))) (nI_l (by omega)) ?_
  refine mv_ldiv dX3_chanceBehind_91 (by intro z; have z2 := (lN_eqB (b := 0) (by omega) (by omega)).mp z; omega) ?_
  refine mv_topL (y := lN ((((min 1000 (((ln 2) * (b.2.2.2.2 k)) / e)) * 1000) * (t_nearB (b.2.2.2.1 k) (ln 4) p m)) / (t_near (b.2.2.2.1 k) (ln 4)))) (lN_div (by omega) (by omega) (by omega)) ?_
  refine mv_lstore dX3_chanceBehind_92 (by decide) ?_
  refine mv_lload dX3_chanceBehind_94 rfl ?_
  refine mv_iload dX3_chanceBehind_96 rfl ?_
  refine mv_i2l dX3_chanceBehind_98 ?_
  refine mv_topL (y := lN s) (nI_l (by omega)) ?_
  refine mv_lmul dX3_chanceBehind_99 ?_
  refine mv_topL (y := lN (((((min 1000 (((ln 2) * (b.2.2.2.2 k)) / e)) * 1000) * (t_nearB (b.2.2.2.1 k) (ln 4) p m)) / (t_near (b.2.2.2.1 k) (ln 4))) * s)) (lN_mul _ _) ?_
  refine mv_ldc2 (v := lN 1000000) dX3_chanceBehind_100 wd_742 ?_
  refine mv_ldiv dX3_chanceBehind_103 (by decide) ?_
  refine mv_topL (y := lN ((((((min 1000 (((ln 2) * (b.2.2.2.2 k)) / e)) * 1000) * (t_nearB (b.2.2.2.1 k) (ln 4) p m)) / (t_near (b.2.2.2.1 k) (ln 4))) * s) / 1000000)) (lN_div (by omega) (by omega) (by omega)) ?_
  exact mv_lret dX3_chanceBehind_104 rfl ⟨rfl, rfl⟩
set_option maxRecDepth 100000 in
theorem l_X3_ofShakesI {ev : mv_E} {h : mv_H} {b : t_B} {t : Nat} {lw : Nat → Int32} {ln : Nat → Nat} {d : Int32} {p : Nat} {m : Nat} {z : Nat} {a : Nat} {e : Nat} {c : Nat} {dd : Nat} (HF : h[21]? = some (.inr (3, [.ref 1, .ref 7]))) (HL : h[1]? = some (.inr (5, [.ref 2]))) (HV : h[2]? = some (.inl (0, 8, .inl lw))) (HB : h[7]? = some (.inr (0, [.ref 8, .ref 9, .ref 10, .int (nI b.1), .int (nI t), .int (nI b.2.1)]))) (H8 : h[8]? = some (.inl (0, 60, .inl (fun j => nI (b.2.2.1 j))))) (H9 : h[9]? = some (.inl (0, 60, .inl (fun j => nI (b.2.2.2.1 j))))) (H10 : h[10]? = some (.inl (0, 60, .inl (fun j => nI (b.2.2.2.2 j))))) (hw : q_LW lw ln) (hb : q_BI dd b) (hp : p < 64) (hm0 : m < 8) (hz1 : 1 ≤ z) (hz9 : z ≤ 9) (he : e ≤ 399) (hae : a ≤ e) (hc : c ≤ b.1) (hcut : ∀ k, k < b.1 → (nI (b.2.2.1 k) ≤ d ↔ k < c)) (hca : ∀ k, k < c → b.2.2.1 k < a) : ∀ (fu : Nat) (day : Nat) (v : Nat) (w : Nat) (k : Nat), c < k + fu → (a ≤ day) → (day ≤ e) → (v ≤ 1000000) → (q_oo (ln 0) (ln 2) (ln 3) (ln 4) b p m (t_gr (ln 1) (z - 1)) c (e + 1 - day) day v = q_oo (ln 0) (ln 2) (ln 3) (ln 4) b p m (t_gr (ln 1) (z - 1)) c (e + 1 - a) a 1000000) → (k ≤ c) → (w ≤ 1000000) → (q_oi (ln 2) (ln 3) (ln 4) b p m (t_gr (ln 1) (z - 1)) day (c - k) k w = q_oi (ln 2) (ln 3) (ln 4) b p m (t_gr (ln 1) (z - 1)) day c 0 (q_le v (q_ma (ln 0) p m (t_gr (ln 1) (z - 1))))) → (mv_g ev mX3_ofShakes 146 [.ref 21, .int d, .int (nI p), .int (nI m), .int (nI z), .int (nI a), .int (nI e), .int (nI (t_gr (ln 1) (z - 1))), .long (lN (1000000 - q_ma (ln 0) p m (t_gr (ln 1) (z - 1)))), .null, .long (lN (q_oi (ln 2) (ln 3) (ln 4) b p m (t_gr (ln 1) (z - 1)) day c 0 (q_le v (q_ma (ln 0) p m (t_gr (ln 1) (z - 1)))))), .null, .int (nI day), .null, .null] [] h (fun r g => r = some (.int (nI (q_od ln b p m z a e c))) ∧ g = h)) → mv_g ev mX3_ofShakes 63 [.ref 21, .int d, .int (nI p), .int (nI m), .int (nI z), .int (nI a), .int (nI e), .int (nI (t_gr (ln 1) (z - 1))), .long (lN (1000000 - q_ma (ln 0) p m (t_gr (ln 1) (z - 1)))), .null, .long (lN w), .null, .int (nI day), .int (nI k), .null] [] h (fun r g => r = some (.int (nI (q_od ln b p m z a e c))) ∧ g = h) := by
  intro fu
  induction fu with
  | zero => intro day v w k hm hday hday2 hv hq hk hw1 hq2 kx; exact absurd hm (by omega)
  | succ fu ih =>
    intro day v w k hm hday hday2 hv hq hk hw1 hq2 kx
    have hwv := hw.1
    obtain ⟨g0, g1, g2, g3, g3b, g4, g7, gmo⟩ := hw.2
    have n0 := hb.1
    have s1 := t_gr_le g1 (z - 1)
    have s2 := q_ma_le (p := p) (m := m) g0 s1
    have n1 := hb.2.2.1 k
    have m1 := hcut k
    refine mv_iload dX3_ofShakes_63 rfl ?_
    refine mv_aload_n dX3_ofShakes_65 rfl ?_
    refine mv_getf (ci := 3) (f := 1) dX3_ofShakes_66 HF rfl (by decide) wd_192 rfl ?_
    refine mv_cV0 (ci := 0) dX3_ofShakes_69 lk_X3_ofShakes_31 HB rfl (Nat.le_of_ble_eq_true rfl) (Nat.le_of_ble_eq_true rfl) (k_X0_size (ev := ev) HB) ?_
    refine mv_icmp_ge (tgt := 146) dX3_ofShakes_72 (by decide) (fun c72 => ?_) (fun c72 => ?_)
    · have c72 : b.1 ≤ k := (nI_leI (by omega) (by omega)).mp c72
      have ek : k = c := (by omega)
      have e9 : w = q_oi (ln 2) (ln 3) (ln 4) b p m (t_gr (ln 1) (z - 1)) day c 0 (q_le v (q_ma (ln 0) p m (t_gr (ln 1) (z - 1)))) := (by rw [← hq2, ek, Nat.sub_self]; rfl)
      rw [e9]
      refine mv_sub (lv' := [.ref 21, .int d, .int (nI p), .int (nI m), .int (nI z), .int (nI a), .int (nI e), .int (nI (t_gr (ln 1) (z - 1))), .long (lN (1000000 - q_ma (ln 0) p m (t_gr (ln 1) (z - 1)))), .null, .long (lN (q_oi (ln 2) (ln 3) (ln 4) b p m (t_gr (ln 1) (z - 1)) day c 0 (q_le v (q_ma (ln 0) p m (t_gr (ln 1) (z - 1)))))), .null, .int (nI day), .null, .null]) ⟨Or.inr rfl, Or.inr rfl, Or.inr rfl, Or.inr rfl, Or.inr rfl, Or.inr rfl, Or.inr rfl, Or.inr rfl, Or.inr rfl, Or.inl rfl, Or.inr rfl, Or.inl rfl, Or.inr rfl, Or.inl rfl, Or.inl rfl, trivial⟩ ?_
      exact kx
    · have c72 : ¬ (b.1 ≤ k) := fun z => c72 ((nI_leI (by omega) (by omega)).mpr z)
      refine mv_aload_n dX3_ofShakes_75 rfl ?_
      refine mv_getf (ci := 3) (f := 1) dX3_ofShakes_76 HF rfl (by decide) wd_192 rfl ?_
      refine mv_iload dX3_ofShakes_79 rfl ?_
      refine mv_cV1 (ci := 0) dX3_ofShakes_81 lk_X3_ofShakes_37 HB rfl (Nat.le_of_ble_eq_true rfl) (Nat.le_of_ble_eq_true rfl) (k_X0_dayOf (ev := ev) HB H8 (by omega) n0) ?_
      refine mv_iload_n dX3_ofShakes_84 rfl ?_
      refine mv_icmp_gt (tgt := 146) dX3_ofShakes_85 (by decide) (fun c85 => ?_) (fun c85 => ?_)
      · have c85 : ¬ (k < c) := fun z => absurd ((hcut k (by omega)).mpr z) (Int32.not_le.mpr c85)
        have ek : k = c := (by omega)
        have e9 : w = q_oi (ln 2) (ln 3) (ln 4) b p m (t_gr (ln 1) (z - 1)) day c 0 (q_le v (q_ma (ln 0) p m (t_gr (ln 1) (z - 1)))) := (by rw [← hq2, ek, Nat.sub_self]; rfl)
        rw [e9]
        refine mv_sub (lv' := [.ref 21, .int d, .int (nI p), .int (nI m), .int (nI z), .int (nI a), .int (nI e), .int (nI (t_gr (ln 1) (z - 1))), .long (lN (1000000 - q_ma (ln 0) p m (t_gr (ln 1) (z - 1)))), .null, .long (lN (q_oi (ln 2) (ln 3) (ln 4) b p m (t_gr (ln 1) (z - 1)) day c 0 (q_le v (q_ma (ln 0) p m (t_gr (ln 1) (z - 1)))))), .null, .int (nI day), .null, .null]) ⟨Or.inr rfl, Or.inr rfl, Or.inr rfl, Or.inr rfl, Or.inr rfl, Or.inr rfl, Or.inr rfl, Or.inr rfl, Or.inr rfl, Or.inl rfl, Or.inr rfl, Or.inl rfl, Or.inr rfl, Or.inl rfl, Or.inl rfl, trivial⟩ ?_
        exact kx
      · have c85 : k < c := (hcut k (by omega)).mp (Int32.not_lt.mp c85)
        have m2 := hca k c85
        have s3 := q_af_le (A := ln 2) (N := ln 4) (b := b) (k := k) (late := day - b.2.2.1 k) (p := p) (m := m) s1
        have w2 : w * (1000000 - q_af (ln 2) (ln 4) b k (day - b.2.2.1 k) p m (t_gr (ln 1) (z - 1))) ≤ 1000000 * 1000000 := Nat.mul_le_mul hw1 (Nat.sub_le _ _)
        refine mv_iload dX3_ofShakes_88 rfl ?_
        refine mv_aload_n dX3_ofShakes_90 rfl ?_
        refine mv_getf (ci := 3) (f := 1) dX3_ofShakes_91 HF rfl (by decide) wd_192 rfl ?_
        refine mv_iload dX3_ofShakes_94 rfl ?_
        refine mv_cV1 (ci := 0) dX3_ofShakes_96 lk_X3_ofShakes_37 HB rfl (Nat.le_of_ble_eq_true rfl) (Nat.le_of_ble_eq_true rfl) (k_X0_dayOf (ev := ev) HB H8 (by omega) n0) ?_
        refine mv_isub dX3_ofShakes_99 ?_
        refine mv_topI (y := nI (day - (b.2.2.1 k))) (pk_sub (by omega)) ?_
        refine mv_istore dX3_ofShakes_100 (by decide) ?_
        refine mv_iload dX3_ofShakes_102 rfl ?_
        refine mv_aload_n dX3_ofShakes_104 rfl ?_
        refine mv_getf (ci := 3) (f := 0) dX3_ofShakes_105 HF rfl (by decide) wd_191 rfl ?_
        refine mv_iconst (v := nI 3) dX3_ofShakes_108 (by decide) ?_
        refine mv_cV1 (ci := 5) dX3_ofShakes_109 lk_X3_ofShakes_40 HL rfl (Nat.le_of_ble_eq_true rfl) (Nat.le_of_ble_eq_true rfl) (k_X5_value (ev := ev) HL HV (by omega)) ?_
        refine mv_topI (y := nI (ln 3)) (hwv 3 (by decide) (by decide)) ?_
        refine mv_icmp_gt (tgt := 140) dX3_ofShakes_112 (by decide) (fun c112 => ?_) (fun c112 => ?_)
        · have c112 : ln 3 < day - (b.2.2.1 k) := (nI_ltI (by omega) (by omega)).mp c112
          refine mv_iinc (v := nI (k + 1)) dX3_ofShakes_140 rfl (mv_inc k 1) (by decide) ?_
          refine mv_goto (tgt := 63) dX3_ofShakes_143 (by decide) ?_
          refine mv_sub (lv' := [.ref 21, .int d, .int (nI p), .int (nI m), .int (nI z), .int (nI a), .int (nI e), .int (nI (t_gr (ln 1) (z - 1))), .long (lN (1000000 - q_ma (ln 0) p m (t_gr (ln 1) (z - 1)))), .null, .long (lN w), .null, .int (nI day), .int (nI (k + 1)), .null]) ⟨Or.inr rfl, Or.inr rfl, Or.inr rfl, Or.inr rfl, Or.inr rfl, Or.inr rfl, Or.inr rfl, Or.inr rfl, Or.inr rfl, Or.inl rfl, Or.inr rfl, Or.inl rfl, Or.inr rfl, Or.inr rfl, Or.inl rfl, trivial⟩ ?_
          exact ih day v w (k + 1) (by omega) hday hday2 hv hq (by omega) hw1 (by rw [← hq2, q_oi_s (f := c - k) (by omega), if_neg (by omega), Nat.sub_sub]) kx
        · have c112 : ¬ (ln 3 < day - (b.2.2.1 k)) := fun z => c112 ((nI_ltI (by omega) (by omega)).mpr z)
          refine mv_lload dX3_ofShakes_115 rfl ?_
          refine mv_ldc2 (v := lN 1000000) dX3_ofShakes_117 wd_742 ?_
          refine mv_aload_n dX3_ofShakes_120 rfl ?_
          refine mv_iload dX3_ofShakes_121 rfl ?_
          refine mv_iload dX3_ofShakes_123 rfl ?_
          refine mv_iload_n dX3_ofShakes_125 rfl ?_
          refine mv_iload_n dX3_ofShakes_126 rfl ?_
          refine mv_iload dX3_ofShakes_127 rfl ?_
          refine mv_cV5 (ci := 3) dX3_ofShakes_129 lk_X3_ofShakes_43 HF rfl (Nat.le_of_ble_eq_true rfl) (Nat.le_of_ble_eq_true rfl) (k_X3_chanceBehind (ev := ev) HF HL HV HB H8 H9 H10 hw hb (by omega) (by omega) (by omega) hp hm0 s1) ?_
          refine mv_lsub dX3_ofShakes_132 ?_
          refine mv_topL (y := lN (1000000 - (q_af (ln 2) (ln 4) b k (day - (b.2.2.1 k)) p m (t_gr (ln 1) (z - 1))))) (lN_sub (by omega)) ?_
          refine mv_lmul dX3_ofShakes_133 ?_
          refine mv_topL (y := lN (w * (1000000 - (q_af (ln 2) (ln 4) b k (day - (b.2.2.1 k)) p m (t_gr (ln 1) (z - 1)))))) (lN_mul _ _) ?_
          refine mv_ldc2 (v := lN 1000000) dX3_ofShakes_134 wd_742 ?_
          refine mv_ldiv dX3_ofShakes_137 (by decide) ?_
          refine mv_topL (y := lN ((w * (1000000 - (q_af (ln 2) (ln 4) b k (day - (b.2.2.1 k)) p m (t_gr (ln 1) (z - 1))))) / 1000000)) (lN_div (by omega) (by omega) (by omega)) ?_
          refine mv_lstore dX3_ofShakes_138 (by decide) ?_
          refine mv_iinc (v := nI (k + 1)) dX3_ofShakes_140 rfl (mv_inc k 1) (by decide) ?_
          refine mv_goto (tgt := 63) dX3_ofShakes_143 (by decide) ?_
          refine mv_sub (lv' := [.ref 21, .int d, .int (nI p), .int (nI m), .int (nI z), .int (nI a), .int (nI e), .int (nI (t_gr (ln 1) (z - 1))), .long (lN (1000000 - q_ma (ln 0) p m (t_gr (ln 1) (z - 1)))), .null, .long (lN ((w * (1000000 - (q_af (ln 2) (ln 4) b k (day - (b.2.2.1 k)) p m (t_gr (ln 1) (z - 1))))) / 1000000)), .null, .int (nI day), .int (nI (k + 1)), .null]) ⟨Or.inr rfl, Or.inr rfl, Or.inr rfl, Or.inr rfl, Or.inr rfl, Or.inr rfl, Or.inr rfl, Or.inr rfl, Or.inr rfl, Or.inl rfl, Or.inr rfl, Or.inl rfl, Or.inr rfl, Or.inr rfl, Or.inl rfl, trivial⟩ ?_
          exact ih day v ((w * (1000000 - (q_af (ln 2) (ln 4) b k (day - (b.2.2.1 k)) p m (t_gr (ln 1) (z - 1))))) / 1000000) (k + 1) (by omega) hday hday2 hv hq (by omega) (q_le_le _ _ hw1) (by rw [← hq2, q_oi_s (f := c - k) (by omega), if_pos (by omega), Nat.sub_sub]; rfl) kx
set_option maxRecDepth 100000 in
theorem l_X3_ofShakes {ev : mv_E} {h : mv_H} {b : t_B} {t : Nat} {lw : Nat → Int32} {ln : Nat → Nat} {d : Int32} {p : Nat} {m : Nat} {z : Nat} {a : Nat} {e : Nat} {c : Nat} {dd : Nat} (HF : h[21]? = some (.inr (3, [.ref 1, .ref 7]))) (HL : h[1]? = some (.inr (5, [.ref 2]))) (HV : h[2]? = some (.inl (0, 8, .inl lw))) (HB : h[7]? = some (.inr (0, [.ref 8, .ref 9, .ref 10, .int (nI b.1), .int (nI t), .int (nI b.2.1)]))) (H8 : h[8]? = some (.inl (0, 60, .inl (fun j => nI (b.2.2.1 j))))) (H9 : h[9]? = some (.inl (0, 60, .inl (fun j => nI (b.2.2.2.1 j))))) (H10 : h[10]? = some (.inl (0, 60, .inl (fun j => nI (b.2.2.2.2 j))))) (hw : q_LW lw ln) (hb : q_BI dd b) (hp : p < 64) (hm0 : m < 8) (hz1 : 1 ≤ z) (hz9 : z ≤ 9) (he : e ≤ 399) (hae : a ≤ e) (hc : c ≤ b.1) (hcut : ∀ k, k < b.1 → (nI (b.2.2.1 k) ≤ d ↔ k < c)) (hca : ∀ k, k < c → b.2.2.1 k < a) : ∀ (fu : Nat) (v : Nat) (day : Nat), e + 1 < day + fu → (a ≤ day) → (day ≤ e + 1) → (v ≤ 1000000) → (q_oo (ln 0) (ln 2) (ln 3) (ln 4) b p m (t_gr (ln 1) (z - 1)) c (e + 1 - day) day v = q_oo (ln 0) (ln 2) (ln 3) (ln 4) b p m (t_gr (ln 1) (z - 1)) c (e + 1 - a) a 1000000) → mv_g ev mX3_ofShakes 34 [.ref 21, .int d, .int (nI p), .int (nI m), .int (nI z), .int (nI a), .int (nI e), .int (nI (t_gr (ln 1) (z - 1))), .long (lN (1000000 - q_ma (ln 0) p m (t_gr (ln 1) (z - 1)))), .null, .long (lN v), .null, .int (nI day), .null, .null] [] h (fun r g => r = some (.int (nI (q_od ln b p m z a e c))) ∧ g = h) := by
  intro fu
  induction fu with
  | zero => intro v day hm hday hday2 hv hq; exact absurd hm (by omega)
  | succ fu ih =>
    intro v day hm hday hday2 hv hq
    have hwv := hw.1
    obtain ⟨g0, g1, g2, g3, g3b, g4, g7, gmo⟩ := hw.2
    have n0 := hb.1
    have s1 := t_gr_le g1 (z - 1)
    have s2 := q_ma_le (p := p) (m := m) g0 s1
    refine mv_iload dX3_ofShakes_34 rfl ?_
    refine mv_iload dX3_ofShakes_36 rfl ?_
    refine mv_icmp_gt (tgt := 152) dX3_ofShakes_38 (by decide) (fun c38 => ?_) (fun c38 => ?_)
    · have c38 : e < day := (nI_ltI (by omega) (by omega)).mp c38
      refine mv_ldc2 (v := lN 1000000) dX3_ofShakes_152 wd_742 ?_
      refine mv_lload dX3_ofShakes_155 rfl ?_
      refine mv_lsub dX3_ofShakes_157 ?_
      refine mv_topL (y := lN (1000000 - v)) (lN_sub (by omega)) ?_
      refine mv_l2i dX3_ofShakes_158 ?_
      refine mv_topI (y := nI (1000000 - v)) (lN_i _) ?_
      exact mv_iret dX3_ofShakes_159 rfl rfl ⟨(congrArg (fun z => some (Value.int z)) (congrArg nI (by unfold q_od; rw [← hq, show e + 1 - day = 0 by omega]; rfl))), rfl⟩
    · have c38 : ¬ (e < day) := fun z => c38 ((nI_ltI (by omega) (by omega)).mpr z)
      refine mv_iload dX3_ofShakes_41 rfl ?_
      refine mv_sipush (v := nI 400) dX3_ofShakes_43 (by decide) ?_
      refine mv_icmp_ge (tgt := 152) dX3_ofShakes_46 (by decide) (fun c46 => ?_) (fun c46 => ?_)
      · have c46 : 400 ≤ day := (nI_leI (by omega) (by omega)).mp c46
        refine mv_ldc2 (v := lN 1000000) dX3_ofShakes_152 wd_742 ?_
        refine mv_lload dX3_ofShakes_155 rfl ?_
        refine mv_lsub dX3_ofShakes_157 ?_
        refine mv_topL (y := lN (1000000 - v)) (lN_sub (by omega)) ?_
        refine mv_l2i dX3_ofShakes_158 ?_
        refine mv_topI (y := nI (1000000 - v)) (lN_i _) ?_
        exact mv_iret dX3_ofShakes_159 rfl rfl ⟨(congrArg (fun z => some (Value.int z)) (congrArg nI (by unfold q_od; rw [← hq, show e + 1 - day = 0 by omega]; rfl))), rfl⟩
      · have c46 : ¬ (400 ≤ day) := fun z => c46 ((nI_leI (by omega) (by omega)).mpr z)
        have w1 : v * (1000000 - q_ma (ln 0) p m (t_gr (ln 1) (z - 1))) ≤ 1000000 * 1000000 := Nat.mul_le_mul hv (Nat.sub_le _ _)
        refine mv_lload dX3_ofShakes_49 rfl ?_
        refine mv_lload dX3_ofShakes_51 rfl ?_
        refine mv_lmul dX3_ofShakes_53 ?_
        refine mv_topL (y := lN (v * (1000000 - q_ma (ln 0) p m (t_gr (ln 1) (z - 1))))) (lN_mul _ _) ?_
        refine mv_ldc2 (v := lN 1000000) dX3_ofShakes_54 wd_742 ?_
        refine mv_ldiv dX3_ofShakes_57 (by decide) ?_
        refine mv_topL (y := lN ((v * (1000000 - q_ma (ln 0) p m (t_gr (ln 1) (z - 1)))) / 1000000)) (lN_div (by omega) (by omega) (by omega)) ?_
        refine mv_lstore dX3_ofShakes_58 (by decide) ?_
        refine mv_iconst (v := nI 0) dX3_ofShakes_60 (by decide) ?_
        refine mv_istore dX3_ofShakes_61 (by decide) ?_
        refine l_X3_ofShakesI HF HL HV HB H8 H9 H10 hw hb hp hm0 hz1 hz9 he hae hc hcut hca (c + 1) day v ((v * (1000000 - q_ma (ln 0) p m (t_gr (ln 1) (z - 1)))) / 1000000) 0 (by omega) hday (by omega) hv hq (Nat.zero_le _) (q_le_le _ _ hv) rfl ?_
        refine mv_iinc (v := nI (day + 1)) dX3_ofShakes_146 rfl (mv_inc day 1) (by decide) ?_
        refine mv_goto (tgt := 34) dX3_ofShakes_149 (by decide) ?_
        exact ih (q_oi (ln 2) (ln 3) (ln 4) b p m (t_gr (ln 1) (z - 1)) day c 0 (q_le v (q_ma (ln 0) p m (t_gr (ln 1) (z - 1))))) (day + 1) (by omega) (by omega) (by omega) (q_oi_le c 0 _ (q_le_le _ _ hv)) (by rw [← hq, q_oo_s (f := e + 1 - day) (by omega), Nat.sub_sub])
set_option maxRecDepth 100000 in
theorem k_X3_ofShakes {ev : mv_E} {h : mv_H} {b : t_B} {t : Nat} {lw : Nat → Int32} {ln : Nat → Nat} {d : Int32} {p : Nat} {m : Nat} {z : Nat} {a : Nat} {e : Nat} {c : Nat} {dd : Nat} (HF : h[21]? = some (.inr (3, [.ref 1, .ref 7]))) (HL : h[1]? = some (.inr (5, [.ref 2]))) (HV : h[2]? = some (.inl (0, 8, .inl lw))) (HB : h[7]? = some (.inr (0, [.ref 8, .ref 9, .ref 10, .int (nI b.1), .int (nI t), .int (nI b.2.1)]))) (H8 : h[8]? = some (.inl (0, 60, .inl (fun j => nI (b.2.2.1 j))))) (H9 : h[9]? = some (.inl (0, 60, .inl (fun j => nI (b.2.2.2.1 j))))) (H10 : h[10]? = some (.inl (0, 60, .inl (fun j => nI (b.2.2.2.2 j))))) (hw : q_LW lw ln) (hb : q_BI dd b) (hp : p < 64) (hm0 : m < 8) (hz1 : 1 ≤ z) (hz9 : z ≤ 9) (he : e ≤ 399) (hae : a ≤ e) (hc : c ≤ b.1) (hcut : ∀ k, k < b.1 → (nI (b.2.2.1 k) ≤ d ↔ k < c)) (hca : ∀ k, k < c → b.2.2.1 k < a) : mv_K ev mX3_ofShakes [.ref 21, .int d, .int (nI p), .int (nI m), .int (nI z), .int (nI a), .int (nI e)] h (some (.int (nI (q_od ln b p m z a e c)))) h := by
  refine mv_Kof ?_
  show mv_g ev mX3_ofShakes 0 [.ref 21, .int d, .int (nI p), .int (nI m), .int (nI z), .int (nI a), .int (nI e), .null, .null, .null, .null, .null, .null, .null, .null] [] h _
  have hwv := hw.1
  obtain ⟨g0, g1, g2, g3, g3b, g4, g7, gmo⟩ := hw.2
  have n0 := hb.1
  have s1 := t_gr_le g1 (z - 1)
  have s2 := q_ma_le (p := p) (m := m) g0 s1
  refine mv_aload_n dX3_ofShakes_0 rfl ?_
  refine mv_getf (ci := 3) (f := 0) dX3_ofShakes_1 HF rfl (by decide) wd_191 rfl ?_
  refine mv_iload dX3_ofShakes_4 rfl ?_
  refine mv_cV1 (ci := 5) dX3_ofShakes_6 lk_X3_ofShakes_19 HL rfl (Nat.le_of_ble_eq_true rfl) (Nat.le_of_ble_eq_true rfl) (k_X5_shareFrom (ev := ev) HL HV (hwv 1 (by decide) (by decide)) g1 hz1 hz9) ?_
  refine mv_istore dX3_ofShakes_9 (by decide) ?_
  refine mv_ldc2 (v := lN 1000000) dX3_ofShakes_11 wd_742 ?_
  refine mv_aload_n dX3_ofShakes_14 rfl ?_
  refine mv_iload_n dX3_ofShakes_15 rfl ?_
  refine mv_iload_n dX3_ofShakes_16 rfl ?_
  refine mv_iload dX3_ofShakes_17 rfl ?_
  refine mv_cV3 (ci := 3) dX3_ofShakes_19 lk_X3_ofShakes_27 HF rfl (Nat.le_of_ble_eq_true rfl) (Nat.le_of_ble_eq_true rfl) (k_X3_chanceOfMain (ev := ev) HF HL HV hw hp hm0 s1) ?_
  refine mv_lsub dX3_ofShakes_22 ?_
  refine mv_topL (y := lN (1000000 - q_ma (ln 0) p m (t_gr (ln 1) (z - 1)))) (lN_sub s2) ?_
  refine mv_lstore dX3_ofShakes_23 (by decide) ?_
  refine mv_ldc2 (v := lN 1000000) dX3_ofShakes_25 wd_742 ?_
  refine mv_lstore dX3_ofShakes_28 (by decide) ?_
  refine mv_iload dX3_ofShakes_30 rfl ?_
  refine mv_istore dX3_ofShakes_32 (by decide) ?_
  exact l_X3_ofShakes HF HL HV HB H8 H9 H10 hw hb hp hm0 hz1 hz9 he hae hc hcut hca (e + 2) 1000000 a (by omega) (Nat.le_refl _) (by omega) (Nat.le_refl _) rfl
