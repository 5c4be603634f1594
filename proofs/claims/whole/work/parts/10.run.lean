/-- the law's numbers: R, G, A, D, N at 0 .. 4, W at 7; the moon at 5, 6 -/
def q_LW (lw : Nat → Int32) (ln : Nat → Nat) : Prop := (∀ k, k ≠ 5 → k ≠ 6 → lw k = nI (ln k)) ∧ ln 0 ≤ 999 ∧ ln 1 ≤ 99 ∧ ln 2 ≤ 999 ∧ 1 ≤ ln 3 ∧ ln 3 ≤ 30 ∧ ln 4 ≤ 7 ∧ ln 7 ≤ 9 ∧ ((lw 5 = -1 ∧ lw 6 = -1) ∨ ∃ a c : Nat, a ≤ 27 ∧ c ≤ 27 ∧ lw 5 = nI a ∧ lw 6 = nI c)
/-- a book is in order: at most 60, the seed, days up to d in order, places, sizes -/
def q_BI (d : Nat) (b : t_B) : Prop := b.1 ≤ 60 ∧ b.2.1 < 2147483648 ∧ (∀ j, b.2.2.1 j ≤ 399) ∧ (∀ j, b.2.2.2.1 j < 64) ∧ (∀ j, b.2.2.2.2 j ≤ 9) ∧ (∀ j, j < b.1 → b.2.2.1 j ≤ d) ∧ (∀ i j, i < j → j < b.1 → b.2.2.1 i ≤ b.2.2.1 j)
theorem q_BI_le {d e : Nat} {b : t_B} (h : q_BI d b) (hd : d ≤ e) : q_BI e b := ⟨h.1, h.2.1, h.2.2.1, h.2.2.2.1, h.2.2.2.2.1, fun j hj => Nat.le_trans (h.2.2.2.2.2.1 j hj) hd, h.2.2.2.2.2.2⟩
theorem q_BI_ds {d : Nat} {b : t_B} (h : q_BI d b) : q_BI d (t_ds b) := ⟨h.1, t_sd_lt _, h.2.2⟩
theorem t_up_eq (f : Nat → Nat) (k x : Nat) : t_up f k x k = x := by simp [t_up]
theorem t_up_ne (f : Nat → Nat) {k j : Nat} (x : Nat) (h : j ≠ k) : t_up f k x j = f j := by simp [t_up, h]
theorem t_up_P {P : Nat → Prop} {f : Nat → Nat} {k x : Nat} (hf : ∀ j, P (f j)) (hx : P x) : ∀ j, P (t_up f k x j) := by
  intro j
  unfold t_up
  split
  · exact hx
  · exact hf j
theorem q_BI_up {d p z s : Nat} {b : t_B} (h : q_BI d b) (hn : b.1 < 60) (hs : s < 2147483648) (hd : d ≤ 399) (hp : p < 64) (hz : z ≤ 9) : q_BI d (b.1 + 1, s, t_up b.2.2.1 b.1 d, t_up b.2.2.2.1 b.1 p, t_up b.2.2.2.2 b.1 z) := by
  obtain ⟨h1, h2, h3, h4, h5, h6, h7⟩ := h
  refine ⟨hn, hs, t_up_P (P := fun x => x ≤ 399) h3 hd, t_up_P (P := fun x => x < 64) h4 hp, t_up_P (P := fun x => x ≤ 9) h5 hz, fun j hj => ?_, fun i j hij hj => ?_⟩
  · show t_up b.2.2.1 b.1 d j ≤ d
    by_cases e : j = b.1
    · subst e; rw [t_up_eq]; exact Nat.le_refl _
    · rw [t_up_ne _ _ e]
      exact h6 j (by have : j < b.1 + 1 := hj; omega)
  · show t_up b.2.2.1 b.1 d i ≤ t_up b.2.2.1 b.1 d j
    have hj' : j < b.1 + 1 := hj
    rw [t_up_ne _ _ (show i ≠ b.1 by omega)]
    by_cases e : j = b.1
    · subst e; rw [t_up_eq]; exact h6 i hij
    · rw [t_up_ne _ _ e]; exact h7 i j hij (by omega)
theorem q_BI_cm {d G p : Nat} {b : t_B} (h : q_BI d b) (hn : b.1 < 60) (hd : d ≤ 399) (hp : p < 64) : q_BI d (t_cm G d p b) := q_BI_up h hn (t_sz_sd G 8 _ h.2.1) hd hp (t_sz_in G 8 _ (Nat.le_refl _)).2
theorem t_shl_pos {x m : Nat} (hx : x ≤ 7) : 1 ≤ t_shl x m x m := by unfold t_shl; omega
theorem t_near_pos {p m : Nat} (hp : p < 64) : 1 ≤ t_near p m := Nat.mul_le_mul (t_shl_pos (x := p / 8) (m := m) (by omega)) (t_shl_pos (x := p % 8) (m := m) (by omega))
noncomputable def q_d1 (R G d : Nat) (b : t_B) : t_B := if t_sd b.2.1 / 65536 % 1000 < R then t_cm G d (t_sd (t_sd b.2.1) / 65536 % 64) (t_ds (t_ds b)) else t_ds b
noncomputable def q_dk (G A D N d k : Nat) (b : t_B) : t_B := if d - b.2.2.1 k ≤ D then (if t_sd b.2.1 / 65536 % 1000 < A * b.2.2.2.2 k / (d - b.2.2.1 k) then t_cm G d (t_plc (b.2.2.2.1 k) N (t_sd (t_sd b.2.1) / 65536 % t_near (b.2.2.2.1 k) N)) (t_ds (t_ds b)) else t_ds b) else b
noncomputable def q_dl (G A D N d : Nat) : Nat → Nat → t_B → t_B
  | 0, _, b => b
  | f + 1, k, b => if b.1 < 60 then q_dl G A D N d f (k + 1) (q_dk G A D N d k b) else b
noncomputable def q_day (R G A D N d : Nat) (b : t_B) : t_B := q_dl G A D N d b.1 0 (q_d1 R G d b)
noncomputable def q_rn (R G A D N : Nat) : Nat → Nat → t_B → Nat × t_B
  | 0, t, b => (t, b)
  | f + 1, t, b => if b.1 < 60 then q_rn R G A D N f (t + 1) (q_day R G A D N (t + 1) b) else (t, b)
theorem q_dl_s {G A D N d f k : Nat} {b : t_B} (h : b.1 < 60) (hf : 0 < f) : q_dl G A D N d f k b = q_dl G A D N d (f - 1) (k + 1) (q_dk G A D N d k b) := by
  obtain ⟨g, rfl⟩ : ∃ g, f = g + 1 := ⟨f - 1, by omega⟩
  have e : q_dl G A D N d (g + 1) k b = if b.1 < 60 then q_dl G A D N d g (k + 1) (q_dk G A D N d k b) else b := rfl
  rw [e, if_pos h, Nat.add_sub_cancel]
theorem q_dl_x {G A D N d f k : Nat} {b : t_B} (h : ¬ b.1 < 60 ∨ f = 0) : q_dl G A D N d f k b = b := by
  cases f with
  | zero => rfl
  | succ g =>
    have e : q_dl G A D N d (g + 1) k b = if b.1 < 60 then q_dl G A D N d g (k + 1) (q_dk G A D N d k b) else b := rfl
    rw [e, if_neg (by omega)]
theorem q_rn_s {R G A D N f t : Nat} {b : t_B} (h : b.1 < 60) (hf : 0 < f) : q_rn R G A D N f t b = q_rn R G A D N (f - 1) (t + 1) (q_day R G A D N (t + 1) b) := by
  obtain ⟨g, rfl⟩ : ∃ g, f = g + 1 := ⟨f - 1, by omega⟩
  have e : q_rn R G A D N (g + 1) t b = if b.1 < 60 then q_rn R G A D N g (t + 1) (q_day R G A D N (t + 1) b) else (t, b) := rfl
  rw [e, if_pos h, Nat.add_sub_cancel]
theorem q_rn_x {R G A D N f t : Nat} {b : t_B} (h : ¬ b.1 < 60 ∨ f = 0) : q_rn R G A D N f t b = (t, b) := by
  cases f with
  | zero => rfl
  | succ g =>
    have e : q_rn R G A D N (g + 1) t b = if b.1 < 60 then q_rn R G A D N g (t + 1) (q_day R G A D N (t + 1) b) else (t, b) := rfl
    rw [e, if_neg (by omega)]
theorem t_plc_lt {q n i : Nat} (hq : q < 64) (hn : n < 8) (hi : i < t_near q n) : t_plc q n i < 64 := by
  have h1 : t_shl (q % 8) n (q % 8) n = min 7 (q % 8 + n) + 1 - (q % 8 - n) := by unfold t_shl; omega
  have h2 : t_shl (q / 8) n (q / 8) n = min 7 (q / 8 + n) + 1 - (q / 8 - n) := by unfold t_shl; omega
  have h3 : 0 < t_shl (q % 8) n (q % 8) n := by omega
  have h4 : i / t_shl (q % 8) n (q % 8) n < t_shl (q / 8) n (q / 8) n := Nat.div_lt_of_lt_mul (by rw [Nat.mul_comm]; exact hi)
  have h5 : i % t_shl (q % 8) n (q % 8) n < t_shl (q % 8) n (q % 8) n := Nat.mod_lt _ h3
  unfold t_plc
  omega
theorem q_d1_BI {R G d : Nat} {b : t_B} (h : q_BI d b) (hn : b.1 < 60) (hd : d ≤ 399) : q_BI d (q_d1 R G d b) ∧ b.1 ≤ (q_d1 R G d b).1 ∧ ∀ j, j < b.1 → (q_d1 R G d b).2.2.1 j = b.2.2.1 j := by
  unfold q_d1
  by_cases hc : t_sd b.2.1 / 65536 % 1000 < R
  · rw [if_pos hc]
    exact ⟨q_BI_cm (q_BI_ds (q_BI_ds h)) hn hd (by omega), Nat.le_succ _, fun j hj => t_up_ne _ _ (show j ≠ b.1 by omega)⟩
  · rw [if_neg hc]
    exact ⟨q_BI_ds h, Nat.le_refl _, fun _ _ => rfl⟩
theorem q_dk_BI {G A D N d k : Nat} {b : t_B} (h : q_BI d b) (hn : b.1 < 60) (hd : d ≤ 399) (hN : N < 8) : q_BI d (q_dk G A D N d k b) ∧ b.1 ≤ (q_dk G A D N d k b).1 ∧ ∀ j, j < b.1 → (q_dk G A D N d k b).2.2.1 j = b.2.2.1 j := by
  unfold q_dk
  have hp := h.2.2.2.1 k
  split
  · split
    · exact ⟨q_BI_cm (q_BI_ds (q_BI_ds h)) hn hd (t_plc_lt hp hN (Nat.mod_lt _ (t_near_pos hp))), Nat.le_succ _, fun j hj => t_up_ne _ _ (show j ≠ b.1 by omega)⟩
    · exact ⟨q_BI_ds h, Nat.le_refl _, fun _ _ => rfl⟩
  · exact ⟨h, Nat.le_refl _, fun _ _ => rfl⟩
theorem q_dl_BI {G A D N d : Nat} (hd : d ≤ 399) (hN : N < 8) (f : Nat) : ∀ (k : Nat) (b : t_B), q_BI d b → q_BI d (q_dl G A D N d f k b) ∧ b.1 ≤ (q_dl G A D N d f k b).1 := by
  induction f with
  | zero => intro k b h; exact ⟨h, Nat.le_refl _⟩
  | succ f ih =>
    intro k b h
    by_cases hn : b.1 < 60
    · rw [q_dl_s (f := f + 1) hn (Nat.succ_pos _), Nat.add_sub_cancel]
      have h1 := q_dk_BI (G := G) (A := A) (D := D) (k := k) h hn hd hN
      have h2 := ih (k + 1) _ h1.1
      exact ⟨h2.1, Nat.le_trans h1.2.1 h2.2⟩
    · rw [q_dl_x (Or.inl hn)]
      exact ⟨h, Nat.le_refl _⟩
theorem q_day_BI {R G A D N d : Nat} {b : t_B} (h : q_BI d b) (hn : b.1 < 60) (hd : d ≤ 399) (hN : N < 8) : q_BI d (q_day R G A D N d b) ∧ b.1 ≤ (q_day R G A D N d b).1 := by
  have h1 := q_d1_BI (R := R) (G := G) h hn hd
  have h2 := q_dl_BI (G := G) (A := A) (D := D) hd hN b.1 0 _ h1.1
  exact ⟨h2.1, Nat.le_trans h1.2.1 h2.2⟩
theorem q_rn_BI {R G A D N : Nat} (hN : N < 8) (f : Nat) : ∀ (t : Nat) (b : t_B), q_BI t b → t + f ≤ 399 → q_BI (q_rn R G A D N f t b).1 (q_rn R G A D N f t b).2 ∧ b.1 ≤ (q_rn R G A D N f t b).2.1 ∧ (q_rn R G A D N f t b).1 ≤ t + f ∧ t ≤ (q_rn R G A D N f t b).1 := by
  induction f with
  | zero => intro t b h ht; exact ⟨h, Nat.le_refl _, Nat.le_refl _, Nat.le_refl _⟩
  | succ f ih =>
    intro t b h ht
    by_cases hn : b.1 < 60
    · rw [q_rn_s (f := f + 1) hn (Nat.succ_pos _), Nat.add_sub_cancel]
      have h1 := q_day_BI (R := R) (G := G) (A := A) (D := D) (q_BI_le (e := t + 1) h (by omega)) hn (by omega) hN
      have h2 := ih (t + 1) _ h1.1 (by omega)
      exact ⟨h2.1, Nat.le_trans h1.2 h2.2.1, by omega, by omega⟩
    · rw [q_rn_x (Or.inl hn)]
      exact ⟨h, Nat.le_refl _, by omega, Nat.le_refl _⟩
set_option maxRecDepth 100000 in
theorem k_X0_drawNear {ev : mv_E} {h : mv_H} {b : t_B} {t : Nat} {p : Nat} {N : Nat} (HB : h[7]? = some (.inr (0, [.ref 8, .ref 9, .ref 10, .int (nI b.1), .int (nI t), .int (nI b.2.1)]))) (hs : b.2.1 < 2147483648) (hp : p < 64) (hN : N < 8) : ∃ h2, mv_K ev mX0_drawNear [.ref 7, .int (nI p), .int (nI N)] h (some (.int (nI (t_plc p N (t_sd b.2.1 / 65536 % t_near p N))))) h2 ∧ mv_fra [7] h h2 ∧ h2[7]? = some (.inr (0, [.ref 8, .ref 9, .ref 10, .int (nI (t_ds b).1), .int (nI t), .int (nI (t_ds b).2.1)])) := by
  suffices g0 : mv_g ev mX0_drawNear 0 (mv_ent [.ref 7, .int (nI p), .int (nI N)] (mv_ml mX0_drawNear)) [] h (fun r g => r = some (.int (nI (t_plc p N (t_sd b.2.1 / 65536 % t_near p N)))) ∧ mv_fra [7] h g ∧ g[7]? = some (.inr (0, [.ref 8, .ref 9, .ref 10, .int (nI (t_ds b).1), .int (nI t), .int (nI (t_ds b).2.1)]))) from (by obtain ⟨r0, h0, K0, q0, Q0⟩ := mv_Kex g0; subst q0; exact ⟨h0, K0, Q0⟩)
  show mv_g ev mX0_drawNear 0 [.ref 7, .int (nI p), .int (nI N)] [] h _
  have fr : mv_fra [7] h h := mv_fra.rf
  have z1 := t_near_pos (m := N) hp
  have z2 := t_near_le p N
  have z3 : t_sd b.2.1 / 65536 % t_near p N < t_near p N := Nat.mod_lt _ z1
  refine mv_iload_n dX0_drawNear_0 rfl ?_
  refine mv_iload_n dX0_drawNear_1 rfl ?_
  refine mv_aload_n dX0_drawNear_2 rfl ?_
  refine mv_iload_n dX0_drawNear_3 rfl ?_
  refine mv_iload_n dX0_drawNear_4 rfl ?_
  refine mv_cSN2 dX0_drawNear_5 lk_X0_drawNear_84 (Nat.le_of_ble_eq_true rfl) (Nat.le_of_ble_eq_true rfl) (k_X11_howManyNear (ev := ev) (by omega) (by omega)) ?_
  obtain ⟨h1, K2, f3, y4⟩ := (k_X0_draw (ev := ev) (b := b) (t := t) (m := (t_near p N)) HB (by omega) (by omega) (by omega))
  refine mv_cV1 (ci := 0) dX0_drawNear_8 lk_X0_drawNear_55 HB rfl (Nat.le_of_ble_eq_true rfl) (Nat.le_of_ble_eq_true rfl) K2 ?_
  have HB : h1[7]? = some (.inr (0, [.ref 8, .ref 9, .ref 10, .int (nI (t_ds b).1), .int (nI t), .int (nI (t_ds b).2.1)])) := y4
  have fr := fr.trans f3 (by decide)
  refine mv_cSN3 dX0_drawNear_11 lk_X0_drawNear_87 (Nat.le_of_ble_eq_true rfl) (Nat.le_of_ble_eq_true rfl) (k_X11_placeNear (ev := ev) (by omega) (by omega) (by omega)) ?_
  exact mv_iret dX0_drawNear_14 rfl rfl ⟨rfl, fr, HB⟩
set_option maxRecDepth 100000 in
theorem l_X0_live {ev : mv_E} {h : mv_H} {b : t_B} {d : Nat} {lw : Nat → Int32} {ln : Nat → Nat}  (hb : q_BI d b) (hn : b.1 < 60) (hdd : ∀ j, j < b.1 → b.2.2.1 j < d) (hd : d ≤ 399) (hw : q_LW lw ln) : ∀ (fu : Nat) (k : Nat) (b2 : t_B), ∀ (g : mv_H), b.1 < k + fu → mv_fra [7, 8, 9, 10] h g → g[7]? = some (.inr (0, [.ref 8, .ref 9, .ref 10, .int (nI b2.1), .int (nI d), .int (nI b2.2.1)])) → g[8]? = some (.inl (0, 60, .inl (fun j => nI (b2.2.2.1 j)))) → g[9]? = some (.inl (0, 60, .inl (fun j => nI (b2.2.2.2.1 j)))) → g[10]? = some (.inl (0, 60, .inl (fun j => nI (b2.2.2.2.2 j)))) → g[1]? = some (.inr (5, [.ref 2])) → g[2]? = some (.inl (0, 8, .inl lw)) → (k ≤ b.1) → (q_BI d b2) → (b.1 ≤ b2.1) → (∀ j, j < b.1 → b2.2.2.1 j < d) → (q_dl (ln 1) (ln 2) (ln 3) (ln 4) d (b.1 - k) k b2 = q_day (ln 0) (ln 1) (ln 2) (ln 3) (ln 4) d b) → mv_g ev mX0_liveThrough 35 [.ref 7, .int (nI d), .ref 1, .int (nI b.1), .int (nI k), .null] [] g (fun r g => r = none ∧ mv_fra [7, 8, 9, 10] h g ∧ g[7]? = some (.inr (0, [.ref 8, .ref 9, .ref 10, .int (nI (q_day (ln 0) (ln 1) (ln 2) (ln 3) (ln 4) d b).1), .int (nI d), .int (nI (q_day (ln 0) (ln 1) (ln 2) (ln 3) (ln 4) d b).2.1)])) ∧ g[8]? = some (.inl (0, 60, .inl (fun j => nI ((q_day (ln 0) (ln 1) (ln 2) (ln 3) (ln 4) d b).2.2.1 j)))) ∧ g[9]? = some (.inl (0, 60, .inl (fun j => nI ((q_day (ln 0) (ln 1) (ln 2) (ln 3) (ln 4) d b).2.2.2.1 j)))) ∧ g[10]? = some (.inl (0, 60, .inl (fun j => nI ((q_day (ln 0) (ln 1) (ln 2) (ln 3) (ln 4) d b).2.2.2.2 j))))) := by
  intro fu
  induction fu with
  | zero => intro k b2 g hm fr HB H8 H9 H10 HL HV hk hb2 he hdk hq; exact absurd hm (by omega)
  | succ fu ih =>
    intro k b2 g hm fr HB H8 H9 H10 HL HV hk hb2 he hdk hq
    have hwv := hw.1
    obtain ⟨g0, g1, g2, g3, g3b, g4, g7, gmo⟩ := hw.2
    have n2 := hb2.1
    refine mv_iload dX0_liveThrough_35 rfl ?_
    refine mv_iload_n dX0_liveThrough_37 rfl ?_
    refine mv_icmp_ge (tgt := 124) dX0_liveThrough_38 (by decide) (fun c38 => ?_) (fun c38 => ?_)
    · have c38 : b.1 ≤ k := (nI_leI (by omega) (by omega)).mp c38
      have e9 : b2 = q_day (ln 0) (ln 1) (ln 2) (ln 3) (ln 4) d b := (by rw [← hq]; exact (q_dl_x (by omega)).symm)
      rw [e9] at HB H8 H9 H10
      exact mv_vret dX0_liveThrough_124 rfl ⟨rfl, fr, HB, H8, H9, H10⟩
    · have c38 : ¬ (b.1 ≤ k) := fun z => c38 ((nI_leI (by omega) (by omega)).mpr z)
      refine mv_aload_n dX0_liveThrough_41 rfl ?_
      refine mv_cV0 (ci := 0) dX0_liveThrough_42 lk_X0_liveThrough_35 HB rfl (Nat.le_of_ble_eq_true rfl) (Nat.le_of_ble_eq_true rfl) (k_X0_isFull (ev := ev) HB (by omega)) ?_
      refine mv_if_ne (tgt := 124) dX0_liveThrough_45 (by decide) (fun c45 => ?_) (fun c45 => ?_)
      · have c45 : 60 ≤ b2.1 := Classical.byContradiction (fun z => c45 ((mv_b_0 _).mpr z))
        have e9 : b2 = q_day (ln 0) (ln 1) (ln 2) (ln 3) (ln 4) d b := (by rw [← hq]; exact (q_dl_x (by omega)).symm)
        rw [e9] at HB H8 H9 H10
        exact mv_vret dX0_liveThrough_124 rfl ⟨rfl, fr, HB, H8, H9, H10⟩
      · have c45 : ¬ (60 ≤ b2.1) := (mv_b_0 _).mp c45
        have n3 : b2.2.2.1 k < d := hdk k (by omega)
        have n4 := hb2.2.2.2.2.1 k
        have n5 : ln 2 * b2.2.2.2.2 k ≤ 999 * 9 := Nat.mul_le_mul g2 n4
        have n6 : ln 2 * b2.2.2.2.2 k / (d - b2.2.2.1 k) ≤ 999 * 9 := Nat.le_trans (Nat.div_le_self _ _) n5
        refine mv_iload_n dX0_liveThrough_48 rfl ?_
        refine mv_aload_n dX0_liveThrough_49 rfl ?_
        refine mv_iload dX0_liveThrough_50 rfl ?_
        refine mv_cV1 (ci := 0) dX0_liveThrough_52 lk_X0_liveThrough_68 HB rfl (Nat.le_of_ble_eq_true rfl) (Nat.le_of_ble_eq_true rfl) (k_X0_dayOf (ev := ev) HB H8 (by omega) n2) ?_
        refine mv_isub dX0_liveThrough_55 ?_
        refine mv_topI (y := nI (d - (b2.2.2.1 k))) (pk_sub (by omega)) ?_
        refine mv_istore dX0_liveThrough_56 (by decide) ?_
        refine mv_iload dX0_liveThrough_58 rfl ?_
        refine mv_iconst (v := nI 1) dX0_liveThrough_60 (by decide) ?_
        refine mv_aload_n dX0_liveThrough_61 rfl ?_
        refine mv_iconst (v := nI 3) dX0_liveThrough_62 (by decide) ?_
        refine mv_cV1 (ci := 5) dX0_liveThrough_63 lk_X0_liveThrough_59 HL rfl (Nat.le_of_ble_eq_true rfl) (Nat.le_of_ble_eq_true rfl) (k_X5_value (ev := ev) HL HV (by omega)) ?_
        refine mv_topI (y := nI (ln 3)) (hwv 3 (by decide) (by decide)) ?_
        refine mv_cSN3 dX0_liveThrough_66 lk_X0_liveThrough_71 (Nat.le_of_ble_eq_true rfl) (Nat.le_of_ble_eq_true rfl) (k_X11_within (ev := ev)) ?_
        refine mv_if_eq (tgt := 118) dX0_liveThrough_69 (by decide) (fun c69 => ?_) (fun c69 => ?_)
        · have c69 : ¬ (d - b2.2.2.1 k ≤ ln 3) := fun z => (mv_b_0 _).mp c69 (mv_in_i (by omega) z (by omega))
          have xk := q_dk_BI (G := ln 1) (A := ln 2) (D := ln 3) (N := ln 4) (k := k) hb2 (by omega) hd (by omega)
          have ek : q_dk (ln 1) (ln 2) (ln 3) (ln 4) d k b2 = b2 := (by unfold q_dk; first | exact if_neg (by omega) | exact (if_pos (by omega)).trans (if_neg (by omega)) | exact (if_pos (by omega)).trans (if_pos (by omega)))
          refine mv_iinc (v := nI (k + 1)) dX0_liveThrough_118 rfl (mv_inc k 1) (by decide) ?_
          refine mv_goto (tgt := 35) dX0_liveThrough_121 (by decide) ?_
          refine mv_sub (lv' := [.ref 7, .int (nI d), .ref 1, .int (nI b.1), .int (nI (k + 1)), .null]) ⟨Or.inr rfl, Or.inr rfl, Or.inr rfl, Or.inr rfl, Or.inr rfl, Or.inl rfl, trivial⟩ ?_
          exact ih (k + 1) b2 g (by omega) fr HB H8 H9 H10 HL HV (by omega) (ek ▸ xk.1) (ek ▸ Nat.le_trans he xk.2.1) (fun j hj => by rw [← ek, xk.2.2 j (by omega)]; exact hdk j hj) (by rw [← ek, ← hq, q_dl_s (f := b.1 - k) (by omega) (by omega), Nat.sub_sub])
        · have c69 : d - b2.2.2.1 k ≤ ln 3 := (nI_leI (by omega) (by omega)).mp (mv_b_ne c69).2
          refine mv_aload_n dX0_liveThrough_72 rfl ?_
          refine mv_sipush (v := nI 1000) dX0_liveThrough_73 (by decide) ?_
          obtain ⟨h1, K2, f3, y4⟩ := (k_X0_draw (ev := ev) (b := b2) (t := d) (m := 1000) HB hb2.2.1 (by omega) (by omega))
          refine mv_cV1 (ci := 0) dX0_liveThrough_76 lk_X0_liveThrough_55 HB rfl (Nat.le_of_ble_eq_true rfl) (Nat.le_of_ble_eq_true rfl) K2 ?_
          have HB : h1[7]? = some (.inr (0, [.ref 8, .ref 9, .ref 10, .int (nI (t_ds b2).1), .int (nI d), .int (nI (t_ds b2).2.1)])) := y4
          have H8 := f3.get (by decide) H8
          have H9 := f3.get (by decide) H9
          have H10 := f3.get (by decide) H10
          have HL := f3.get (by decide) HL
          have HV := f3.get (by decide) HV
          have fr := fr.trans f3 (by decide)
          refine mv_aload_n dX0_liveThrough_79 rfl ?_
          refine mv_iconst (v := nI 2) dX0_liveThrough_80 (by decide) ?_
          refine mv_cV1 (ci := 5) dX0_liveThrough_81 lk_X0_liveThrough_59 HL rfl (Nat.le_of_ble_eq_true rfl) (Nat.le_of_ble_eq_true rfl) (k_X5_value (ev := ev) HL HV (by omega)) ?_
          refine mv_topI (y := nI (ln 2)) (hwv 2 (by decide) (by decide)) ?_
          refine mv_aload_n dX0_liveThrough_84 rfl ?_
          refine mv_iload dX0_liveThrough_85 rfl ?_
          refine mv_cV1 (ci := 0) dX0_liveThrough_87 lk_X0_liveThrough_75 HB rfl (Nat.le_of_ble_eq_true rfl) (Nat.le_of_ble_eq_true rfl) (k_X0_sizeOf (ev := ev) HB H10 (show _ < b2.1 by omega) n2) ?_
          refine mv_imul dX0_liveThrough_90 ?_
          refine mv_topI (y := nI ((ln 2) * (b2.2.2.2.2 k))) (pk_mul _ _) ?_
          refine mv_iload dX0_liveThrough_91 rfl ?_
          refine mv_idiv dX0_liveThrough_93 (by intro z; have z2 := (nI_eq (b := 0) (by omega) (by omega)).mp z; omega) ?_
          refine mv_topI (y := nI (((ln 2) * (b2.2.2.2.2 k)) / (d - (b2.2.2.1 k)))) (pk_div (by omega) (by omega) (by omega)) ?_
          refine mv_icmp_ge (tgt := 118) dX0_liveThrough_94 (by decide) (fun c94 => ?_) (fun c94 => ?_)
          · have c94 : ((ln 2) * (b2.2.2.2.2 k)) / (d - (b2.2.2.1 k)) ≤ t_sd b2.2.1 / 65536 % 1000 := (nI_leI (by omega) (by omega)).mp c94
            have xk := q_dk_BI (G := ln 1) (A := ln 2) (D := ln 3) (N := ln 4) (k := k) hb2 (by omega) hd (by omega)
            have ek : q_dk (ln 1) (ln 2) (ln 3) (ln 4) d k b2 = (t_ds b2) := (by unfold q_dk; first | exact if_neg (by omega) | exact (if_pos (by omega)).trans (if_neg (by omega)) | exact (if_pos (by omega)).trans (if_pos (by omega)))
            refine mv_iinc (v := nI (k + 1)) dX0_liveThrough_118 rfl (mv_inc k 1) (by decide) ?_
            refine mv_goto (tgt := 35) dX0_liveThrough_121 (by decide) ?_
            refine mv_sub (lv' := [.ref 7, .int (nI d), .ref 1, .int (nI b.1), .int (nI (k + 1)), .null]) ⟨Or.inr rfl, Or.inr rfl, Or.inr rfl, Or.inr rfl, Or.inr rfl, Or.inl rfl, trivial⟩ ?_
            exact ih (k + 1) (t_ds b2) h1 (by omega) fr HB H8 H9 H10 HL HV (by omega) (ek ▸ xk.1) (ek ▸ Nat.le_trans he xk.2.1) (fun j hj => by rw [← ek, xk.2.2 j (by omega)]; exact hdk j hj) (by rw [← ek, ← hq, q_dl_s (f := b.1 - k) (by omega) (by omega), Nat.sub_sub])
          · have c94 : ¬ (((ln 2) * (b2.2.2.2.2 k)) / (d - (b2.2.2.1 k)) ≤ t_sd b2.2.1 / 65536 % 1000) := fun z => c94 ((nI_leI (by omega) (by omega)).mpr z)
            refine mv_aload_n dX0_liveThrough_97 rfl ?_
            refine mv_iload_n dX0_liveThrough_98 rfl ?_
            refine mv_aload_n dX0_liveThrough_99 rfl ?_
            refine mv_aload_n dX0_liveThrough_100 rfl ?_
            refine mv_iload dX0_liveThrough_101 rfl ?_
            refine mv_cV1 (ci := 0) dX0_liveThrough_103 lk_X0_liveThrough_78 HB rfl (Nat.le_of_ble_eq_true rfl) (Nat.le_of_ble_eq_true rfl) (k_X0_placeOf (ev := ev) HB H9 (show _ < b2.1 by omega) n2) ?_
            refine mv_aload_n dX0_liveThrough_106 rfl ?_
            refine mv_iconst (v := nI 4) dX0_liveThrough_107 (by decide) ?_
            refine mv_cV1 (ci := 5) dX0_liveThrough_108 lk_X0_liveThrough_59 HL rfl (Nat.le_of_ble_eq_true rfl) (Nat.le_of_ble_eq_true rfl) (k_X5_value (ev := ev) HL HV (by omega)) ?_
            refine mv_topI (y := nI (ln 4)) (hwv 4 (by decide) (by decide)) ?_
            obtain ⟨h5, K6, f7, y8⟩ := (k_X0_drawNear (ev := ev) (b := (t_ds b2)) (t := d) (p := (b2.2.2.2.1 k)) (N := (ln 4)) HB (t_sd_lt _) (hb2.2.2.2.1 k) (by omega))
            refine mv_cV2 (ci := 0) dX0_liveThrough_111 lk_X0_liveThrough_81 HB rfl (Nat.le_of_ble_eq_true rfl) (Nat.le_of_ble_eq_true rfl) K6 ?_
            have HB : h5[7]? = some (.inr (0, [.ref 8, .ref 9, .ref 10, .int (nI (t_ds (t_ds b2)).1), .int (nI d), .int (nI (t_ds (t_ds b2)).2.1)])) := y8
            have H8 := f7.get (by decide) H8
            have H9 := f7.get (by decide) H9
            have H10 := f7.get (by decide) H10
            have HL := f7.get (by decide) HL
            have HV := f7.get (by decide) HV
            have fr := fr.trans f7 (by decide)
            refine mv_aload_n dX0_liveThrough_114 rfl ?_
            obtain ⟨h9, K10, f11, y12, y13, y14, y15⟩ := (k_X0_come (ev := ev) (b := (t_ds (t_ds b2))) (t := d) (d := d) (p := (t_plc (b2.2.2.2.1 k) (ln 4) (t_sd (t_ds b2).2.1 / 65536 % t_near (b2.2.2.2.1 k) (ln 4)))) (lw := lw) (G := ln 1) HB H8 H9 H10 HL HV (show b2.1 < 60 by omega) (t_sd_lt _) (hwv 1 (by decide) (by decide)) g1)
            refine mv_cV3 (ci := 0) dX0_liveThrough_115 lk_X0_liveThrough_64 HB rfl (Nat.le_of_ble_eq_true rfl) (Nat.le_of_ble_eq_true rfl) K10 ?_
            have HB : h9[7]? = some (.inr (0, [.ref 8, .ref 9, .ref 10, .int (nI (t_cm (ln 1) d (t_plc (b2.2.2.2.1 k) (ln 4) (t_sd (t_ds b2).2.1 / 65536 % t_near (b2.2.2.2.1 k) (ln 4))) (t_ds (t_ds b2))).1), .int (nI d), .int (nI (t_cm (ln 1) d (t_plc (b2.2.2.2.1 k) (ln 4) (t_sd (t_ds b2).2.1 / 65536 % t_near (b2.2.2.2.1 k) (ln 4))) (t_ds (t_ds b2))).2.1)])) := y12
            have H8 : h9[8]? = some (.inl (0, 60, .inl (fun j => nI ((t_cm (ln 1) d (t_plc (b2.2.2.2.1 k) (ln 4) (t_sd (t_ds b2).2.1 / 65536 % t_near (b2.2.2.2.1 k) (ln 4))) (t_ds (t_ds b2))).2.2.1 j)))) := y13
            have H9 : h9[9]? = some (.inl (0, 60, .inl (fun j => nI ((t_cm (ln 1) d (t_plc (b2.2.2.2.1 k) (ln 4) (t_sd (t_ds b2).2.1 / 65536 % t_near (b2.2.2.2.1 k) (ln 4))) (t_ds (t_ds b2))).2.2.2.1 j)))) := y14
            have H10 : h9[10]? = some (.inl (0, 60, .inl (fun j => nI ((t_cm (ln 1) d (t_plc (b2.2.2.2.1 k) (ln 4) (t_sd (t_ds b2).2.1 / 65536 % t_near (b2.2.2.2.1 k) (ln 4))) (t_ds (t_ds b2))).2.2.2.2 j)))) := y15
            have HL := f11.get (by decide) HL
            have HV := f11.get (by decide) HV
            have fr := fr.trans f11 (by decide)
            have xk := q_dk_BI (G := ln 1) (A := ln 2) (D := ln 3) (N := ln 4) (k := k) hb2 (by omega) hd (by omega)
            have ek : q_dk (ln 1) (ln 2) (ln 3) (ln 4) d k b2 = (t_cm (ln 1) d (t_plc (b2.2.2.2.1 k) (ln 4) (t_sd (t_ds b2).2.1 / 65536 % t_near (b2.2.2.2.1 k) (ln 4))) (t_ds (t_ds b2))) := (by unfold q_dk; first | exact if_neg (by omega) | exact (if_pos (by omega)).trans (if_neg (by omega)) | exact (if_pos (by omega)).trans (if_pos (by omega)))
            refine mv_iinc (v := nI (k + 1)) dX0_liveThrough_118 rfl (mv_inc k 1) (by decide) ?_
            refine mv_goto (tgt := 35) dX0_liveThrough_121 (by decide) ?_
            refine mv_sub (lv' := [.ref 7, .int (nI d), .ref 1, .int (nI b.1), .int (nI (k + 1)), .null]) ⟨Or.inr rfl, Or.inr rfl, Or.inr rfl, Or.inr rfl, Or.inr rfl, Or.inl rfl, trivial⟩ ?_
            exact ih (k + 1) (t_cm (ln 1) d (t_plc (b2.2.2.2.1 k) (ln 4) (t_sd (t_ds b2).2.1 / 65536 % t_near (b2.2.2.2.1 k) (ln 4))) (t_ds (t_ds b2))) h9 (by omega) fr HB H8 H9 H10 HL HV (by omega) (ek ▸ xk.1) (ek ▸ Nat.le_trans he xk.2.1) (fun j hj => by rw [← ek, xk.2.2 j (by omega)]; exact hdk j hj) (by rw [← ek, ← hq, q_dl_s (f := b.1 - k) (by omega) (by omega), Nat.sub_sub])
set_option maxRecDepth 100000 in
theorem k_X0_liveThrough {ev : mv_E} {h : mv_H} {b : t_B} {d : Nat} {lw : Nat → Int32} {ln : Nat → Nat} (HB : h[7]? = some (.inr (0, [.ref 8, .ref 9, .ref 10, .int (nI b.1), .int (nI d), .int (nI b.2.1)]))) (H8 : h[8]? = some (.inl (0, 60, .inl (fun j => nI (b.2.2.1 j))))) (H9 : h[9]? = some (.inl (0, 60, .inl (fun j => nI (b.2.2.2.1 j))))) (H10 : h[10]? = some (.inl (0, 60, .inl (fun j => nI (b.2.2.2.2 j))))) (HL : h[1]? = some (.inr (5, [.ref 2]))) (HV : h[2]? = some (.inl (0, 8, .inl lw))) (hb : q_BI d b) (hn : b.1 < 60) (hdd : ∀ j, j < b.1 → b.2.2.1 j < d) (hd : d ≤ 399) (hw : q_LW lw ln) : ∃ h2, mv_K ev mX0_liveThrough [.ref 7, .int (nI d), .ref 1] h (none) h2 ∧ mv_fra [7, 8, 9, 10] h h2 ∧ h2[7]? = some (.inr (0, [.ref 8, .ref 9, .ref 10, .int (nI (q_day (ln 0) (ln 1) (ln 2) (ln 3) (ln 4) d b).1), .int (nI d), .int (nI (q_day (ln 0) (ln 1) (ln 2) (ln 3) (ln 4) d b).2.1)])) ∧ h2[8]? = some (.inl (0, 60, .inl (fun j => nI ((q_day (ln 0) (ln 1) (ln 2) (ln 3) (ln 4) d b).2.2.1 j)))) ∧ h2[9]? = some (.inl (0, 60, .inl (fun j => nI ((q_day (ln 0) (ln 1) (ln 2) (ln 3) (ln 4) d b).2.2.2.1 j)))) ∧ h2[10]? = some (.inl (0, 60, .inl (fun j => nI ((q_day (ln 0) (ln 1) (ln 2) (ln 3) (ln 4) d b).2.2.2.2 j)))) := by
  suffices g0 : mv_g ev mX0_liveThrough 0 (mv_ent [.ref 7, .int (nI d), .ref 1] (mv_ml mX0_liveThrough)) [] h (fun r g => r = none ∧ mv_fra [7, 8, 9, 10] h g ∧ g[7]? = some (.inr (0, [.ref 8, .ref 9, .ref 10, .int (nI (q_day (ln 0) (ln 1) (ln 2) (ln 3) (ln 4) d b).1), .int (nI d), .int (nI (q_day (ln 0) (ln 1) (ln 2) (ln 3) (ln 4) d b).2.1)])) ∧ g[8]? = some (.inl (0, 60, .inl (fun j => nI ((q_day (ln 0) (ln 1) (ln 2) (ln 3) (ln 4) d b).2.2.1 j)))) ∧ g[9]? = some (.inl (0, 60, .inl (fun j => nI ((q_day (ln 0) (ln 1) (ln 2) (ln 3) (ln 4) d b).2.2.2.1 j)))) ∧ g[10]? = some (.inl (0, 60, .inl (fun j => nI ((q_day (ln 0) (ln 1) (ln 2) (ln 3) (ln 4) d b).2.2.2.2 j))))) from (by obtain ⟨r0, h0, K0, q0, Q0⟩ := mv_Kex g0; subst q0; exact ⟨h0, K0, Q0⟩)
  show mv_g ev mX0_liveThrough 0 [.ref 7, .int (nI d), .ref 1, .null, .null, .null] [] h _
  have fr : mv_fra [7, 8, 9, 10] h h := mv_fra.rf
  have hwv := hw.1
  obtain ⟨g0, g1, g2, g3, g3b, g4, g7, gmo⟩ := hw.2
  refine mv_aload_n dX0_liveThrough_0 rfl ?_
  refine mv_getf (ci := 0) (f := 3) dX0_liveThrough_1 HB rfl (by decide) wd_151 rfl ?_
  refine mv_istore_n dX0_liveThrough_4 (by decide) ?_
  refine mv_aload_n dX0_liveThrough_5 rfl ?_
  refine mv_sipush (v := nI 1000) dX0_liveThrough_6 (by decide) ?_
  obtain ⟨h1, K2, f3, y4⟩ := (k_X0_draw (ev := ev) (b := b) (t := d) (m := 1000) HB hb.2.1 (by omega) (by omega))
  refine mv_cV1 (ci := 0) dX0_liveThrough_9 lk_X0_liveThrough_55 HB rfl (Nat.le_of_ble_eq_true rfl) (Nat.le_of_ble_eq_true rfl) K2 ?_
  have HB : h1[7]? = some (.inr (0, [.ref 8, .ref 9, .ref 10, .int (nI (t_ds b).1), .int (nI d), .int (nI (t_ds b).2.1)])) := y4
  have H8 := f3.get (by decide) H8
  have H9 := f3.get (by decide) H9
  have H10 := f3.get (by decide) H10
  have HL := f3.get (by decide) HL
  have HV := f3.get (by decide) HV
  have fr := fr.trans f3 (by decide)
  refine mv_aload_n dX0_liveThrough_12 rfl ?_
  refine mv_iconst (v := nI 0) dX0_liveThrough_13 (by decide) ?_
  refine mv_cV1 (ci := 5) dX0_liveThrough_14 lk_X0_liveThrough_59 HL rfl (Nat.le_of_ble_eq_true rfl) (Nat.le_of_ble_eq_true rfl) (k_X5_value (ev := ev) HL HV (by omega)) ?_
  refine mv_topI (y := nI (ln 0)) (hwv 0 (by decide) (by decide)) ?_
  refine mv_icmp_ge (tgt := 32) dX0_liveThrough_17 (by decide) (fun c17 => ?_) (fun c17 => ?_)
  · have c17 : ln 0 ≤ t_sd b.2.1 / 65536 % 1000 := (nI_leI (by omega) (by omega)).mp c17
    refine mv_iconst (v := nI 0) dX0_liveThrough_32 (by decide) ?_
    refine mv_istore dX0_liveThrough_33 (by decide) ?_
    have x35 := q_d1_BI (R := ln 0) (G := ln 1) hb hn hd
    have e35 : q_d1 (ln 0) (ln 1) d b = (t_ds b) := (by unfold q_d1; first | exact if_pos (by omega) | exact if_neg (by omega))
    exact l_X0_live hb hn hdd hd hw (b.1 + 1) 0 (t_ds b) h1 (by omega) fr HB H8 H9 H10 HL HV (Nat.zero_le _) (e35 ▸ x35.1) (e35 ▸ x35.2.1) (fun j hj => by rw [← e35, x35.2.2 j hj]; exact hdd j hj) (by rw [← e35, Nat.sub_zero]; rfl)
  · have c17 : ¬ (ln 0 ≤ t_sd b.2.1 / 65536 % 1000) := fun z => c17 ((nI_leI (by omega) (by omega)).mpr z)
    refine mv_aload_n dX0_liveThrough_20 rfl ?_
    refine mv_iload_n dX0_liveThrough_21 rfl ?_
    refine mv_aload_n dX0_liveThrough_22 rfl ?_
    refine mv_bipush (v := nI 64) dX0_liveThrough_23 (by decide) ?_
    obtain ⟨h5, K6, f7, y8⟩ := (k_X0_draw (ev := ev) (b := (t_ds b)) (t := d) (m := 64) HB (t_sd_lt _) (by omega) (by omega))
    refine mv_cV1 (ci := 0) dX0_liveThrough_25 lk_X0_liveThrough_55 HB rfl (Nat.le_of_ble_eq_true rfl) (Nat.le_of_ble_eq_true rfl) K6 ?_
    have HB : h5[7]? = some (.inr (0, [.ref 8, .ref 9, .ref 10, .int (nI (t_ds (t_ds b)).1), .int (nI d), .int (nI (t_ds (t_ds b)).2.1)])) := y8
    have H8 := f7.get (by decide) H8
    have H9 := f7.get (by decide) H9
    have H10 := f7.get (by decide) H10
    have HL := f7.get (by decide) HL
    have HV := f7.get (by decide) HV
    have fr := fr.trans f7 (by decide)
    refine mv_aload_n dX0_liveThrough_28 rfl ?_
    obtain ⟨h9, K10, f11, y12, y13, y14, y15⟩ := (k_X0_come (ev := ev) (b := (t_ds (t_ds b))) (t := d) (d := d) (p := (t_sd (t_ds b).2.1 / 65536 % 64)) (lw := lw) (G := ln 1) HB H8 H9 H10 HL HV (show _ < 60 by assumption) (t_sd_lt _) (hwv 1 (by decide) (by decide)) g1)
    refine mv_cV3 (ci := 0) dX0_liveThrough_29 lk_X0_liveThrough_64 HB rfl (Nat.le_of_ble_eq_true rfl) (Nat.le_of_ble_eq_true rfl) K10 ?_
    have HB : h9[7]? = some (.inr (0, [.ref 8, .ref 9, .ref 10, .int (nI (t_cm (ln 1) d (t_sd (t_ds b).2.1 / 65536 % 64) (t_ds (t_ds b))).1), .int (nI d), .int (nI (t_cm (ln 1) d (t_sd (t_ds b).2.1 / 65536 % 64) (t_ds (t_ds b))).2.1)])) := y12
    have H8 : h9[8]? = some (.inl (0, 60, .inl (fun j => nI ((t_cm (ln 1) d (t_sd (t_ds b).2.1 / 65536 % 64) (t_ds (t_ds b))).2.2.1 j)))) := y13
    have H9 : h9[9]? = some (.inl (0, 60, .inl (fun j => nI ((t_cm (ln 1) d (t_sd (t_ds b).2.1 / 65536 % 64) (t_ds (t_ds b))).2.2.2.1 j)))) := y14
    have H10 : h9[10]? = some (.inl (0, 60, .inl (fun j => nI ((t_cm (ln 1) d (t_sd (t_ds b).2.1 / 65536 % 64) (t_ds (t_ds b))).2.2.2.2 j)))) := y15
    have HL := f11.get (by decide) HL
    have HV := f11.get (by decide) HV
    have fr := fr.trans f11 (by decide)
    refine mv_iconst (v := nI 0) dX0_liveThrough_32 (by decide) ?_
    refine mv_istore dX0_liveThrough_33 (by decide) ?_
    have x35 := q_d1_BI (R := ln 0) (G := ln 1) hb hn hd
    have e35 : q_d1 (ln 0) (ln 1) d b = (t_cm (ln 1) d (t_sd (t_ds b).2.1 / 65536 % 64) (t_ds (t_ds b))) := (by unfold q_d1; first | exact if_pos (by omega) | exact if_neg (by omega))
    exact l_X0_live hb hn hdd hd hw (b.1 + 1) 0 (t_cm (ln 1) d (t_sd (t_ds b).2.1 / 65536 % 64) (t_ds (t_ds b))) h9 (by omega) fr HB H8 H9 H10 HL HV (Nat.zero_le _) (e35 ▸ x35.1) (e35 ▸ x35.2.1) (fun j hj => by rw [← e35, x35.2.2 j hj]; exact hdd j hj) (by rw [← e35, Nat.sub_zero]; rfl)
