/-- what goes on from the first is a beginning -/
theorem q_cnt_cut {P : Nat → Prop} (n : Nat) (h : ∀ i j, i < j → j < n → P j → P i) : ∀ k, k < n → (P k ↔ k < q_cnt P n) := by
  induction n with
  | zero => intro k hk; exact absurd hk (Nat.not_lt_zero _)
  | succ n ih =>
    have ih2 := ih (fun i j hij hj hp => h i j hij (by omega) hp)
    intro k hk
    by_cases hn : P n
    · have all : ∀ m, m ≤ n → q_cnt P m = m := by
        intro m
        induction m with
        | zero => intro _; rfl
        | succ m im =>
          intro hm
          rw [q_cnt_y (h m n (by omega) (by omega) hn), im (by omega)]
      rw [q_cnt_y hn, all n (Nat.le_refl _)]
      constructor
      · intro _; exact hk
      · intro _
        by_cases e : k = n
        · rw [e]; exact hn
        · exact h k n (by omega) (by omega) hn
    · rw [q_cnt_n hn]
      by_cases e : k = n
      · rw [e]
        constructor
        · intro z; exact absurd z hn
        · intro z; have := q_cnt_le P n; omega
      · exact ih2 k (by omega)
noncomputable def q_ut (b : t_B) (d : Int32) : Nat := q_cnt (fun k => nI (b.2.2.1 k) ≤ d) b.1
theorem q_ut_le (b : t_B) (d : Int32) : q_ut b d ≤ b.1 := q_cnt_le _ _
theorem q_ut_cut {dd : Nat} {b : t_B} (hb : q_BI dd b) (d : Int32) : ∀ k, k < b.1 → (nI (b.2.2.1 k) ≤ d ↔ k < q_ut b d) := by
  refine q_cnt_cut b.1 (fun i j hij hj hp => ?_)
  have h1 := hb.2.2.2.2.2.2 i j hij hj
  have h2 := hb.2.2.1 j
  exact Int32.le_trans ((nI_leI (by omega) (by omega)).mpr h1) hp
theorem q_ut_a {dd a : Nat} {b : t_B} {d : Int32} (hb : q_BI dd b) (ha : a ≤ 399) (hda : d < nI a) : ∀ k, k < q_ut b d → b.2.2.1 k < a := by
  intro k hk
  have h0 := hb.2.2.1 k
  have h1 := (q_ut_cut hb d k (Nat.lt_of_lt_of_le hk (q_ut_le b d))).mpr hk
  exact (nI_ltI (by omega) (by omega)).mp (Int32.lt_of_le_of_lt h1 hda)
set_option maxRecDepth 100000 in
theorem k_X3_odds {ev : mv_E} {h : mv_H} {b : t_B} {t : Nat} {lw : Nat → Int32} {ln : Nat → Nat} {d : Int32} {p m z a e dd : Nat} (HF : h[21]? = some (.inr (3, [.ref 1, .ref 7]))) (HL : h[1]? = some (.inr (5, [.ref 2]))) (HV : h[2]? = some (.inl (0, 8, .inl lw))) (HB : h[7]? = some (.inr (0, [.ref 8, .ref 9, .ref 10, .int (nI b.1), .int (nI t), .int (nI b.2.1)]))) (H8 : h[8]? = some (.inl (0, 60, .inl (fun j => nI (b.2.2.1 j))))) (H9 : h[9]? = some (.inl (0, 60, .inl (fun j => nI (b.2.2.2.1 j))))) (H10 : h[10]? = some (.inl (0, 60, .inl (fun j => nI (b.2.2.2.2 j))))) (hw : q_LW lw ln) (hb : q_BI dd b) (hp : p < 64) (hm0 : m < 8) (hz1 : 1 ≤ z) (hz9 : z ≤ 9) (he : e ≤ 399) (hae : a ≤ e) (hda : d < nI a) : mv_K ev mX3_ofShakes [.ref 21, .int d, .int (nI p), .int (nI m), .int (nI z), .int (nI a), .int (nI e)] h (some (.int (nI (q_od ln b p m z a e (q_ut b d))))) h :=
  k_X3_ofShakes HF HL HV HB H8 H9 H10 hw hb hp hm0 hz1 hz9 he hae (q_ut_le b d) (q_ut_cut hb d) (q_ut_a hb (by omega) hda)
/-- claims: how many; told on, places, distances, sizes, first days, last days, hundredths -/
abbrev q_C : Type := Nat × (Nat → Nat) × (Nat → Nat) × (Nat → Nat) × (Nat → Nat) × (Nat → Nat) × (Nat → Nat) × (Nat → Nat)
def q_CI (c : q_C) : Prop := c.1 ≤ 12 ∧ ∀ j, j < c.1 → (c.2.1 j < c.2.2.2.2.2.1 j ∧ c.2.2.2.2.2.1 j ≤ c.2.2.2.2.2.2.1 j ∧ c.2.2.2.2.2.2.1 j ≤ 399) ∧ c.2.2.1 j < 64 ∧ c.2.2.2.1 j < 8 ∧ (1 ≤ c.2.2.2.2.1 j ∧ c.2.2.2.2.1 j ≤ 9) ∧ c.2.2.2.2.2.2.2 j ≤ 100
def q_cw (c : q_C) (t p m z a e q : Nat) : q_C := (c.1 + 1, t_up c.2.1 c.1 t, t_up c.2.2.1 c.1 p, t_up c.2.2.2.1 c.1 m, t_up c.2.2.2.2.1 c.1 z, t_up c.2.2.2.2.2.1 c.1 a, t_up c.2.2.2.2.2.2.1 c.1 e, t_up c.2.2.2.2.2.2.2 c.1 q)
def q_hit (c : q_C) (b : t_B) (k : Nat) : Int32 := q_fs b (c.2.2.1 k) (c.2.2.2.1 k) (c.2.2.2.2.1 k) (c.2.2.2.2.2.1 k) (c.2.2.2.2.2.2.1 k) b.1 0
noncomputable def q_al (ln : Nat → Nat) (c : q_C) (b : t_B) (k : Nat) : Nat := q_od ln b (c.2.2.1 k) (c.2.2.2.1 k) (c.2.2.2.2.1 k) (c.2.2.2.2.2.1 k) (c.2.2.2.2.2.2.1 k) (q_ut b (nI (c.2.1 k))) / 10000
def q_sq (x q y : Nat) : Int32 := (nI x - nI y) * (nI x - nI y) - (nI q - nI y) * (nI q - nI y)
noncomputable def q_sc (ln : Nat → Nat) (c : q_C) (b : t_B) (k : Nat) : Int32 := q_sq (q_al ln c b k) (c.2.2.2.2.2.2.2 k) (if q_hit c b k = -1 then 0 else 100)
/-- words: how many, days, places, said -/
abbrev q_W : Type := Nat × (Nat → Nat) × (Nat → Nat) × (Nat → Nat)
def q_WOI (w : q_W) : Prop := w.1 ≤ 12 ∧ (∀ j, w.2.1 j ≤ 398) ∧ (∀ j, w.2.2.1 j < 64) ∧ (∀ j, w.2.2.2 j ≤ 2)
def q_ww (w : q_W) (d p x : Nat) : q_W := (w.1 + 1, t_up w.2.1 w.1 d, t_up w.2.2.1 w.1 p, t_up w.2.2.2 w.1 x)
def q_kn (x y : Nat) : Nat := if x ≤ 2 * y then 0 else if x ≤ 10 * y then 1 else 2
set_option maxRecDepth 100000 in
theorem k_X1_size {ev : mv_E} {h : mv_H} {c : q_C} (HC : h[34]? = some (.inr (1, [.ref 21, .ref 7, .ref 35, .ref 36, .ref 37, .ref 38, .ref 39, .ref 40, .ref 41, .int (nI c.1)])))  : mv_K ev mX1_size [.ref 34] h (some (.int (nI c.1))) h := by
  refine mv_Kof ?_
  show mv_g ev mX1_size 0 [.ref 34] [] h _
  refine mv_aload_n dX1_size_0 rfl ?_
  refine mv_getf (ci := 1) (f := 9) dX1_size_1 HC rfl (by decide) wd_284 rfl ?_
  exact mv_iret dX1_size_4 rfl rfl ⟨rfl, rfl⟩
set_option maxRecDepth 100000 in
theorem k_X1_isFull {ev : mv_E} {h : mv_H} {c : q_C} (HC : h[34]? = some (.inr (1, [.ref 21, .ref 7, .ref 35, .ref 36, .ref 37, .ref 38, .ref 39, .ref 40, .ref 41, .int (nI c.1)]))) (hn : c.1 ≤ 12) : mv_K ev mX1_isFull [.ref 34] h (some (.int (mv_b (12 ≤ c.1)))) h := by
  refine mv_Kof ?_
  show mv_g ev mX1_isFull 0 [.ref 34] [] h _
  refine mv_aload_n dX1_isFull_0 rfl ?_
  refine mv_getf (ci := 1) (f := 9) dX1_isFull_1 HC rfl (by decide) wd_284 rfl ?_
  refine mv_bipush (v := nI 12) dX1_isFull_4 (by decide) ?_
  refine mv_icmp_lt (tgt := 13) dX1_isFull_6 (by decide) (fun c6 => ?_) (fun c6 => ?_)
  · have c6 : c.1 < 12 := (nI_ltI (by omega) (by omega)).mp c6
    refine mv_iconst (v := nI 0) dX1_isFull_13 (by decide) ?_
    exact mv_iret dX1_isFull_14 rfl rfl ⟨(congrArg (fun z => some (Value.int z)) (by first | exact (mv_b_t (by omega)).symm | exact (mv_b_f (by omega)).symm)), rfl⟩
  · have c6 : ¬ (c.1 < 12) := fun z => c6 ((nI_ltI (by omega) (by omega)).mpr z)
    refine mv_iconst (v := nI 1) dX1_isFull_9 (by decide) ?_
    refine mv_goto (tgt := 14) dX1_isFull_10 (by decide) ?_
    exact mv_iret dX1_isFull_14 rfl rfl ⟨(congrArg (fun z => some (Value.int z)) (by first | exact (mv_b_t (by omega)).symm | exact (mv_b_f (by omega)).symm)), rfl⟩
set_option maxRecDepth 100000 in
theorem k_X1_hasI {ev : mv_E} {h : mv_H} {c : q_C} {k : Int32} (HC : h[34]? = some (.inr (1, [.ref 21, .ref 7, .ref 35, .ref 36, .ref 37, .ref 38, .ref 39, .ref 40, .ref 41, .int (nI c.1)])))  : mv_K ev mX1_has [.ref 34, .int k] h (some (.int (mv_b (0 ≤ k ∧ k < nI c.1 ∧ k < nI 12)))) h := by
  refine mv_Kof ?_
  show mv_g ev mX1_has 0 [.ref 34, .int k] [] h _
  refine mv_iload_n dX1_has_0 rfl ?_
  refine mv_if_lt (tgt := 22) dX1_has_1 (by decide) (fun c1 => ?_) (fun c1 => ?_)
  · skip
    refine mv_iconst (v := nI 0) dX1_has_22 (by decide) ?_
    exact mv_iret dX1_has_23 rfl rfl ⟨(congrArg (fun z => some (Value.int z)) (by first | exact (mv_b_t ⟨Int32.not_lt.mp c1, Int32.not_le.mp c9, Int32.not_le.mp c15⟩).symm | exact (mv_b_f (fun z => absurd z.1 (Int32.not_le.mpr c1))).symm | exact (mv_b_f (fun z => absurd z.2.1 (Int32.not_lt.mpr c9))).symm | exact (mv_b_f (fun z => absurd z.2.2 (Int32.not_lt.mpr c15))).symm)), rfl⟩
  · skip
    refine mv_iload_n dX1_has_4 rfl ?_
    refine mv_aload_n dX1_has_5 rfl ?_
    refine mv_getf (ci := 1) (f := 9) dX1_has_6 HC rfl (by decide) wd_284 rfl ?_
    refine mv_icmp_ge (tgt := 22) dX1_has_9 (by decide) (fun c9 => ?_) (fun c9 => ?_)
    · skip
      refine mv_iconst (v := nI 0) dX1_has_22 (by decide) ?_
      exact mv_iret dX1_has_23 rfl rfl ⟨(congrArg (fun z => some (Value.int z)) (by first | exact (mv_b_t ⟨Int32.not_lt.mp c1, Int32.not_le.mp c9, Int32.not_le.mp c15⟩).symm | exact (mv_b_f (fun z => absurd z.1 (Int32.not_le.mpr c1))).symm | exact (mv_b_f (fun z => absurd z.2.1 (Int32.not_lt.mpr c9))).symm | exact (mv_b_f (fun z => absurd z.2.2 (Int32.not_lt.mpr c15))).symm)), rfl⟩
    · skip
      refine mv_iload_n dX1_has_12 rfl ?_
      refine mv_bipush (v := nI 12) dX1_has_13 (by decide) ?_
      refine mv_icmp_ge (tgt := 22) dX1_has_15 (by decide) (fun c15 => ?_) (fun c15 => ?_)
      · skip
        refine mv_iconst (v := nI 0) dX1_has_22 (by decide) ?_
        exact mv_iret dX1_has_23 rfl rfl ⟨(congrArg (fun z => some (Value.int z)) (by first | exact (mv_b_t ⟨Int32.not_lt.mp c1, Int32.not_le.mp c9, Int32.not_le.mp c15⟩).symm | exact (mv_b_f (fun z => absurd z.1 (Int32.not_le.mpr c1))).symm | exact (mv_b_f (fun z => absurd z.2.1 (Int32.not_lt.mpr c9))).symm | exact (mv_b_f (fun z => absurd z.2.2 (Int32.not_lt.mpr c15))).symm)), rfl⟩
      · skip
        refine mv_iconst (v := nI 1) dX1_has_18 (by decide) ?_
        refine mv_goto (tgt := 23) dX1_has_19 (by decide) ?_
        exact mv_iret dX1_has_23 rfl rfl ⟨(congrArg (fun z => some (Value.int z)) (by first | exact (mv_b_t ⟨Int32.not_lt.mp c1, Int32.not_le.mp c9, Int32.not_le.mp c15⟩).symm | exact (mv_b_f (fun z => absurd z.1 (Int32.not_le.mpr c1))).symm | exact (mv_b_f (fun z => absurd z.2.1 (Int32.not_lt.mpr c9))).symm | exact (mv_b_f (fun z => absurd z.2.2 (Int32.not_lt.mpr c15))).symm)), rfl⟩
set_option maxRecDepth 100000 in
theorem k_X1_has {ev : mv_E} {h : mv_H} {c : q_C} {k : Nat} (HC : h[34]? = some (.inr (1, [.ref 21, .ref 7, .ref 35, .ref 36, .ref 37, .ref 38, .ref 39, .ref 40, .ref 41, .int (nI c.1)]))) (hk : k < c.1) (hn : c.1 ≤ 12) : mv_K ev mX1_has [.ref 34, .int (nI k)] h (some (.int (nI 1))) h := by
  refine mv_Kof ?_
  show mv_g ev mX1_has 0 [.ref 34, .int (nI k)] [] h _
  refine mv_iload_n dX1_has_0 rfl ?_
  refine mv_if_lt (tgt := 22) dX1_has_1 (by decide) (fun z => absurd z ((nI_pos (by omega)))) (fun c1 => ?_)
  refine mv_iload_n dX1_has_4 rfl ?_
  refine mv_aload_n dX1_has_5 rfl ?_
  refine mv_getf (ci := 1) (f := 9) dX1_has_6 HC rfl (by decide) wd_284 rfl ?_
  refine mv_icmp_ge (tgt := 22) dX1_has_9 (by decide) (fun z => absurd z ((fun z => absurd ((nI_leI (by omega) (by omega)).mp z) (by omega)))) (fun c9 => ?_)
  refine mv_iload_n dX1_has_12 rfl ?_
  refine mv_bipush (v := nI 12) dX1_has_13 (by decide) ?_
  refine mv_icmp_ge (tgt := 22) dX1_has_15 (by decide) (fun z => absurd z ((fun z => absurd ((nI_leI (by omega) (by omega)).mp z) (by omega)))) (fun c15 => ?_)
  refine mv_iconst (v := nI 1) dX1_has_18 (by decide) ?_
  refine mv_goto (tgt := 23) dX1_has_19 (by decide) ?_
  exact mv_iret dX1_has_23 rfl rfl ⟨rfl, rfl⟩
set_option maxRecDepth 100000 in
theorem k_X1_write {ev : mv_E} {h : mv_H} {c : q_C} {t : Nat} {p : Nat} {m : Nat} {z : Nat} {a : Nat} {e : Nat} {q : Nat} (HC : h[34]? = some (.inr (1, [.ref 21, .ref 7, .ref 35, .ref 36, .ref 37, .ref 38, .ref 39, .ref 40, .ref 41, .int (nI c.1)]))) (C35 : h[35]? = some (.inl (0, 12, .inl (fun j => nI (c.2.1 j))))) (C36 : h[36]? = some (.inl (0, 12, .inl (fun j => nI (c.2.2.1 j))))) (C37 : h[37]? = some (.inl (0, 12, .inl (fun j => nI (c.2.2.2.1 j))))) (C38 : h[38]? = some (.inl (0, 12, .inl (fun j => nI (c.2.2.2.2.1 j))))) (C39 : h[39]? = some (.inl (0, 12, .inl (fun j => nI (c.2.2.2.2.2.1 j))))) (C40 : h[40]? = some (.inl (0, 12, .inl (fun j => nI (c.2.2.2.2.2.2.1 j))))) (C41 : h[41]? = some (.inl (0, 12, .inl (fun j => nI (c.2.2.2.2.2.2.2 j))))) (hn : c.1 < 12) : ∃ h2, mv_K ev mX1_write [.ref 34, .int (nI t), .int (nI p), .int (nI m), .int (nI z), .int (nI a), .int (nI e), .int (nI q)] h (some (.int (nI c.1))) h2 ∧ mv_fra [34, 35, 36, 37, 38, 39, 40, 41] h h2 ∧ h2[34]? = some (.inr (1, [.ref 21, .ref 7, .ref 35, .ref 36, .ref 37, .ref 38, .ref 39, .ref 40, .ref 41, .int (nI (q_cw c t p m z a e q).1)])) ∧ h2[35]? = some (.inl (0, 12, .inl (fun j => nI ((q_cw c t p m z a e q).2.1 j)))) ∧ h2[36]? = some (.inl (0, 12, .inl (fun j => nI ((q_cw c t p m z a e q).2.2.1 j)))) ∧ h2[37]? = some (.inl (0, 12, .inl (fun j => nI ((q_cw c t p m z a e q).2.2.2.1 j)))) ∧ h2[38]? = some (.inl (0, 12, .inl (fun j => nI ((q_cw c t p m z a e q).2.2.2.2.1 j)))) ∧ h2[39]? = some (.inl (0, 12, .inl (fun j => nI ((q_cw c t p m z a e q).2.2.2.2.2.1 j)))) ∧ h2[40]? = some (.inl (0, 12, .inl (fun j => nI ((q_cw c t p m z a e q).2.2.2.2.2.2.1 j)))) ∧ h2[41]? = some (.inl (0, 12, .inl (fun j => nI ((q_cw c t p m z a e q).2.2.2.2.2.2.2 j)))) := by
  suffices g0 : mv_g ev mX1_write 0 (mv_ent [.ref 34, .int (nI t), .int (nI p), .int (nI m), .int (nI z), .int (nI a), .int (nI e), .int (nI q)] (mv_ml mX1_write)) [] h (fun r g => r = some (.int (nI c.1)) ∧ mv_fra [34, 35, 36, 37, 38, 39, 40, 41] h g ∧ g[34]? = some (.inr (1, [.ref 21, .ref 7, .ref 35, .ref 36, .ref 37, .ref 38, .ref 39, .ref 40, .ref 41, .int (nI (q_cw c t p m z a e q).1)])) ∧ g[35]? = some (.inl (0, 12, .inl (fun j => nI ((q_cw c t p m z a e q).2.1 j)))) ∧ g[36]? = some (.inl (0, 12, .inl (fun j => nI ((q_cw c t p m z a e q).2.2.1 j)))) ∧ g[37]? = some (.inl (0, 12, .inl (fun j => nI ((q_cw c t p m z a e q).2.2.2.1 j)))) ∧ g[38]? = some (.inl (0, 12, .inl (fun j => nI ((q_cw c t p m z a e q).2.2.2.2.1 j)))) ∧ g[39]? = some (.inl (0, 12, .inl (fun j => nI ((q_cw c t p m z a e q).2.2.2.2.2.1 j)))) ∧ g[40]? = some (.inl (0, 12, .inl (fun j => nI ((q_cw c t p m z a e q).2.2.2.2.2.2.1 j)))) ∧ g[41]? = some (.inl (0, 12, .inl (fun j => nI ((q_cw c t p m z a e q).2.2.2.2.2.2.2 j))))) from (by obtain ⟨r0, h0, K0, q0, Q0⟩ := mv_Kex g0; subst q0; exact ⟨h0, K0, Q0⟩)
  show mv_g ev mX1_write 0 [.ref 34, .int (nI t), .int (nI p), .int (nI m), .int (nI z), .int (nI a), .int (nI e), .int (nI q)] [] h _
  have fr : mv_fra [34, 35, 36, 37, 38, 39, 40, 41] h h := mv_fra.rf
  refine mv_aload_n dX1_write_0 rfl ?_
  refine mv_getf (ci := 1) (f := 9) dX1_write_1 HC rfl (by decide) wd_284 rfl ?_
  refine mv_if_lt (tgt := 14) dX1_write_4 (by decide) (fun z => absurd z ((nI_pos (by omega)))) (fun c4 => ?_)
  refine mv_aload_n dX1_write_7 rfl ?_
  refine mv_cV0 (ci := 1) dX1_write_8 lk_X1_write_45 HC rfl (Nat.le_of_ble_eq_true rfl) (Nat.le_of_ble_eq_true rfl) (k_X1_isFull (ev := ev) HC (by omega)) ?_
  refine mv_if_eq (tgt := 16) dX1_write_11 (by decide) (fun c11 => ?_) (fun z => absurd (((mv_b_0 _).mpr (by omega))) z)
  refine mv_aload_n dX1_write_16 rfl ?_
  refine mv_getf (ci := 1) (f := 2) dX1_write_17 HC rfl (by decide) wd_277 rfl ?_
  refine mv_aload_n dX1_write_20 rfl ?_
  refine mv_getf (ci := 1) (f := 9) dX1_write_21 HC rfl (by decide) wd_284 rfl ?_
  refine mv_iload_n dX1_write_24 rfl ?_
  refine mv_iastN (j := c.1) dX1_write_25 C35 rfl (by decide) (by omega) (fun h1 e2 => ?_)
  rw [upd_nI] at e2
  have HC := mv_ne e2 (by decide) HC
  have C35 : h1[35]? = some (.inl (0, 12, .inl (fun j => nI (t_up c.2.1 c.1 t j)))) := mv_eq e2 C35
  have C36 := mv_ne e2 (by decide) C36
  have C37 := mv_ne e2 (by decide) C37
  have C38 := mv_ne e2 (by decide) C38
  have C39 := mv_ne e2 (by decide) C39
  have C40 := mv_ne e2 (by decide) C40
  have C41 := mv_ne e2 (by decide) C41
  have fr := fr.set e2 (by decide)
  clear e2
  refine mv_aload_n dX1_write_26 rfl ?_
  refine mv_getf (ci := 1) (f := 3) dX1_write_27 HC rfl (by decide) wd_278 rfl ?_
  refine mv_aload_n dX1_write_30 rfl ?_
  refine mv_getf (ci := 1) (f := 9) dX1_write_31 HC rfl (by decide) wd_284 rfl ?_
  refine mv_iload_n dX1_write_34 rfl ?_
  refine mv_iastN (j := c.1) dX1_write_35 C36 rfl (by decide) (by omega) (fun h3 e4 => ?_)
  rw [upd_nI] at e4
  have HC := mv_ne e4 (by decide) HC
  have C35 := mv_ne e4 (by decide) C35
  have C36 : h3[36]? = some (.inl (0, 12, .inl (fun j => nI (t_up c.2.2.1 c.1 p j)))) := mv_eq e4 C36
  have C37 := mv_ne e4 (by decide) C37
  have C38 := mv_ne e4 (by decide) C38
  have C39 := mv_ne e4 (by decide) C39
  have C40 := mv_ne e4 (by decide) C40
  have C41 := mv_ne e4 (by decide) C41
  have fr := fr.set e4 (by decide)
  clear e4
  refine mv_aload_n dX1_write_36 rfl ?_
  refine mv_getf (ci := 1) (f := 4) dX1_write_37 HC rfl (by decide) wd_279 rfl ?_
  refine mv_aload_n dX1_write_40 rfl ?_
  refine mv_getf (ci := 1) (f := 9) dX1_write_41 HC rfl (by decide) wd_284 rfl ?_
  refine mv_iload_n dX1_write_44 rfl ?_
  refine mv_iastN (j := c.1) dX1_write_45 C37 rfl (by decide) (by omega) (fun h5 e6 => ?_)
  rw [upd_nI] at e6
  have HC := mv_ne e6 (by decide) HC
  have C35 := mv_ne e6 (by decide) C35
  have C36 := mv_ne e6 (by decide) C36
  have C37 : h5[37]? = some (.inl (0, 12, .inl (fun j => nI (t_up c.2.2.2.1 c.1 m j)))) := mv_eq e6 C37
  have C38 := mv_ne e6 (by decide) C38
  have C39 := mv_ne e6 (by decide) C39
  have C40 := mv_ne e6 (by decide) C40
  have C41 := mv_ne e6 (by decide) C41
  have fr := fr.set e6 (by decide)
  clear e6
  refine mv_aload_n dX1_write_46 rfl ?_
  refine mv_getf (ci := 1) (f := 5) dX1_write_47 HC rfl (by decide) wd_280 rfl ?_
  refine mv_aload_n dX1_write_50 rfl ?_
  refine mv_getf (ci := 1) (f := 9) dX1_write_51 HC rfl (by decide) wd_284 rfl ?_
  refine mv_iload dX1_write_54 rfl ?_
  refine mv_iastN (j := c.1) dX1_write_56 C38 rfl (by decide) (by omega) (fun h7 e8 => ?_)
  rw [upd_nI] at e8
  have HC := mv_ne e8 (by decide) HC
  have C35 := mv_ne e8 (by decide) C35
  have C36 := mv_ne e8 (by decide) C36
  have C37 := mv_ne e8 (by decide) C37
  have C38 : h7[38]? = some (.inl (0, 12, .inl (fun j => nI (t_up c.2.2.2.2.1 c.1 z j)))) := mv_eq e8 C38
  have C39 := mv_ne e8 (by decide) C39
  have C40 := mv_ne e8 (by decide) C40
  have C41 := mv_ne e8 (by decide) C41
  have fr := fr.set e8 (by decide)
  clear e8
  refine mv_aload_n dX1_write_57 rfl ?_
  refine mv_getf (ci := 1) (f := 6) dX1_write_58 HC rfl (by decide) wd_281 rfl ?_
  refine mv_aload_n dX1_write_61 rfl ?_
  refine mv_getf (ci := 1) (f := 9) dX1_write_62 HC rfl (by decide) wd_284 rfl ?_
  refine mv_iload dX1_write_65 rfl ?_
  refine mv_iastN (j := c.1) dX1_write_67 C39 rfl (by decide) (by omega) (fun h9 e10 => ?_)
  rw [upd_nI] at e10
  have HC := mv_ne e10 (by decide) HC
  have C35 := mv_ne e10 (by decide) C35
  have C36 := mv_ne e10 (by decide) C36
  have C37 := mv_ne e10 (by decide) C37
  have C38 := mv_ne e10 (by decide) C38
  have C39 : h9[39]? = some (.inl (0, 12, .inl (fun j => nI (t_up c.2.2.2.2.2.1 c.1 a j)))) := mv_eq e10 C39
  have C40 := mv_ne e10 (by decide) C40
  have C41 := mv_ne e10 (by decide) C41
  have fr := fr.set e10 (by decide)
  clear e10
  refine mv_aload_n dX1_write_68 rfl ?_
  refine mv_getf (ci := 1) (f := 7) dX1_write_69 HC rfl (by decide) wd_282 rfl ?_
  refine mv_aload_n dX1_write_72 rfl ?_
  refine mv_getf (ci := 1) (f := 9) dX1_write_73 HC rfl (by decide) wd_284 rfl ?_
  refine mv_iload dX1_write_76 rfl ?_
  refine mv_iastN (j := c.1) dX1_write_78 C40 rfl (by decide) (by omega) (fun h11 e12 => ?_)
  rw [upd_nI] at e12
  have HC := mv_ne e12 (by decide) HC
  have C35 := mv_ne e12 (by decide) C35
  have C36 := mv_ne e12 (by decide) C36
  have C37 := mv_ne e12 (by decide) C37
  have C38 := mv_ne e12 (by decide) C38
  have C39 := mv_ne e12 (by decide) C39
  have C40 : h11[40]? = some (.inl (0, 12, .inl (fun j => nI (t_up c.2.2.2.2.2.2.1 c.1 e j)))) := mv_eq e12 C40
  have C41 := mv_ne e12 (by decide) C41
  have fr := fr.set e12 (by decide)
  clear e12
  refine mv_aload_n dX1_write_79 rfl ?_
  refine mv_getf (ci := 1) (f := 8) dX1_write_80 HC rfl (by decide) wd_283 rfl ?_
  refine mv_aload_n dX1_write_83 rfl ?_
  refine mv_getf (ci := 1) (f := 9) dX1_write_84 HC rfl (by decide) wd_284 rfl ?_
  refine mv_iload dX1_write_87 rfl ?_
  refine mv_iastN (j := c.1) dX1_write_89 C41 rfl (by decide) (by omega) (fun h13 e14 => ?_)
  rw [upd_nI] at e14
  have HC := mv_ne e14 (by decide) HC
  have C35 := mv_ne e14 (by decide) C35
  have C36 := mv_ne e14 (by decide) C36
  have C37 := mv_ne e14 (by decide) C37
  have C38 := mv_ne e14 (by decide) C38
  have C39 := mv_ne e14 (by decide) C39
  have C40 := mv_ne e14 (by decide) C40
  have C41 : h13[41]? = some (.inl (0, 12, .inl (fun j => nI (t_up c.2.2.2.2.2.2.2 c.1 q j)))) := mv_eq e14 C41
  have fr := fr.set e14 (by decide)
  clear e14
  refine mv_aload_n dX1_write_90 rfl ?_
  refine mv_dup dX1_write_91 rfl ?_
  refine mv_getf (ci := 1) (f := 9) dX1_write_92 HC rfl (by decide) wd_284 rfl ?_
  refine mv_iconst (v := nI 1) dX1_write_95 (by decide) ?_
  refine mv_iadd dX1_write_96 ?_
  refine mv_topI (y := nI (c.1 + 1)) (nI_add _ _) ?_
  refine mv_putf (ci := 1) (f := 9) dX1_write_97 HC rfl (by decide) wd_284 rfl rfl (fun _ => ⟨rfl, rfl⟩) (Nat.le_of_ble_eq_true rfl) ?_
  refine mv_topH (fun h15 e16 => ?_)
  have HC : h15[34]? = some (.inr (1, [.ref 21, .ref 7, .ref 35, .ref 36, .ref 37, .ref 38, .ref 39, .ref 40, .ref 41, .int (nI (c.1 + 1))])) := mv_eq e16 HC
  have C35 := mv_ne e16 (by decide) C35
  have C36 := mv_ne e16 (by decide) C36
  have C37 := mv_ne e16 (by decide) C37
  have C38 := mv_ne e16 (by decide) C38
  have C39 := mv_ne e16 (by decide) C39
  have C40 := mv_ne e16 (by decide) C40
  have C41 := mv_ne e16 (by decide) C41
  have fr := fr.set e16 (by decide)
  clear e16
  refine mv_aload_n dX1_write_100 rfl ?_
  refine mv_getf (ci := 1) (f := 9) dX1_write_101 HC rfl (by decide) wd_284 rfl ?_
  refine mv_iconst (v := nI 1) dX1_write_104 (by decide) ?_
  refine mv_isub dX1_write_105 ?_
  refine mv_topI (y := nI c.1) (by rw [pk_sub (by omega)]; exact congrArg nI (by omega)) ?_
  exact mv_iret dX1_write_106 rfl rfl ⟨rfl, fr, HC, C35, C36, C37, C38, C39, C40, C41⟩
set_option maxRecDepth 100000 in
theorem k_X1_hitBy {ev : mv_E} {h : mv_H} {c : q_C} {b : t_B} {t : Nat} {k : Nat} {dd : Nat} (HC : h[34]? = some (.inr (1, [.ref 21, .ref 7, .ref 35, .ref 36, .ref 37, .ref 38, .ref 39, .ref 40, .ref 41, .int (nI c.1)]))) (C36 : h[36]? = some (.inl (0, 12, .inl (fun j => nI (c.2.2.1 j))))) (C37 : h[37]? = some (.inl (0, 12, .inl (fun j => nI (c.2.2.2.1 j))))) (C38 : h[38]? = some (.inl (0, 12, .inl (fun j => nI (c.2.2.2.2.1 j))))) (C39 : h[39]? = some (.inl (0, 12, .inl (fun j => nI (c.2.2.2.2.2.1 j))))) (C40 : h[40]? = some (.inl (0, 12, .inl (fun j => nI (c.2.2.2.2.2.2.1 j))))) (HB : h[7]? = some (.inr (0, [.ref 8, .ref 9, .ref 10, .int (nI b.1), .int (nI t), .int (nI b.2.1)]))) (H8 : h[8]? = some (.inl (0, 60, .inl (fun j => nI (b.2.2.1 j))))) (H9 : h[9]? = some (.inl (0, 60, .inl (fun j => nI (b.2.2.2.1 j))))) (H10 : h[10]? = some (.inl (0, 60, .inl (fun j => nI (b.2.2.2.2 j))))) (hci : q_CI c) (hk : k < c.1) (hb : q_BI dd b) : mv_K ev mX1_hitBy [.ref 34, .int (nI k)] h (some (.int (q_hit c b k))) h := by
  refine mv_Kof ?_
  show mv_g ev mX1_hitBy 0 [.ref 34, .int (nI k)] [] h _
  have n0 := hci.1
  obtain ⟨⟨i1, i2, i3⟩, i4, i5, ⟨i6, i7⟩, i8⟩ := hci.2 k hk
  refine mv_aload_n dX1_hitBy_0 rfl ?_
  refine mv_iload_n dX1_hitBy_1 rfl ?_
  refine mv_cV1 (ci := 1) dX1_hitBy_2 lk_X1_hitBy_49 HC rfl (Nat.le_of_ble_eq_true rfl) (Nat.le_of_ble_eq_true rfl) (k_X1_has (ev := ev) HC (by omega) (by omega)) ?_
  refine mv_if_eq (tgt := 48) dX1_hitBy_5 (by decide) (fun z => absurd z ((by decide))) (fun c5 => ?_)
  refine mv_aload_n dX1_hitBy_8 rfl ?_
  refine mv_getf (ci := 1) (f := 1) dX1_hitBy_9 HC rfl (by decide) wd_276 rfl ?_
  refine mv_aload_n dX1_hitBy_12 rfl ?_
  refine mv_getf (ci := 1) (f := 3) dX1_hitBy_13 HC rfl (by decide) wd_278 rfl ?_
  refine mv_iload_n dX1_hitBy_16 rfl ?_
  refine mv_iaN (j := k) (x := nI (c.2.2.1 k)) dX1_hitBy_17 C36 rfl (by decide) (by omega) rfl ?_
  refine mv_aload_n dX1_hitBy_18 rfl ?_
  refine mv_getf (ci := 1) (f := 4) dX1_hitBy_19 HC rfl (by decide) wd_279 rfl ?_
  refine mv_iload_n dX1_hitBy_22 rfl ?_
  refine mv_iaN (j := k) (x := nI (c.2.2.2.1 k)) dX1_hitBy_23 C37 rfl (by decide) (by omega) rfl ?_
  refine mv_aload_n dX1_hitBy_24 rfl ?_
  refine mv_getf (ci := 1) (f := 5) dX1_hitBy_25 HC rfl (by decide) wd_280 rfl ?_
  refine mv_iload_n dX1_hitBy_28 rfl ?_
  refine mv_iaN (j := k) (x := nI (c.2.2.2.2.1 k)) dX1_hitBy_29 C38 rfl (by decide) (by omega) rfl ?_
  refine mv_aload_n dX1_hitBy_30 rfl ?_
  refine mv_getf (ci := 1) (f := 6) dX1_hitBy_31 HC rfl (by decide) wd_281 rfl ?_
  refine mv_iload_n dX1_hitBy_34 rfl ?_
  refine mv_iaN (j := k) (x := nI (c.2.2.2.2.2.1 k)) dX1_hitBy_35 C39 rfl (by decide) (by omega) rfl ?_
  refine mv_aload_n dX1_hitBy_36 rfl ?_
  refine mv_getf (ci := 1) (f := 7) dX1_hitBy_37 HC rfl (by decide) wd_282 rfl ?_
  refine mv_iload_n dX1_hitBy_40 rfl ?_
  refine mv_iaN (j := k) (x := nI (c.2.2.2.2.2.2.1 k)) dX1_hitBy_41 C40 rfl (by decide) (by omega) rfl ?_
  refine mv_cV5 (ci := 0) dX1_hitBy_42 lk_X1_hitBy_53 HB rfl (Nat.le_of_ble_eq_true rfl) (Nat.le_of_ble_eq_true rfl) (k_X0_firstSuch (ev := ev) HB H8 H9 H10 hb i4 i5 i7 (by omega) (by omega)) ?_
  refine mv_goto (tgt := 49) dX1_hitBy_45 (by decide) ?_
  exact mv_iret dX1_hitBy_49 rfl rfl ⟨rfl, rfl⟩
set_option maxRecDepth 100000 in
theorem k_X1_aloneOf {ev : mv_E} {h : mv_H} {c : q_C} {lw : Nat → Int32} {ln : Nat → Nat} {b : t_B} {t : Nat} {k : Nat} {dd : Nat} (HC : h[34]? = some (.inr (1, [.ref 21, .ref 7, .ref 35, .ref 36, .ref 37, .ref 38, .ref 39, .ref 40, .ref 41, .int (nI c.1)]))) (C35 : h[35]? = some (.inl (0, 12, .inl (fun j => nI (c.2.1 j))))) (C36 : h[36]? = some (.inl (0, 12, .inl (fun j => nI (c.2.2.1 j))))) (C37 : h[37]? = some (.inl (0, 12, .inl (fun j => nI (c.2.2.2.1 j))))) (C38 : h[38]? = some (.inl (0, 12, .inl (fun j => nI (c.2.2.2.2.1 j))))) (C39 : h[39]? = some (.inl (0, 12, .inl (fun j => nI (c.2.2.2.2.2.1 j))))) (C40 : h[40]? = some (.inl (0, 12, .inl (fun j => nI (c.2.2.2.2.2.2.1 j))))) (HF : h[21]? = some (.inr (3, [.ref 1, .ref 7]))) (HL : h[1]? = some (.inr (5, [.ref 2]))) (HV : h[2]? = some (.inl (0, 8, .inl lw))) (HB : h[7]? = some (.inr (0, [.ref 8, .ref 9, .ref 10, .int (nI b.1), .int (nI t), .int (nI b.2.1)]))) (H8 : h[8]? = some (.inl (0, 60, .inl (fun j => nI (b.2.2.1 j))))) (H9 : h[9]? = some (.inl (0, 60, .inl (fun j => nI (b.2.2.2.1 j))))) (H10 : h[10]? = some (.inl (0, 60, .inl (fun j => nI (b.2.2.2.2 j))))) (hci : q_CI c) (hk : k < c.1) (hw : q_LW lw ln) (hb : q_BI dd b) : mv_K ev mX1_aloneOf [.ref 34, .int (nI k)] h (some (.int (nI (q_al ln c b k)))) h := by
  refine mv_Kof ?_
  show mv_g ev mX1_aloneOf 0 [.ref 34, .int (nI k)] [] h _
  have n0 := hci.1
  obtain ⟨⟨i1, i2, i3⟩, i4, i5, ⟨i6, i7⟩, i8⟩ := hci.2 k hk
  refine mv_aload_n dX1_aloneOf_0 rfl ?_
  refine mv_iload_n dX1_aloneOf_1 rfl ?_
  refine mv_cV1 (ci := 1) dX1_aloneOf_2 lk_X1_aloneOf_49 HC rfl (Nat.le_of_ble_eq_true rfl) (Nat.le_of_ble_eq_true rfl) (k_X1_has (ev := ev) HC (by omega) (by omega)) ?_
  refine mv_if_eq (tgt := 58) dX1_aloneOf_5 (by decide) (fun z => absurd z ((by decide))) (fun c5 => ?_)
  refine mv_aload_n dX1_aloneOf_8 rfl ?_
  refine mv_getf (ci := 1) (f := 0) dX1_aloneOf_9 HC rfl (by decide) wd_275 rfl ?_
  refine mv_aload_n dX1_aloneOf_12 rfl ?_
  refine mv_getf (ci := 1) (f := 2) dX1_aloneOf_13 HC rfl (by decide) wd_277 rfl ?_
  refine mv_iload_n dX1_aloneOf_16 rfl ?_
  refine mv_iaN (j := k) (x := nI (c.2.1 k)) dX1_aloneOf_17 C35 rfl (by decide) (by omega) rfl ?_
  refine mv_aload_n dX1_aloneOf_18 rfl ?_
  refine mv_getf (ci := 1) (f := 3) dX1_aloneOf_19 HC rfl (by decide) wd_278 rfl ?_
  refine mv_iload_n dX1_aloneOf_22 rfl ?_
  refine mv_iaN (j := k) (x := nI (c.2.2.1 k)) dX1_aloneOf_23 C36 rfl (by decide) (by omega) rfl ?_
  refine mv_aload_n dX1_aloneOf_24 rfl ?_
  refine mv_getf (ci := 1) (f := 4) dX1_aloneOf_25 HC rfl (by decide) wd_279 rfl ?_
  refine mv_iload_n dX1_aloneOf_28 rfl ?_
  refine mv_iaN (j := k) (x := nI (c.2.2.2.1 k)) dX1_aloneOf_29 C37 rfl (by decide) (by omega) rfl ?_
  refine mv_aload_n dX1_aloneOf_30 rfl ?_
  refine mv_getf (ci := 1) (f := 5) dX1_aloneOf_31 HC rfl (by decide) wd_280 rfl ?_
  refine mv_iload_n dX1_aloneOf_34 rfl ?_
  refine mv_iaN (j := k) (x := nI (c.2.2.2.2.1 k)) dX1_aloneOf_35 C38 rfl (by decide) (by omega) rfl ?_
  refine mv_aload_n dX1_aloneOf_36 rfl ?_
  refine mv_getf (ci := 1) (f := 6) dX1_aloneOf_37 HC rfl (by decide) wd_281 rfl ?_
  refine mv_iload_n dX1_aloneOf_40 rfl ?_
  refine mv_iaN (j := k) (x := nI (c.2.2.2.2.2.1 k)) dX1_aloneOf_41 C39 rfl (by decide) (by omega) rfl ?_
  refine mv_aload_n dX1_aloneOf_42 rfl ?_
  refine mv_getf (ci := 1) (f := 7) dX1_aloneOf_43 HC rfl (by decide) wd_282 rfl ?_
  refine mv_iload_n dX1_aloneOf_46 rfl ?_
  refine mv_iaN (j := k) (x := nI (c.2.2.2.2.2.2.1 k)) dX1_aloneOf_47 C40 rfl (by decide) (by omega) rfl ?_
  refine mv_cV6 (ci := 3) dX1_aloneOf_48 lk_X1_aloneOf_59 HF rfl (Nat.le_of_ble_eq_true rfl) (Nat.le_of_ble_eq_true rfl) (k_X3_odds (ev := ev) HF HL HV HB H8 H9 H10 hw hb (by omega) (by omega) (by omega) (by omega) (by omega) (by omega) ((nI_ltI (by omega) (by omega)).mpr i1)) ?_
  have n9 := q_od_le ln b (c.2.2.1 k) (c.2.2.2.1 k) (c.2.2.2.2.1 k) (c.2.2.2.2.2.1 k) (c.2.2.2.2.2.2.1 k) (q_ut b (nI (c.2.1 k)))
  refine mv_sipush (v := nI 10000) dX1_aloneOf_51 (by decide) ?_
  refine mv_idiv dX1_aloneOf_54 (by decide) ?_
  refine mv_topI (y := nI ((q_od ln b (c.2.2.1 k) (c.2.2.2.1 k) (c.2.2.2.2.1 k) (c.2.2.2.2.2.1 k) (c.2.2.2.2.2.2.1 k) (q_ut b (nI (c.2.1 k)))) / 10000)) (pk_div (by omega) (by omega) (by omega)) ?_
  refine mv_goto (tgt := 59) dX1_aloneOf_55 (by decide) ?_
  exact mv_iret dX1_aloneOf_59 rfl rfl ⟨rfl, rfl⟩
set_option maxRecDepth 100000 in
theorem k_X1_scoreOf {ev : mv_E} {h : mv_H} {c : q_C} {lw : Nat → Int32} {ln : Nat → Nat} {b : t_B} {t : Nat} {k : Nat} {dd : Nat} (HC : h[34]? = some (.inr (1, [.ref 21, .ref 7, .ref 35, .ref 36, .ref 37, .ref 38, .ref 39, .ref 40, .ref 41, .int (nI c.1)]))) (C35 : h[35]? = some (.inl (0, 12, .inl (fun j => nI (c.2.1 j))))) (C36 : h[36]? = some (.inl (0, 12, .inl (fun j => nI (c.2.2.1 j))))) (C37 : h[37]? = some (.inl (0, 12, .inl (fun j => nI (c.2.2.2.1 j))))) (C38 : h[38]? = some (.inl (0, 12, .inl (fun j => nI (c.2.2.2.2.1 j))))) (C39 : h[39]? = some (.inl (0, 12, .inl (fun j => nI (c.2.2.2.2.2.1 j))))) (C40 : h[40]? = some (.inl (0, 12, .inl (fun j => nI (c.2.2.2.2.2.2.1 j))))) (C41 : h[41]? = some (.inl (0, 12, .inl (fun j => nI (c.2.2.2.2.2.2.2 j))))) (HF : h[21]? = some (.inr (3, [.ref 1, .ref 7]))) (HL : h[1]? = some (.inr (5, [.ref 2]))) (HV : h[2]? = some (.inl (0, 8, .inl lw))) (HB : h[7]? = some (.inr (0, [.ref 8, .ref 9, .ref 10, .int (nI b.1), .int (nI t), .int (nI b.2.1)]))) (H8 : h[8]? = some (.inl (0, 60, .inl (fun j => nI (b.2.2.1 j))))) (H9 : h[9]? = some (.inl (0, 60, .inl (fun j => nI (b.2.2.2.1 j))))) (H10 : h[10]? = some (.inl (0, 60, .inl (fun j => nI (b.2.2.2.2 j))))) (hci : q_CI c) (hk : k < c.1) (hw : q_LW lw ln) (hb : q_BI dd b) : mv_K ev mX1_scoreOf [.ref 34, .int (nI k)] h (some (.int (q_sc ln c b k))) h := by
  refine mv_Kof ?_
  show mv_g ev mX1_scoreOf 0 [.ref 34, .int (nI k), .null, .null] [] h _
  have n0 := hci.1
  obtain ⟨⟨i1, i2, i3⟩, i4, i5, ⟨i6, i7⟩, i8⟩ := hci.2 k hk
  refine mv_aload_n dX1_scoreOf_0 rfl ?_
  refine mv_iload_n dX1_scoreOf_1 rfl ?_
  refine mv_cV1 (ci := 1) dX1_scoreOf_2 lk_X1_scoreOf_49 HC rfl (Nat.le_of_ble_eq_true rfl) (Nat.le_of_ble_eq_true rfl) (k_X1_has (ev := ev) HC (by omega) (by omega)) ?_
  refine mv_if_ne (tgt := 10) dX1_scoreOf_5 (by decide) (fun c5 => ?_) (fun z => absurd z ((by decide)))
  refine mv_aload_n dX1_scoreOf_10 rfl ?_
  refine mv_iload_n dX1_scoreOf_11 rfl ?_
  refine mv_cV1 (ci := 1) dX1_scoreOf_12 lk_X1_scoreOf_65 HC rfl (Nat.le_of_ble_eq_true rfl) (Nat.le_of_ble_eq_true rfl) (k_X1_hitBy (ev := ev) HC C36 C37 C38 C39 C40 HB H8 H9 H10 hci hk hb) ?_
  refine mv_iconst (v := (-1)) dX1_scoreOf_15 (by decide) ?_
  refine mv_icmp_ne (tgt := 23) dX1_scoreOf_16 (by decide) (fun c16 => ?_) (fun c16 => ?_)
  · skip
    refine mv_bipush (v := nI 100) dX1_scoreOf_23 (by decide) ?_
    refine mv_istore_n dX1_scoreOf_25 (by decide) ?_
    refine mv_aload_n dX1_scoreOf_26 rfl ?_
    refine mv_iload_n dX1_scoreOf_27 rfl ?_
    refine mv_cV1 (ci := 1) dX1_scoreOf_28 lk_X1_scoreOf_69 HC rfl (Nat.le_of_ble_eq_true rfl) (Nat.le_of_ble_eq_true rfl) (k_X1_aloneOf (ev := ev) HC C35 C36 C37 C38 C39 C40 HF HL HV HB H8 H9 H10 hci hk hw hb) ?_
    refine mv_istore_n dX1_scoreOf_31 (by decide) ?_
    refine mv_iload_n dX1_scoreOf_32 rfl ?_
    refine mv_iload_n dX1_scoreOf_33 rfl ?_
    refine mv_isub dX1_scoreOf_34 ?_
    refine mv_iload_n dX1_scoreOf_35 rfl ?_
    refine mv_iload_n dX1_scoreOf_36 rfl ?_
    refine mv_isub dX1_scoreOf_37 ?_
    refine mv_imul dX1_scoreOf_38 ?_
    refine mv_aload_n dX1_scoreOf_39 rfl ?_
    refine mv_getf (ci := 1) (f := 8) dX1_scoreOf_40 HC rfl (by decide) wd_283 rfl ?_
    refine mv_iload_n dX1_scoreOf_43 rfl ?_
    refine mv_iaN (j := k) (x := nI (c.2.2.2.2.2.2.2 k)) dX1_scoreOf_44 C41 rfl (by decide) (by omega) rfl ?_
    refine mv_iload_n dX1_scoreOf_45 rfl ?_
    refine mv_isub dX1_scoreOf_46 ?_
    refine mv_aload_n dX1_scoreOf_47 rfl ?_
    refine mv_getf (ci := 1) (f := 8) dX1_scoreOf_48 HC rfl (by decide) wd_283 rfl ?_
    refine mv_iload_n dX1_scoreOf_51 rfl ?_
    refine mv_iaN (j := k) (x := nI (c.2.2.2.2.2.2.2 k)) dX1_scoreOf_52 C41 rfl (by decide) (by omega) rfl ?_
    refine mv_iload_n dX1_scoreOf_53 rfl ?_
    refine mv_isub dX1_scoreOf_54 ?_
    refine mv_imul dX1_scoreOf_55 ?_
    refine mv_isub dX1_scoreOf_56 ?_
    exact mv_iret dX1_scoreOf_57 rfl rfl ⟨(congrArg (fun z => some (Value.int z)) (by unfold q_sc; first | (rw [if_pos c16]; rfl) | (rw [if_neg c16]; rfl))), rfl⟩
  · skip
    refine mv_iconst (v := nI 0) dX1_scoreOf_19 (by decide) ?_
    refine mv_goto (tgt := 25) dX1_scoreOf_20 (by decide) ?_
    refine mv_istore_n dX1_scoreOf_25 (by decide) ?_
    refine mv_aload_n dX1_scoreOf_26 rfl ?_
    refine mv_iload_n dX1_scoreOf_27 rfl ?_
    refine mv_cV1 (ci := 1) dX1_scoreOf_28 lk_X1_scoreOf_69 HC rfl (Nat.le_of_ble_eq_true rfl) (Nat.le_of_ble_eq_true rfl) (k_X1_aloneOf (ev := ev) HC C35 C36 C37 C38 C39 C40 HF HL HV HB H8 H9 H10 hci hk hw hb) ?_
    refine mv_istore_n dX1_scoreOf_31 (by decide) ?_
    refine mv_iload_n dX1_scoreOf_32 rfl ?_
    refine mv_iload_n dX1_scoreOf_33 rfl ?_
    refine mv_isub dX1_scoreOf_34 ?_
    refine mv_iload_n dX1_scoreOf_35 rfl ?_
    refine mv_iload_n dX1_scoreOf_36 rfl ?_
    refine mv_isub dX1_scoreOf_37 ?_
    refine mv_imul dX1_scoreOf_38 ?_
    refine mv_aload_n dX1_scoreOf_39 rfl ?_
    refine mv_getf (ci := 1) (f := 8) dX1_scoreOf_40 HC rfl (by decide) wd_283 rfl ?_
    refine mv_iload_n dX1_scoreOf_43 rfl ?_
    refine mv_iaN (j := k) (x := nI (c.2.2.2.2.2.2.2 k)) dX1_scoreOf_44 C41 rfl (by decide) (by omega) rfl ?_
    refine mv_iload_n dX1_scoreOf_45 rfl ?_
    refine mv_isub dX1_scoreOf_46 ?_
    refine mv_aload_n dX1_scoreOf_47 rfl ?_
    refine mv_getf (ci := 1) (f := 8) dX1_scoreOf_48 HC rfl (by decide) wd_283 rfl ?_
    refine mv_iload_n dX1_scoreOf_51 rfl ?_
    refine mv_iaN (j := k) (x := nI (c.2.2.2.2.2.2.2 k)) dX1_scoreOf_52 C41 rfl (by decide) (by omega) rfl ?_
    refine mv_iload_n dX1_scoreOf_53 rfl ?_
    refine mv_isub dX1_scoreOf_54 ?_
    refine mv_imul dX1_scoreOf_55 ?_
    refine mv_isub dX1_scoreOf_56 ?_
    exact mv_iret dX1_scoreOf_57 rfl rfl ⟨(congrArg (fun z => some (Value.int z)) (by unfold q_sc; first | (rw [if_pos c16]; rfl) | (rw [if_neg c16]; rfl))), rfl⟩
set_option maxRecDepth 100000 in
theorem k_X10_size {ev : mv_E} {h : mv_H} {w : q_W} (HW : h[48]? = some (.inr (10, [.ref 21, .ref 49, .ref 50, .ref 51, .int (nI w.1)])))  : mv_K ev mX10_size [.ref 48] h (some (.int (nI w.1))) h := by
  refine mv_Kof ?_
  show mv_g ev mX10_size 0 [.ref 48] [] h _
  refine mv_aload_n dX10_size_0 rfl ?_
  refine mv_getf (ci := 10) (f := 4) dX10_size_1 HW rfl (by decide) wd_364 rfl ?_
  exact mv_iret dX10_size_4 rfl rfl ⟨rfl, rfl⟩
set_option maxRecDepth 100000 in
theorem k_X10_isFull {ev : mv_E} {h : mv_H} {w : q_W} (HW : h[48]? = some (.inr (10, [.ref 21, .ref 49, .ref 50, .ref 51, .int (nI w.1)]))) (hn : w.1 ≤ 12) : mv_K ev mX10_isFull [.ref 48] h (some (.int (mv_b (12 ≤ w.1)))) h := by
  refine mv_Kof ?_
  show mv_g ev mX10_isFull 0 [.ref 48] [] h _
  refine mv_aload_n dX10_isFull_0 rfl ?_
  refine mv_getf (ci := 10) (f := 4) dX10_isFull_1 HW rfl (by decide) wd_364 rfl ?_
  refine mv_bipush (v := nI 12) dX10_isFull_4 (by decide) ?_
  refine mv_icmp_lt (tgt := 13) dX10_isFull_6 (by decide) (fun c6 => ?_) (fun c6 => ?_)
  · have c6 : w.1 < 12 := (nI_ltI (by omega) (by omega)).mp c6
    refine mv_iconst (v := nI 0) dX10_isFull_13 (by decide) ?_
    exact mv_iret dX10_isFull_14 rfl rfl ⟨(congrArg (fun z => some (Value.int z)) (by first | exact (mv_b_t (by omega)).symm | exact (mv_b_f (by omega)).symm)), rfl⟩
  · have c6 : ¬ (w.1 < 12) := fun z => c6 ((nI_ltI (by omega) (by omega)).mpr z)
    refine mv_iconst (v := nI 1) dX10_isFull_9 (by decide) ?_
    refine mv_goto (tgt := 14) dX10_isFull_10 (by decide) ?_
    exact mv_iret dX10_isFull_14 rfl rfl ⟨(congrArg (fun z => some (Value.int z)) (by first | exact (mv_b_t (by omega)).symm | exact (mv_b_f (by omega)).symm)), rfl⟩
set_option maxRecDepth 100000 in
theorem k_X10_hasI {ev : mv_E} {h : mv_H} {w : q_W} {k : Int32} (HW : h[48]? = some (.inr (10, [.ref 21, .ref 49, .ref 50, .ref 51, .int (nI w.1)])))  : mv_K ev mX10_has [.ref 48, .int k] h (some (.int (mv_b (0 ≤ k ∧ k < nI w.1 ∧ k < nI 12)))) h := by
  refine mv_Kof ?_
  show mv_g ev mX10_has 0 [.ref 48, .int k] [] h _
  refine mv_iload_n dX10_has_0 rfl ?_
  refine mv_if_lt (tgt := 22) dX10_has_1 (by decide) (fun c1 => ?_) (fun c1 => ?_)
  · skip
    refine mv_iconst (v := nI 0) dX10_has_22 (by decide) ?_
    exact mv_iret dX10_has_23 rfl rfl ⟨(congrArg (fun z => some (Value.int z)) (by first | exact (mv_b_t ⟨Int32.not_lt.mp c1, Int32.not_le.mp c9, Int32.not_le.mp c15⟩).symm | exact (mv_b_f (fun z => absurd z.1 (Int32.not_le.mpr c1))).symm | exact (mv_b_f (fun z => absurd z.2.1 (Int32.not_lt.mpr c9))).symm | exact (mv_b_f (fun z => absurd z.2.2 (Int32.not_lt.mpr c15))).symm)), rfl⟩
  · skip
    refine mv_iload_n dX10_has_4 rfl ?_
    refine mv_aload_n dX10_has_5 rfl ?_
    refine mv_getf (ci := 10) (f := 4) dX10_has_6 HW rfl (by decide) wd_364 rfl ?_
    refine mv_icmp_ge (tgt := 22) dX10_has_9 (by decide) (fun c9 => ?_) (fun c9 => ?_)
    · skip
      refine mv_iconst (v := nI 0) dX10_has_22 (by decide) ?_
      exact mv_iret dX10_has_23 rfl rfl ⟨(congrArg (fun z => some (Value.int z)) (by first | exact (mv_b_t ⟨Int32.not_lt.mp c1, Int32.not_le.mp c9, Int32.not_le.mp c15⟩).symm | exact (mv_b_f (fun z => absurd z.1 (Int32.not_le.mpr c1))).symm | exact (mv_b_f (fun z => absurd z.2.1 (Int32.not_lt.mpr c9))).symm | exact (mv_b_f (fun z => absurd z.2.2 (Int32.not_lt.mpr c15))).symm)), rfl⟩
    · skip
      refine mv_iload_n dX10_has_12 rfl ?_
      refine mv_bipush (v := nI 12) dX10_has_13 (by decide) ?_
      refine mv_icmp_ge (tgt := 22) dX10_has_15 (by decide) (fun c15 => ?_) (fun c15 => ?_)
      · skip
        refine mv_iconst (v := nI 0) dX10_has_22 (by decide) ?_
        exact mv_iret dX10_has_23 rfl rfl ⟨(congrArg (fun z => some (Value.int z)) (by first | exact (mv_b_t ⟨Int32.not_lt.mp c1, Int32.not_le.mp c9, Int32.not_le.mp c15⟩).symm | exact (mv_b_f (fun z => absurd z.1 (Int32.not_le.mpr c1))).symm | exact (mv_b_f (fun z => absurd z.2.1 (Int32.not_lt.mpr c9))).symm | exact (mv_b_f (fun z => absurd z.2.2 (Int32.not_lt.mpr c15))).symm)), rfl⟩
      · skip
        refine mv_iconst (v := nI 1) dX10_has_18 (by decide) ?_
        refine mv_goto (tgt := 23) dX10_has_19 (by decide) ?_
        exact mv_iret dX10_has_23 rfl rfl ⟨(congrArg (fun z => some (Value.int z)) (by first | exact (mv_b_t ⟨Int32.not_lt.mp c1, Int32.not_le.mp c9, Int32.not_le.mp c15⟩).symm | exact (mv_b_f (fun z => absurd z.1 (Int32.not_le.mpr c1))).symm | exact (mv_b_f (fun z => absurd z.2.1 (Int32.not_lt.mpr c9))).symm | exact (mv_b_f (fun z => absurd z.2.2 (Int32.not_lt.mpr c15))).symm)), rfl⟩
set_option maxRecDepth 100000 in
theorem k_X10_has {ev : mv_E} {h : mv_H} {w : q_W} {k : Nat} (HW : h[48]? = some (.inr (10, [.ref 21, .ref 49, .ref 50, .ref 51, .int (nI w.1)]))) (hk : k < w.1) (hn : w.1 ≤ 12) : mv_K ev mX10_has [.ref 48, .int (nI k)] h (some (.int (nI 1))) h := by
  refine mv_Kof ?_
  show mv_g ev mX10_has 0 [.ref 48, .int (nI k)] [] h _
  refine mv_iload_n dX10_has_0 rfl ?_
  refine mv_if_lt (tgt := 22) dX10_has_1 (by decide) (fun z => absurd z ((nI_pos (by omega)))) (fun c1 => ?_)
  refine mv_iload_n dX10_has_4 rfl ?_
  refine mv_aload_n dX10_has_5 rfl ?_
  refine mv_getf (ci := 10) (f := 4) dX10_has_6 HW rfl (by decide) wd_364 rfl ?_
  refine mv_icmp_ge (tgt := 22) dX10_has_9 (by decide) (fun z => absurd z ((fun z => absurd ((nI_leI (by omega) (by omega)).mp z) (by omega)))) (fun c9 => ?_)
  refine mv_iload_n dX10_has_12 rfl ?_
  refine mv_bipush (v := nI 12) dX10_has_13 (by decide) ?_
  refine mv_icmp_ge (tgt := 22) dX10_has_15 (by decide) (fun z => absurd z ((fun z => absurd ((nI_leI (by omega) (by omega)).mp z) (by omega)))) (fun c15 => ?_)
  refine mv_iconst (v := nI 1) dX10_has_18 (by decide) ?_
  refine mv_goto (tgt := 23) dX10_has_19 (by decide) ?_
  exact mv_iret dX10_has_23 rfl rfl ⟨rfl, rfl⟩
set_option maxRecDepth 100000 in
theorem k_X10_write {ev : mv_E} {h : mv_H} {w : q_W} {d : Nat} {p : Nat} {x : Nat} (HW : h[48]? = some (.inr (10, [.ref 21, .ref 49, .ref 50, .ref 51, .int (nI w.1)]))) (W49 : h[49]? = some (.inl (0, 12, .inl (fun j => nI (w.2.1 j))))) (W50 : h[50]? = some (.inl (0, 12, .inl (fun j => nI (w.2.2.1 j))))) (W51 : h[51]? = some (.inl (0, 12, .inl (fun j => nI (w.2.2.2 j))))) (hn : w.1 < 12) : ∃ h2, mv_K ev mX10_write [.ref 48, .int (nI d), .int (nI p), .int (nI x)] h (some (.int (nI w.1))) h2 ∧ mv_fra [48, 49, 50, 51] h h2 ∧ h2[48]? = some (.inr (10, [.ref 21, .ref 49, .ref 50, .ref 51, .int (nI (q_ww w d p x).1)])) ∧ h2[49]? = some (.inl (0, 12, .inl (fun j => nI ((q_ww w d p x).2.1 j)))) ∧ h2[50]? = some (.inl (0, 12, .inl (fun j => nI ((q_ww w d p x).2.2.1 j)))) ∧ h2[51]? = some (.inl (0, 12, .inl (fun j => nI ((q_ww w d p x).2.2.2 j)))) := by
  suffices g0 : mv_g ev mX10_write 0 (mv_ent [.ref 48, .int (nI d), .int (nI p), .int (nI x)] (mv_ml mX10_write)) [] h (fun r g => r = some (.int (nI w.1)) ∧ mv_fra [48, 49, 50, 51] h g ∧ g[48]? = some (.inr (10, [.ref 21, .ref 49, .ref 50, .ref 51, .int (nI (q_ww w d p x).1)])) ∧ g[49]? = some (.inl (0, 12, .inl (fun j => nI ((q_ww w d p x).2.1 j)))) ∧ g[50]? = some (.inl (0, 12, .inl (fun j => nI ((q_ww w d p x).2.2.1 j)))) ∧ g[51]? = some (.inl (0, 12, .inl (fun j => nI ((q_ww w d p x).2.2.2 j))))) from (by obtain ⟨r0, h0, K0, q0, Q0⟩ := mv_Kex g0; subst q0; exact ⟨h0, K0, Q0⟩)
  show mv_g ev mX10_write 0 [.ref 48, .int (nI d), .int (nI p), .int (nI x)] [] h _
  have fr : mv_fra [48, 49, 50, 51] h h := mv_fra.rf
  refine mv_aload_n dX10_write_0 rfl ?_
  refine mv_getf (ci := 10) (f := 4) dX10_write_1 HW rfl (by decide) wd_364 rfl ?_
  refine mv_if_lt (tgt := 14) dX10_write_4 (by decide) (fun z => absurd z ((nI_pos (by omega)))) (fun c4 => ?_)
  refine mv_aload_n dX10_write_7 rfl ?_
  refine mv_cV0 (ci := 10) dX10_write_8 lk_X10_write_29 HW rfl (Nat.le_of_ble_eq_true rfl) (Nat.le_of_ble_eq_true rfl) (k_X10_isFull (ev := ev) HW (by omega)) ?_
  refine mv_if_eq (tgt := 16) dX10_write_11 (by decide) (fun c11 => ?_) (fun z => absurd (((mv_b_0 _).mpr (by omega))) z)
  refine mv_aload_n dX10_write_16 rfl ?_
  refine mv_getf (ci := 10) (f := 1) dX10_write_17 HW rfl (by decide) wd_361 rfl ?_
  refine mv_aload_n dX10_write_20 rfl ?_
  refine mv_getf (ci := 10) (f := 4) dX10_write_21 HW rfl (by decide) wd_364 rfl ?_
  refine mv_iload_n dX10_write_24 rfl ?_
  refine mv_iastN (j := w.1) dX10_write_25 W49 rfl (by decide) (by omega) (fun h1 e2 => ?_)
  rw [upd_nI] at e2
  have HW := mv_ne e2 (by decide) HW
  have W49 : h1[49]? = some (.inl (0, 12, .inl (fun j => nI (t_up w.2.1 w.1 d j)))) := mv_eq e2 W49
  have W50 := mv_ne e2 (by decide) W50
  have W51 := mv_ne e2 (by decide) W51
  have fr := fr.set e2 (by decide)
  clear e2
  refine mv_aload_n dX10_write_26 rfl ?_
  refine mv_getf (ci := 10) (f := 2) dX10_write_27 HW rfl (by decide) wd_362 rfl ?_
  refine mv_aload_n dX10_write_30 rfl ?_
  refine mv_getf (ci := 10) (f := 4) dX10_write_31 HW rfl (by decide) wd_364 rfl ?_
  refine mv_iload_n dX10_write_34 rfl ?_
  refine mv_iastN (j := w.1) dX10_write_35 W50 rfl (by decide) (by omega) (fun h3 e4 => ?_)
  rw [upd_nI] at e4
  have HW := mv_ne e4 (by decide) HW
  have W49 := mv_ne e4 (by decide) W49
  have W50 : h3[50]? = some (.inl (0, 12, .inl (fun j => nI (t_up w.2.2.1 w.1 p j)))) := mv_eq e4 W50
  have W51 := mv_ne e4 (by decide) W51
  have fr := fr.set e4 (by decide)
  clear e4
  refine mv_aload_n dX10_write_36 rfl ?_
  refine mv_getf (ci := 10) (f := 3) dX10_write_37 HW rfl (by decide) wd_363 rfl ?_
  refine mv_aload_n dX10_write_40 rfl ?_
  refine mv_getf (ci := 10) (f := 4) dX10_write_41 HW rfl (by decide) wd_364 rfl ?_
  refine mv_iload_n dX10_write_44 rfl ?_
  refine mv_iastN (j := w.1) dX10_write_45 W51 rfl (by decide) (by omega) (fun h5 e6 => ?_)
  rw [upd_nI] at e6
  have HW := mv_ne e6 (by decide) HW
  have W49 := mv_ne e6 (by decide) W49
  have W50 := mv_ne e6 (by decide) W50
  have W51 : h5[51]? = some (.inl (0, 12, .inl (fun j => nI (t_up w.2.2.2 w.1 x j)))) := mv_eq e6 W51
  have fr := fr.set e6 (by decide)
  clear e6
  refine mv_aload_n dX10_write_46 rfl ?_
  refine mv_dup dX10_write_47 rfl ?_
  refine mv_getf (ci := 10) (f := 4) dX10_write_48 HW rfl (by decide) wd_364 rfl ?_
  refine mv_iconst (v := nI 1) dX10_write_51 (by decide) ?_
  refine mv_iadd dX10_write_52 ?_
  refine mv_topI (y := nI (w.1 + 1)) (nI_add _ _) ?_
  refine mv_putf (ci := 10) (f := 4) dX10_write_53 HW rfl (by decide) wd_364 rfl rfl (fun _ => ⟨rfl, rfl⟩) (Nat.le_of_ble_eq_true rfl) ?_
  refine mv_topH (fun h7 e8 => ?_)
  have HW : h7[48]? = some (.inr (10, [.ref 21, .ref 49, .ref 50, .ref 51, .int (nI (w.1 + 1))])) := mv_eq e8 HW
  have W49 := mv_ne e8 (by decide) W49
  have W50 := mv_ne e8 (by decide) W50
  have W51 := mv_ne e8 (by decide) W51
  have fr := fr.set e8 (by decide)
  clear e8
  refine mv_aload_n dX10_write_56 rfl ?_
  refine mv_getf (ci := 10) (f := 4) dX10_write_57 HW rfl (by decide) wd_364 rfl ?_
  refine mv_iconst (v := nI 1) dX10_write_60 (by decide) ?_
  refine mv_isub dX10_write_61 ?_
  refine mv_topI (y := nI w.1) (by rw [pk_sub (by omega)]; exact congrArg nI (by omega)) ?_
  exact mv_iret dX10_write_62 rfl rfl ⟨rfl, fr, HW, W49, W50, W51⟩
set_option maxRecDepth 100000 in
theorem k_X10_dayOf {ev : mv_E} {h : mv_H} {w : q_W} {k : Nat} (HW : h[48]? = some (.inr (10, [.ref 21, .ref 49, .ref 50, .ref 51, .int (nI w.1)]))) (W49 : h[49]? = some (.inl (0, 12, .inl (fun j => nI (w.2.1 j))))) (hk : k < w.1) (hn : w.1 ≤ 12) : mv_K ev mX10_dayOf [.ref 48, .int (nI k)] h (some (.int (nI (w.2.1 k)))) h := by
  refine mv_Kof ?_
  show mv_g ev mX10_dayOf 0 [.ref 48, .int (nI k)] [] h _
  refine mv_aload_n dX10_dayOf_0 rfl ?_
  refine mv_iload_n dX10_dayOf_1 rfl ?_
  refine mv_cV1 (ci := 10) dX10_dayOf_2 lk_X10_dayOf_33 HW rfl (Nat.le_of_ble_eq_true rfl) (Nat.le_of_ble_eq_true rfl) (k_X10_has (ev := ev) HW (by omega) (by omega)) ?_
  refine mv_if_eq (tgt := 17) dX10_dayOf_5 (by decide) (fun z => absurd z ((by decide))) (fun c5 => ?_)
  refine mv_aload_n dX10_dayOf_8 rfl ?_
  refine mv_getf (ci := 10) (f := 1) dX10_dayOf_9 HW rfl (by decide) wd_361 rfl ?_
  refine mv_iload_n dX10_dayOf_12 rfl ?_
  refine mv_iaN (j := k) (x := nI (w.2.1 k)) dX10_dayOf_13 W49 rfl (by decide) (by omega) rfl ?_
  refine mv_goto (tgt := 18) dX10_dayOf_14 (by decide) ?_
  exact mv_iret dX10_dayOf_18 rfl rfl ⟨rfl, rfl⟩
set_option maxRecDepth 100000 in
theorem k_X10_saidOf {ev : mv_E} {h : mv_H} {w : q_W} {k : Nat} (HW : h[48]? = some (.inr (10, [.ref 21, .ref 49, .ref 50, .ref 51, .int (nI w.1)]))) (W51 : h[51]? = some (.inl (0, 12, .inl (fun j => nI (w.2.2.2 j))))) (hk : k < w.1) (hn : w.1 ≤ 12) : mv_K ev mX10_saidOf [.ref 48, .int (nI k)] h (some (.int (nI (w.2.2.2 k)))) h := by
  refine mv_Kof ?_
  show mv_g ev mX10_saidOf 0 [.ref 48, .int (nI k)] [] h _
  refine mv_aload_n dX10_saidOf_0 rfl ?_
  refine mv_iload_n dX10_saidOf_1 rfl ?_
  refine mv_cV1 (ci := 10) dX10_saidOf_2 lk_X10_saidOf_33 HW rfl (Nat.le_of_ble_eq_true rfl) (Nat.le_of_ble_eq_true rfl) (k_X10_has (ev := ev) HW (by omega) (by omega)) ?_
  refine mv_if_eq (tgt := 17) dX10_saidOf_5 (by decide) (fun z => absurd z ((by decide))) (fun c5 => ?_)
  refine mv_aload_n dX10_saidOf_8 rfl ?_
  refine mv_getf (ci := 10) (f := 3) dX10_saidOf_9 HW rfl (by decide) wd_363 rfl ?_
  refine mv_iload_n dX10_saidOf_12 rfl ?_
  refine mv_iaN (j := k) (x := nI (w.2.2.2 k)) dX10_saidOf_13 W51 rfl (by decide) (by omega) rfl ?_
  refine mv_goto (tgt := 18) dX10_saidOf_14 (by decide) ?_
  exact mv_iret dX10_saidOf_18 rfl rfl ⟨rfl, rfl⟩
theorem q_ut_m1 (b : t_B) (hl : ∀ j, b.2.2.1 j ≤ 399) : q_ut b (-1) = 0 := by
  refine q_cnt_same b.1 (m := 0) (Nat.zero_le _) (fun k _ _ z => ?_)
  have h2 := hl k
  rw [Int32.le_iff_toInt_le, nI_toInt (by omega), show (-1 : Int32).toInt = -1 by decide] at z
  omega
theorem nI_gm1 {a : Nat} (h : a < 2 ^ 31) : (-1 : Int32) < nI a := by
  rw [Int32.lt_iff_toInt_lt, nI_toInt h, show (-1 : Int32).toInt = -1 by decide]
  omega
noncomputable def q_jk (ln : Nat → Nat) (w : q_W) (b : t_B) (k z n : Nat) : Nat := q_kn (q_od ln b (w.2.2.1 k) 1 z (w.2.1 k + 1) (w.2.1 k + n) (q_ut b (nI (w.2.1 k)))) (q_od ln b (w.2.2.1 k) 1 z (w.2.1 k + 1) (w.2.1 k + n) 0)
set_option maxRecDepth 100000 in
theorem k_X10_couldBeKnown {ev : mv_E} {h : mv_H} {w : q_W} {lw : Nat → Int32} {ln : Nat → Nat} {b : t_B} {t : Nat} {k : Nat} {z : Nat} {n : Nat} {dd : Nat} (HW : h[48]? = some (.inr (10, [.ref 21, .ref 49, .ref 50, .ref 51, .int (nI w.1)]))) (W49 : h[49]? = some (.inl (0, 12, .inl (fun j => nI (w.2.1 j))))) (W50 : h[50]? = some (.inl (0, 12, .inl (fun j => nI (w.2.2.1 j))))) (HF : h[21]? = some (.inr (3, [.ref 1, .ref 7]))) (HL : h[1]? = some (.inr (5, [.ref 2]))) (HV : h[2]? = some (.inl (0, 8, .inl lw))) (HB : h[7]? = some (.inr (0, [.ref 8, .ref 9, .ref 10, .int (nI b.1), .int (nI t), .int (nI b.2.1)]))) (H8 : h[8]? = some (.inl (0, 60, .inl (fun j => nI (b.2.2.1 j))))) (H9 : h[9]? = some (.inl (0, 60, .inl (fun j => nI (b.2.2.2.1 j))))) (H10 : h[10]? = some (.inl (0, 60, .inl (fun j => nI (b.2.2.2.2 j))))) (hwo : q_WOI w) (hk : k < w.1) (hw : q_LW lw ln) (hb : q_BI dd b) (hz1 : 1 ≤ z) (hz9 : z ≤ 9) (hn1 : 1 ≤ n) (hdn : w.2.1 k + n ≤ 399) : mv_K ev mX10_couldBeKnown [.ref 48, .int (nI k), .int (nI z), .int (nI n)] h (some (.int (nI (q_jk ln w b k z n)))) h := by
  refine mv_Kof ?_
  show mv_g ev mX10_couldBeKnown 0 [.ref 48, .int (nI k), .int (nI z), .int (nI n), .null, .null, .null] [] h _
  have n0 := hwo.1
  have n1 := hwo.2.1 k
  have n2 := hwo.2.2.1 k
  have n3 := q_od_le ln b (w.2.2.1 k) 1 z (w.2.1 k + 1) (w.2.1 k + n) (q_ut b (nI (w.2.1 k)))
  have n4 := q_od_le ln b (w.2.2.1 k) 1 z (w.2.1 k + 1) (w.2.1 k + n) 0
  refine mv_aload_n dX10_couldBeKnown_0 rfl ?_
  refine mv_iload_n dX10_couldBeKnown_1 rfl ?_
  refine mv_cV1 (ci := 10) dX10_couldBeKnown_2 lk_X10_couldBeKnown_33 HW rfl (Nat.le_of_ble_eq_true rfl) (Nat.le_of_ble_eq_true rfl) (k_X10_has (ev := ev) HW (by omega) (by omega)) ?_
  refine mv_if_ne (tgt := 10) dX10_couldBeKnown_5 (by decide) (fun c5 => ?_) (fun z => absurd z ((by decide)))
  refine mv_aload_n dX10_couldBeKnown_10 rfl ?_
  refine mv_getf (ci := 10) (f := 1) dX10_couldBeKnown_11 HW rfl (by decide) wd_361 rfl ?_
  refine mv_iload_n dX10_couldBeKnown_14 rfl ?_
  refine mv_iaN (j := k) (x := nI (w.2.1 k)) dX10_couldBeKnown_15 W49 rfl (by decide) (by omega) rfl ?_
  refine mv_istore dX10_couldBeKnown_16 (by decide) ?_
  refine mv_aload_n dX10_couldBeKnown_18 rfl ?_
  refine mv_getf (ci := 10) (f := 0) dX10_couldBeKnown_19 HW rfl (by decide) wd_360 rfl ?_
  refine mv_iload dX10_couldBeKnown_22 rfl ?_
  refine mv_aload_n dX10_couldBeKnown_24 rfl ?_
  refine mv_getf (ci := 10) (f := 2) dX10_couldBeKnown_25 HW rfl (by decide) wd_362 rfl ?_
  refine mv_iload_n dX10_couldBeKnown_28 rfl ?_
  refine mv_iaN (j := k) (x := nI (w.2.2.1 k)) dX10_couldBeKnown_29 W50 rfl (by decide) (by omega) rfl ?_
  refine mv_iconst (v := nI 1) dX10_couldBeKnown_30 (by decide) ?_
  refine mv_iload_n dX10_couldBeKnown_31 rfl ?_
  refine mv_iload dX10_couldBeKnown_32 rfl ?_
  refine mv_iconst (v := nI 1) dX10_couldBeKnown_34 (by decide) ?_
  refine mv_iadd dX10_couldBeKnown_35 ?_
  refine mv_topI (y := nI (w.2.1 k + 1)) (nI_add _ _) ?_
  refine mv_iload dX10_couldBeKnown_36 rfl ?_
  refine mv_iload_n dX10_couldBeKnown_38 rfl ?_
  refine mv_iadd dX10_couldBeKnown_39 ?_
  refine mv_topI (y := nI (w.2.1 k + n)) (nI_add _ _) ?_
  refine mv_cV6 (ci := 3) dX10_couldBeKnown_40 lk_X10_couldBeKnown_37 HF rfl (Nat.le_of_ble_eq_true rfl) (Nat.le_of_ble_eq_true rfl) (k_X3_odds (ev := ev) HF HL HV HB H8 H9 H10 hw hb (by omega) (by omega) (by omega) (by omega) (by omega) (by omega) ((nI_ltI (by omega) (by omega)).mpr (by omega))) ?_
  refine mv_istore dX10_couldBeKnown_43 (by decide) ?_
  refine mv_aload_n dX10_couldBeKnown_45 rfl ?_
  refine mv_getf (ci := 10) (f := 0) dX10_couldBeKnown_46 HW rfl (by decide) wd_360 rfl ?_
  refine mv_iconst (v := (-1)) dX10_couldBeKnown_49 (by decide) ?_
  refine mv_aload_n dX10_couldBeKnown_50 rfl ?_
  refine mv_getf (ci := 10) (f := 2) dX10_couldBeKnown_51 HW rfl (by decide) wd_362 rfl ?_
  refine mv_iload_n dX10_couldBeKnown_54 rfl ?_
  refine mv_iaN (j := k) (x := nI (w.2.2.1 k)) dX10_couldBeKnown_55 W50 rfl (by decide) (by omega) rfl ?_
  refine mv_iconst (v := nI 1) dX10_couldBeKnown_56 (by decide) ?_
  refine mv_iload_n dX10_couldBeKnown_57 rfl ?_
  refine mv_iload dX10_couldBeKnown_58 rfl ?_
  refine mv_iconst (v := nI 1) dX10_couldBeKnown_60 (by decide) ?_
  refine mv_iadd dX10_couldBeKnown_61 ?_
  refine mv_topI (y := nI (w.2.1 k + 1)) (nI_add _ _) ?_
  refine mv_iload dX10_couldBeKnown_62 rfl ?_
  refine mv_iload_n dX10_couldBeKnown_64 rfl ?_
  refine mv_iadd dX10_couldBeKnown_65 ?_
  refine mv_topI (y := nI (w.2.1 k + n)) (nI_add _ _) ?_
  refine mv_cV6 (ci := 3) dX10_couldBeKnown_66 lk_X10_couldBeKnown_37 HF rfl (Nat.le_of_ble_eq_true rfl) (Nat.le_of_ble_eq_true rfl) (k_X3_odds (ev := ev) HF HL HV HB H8 H9 H10 hw hb (by omega) (by omega) (by omega) (by omega) (by omega) (by omega) (nI_gm1 (by omega))) ?_
  refine mv_topI (y := nI (q_od ln b (w.2.2.1 k) 1 z (w.2.1 k + 1) (w.2.1 k + n) 0)) (by rw [q_ut_m1 b hb.2.2.1]) ?_
  refine mv_istore dX10_couldBeKnown_69 (by decide) ?_
  refine mv_iload dX10_couldBeKnown_71 rfl ?_
  refine mv_iconst (v := nI 2) dX10_couldBeKnown_73 (by decide) ?_
  refine mv_iload dX10_couldBeKnown_74 rfl ?_
  refine mv_imul dX10_couldBeKnown_76 ?_
  refine mv_topI (y := nI (2 * (q_od ln b (w.2.2.1 k) 1 z (w.2.1 k + 1) (w.2.1 k + n) 0))) (pk_mul _ _) ?_
  refine mv_icmp_gt (tgt := 82) dX10_couldBeKnown_77 (by decide) (fun c77 => ?_) (fun c77 => ?_)
  · have c77 : 2 * (q_od ln b (w.2.2.1 k) 1 z (w.2.1 k + 1) (w.2.1 k + n) 0) < q_od ln b (w.2.2.1 k) 1 z (w.2.1 k + 1) (w.2.1 k + n) (q_ut b (nI (w.2.1 k))) := (nI_ltI (by omega) (by omega)).mp c77
    refine mv_iload dX10_couldBeKnown_82 rfl ?_
    refine mv_bipush (v := nI 10) dX10_couldBeKnown_84 (by decide) ?_
    refine mv_iload dX10_couldBeKnown_86 rfl ?_
    refine mv_imul dX10_couldBeKnown_88 ?_
    refine mv_topI (y := nI (10 * (q_od ln b (w.2.2.1 k) 1 z (w.2.1 k + 1) (w.2.1 k + n) 0))) (pk_mul _ _) ?_
    refine mv_icmp_gt (tgt := 96) dX10_couldBeKnown_89 (by decide) (fun c89 => ?_) (fun c89 => ?_)
    · have c89 : 10 * (q_od ln b (w.2.2.1 k) 1 z (w.2.1 k + 1) (w.2.1 k + n) 0) < q_od ln b (w.2.2.1 k) 1 z (w.2.1 k + 1) (w.2.1 k + n) (q_ut b (nI (w.2.1 k))) := (nI_ltI (by omega) (by omega)).mp c89
      refine mv_iconst (v := nI 2) dX10_couldBeKnown_96 (by decide) ?_
      exact mv_iret dX10_couldBeKnown_97 rfl rfl ⟨(congrArg (fun z => some (Value.int z)) (congrArg nI (by unfold q_jk q_kn; first | rw [if_pos (by omega)] | rw [if_neg (by omega), if_pos (by omega)] | rw [if_neg (by omega), if_neg (by omega)]))), rfl⟩
    · have c89 : ¬ (10 * (q_od ln b (w.2.2.1 k) 1 z (w.2.1 k + 1) (w.2.1 k + n) 0) < q_od ln b (w.2.2.1 k) 1 z (w.2.1 k + 1) (w.2.1 k + n) (q_ut b (nI (w.2.1 k)))) := fun z => c89 ((nI_ltI (by omega) (by omega)).mpr z)
      refine mv_iconst (v := nI 1) dX10_couldBeKnown_92 (by decide) ?_
      refine mv_goto (tgt := 97) dX10_couldBeKnown_93 (by decide) ?_
      exact mv_iret dX10_couldBeKnown_97 rfl rfl ⟨(congrArg (fun z => some (Value.int z)) (congrArg nI (by unfold q_jk q_kn; first | rw [if_pos (by omega)] | rw [if_neg (by omega), if_pos (by omega)] | rw [if_neg (by omega), if_neg (by omega)]))), rfl⟩
  · have c77 : ¬ (2 * (q_od ln b (w.2.2.1 k) 1 z (w.2.1 k + 1) (w.2.1 k + n) 0) < q_od ln b (w.2.2.1 k) 1 z (w.2.1 k + 1) (w.2.1 k + n) (q_ut b (nI (w.2.1 k)))) := fun z => c77 ((nI_ltI (by omega) (by omega)).mpr z)
    refine mv_iconst (v := nI 0) dX10_couldBeKnown_80 (by decide) ?_
    exact mv_iret dX10_couldBeKnown_81 rfl rfl ⟨(congrArg (fun z => some (Value.int z)) (congrArg nI (by unfold q_jk q_kn; first | rw [if_pos (by omega)] | rw [if_neg (by omega), if_pos (by omega)] | rw [if_neg (by omega), if_neg (by omega)]))), rfl⟩
