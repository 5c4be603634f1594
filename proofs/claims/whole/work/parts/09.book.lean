/-! the law's numbers, draws, shakes: plain functions -/
def t_up (f : Nat → Nat) (k x : Nat) : Nat → Nat := fun j => if j = k then x else f j
theorem upd_nI (f : Nat → Nat) (k x : Nat) : upd (fun j => nI (f j)) k (nI x) = fun j => nI (t_up f k x j) := by
  funext j
  unfold upd t_up
  by_cases h : j = k <;> simp [h]
theorem upd_lN (f : Nat → Nat) (k x : Nat) : vp_updL (fun j => lN (f j)) k (lN x) = fun j => lN (t_up f k x j) := by
  funext j
  unfold vp_updL t_up
  by_cases h : j = k <;> simp [h]
def t_gr (G : Nat) : Nat → Nat
  | 0 => 1000000
  | k + 1 => t_gr G k * G / 100
theorem t_gr_le {G : Nat} (hG : G ≤ 99) : ∀ k, t_gr G k ≤ 1000000
  | 0 => Nat.le_refl _
  | k + 1 => by
    have h1 := t_gr_le hG k
    have h2 : t_gr G k * G ≤ 1000000 * 99 := Nat.mul_le_mul h1 hG
    show t_gr G k * G / 100 ≤ 1000000
    omega
abbrev t_mo (a b x : Int32) : Prop := 0 ≤ a ∧ ((a ≤ b ∧ a ≤ x ∧ x ≤ b) ∨ (¬ a ≤ b ∧ (a ≤ x ∨ x ≤ b)))
/-- the next seed; a chosen function, so that nothing unfolds it by itself -/
theorem t_sd_ex : ∃ f : Nat → Nat, ∀ s, f s = (s * 1103515245 + 12345) % 2147483648 := ⟨_, fun _ => rfl⟩
noncomputable def t_sd : Nat → Nat := Classical.choose t_sd_ex
theorem t_sd_eq (s : Nat) : t_sd s = (s * 1103515245 + 12345) % 2147483648 := Classical.choose_spec t_sd_ex s
theorem t_sd_lt (s : Nat) : t_sd s < 2147483648 := by
  rw [t_sd_eq]
  exact Nat.mod_lt _ (Nat.le_of_ble_eq_true rfl)
theorem lN_and {a : Nat} (ha : a < 2 ^ 63) : lN a &&& lN 2147483647 = lN (a % 2147483648) := by
  have h : (2147483647 : Nat) = 2 ^ 31 - 1 := by decide
  rw [h, show (2147483648 : Nat) = 2 ^ 31 from by decide]
  apply Int64.toBitVec_inj.mp
  rw [Int64.toBitVec_and]
  show BitVec.ofNat 64 a &&& BitVec.ofNat 64 (2 ^ 31 - 1) = BitVec.ofNat 64 (a % 2 ^ 31)
  rw [← BitVec.ofNat_and, Nat.and_two_pow_sub_one_eq_mod]
set_option maxRecDepth 100000 in
theorem k_X5_value {ev : mv_E} {h : mv_H} {lw : Nat → Int32} {k : Nat} (HL : h[1]? = some (.inr (5, [.ref 2]))) (HV : h[2]? = some (.inl (0, 8, .inl lw))) (hk : k < 8) : mv_K ev mX5_value [.ref 1, .int (nI k)] h (some (.int (lw k))) h := by
  refine mv_Kof ?_
  show mv_g ev mX5_value 0 [.ref 1, .int (nI k)] [] h _
  refine mv_iload_n dX5_value_0 rfl ?_
  refine mv_iconst (v := nI 0) dX5_value_1 (by decide) ?_
  refine mv_aload_n dX5_value_2 rfl ?_
  refine mv_getf (ci := 5) (f := 0) dX5_value_3 HL rfl (by decide) wd_105 rfl ?_
  refine mv_alen dX5_value_6 HV (by decide) ?_
  refine mv_iconst (v := nI 1) dX5_value_7 (by decide) ?_
  refine mv_isub dX5_value_8 ?_
  refine mv_topI (y := nI (8 - 1)) (pk_sub (by omega)) ?_
  refine mv_cSN3 dX5_value_9 lk_X5_value_23 (Nat.le_of_ble_eq_true rfl) (Nat.le_of_ble_eq_true rfl) (k_X11_within (ev := ev)) ?_
  refine mv_if_eq (tgt := 24) dX5_value_12 (by decide) (fun z => absurd z ((fun z => (mv_b_0 _).mp z (mv_in_i (by omega) (by omega) (by omega))))) (fun c12 => ?_)
  refine mv_aload_n dX5_value_15 rfl ?_
  refine mv_getf (ci := 5) (f := 0) dX5_value_16 HL rfl (by decide) wd_105 rfl ?_
  refine mv_iload_n dX5_value_19 rfl ?_
  refine mv_iaN (j := k) (x := lw k) dX5_value_20 HV rfl (by decide) (by omega) rfl ?_
  refine mv_goto (tgt := 25) dX5_value_21 (by decide) ?_
  exact mv_iret dX5_value_25 rfl rfl ⟨rfl, rfl⟩
set_option maxRecDepth 100000 in
theorem l_X5_shareFrom {ev : mv_E} {h : mv_H} {lw : Nat → Int32} {G : Nat} {z : Nat} (HL : h[1]? = some (.inr (5, [.ref 2]))) (HV : h[2]? = some (.inl (0, 8, .inl lw))) (hG : lw 1 = nI G) (hGb : G ≤ 99) (hz1 : 1 ≤ z) (hz9 : z ≤ 9) : ∀ (fu : Nat) (v : Nat) (k : Nat), z < k + fu → (1 ≤ k) → (k ≤ z) → (v = t_gr G (k - 1)) → mv_g ev mX5_shareFrom 5 [.ref 1, .int (nI z), .int (nI v), .int (nI k)] [] h (fun r g => r = some (.int (nI (t_gr G (z - 1)))) ∧ g = h) := by
  intro fu
  induction fu with
  | zero => intro v k hm hk1 hk hv; exact absurd hm (by omega)
  | succ fu ih =>
    intro v k hm hk1 hk hv
    refine mv_iload_n dX5_shareFrom_5 rfl ?_
    refine mv_iload_n dX5_shareFrom_6 rfl ?_
    refine mv_icmp_ge (tgt := 33) dX5_shareFrom_7 (by decide) (fun c7 => ?_) (fun c7 => ?_)
    · have c7 : z ≤ k := (nI_leI (by omega) (by omega)).mp c7
      refine mv_iload_n dX5_shareFrom_33 rfl ?_
      exact mv_iret dX5_shareFrom_34 rfl rfl ⟨(congrArg (fun z => some (Value.int z)) (congrArg nI (by have e : k = z := (by omega); subst e; exact hv))), rfl⟩
    · have c7 : ¬ (z ≤ k) := fun z => c7 ((nI_leI (by omega) (by omega)).mpr z)
      refine mv_iload_n dX5_shareFrom_10 rfl ?_
      refine mv_bipush (v := nI 9) dX5_shareFrom_11 (by decide) ?_
      refine mv_icmp_ge (tgt := 33) dX5_shareFrom_13 (by decide) (fun c13 => ?_) (fun c13 => ?_)
      · have c13 : 9 ≤ k := (nI_leI (by omega) (by omega)).mp c13
        refine mv_iload_n dX5_shareFrom_33 rfl ?_
        exact mv_iret dX5_shareFrom_34 rfl rfl ⟨(congrArg (fun z => some (Value.int z)) (congrArg nI (by have e : k = z := (by omega); subst e; exact hv))), rfl⟩
      · have c13 : ¬ (9 ≤ k) := fun z => c13 ((nI_leI (by omega) (by omega)).mpr z)
        refine mv_iload_n dX5_shareFrom_16 rfl ?_
        refine mv_aload_n dX5_shareFrom_17 rfl ?_
        refine mv_iconst (v := nI 1) dX5_shareFrom_18 (by decide) ?_
        refine mv_cV1 (ci := 5) dX5_shareFrom_19 lk_X5_shareFrom_40 HL rfl (Nat.le_of_ble_eq_true rfl) (Nat.le_of_ble_eq_true rfl) (k_X5_value (ev := ev) HL HV (by omega)) ?_
        refine mv_topI (y := nI G) hG ?_
        have b1 : v ≤ 1000000 := (by rw [hv]; exact t_gr_le hGb _)
        have b2 : v * G ≤ 1000000 * 99 := Nat.mul_le_mul b1 hGb
        refine mv_imul dX5_shareFrom_22 ?_
        refine mv_topI (y := nI (v * G)) (pk_mul _ _) ?_
        refine mv_bipush (v := nI 100) dX5_shareFrom_23 (by decide) ?_
        refine mv_idiv dX5_shareFrom_25 (by decide) ?_
        refine mv_topI (y := nI ((v * G) / 100)) (pk_div (by omega) (by omega) (by omega)) ?_
        refine mv_istore_n dX5_shareFrom_26 (by decide) ?_
        refine mv_iinc (v := nI (k + 1)) dX5_shareFrom_27 rfl (mv_inc k 1) (by decide) ?_
        refine mv_goto (tgt := 5) dX5_shareFrom_30 (by decide) ?_
        exact ih ((v * G) / 100) (k + 1) (by omega) (by omega) (by omega) (by have e : k + 1 - 1 = (k - 1) + 1 := (by omega); rw [e]; show _ = t_gr G (k - 1) * G / 100; rw [← hv])
set_option maxRecDepth 100000 in
theorem k_X5_shareFrom {ev : mv_E} {h : mv_H} {lw : Nat → Int32} {G : Nat} {z : Nat} (HL : h[1]? = some (.inr (5, [.ref 2]))) (HV : h[2]? = some (.inl (0, 8, .inl lw))) (hG : lw 1 = nI G) (hGb : G ≤ 99) (hz1 : 1 ≤ z) (hz9 : z ≤ 9) : mv_K ev mX5_shareFrom [.ref 1, .int (nI z)] h (some (.int (nI (t_gr G (z - 1))))) h := by
  refine mv_Kof ?_
  show mv_g ev mX5_shareFrom 0 [.ref 1, .int (nI z), .null, .null] [] h _
  refine mv_ldc (v := nI 1000000) dX5_shareFrom_0 wd_609 ?_
  refine mv_istore_n dX5_shareFrom_2 (by decide) ?_
  refine mv_iconst (v := nI 1) dX5_shareFrom_3 (by decide) ?_
  refine mv_istore_n dX5_shareFrom_4 (by decide) ?_
  exact l_X5_shareFrom HL HV hG hGb hz1 hz9 (z + 1) 1000000 1 (by omega) (Nat.le_refl _) (by omega) rfl
/-- a book: how many, the seed, days, places, sizes -/
abbrev t_B : Type := Nat × Nat × (Nat → Nat) × (Nat → Nat) × (Nat → Nat)
noncomputable def t_ds (b : t_B) : t_B := (b.1, t_sd b.2.1, b.2.2)
def q_wr (b : t_B) (d p z : Nat) : t_B := (b.1 + 1, b.2.1, t_up b.2.2.1 b.1 d, t_up b.2.2.2.1 b.1 p, t_up b.2.2.2.2 b.1 z)
noncomputable def t_sz (G : Nat) : Nat → Nat → Nat × Nat
  | 0, s => (9, s)
  | r + 1, s => if t_sd s / 65536 % 100 < G then t_sz G r (t_sd s) else (8 - r, t_sd s)
theorem t_sz_stop {G z s : Nat} (h1 : 1 ≤ z) (h : z < 9) (hc : ¬ t_sd s / 65536 % 100 < G) : t_sz G (9 - z) s = (z, t_sd s) := by
  have e : 9 - z = (8 - z) + 1 := by omega
  have e2 : t_sz G ((8 - z) + 1) s = if t_sd s / 65536 % 100 < G then t_sz G (8 - z) (t_sd s) else (8 - (8 - z), t_sd s) := rfl
  rw [e, e2, if_neg hc, show 8 - (8 - z) = z by omega]
theorem t_sz_go {G z s : Nat} (h : z < 9) (hc : t_sd s / 65536 % 100 < G) : t_sz G (9 - z) s = t_sz G (9 - (z + 1)) (t_sd s) := by
  have e : 9 - z = (8 - z) + 1 := by omega
  have e2 : t_sz G ((8 - z) + 1) s = if t_sd s / 65536 % 100 < G then t_sz G (8 - z) (t_sd s) else (8 - (8 - z), t_sd s) := rfl
  rw [e, e2, if_pos hc, show 9 - (z + 1) = 8 - z by omega]
theorem t_sz_in (G r s : Nat) (h : r ≤ 8) : 1 ≤ (t_sz G r s).1 ∧ (t_sz G r s).1 ≤ 9 := by
  induction r generalizing s with
  | zero => exact ⟨Nat.le_of_ble_eq_true rfl, Nat.le_refl _⟩
  | succ r ih =>
    have e : t_sz G (r + 1) s = if t_sd s / 65536 % 100 < G then t_sz G r (t_sd s) else (8 - r, t_sd s) := rfl
    rw [e]
    by_cases hc : t_sd s / 65536 % 100 < G
    · rw [if_pos hc]
      exact ih (t_sd s) (by omega)
    · rw [if_neg hc]
      exact ⟨(by omega : 1 ≤ 8 - r), (by omega : 8 - r ≤ 9)⟩
theorem t_sz_sd (G r s : Nat) (h : s < 2147483648) : (t_sz G r s).2 < 2147483648 := by
  induction r generalizing s with
  | zero => exact h
  | succ r ih =>
    have e : t_sz G (r + 1) s = if t_sd s / 65536 % 100 < G then t_sz G r (t_sd s) else (8 - r, t_sd s) := rfl
    rw [e]
    by_cases hc : t_sd s / 65536 % 100 < G
    · rw [if_pos hc]
      exact ih (t_sd s) (t_sd_lt s)
    · rw [if_neg hc]
      exact t_sd_lt s
/-- a shake comes -/
noncomputable def t_cm (G d p : Nat) (b : t_B) : t_B := (b.1 + 1, (t_sz G 8 b.2.1).2, t_up b.2.2.1 b.1 d, t_up b.2.2.2.1 b.1 p, t_up b.2.2.2.2 b.1 (t_sz G 8 b.2.1).1)
set_option maxRecDepth 100000 in
theorem k_X0_size {ev : mv_E} {h : mv_H} {b : t_B} {t : Nat} (HB : h[7]? = some (.inr (0, [.ref 8, .ref 9, .ref 10, .int (nI b.1), .int (nI t), .int (nI b.2.1)])))  : mv_K ev mX0_size [.ref 7] h (some (.int (nI b.1))) h := by
  refine mv_Kof ?_
  show mv_g ev mX0_size 0 [.ref 7] [] h _
  refine mv_aload_n dX0_size_0 rfl ?_
  refine mv_getf (ci := 0) (f := 3) dX0_size_1 HB rfl (by decide) wd_151 rfl ?_
  exact mv_iret dX0_size_4 rfl rfl ⟨rfl, rfl⟩
set_option maxRecDepth 100000 in
theorem k_X0_today {ev : mv_E} {h : mv_H} {b : t_B} {t : Nat} (HB : h[7]? = some (.inr (0, [.ref 8, .ref 9, .ref 10, .int (nI b.1), .int (nI t), .int (nI b.2.1)])))  : mv_K ev mX0_today [.ref 7] h (some (.int (nI t))) h := by
  refine mv_Kof ?_
  show mv_g ev mX0_today 0 [.ref 7] [] h _
  refine mv_aload_n dX0_today_0 rfl ?_
  refine mv_getf (ci := 0) (f := 4) dX0_today_1 HB rfl (by decide) wd_152 rfl ?_
  exact mv_iret dX0_today_4 rfl rfl ⟨rfl, rfl⟩
set_option maxRecDepth 100000 in
theorem k_X0_isFull {ev : mv_E} {h : mv_H} {b : t_B} {t : Nat} (HB : h[7]? = some (.inr (0, [.ref 8, .ref 9, .ref 10, .int (nI b.1), .int (nI t), .int (nI b.2.1)]))) (hn : b.1 ≤ 60) : mv_K ev mX0_isFull [.ref 7] h (some (.int (mv_b (60 ≤ b.1)))) h := by
  refine mv_Kof ?_
  show mv_g ev mX0_isFull 0 [.ref 7] [] h _
  refine mv_aload_n dX0_isFull_0 rfl ?_
  refine mv_getf (ci := 0) (f := 3) dX0_isFull_1 HB rfl (by decide) wd_151 rfl ?_
  refine mv_bipush (v := nI 60) dX0_isFull_4 (by decide) ?_
  refine mv_icmp_lt (tgt := 13) dX0_isFull_6 (by decide) (fun c6 => ?_) (fun c6 => ?_)
  · have c6 : b.1 < 60 := (nI_ltI (by omega) (by omega)).mp c6
    refine mv_iconst (v := nI 0) dX0_isFull_13 (by decide) ?_
    exact mv_iret dX0_isFull_14 rfl rfl ⟨(congrArg (fun z => some (Value.int z)) (by first | exact (mv_b_t (by omega)).symm | exact (mv_b_f (by omega)).symm)), rfl⟩
  · have c6 : ¬ (b.1 < 60) := fun z => c6 ((nI_ltI (by omega) (by omega)).mpr z)
    refine mv_iconst (v := nI 1) dX0_isFull_9 (by decide) ?_
    refine mv_goto (tgt := 14) dX0_isFull_10 (by decide) ?_
    exact mv_iret dX0_isFull_14 rfl rfl ⟨(congrArg (fun z => some (Value.int z)) (by first | exact (mv_b_t (by omega)).symm | exact (mv_b_f (by omega)).symm)), rfl⟩
set_option maxRecDepth 100000 in
theorem k_X0_hasI {ev : mv_E} {h : mv_H} {b : t_B} {t : Nat} {k : Int32} (HB : h[7]? = some (.inr (0, [.ref 8, .ref 9, .ref 10, .int (nI b.1), .int (nI t), .int (nI b.2.1)])))  : mv_K ev mX0_has [.ref 7, .int k] h (some (.int (mv_b (0 ≤ k ∧ k < nI b.1 ∧ k < nI 60)))) h := by
  refine mv_Kof ?_
  show mv_g ev mX0_has 0 [.ref 7, .int k] [] h _
  refine mv_iload_n dX0_has_0 rfl ?_
  refine mv_if_lt (tgt := 22) dX0_has_1 (by decide) (fun c1 => ?_) (fun c1 => ?_)
  · skip
    refine mv_iconst (v := nI 0) dX0_has_22 (by decide) ?_
    exact mv_iret dX0_has_23 rfl rfl ⟨(congrArg (fun z => some (Value.int z)) (by first | exact (mv_b_t ⟨Int32.not_lt.mp c1, Int32.not_le.mp c9, Int32.not_le.mp c15⟩).symm | exact (mv_b_f (fun z => absurd z.1 (Int32.not_le.mpr c1))).symm | exact (mv_b_f (fun z => absurd z.2.1 (Int32.not_lt.mpr c9))).symm | exact (mv_b_f (fun z => absurd z.2.2 (Int32.not_lt.mpr c15))).symm)), rfl⟩
  · skip
    refine mv_iload_n dX0_has_4 rfl ?_
    refine mv_aload_n dX0_has_5 rfl ?_
    refine mv_getf (ci := 0) (f := 3) dX0_has_6 HB rfl (by decide) wd_151 rfl ?_
    refine mv_icmp_ge (tgt := 22) dX0_has_9 (by decide) (fun c9 => ?_) (fun c9 => ?_)
    · skip
      refine mv_iconst (v := nI 0) dX0_has_22 (by decide) ?_
      exact mv_iret dX0_has_23 rfl rfl ⟨(congrArg (fun z => some (Value.int z)) (by first | exact (mv_b_t ⟨Int32.not_lt.mp c1, Int32.not_le.mp c9, Int32.not_le.mp c15⟩).symm | exact (mv_b_f (fun z => absurd z.1 (Int32.not_le.mpr c1))).symm | exact (mv_b_f (fun z => absurd z.2.1 (Int32.not_lt.mpr c9))).symm | exact (mv_b_f (fun z => absurd z.2.2 (Int32.not_lt.mpr c15))).symm)), rfl⟩
    · skip
      refine mv_iload_n dX0_has_12 rfl ?_
      refine mv_bipush (v := nI 60) dX0_has_13 (by decide) ?_
      refine mv_icmp_ge (tgt := 22) dX0_has_15 (by decide) (fun c15 => ?_) (fun c15 => ?_)
      · skip
        refine mv_iconst (v := nI 0) dX0_has_22 (by decide) ?_
        exact mv_iret dX0_has_23 rfl rfl ⟨(congrArg (fun z => some (Value.int z)) (by first | exact (mv_b_t ⟨Int32.not_lt.mp c1, Int32.not_le.mp c9, Int32.not_le.mp c15⟩).symm | exact (mv_b_f (fun z => absurd z.1 (Int32.not_le.mpr c1))).symm | exact (mv_b_f (fun z => absurd z.2.1 (Int32.not_lt.mpr c9))).symm | exact (mv_b_f (fun z => absurd z.2.2 (Int32.not_lt.mpr c15))).symm)), rfl⟩
      · skip
        refine mv_iconst (v := nI 1) dX0_has_18 (by decide) ?_
        refine mv_goto (tgt := 23) dX0_has_19 (by decide) ?_
        exact mv_iret dX0_has_23 rfl rfl ⟨(congrArg (fun z => some (Value.int z)) (by first | exact (mv_b_t ⟨Int32.not_lt.mp c1, Int32.not_le.mp c9, Int32.not_le.mp c15⟩).symm | exact (mv_b_f (fun z => absurd z.1 (Int32.not_le.mpr c1))).symm | exact (mv_b_f (fun z => absurd z.2.1 (Int32.not_lt.mpr c9))).symm | exact (mv_b_f (fun z => absurd z.2.2 (Int32.not_lt.mpr c15))).symm)), rfl⟩
set_option maxRecDepth 100000 in
theorem k_X0_has {ev : mv_E} {h : mv_H} {b : t_B} {t : Nat} {k : Nat} (HB : h[7]? = some (.inr (0, [.ref 8, .ref 9, .ref 10, .int (nI b.1), .int (nI t), .int (nI b.2.1)]))) (hk : k < b.1) (hn : b.1 ≤ 60) : mv_K ev mX0_has [.ref 7, .int (nI k)] h (some (.int (nI 1))) h := by
  refine mv_Kof ?_
  show mv_g ev mX0_has 0 [.ref 7, .int (nI k)] [] h _
  refine mv_iload_n dX0_has_0 rfl ?_
  refine mv_if_lt (tgt := 22) dX0_has_1 (by decide) (fun z => absurd z ((nI_pos (by omega)))) (fun c1 => ?_)
  refine mv_iload_n dX0_has_4 rfl ?_
  refine mv_aload_n dX0_has_5 rfl ?_
  refine mv_getf (ci := 0) (f := 3) dX0_has_6 HB rfl (by decide) wd_151 rfl ?_
  refine mv_icmp_ge (tgt := 22) dX0_has_9 (by decide) (fun z => absurd z ((fun z => absurd ((nI_leI (by omega) (by omega)).mp z) (by omega)))) (fun c9 => ?_)
  refine mv_iload_n dX0_has_12 rfl ?_
  refine mv_bipush (v := nI 60) dX0_has_13 (by decide) ?_
  refine mv_icmp_ge (tgt := 22) dX0_has_15 (by decide) (fun z => absurd z ((fun z => absurd ((nI_leI (by omega) (by omega)).mp z) (by omega)))) (fun c15 => ?_)
  refine mv_iconst (v := nI 1) dX0_has_18 (by decide) ?_
  refine mv_goto (tgt := 23) dX0_has_19 (by decide) ?_
  exact mv_iret dX0_has_23 rfl rfl ⟨rfl, rfl⟩
set_option maxRecDepth 100000 in
theorem k_X0_dayOf {ev : mv_E} {h : mv_H} {b : t_B} {t : Nat} {k : Nat} (HB : h[7]? = some (.inr (0, [.ref 8, .ref 9, .ref 10, .int (nI b.1), .int (nI t), .int (nI b.2.1)]))) (H8 : h[8]? = some (.inl (0, 60, .inl (fun j => nI (b.2.2.1 j))))) (hk : k < b.1) (hn : b.1 ≤ 60) : mv_K ev mX0_dayOf [.ref 7, .int (nI k)] h (some (.int (nI (b.2.2.1 k)))) h := by
  refine mv_Kof ?_
  show mv_g ev mX0_dayOf 0 [.ref 7, .int (nI k)] [] h _
  refine mv_aload_n dX0_dayOf_0 rfl ?_
  refine mv_iload_n dX0_dayOf_1 rfl ?_
  refine mv_cV1 (ci := 0) dX0_dayOf_2 lk_X0_dayOf_31 HB rfl (Nat.le_of_ble_eq_true rfl) (Nat.le_of_ble_eq_true rfl) (k_X0_has (ev := ev) HB (by omega) (by omega)) ?_
  refine mv_if_eq (tgt := 17) dX0_dayOf_5 (by decide) (fun z => absurd z ((by decide))) (fun c5 => ?_)
  refine mv_aload_n dX0_dayOf_8 rfl ?_
  refine mv_getf (ci := 0) (f := 0) dX0_dayOf_9 HB rfl (by decide) wd_148 rfl ?_
  refine mv_iload_n dX0_dayOf_12 rfl ?_
  refine mv_iaN (j := k) (x := nI (b.2.2.1 k)) dX0_dayOf_13 H8 rfl (by decide) (by omega) rfl ?_
  refine mv_goto (tgt := 18) dX0_dayOf_14 (by decide) ?_
  exact mv_iret dX0_dayOf_18 rfl rfl ⟨rfl, rfl⟩
set_option maxRecDepth 100000 in
theorem k_X0_placeOf {ev : mv_E} {h : mv_H} {b : t_B} {t : Nat} {k : Nat} (HB : h[7]? = some (.inr (0, [.ref 8, .ref 9, .ref 10, .int (nI b.1), .int (nI t), .int (nI b.2.1)]))) (H9 : h[9]? = some (.inl (0, 60, .inl (fun j => nI (b.2.2.2.1 j))))) (hk : k < b.1) (hn : b.1 ≤ 60) : mv_K ev mX0_placeOf [.ref 7, .int (nI k)] h (some (.int (nI (b.2.2.2.1 k)))) h := by
  refine mv_Kof ?_
  show mv_g ev mX0_placeOf 0 [.ref 7, .int (nI k)] [] h _
  refine mv_aload_n dX0_placeOf_0 rfl ?_
  refine mv_iload_n dX0_placeOf_1 rfl ?_
  refine mv_cV1 (ci := 0) dX0_placeOf_2 lk_X0_placeOf_31 HB rfl (Nat.le_of_ble_eq_true rfl) (Nat.le_of_ble_eq_true rfl) (k_X0_has (ev := ev) HB (by omega) (by omega)) ?_
  refine mv_if_eq (tgt := 17) dX0_placeOf_5 (by decide) (fun z => absurd z ((by decide))) (fun c5 => ?_)
  refine mv_aload_n dX0_placeOf_8 rfl ?_
  refine mv_getf (ci := 0) (f := 1) dX0_placeOf_9 HB rfl (by decide) wd_149 rfl ?_
  refine mv_iload_n dX0_placeOf_12 rfl ?_
  refine mv_iaN (j := k) (x := nI (b.2.2.2.1 k)) dX0_placeOf_13 H9 rfl (by decide) (by omega) rfl ?_
  refine mv_goto (tgt := 18) dX0_placeOf_14 (by decide) ?_
  exact mv_iret dX0_placeOf_18 rfl rfl ⟨rfl, rfl⟩
set_option maxRecDepth 100000 in
theorem k_X0_sizeOf {ev : mv_E} {h : mv_H} {b : t_B} {t : Nat} {k : Nat} (HB : h[7]? = some (.inr (0, [.ref 8, .ref 9, .ref 10, .int (nI b.1), .int (nI t), .int (nI b.2.1)]))) (H10 : h[10]? = some (.inl (0, 60, .inl (fun j => nI (b.2.2.2.2 j))))) (hk : k < b.1) (hn : b.1 ≤ 60) : mv_K ev mX0_sizeOf [.ref 7, .int (nI k)] h (some (.int (nI (b.2.2.2.2 k)))) h := by
  refine mv_Kof ?_
  show mv_g ev mX0_sizeOf 0 [.ref 7, .int (nI k)] [] h _
  refine mv_aload_n dX0_sizeOf_0 rfl ?_
  refine mv_iload_n dX0_sizeOf_1 rfl ?_
  refine mv_cV1 (ci := 0) dX0_sizeOf_2 lk_X0_sizeOf_31 HB rfl (Nat.le_of_ble_eq_true rfl) (Nat.le_of_ble_eq_true rfl) (k_X0_has (ev := ev) HB (by omega) (by omega)) ?_
  refine mv_if_eq (tgt := 17) dX0_sizeOf_5 (by decide) (fun z => absurd z ((by decide))) (fun c5 => ?_)
  refine mv_aload_n dX0_sizeOf_8 rfl ?_
  refine mv_getf (ci := 0) (f := 2) dX0_sizeOf_9 HB rfl (by decide) wd_150 rfl ?_
  refine mv_iload_n dX0_sizeOf_12 rfl ?_
  refine mv_iaN (j := k) (x := nI (b.2.2.2.2 k)) dX0_sizeOf_13 H10 rfl (by decide) (by omega) rfl ?_
  refine mv_goto (tgt := 18) dX0_sizeOf_14 (by decide) ?_
  exact mv_iret dX0_sizeOf_18 rfl rfl ⟨rfl, rfl⟩
set_option maxRecDepth 100000 in
theorem k_X0_changeSeed {ev : mv_E} {h : mv_H} {b : t_B} {t : Nat} {v : Nat} (HB : h[7]? = some (.inr (0, [.ref 8, .ref 9, .ref 10, .int (nI b.1), .int (nI t), .int (nI b.2.1)])))  : ∃ h2, mv_K ev mX0_changeSeed [.ref 7, .int (nI v)] h (some (.int (nI b.2.1))) h2 ∧ mv_fra [7] h h2 ∧ h2[7]? = some (.inr (0, [.ref 8, .ref 9, .ref 10, .int (nI (b.1, v, b.2.2).1), .int (nI t), .int (nI (b.1, v, b.2.2).2.1)])) := by
  suffices g0 : mv_g ev mX0_changeSeed 0 (mv_ent [.ref 7, .int (nI v)] (mv_ml mX0_changeSeed)) [] h (fun r g => r = some (.int (nI b.2.1)) ∧ mv_fra [7] h g ∧ g[7]? = some (.inr (0, [.ref 8, .ref 9, .ref 10, .int (nI (b.1, v, b.2.2).1), .int (nI t), .int (nI (b.1, v, b.2.2).2.1)]))) from (by obtain ⟨r0, h0, K0, q0, Q0⟩ := mv_Kex g0; subst q0; exact ⟨h0, K0, Q0⟩)
  show mv_g ev mX0_changeSeed 0 [.ref 7, .int (nI v), .null] [] h _
  have fr : mv_fra [7] h h := mv_fra.rf
  refine mv_aload_n dX0_changeSeed_0 rfl ?_
  refine mv_getf (ci := 0) (f := 5) dX0_changeSeed_1 HB rfl (by decide) wd_153 rfl ?_
  refine mv_istore_n dX0_changeSeed_4 (by decide) ?_
  refine mv_aload_n dX0_changeSeed_5 rfl ?_
  refine mv_iload_n dX0_changeSeed_6 rfl ?_
  refine mv_putf (ci := 0) (f := 5) dX0_changeSeed_7 HB rfl (by decide) wd_153 rfl rfl (fun _ => ⟨rfl, rfl⟩) (Nat.le_of_ble_eq_true rfl) ?_
  refine mv_topH (fun h1 e2 => ?_)
  have HB : h1[7]? = some (.inr (0, [.ref 8, .ref 9, .ref 10, .int (nI b.1), .int (nI t), .int (nI v)])) := mv_eq e2 HB
  have fr := fr.set e2 (by decide)
  clear e2
  refine mv_iload_n dX0_changeSeed_10 rfl ?_
  exact mv_iret dX0_changeSeed_11 rfl rfl ⟨rfl, fr, HB⟩
set_option maxRecDepth 100000 in
theorem k_X0_write {ev : mv_E} {h : mv_H} {b : t_B} {t : Nat} {d : Nat} {p : Nat} {z : Nat} (HB : h[7]? = some (.inr (0, [.ref 8, .ref 9, .ref 10, .int (nI b.1), .int (nI t), .int (nI b.2.1)]))) (H8 : h[8]? = some (.inl (0, 60, .inl (fun j => nI (b.2.2.1 j))))) (H9 : h[9]? = some (.inl (0, 60, .inl (fun j => nI (b.2.2.2.1 j))))) (H10 : h[10]? = some (.inl (0, 60, .inl (fun j => nI (b.2.2.2.2 j))))) (hn : b.1 < 60) : ∃ h2, mv_K ev mX0_write [.ref 7, .int (nI d), .int (nI p), .int (nI z)] h (some (.int (nI b.1))) h2 ∧ mv_fra [7, 8, 9, 10] h h2 ∧ h2[7]? = some (.inr (0, [.ref 8, .ref 9, .ref 10, .int (nI (q_wr b d p z).1), .int (nI d), .int (nI (q_wr b d p z).2.1)])) ∧ h2[8]? = some (.inl (0, 60, .inl (fun j => nI ((q_wr b d p z).2.2.1 j)))) ∧ h2[9]? = some (.inl (0, 60, .inl (fun j => nI ((q_wr b d p z).2.2.2.1 j)))) ∧ h2[10]? = some (.inl (0, 60, .inl (fun j => nI ((q_wr b d p z).2.2.2.2 j)))) := by
  suffices g0 : mv_g ev mX0_write 0 (mv_ent [.ref 7, .int (nI d), .int (nI p), .int (nI z)] (mv_ml mX0_write)) [] h (fun r g => r = some (.int (nI b.1)) ∧ mv_fra [7, 8, 9, 10] h g ∧ g[7]? = some (.inr (0, [.ref 8, .ref 9, .ref 10, .int (nI (q_wr b d p z).1), .int (nI d), .int (nI (q_wr b d p z).2.1)])) ∧ g[8]? = some (.inl (0, 60, .inl (fun j => nI ((q_wr b d p z).2.2.1 j)))) ∧ g[9]? = some (.inl (0, 60, .inl (fun j => nI ((q_wr b d p z).2.2.2.1 j)))) ∧ g[10]? = some (.inl (0, 60, .inl (fun j => nI ((q_wr b d p z).2.2.2.2 j))))) from (by obtain ⟨r0, h0, K0, q0, Q0⟩ := mv_Kex g0; subst q0; exact ⟨h0, K0, Q0⟩)
  show mv_g ev mX0_write 0 [.ref 7, .int (nI d), .int (nI p), .int (nI z)] [] h _
  have fr : mv_fra [7, 8, 9, 10] h h := mv_fra.rf
  refine mv_aload_n dX0_write_0 rfl ?_
  refine mv_getf (ci := 0) (f := 3) dX0_write_1 HB rfl (by decide) wd_151 rfl ?_
  refine mv_if_lt (tgt := 14) dX0_write_4 (by decide) (fun z => absurd z ((nI_pos (by omega)))) (fun c4 => ?_)
  refine mv_aload_n dX0_write_7 rfl ?_
  refine mv_cV0 (ci := 0) dX0_write_8 lk_X0_write_35 HB rfl (Nat.le_of_ble_eq_true rfl) (Nat.le_of_ble_eq_true rfl) (k_X0_isFull (ev := ev) HB (by omega)) ?_
  refine mv_if_eq (tgt := 16) dX0_write_11 (by decide) (fun c11 => ?_) (fun z => absurd (((mv_b_0 _).mpr (by omega))) z)
  refine mv_aload_n dX0_write_16 rfl ?_
  refine mv_getf (ci := 0) (f := 0) dX0_write_17 HB rfl (by decide) wd_148 rfl ?_
  refine mv_aload_n dX0_write_20 rfl ?_
  refine mv_getf (ci := 0) (f := 3) dX0_write_21 HB rfl (by decide) wd_151 rfl ?_
  refine mv_iload_n dX0_write_24 rfl ?_
  refine mv_iastN (j := b.1) dX0_write_25 H8 rfl (by decide) (by omega) (fun h1 e2 => ?_)
  rw [upd_nI] at e2
  have HB := mv_ne e2 (by decide) HB
  have H8 : h1[8]? = some (.inl (0, 60, .inl (fun j => nI (t_up b.2.2.1 b.1 d j)))) := mv_eq e2 H8
  have H9 := mv_ne e2 (by decide) H9
  have H10 := mv_ne e2 (by decide) H10
  have fr := fr.set e2 (by decide)
  clear e2
  refine mv_aload_n dX0_write_26 rfl ?_
  refine mv_getf (ci := 0) (f := 1) dX0_write_27 HB rfl (by decide) wd_149 rfl ?_
  refine mv_aload_n dX0_write_30 rfl ?_
  refine mv_getf (ci := 0) (f := 3) dX0_write_31 HB rfl (by decide) wd_151 rfl ?_
  refine mv_iload_n dX0_write_34 rfl ?_
  refine mv_iastN (j := b.1) dX0_write_35 H9 rfl (by decide) (by omega) (fun h3 e4 => ?_)
  rw [upd_nI] at e4
  have HB := mv_ne e4 (by decide) HB
  have H8 := mv_ne e4 (by decide) H8
  have H9 : h3[9]? = some (.inl (0, 60, .inl (fun j => nI (t_up b.2.2.2.1 b.1 p j)))) := mv_eq e4 H9
  have H10 := mv_ne e4 (by decide) H10
  have fr := fr.set e4 (by decide)
  clear e4
  refine mv_aload_n dX0_write_36 rfl ?_
  refine mv_getf (ci := 0) (f := 2) dX0_write_37 HB rfl (by decide) wd_150 rfl ?_
  refine mv_aload_n dX0_write_40 rfl ?_
  refine mv_getf (ci := 0) (f := 3) dX0_write_41 HB rfl (by decide) wd_151 rfl ?_
  refine mv_iload_n dX0_write_44 rfl ?_
  refine mv_iastN (j := b.1) dX0_write_45 H10 rfl (by decide) (by omega) (fun h5 e6 => ?_)
  rw [upd_nI] at e6
  have HB := mv_ne e6 (by decide) HB
  have H8 := mv_ne e6 (by decide) H8
  have H9 := mv_ne e6 (by decide) H9
  have H10 : h5[10]? = some (.inl (0, 60, .inl (fun j => nI (t_up b.2.2.2.2 b.1 z j)))) := mv_eq e6 H10
  have fr := fr.set e6 (by decide)
  clear e6
  refine mv_aload_n dX0_write_46 rfl ?_
  refine mv_iload_n dX0_write_47 rfl ?_
  refine mv_putf (ci := 0) (f := 4) dX0_write_48 HB rfl (by decide) wd_152 rfl rfl (fun _ => ⟨rfl, rfl⟩) (Nat.le_of_ble_eq_true rfl) ?_
  refine mv_topH (fun h7 e8 => ?_)
  have HB : h7[7]? = some (.inr (0, [.ref 8, .ref 9, .ref 10, .int (nI b.1), .int (nI d), .int (nI b.2.1)])) := mv_eq e8 HB
  have H8 := mv_ne e8 (by decide) H8
  have H9 := mv_ne e8 (by decide) H9
  have H10 := mv_ne e8 (by decide) H10
  have fr := fr.set e8 (by decide)
  clear e8
  refine mv_aload_n dX0_write_51 rfl ?_
  refine mv_dup dX0_write_52 rfl ?_
  refine mv_getf (ci := 0) (f := 3) dX0_write_53 HB rfl (by decide) wd_151 rfl ?_
  refine mv_iconst (v := nI 1) dX0_write_56 (by decide) ?_
  refine mv_iadd dX0_write_57 ?_
  refine mv_topI (y := nI (b.1 + 1)) (nI_add _ _) ?_
  refine mv_putf (ci := 0) (f := 3) dX0_write_58 HB rfl (by decide) wd_151 rfl rfl (fun _ => ⟨rfl, rfl⟩) (Nat.le_of_ble_eq_true rfl) ?_
  refine mv_topH (fun h9 e10 => ?_)
  have HB : h9[7]? = some (.inr (0, [.ref 8, .ref 9, .ref 10, .int (nI (b.1 + 1)), .int (nI d), .int (nI b.2.1)])) := mv_eq e10 HB
  have H8 := mv_ne e10 (by decide) H8
  have H9 := mv_ne e10 (by decide) H9
  have H10 := mv_ne e10 (by decide) H10
  have fr := fr.set e10 (by decide)
  clear e10
  refine mv_aload_n dX0_write_61 rfl ?_
  refine mv_getf (ci := 0) (f := 3) dX0_write_62 HB rfl (by decide) wd_151 rfl ?_
  refine mv_iconst (v := nI 1) dX0_write_65 (by decide) ?_
  refine mv_isub dX0_write_66 ?_
  refine mv_topI (y := nI b.1) (by rw [pk_sub (by omega)]; exact congrArg nI (by omega)) ?_
  exact mv_iret dX0_write_67 rfl rfl ⟨rfl, fr, HB, H8, H9, H10⟩
set_option maxRecDepth 100000 in
theorem k_X0_draw {ev : mv_E} {h : mv_H} {b : t_B} {t : Nat} {m : Nat} (HB : h[7]? = some (.inr (0, [.ref 8, .ref 9, .ref 10, .int (nI b.1), .int (nI t), .int (nI b.2.1)]))) (hs : b.2.1 < 2147483648) (hm1 : 1 ≤ m) (hm2 : m < 2147483648) : ∃ h2, mv_K ev mX0_draw [.ref 7, .int (nI m)] h (some (.int (nI (t_sd b.2.1 / 65536 % m)))) h2 ∧ mv_fra [7] h h2 ∧ h2[7]? = some (.inr (0, [.ref 8, .ref 9, .ref 10, .int (nI (t_ds b).1), .int (nI t), .int (nI (t_ds b).2.1)])) := by
  suffices g0 : mv_g ev mX0_draw 0 (mv_ent [.ref 7, .int (nI m)] (mv_ml mX0_draw)) [] h (fun r g => r = some (.int (nI (t_sd b.2.1 / 65536 % m))) ∧ mv_fra [7] h g ∧ g[7]? = some (.inr (0, [.ref 8, .ref 9, .ref 10, .int (nI (t_ds b).1), .int (nI t), .int (nI (t_ds b).2.1)]))) from (by obtain ⟨r0, h0, K0, q0, Q0⟩ := mv_Kex g0; subst q0; exact ⟨h0, K0, Q0⟩)
  show mv_g ev mX0_draw 0 [.ref 7, .int (nI m)] [] h _
  have fr : mv_fra [7] h h := mv_fra.rf
  have b1 := t_sd_lt b.2.1
  refine mv_aload_n dX0_draw_0 rfl ?_
  refine mv_aload_n dX0_draw_1 rfl ?_
  refine mv_getf (ci := 0) (f := 5) dX0_draw_2 HB rfl (by decide) wd_153 rfl ?_
  refine mv_i2l dX0_draw_5 ?_
  refine mv_topL (y := lN b.2.1) (nI_l (by omega)) ?_
  refine mv_ldc2 (v := lN 1103515245) dX0_draw_6 wd_656 ?_
  refine mv_lmul dX0_draw_9 ?_
  refine mv_topL (y := lN (b.2.1 * 1103515245)) (lN_mul _ _) ?_
  refine mv_ldc2 (v := lN 12345) dX0_draw_10 wd_657 ?_
  refine mv_ladd dX0_draw_13 ?_
  refine mv_topL (y := lN (b.2.1 * 1103515245 + 12345)) (lN_add _ _) ?_
  refine mv_ldc2 (v := lN 2147483647) dX0_draw_14 wd_658 ?_
  refine mv_land dX0_draw_17 ?_
  refine mv_topL (y := lN (t_sd b.2.1)) (by rw [t_sd_eq]; exact lN_and (by omega)) ?_
  refine mv_l2i dX0_draw_18 ?_
  refine mv_topI (y := nI (t_sd b.2.1)) (lN_i _) ?_
  refine mv_putf (ci := 0) (f := 5) dX0_draw_19 HB rfl (by decide) wd_153 rfl rfl (fun _ => ⟨rfl, rfl⟩) (Nat.le_of_ble_eq_true rfl) ?_
  refine mv_topH (fun h1 e2 => ?_)
  have HB : h1[7]? = some (.inr (0, [.ref 8, .ref 9, .ref 10, .int (nI b.1), .int (nI t), .int (nI (t_sd b.2.1))])) := mv_eq e2 HB
  have fr := fr.set e2 (by decide)
  clear e2
  refine mv_iload_n dX0_draw_22 rfl ?_
  refine mv_iconst (v := nI 1) dX0_draw_23 (by decide) ?_
  refine mv_icmp_ge (tgt := 31) dX0_draw_24 (by decide) (fun c24 => ?_) (fun z => absurd (((nI_leI (by omega) (by omega)).mpr hm1)) z)
  refine mv_aload_n dX0_draw_31 rfl ?_
  refine mv_getf (ci := 0) (f := 5) dX0_draw_32 HB rfl (by decide) wd_153 rfl ?_
  refine mv_ldc (v := nI 65536) dX0_draw_35 wd_659 ?_
  refine mv_idiv dX0_draw_37 (by decide) ?_
  refine mv_topI (y := nI ((t_sd b.2.1) / 65536)) (pk_div (by omega) (by omega) (by omega)) ?_
  refine mv_iload_n dX0_draw_38 rfl ?_
  refine mv_irem dX0_draw_39 (by intro z; have z2 := (nI_eq (b := 0) (by omega) (by omega)).mp z; omega) ?_
  refine mv_topI (y := nI (((t_sd b.2.1) / 65536) % m)) (pk_rem (by omega) (by omega) (by omega)) ?_
  exact mv_iret dX0_draw_40 rfl rfl ⟨rfl, fr, HB⟩
set_option maxRecDepth 100000 in
theorem l_X0_come {ev : mv_E} {h : mv_H} {b : t_B} {t : Nat} {d : Nat} {p : Nat} {lw : Nat → Int32} {G : Nat}  (hn : b.1 < 60) (hs : b.2.1 < 2147483648) (hG : lw 1 = nI G) (hGb : G ≤ 99) : ∀ (fu : Nat) (z : Nat) (s2 : Nat), ∀ (g : mv_H), 9 < z + fu → mv_fra [7, 8, 9, 10] h g → g[7]? = some (.inr (0, [.ref 8, .ref 9, .ref 10, .int (nI (b.1, s2, b.2.2).1), .int (nI t), .int (nI (b.1, s2, b.2.2).2.1)])) → g[8]? = some (.inl (0, 60, .inl (fun j => nI (b.2.2.1 j)))) → g[9]? = some (.inl (0, 60, .inl (fun j => nI (b.2.2.2.1 j)))) → g[10]? = some (.inl (0, 60, .inl (fun j => nI (b.2.2.2.2 j)))) → g[1]? = some (.inr (5, [.ref 2])) → g[2]? = some (.inl (0, 8, .inl lw)) → (1 ≤ z) → (z ≤ 9) → (s2 < 2147483648) → (t_sz G (9 - z) s2 = t_sz G 8 b.2.1) → mv_g ev mX0_come 3 [.ref 7, .int (nI d), .int (nI p), .ref 1, .int (nI z)] [] g (fun r g => r = none ∧ mv_fra [7, 8, 9, 10] h g ∧ g[7]? = some (.inr (0, [.ref 8, .ref 9, .ref 10, .int (nI (t_cm G d p b).1), .int (nI d), .int (nI (t_cm G d p b).2.1)])) ∧ g[8]? = some (.inl (0, 60, .inl (fun j => nI ((t_cm G d p b).2.2.1 j)))) ∧ g[9]? = some (.inl (0, 60, .inl (fun j => nI ((t_cm G d p b).2.2.2.1 j)))) ∧ g[10]? = some (.inl (0, 60, .inl (fun j => nI ((t_cm G d p b).2.2.2.2 j))))) := by
  intro fu
  induction fu with
  | zero => intro z s2 g hm fr HB H8 H9 H10 HL HV hz1 hz9 hs2 hz; exact absurd hm (by omega)
  | succ fu ih =>
    intro z s2 g hm fr HB H8 H9 H10 HL HV hz1 hz9 hs2 hz
    refine mv_iload dX0_come_3 rfl ?_
    refine mv_bipush (v := nI 9) dX0_come_5 (by decide) ?_
    refine mv_icmp_ge (tgt := 30) dX0_come_7 (by decide) (fun c7 => ?_) (fun c7 => ?_)
    · have c7 : 9 ≤ z := (nI_leI (by omega) (by omega)).mp c7
      refine mv_aload_n dX0_come_30 rfl ?_
      refine mv_iload_n dX0_come_31 rfl ?_
      refine mv_iload_n dX0_come_32 rfl ?_
      refine mv_iload dX0_come_33 rfl ?_
      obtain ⟨h1, K2, f3, y4, y5, y6, y7⟩ := (k_X0_write (ev := ev) (b := (b.1, s2, b.2.2)) (t := t) (d := d) (p := p) (z := z) HB H8 H9 H10 (show _ < 60 from hn))
      refine mv_cV3 (ci := 0) dX0_come_35 lk_X0_come_91 HB rfl (Nat.le_of_ble_eq_true rfl) (Nat.le_of_ble_eq_true rfl) K2 ?_
      have HB : h1[7]? = some (.inr (0, [.ref 8, .ref 9, .ref 10, .int (nI (q_wr (b.1, s2, b.2.2) d p z).1), .int (nI d), .int (nI (q_wr (b.1, s2, b.2.2) d p z).2.1)])) := y4
      have H8 : h1[8]? = some (.inl (0, 60, .inl (fun j => nI ((q_wr (b.1, s2, b.2.2) d p z).2.2.1 j)))) := y5
      have H9 : h1[9]? = some (.inl (0, 60, .inl (fun j => nI ((q_wr (b.1, s2, b.2.2) d p z).2.2.2.1 j)))) := y6
      have H10 : h1[10]? = some (.inl (0, 60, .inl (fun j => nI ((q_wr (b.1, s2, b.2.2) d p z).2.2.2.2 j)))) := y7
      have HL := f3.get (by decide) HL
      have HV := f3.get (by decide) HV
      have fr := fr.trans f3 (by decide)
      refine mv_pop dX0_come_38 rfl ?_
      have e9 : t_sz G 8 b.2.1 = (z, s2) := (by first | exact hz.symm.trans (t_sz_stop (by omega) (by omega) (by omega)) | (rw [← hz]; have q : z = 9 := (by omega); subst q; rfl))
      exact mv_vret dX0_come_39 rfl ⟨rfl, fr, (by unfold t_cm; rw [e9]; exact HB), (by unfold t_cm; exact H8), (by unfold t_cm; exact H9), (by unfold t_cm; rw [e9]; exact H10)⟩
    · have c7 : ¬ (9 ≤ z) := fun z => c7 ((nI_leI (by omega) (by omega)).mpr z)
      refine mv_aload_n dX0_come_10 rfl ?_
      refine mv_bipush (v := nI 100) dX0_come_11 (by decide) ?_
      obtain ⟨h8, K9, f10, y11⟩ := (k_X0_draw (ev := ev) (b := (b.1, s2, b.2.2)) (t := t) (m := 100) HB (by omega) (by omega) (by omega))
      refine mv_cV1 (ci := 0) dX0_come_13 lk_X0_come_55 HB rfl (Nat.le_of_ble_eq_true rfl) (Nat.le_of_ble_eq_true rfl) K9 ?_
      have HB : h8[7]? = some (.inr (0, [.ref 8, .ref 9, .ref 10, .int (nI (t_ds (b.1, s2, b.2.2)).1), .int (nI t), .int (nI (t_ds (b.1, s2, b.2.2)).2.1)])) := y11
      have H8 := f10.get (by decide) H8
      have H9 := f10.get (by decide) H9
      have H10 := f10.get (by decide) H10
      have HL := f10.get (by decide) HL
      have HV := f10.get (by decide) HV
      have fr := fr.trans f10 (by decide)
      refine mv_aload_n dX0_come_16 rfl ?_
      refine mv_iconst (v := nI 1) dX0_come_17 (by decide) ?_
      refine mv_cV1 (ci := 5) dX0_come_18 lk_X0_come_59 HL rfl (Nat.le_of_ble_eq_true rfl) (Nat.le_of_ble_eq_true rfl) (k_X5_value (ev := ev) HL HV (by omega)) ?_
      refine mv_topI (y := nI G) hG ?_
      refine mv_icmp_ge (tgt := 30) dX0_come_21 (by decide) (fun c21 => ?_) (fun c21 => ?_)
      · have c21 : G ≤ t_sd s2 / 65536 % 100 := (nI_leI (by omega) (by omega)).mp c21
        refine mv_aload_n dX0_come_30 rfl ?_
        refine mv_iload_n dX0_come_31 rfl ?_
        refine mv_iload_n dX0_come_32 rfl ?_
        refine mv_iload dX0_come_33 rfl ?_
        obtain ⟨h12, K13, f14, y15, y16, y17, y18⟩ := (k_X0_write (ev := ev) (b := (t_ds (b.1, s2, b.2.2))) (t := t) (d := d) (p := p) (z := z) HB H8 H9 H10 (show _ < 60 from hn))
        refine mv_cV3 (ci := 0) dX0_come_35 lk_X0_come_91 HB rfl (Nat.le_of_ble_eq_true rfl) (Nat.le_of_ble_eq_true rfl) K13 ?_
        have HB : h12[7]? = some (.inr (0, [.ref 8, .ref 9, .ref 10, .int (nI (q_wr (t_ds (b.1, s2, b.2.2)) d p z).1), .int (nI d), .int (nI (q_wr (t_ds (b.1, s2, b.2.2)) d p z).2.1)])) := y15
        have H8 : h12[8]? = some (.inl (0, 60, .inl (fun j => nI ((q_wr (t_ds (b.1, s2, b.2.2)) d p z).2.2.1 j)))) := y16
        have H9 : h12[9]? = some (.inl (0, 60, .inl (fun j => nI ((q_wr (t_ds (b.1, s2, b.2.2)) d p z).2.2.2.1 j)))) := y17
        have H10 : h12[10]? = some (.inl (0, 60, .inl (fun j => nI ((q_wr (t_ds (b.1, s2, b.2.2)) d p z).2.2.2.2 j)))) := y18
        have HL := f14.get (by decide) HL
        have HV := f14.get (by decide) HV
        have fr := fr.trans f14 (by decide)
        refine mv_pop dX0_come_38 rfl ?_
        have e9 : t_sz G 8 b.2.1 = (z, t_sd s2) := (by first | exact hz.symm.trans (t_sz_stop (by omega) (by omega) (by omega)) | (rw [← hz]; have q : z = 9 := (by omega); subst q; rfl))
        exact mv_vret dX0_come_39 rfl ⟨rfl, fr, (by unfold t_cm; rw [e9]; exact HB), (by unfold t_cm; exact H8), (by unfold t_cm; exact H9), (by unfold t_cm; rw [e9]; exact H10)⟩
      · have c21 : ¬ (G ≤ t_sd s2 / 65536 % 100) := fun z => c21 ((nI_leI (by omega) (by omega)).mpr z)
        refine mv_iinc (v := nI (z + 1)) dX0_come_24 rfl (mv_inc z 1) (by decide) ?_
        refine mv_goto (tgt := 3) dX0_come_27 (by decide) ?_
        exact ih (z + 1) (t_sd s2) h8 (by omega) fr HB H8 H9 H10 HL HV (by omega) (by omega) (t_sd_lt s2) (by rw [← t_sz_go (by omega) (by omega)]; exact hz)
set_option maxRecDepth 100000 in
theorem k_X0_come {ev : mv_E} {h : mv_H} {b : t_B} {t : Nat} {d : Nat} {p : Nat} {lw : Nat → Int32} {G : Nat} (HB : h[7]? = some (.inr (0, [.ref 8, .ref 9, .ref 10, .int (nI b.1), .int (nI t), .int (nI b.2.1)]))) (H8 : h[8]? = some (.inl (0, 60, .inl (fun j => nI (b.2.2.1 j))))) (H9 : h[9]? = some (.inl (0, 60, .inl (fun j => nI (b.2.2.2.1 j))))) (H10 : h[10]? = some (.inl (0, 60, .inl (fun j => nI (b.2.2.2.2 j))))) (HL : h[1]? = some (.inr (5, [.ref 2]))) (HV : h[2]? = some (.inl (0, 8, .inl lw))) (hn : b.1 < 60) (hs : b.2.1 < 2147483648) (hG : lw 1 = nI G) (hGb : G ≤ 99) : ∃ h2, mv_K ev mX0_come [.ref 7, .int (nI d), .int (nI p), .ref 1] h (none) h2 ∧ mv_fra [7, 8, 9, 10] h h2 ∧ h2[7]? = some (.inr (0, [.ref 8, .ref 9, .ref 10, .int (nI (t_cm G d p b).1), .int (nI d), .int (nI (t_cm G d p b).2.1)])) ∧ h2[8]? = some (.inl (0, 60, .inl (fun j => nI ((t_cm G d p b).2.2.1 j)))) ∧ h2[9]? = some (.inl (0, 60, .inl (fun j => nI ((t_cm G d p b).2.2.2.1 j)))) ∧ h2[10]? = some (.inl (0, 60, .inl (fun j => nI ((t_cm G d p b).2.2.2.2 j)))) := by
  suffices g0 : mv_g ev mX0_come 0 (mv_ent [.ref 7, .int (nI d), .int (nI p), .ref 1] (mv_ml mX0_come)) [] h (fun r g => r = none ∧ mv_fra [7, 8, 9, 10] h g ∧ g[7]? = some (.inr (0, [.ref 8, .ref 9, .ref 10, .int (nI (t_cm G d p b).1), .int (nI d), .int (nI (t_cm G d p b).2.1)])) ∧ g[8]? = some (.inl (0, 60, .inl (fun j => nI ((t_cm G d p b).2.2.1 j)))) ∧ g[9]? = some (.inl (0, 60, .inl (fun j => nI ((t_cm G d p b).2.2.2.1 j)))) ∧ g[10]? = some (.inl (0, 60, .inl (fun j => nI ((t_cm G d p b).2.2.2.2 j))))) from (by obtain ⟨r0, h0, K0, q0, Q0⟩ := mv_Kex g0; subst q0; exact ⟨h0, K0, Q0⟩)
  show mv_g ev mX0_come 0 [.ref 7, .int (nI d), .int (nI p), .ref 1, .null] [] h _
  have fr : mv_fra [7, 8, 9, 10] h h := mv_fra.rf
  refine mv_iconst (v := nI 1) dX0_come_0 (by decide) ?_
  refine mv_istore dX0_come_1 (by decide) ?_
  exact l_X0_come hn hs hG hGb 10 1 b.2.1 h (by omega) fr HB H8 H9 H10 HL HV (by omega) (by omega) hs rfl
