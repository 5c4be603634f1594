set_option maxRecDepth 100000 in
theorem k_X7_isEven {ev : mv_E} {h : mv_H} {s : q_S} {wa : Nat → Nat} {cf : Nat → Int32} {ct : Nat → Int32} {rr : Nat → Nat} {rc : Nat} {lw : Nat → Int32} {ln : Nat → Nat} {k : Nat} (HL : h[1]? = some (.inr (5, [.ref 2]))) (HV : h[2]? = some (.inl (0, 8, .inl lw))) (HS : h[22]? = some (.inr (7, [.ref 1, .ref 23, .ref 24, .ref 25, .ref 26, .int (nI s.1), .ref 27, .ref 28, .ref 29, .ref 30, .int (nI rc), .ref 31]))) (S23 : h[23]? = some (.inl (0, 100, .inl (fun j => nI (s.2.1 j))))) (S24 : h[24]? = some (.inl (0, 100, .inl (fun j => nI (s.2.2.1 j))))) (S25 : h[25]? = some (.inl (0, 100, .inl (fun j => nI (s.2.2.2.1 j))))) (S26 : h[26]? = some (.inl (0, 100, .inl (fun j => nI (s.2.2.2.2 j))))) (S27 : h[27]? = some (.inl (0, 8, .inl (fun j => nI (wa j))))) (S28 : h[28]? = some (.inl (0, 8, .inl cf))) (S29 : h[29]? = some (.inl (0, 8, .inl ct))) (S30 : h[30]? = some (.inl (2, 400, .inl (fun j => nI (rr j))))) (hw : q_LW lw ln) (hsi : q_SI s) (hr : ∀ d, rr d ≤ 1) (hwi : q_WI wa cf ct) (hk : k < s.1) : mv_K ev mX7_isEven [.ref 22, .int (nI k)] h (some (.int (mv_q (q_ev lw ln s wa cf ct rr k)))) h := by
  refine mv_Kof ?_
  show mv_g ev mX7_isEven 0 [.ref 22, .int (nI k), .null, .null] [] h _
  have n0 := hsi.1
  have n2 := hsi.2.1 k
  have n1 := hsi.2.2.1 k
  have n3 := hsi.2.2.2.1 k
  have n5 := hsi.2.2.2.2 k
  have n4 := hwi.1 (s.2.1 k)
  have n6 := q_ow_le lw ln rr (s.2.2.1 k)
  refine mv_aload_n dX7_isEven_0 rfl ?_
  refine mv_iload_n dX7_isEven_1 rfl ?_
  refine mv_cV1 (ci := 7) dX7_isEven_2 lk_X7_isEven_90 HS rfl (Nat.le_of_ble_eq_true rfl) (Nat.le_of_ble_eq_true rfl) (k_X7_kindOf (ev := ev) HS S23 (by omega) (by omega)) ?_
  refine mv_istore_n dX7_isEven_5 (by decide) ?_
  refine mv_aload_n dX7_isEven_6 rfl ?_
  refine mv_iload_n dX7_isEven_7 rfl ?_
  refine mv_cV1 (ci := 7) dX7_isEven_8 lk_X7_isEven_79 HS rfl (Nat.le_of_ble_eq_true rfl) (Nat.le_of_ble_eq_true rfl) (k_X7_dayOf (ev := ev) HS S24 (by omega) (by omega)) ?_
  refine mv_istore_n dX7_isEven_11 (by decide) ?_
  refine mv_aload_n dX7_isEven_12 rfl ?_
  refine mv_iload_n dX7_isEven_13 rfl ?_
  refine mv_iload_n dX7_isEven_14 rfl ?_
  refine mv_cV2 (ci := 7) dX7_isEven_15 lk_X7_isEven_93 HS rfl (Nat.le_of_ble_eq_true rfl) (Nat.le_of_ble_eq_true rfl) (k_X7_isCountedOn (ev := ev) HS S28 S29 (by omega)) ?_
  refine mv_if_eq (tgt := 55) dX7_isEven_18 (by decide) (fun c18 => ?_) (fun c18 => ?_)
  · have c18 : ¬ (cf (s.2.1 k) ≠ -1 ∧ cf (s.2.1 k) ≤ nI (s.2.2.1 k) ∧ nI (s.2.2.1 k) ≤ ct (s.2.1 k)) := (mv_b_0 _).mp c18
    refine mv_iconst (v := nI 0) dX7_isEven_55 (by decide) ?_
    exact mv_iret dX7_isEven_56 rfl rfl ⟨(congrArg (fun z => some (Value.int z)) (by first | exact (mv_q_t ⟨c18, c31, c40, c48⟩).symm | exact (mv_q_f (fun z => c48 z.2.2.2)).symm | exact (mv_q_f (fun z => c40 z.2.2.1)).symm | exact (mv_q_f (fun z => c31 z.2.1)).symm | exact (mv_q_f (fun z => c18 z.1)).symm)), rfl⟩
  · have c18 : cf (s.2.1 k) ≠ -1 ∧ cf (s.2.1 k) ≤ nI (s.2.2.1 k) ∧ nI (s.2.2.1 k) ≤ ct (s.2.1 k) := Classical.byContradiction (fun z => c18 ((mv_b_0 _).mpr z))
    refine mv_aload_n dX7_isEven_21 rfl ?_
    refine mv_iload_n dX7_isEven_22 rfl ?_
    refine mv_cV1 (ci := 7) dX7_isEven_23 lk_X7_isEven_97 HS rfl (Nat.le_of_ble_eq_true rfl) (Nat.le_of_ble_eq_true rfl) (k_X7_placeOf (ev := ev) HS S25 (by omega) (by omega)) ?_
    refine mv_aload_n dX7_isEven_26 rfl ?_
    refine mv_iload_n dX7_isEven_27 rfl ?_
    refine mv_cV1 (ci := 7) dX7_isEven_28 lk_X7_isEven_100 HS rfl (Nat.le_of_ble_eq_true rfl) (Nat.le_of_ble_eq_true rfl) (k_X7_watchPlace (ev := ev) HS S27 (by omega)) ?_
    refine mv_icmp_ne (tgt := 55) dX7_isEven_31 (by decide) (fun c31 => ?_) (fun c31 => ?_)
    · have c31 : ¬ (s.2.2.2.1 k = wa (s.2.1 k)) := fun z => c31 ((nI_eq (by omega) (by omega)).mpr z)
      refine mv_iconst (v := nI 0) dX7_isEven_55 (by decide) ?_
      exact mv_iret dX7_isEven_56 rfl rfl ⟨(congrArg (fun z => some (Value.int z)) (by first | exact (mv_q_t ⟨c18, c31, c40, c48⟩).symm | exact (mv_q_f (fun z => c48 z.2.2.2)).symm | exact (mv_q_f (fun z => c40 z.2.2.1)).symm | exact (mv_q_f (fun z => c31 z.2.1)).symm | exact (mv_q_f (fun z => c18 z.1)).symm)), rfl⟩
    · have c31 : s.2.2.2.1 k = wa (s.2.1 k) := (nI_eq (by omega) (by omega)).mp c31
      refine mv_aload_n dX7_isEven_34 rfl ?_
      refine mv_iload_n dX7_isEven_35 rfl ?_
      refine mv_cV1 (ci := 7) dX7_isEven_36 lk_X7_isEven_103 HS rfl (Nat.le_of_ble_eq_true rfl) (Nat.le_of_ble_eq_true rfl) (k_X7_writtenOf (ev := ev) HS S26 (by omega) (by omega)) ?_
      refine mv_iload_n dX7_isEven_39 rfl ?_
      refine mv_icmp_ne (tgt := 55) dX7_isEven_40 (by decide) (fun c40 => ?_) (fun c40 => ?_)
      · have c40 : ¬ (s.2.2.2.2 k = s.2.2.1 k) := fun z => c40 ((nI_eq (by omega) (by omega)).mpr z)
        refine mv_iconst (v := nI 0) dX7_isEven_55 (by decide) ?_
        exact mv_iret dX7_isEven_56 rfl rfl ⟨(congrArg (fun z => some (Value.int z)) (by first | exact (mv_q_t ⟨c18, c31, c40, c48⟩).symm | exact (mv_q_f (fun z => c48 z.2.2.2)).symm | exact (mv_q_f (fun z => c40 z.2.2.1)).symm | exact (mv_q_f (fun z => c31 z.2.1)).symm | exact (mv_q_f (fun z => c18 z.1)).symm)), rfl⟩
      · have c40 : s.2.2.2.2 k = s.2.2.1 k := (nI_eq (by omega) (by omega)).mp c40
        refine mv_aload_n dX7_isEven_43 rfl ?_
        refine mv_iload_n dX7_isEven_44 rfl ?_
        refine mv_cV1 (ci := 7) dX7_isEven_45 lk_X7_isEven_106 HS rfl (Nat.le_of_ble_eq_true rfl) (Nat.le_of_ble_eq_true rfl) (k_X7_owedOf (ev := ev) HL HV HS S24 S30 hw hsi hr hk) ?_
        refine mv_if_ne (tgt := 55) dX7_isEven_48 (by decide) (fun c48 => ?_) (fun c48 => ?_)
        · have c48 : ¬ (q_ow lw ln rr (s.2.2.1 k) = 0) := fun z => c48 ((nI_eq (b := 0) (by omega) (by omega)).mpr z)
          refine mv_iconst (v := nI 0) dX7_isEven_55 (by decide) ?_
          exact mv_iret dX7_isEven_56 rfl rfl ⟨(congrArg (fun z => some (Value.int z)) (by first | exact (mv_q_t ⟨c18, c31, c40, c48⟩).symm | exact (mv_q_f (fun z => c48 z.2.2.2)).symm | exact (mv_q_f (fun z => c40 z.2.2.1)).symm | exact (mv_q_f (fun z => c31 z.2.1)).symm | exact (mv_q_f (fun z => c18 z.1)).symm)), rfl⟩
        · have c48 : q_ow lw ln rr (s.2.2.1 k) = 0 := (nI_eq (b := 0) (by omega) (by omega)).mp c48
          refine mv_iconst (v := nI 1) dX7_isEven_51 (by decide) ?_
          refine mv_goto (tgt := 56) dX7_isEven_52 (by decide) ?_
          exact mv_iret dX7_isEven_56 rfl rfl ⟨(congrArg (fun z => some (Value.int z)) (by first | exact (mv_q_t ⟨c18, c31, c40, c48⟩).symm | exact (mv_q_f (fun z => c48 z.2.2.2)).symm | exact (mv_q_f (fun z => c40 z.2.2.1)).symm | exact (mv_q_f (fun z => c31 z.2.1)).symm | exact (mv_q_f (fun z => c18 z.1)).symm)), rfl⟩
noncomputable def q_oks (lw : Nat → Int32) (ln : Nat → Nat) (s : q_S) (wa : Nat → Nat) (cf ct : Nat → Int32) (rr ok : Nat → Nat) : Nat → Nat := q_fo (q_ev lw ln s wa cf ct rr) s (q_z ok 400) s.1
theorem q_fo_lt {E : Nat → Prop} {s : q_S} {f : Nat → Nat} (hs : q_SI s) (hf : ∀ d, f d < 256) (i : Nat) : ∀ d, q_fo E s f i d < 256 := by
  induction i with
  | zero => exact hf
  | succ i ih =>
    by_cases h : E i
    · rw [q_fo_y h]
      refine t_up_P (P := fun x => x < 256) ih ?_
      have h1 : 2 ^ (s.2.1 i) ≤ 2 ^ 7 := Nat.pow_le_pow_right (by decide) (by have := hs.2.1 i; omega)
      exact Nat.or_lt_two_pow (n := 8) (ih _) (by omega)
    · rw [q_fo_n h]
      exact ih
theorem q_z_lt {ok : Nat → Nat} (h : ∀ d, ok d < 256) (n : Nat) : ∀ d, q_z ok n d < 256 := by
  intro d
  unfold q_z
  split
  · decide
  · exact h d
theorem q_oks_lt {lw : Nat → Int32} {ln : Nat → Nat} {s : q_S} {wa : Nat → Nat} {cf ct : Nat → Int32} {rr ok : Nat → Nat} (hs : q_SI s) (h : ∀ d, ok d < 256) : ∀ d, q_oks lw ln s wa cf ct rr ok d < 256 := q_fo_lt hs (q_z_lt h 400) s.1
theorem q_bt_i (x k : Nat) : q_bt x k = 1 ↔ x.testBit k = true := by
  unfold q_bt
  rw [Nat.testBit_eq_decide_div_mod_eq]
  simp
theorem q_bt_or (x i k : Nat) : q_bt (x ||| 2 ^ i) k = 1 ↔ (q_bt x k = 1 ∨ i = k) := by
  rw [q_bt_i, q_bt_i, Nat.testBit_or, Nat.testBit_two_pow]
  simp
/-- a day is odd of a kind just where an even sign of it came -/
theorem q_fo_b {E : Nat → Prop} {s : q_S} {f : Nat → Nat} (n d k : Nat) (hf : q_bt (f d) k = 0) : q_bt (q_fo E s f n d) k = 1 ↔ ∃ i, i < n ∧ E i ∧ s.2.2.1 i = d ∧ s.2.1 i = k := by
  induction n with
  | zero =>
    have e : q_fo E s f 0 = f := rfl
    rw [e, hf]
    constructor
    · intro z; exact absurd z (by decide)
    · intro ⟨i, hi, _⟩; exact absurd hi (Nat.not_lt_zero _)
  | succ n ih =>
    by_cases h : E n
    · rw [q_fo_y h]
      by_cases c : d = s.2.2.1 n
      · rw [c, t_up_eq, ← c, q_bt_or, ih]
        constructor
        · rintro (⟨i, h1, h2, h3, h4⟩ | h1)
          · exact ⟨i, by omega, h2, h3, h4⟩
          · exact ⟨n, by omega, h, c.symm, h1⟩
        · intro ⟨i, h1, h2, h3, h4⟩
          by_cases e : i = n
          · rw [e] at h4; exact Or.inr h4
          · exact Or.inl ⟨i, by omega, h2, h3, h4⟩
      · rw [t_up_ne _ _ c, ih]
        constructor
        · intro ⟨i, h1, h2, h3, h4⟩
          exact ⟨i, by omega, h2, h3, h4⟩
        · intro ⟨i, h1, h2, h3, h4⟩
          by_cases e : i = n
          · rw [e] at h3; exact absurd h3.symm c
          · exact ⟨i, by omega, h2, h3, h4⟩
    · rw [q_fo_n h, ih]
      constructor
      · intro ⟨i, h1, h2, h3, h4⟩
        exact ⟨i, by omega, h2, h3, h4⟩
      · intro ⟨i, h1, h2, h3, h4⟩
        by_cases e : i = n
        · rw [e] at h2; exact absurd h2 h
        · exact ⟨i, by omega, h2, h3, h4⟩
theorem q_oks_b {lw : Nat → Int32} {ln : Nat → Nat} {s : q_S} {wa : Nat → Nat} {cf ct : Nat → Int32} {rr ok : Nat → Nat} {d k : Nat} (hd : d ≤ 399) : q_bt (q_oks lw ln s wa cf ct rr ok d) k = 1 ↔ ∃ i, i < s.1 ∧ q_ev lw ln s wa cf ct rr i ∧ s.2.2.1 i = d ∧ s.2.1 i = k := by
  refine q_fo_b s.1 d k ?_
  have e : q_z ok 400 d = 0 := if_pos (by omega)
  rw [e]
  unfold q_bt
  rw [Nat.zero_div]
noncomputable def q_on (ok : Nat → Nat) (k n : Nat) : Nat := q_cnt (fun x => q_bt (ok x) k = 1) n
theorem q_on_y {ok : Nat → Nat} {k n : Nat} (h : q_bt (ok n) k = 1) : q_on ok k (n + 1) = q_on ok k n + 1 := q_cnt_y (P := fun x => q_bt (ok x) k = 1) h
theorem q_on_n {ok : Nat → Nat} {k n : Nat} (h : ¬ q_bt (ok n) k = 1) : q_on ok k (n + 1) = q_on ok k n := q_cnt_n (P := fun x => q_bt (ok x) k = 1) h
theorem q_on_le (ok : Nat → Nat) (k n : Nat) : q_on ok k n ≤ n := q_cnt_le _ n
noncomputable def q_ra (ok : Nat → Nat) (cf ct : Nat → Int32) (k : Nat) : Nat := q_on ok k 400 * 1000000 / q_cd cf ct k
theorem q_on_cd {lw : Nat → Int32} {ln : Nat → Nat} {s : q_S} {wa : Nat → Nat} {cf ct : Nat → Int32} {rr ok : Nat → Nat} (hs : q_SI s) (hwi : q_WI wa cf ct) (k : Nat) : q_on (q_oks lw ln s wa cf ct rr ok) k 400 ≤ q_cd cf ct k := by
  have key : ∀ d, d < 400 → q_bt (q_oks lw ln s wa cf ct rr ok d) k = 1 → cf k ≠ -1 ∧ cf k ≤ nI d ∧ nI d ≤ ct k := by
    intro d hd h
    obtain ⟨i, h1, h2, h3, h4⟩ := (q_oks_b (by omega)).mp h
    have := h2.1
    rw [h3, h4] at this
    exact this
  by_cases hk : cf k = -1
  · have e : q_on (q_oks lw ln s wa cf ct rr ok) k 400 = 0 := q_cnt_same 400 (m := 0) (by omega) (fun d _ hd z => (key d hd z).1 hk)
    rw [e]
    exact Nat.zero_le _
  · obtain ⟨a, c, h1, h2, h3, h4⟩ := q_WI_c hwi hk
    have e : q_cd cf ct k = c + 1 - a := by
      unfold q_cd
      rw [if_neg hk, h3, h4, nI_toInt (by omega), nI_toInt (by omega)]
      omega
    have e2 : q_on (q_oks lw ln s wa cf ct rr ok) k 400 = q_cnt (fun x => x < 400 ∧ q_bt (q_oks lw ln s wa cf ct rr ok x) k = 1) 400 := q_cnt_congr 400 (fun d hd => ⟨fun z => ⟨hd, z⟩, fun z => z.2⟩)
    rw [e, e2]
    refine Nat.le_trans (q_cnt_in (a := a) (c := c) (fun d hd => ?_) 400) (by omega)
    have h5 := key d hd.1 hd.2
    rw [h3, h4] at h5
    exact ⟨(nI_leI (by omega) (by omega)).mp h5.2.1, (nI_leI (by omega) (by omega)).mp h5.2.2⟩
theorem q_ra_le {lw : Nat → Int32} {ln : Nat → Nat} {s : q_S} {wa : Nat → Nat} {cf ct : Nat → Int32} {rr ok : Nat → Nat} (hs : q_SI s) (hwi : q_WI wa cf ct) (k : Nat) : q_ra (q_oks lw ln s wa cf ct rr ok) cf ct k ≤ 1000000 := by
  have h := q_on_cd (lw := lw) (ln := ln) (rr := rr) (ok := ok) hs hwi k
  unfold q_ra
  exact Nat.div_le_of_le_mul (Nat.mul_le_mul_right _ h)
def q_pw (r : Nat) : Nat → Nat → Nat
  | 0, v => v
  | n + 1, v => q_pw r n (q_le v r)
theorem q_pw_le (r n : Nat) : ∀ v, v ≤ 1000000 → q_pw r n v ≤ 1000000 := by
  induction n with
  | zero => intro v h; exact h
  | succ n ih => intro v h; exact ih _ (q_le_le _ _ h)
theorem q_pw_s {r n v : Nat} (hn : 0 < n) : q_pw r n v = q_pw r (n - 1) (q_le v r) := by
  obtain ⟨g, rfl⟩ : ∃ g, n = g + 1 := ⟨n - 1, by omega⟩
  rfl
def q_ch (ra : Nat → Nat) (w set : Nat) : Nat → Nat → Nat → Nat
  | 0, _, v => v
  | f + 1, k, v => q_ch ra w set f (k + 1) (q_pw (if q_bt set k = 1 then ra k else 0) w v)
theorem q_ch_s {ra : Nat → Nat} {w set f k v : Nat} (hf : 0 < f) : q_ch ra w set f k v = q_ch ra w set (f - 1) (k + 1) (q_pw (if q_bt set k = 1 then ra k else 0) w v) := by
  obtain ⟨g, rfl⟩ : ∃ g, f = g + 1 := ⟨f - 1, by omega⟩
  rfl
def q_oW (ok : Nat → Nat) (k d w : Nat) : Prop := ∃ x, d ≤ x ∧ x ≤ d + w ∧ q_bt (ok x) k = 1
def q_aP (s : q_S) (d p w m set i : Nat) : Prop := q_bt set (s.2.1 i) = 1 ∧ (s.2.2.1 i < d ∧ d ≤ s.2.2.1 i + w) ∧ t_far (s.2.2.2.1 i) p ≤ m
def q_aC (cf : Nat → Int32) (set : Nat) : Prop := ∀ k, k < 8 → q_bt set k = 1 → cf k ≠ -1
def q_sP (ok : Nat → Nat) (k1 k2 w a1 a2 c1 c2 d : Nat) : Prop := q_bt (ok d) k1 = 1 ∧ (a1 ≤ d ∧ a2 ≤ d ∧ d ≤ c1 ∧ d + w ≤ c2) ∧ ∀ x, d ≤ x → x ≤ d + w → ¬ q_bt (ok x) k2 = 1
def q_mn (c1 c2 w : Nat) : Int32 := if nI c2 - nI w < nI c1 then nI c2 - nI w else nI c1
theorem q_mn_i {c1 c2 w d : Nat} (h1 : c1 ≤ 399) (h2 : c2 ≤ 399) (hw : w < 1000) (hd : d < 1000) : q_mn c1 c2 w < nI d ↔ ¬ (d ≤ c1 ∧ d + w ≤ c2) := by
  have e := pk_sub_toInt (a := c2) (b := w) (by omega) (by omega)
  unfold q_mn
  split
  · rename_i z
    rw [Int32.lt_iff_toInt_lt, e, nI_toInt (by omega)] at z
    rw [Int32.lt_iff_toInt_lt, e, nI_toInt (by omega)]
    omega
  · rename_i z
    rw [Int32.lt_iff_toInt_lt, e, nI_toInt (by omega)] at z
    rw [Int32.lt_iff_toInt_lt, nI_toInt (by omega), nI_toInt (by omega)]
    omega
theorem nI_m1 {a : Nat} (h : a < 2 ^ 31) : nI a ≠ -1 := by
  intro z
  have e := nI_pos (n := a) h
  rw [z] at e
  exact e (by decide)
set_option maxRecDepth 100000 in
theorem l_X7_findOddB {ev : mv_E} {h : mv_H} {s : q_S} {wa : Nat → Nat} {cf : Nat → Int32} {ct : Nat → Int32} {rr : Nat → Nat} {rc : Nat} {ok : Nat → Nat} {lw : Nat → Int32} {ln : Nat → Nat}  (hw : q_LW lw ln) (hsi : q_SI s) (hr : ∀ d, rr d ≤ 1) (hwi : q_WI wa cf ct) : ∀ (fu : Nat) (i : Nat), ∀ (g : mv_H), s.1 < i + fu → mv_fra [31] h g → g[31]? = some (.inl (0, 400, .inl (fun j => nI (q_fo (q_ev lw ln s wa cf ct rr) s (q_z ok 400) i j)))) → g[1]? = some (.inr (5, [.ref 2])) → g[2]? = some (.inl (0, 8, .inl lw)) → g[22]? = some (.inr (7, [.ref 1, .ref 23, .ref 24, .ref 25, .ref 26, .int (nI s.1), .ref 27, .ref 28, .ref 29, .ref 30, .int (nI rc), .ref 31])) → g[23]? = some (.inl (0, 100, .inl (fun j => nI (s.2.1 j)))) → g[24]? = some (.inl (0, 100, .inl (fun j => nI (s.2.2.1 j)))) → g[25]? = some (.inl (0, 100, .inl (fun j => nI (s.2.2.2.1 j)))) → g[26]? = some (.inl (0, 100, .inl (fun j => nI (s.2.2.2.2 j)))) → g[27]? = some (.inl (0, 8, .inl (fun j => nI (wa j)))) → g[28]? = some (.inl (0, 8, .inl cf)) → g[29]? = some (.inl (0, 8, .inl ct)) → g[30]? = some (.inl (2, 400, .inl (fun j => nI (rr j)))) → (i ≤ s.1) → mv_g ev mX7_findOddDays 24 [.ref 22, .int (nI i), .null] [] g (fun r g => r = none ∧ mv_fra [31] h g ∧ g[31]? = some (.inl (0, 400, .inl (fun j => nI ((q_oks lw ln s wa cf ct rr ok) j))))) := by
  intro fu
  induction fu with
  | zero => intro i g hm fr S31 HL HV HS S23 S24 S25 S26 S27 S28 S29 S30 hi; exact absurd hm (by omega)
  | succ fu ih =>
    intro i g hm fr S31 HL HV HS S23 S24 S25 S26 S27 S28 S29 S30 hi
    have n0 := hsi.1
    have n1 := hsi.2.2.1 i
    refine mv_iload_n dX7_findOddDays_24 rfl ?_
    refine mv_aload_n dX7_findOddDays_25 rfl ?_
    refine mv_getf (ci := 7) (f := 5) dX7_findOddDays_26 HS rfl (by decide) wd_209 rfl ?_
    refine mv_icmp_ge (tgt := 75) dX7_findOddDays_29 (by decide) (fun c29 => ?_) (fun c29 => ?_)
    · have c29 : s.1 ≤ i := (nI_leI (by omega) (by omega)).mp c29
      have ei : i = s.1 := (by omega)
      subst ei
      exact mv_vret dX7_findOddDays_75 rfl ⟨rfl, fr, S31⟩
    · have c29 : ¬ (s.1 ≤ i) := fun z => c29 ((nI_leI (by omega) (by omega)).mpr z)
      refine mv_aload_n dX7_findOddDays_32 rfl ?_
      refine mv_iload_n dX7_findOddDays_33 rfl ?_
      refine mv_cV1 (ci := 7) dX7_findOddDays_34 lk_X7_findOddDays_79 HS rfl (Nat.le_of_ble_eq_true rfl) (Nat.le_of_ble_eq_true rfl) (k_X7_dayOf (ev := ev) HS S24 (by omega) (by omega)) ?_
      refine mv_istore_n dX7_findOddDays_37 (by decide) ?_
      refine mv_iload_n dX7_findOddDays_38 rfl ?_
      refine mv_cSN1 dX7_findOddDays_39 lk_X7_findOddDays_76 (Nat.le_of_ble_eq_true rfl) (Nat.le_of_ble_eq_true rfl) (k_X11_isDay (ev := ev)) ?_
      refine mv_if_eq (tgt := 69) dX7_findOddDays_42 (by decide) (fun z => absurd z ((fun z => (mv_b_0 _).mp z (mv_in_i (by omega) (by omega) (by omega))))) (fun c42 => ?_)
      refine mv_aload_n dX7_findOddDays_45 rfl ?_
      refine mv_iload_n dX7_findOddDays_46 rfl ?_
      refine mv_cV1 (ci := 7) dX7_findOddDays_47 lk_X7_findOddDays_109 HS rfl (Nat.le_of_ble_eq_true rfl) (Nat.le_of_ble_eq_true rfl) (k_X7_isEven (ev := ev) HL HV HS S23 S24 S25 S26 S27 S28 S29 S30 hw hsi hr hwi (by omega)) ?_
      refine mv_if_eq (tgt := 69) dX7_findOddDays_50 (by decide) (fun c50 => ?_) (fun c50 => ?_)
      · have c50 : ¬ (q_ev lw ln s wa cf ct rr i) := (mv_q_0 _).mp c50
        rw [← q_fo_n c50] at S31
        refine mv_iinc (v := nI (i + 1)) dX7_findOddDays_69 rfl (mv_inc i 1) (by decide) ?_
        refine mv_goto (tgt := 24) dX7_findOddDays_72 (by decide) ?_
        refine mv_sub (lv' := [.ref 22, .int (nI (i + 1)), .null]) ⟨Or.inr rfl, Or.inr rfl, Or.inl rfl, trivial⟩ ?_
        exact ih (i + 1) g (by omega) fr S31 HL HV HS S23 S24 S25 S26 S27 S28 S29 S30 (by omega)
      · have c50 : q_ev lw ln s wa cf ct rr i := Classical.byContradiction (fun z => c50 ((mv_q_0 _).mpr z))
        refine mv_aload_n dX7_findOddDays_53 rfl ?_
        refine mv_getf (ci := 7) (f := 11) dX7_findOddDays_54 HS rfl (by decide) wd_215 rfl ?_
        refine mv_iload_n dX7_findOddDays_57 rfl ?_
        refine mv_dup2 dX7_findOddDays_58 rfl rfl ?_
        refine mv_iaN (j := (s.2.2.1 i)) (x := nI (q_fo (q_ev lw ln s wa cf ct rr) s (q_z ok 400) i (s.2.2.1 i))) dX7_findOddDays_59 S31 rfl (by decide) (by omega) rfl ?_
        refine mv_iconst (v := nI 1) dX7_findOddDays_60 (by decide) ?_
        refine mv_aload_n dX7_findOddDays_61 rfl ?_
        refine mv_iload_n dX7_findOddDays_62 rfl ?_
        refine mv_cV1 (ci := 7) dX7_findOddDays_63 lk_X7_findOddDays_90 HS rfl (Nat.le_of_ble_eq_true rfl) (Nat.le_of_ble_eq_true rfl) (k_X7_kindOf (ev := ev) HS S23 (by omega) (by omega)) ?_
        refine mv_ishl dX7_findOddDays_66 ?_
        refine mv_topI (y := nI (2 ^ (s.2.1 i))) (q_shl1 _ (hsi.2.1 i)) ?_
        refine mv_ior dX7_findOddDays_67 ?_
        refine mv_topI (y := nI ((q_fo (q_ev lw ln s wa cf ct rr) s (q_z ok 400) i (s.2.2.1 i)) ||| 2 ^ (s.2.1 i))) (q_or _ _) ?_
        refine mv_iastN (j := (s.2.2.1 i)) dX7_findOddDays_68 S31 rfl (by decide) (by omega) (fun h1 e2 => ?_)
        rw [upd_nI] at e2
        have HL := mv_ne e2 (by decide) HL
        have HV := mv_ne e2 (by decide) HV
        have HS := mv_ne e2 (by decide) HS
        have S23 := mv_ne e2 (by decide) S23
        have S24 := mv_ne e2 (by decide) S24
        have S25 := mv_ne e2 (by decide) S25
        have S26 := mv_ne e2 (by decide) S26
        have S27 := mv_ne e2 (by decide) S27
        have S28 := mv_ne e2 (by decide) S28
        have S29 := mv_ne e2 (by decide) S29
        have S30 := mv_ne e2 (by decide) S30
        have S31 : h1[31]? = some (.inl (0, 400, .inl (fun j => nI (t_up (q_fo (q_ev lw ln s wa cf ct rr) s (q_z ok 400) i) (s.2.2.1 i) ((q_fo (q_ev lw ln s wa cf ct rr) s (q_z ok 400) i (s.2.2.1 i)) ||| 2 ^ (s.2.1 i)) j)))) := mv_eq e2 S31
        have fr := fr.set e2 (by decide)
        clear e2
        rw [← q_fo_y c50] at S31
        refine mv_iinc (v := nI (i + 1)) dX7_findOddDays_69 rfl (mv_inc i 1) (by decide) ?_
        refine mv_goto (tgt := 24) dX7_findOddDays_72 (by decide) ?_
        refine mv_sub (lv' := [.ref 22, .int (nI (i + 1)), .null]) ⟨Or.inr rfl, Or.inr rfl, Or.inl rfl, trivial⟩ ?_
        exact ih (i + 1) h1 (by omega) fr S31 HL HV HS S23 S24 S25 S26 S27 S28 S29 S30 (by omega)
set_option maxRecDepth 100000 in
theorem l_X7_findOddA {ev : mv_E} {h : mv_H} {s : q_S} {wa : Nat → Nat} {cf : Nat → Int32} {ct : Nat → Int32} {rr : Nat → Nat} {rc : Nat} {ok : Nat → Nat} {lw : Nat → Int32} {ln : Nat → Nat}  (hw : q_LW lw ln) (hsi : q_SI s) (hr : ∀ d, rr d ≤ 1) (hwi : q_WI wa cf ct) : ∀ (fu : Nat) (y : Nat), ∀ (g : mv_H), 400 < y + fu → mv_fra [31] h g → g[31]? = some (.inl (0, 400, .inl (fun j => nI (q_z ok y j)))) → g[1]? = some (.inr (5, [.ref 2])) → g[2]? = some (.inl (0, 8, .inl lw)) → g[22]? = some (.inr (7, [.ref 1, .ref 23, .ref 24, .ref 25, .ref 26, .int (nI s.1), .ref 27, .ref 28, .ref 29, .ref 30, .int (nI rc), .ref 31])) → g[23]? = some (.inl (0, 100, .inl (fun j => nI (s.2.1 j)))) → g[24]? = some (.inl (0, 100, .inl (fun j => nI (s.2.2.1 j)))) → g[25]? = some (.inl (0, 100, .inl (fun j => nI (s.2.2.2.1 j)))) → g[26]? = some (.inl (0, 100, .inl (fun j => nI (s.2.2.2.2 j)))) → g[27]? = some (.inl (0, 8, .inl (fun j => nI (wa j)))) → g[28]? = some (.inl (0, 8, .inl cf)) → g[29]? = some (.inl (0, 8, .inl ct)) → g[30]? = some (.inl (2, 400, .inl (fun j => nI (rr j)))) → (y ≤ 400) → mv_g ev mX7_findOddDays 2 [.ref 22, .int (nI y), .null] [] g (fun r g => r = none ∧ mv_fra [31] h g ∧ g[31]? = some (.inl (0, 400, .inl (fun j => nI ((q_oks lw ln s wa cf ct rr ok) j))))) := by
  intro fu
  induction fu with
  | zero => intro y g hm fr S31 HL HV HS S23 S24 S25 S26 S27 S28 S29 S30 hy; exact absurd hm (by omega)
  | succ fu ih =>
    intro y g hm fr S31 HL HV HS S23 S24 S25 S26 S27 S28 S29 S30 hy
    have n0 := hsi.1
    refine mv_iload_n dX7_findOddDays_2 rfl ?_
    refine mv_sipush (v := nI 400) dX7_findOddDays_3 (by decide) ?_
    refine mv_icmp_ge (tgt := 22) dX7_findOddDays_6 (by decide) (fun c6 => ?_) (fun c6 => ?_)
    · have c6 : 400 ≤ y := (nI_leI (by omega) (by omega)).mp c6
      have ey : y = 400 := (by omega)
      subst ey
      refine mv_iconst (v := nI 0) dX7_findOddDays_22 (by decide) ?_
      refine mv_istore_n dX7_findOddDays_23 (by decide) ?_
      exact l_X7_findOddB hw hsi hr hwi (s.1 + 1) 0 g (by omega) fr S31 HL HV HS S23 S24 S25 S26 S27 S28 S29 S30 (Nat.zero_le _)
    · have c6 : ¬ (400 ≤ y) := fun z => c6 ((nI_leI (by omega) (by omega)).mpr z)
      refine mv_aload_n dX7_findOddDays_9 rfl ?_
      refine mv_getf (ci := 7) (f := 11) dX7_findOddDays_10 HS rfl (by decide) wd_215 rfl ?_
      refine mv_iload_n dX7_findOddDays_13 rfl ?_
      refine mv_iconst (v := nI 0) dX7_findOddDays_14 (by decide) ?_
      refine mv_iastN (j := y) dX7_findOddDays_15 S31 rfl (by decide) (by omega) (fun h1 e2 => ?_)
      rw [upd_nI] at e2
      have HL := mv_ne e2 (by decide) HL
      have HV := mv_ne e2 (by decide) HV
      have HS := mv_ne e2 (by decide) HS
      have S23 := mv_ne e2 (by decide) S23
      have S24 := mv_ne e2 (by decide) S24
      have S25 := mv_ne e2 (by decide) S25
      have S26 := mv_ne e2 (by decide) S26
      have S27 := mv_ne e2 (by decide) S27
      have S28 := mv_ne e2 (by decide) S28
      have S29 := mv_ne e2 (by decide) S29
      have S30 := mv_ne e2 (by decide) S30
      have S31 : h1[31]? = some (.inl (0, 400, .inl (fun j => nI (t_up (q_z ok y) y 0 j)))) := mv_eq e2 S31
      have fr := fr.set e2 (by decide)
      clear e2
      rw [q_z_s] at S31
      refine mv_iinc (v := nI (y + 1)) dX7_findOddDays_16 rfl (mv_inc y 1) (by decide) ?_
      refine mv_goto (tgt := 2) dX7_findOddDays_19 (by decide) ?_
      exact ih (y + 1) h1 (by omega) fr S31 HL HV HS S23 S24 S25 S26 S27 S28 S29 S30 (by omega)
set_option maxRecDepth 100000 in
theorem k_X7_findOddDays {ev : mv_E} {h : mv_H} {s : q_S} {wa : Nat → Nat} {cf : Nat → Int32} {ct : Nat → Int32} {rr : Nat → Nat} {rc : Nat} {ok : Nat → Nat} {lw : Nat → Int32} {ln : Nat → Nat} (HL : h[1]? = some (.inr (5, [.ref 2]))) (HV : h[2]? = some (.inl (0, 8, .inl lw))) (HS : h[22]? = some (.inr (7, [.ref 1, .ref 23, .ref 24, .ref 25, .ref 26, .int (nI s.1), .ref 27, .ref 28, .ref 29, .ref 30, .int (nI rc), .ref 31]))) (S23 : h[23]? = some (.inl (0, 100, .inl (fun j => nI (s.2.1 j))))) (S24 : h[24]? = some (.inl (0, 100, .inl (fun j => nI (s.2.2.1 j))))) (S25 : h[25]? = some (.inl (0, 100, .inl (fun j => nI (s.2.2.2.1 j))))) (S26 : h[26]? = some (.inl (0, 100, .inl (fun j => nI (s.2.2.2.2 j))))) (S27 : h[27]? = some (.inl (0, 8, .inl (fun j => nI (wa j))))) (S28 : h[28]? = some (.inl (0, 8, .inl cf))) (S29 : h[29]? = some (.inl (0, 8, .inl ct))) (S30 : h[30]? = some (.inl (2, 400, .inl (fun j => nI (rr j))))) (S31 : h[31]? = some (.inl (0, 400, .inl (fun j => nI (ok j))))) (hw : q_LW lw ln) (hsi : q_SI s) (hr : ∀ d, rr d ≤ 1) (hwi : q_WI wa cf ct) : ∃ h2, mv_K ev mX7_findOddDays [.ref 22] h (none) h2 ∧ mv_fra [31] h h2 ∧ h2[31]? = some (.inl (0, 400, .inl (fun j => nI ((q_oks lw ln s wa cf ct rr ok) j)))) := by
  suffices g0 : mv_g ev mX7_findOddDays 0 (mv_ent [.ref 22] (mv_ml mX7_findOddDays)) [] h (fun r g => r = none ∧ mv_fra [31] h g ∧ g[31]? = some (.inl (0, 400, .inl (fun j => nI ((q_oks lw ln s wa cf ct rr ok) j))))) from (by obtain ⟨r0, h0, K0, q0, Q0⟩ := mv_Kex g0; subst q0; exact ⟨h0, K0, Q0⟩)
  show mv_g ev mX7_findOddDays 0 [.ref 22, .null, .null] [] h _
  have fr : mv_fra [31] h h := mv_fra.rf
  have n0 := hsi.1
  rw [← q_z_0 ok] at S31
  refine mv_iconst (v := nI 0) dX7_findOddDays_0 (by decide) ?_
  refine mv_istore_n dX7_findOddDays_1 (by decide) ?_
  exact l_X7_findOddA hw hsi hr hwi (400 + 1) 0 h (by omega) fr S31 HL HV HS S23 S24 S25 S26 S27 S28 S29 S30 (Nat.zero_le _)
set_option maxRecDepth 100000 in
theorem k_X7_isOdd {ev : mv_E} {h : mv_H} {s : q_S} {rc : Nat} {ok : Nat → Nat} {k : Nat} {d : Nat} (HS : h[22]? = some (.inr (7, [.ref 1, .ref 23, .ref 24, .ref 25, .ref 26, .int (nI s.1), .ref 27, .ref 28, .ref 29, .ref 30, .int (nI rc), .ref 31]))) (S31 : h[31]? = some (.inl (0, 400, .inl (fun j => nI (ok j))))) (hk : k < 8) (hd : d ≤ 399) (hok : ∀ d, ok d < 256) : mv_K ev mX7_isOdd [.ref 22, .int (nI k), .int (nI d)] h (some (.int (mv_b (q_bt (ok d) k = 1)))) h := by
  refine mv_Kof ?_
  show mv_g ev mX7_isOdd 0 [.ref 22, .int (nI k), .int (nI d)] [] h _
  have n1 := q_bt_lt (ok d) k
  refine mv_iload_n dX7_isOdd_0 rfl ?_
  refine mv_cSN1 dX7_isOdd_1 lk_X7_isOdd_76 (Nat.le_of_ble_eq_true rfl) (Nat.le_of_ble_eq_true rfl) (k_X11_isDay (ev := ev)) ?_
  refine mv_if_eq (tgt := 25) dX7_isOdd_4 (by decide) (fun z => absurd z ((fun z => (mv_b_0 _).mp z (mv_in_i (by omega) (by omega) (by omega))))) (fun c4 => ?_)
  refine mv_aload_n dX7_isOdd_7 rfl ?_
  refine mv_getf (ci := 7) (f := 11) dX7_isOdd_8 HS rfl (by decide) wd_215 rfl ?_
  refine mv_iload_n dX7_isOdd_11 rfl ?_
  refine mv_iaN (j := d) (x := nI (ok d)) dX7_isOdd_12 S31 rfl (by decide) (by omega) rfl ?_
  refine mv_iload_n dX7_isOdd_13 rfl ?_
  refine mv_ishr dX7_isOdd_14 ?_
  refine mv_iconst (v := nI 1) dX7_isOdd_15 (by decide) ?_
  refine mv_iand dX7_isOdd_16 ?_
  refine mv_topI (y := nI (q_bt (ok d) k)) (q_sb _ (hok d) _ hk) ?_
  refine mv_iconst (v := nI 1) dX7_isOdd_17 (by decide) ?_
  refine mv_icmp_ne (tgt := 25) dX7_isOdd_18 (by decide) (fun c18 => ?_) (fun c18 => ?_)
  · have c18 : ¬ (q_bt (ok d) k = 1) := fun z => c18 ((nI_eq (by omega) (by omega)).mpr z)
    refine mv_iconst (v := nI 0) dX7_isOdd_25 (by decide) ?_
    exact mv_iret dX7_isOdd_26 rfl rfl ⟨(congrArg (fun z => some (Value.int z)) (by first | exact (mv_b_t c18).symm | exact (mv_b_f c18).symm)), rfl⟩
  · have c18 : q_bt (ok d) k = 1 := (nI_eq (by omega) (by omega)).mp c18
    refine mv_iconst (v := nI 1) dX7_isOdd_21 (by decide) ?_
    refine mv_goto (tgt := 26) dX7_isOdd_22 (by decide) ?_
    exact mv_iret dX7_isOdd_26 rfl rfl ⟨(congrArg (fun z => some (Value.int z)) (by first | exact (mv_b_t c18).symm | exact (mv_b_f c18).symm)), rfl⟩
set_option maxRecDepth 100000 in
theorem l_X7_oddDays {ev : mv_E} {h : mv_H} {s : q_S} {rc : Nat} {ok : Nat → Nat} {k : Nat} (HS : h[22]? = some (.inr (7, [.ref 1, .ref 23, .ref 24, .ref 25, .ref 26, .int (nI s.1), .ref 27, .ref 28, .ref 29, .ref 30, .int (nI rc), .ref 31]))) (S31 : h[31]? = some (.inl (0, 400, .inl (fun j => nI (ok j))))) (hk : k < 8) (hok : ∀ d, ok d < 256) : ∀ (fu : Nat) (v : Nat) (y : Nat), 400 < y + fu → (y ≤ 400) → (v = q_on ok k y) → mv_g ev mX7_oddDays 4 [.ref 22, .int (nI k), .int (nI v), .int (nI y)] [] h (fun r g => r = some (.int (nI (q_on ok k 400))) ∧ g = h) := by
  intro fu
  induction fu with
  | zero => intro v y hm hy hv; exact absurd hm (by omega)
  | succ fu ih =>
    intro v y hm hy hv
    refine mv_iload_n dX7_oddDays_4 rfl ?_
    refine mv_sipush (v := nI 400) dX7_oddDays_5 (by decide) ?_
    refine mv_icmp_ge (tgt := 29) dX7_oddDays_8 (by decide) (fun c8 => ?_) (fun c8 => ?_)
    · have c8 : 400 ≤ y := (nI_leI (by omega) (by omega)).mp c8
      refine mv_iload_n dX7_oddDays_29 rfl ?_
      exact mv_iret dX7_oddDays_30 rfl rfl ⟨(congrArg (fun z => some (Value.int z)) (congrArg nI (by have e : y = 400 := (by omega); subst e; exact hv))), rfl⟩
    · have c8 : ¬ (400 ≤ y) := fun z => c8 ((nI_leI (by omega) (by omega)).mpr z)
      refine mv_aload_n dX7_oddDays_11 rfl ?_
      refine mv_iload_n dX7_oddDays_12 rfl ?_
      refine mv_iload_n dX7_oddDays_13 rfl ?_
      refine mv_cV2 (ci := 7) dX7_oddDays_14 lk_X7_oddDays_112 HS rfl (Nat.le_of_ble_eq_true rfl) (Nat.le_of_ble_eq_true rfl) (k_X7_isOdd (ev := ev) HS S31 (by omega) (by omega) (by omega)) ?_
      refine mv_if_eq (tgt := 23) dX7_oddDays_17 (by decide) (fun c17 => ?_) (fun c17 => ?_)
      · have c17 : ¬ (q_bt (ok y) k = 1) := (mv_b_0 _).mp c17
        refine mv_iinc (v := nI (y + 1)) dX7_oddDays_23 rfl (mv_inc y 1) (by decide) ?_
        refine mv_goto (tgt := 4) dX7_oddDays_26 (by decide) ?_
        exact ih v (y + 1) (by omega) (by omega) (by first | rw [q_on_y c17, ← hv] | rw [q_on_n c17, ← hv])
      · have c17 : q_bt (ok y) k = 1 := Classical.byContradiction (fun z => c17 ((mv_b_0 _).mpr z))
        refine mv_iinc (v := nI (v + 1)) dX7_oddDays_20 rfl (mv_inc v 1) (by decide) ?_
        refine mv_iinc (v := nI (y + 1)) dX7_oddDays_23 rfl (mv_inc y 1) (by decide) ?_
        refine mv_goto (tgt := 4) dX7_oddDays_26 (by decide) ?_
        exact ih (v + 1) (y + 1) (by omega) (by omega) (by first | rw [q_on_y c17, ← hv] | rw [q_on_n c17, ← hv])
set_option maxRecDepth 100000 in
theorem k_X7_oddDays {ev : mv_E} {h : mv_H} {s : q_S} {rc : Nat} {ok : Nat → Nat} {k : Nat} (HS : h[22]? = some (.inr (7, [.ref 1, .ref 23, .ref 24, .ref 25, .ref 26, .int (nI s.1), .ref 27, .ref 28, .ref 29, .ref 30, .int (nI rc), .ref 31]))) (S31 : h[31]? = some (.inl (0, 400, .inl (fun j => nI (ok j))))) (hk : k < 8) (hok : ∀ d, ok d < 256) : mv_K ev mX7_oddDays [.ref 22, .int (nI k)] h (some (.int (nI (q_on ok k 400)))) h := by
  refine mv_Kof ?_
  show mv_g ev mX7_oddDays 0 [.ref 22, .int (nI k), .null, .null] [] h _
  refine mv_iconst (v := nI 0) dX7_oddDays_0 (by decide) ?_
  refine mv_istore_n dX7_oddDays_1 (by decide) ?_
  refine mv_iconst (v := nI 0) dX7_oddDays_2 (by decide) ?_
  refine mv_istore_n dX7_oddDays_3 (by decide) ?_
  exact l_X7_oddDays HS S31 hk hok (400 + 1) 0 0 (by omega) (Nat.zero_le _) rfl
set_option maxRecDepth 100000 in
theorem k_X7_rateOf {ev : mv_E} {h : mv_H} {s : q_S} {wa : Nat → Nat} {cf : Nat → Int32} {ct : Nat → Int32} {rc : Nat} {ok : Nat → Nat} {k : Nat} (HS : h[22]? = some (.inr (7, [.ref 1, .ref 23, .ref 24, .ref 25, .ref 26, .int (nI s.1), .ref 27, .ref 28, .ref 29, .ref 30, .int (nI rc), .ref 31]))) (S28 : h[28]? = some (.inl (0, 8, .inl cf))) (S29 : h[29]? = some (.inl (0, 8, .inl ct))) (S31 : h[31]? = some (.inl (0, 400, .inl (fun j => nI (ok j))))) (hk : k < 8) (hok : ∀ d, ok d < 256) (hwi : q_WI wa cf ct) : mv_K ev mX7_rateOf [.ref 22, .int (nI k)] h (some (.int (nI (q_ra ok cf ct k)))) h := by
  refine mv_Kof ?_
  show mv_g ev mX7_rateOf 0 [.ref 22, .int (nI k), .null] [] h _
  have n1 := q_cd_le hwi k
  have n2 := q_on_le ok k 400
  refine mv_aload_n dX7_rateOf_0 rfl ?_
  refine mv_iload_n dX7_rateOf_1 rfl ?_
  refine mv_cV1 (ci := 7) dX7_rateOf_2 lk_X7_rateOf_62 HS rfl (Nat.le_of_ble_eq_true rfl) (Nat.le_of_ble_eq_true rfl) (k_X7_countedDays (ev := ev) HS S28 S29 hk hwi) ?_
  refine mv_istore_n dX7_rateOf_5 (by decide) ?_
  refine mv_iload_n dX7_rateOf_6 rfl ?_
  refine mv_iconst (v := nI 1) dX7_rateOf_7 (by decide) ?_
  refine mv_icmp_ge (tgt := 15) dX7_rateOf_8 (by decide) (fun c8 => ?_) (fun c8 => ?_)
  · have c8 : 1 ≤ q_cd cf ct k := (nI_leI (by omega) (by omega)).mp c8
    refine mv_aload_n dX7_rateOf_15 rfl ?_
    refine mv_iload_n dX7_rateOf_16 rfl ?_
    refine mv_cV1 (ci := 7) dX7_rateOf_17 lk_X7_rateOf_115 HS rfl (Nat.le_of_ble_eq_true rfl) (Nat.le_of_ble_eq_true rfl) (k_X7_oddDays (ev := ev) HS S31 (by omega) (by omega)) ?_
    refine mv_ldc (v := nI 1000000) dX7_rateOf_20 wd_883 ?_
    refine mv_imul dX7_rateOf_22 ?_
    refine mv_topI (y := nI ((q_on ok k 400) * 1000000)) (pk_mul _ _) ?_
    refine mv_iload_n dX7_rateOf_23 rfl ?_
    refine mv_idiv dX7_rateOf_24 (by intro z; have z2 := (nI_eq (b := 0) (by omega) (by omega)).mp z; omega) ?_
    refine mv_topI (y := nI (((q_on ok k 400) * 1000000) / (q_cd cf ct k))) (pk_div (by omega) (by omega) (by omega)) ?_
    exact mv_iret dX7_rateOf_25 rfl rfl ⟨(congrArg (fun z => some (Value.int z)) (by first | rfl | exact congrArg nI (by unfold q_ra; rw [show q_cd cf ct k = 0 by omega, Nat.div_zero]))), rfl⟩
  · have c8 : ¬ (1 ≤ q_cd cf ct k) := fun z => c8 ((nI_leI (by omega) (by omega)).mpr z)
    refine mv_iconst (v := nI 0) dX7_rateOf_11 (by decide) ?_
    refine mv_goto (tgt := 25) dX7_rateOf_12 (by decide) ?_
    exact mv_iret dX7_rateOf_25 rfl rfl ⟨(congrArg (fun z => some (Value.int z)) (by first | rfl | exact congrArg nI (by unfold q_ra; rw [show q_cd cf ct k = 0 by omega, Nat.div_zero]))), rfl⟩
set_option maxRecDepth 100000 in
theorem l_X7_howManyAhead {ev : mv_E} {h : mv_H} {s : q_S} {rc : Nat} {d : Nat} {p : Nat} {w : Nat} {m : Nat} {set : Nat} (HS : h[22]? = some (.inr (7, [.ref 1, .ref 23, .ref 24, .ref 25, .ref 26, .int (nI s.1), .ref 27, .ref 28, .ref 29, .ref 30, .int (nI rc), .ref 31]))) (S23 : h[23]? = some (.inl (0, 100, .inl (fun j => nI (s.2.1 j))))) (S24 : h[24]? = some (.inl (0, 100, .inl (fun j => nI (s.2.2.1 j))))) (S25 : h[25]? = some (.inl (0, 100, .inl (fun j => nI (s.2.2.2.1 j))))) (hsi : q_SI s) (hd : d ≤ 399) (hp : p < 64) (hw6 : w < 1000) (hm0 : m < 8) (hset : set < 256) : ∀ (fu : Nat) (v : Nat) (y : Nat), s.1 < y + fu → (y ≤ s.1) → (v = q_cnt (q_aP s d p w m set) y) → mv_g ev mX7_howManyAhead 6 [.ref 22, .int (nI d), .int (nI p), .int (nI w), .int (nI m), .int (nI set), .int (nI v), .int (nI y), .null] [] h (fun r g => r = some (.int (nI (q_cnt (q_aP s d p w m set) s.1))) ∧ g = h) := by
  intro fu
  induction fu with
  | zero => intro v y hm hy hv; exact absurd hm (by omega)
  | succ fu ih =>
    intro v y hm hy hv
    have n0 := hsi.1
    have n1 := hsi.2.2.1 y
    have n2 := hsi.2.2.2.1 y
    have n3 := t_far_lt n2 hp
    have n4 := q_bt_lt set (s.2.1 y)
    refine mv_iload dX7_howManyAhead_6 rfl ?_
    refine mv_aload_n dX7_howManyAhead_8 rfl ?_
    refine mv_getf (ci := 7) (f := 5) dX7_howManyAhead_9 HS rfl (by decide) wd_209 rfl ?_
    refine mv_icmp_ge (tgt := 82) dX7_howManyAhead_12 (by decide) (fun c12 => ?_) (fun c12 => ?_)
    · have c12 : s.1 ≤ y := (nI_leI (by omega) (by omega)).mp c12
      refine mv_iload dX7_howManyAhead_82 rfl ?_
      exact mv_iret dX7_howManyAhead_84 rfl rfl ⟨(congrArg (fun z => some (Value.int z)) (congrArg nI (by have e : y = s.1 := (by omega); subst e; exact hv))), rfl⟩
    · have c12 : ¬ (s.1 ≤ y) := fun z => c12 ((nI_leI (by omega) (by omega)).mpr z)
      refine mv_iload dX7_howManyAhead_15 rfl ?_
      refine mv_aload_n dX7_howManyAhead_17 rfl ?_
      refine mv_iload dX7_howManyAhead_18 rfl ?_
      refine mv_cV1 (ci := 7) dX7_howManyAhead_20 lk_X7_howManyAhead_90 HS rfl (Nat.le_of_ble_eq_true rfl) (Nat.le_of_ble_eq_true rfl) (k_X7_kindOf (ev := ev) HS S23 (by omega) (by omega)) ?_
      refine mv_ishr dX7_howManyAhead_23 ?_
      refine mv_iconst (v := nI 1) dX7_howManyAhead_24 (by decide) ?_
      refine mv_iand dX7_howManyAhead_25 ?_
      refine mv_topI (y := nI (q_bt set (s.2.1 y))) (q_sb _ hset _ (hsi.2.1 y)) ?_
      refine mv_iconst (v := nI 1) dX7_howManyAhead_26 (by decide) ?_
      refine mv_icmp_ne (tgt := 34) dX7_howManyAhead_27 (by decide) (fun c27 => ?_) (fun c27 => ?_)
      · have c27 : ¬ (q_bt set (s.2.1 y) = 1) := fun z => c27 ((nI_eq (by omega) (by omega)).mpr z)
        refine mv_iconst (v := nI 0) dX7_howManyAhead_34 (by decide) ?_
        refine mv_istore dX7_howManyAhead_35 (by decide) ?_
        refine mv_iload dX7_howManyAhead_37 rfl ?_
        refine mv_if_eq (tgt := 76) dX7_howManyAhead_39 (by decide) (fun c39 => ?_) (fun z => absurd ((by decide)) z)
        refine mv_iinc (v := nI (y + 1)) dX7_howManyAhead_76 rfl (mv_inc y 1) (by decide) ?_
        refine mv_goto (tgt := 6) dX7_howManyAhead_79 (by decide) ?_
        refine mv_sub (lv' := [.ref 22, .int (nI d), .int (nI p), .int (nI w), .int (nI m), .int (nI set), .int (nI v), .int (nI (y + 1)), .null]) ⟨Or.inr rfl, Or.inr rfl, Or.inr rfl, Or.inr rfl, Or.inr rfl, Or.inr rfl, Or.inr rfl, Or.inr rfl, Or.inl rfl, trivial⟩ ?_
        exact ih v (y + 1) (by omega) (by omega) (by first | rw [q_cnt_y (P := (q_aP s d p w m set)) ⟨c27, c55, by omega⟩, ← hv] | rw [q_cnt_n (P := (q_aP s d p w m set)) (fun z => c27 z.1), ← hv] | rw [q_cnt_n (P := (q_aP s d p w m set)) (fun z => c55 z.2.1), ← hv] | rw [q_cnt_n (P := (q_aP s d p w m set)) (fun z => absurd z.2.2 (by omega)), ← hv])
      · have c27 : q_bt set (s.2.1 y) = 1 := (nI_eq (by omega) (by omega)).mp c27
        refine mv_iconst (v := nI 1) dX7_howManyAhead_30 (by decide) ?_
        refine mv_goto (tgt := 35) dX7_howManyAhead_31 (by decide) ?_
        refine mv_istore dX7_howManyAhead_35 (by decide) ?_
        refine mv_iload dX7_howManyAhead_37 rfl ?_
        refine mv_if_eq (tgt := 76) dX7_howManyAhead_39 (by decide) (fun z => absurd z ((by decide))) (fun c39 => ?_)
        refine mv_iload_n dX7_howManyAhead_42 rfl ?_
        refine mv_aload_n dX7_howManyAhead_43 rfl ?_
        refine mv_iload dX7_howManyAhead_44 rfl ?_
        refine mv_cV1 (ci := 7) dX7_howManyAhead_46 lk_X7_howManyAhead_79 HS rfl (Nat.le_of_ble_eq_true rfl) (Nat.le_of_ble_eq_true rfl) (k_X7_dayOf (ev := ev) HS S24 (by omega) (by omega)) ?_
        refine mv_isub dX7_howManyAhead_49 ?_
        refine mv_iconst (v := nI 1) dX7_howManyAhead_50 (by decide) ?_
        refine mv_iload_n dX7_howManyAhead_51 rfl ?_
        refine mv_cSN3 dX7_howManyAhead_52 lk_X7_howManyAhead_69 (Nat.le_of_ble_eq_true rfl) (Nat.le_of_ble_eq_true rfl) (k_X11_within (ev := ev)) ?_
        refine mv_if_eq (tgt := 76) dX7_howManyAhead_55 (by decide) (fun c55 => ?_) (fun c55 => ?_)
        · have c55 : ¬ (s.2.2.1 y < d ∧ d ≤ s.2.2.1 y + w) := fun z => (mv_b_0 _).mp c55 ((q_wi hd n1 hw6).mpr z)
          refine mv_iinc (v := nI (y + 1)) dX7_howManyAhead_76 rfl (mv_inc y 1) (by decide) ?_
          refine mv_goto (tgt := 6) dX7_howManyAhead_79 (by decide) ?_
          refine mv_sub (lv' := [.ref 22, .int (nI d), .int (nI p), .int (nI w), .int (nI m), .int (nI set), .int (nI v), .int (nI (y + 1)), .null]) ⟨Or.inr rfl, Or.inr rfl, Or.inr rfl, Or.inr rfl, Or.inr rfl, Or.inr rfl, Or.inr rfl, Or.inr rfl, Or.inl rfl, trivial⟩ ?_
          exact ih v (y + 1) (by omega) (by omega) (by first | rw [q_cnt_y (P := (q_aP s d p w m set)) ⟨c27, c55, by omega⟩, ← hv] | rw [q_cnt_n (P := (q_aP s d p w m set)) (fun z => c27 z.1), ← hv] | rw [q_cnt_n (P := (q_aP s d p w m set)) (fun z => c55 z.2.1), ← hv] | rw [q_cnt_n (P := (q_aP s d p w m set)) (fun z => absurd z.2.2 (by omega)), ← hv])
        · have c55 := (q_wi hd n1 hw6).mp (mv_b_ne c55)
          refine mv_aload_n dX7_howManyAhead_58 rfl ?_
          refine mv_iload dX7_howManyAhead_59 rfl ?_
          refine mv_cV1 (ci := 7) dX7_howManyAhead_61 lk_X7_howManyAhead_97 HS rfl (Nat.le_of_ble_eq_true rfl) (Nat.le_of_ble_eq_true rfl) (k_X7_placeOf (ev := ev) HS S25 (by omega) (by omega)) ?_
          refine mv_iload_n dX7_howManyAhead_64 rfl ?_
          refine mv_cSN2 dX7_howManyAhead_65 lk_X7_howManyAhead_119 (Nat.le_of_ble_eq_true rfl) (Nat.le_of_ble_eq_true rfl) (k_X11_distance (ev := ev) (by omega) (by omega)) ?_
          refine mv_iload dX7_howManyAhead_68 rfl ?_
          refine mv_icmp_gt (tgt := 76) dX7_howManyAhead_70 (by decide) (fun c70 => ?_) (fun c70 => ?_)
          · have c70 : m < t_far (s.2.2.2.1 y) p := (nI_ltI (by omega) (by omega)).mp c70
            refine mv_iinc (v := nI (y + 1)) dX7_howManyAhead_76 rfl (mv_inc y 1) (by decide) ?_
            refine mv_goto (tgt := 6) dX7_howManyAhead_79 (by decide) ?_
            refine mv_sub (lv' := [.ref 22, .int (nI d), .int (nI p), .int (nI w), .int (nI m), .int (nI set), .int (nI v), .int (nI (y + 1)), .null]) ⟨Or.inr rfl, Or.inr rfl, Or.inr rfl, Or.inr rfl, Or.inr rfl, Or.inr rfl, Or.inr rfl, Or.inr rfl, Or.inl rfl, trivial⟩ ?_
            exact ih v (y + 1) (by omega) (by omega) (by first | rw [q_cnt_y (P := (q_aP s d p w m set)) ⟨c27, c55, by omega⟩, ← hv] | rw [q_cnt_n (P := (q_aP s d p w m set)) (fun z => c27 z.1), ← hv] | rw [q_cnt_n (P := (q_aP s d p w m set)) (fun z => c55 z.2.1), ← hv] | rw [q_cnt_n (P := (q_aP s d p w m set)) (fun z => absurd z.2.2 (by omega)), ← hv])
          · have c70 : ¬ (m < t_far (s.2.2.2.1 y) p) := fun z => c70 ((nI_ltI (by omega) (by omega)).mpr z)
            refine mv_iinc (v := nI (v + 1)) dX7_howManyAhead_73 rfl (mv_inc v 1) (by decide) ?_
            refine mv_iinc (v := nI (y + 1)) dX7_howManyAhead_76 rfl (mv_inc y 1) (by decide) ?_
            refine mv_goto (tgt := 6) dX7_howManyAhead_79 (by decide) ?_
            refine mv_sub (lv' := [.ref 22, .int (nI d), .int (nI p), .int (nI w), .int (nI m), .int (nI set), .int (nI (v + 1)), .int (nI (y + 1)), .null]) ⟨Or.inr rfl, Or.inr rfl, Or.inr rfl, Or.inr rfl, Or.inr rfl, Or.inr rfl, Or.inr rfl, Or.inr rfl, Or.inl rfl, trivial⟩ ?_
            exact ih (v + 1) (y + 1) (by omega) (by omega) (by first | rw [q_cnt_y (P := (q_aP s d p w m set)) ⟨c27, c55, by omega⟩, ← hv] | rw [q_cnt_n (P := (q_aP s d p w m set)) (fun z => c27 z.1), ← hv] | rw [q_cnt_n (P := (q_aP s d p w m set)) (fun z => c55 z.2.1), ← hv] | rw [q_cnt_n (P := (q_aP s d p w m set)) (fun z => absurd z.2.2 (by omega)), ← hv])
set_option maxRecDepth 100000 in
theorem k_X7_howManyAhead {ev : mv_E} {h : mv_H} {s : q_S} {rc : Nat} {d : Nat} {p : Nat} {w : Nat} {m : Nat} {set : Nat} (HS : h[22]? = some (.inr (7, [.ref 1, .ref 23, .ref 24, .ref 25, .ref 26, .int (nI s.1), .ref 27, .ref 28, .ref 29, .ref 30, .int (nI rc), .ref 31]))) (S23 : h[23]? = some (.inl (0, 100, .inl (fun j => nI (s.2.1 j))))) (S24 : h[24]? = some (.inl (0, 100, .inl (fun j => nI (s.2.2.1 j))))) (S25 : h[25]? = some (.inl (0, 100, .inl (fun j => nI (s.2.2.2.1 j))))) (hsi : q_SI s) (hd : d ≤ 399) (hp : p < 64) (hw6 : w < 1000) (hm0 : m < 8) (hset : set < 256) : mv_K ev mX7_howManyAhead [.ref 22, .int (nI d), .int (nI p), .int (nI w), .int (nI m), .int (nI set)] h (some (.int (nI (q_cnt (q_aP s d p w m set) s.1)))) h := by
  refine mv_Kof ?_
  show mv_g ev mX7_howManyAhead 0 [.ref 22, .int (nI d), .int (nI p), .int (nI w), .int (nI m), .int (nI set), .null, .null, .null] [] h _
  have n0 := hsi.1
  refine mv_iconst (v := nI 0) dX7_howManyAhead_0 (by decide) ?_
  refine mv_istore dX7_howManyAhead_1 (by decide) ?_
  refine mv_iconst (v := nI 0) dX7_howManyAhead_3 (by decide) ?_
  refine mv_istore dX7_howManyAhead_4 (by decide) ?_
  exact l_X7_howManyAhead HS S23 S24 S25 hsi hd hp hw6 hm0 hset (s.1 + 1) 0 0 (by omega) (Nat.zero_le _) rfl
set_option maxRecDepth 100000 in
theorem l_X7_areAllCounted {ev : mv_E} {h : mv_H} {s : q_S} {cf : Nat → Int32} {rc : Nat} {set : Nat} (HS : h[22]? = some (.inr (7, [.ref 1, .ref 23, .ref 24, .ref 25, .ref 26, .int (nI s.1), .ref 27, .ref 28, .ref 29, .ref 30, .int (nI rc), .ref 31]))) (S28 : h[28]? = some (.inl (0, 8, .inl cf))) (hset : set < 256) : ∀ (fu : Nat) (y : Nat), 8 < y + fu → (y ≤ 8) → (∀ k, k < y → q_bt set k = 1 → cf k ≠ -1) → mv_g ev mX7_areAllCounted 2 [.ref 22, .int (nI set), .int (nI y)] [] h (fun r g => r = some (.int (mv_q (q_aC cf set))) ∧ g = h) := by
  intro fu
  induction fu with
  | zero => intro y hm hy hq; exact absurd hm (by omega)
  | succ fu ih =>
    intro y hm hy hq
    have n4 := q_bt_lt set y
    refine mv_iload_n dX7_areAllCounted_2 rfl ?_
    refine mv_bipush (v := nI 8) dX7_areAllCounted_3 (by decide) ?_
    refine mv_icmp_ge (tgt := 33) dX7_areAllCounted_5 (by decide) (fun c5 => ?_) (fun c5 => ?_)
    · have c5 : 8 ≤ y := (nI_leI (by omega) (by omega)).mp c5
      refine mv_iconst (v := nI 1) dX7_areAllCounted_33 (by decide) ?_
      exact mv_iret dX7_areAllCounted_34 rfl rfl ⟨(congrArg (fun z => some (Value.int z)) (mv_q_t (fun k hk hz => hq k (by omega) hz)).symm), rfl⟩
    · have c5 : ¬ (8 ≤ y) := fun z => c5 ((nI_leI (by omega) (by omega)).mpr z)
      refine mv_iload_n dX7_areAllCounted_8 rfl ?_
      refine mv_iload_n dX7_areAllCounted_9 rfl ?_
      refine mv_ishr dX7_areAllCounted_10 ?_
      refine mv_iconst (v := nI 1) dX7_areAllCounted_11 (by decide) ?_
      refine mv_iand dX7_areAllCounted_12 ?_
      refine mv_topI (y := nI (q_bt set y)) (q_sb _ hset _ (by omega)) ?_
      refine mv_iconst (v := nI 1) dX7_areAllCounted_13 (by decide) ?_
      refine mv_icmp_ne (tgt := 27) dX7_areAllCounted_14 (by decide) (fun c14 => ?_) (fun c14 => ?_)
      · have c14 : ¬ (q_bt set y = 1) := fun z => c14 ((nI_eq (by omega) (by omega)).mpr z)
        refine mv_iinc (v := nI (y + 1)) dX7_areAllCounted_27 rfl (mv_inc y 1) (by decide) ?_
        refine mv_goto (tgt := 2) dX7_areAllCounted_30 (by decide) ?_
        exact ih (y + 1) (by omega) (by omega) (fun k hk hz => if e : k = y then (by rw [e] at hz ⊢; first | exact c22 | exact absurd hz c14) else hq k (by omega) hz)
      · have c14 : q_bt set y = 1 := (nI_eq (by omega) (by omega)).mp c14
        refine mv_aload_n dX7_areAllCounted_17 rfl ?_
        refine mv_iload_n dX7_areAllCounted_18 rfl ?_
        refine mv_cV1 (ci := 7) dX7_areAllCounted_19 lk_X7_areAllCounted_66 HS rfl (Nat.le_of_ble_eq_true rfl) (Nat.le_of_ble_eq_true rfl) (k_X7_isCounted (ev := ev) HS S28 (by omega)) ?_
        refine mv_if_ne (tgt := 27) dX7_areAllCounted_22 (by decide) (fun c22 => ?_) (fun c22 => ?_)
        · have c22 : cf y ≠ -1 := Classical.byContradiction (fun z => c22 ((mv_b_0 _).mpr z))
          refine mv_iinc (v := nI (y + 1)) dX7_areAllCounted_27 rfl (mv_inc y 1) (by decide) ?_
          refine mv_goto (tgt := 2) dX7_areAllCounted_30 (by decide) ?_
          exact ih (y + 1) (by omega) (by omega) (fun k hk hz => if e : k = y then (by rw [e] at hz ⊢; first | exact c22 | exact absurd hz c14) else hq k (by omega) hz)
        · have c22 : ¬ (cf y ≠ -1) := (mv_b_0 _).mp c22
          refine mv_iconst (v := nI 0) dX7_areAllCounted_25 (by decide) ?_
          exact mv_iret dX7_areAllCounted_26 rfl rfl ⟨(congrArg (fun z => some (Value.int z)) (mv_q_f (fun z => c22 (z y (by omega) c14))).symm), rfl⟩
set_option maxRecDepth 100000 in
theorem k_X7_areAllCounted {ev : mv_E} {h : mv_H} {s : q_S} {cf : Nat → Int32} {rc : Nat} {set : Nat} (HS : h[22]? = some (.inr (7, [.ref 1, .ref 23, .ref 24, .ref 25, .ref 26, .int (nI s.1), .ref 27, .ref 28, .ref 29, .ref 30, .int (nI rc), .ref 31]))) (S28 : h[28]? = some (.inl (0, 8, .inl cf))) (hset : set < 256) : mv_K ev mX7_areAllCounted [.ref 22, .int (nI set)] h (some (.int (mv_q (q_aC cf set)))) h := by
  refine mv_Kof ?_
  show mv_g ev mX7_areAllCounted 0 [.ref 22, .int (nI set), .null] [] h _
  refine mv_iconst (v := nI 0) dX7_areAllCounted_0 (by decide) ?_
  refine mv_istore_n dX7_areAllCounted_1 (by decide) ?_
  exact l_X7_areAllCounted HS S28 hset (8 + 1) 0 (by omega) (Nat.zero_le _) (fun k hk => absurd hk (Nat.not_lt_zero _))
set_option maxRecDepth 100000 in
theorem l_X7_isOddWithin {ev : mv_E} {h : mv_H} {s : q_S} {rc : Nat} {ok : Nat → Nat} {k : Nat} {d : Nat} {w : Nat} (HS : h[22]? = some (.inr (7, [.ref 1, .ref 23, .ref 24, .ref 25, .ref 26, .int (nI s.1), .ref 27, .ref 28, .ref 29, .ref 30, .int (nI rc), .ref 31]))) (S31 : h[31]? = some (.inl (0, 400, .inl (fun j => nI (ok j))))) (hk : k < 8) (hdw : d + w ≤ 399) (hok : ∀ d, ok d < 256) : ∀ (fu : Nat) (y : Nat), w + 1 < y + fu → (y ≤ w + 1) → (∀ x, d ≤ x → x < d + y → ¬ q_bt (ok x) k = 1) → mv_g ev mX7_isOddWithin 3 [.ref 22, .int (nI k), .int (nI d), .int (nI w), .int (nI y)] [] h (fun r g => r = some (.int (mv_q (q_oW ok k d w))) ∧ g = h) := by
  intro fu
  induction fu with
  | zero => intro y hm hy hq; exact absurd hm (by omega)
  | succ fu ih =>
    intro y hm hy hq
    refine mv_iload dX7_isOddWithin_3 rfl ?_
    refine mv_iload_n dX7_isOddWithin_5 rfl ?_
    refine mv_icmp_gt (tgt := 29) dX7_isOddWithin_6 (by decide) (fun c6 => ?_) (fun c6 => ?_)
    · have c6 : w < y := (nI_ltI (by omega) (by omega)).mp c6
      refine mv_iconst (v := nI 0) dX7_isOddWithin_29 (by decide) ?_
      exact mv_iret dX7_isOddWithin_30 rfl rfl ⟨(congrArg (fun z => some (Value.int z)) (mv_q_f (fun ⟨x, h1, h2, h3⟩ => hq x h1 (by omega) h3)).symm), rfl⟩
    · have c6 : ¬ (w < y) := fun z => c6 ((nI_ltI (by omega) (by omega)).mpr z)
      refine mv_aload_n dX7_isOddWithin_9 rfl ?_
      refine mv_iload_n dX7_isOddWithin_10 rfl ?_
      refine mv_iload_n dX7_isOddWithin_11 rfl ?_
      refine mv_iload dX7_isOddWithin_12 rfl ?_
      refine mv_iadd dX7_isOddWithin_14 ?_
      refine mv_topI (y := nI (d + y)) (nI_add _ _) ?_
      refine mv_cV2 (ci := 7) dX7_isOddWithin_15 lk_X7_isOddWithin_112 HS rfl (Nat.le_of_ble_eq_true rfl) (Nat.le_of_ble_eq_true rfl) (k_X7_isOdd (ev := ev) HS S31 (by omega) (by omega) (by omega)) ?_
      refine mv_if_eq (tgt := 23) dX7_isOddWithin_18 (by decide) (fun c18 => ?_) (fun c18 => ?_)
      · have c18 : ¬ (q_bt (ok (d + y)) k = 1) := (mv_b_0 _).mp c18
        refine mv_iinc (v := nI (y + 1)) dX7_isOddWithin_23 rfl (mv_inc y 1) (by decide) ?_
        refine mv_goto (tgt := 3) dX7_isOddWithin_26 (by decide) ?_
        exact ih (y + 1) (by omega) (by omega) (fun x h1 h2 => by by_cases e : x = d + y; rw [e]; exact c18; exact hq x h1 (by omega))
      · have c18 : q_bt (ok (d + y)) k = 1 := Classical.byContradiction (fun z => c18 ((mv_b_0 _).mpr z))
        refine mv_iconst (v := nI 1) dX7_isOddWithin_21 (by decide) ?_
        exact mv_iret dX7_isOddWithin_22 rfl rfl ⟨(congrArg (fun z => some (Value.int z)) (mv_q_t ⟨d + y, by omega, by omega, c18⟩).symm), rfl⟩
set_option maxRecDepth 100000 in
theorem k_X7_isOddWithin {ev : mv_E} {h : mv_H} {s : q_S} {rc : Nat} {ok : Nat → Nat} {k : Nat} {d : Nat} {w : Nat} (HS : h[22]? = some (.inr (7, [.ref 1, .ref 23, .ref 24, .ref 25, .ref 26, .int (nI s.1), .ref 27, .ref 28, .ref 29, .ref 30, .int (nI rc), .ref 31]))) (S31 : h[31]? = some (.inl (0, 400, .inl (fun j => nI (ok j))))) (hk : k < 8) (hdw : d + w ≤ 399) (hok : ∀ d, ok d < 256) : mv_K ev mX7_isOddWithin [.ref 22, .int (nI k), .int (nI d), .int (nI w)] h (some (.int (mv_q (q_oW ok k d w)))) h := by
  refine mv_Kof ?_
  show mv_g ev mX7_isOddWithin 0 [.ref 22, .int (nI k), .int (nI d), .int (nI w), .null] [] h _
  refine mv_iconst (v := nI 0) dX7_isOddWithin_0 (by decide) ?_
  refine mv_istore dX7_isOddWithin_1 (by decide) ?_
  exact l_X7_isOddWithin HS S31 hk hdw hok (w + 2) 0 (by omega) (Nat.zero_le _) (fun x h1 h2 => absurd h2 (by omega))
set_option maxRecDepth 100000 in
theorem l_X7_byChanceI {ev : mv_E} {h : mv_H} {s : q_S} {wa : Nat → Nat} {cf : Nat → Int32} {ct : Nat → Int32} {rr : Nat → Nat} {rc : Nat} {ok : Nat → Nat} {lw : Nat → Int32} {ln : Nat → Nat} {w : Nat} {set : Nat}  (hw : q_LW lw ln) (hsi : q_SI s) (hr : ∀ d, rr d ≤ 1) (hwi : q_WI wa cf ct) (hok : ∀ d, ok d < 256) (hw6 : w < 1000) (hset : set < 256) : ∀ (fu : Nat) (k : Nat) (v0 : Nat) (r : Nat) (v : Nat) (y : Nat), ∀ (g : mv_H), w < y + fu → mv_fra [31] h g → g[31]? = some (.inl (0, 400, .inl (fun j => nI ((q_oks lw ln s wa cf ct rr ok) j)))) → g[1]? = some (.inr (5, [.ref 2])) → g[2]? = some (.inl (0, 8, .inl lw)) → g[22]? = some (.inr (7, [.ref 1, .ref 23, .ref 24, .ref 25, .ref 26, .int (nI s.1), .ref 27, .ref 28, .ref 29, .ref 30, .int (nI rc), .ref 31])) → g[23]? = some (.inl (0, 100, .inl (fun j => nI (s.2.1 j)))) → g[24]? = some (.inl (0, 100, .inl (fun j => nI (s.2.2.1 j)))) → g[25]? = some (.inl (0, 100, .inl (fun j => nI (s.2.2.2.1 j)))) → g[26]? = some (.inl (0, 100, .inl (fun j => nI (s.2.2.2.2 j)))) → g[27]? = some (.inl (0, 8, .inl (fun j => nI (wa j)))) → g[28]? = some (.inl (0, 8, .inl cf)) → g[29]? = some (.inl (0, 8, .inl ct)) → g[30]? = some (.inl (2, 400, .inl (fun j => nI (rr j)))) → (k < 8) → (r ≤ 1000000) → (v0 ≤ 1000000) → (v ≤ 1000000) → (y ≤ w) → (q_pw r (w - y) v = q_pw r w v0) → (∀ (gx : mv_H), mv_fra [31] h gx → gx[31]? = some (.inl (0, 400, .inl (fun j => nI ((q_oks lw ln s wa cf ct rr ok) j)))) → gx[1]? = some (.inr (5, [.ref 2])) → gx[2]? = some (.inl (0, 8, .inl lw)) → gx[22]? = some (.inr (7, [.ref 1, .ref 23, .ref 24, .ref 25, .ref 26, .int (nI s.1), .ref 27, .ref 28, .ref 29, .ref 30, .int (nI rc), .ref 31])) → gx[23]? = some (.inl (0, 100, .inl (fun j => nI (s.2.1 j)))) → gx[24]? = some (.inl (0, 100, .inl (fun j => nI (s.2.2.1 j)))) → gx[25]? = some (.inl (0, 100, .inl (fun j => nI (s.2.2.2.1 j)))) → gx[26]? = some (.inl (0, 100, .inl (fun j => nI (s.2.2.2.2 j)))) → gx[27]? = some (.inl (0, 8, .inl (fun j => nI (wa j)))) → gx[28]? = some (.inl (0, 8, .inl cf)) → gx[29]? = some (.inl (0, 8, .inl ct)) → gx[30]? = some (.inl (2, 400, .inl (fun j => nI (rr j)))) → mv_g ev mX7_byChance 70 [.ref 22, .int (nI w), .int (nI set), .long (lN (q_pw r w v0)), .null, .int (nI k), .null, .null, .null] [] gx (fun r g => r = some (.int (nI (1000000 - q_ch (q_ra (q_oks lw ln s wa cf ct rr ok) cf ct) w set 8 0 1000000))) ∧ mv_fra [31] h g ∧ g[31]? = some (.inl (0, 400, .inl (fun j => nI ((q_oks lw ln s wa cf ct rr ok) j)))))) → mv_g ev mX7_byChance 49 [.ref 22, .int (nI w), .int (nI set), .long (lN v), .null, .int (nI k), .long (lN (1000000 - r)), .null, .int (nI y)] [] g (fun r g => r = some (.int (nI (1000000 - q_ch (q_ra (q_oks lw ln s wa cf ct rr ok) cf ct) w set 8 0 1000000))) ∧ mv_fra [31] h g ∧ g[31]? = some (.inl (0, 400, .inl (fun j => nI ((q_oks lw ln s wa cf ct rr ok) j))))) := by
  intro fu
  induction fu with
  | zero => intro k v0 r v y g hm fr S31 HL HV HS S23 S24 S25 S26 S27 S28 S29 S30 hk hrr hv0 hv hy hqi kx; exact absurd hm (by omega)
  | succ fu ih =>
    intro k v0 r v y g hm fr S31 HL HV HS S23 S24 S25 S26 S27 S28 S29 S30 hk hrr hv0 hv hy hqi kx
    have n1 : v * (1000000 - r) ≤ 1000000 * 1000000 := Nat.mul_le_mul hv (Nat.sub_le _ _)
    refine mv_iload dX7_byChance_49 rfl ?_
    refine mv_iload_n dX7_byChance_51 rfl ?_
    refine mv_icmp_ge (tgt := 70) dX7_byChance_52 (by decide) (fun c52 => ?_) (fun c52 => ?_)
    · have c52 : w ≤ y := (nI_leI (by omega) (by omega)).mp c52
      have ey : y = w := (by omega)
      have e9 : v = q_pw r w v0 := (by rw [← hqi, ey, Nat.sub_self]; rfl)
      rw [e9]
      refine mv_sub (lv' := [.ref 22, .int (nI w), .int (nI set), .long (lN (q_pw r w v0)), .null, .int (nI k), .null, .null, .null]) ⟨Or.inr rfl, Or.inr rfl, Or.inr rfl, Or.inr rfl, Or.inl rfl, Or.inr rfl, Or.inl rfl, Or.inl rfl, Or.inl rfl, trivial⟩ ?_
      exact kx g fr S31 HL HV HS S23 S24 S25 S26 S27 S28 S29 S30
    · have c52 : ¬ (w ≤ y) := fun z => c52 ((nI_leI (by omega) (by omega)).mpr z)
      refine mv_lload_n dX7_byChance_55 rfl ?_
      refine mv_lload dX7_byChance_56 rfl ?_
      refine mv_lmul dX7_byChance_58 ?_
      refine mv_topL (y := lN (v * (1000000 - r))) (lN_mul _ _) ?_
      refine mv_ldc2 (v := lN 1000000) dX7_byChance_59 wd_918 ?_
      refine mv_ldiv dX7_byChance_62 (by decide) ?_
      refine mv_topL (y := lN ((v * (1000000 - r)) / 1000000)) (lN_div (by omega) (by omega) (by omega)) ?_
      refine mv_lstore_n dX7_byChance_63 (by decide) ?_
      refine mv_iinc (v := nI (y + 1)) dX7_byChance_64 rfl (mv_inc y 1) (by decide) ?_
      refine mv_goto (tgt := 49) dX7_byChance_67 (by decide) ?_
      exact ih k v0 r ((v * (1000000 - r)) / 1000000) (y + 1) g (by omega) fr S31 HL HV HS S23 S24 S25 S26 S27 S28 S29 S30 hk hrr hv0 (q_le_le _ _ hv) (by omega) (by rw [← hqi, q_pw_s (n := w - y) (by omega), Nat.sub_sub]; rfl) kx
set_option maxRecDepth 100000 in
theorem l_X7_byChance {ev : mv_E} {h : mv_H} {s : q_S} {wa : Nat → Nat} {cf : Nat → Int32} {ct : Nat → Int32} {rr : Nat → Nat} {rc : Nat} {ok : Nat → Nat} {lw : Nat → Int32} {ln : Nat → Nat} {w : Nat} {set : Nat}  (hw : q_LW lw ln) (hsi : q_SI s) (hr : ∀ d, rr d ≤ 1) (hwi : q_WI wa cf ct) (hok : ∀ d, ok d < 256) (hw6 : w < 1000) (hset : set < 256) : ∀ (fu : Nat) (v : Nat) (k : Nat), ∀ (g : mv_H), 8 < k + fu → mv_fra [31] h g → g[31]? = some (.inl (0, 400, .inl (fun j => nI ((q_oks lw ln s wa cf ct rr ok) j)))) → g[1]? = some (.inr (5, [.ref 2])) → g[2]? = some (.inl (0, 8, .inl lw)) → g[22]? = some (.inr (7, [.ref 1, .ref 23, .ref 24, .ref 25, .ref 26, .int (nI s.1), .ref 27, .ref 28, .ref 29, .ref 30, .int (nI rc), .ref 31])) → g[23]? = some (.inl (0, 100, .inl (fun j => nI (s.2.1 j)))) → g[24]? = some (.inl (0, 100, .inl (fun j => nI (s.2.2.1 j)))) → g[25]? = some (.inl (0, 100, .inl (fun j => nI (s.2.2.2.1 j)))) → g[26]? = some (.inl (0, 100, .inl (fun j => nI (s.2.2.2.2 j)))) → g[27]? = some (.inl (0, 8, .inl (fun j => nI (wa j)))) → g[28]? = some (.inl (0, 8, .inl cf)) → g[29]? = some (.inl (0, 8, .inl ct)) → g[30]? = some (.inl (2, 400, .inl (fun j => nI (rr j)))) → (k ≤ 8) → (v ≤ 1000000) → (q_ch (q_ra (q_oks lw ln s wa cf ct rr ok) cf ct) w set (8 - k) k v = q_ch (q_ra (q_oks lw ln s wa cf ct rr ok) cf ct) w set 8 0 1000000) → mv_g ev mX7_byChance 11 [.ref 22, .int (nI w), .int (nI set), .long (lN v), .null, .int (nI k), .null, .null, .null] [] g (fun r g => r = some (.int (nI (1000000 - q_ch (q_ra (q_oks lw ln s wa cf ct rr ok) cf ct) w set 8 0 1000000))) ∧ mv_fra [31] h g ∧ g[31]? = some (.inl (0, 400, .inl (fun j => nI ((q_oks lw ln s wa cf ct rr ok) j))))) := by
  intro fu
  induction fu with
  | zero => intro v k g hm fr S31 HL HV HS S23 S24 S25 S26 S27 S28 S29 S30 hk hv hq; exact absurd hm (by omega)
  | succ fu ih =>
    intro v k g hm fr S31 HL HV HS S23 S24 S25 S26 S27 S28 S29 S30 hk hv hq
    have n2 := q_ra_le (lw := lw) (ln := ln) (rr := rr) (ok := ok) hsi hwi k
    have n4 := q_bt_lt set k
    refine mv_iload dX7_byChance_11 rfl ?_
    refine mv_bipush (v := nI 8) dX7_byChance_13 (by decide) ?_
    refine mv_icmp_ge (tgt := 76) dX7_byChance_15 (by decide) (fun c15 => ?_) (fun c15 => ?_)
    · have c15 : 8 ≤ k := (nI_leI (by omega) (by omega)).mp c15
      refine mv_ldc2 (v := lN 1000000) dX7_byChance_76 wd_918 ?_
      refine mv_lload_n dX7_byChance_79 rfl ?_
      refine mv_lsub dX7_byChance_80 ?_
      refine mv_topL (y := lN (1000000 - v)) (lN_sub (by omega)) ?_
      refine mv_l2i dX7_byChance_81 ?_
      refine mv_topI (y := nI (1000000 - v)) (lN_i _) ?_
      exact mv_iret dX7_byChance_82 rfl rfl ⟨(congrArg (fun z => some (Value.int z)) (congrArg nI (by rw [← hq, show 8 - k = 0 by omega]; rfl))), fr, S31⟩
    · have c15 : ¬ (8 ≤ k) := fun z => c15 ((nI_leI (by omega) (by omega)).mpr z)
      refine mv_iload_n dX7_byChance_18 rfl ?_
      refine mv_iload dX7_byChance_19 rfl ?_
      refine mv_ishr dX7_byChance_21 ?_
      refine mv_iconst (v := nI 1) dX7_byChance_22 (by decide) ?_
      refine mv_iand dX7_byChance_23 ?_
      refine mv_topI (y := nI (q_bt set k)) (q_sb _ hset _ (by omega)) ?_
      refine mv_iconst (v := nI 1) dX7_byChance_24 (by decide) ?_
      refine mv_icmp_ne (tgt := 41) dX7_byChance_25 (by decide) (fun c25 => ?_) (fun c25 => ?_)
      · have c25 : ¬ (q_bt set k = 1) := fun z => c25 ((nI_eq (by omega) (by omega)).mpr z)
        refine mv_ldc2 (v := lN 1000000) dX7_byChance_41 wd_918 ?_
        refine mv_topL (y := lN (1000000 - 0)) rfl ?_
        refine mv_lstore dX7_byChance_44 (by decide) ?_
        refine mv_iconst (v := nI 0) dX7_byChance_46 (by decide) ?_
        refine mv_istore dX7_byChance_47 (by decide) ?_
        refine l_X7_byChanceI hw hsi hr hwi hok hw6 hset (w + 1) k v 0 v 0 g (by omega) fr S31 HL HV HS S23 S24 S25 S26 S27 S28 S29 S30 (by omega) (by first | exact q_ra_le hsi hwi _ | exact Nat.zero_le _) hv hv (Nat.zero_le _) rfl ?_
        intro gx1 fr S31 HL HV HS S23 S24 S25 S26 S27 S28 S29 S30
        refine mv_iinc (v := nI (k + 1)) dX7_byChance_70 rfl (mv_inc k 1) (by decide) ?_
        refine mv_goto (tgt := 11) dX7_byChance_73 (by decide) ?_
        exact ih (q_pw 0 w v) (k + 1) gx1 (by omega) fr S31 HL HV HS S23 S24 S25 S26 S27 S28 S29 S30 (by omega) (q_pw_le _ _ _ hv) (by rw [← hq, q_ch_s (f := 8 - k) (by omega)]; first | rw [if_pos c25, Nat.sub_sub] | rw [if_neg c25, Nat.sub_sub])
      · have c25 : q_bt set k = 1 := (nI_eq (by omega) (by omega)).mp c25
        refine mv_ldc (v := nI 1000000) dX7_byChance_28 wd_883 ?_
        refine mv_aload_n dX7_byChance_30 rfl ?_
        refine mv_iload dX7_byChance_31 rfl ?_
        refine mv_cV1 (ci := 7) dX7_byChance_33 lk_X7_byChance_128 HS rfl (Nat.le_of_ble_eq_true rfl) (Nat.le_of_ble_eq_true rfl) (k_X7_rateOf (ev := ev) HS S28 S29 S31 (by omega) (q_oks_lt hsi hok) hwi) ?_
        refine mv_isub dX7_byChance_36 ?_
        refine mv_topI (y := nI (1000000 - (q_ra (q_oks lw ln s wa cf ct rr ok) cf ct k))) (pk_sub (by omega)) ?_
        refine mv_i2l dX7_byChance_37 ?_
        refine mv_topL (y := lN (1000000 - (q_ra (q_oks lw ln s wa cf ct rr ok) cf ct k))) (nI_l (by omega)) ?_
        refine mv_goto (tgt := 44) dX7_byChance_38 (by decide) ?_
        refine mv_lstore dX7_byChance_44 (by decide) ?_
        refine mv_iconst (v := nI 0) dX7_byChance_46 (by decide) ?_
        refine mv_istore dX7_byChance_47 (by decide) ?_
        refine l_X7_byChanceI hw hsi hr hwi hok hw6 hset (w + 1) k v (q_ra (q_oks lw ln s wa cf ct rr ok) cf ct k) v 0 g (by omega) fr S31 HL HV HS S23 S24 S25 S26 S27 S28 S29 S30 (by omega) (by first | exact q_ra_le hsi hwi _ | exact Nat.zero_le _) hv hv (Nat.zero_le _) rfl ?_
        intro gx2 fr S31 HL HV HS S23 S24 S25 S26 S27 S28 S29 S30
        refine mv_iinc (v := nI (k + 1)) dX7_byChance_70 rfl (mv_inc k 1) (by decide) ?_
        refine mv_goto (tgt := 11) dX7_byChance_73 (by decide) ?_
        exact ih (q_pw (q_ra (q_oks lw ln s wa cf ct rr ok) cf ct k) w v) (k + 1) gx2 (by omega) fr S31 HL HV HS S23 S24 S25 S26 S27 S28 S29 S30 (by omega) (q_pw_le _ _ _ hv) (by rw [← hq, q_ch_s (f := 8 - k) (by omega)]; first | rw [if_pos c25, Nat.sub_sub] | rw [if_neg c25, Nat.sub_sub])
set_option maxRecDepth 100000 in
theorem k_X7_byChance {ev : mv_E} {h : mv_H} {s : q_S} {wa : Nat → Nat} {cf : Nat → Int32} {ct : Nat → Int32} {rr : Nat → Nat} {rc : Nat} {ok : Nat → Nat} {lw : Nat → Int32} {ln : Nat → Nat} {w : Nat} {set : Nat} (HL : h[1]? = some (.inr (5, [.ref 2]))) (HV : h[2]? = some (.inl (0, 8, .inl lw))) (HS : h[22]? = some (.inr (7, [.ref 1, .ref 23, .ref 24, .ref 25, .ref 26, .int (nI s.1), .ref 27, .ref 28, .ref 29, .ref 30, .int (nI rc), .ref 31]))) (S23 : h[23]? = some (.inl (0, 100, .inl (fun j => nI (s.2.1 j))))) (S24 : h[24]? = some (.inl (0, 100, .inl (fun j => nI (s.2.2.1 j))))) (S25 : h[25]? = some (.inl (0, 100, .inl (fun j => nI (s.2.2.2.1 j))))) (S26 : h[26]? = some (.inl (0, 100, .inl (fun j => nI (s.2.2.2.2 j))))) (S27 : h[27]? = some (.inl (0, 8, .inl (fun j => nI (wa j))))) (S28 : h[28]? = some (.inl (0, 8, .inl cf))) (S29 : h[29]? = some (.inl (0, 8, .inl ct))) (S30 : h[30]? = some (.inl (2, 400, .inl (fun j => nI (rr j))))) (S31 : h[31]? = some (.inl (0, 400, .inl (fun j => nI (ok j))))) (hw : q_LW lw ln) (hsi : q_SI s) (hr : ∀ d, rr d ≤ 1) (hwi : q_WI wa cf ct) (hok : ∀ d, ok d < 256) (hw6 : w < 1000) (hset : set < 256) : ∃ h2, mv_K ev mX7_byChance [.ref 22, .int (nI w), .int (nI set)] h (some (.int (nI (1000000 - q_ch (q_ra (q_oks lw ln s wa cf ct rr ok) cf ct) w set 8 0 1000000)))) h2 ∧ mv_fra [31] h h2 ∧ h2[31]? = some (.inl (0, 400, .inl (fun j => nI ((q_oks lw ln s wa cf ct rr ok) j)))) := by
  suffices g0 : mv_g ev mX7_byChance 0 (mv_ent [.ref 22, .int (nI w), .int (nI set)] (mv_ml mX7_byChance)) [] h (fun r g => r = some (.int (nI (1000000 - q_ch (q_ra (q_oks lw ln s wa cf ct rr ok) cf ct) w set 8 0 1000000))) ∧ mv_fra [31] h g ∧ g[31]? = some (.inl (0, 400, .inl (fun j => nI ((q_oks lw ln s wa cf ct rr ok) j))))) from (by obtain ⟨r0, h0, K0, q0, Q0⟩ := mv_Kex g0; subst q0; exact ⟨h0, K0, Q0⟩)
  show mv_g ev mX7_byChance 0 [.ref 22, .int (nI w), .int (nI set), .null, .null, .null, .null, .null, .null] [] h _
  have fr : mv_fra [31] h h := mv_fra.rf
  refine mv_aload_n dX7_byChance_0 rfl ?_
  obtain ⟨h1, K2, f3, y4⟩ := (k_X7_findOddDays (ev := ev) (s := s) (wa := wa) (cf := cf) (ct := ct) (rr := rr) (rc := rc) (ok := ok) (lw := lw) (ln := ln) HL HV HS S23 S24 S25 S26 S27 S28 S29 S30 S31 hw hsi hr hwi)
  refine mv_cV0 (ci := 7) dX7_byChance_1 lk_X7_byChance_123 HS rfl (Nat.le_of_ble_eq_true rfl) (Nat.le_of_ble_eq_true rfl) K2 ?_
  have HL := f3.get (by decide) HL
  have HV := f3.get (by decide) HV
  have HS := f3.get (by decide) HS
  have S23 := f3.get (by decide) S23
  have S24 := f3.get (by decide) S24
  have S25 := f3.get (by decide) S25
  have S26 := f3.get (by decide) S26
  have S27 := f3.get (by decide) S27
  have S28 := f3.get (by decide) S28
  have S29 := f3.get (by decide) S29
  have S30 := f3.get (by decide) S30
  have S31 : h1[31]? = some (.inl (0, 400, .inl (fun j => nI ((q_oks lw ln s wa cf ct rr ok) j)))) := y4
  have fr := fr.trans f3 (by decide)
  refine mv_ldc2 (v := lN 1000000) dX7_byChance_4 wd_918 ?_
  refine mv_lstore_n dX7_byChance_7 (by decide) ?_
  refine mv_iconst (v := nI 0) dX7_byChance_8 (by decide) ?_
  refine mv_istore dX7_byChance_9 (by decide) ?_
  exact l_X7_byChance hw hsi hr hwi hok hw6 hset (8 + 1) 1000000 0 h1 (by omega) fr S31 HL HV HS S23 S24 S25 S26 S27 S28 S29 S30 (Nat.zero_le _) (Nat.le_refl _) rfl
set_option maxRecDepth 100000 in
theorem l_X7_againstStory {ev : mv_E} {h : mv_H} {s : q_S} {wa : Nat → Nat} {cf : Nat → Int32} {ct : Nat → Int32} {rr : Nat → Nat} {rc : Nat} {ok : Nat → Nat} {lw : Nat → Int32} {ln : Nat → Nat} {k1 : Nat} {k2 : Nat} {w : Nat} {a1 : Nat} {c1 : Nat} {a2 : Nat} {c2 : Nat}  (hw : q_LW lw ln) (hsi : q_SI s) (hr : ∀ d, rr d ≤ 1) (hwi : q_WI wa cf ct) (hok : ∀ d, ok d < 256) (hk1 : k1 < 8) (hk2 : k2 < 8) (hw6 : w < 1000) (e1 : cf k1 = nI a1) (f1 : ct k1 = nI c1) (e2 : cf k2 = nI a2) (f2 : ct k2 = nI c2) (hc1 : c1 ≤ 399) (hc2 : c2 ≤ 399) (ha1 : a1 ≤ 399) (ha2 : a2 ≤ 399) : ∀ (fu : Nat) (v : Nat) (y : Nat), ∀ (g : mv_H), 400 < y + fu → mv_fra [31] h g → g[31]? = some (.inl (0, 400, .inl (fun j => nI ((q_oks lw ln s wa cf ct rr ok) j)))) → g[1]? = some (.inr (5, [.ref 2])) → g[2]? = some (.inl (0, 8, .inl lw)) → g[22]? = some (.inr (7, [.ref 1, .ref 23, .ref 24, .ref 25, .ref 26, .int (nI s.1), .ref 27, .ref 28, .ref 29, .ref 30, .int (nI rc), .ref 31])) → g[23]? = some (.inl (0, 100, .inl (fun j => nI (s.2.1 j)))) → g[24]? = some (.inl (0, 100, .inl (fun j => nI (s.2.2.1 j)))) → g[25]? = some (.inl (0, 100, .inl (fun j => nI (s.2.2.2.1 j)))) → g[26]? = some (.inl (0, 100, .inl (fun j => nI (s.2.2.2.2 j)))) → g[27]? = some (.inl (0, 8, .inl (fun j => nI (wa j)))) → g[28]? = some (.inl (0, 8, .inl cf)) → g[29]? = some (.inl (0, 8, .inl ct)) → g[30]? = some (.inl (2, 400, .inl (fun j => nI (rr j)))) → (y ≤ 400) → (max a1 a2 ≤ y) → (v = q_cnt (q_sP (q_oks lw ln s wa cf ct rr ok) k1 k2 w a1 a2 c1 c2) y) → (v ≤ y) → mv_g ev mX7_againstStory 39 [.ref 22, .int (nI k1), .int (nI k2), .int (nI w), .int (q_mn c1 c2 w), .int (nI v), .int (nI y)] [] g (fun r g => r = some (.int (nI (q_cnt (q_sP (q_oks lw ln s wa cf ct rr ok) k1 k2 w a1 a2 c1 c2) 400))) ∧ mv_fra [31] h g ∧ g[31]? = some (.inl (0, 400, .inl (fun j => nI ((q_oks lw ln s wa cf ct rr ok) j))))) := by
  intro fu
  induction fu with
  | zero => intro v y g hm fr S31 HL HV HS S23 S24 S25 S26 S27 S28 S29 S30 hy hy2 hv hvb; exact absurd hm (by omega)
  | succ fu ih =>
    intro v y g hm fr S31 HL HV HS S23 S24 S25 S26 S27 S28 S29 S30 hy hy2 hv hvb
    have m1 : cf k1 ≠ -1 := (by rw [e1]; exact nI_m1 (by omega))
    have m2 : cf k2 ≠ -1 := (by rw [e2]; exact nI_m1 (by omega))
    have hok2 := q_oks_lt (lw := lw) (ln := ln) (wa := wa) (cf := cf) (ct := ct) (rr := rr) hsi hok
    refine mv_iload dX7_againstStory_39 rfl ?_
    refine mv_iload dX7_againstStory_41 rfl ?_
    refine mv_icmp_gt (tgt := 76) dX7_againstStory_43 (by decide) (fun c43 => ?_) (fun c43 => ?_)
    · have c43 := (q_mn_i hc1 hc2 hw6 (by omega)).mp c43
      refine mv_iload dX7_againstStory_76 rfl ?_
      exact mv_iret dX7_againstStory_78 rfl rfl ⟨(congrArg (fun z => some (Value.int z)) (congrArg nI (by rw [hv]; exact (q_cnt_same (P := (q_sP (q_oks lw ln s wa cf ct rr ok) k1 k2 w a1 a2 c1 c2)) 400 (by omega) (fun d h1 h2 z => absurd z.2.1 (by omega))).symm))), fr, S31⟩
    · have c43 : y ≤ c1 ∧ y + w ≤ c2 := Classical.byContradiction (fun z => c43 ((q_mn_i hc1 hc2 hw6 (by omega)).mpr z))
      refine mv_aload_n dX7_againstStory_46 rfl ?_
      refine mv_iload_n dX7_againstStory_47 rfl ?_
      refine mv_iload dX7_againstStory_48 rfl ?_
      refine mv_cV2 (ci := 7) dX7_againstStory_50 lk_X7_againstStory_112 HS rfl (Nat.le_of_ble_eq_true rfl) (Nat.le_of_ble_eq_true rfl) (k_X7_isOdd (ev := ev) HS S31 hk1 (by omega) hok2) ?_
      refine mv_if_eq (tgt := 70) dX7_againstStory_53 (by decide) (fun c53 => ?_) (fun c53 => ?_)
      · have c53 : ¬ (q_bt ((q_oks lw ln s wa cf ct rr ok) y) k1 = 1) := (mv_b_0 _).mp c53
        refine mv_iinc (v := nI (y + 1)) dX7_againstStory_70 rfl (mv_inc y 1) (by decide) ?_
        refine mv_goto (tgt := 39) dX7_againstStory_73 (by decide) ?_
        exact ih v (y + 1) g (by omega) fr S31 HL HV HS S23 S24 S25 S26 S27 S28 S29 S30 (by omega) (by omega) (by first | rw [q_cnt_y (P := (q_sP (q_oks lw ln s wa cf ct rr ok) k1 k2 w a1 a2 c1 c2)) ⟨c53, by omega, fun x h1 h2 z => c64 ⟨x, h1, h2, z⟩⟩, ← hv] | rw [q_cnt_n (P := (q_sP (q_oks lw ln s wa cf ct rr ok) k1 k2 w a1 a2 c1 c2)) (fun z => c53 z.1), ← hv] | rw [q_cnt_n (P := (q_sP (q_oks lw ln s wa cf ct rr ok) k1 k2 w a1 a2 c1 c2)) (fun z => c64.elim (fun x h3 => z.2.2 x h3.1 h3.2.1 h3.2.2)), ← hv]) (by omega)
      · have c53 : q_bt ((q_oks lw ln s wa cf ct rr ok) y) k1 = 1 := Classical.byContradiction (fun z => c53 ((mv_b_0 _).mpr z))
        refine mv_aload_n dX7_againstStory_56 rfl ?_
        refine mv_iload_n dX7_againstStory_57 rfl ?_
        refine mv_iload dX7_againstStory_58 rfl ?_
        refine mv_iload_n dX7_againstStory_60 rfl ?_
        refine mv_cV3 (ci := 7) dX7_againstStory_61 lk_X7_againstStory_145 HS rfl (Nat.le_of_ble_eq_true rfl) (Nat.le_of_ble_eq_true rfl) (k_X7_isOddWithin (ev := ev) HS S31 hk2 (by omega) hok2) ?_
        refine mv_if_ne (tgt := 70) dX7_againstStory_64 (by decide) (fun c64 => ?_) (fun c64 => ?_)
        · have c64 : q_oW (q_oks lw ln s wa cf ct rr ok) k2 y w := Classical.byContradiction (fun z => c64 ((mv_q_0 _).mpr z))
          refine mv_iinc (v := nI (y + 1)) dX7_againstStory_70 rfl (mv_inc y 1) (by decide) ?_
          refine mv_goto (tgt := 39) dX7_againstStory_73 (by decide) ?_
          exact ih v (y + 1) g (by omega) fr S31 HL HV HS S23 S24 S25 S26 S27 S28 S29 S30 (by omega) (by omega) (by first | rw [q_cnt_y (P := (q_sP (q_oks lw ln s wa cf ct rr ok) k1 k2 w a1 a2 c1 c2)) ⟨c53, by omega, fun x h1 h2 z => c64 ⟨x, h1, h2, z⟩⟩, ← hv] | rw [q_cnt_n (P := (q_sP (q_oks lw ln s wa cf ct rr ok) k1 k2 w a1 a2 c1 c2)) (fun z => c53 z.1), ← hv] | rw [q_cnt_n (P := (q_sP (q_oks lw ln s wa cf ct rr ok) k1 k2 w a1 a2 c1 c2)) (fun z => c64.elim (fun x h3 => z.2.2 x h3.1 h3.2.1 h3.2.2)), ← hv]) (by omega)
        · have c64 : ¬ (q_oW (q_oks lw ln s wa cf ct rr ok) k2 y w) := (mv_q_0 _).mp c64
          refine mv_iinc (v := nI (v + 1)) dX7_againstStory_67 rfl (mv_inc v 1) (by decide) ?_
          refine mv_iinc (v := nI (y + 1)) dX7_againstStory_70 rfl (mv_inc y 1) (by decide) ?_
          refine mv_goto (tgt := 39) dX7_againstStory_73 (by decide) ?_
          exact ih (v + 1) (y + 1) g (by omega) fr S31 HL HV HS S23 S24 S25 S26 S27 S28 S29 S30 (by omega) (by omega) (by first | rw [q_cnt_y (P := (q_sP (q_oks lw ln s wa cf ct rr ok) k1 k2 w a1 a2 c1 c2)) ⟨c53, by omega, fun x h1 h2 z => c64 ⟨x, h1, h2, z⟩⟩, ← hv] | rw [q_cnt_n (P := (q_sP (q_oks lw ln s wa cf ct rr ok) k1 k2 w a1 a2 c1 c2)) (fun z => c53 z.1), ← hv] | rw [q_cnt_n (P := (q_sP (q_oks lw ln s wa cf ct rr ok) k1 k2 w a1 a2 c1 c2)) (fun z => c64.elim (fun x h3 => z.2.2 x h3.1 h3.2.1 h3.2.2)), ← hv]) (by omega)
set_option maxRecDepth 100000 in
theorem k_X7_againstStory {ev : mv_E} {h : mv_H} {s : q_S} {wa : Nat → Nat} {cf : Nat → Int32} {ct : Nat → Int32} {rr : Nat → Nat} {rc : Nat} {ok : Nat → Nat} {lw : Nat → Int32} {ln : Nat → Nat} {k1 : Nat} {k2 : Nat} {w : Nat} {a1 : Nat} {c1 : Nat} {a2 : Nat} {c2 : Nat} (HL : h[1]? = some (.inr (5, [.ref 2]))) (HV : h[2]? = some (.inl (0, 8, .inl lw))) (HS : h[22]? = some (.inr (7, [.ref 1, .ref 23, .ref 24, .ref 25, .ref 26, .int (nI s.1), .ref 27, .ref 28, .ref 29, .ref 30, .int (nI rc), .ref 31]))) (S23 : h[23]? = some (.inl (0, 100, .inl (fun j => nI (s.2.1 j))))) (S24 : h[24]? = some (.inl (0, 100, .inl (fun j => nI (s.2.2.1 j))))) (S25 : h[25]? = some (.inl (0, 100, .inl (fun j => nI (s.2.2.2.1 j))))) (S26 : h[26]? = some (.inl (0, 100, .inl (fun j => nI (s.2.2.2.2 j))))) (S27 : h[27]? = some (.inl (0, 8, .inl (fun j => nI (wa j))))) (S28 : h[28]? = some (.inl (0, 8, .inl cf))) (S29 : h[29]? = some (.inl (0, 8, .inl ct))) (S30 : h[30]? = some (.inl (2, 400, .inl (fun j => nI (rr j))))) (S31 : h[31]? = some (.inl (0, 400, .inl (fun j => nI (ok j))))) (hw : q_LW lw ln) (hsi : q_SI s) (hr : ∀ d, rr d ≤ 1) (hwi : q_WI wa cf ct) (hok : ∀ d, ok d < 256) (hk1 : k1 < 8) (hk2 : k2 < 8) (hw6 : w < 1000) (e1 : cf k1 = nI a1) (f1 : ct k1 = nI c1) (e2 : cf k2 = nI a2) (f2 : ct k2 = nI c2) (hc1 : c1 ≤ 399) (hc2 : c2 ≤ 399) (ha1 : a1 ≤ 399) (ha2 : a2 ≤ 399) : ∃ h2, mv_K ev mX7_againstStory [.ref 22, .int (nI k1), .int (nI k2), .int (nI w)] h (some (.int (nI (q_cnt (q_sP (q_oks lw ln s wa cf ct rr ok) k1 k2 w a1 a2 c1 c2) 400)))) h2 ∧ mv_fra [31] h h2 ∧ h2[31]? = some (.inl (0, 400, .inl (fun j => nI ((q_oks lw ln s wa cf ct rr ok) j)))) := by
  suffices g0 : mv_g ev mX7_againstStory 0 (mv_ent [.ref 22, .int (nI k1), .int (nI k2), .int (nI w)] (mv_ml mX7_againstStory)) [] h (fun r g => r = some (.int (nI (q_cnt (q_sP (q_oks lw ln s wa cf ct rr ok) k1 k2 w a1 a2 c1 c2) 400))) ∧ mv_fra [31] h g ∧ g[31]? = some (.inl (0, 400, .inl (fun j => nI ((q_oks lw ln s wa cf ct rr ok) j))))) from (by obtain ⟨r0, h0, K0, q0, Q0⟩ := mv_Kex g0; subst q0; exact ⟨h0, K0, Q0⟩)
  show mv_g ev mX7_againstStory 0 [.ref 22, .int (nI k1), .int (nI k2), .int (nI w), .null, .null, .null] [] h _
  have fr : mv_fra [31] h h := mv_fra.rf
  have m1 : cf k1 ≠ -1 := (by rw [e1]; exact nI_m1 (by omega))
  have m2 : cf k2 ≠ -1 := (by rw [e2]; exact nI_m1 (by omega))
  have hok2 := q_oks_lt (lw := lw) (ln := ln) (wa := wa) (cf := cf) (ct := ct) (rr := rr) hsi hok
  refine mv_aload_n dX7_againstStory_0 rfl ?_
  obtain ⟨h1, K2, f3, y4⟩ := (k_X7_findOddDays (ev := ev) (s := s) (wa := wa) (cf := cf) (ct := ct) (rr := rr) (rc := rc) (ok := ok) (lw := lw) (ln := ln) HL HV HS S23 S24 S25 S26 S27 S28 S29 S30 S31 hw hsi hr hwi)
  refine mv_cV0 (ci := 7) dX7_againstStory_1 lk_X7_againstStory_123 HS rfl (Nat.le_of_ble_eq_true rfl) (Nat.le_of_ble_eq_true rfl) K2 ?_
  have HL := f3.get (by decide) HL
  have HV := f3.get (by decide) HV
  have HS := f3.get (by decide) HS
  have S23 := f3.get (by decide) S23
  have S24 := f3.get (by decide) S24
  have S25 := f3.get (by decide) S25
  have S26 := f3.get (by decide) S26
  have S27 := f3.get (by decide) S27
  have S28 := f3.get (by decide) S28
  have S29 := f3.get (by decide) S29
  have S30 := f3.get (by decide) S30
  have S31 : h1[31]? = some (.inl (0, 400, .inl (fun j => nI ((q_oks lw ln s wa cf ct rr ok) j)))) := y4
  have fr := fr.trans f3 (by decide)
  refine mv_aload_n dX7_againstStory_4 rfl ?_
  refine mv_iload_n dX7_againstStory_5 rfl ?_
  refine mv_cV1 (ci := 7) dX7_againstStory_6 lk_X7_againstStory_131 HS rfl (Nat.le_of_ble_eq_true rfl) (Nat.le_of_ble_eq_true rfl) (k_X7_lastCounted (ev := ev) HS S28 S29 hk1 m1) ?_
  refine mv_topI (y := nI c1) f1 ?_
  refine mv_aload_n dX7_againstStory_9 rfl ?_
  refine mv_iload_n dX7_againstStory_10 rfl ?_
  refine mv_cV1 (ci := 7) dX7_againstStory_11 lk_X7_againstStory_131 HS rfl (Nat.le_of_ble_eq_true rfl) (Nat.le_of_ble_eq_true rfl) (k_X7_lastCounted (ev := ev) HS S28 S29 hk2 m2) ?_
  refine mv_topI (y := nI c2) f2 ?_
  refine mv_iload_n dX7_againstStory_14 rfl ?_
  refine mv_isub dX7_againstStory_15 ?_
  refine mv_mmin dX7_againstStory_16 wd_979 (by decide) (Nat.le_of_ble_eq_true rfl) ?_
  refine mv_topI (y := q_mn c1 c2 w) rfl ?_
  refine mv_istore dX7_againstStory_19 (by decide) ?_
  refine mv_iconst (v := nI 0) dX7_againstStory_21 (by decide) ?_
  refine mv_istore dX7_againstStory_22 (by decide) ?_
  refine mv_aload_n dX7_againstStory_24 rfl ?_
  refine mv_iload_n dX7_againstStory_25 rfl ?_
  refine mv_cV1 (ci := 7) dX7_againstStory_26 lk_X7_againstStory_139 HS rfl (Nat.le_of_ble_eq_true rfl) (Nat.le_of_ble_eq_true rfl) (k_X7_firstCounted (ev := ev) HS S28 hk1) ?_
  refine mv_topI (y := nI a1) e1 ?_
  refine mv_aload_n dX7_againstStory_29 rfl ?_
  refine mv_iload_n dX7_againstStory_30 rfl ?_
  refine mv_cV1 (ci := 7) dX7_againstStory_31 lk_X7_againstStory_139 HS rfl (Nat.le_of_ble_eq_true rfl) (Nat.le_of_ble_eq_true rfl) (k_X7_firstCounted (ev := ev) HS S28 hk2) ?_
  refine mv_topI (y := nI a2) e2 ?_
  refine mv_mmax dX7_againstStory_34 wd_981 (by decide) (Nat.le_of_ble_eq_true rfl) ?_
  refine mv_topI (y := nI (max a1 a2)) (mv_nmax (by omega) (by omega)) ?_
  refine mv_istore dX7_againstStory_37 (by decide) ?_
  exact l_X7_againstStory hw hsi hr hwi hok hk1 hk2 hw6 e1 f1 e2 f2 hc1 hc2 ha1 ha2 (400 + 1) 0 (max a1 a2) h1 (by omega) fr S31 HL HV HS S23 S24 S25 S26 S27 S28 S29 S30 (by omega) (Nat.le_refl _) (q_cnt_same (P := (q_sP (q_oks lw ln s wa cf ct rr ok) k1 k2 w a1 a2 c1 c2)) (m := 0) _ (Nat.zero_le _) (fun d _ hd z => absurd z.2.1 (by omega))).symm (Nat.zero_le _)
