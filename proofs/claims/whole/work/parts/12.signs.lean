noncomputable def mv_q (p : Prop) : Int32 := @mv_b p (Classical.propDecidable p)
theorem mv_q_nar (p : Prop) : narrow .boolean (.int (mv_q p)) = .int (mv_q p) := @mv_b_nar p (Classical.propDecidable p)
theorem mv_q_vp (p : Prop) : vp_nar .boolean (mv_q p) = mv_q p := @mv_b_vp p (Classical.propDecidable p)
theorem mv_q_0 (p : Prop) : mv_q p = 0 ↔ ¬ p := @mv_b_0 p (Classical.propDecidable p)
theorem mv_q_ne {p : Prop} (h : ¬ mv_q p = 0) : p := Classical.byContradiction (fun z => h ((mv_q_0 _).mpr z))
theorem mv_q_t {p : Prop} (h : p) : mv_q p = 1 := @mv_b_t p (Classical.propDecidable p) h
theorem mv_q_f {p : Prop} (h : ¬ p) : mv_q p = 0 := @mv_b_f p (Classical.propDecidable p) h
/-- a count -/
noncomputable def q_cnt (P : Nat → Prop) : Nat → Nat
  | 0 => 0
  | n + 1 => q_cnt P n + (haveI := Classical.propDecidable (P n); if P n then 1 else 0)
theorem q_cnt_y {P : Nat → Prop} {n : Nat} (h : P n) : q_cnt P (n + 1) = q_cnt P n + 1 := congrArg (q_cnt P n + ·) (if_pos h)
theorem q_cnt_n {P : Nat → Prop} {n : Nat} (h : ¬ P n) : q_cnt P (n + 1) = q_cnt P n := congrArg (q_cnt P n + ·) (if_neg h)
theorem q_cnt_le (P : Nat → Prop) (n : Nat) : q_cnt P n ≤ n := by
  induction n with
  | zero => exact Nat.le_refl _
  | succ n ih =>
    by_cases h : P n
    · rw [q_cnt_y h]; omega
    · rw [q_cnt_n h]; omega
theorem q_cnt_same {P : Nat → Prop} {m : Nat} (n : Nat) (hm : m ≤ n) (h : ∀ d, m ≤ d → d < n → ¬ P d) : q_cnt P n = q_cnt P m := by
  induction n with
  | zero =>
    have e : m = 0 := by omega
    rw [e]
  | succ n ih =>
    by_cases hc : m = n + 1
    · rw [hc]
    · rw [q_cnt_n (h n (by omega) (by omega))]
      exact ih (by omega) (fun d h1 h2 => h d h1 (by omega))
theorem q_cnt_congr {P R : Nat → Prop} (n : Nat) (h : ∀ d, d < n → (P d ↔ R d)) : q_cnt P n = q_cnt R n := by
  induction n with
  | zero => rfl
  | succ n ih =>
    have e := ih (fun d hd => h d (by omega))
    by_cases hp : P n
    · rw [q_cnt_y hp, q_cnt_y ((h n (by omega)).mp hp), e]
    · rw [q_cnt_n hp, q_cnt_n (fun z => hp ((h n (by omega)).mpr z)), e]
theorem q_cnt_in {P : Nat → Prop} {a c : Nat} (h : ∀ d, P d → a ≤ d ∧ d ≤ c) (n : Nat) : q_cnt P n ≤ min n (c + 1) - a := by
  induction n with
  | zero => exact Nat.zero_le _
  | succ n ih =>
    by_cases hp : P n
    · have := h n hp
      rw [q_cnt_y hp]; omega
    · rw [q_cnt_n hp]; omega
/-- signs: how many, kinds, days, places, written -/
abbrev q_S : Type := Nat × (Nat → Nat) × (Nat → Nat) × (Nat → Nat) × (Nat → Nat)
def q_SI (s : q_S) : Prop := s.1 ≤ 100 ∧ (∀ j, s.2.1 j < 8) ∧ (∀ j, s.2.2.1 j ≤ 399) ∧ (∀ j, s.2.2.2.1 j < 64) ∧ (∀ j, s.2.2.2.2 j ≤ 399)
def q_WI (wa : Nat → Nat) (cf ct : Nat → Int32) : Prop := (∀ k, wa k < 64) ∧ ∀ k, cf k = -1 ∨ ∃ a c : Nat, a ≤ c ∧ c ≤ 399 ∧ cf k = nI a ∧ ct k = nI c
def q_sw (s : q_S) (k d p w : Nat) : q_S := (s.1 + 1, t_up s.2.1 s.1 k, t_up s.2.2.1 s.1 d, t_up s.2.2.2.1 s.1 p, t_up s.2.2.2.2 s.1 w)
theorem q_WI_c {wa : Nat → Nat} {cf ct : Nat → Int32} (h : q_WI wa cf ct) {k : Nat} (hk : cf k ≠ -1) : ∃ a c : Nat, a ≤ c ∧ c ≤ 399 ∧ cf k = nI a ∧ ct k = nI c := (h.2 k).resolve_left hk
def q_cd (cf ct : Nat → Int32) (k : Nat) : Nat := if cf k = -1 then 0 else ((ct k).toInt + 1 - (cf k).toInt).toNat
theorem q_cd_c {wa : Nat → Nat} {cf ct : Nat → Int32} (h : q_WI wa cf ct) {k : Nat} (hk : cf k ≠ -1) : ct k - cf k + nI 1 = nI (q_cd cf ct k) := by
  obtain ⟨a, c, h1, h2, h3, h4⟩ := q_WI_c h hk
  have e : q_cd cf ct k = c + 1 - a := by
    unfold q_cd
    rw [if_neg hk, h3, h4, nI_toInt (by omega), nI_toInt (by omega)]
    omega
  rw [e, h3, h4, pk_sub h1, nI_add]
  exact congrArg nI (by omega)
theorem q_cd_le {wa : Nat → Nat} {cf ct : Nat → Int32} (h : q_WI wa cf ct) (k : Nat) : q_cd cf ct k ≤ 400 := by
  by_cases hk : cf k = -1
  · unfold q_cd
    rw [if_pos hk]
    exact Nat.zero_le _
  · obtain ⟨a, c, h1, h2, h3, h4⟩ := q_WI_c h hk
    unfold q_cd
    rw [if_neg hk, h3, h4, nI_toInt (by omega), nI_toInt (by omega)]
    omega
theorem q_cd_0 {cf ct : Nat → Int32} {k : Nat} (hk : cf k = -1) : q_cd cf ct k = 0 := if_pos hk
def q_rO (rr : Nat → Nat) (x : Int32) : Prop := ∃ d : Nat, d ≤ 399 ∧ x = nI d ∧ rr d = 1
theorem q_rO_n {rr : Nat → Nat} {d : Nat} (hd : d ≤ 399) : q_rO rr (nI d) ↔ rr d = 1 := by
  constructor
  · intro ⟨i, hi, e, h⟩
    have e2 := (nI_eq (by omega) (by omega)).mp e
    rw [e2]
    exact h
  · intro h
    exact ⟨d, hd, rfl, h⟩
theorem q_rO_b {rr : Nat → Nat} {d : Nat} (hd : d ≤ 399) (hr : rr d ≤ 1) : mv_q (q_rO rr (nI d)) = nI (rr d) := by
  by_cases h : rr d = 1
  · rw [mv_q_t ((q_rO_n hd).mpr h), h]; rfl
  · have e : rr d = 0 := by omega
    rw [mv_q_f (fun z => h ((q_rO_n hd).mp z)), e]; rfl
theorem q_rO_m {rr : Nat → Nat} {d k : Nat} (hd : d ≤ 399) (hk : k ≤ 399) : q_rO rr (nI d - nI k) ↔ k ≤ d ∧ rr (d - k) = 1 := by
  have h1 := pk_sub_toInt (a := d) (b := k) (by omega) (by omega)
  by_cases c : k ≤ d
  · rw [pk_sub c, q_rO_n (by omega)]
    exact ⟨fun z => ⟨c, z⟩, fun z => z.2⟩
  · constructor
    · intro ⟨i, hi, e, h⟩
      rw [e, nI_toInt (by omega)] at h1
      omega
    · intro z
      exact absurd z.1 c
def q_cr (rr : Nat → Nat) : Nat → Nat
  | 0 => 0
  | n + 1 => q_cr rr n + rr n
theorem q_cr_le {rr : Nat → Nat} (h : ∀ d, rr d ≤ 1) (n : Nat) : q_cr rr n ≤ n := by
  induction n with
  | zero => exact Nat.le_refl _
  | succ n ih =>
    have e : q_cr rr (n + 1) = q_cr rr n + rr n := rfl
    have := h n
    omega
theorem q_cr_up (rr : Nat → Nat) (d v : Nat) (n : Nat) : q_cr (t_up rr d v) n + (if d < n then rr d else 0) = q_cr rr n + (if d < n then v else 0) := by
  induction n with
  | zero => rfl
  | succ n ih =>
    have e : q_cr rr (n + 1) = q_cr rr n + rr n := rfl
    have e2 : q_cr (t_up rr d v) (n + 1) = q_cr (t_up rr d v) n + t_up rr d v n := rfl
    rw [e, e2]
    by_cases c : n = d
    · subst c
      rw [t_up_eq]
      rw [if_neg (by omega), if_neg (by omega)] at ih
      rw [if_pos (by omega), if_pos (by omega)]
      omega
    · rw [t_up_ne _ _ c]
      by_cases c2 : d < n
      · rw [if_pos c2, if_pos c2] at ih
        rw [if_pos (by omega), if_pos (by omega)]
        omega
      · rw [if_neg c2, if_neg c2] at ih
        rw [if_neg (by omega), if_neg (by omega)]
        omega
def q_rd (rr : Nat → Nat) (d n : Nat) : Prop := ∃ k, k < n ∧ k ≤ d ∧ rr (d - k) = 1
noncomputable def q_ow (lw : Nat → Int32) (ln : Nat → Nat) (rr : Nat → Nat) (d : Nat) : Nat := if t_mo (lw 5) (lw 6) (nI (d % 28)) then 1 else (haveI := Classical.propDecidable (q_rd rr d (ln 7)); if q_rd rr d (ln 7) then 2 else 0)
theorem q_ow_le (lw : Nat → Int32) (ln : Nat → Nat) (rr : Nat → Nat) (d : Nat) : q_ow lw ln rr d ≤ 2 := by
  unfold q_ow
  split
  · decide
  · split <;> decide
def q_ev (lw : Nat → Int32) (ln : Nat → Nat) (s : q_S) (wa : Nat → Nat) (cf ct : Nat → Int32) (rr : Nat → Nat) (i : Nat) : Prop := (cf (s.2.1 i) ≠ -1 ∧ cf (s.2.1 i) ≤ nI (s.2.2.1 i) ∧ nI (s.2.2.1 i) ≤ ct (s.2.1 i)) ∧ s.2.2.2.1 i = wa (s.2.1 i) ∧ s.2.2.2.2 i = s.2.2.1 i ∧ q_ow lw ln rr (s.2.2.1 i) = 0
/-- bits -/
def q_bt (x k : Nat) : Nat := x / 2 ^ k % 2
theorem q_bt_lt (x k : Nat) : q_bt x k < 2 := Nat.mod_lt _ (by decide)
theorem q_or (a b : Nat) : nI a ||| nI b = nI (a ||| b) := by
  apply Int32.toBitVec_inj.mp
  rw [Int32.toBitVec_or]
  show BitVec.ofNat 32 a ||| BitVec.ofNat 32 b = BitVec.ofNat 32 (a ||| b)
  exact (BitVec.ofNat_or ..).symm
theorem q_shl1 : ∀ k, k < 8 → nI 1 <<< (nI k &&& 31) = nI (2 ^ k) := by decide
theorem q_sb (x : Nat) (hx : x < 256) (k : Nat) (hk : k < 8) : nI x >>> (nI k &&& 31) &&& nI 1 = nI (q_bt x k) := by
  have h : ∀ x : Fin 256, ∀ k : Fin 8, nI x.val >>> (nI k.val &&& 31) &&& nI 1 = nI (q_bt x.val k.val) := by decide +kernel
  exact h ⟨x, hx⟩ ⟨k, hk⟩
def q_z (f : Nat → Nat) (n : Nat) : Nat → Nat := fun j => if j < n then 0 else f j
theorem q_z_s (f : Nat → Nat) (n : Nat) : t_up (q_z f n) n 0 = q_z f (n + 1) := by
  funext j
  unfold t_up q_z
  by_cases h : j = n
  · rw [if_pos h, if_pos (by omega)]
  · rw [if_neg h]
    by_cases h2 : j < n
    · rw [if_pos h2, if_pos (by omega)]
    · rw [if_neg h2, if_neg (by omega)]
theorem q_z_0 (f : Nat → Nat) : q_z f 0 = f := by
  funext j
  exact if_neg (Nat.not_lt_zero _)
noncomputable def q_fo (E : Nat → Prop) (s : q_S) (f : Nat → Nat) : Nat → (Nat → Nat)
  | 0 => f
  | i + 1 => haveI := Classical.propDecidable (E i); if E i then t_up (q_fo E s f i) (s.2.2.1 i) (q_fo E s f i (s.2.2.1 i) ||| 2 ^ (s.2.1 i)) else q_fo E s f i
theorem q_fo_y {E : Nat → Prop} {s : q_S} {f : Nat → Nat} {i : Nat} (h : E i) : q_fo E s f (i + 1) = t_up (q_fo E s f i) (s.2.2.1 i) (q_fo E s f i (s.2.2.1 i) ||| 2 ^ (s.2.1 i)) := if_pos h
theorem q_fo_n {E : Nat → Prop} {s : q_S} {f : Nat → Nat} {i : Nat} (h : ¬ E i) : q_fo E s f (i + 1) = q_fo E s f i := if_neg h
theorem q_wi {d x w : Nat} (hd : d ≤ 399) (hx : x ≤ 399) (hw : w < 1000) : (nI 1 ≤ nI d - nI x ∧ nI d - nI x ≤ nI w) ↔ x < d ∧ d ≤ x + w := by
  have h1 := pk_sub_toInt (a := d) (b := x) (by omega) (by omega)
  rw [Int32.le_iff_toInt_le, Int32.le_iff_toInt_le, h1, nI_toInt (show 1 < 2 ^ 31 by decide), nI_toInt (show w < 2 ^ 31 by omega)]
  omega
set_option maxRecDepth 100000 in
theorem k_X7_size {ev : mv_E} {h : mv_H} {s : q_S} {rc : Nat} (HS : h[22]? = some (.inr (7, [.ref 1, .ref 23, .ref 24, .ref 25, .ref 26, .int (nI s.1), .ref 27, .ref 28, .ref 29, .ref 30, .int (nI rc), .ref 31])))  : mv_K ev mX7_size [.ref 22] h (some (.int (nI s.1))) h := by
  refine mv_Kof ?_
  show mv_g ev mX7_size 0 [.ref 22] [] h _
  refine mv_aload_n dX7_size_0 rfl ?_
  refine mv_getf (ci := 7) (f := 5) dX7_size_1 HS rfl (by decide) wd_209 rfl ?_
  exact mv_iret dX7_size_4 rfl rfl ⟨rfl, rfl⟩
set_option maxRecDepth 100000 in
theorem k_X7_rainyDays {ev : mv_E} {h : mv_H} {s : q_S} {rc : Nat} (HS : h[22]? = some (.inr (7, [.ref 1, .ref 23, .ref 24, .ref 25, .ref 26, .int (nI s.1), .ref 27, .ref 28, .ref 29, .ref 30, .int (nI rc), .ref 31])))  : mv_K ev mX7_rainyDays [.ref 22] h (some (.int (nI rc))) h := by
  refine mv_Kof ?_
  show mv_g ev mX7_rainyDays 0 [.ref 22] [] h _
  refine mv_aload_n dX7_rainyDays_0 rfl ?_
  refine mv_getf (ci := 7) (f := 10) dX7_rainyDays_1 HS rfl (by decide) wd_214 rfl ?_
  exact mv_iret dX7_rainyDays_4 rfl rfl ⟨rfl, rfl⟩
set_option maxRecDepth 100000 in
theorem k_X7_isFull {ev : mv_E} {h : mv_H} {s : q_S} {rc : Nat} (HS : h[22]? = some (.inr (7, [.ref 1, .ref 23, .ref 24, .ref 25, .ref 26, .int (nI s.1), .ref 27, .ref 28, .ref 29, .ref 30, .int (nI rc), .ref 31]))) (hn : s.1 ≤ 100) : mv_K ev mX7_isFull [.ref 22] h (some (.int (mv_b (100 ≤ s.1)))) h := by
  refine mv_Kof ?_
  show mv_g ev mX7_isFull 0 [.ref 22] [] h _
  refine mv_aload_n dX7_isFull_0 rfl ?_
  refine mv_getf (ci := 7) (f := 5) dX7_isFull_1 HS rfl (by decide) wd_209 rfl ?_
  refine mv_bipush (v := nI 100) dX7_isFull_4 (by decide) ?_
  refine mv_icmp_lt (tgt := 13) dX7_isFull_6 (by decide) (fun c6 => ?_) (fun c6 => ?_)
  · have c6 : s.1 < 100 := (nI_ltI (by omega) (by omega)).mp c6
    refine mv_iconst (v := nI 0) dX7_isFull_13 (by decide) ?_
    exact mv_iret dX7_isFull_14 rfl rfl ⟨(congrArg (fun z => some (Value.int z)) (by first | exact (mv_b_t (by omega)).symm | exact (mv_b_f (by omega)).symm)), rfl⟩
  · have c6 : ¬ (s.1 < 100) := fun z => c6 ((nI_ltI (by omega) (by omega)).mpr z)
    refine mv_iconst (v := nI 1) dX7_isFull_9 (by decide) ?_
    refine mv_goto (tgt := 14) dX7_isFull_10 (by decide) ?_
    exact mv_iret dX7_isFull_14 rfl rfl ⟨(congrArg (fun z => some (Value.int z)) (by first | exact (mv_b_t (by omega)).symm | exact (mv_b_f (by omega)).symm)), rfl⟩
set_option maxRecDepth 100000 in
theorem k_X7_hasI {ev : mv_E} {h : mv_H} {s : q_S} {rc : Nat} {k : Int32} (HS : h[22]? = some (.inr (7, [.ref 1, .ref 23, .ref 24, .ref 25, .ref 26, .int (nI s.1), .ref 27, .ref 28, .ref 29, .ref 30, .int (nI rc), .ref 31])))  : mv_K ev mX7_has [.ref 22, .int k] h (some (.int (mv_b (0 ≤ k ∧ k < nI s.1 ∧ k < nI 100)))) h := by
  refine mv_Kof ?_
  show mv_g ev mX7_has 0 [.ref 22, .int k] [] h _
  refine mv_iload_n dX7_has_0 rfl ?_
  refine mv_if_lt (tgt := 22) dX7_has_1 (by decide) (fun c1 => ?_) (fun c1 => ?_)
  · skip
    refine mv_iconst (v := nI 0) dX7_has_22 (by decide) ?_
    exact mv_iret dX7_has_23 rfl rfl ⟨(congrArg (fun z => some (Value.int z)) (by first | exact (mv_b_t ⟨Int32.not_lt.mp c1, Int32.not_le.mp c9, Int32.not_le.mp c15⟩).symm | exact (mv_b_f (fun z => absurd z.1 (Int32.not_le.mpr c1))).symm | exact (mv_b_f (fun z => absurd z.2.1 (Int32.not_lt.mpr c9))).symm | exact (mv_b_f (fun z => absurd z.2.2 (Int32.not_lt.mpr c15))).symm)), rfl⟩
  · skip
    refine mv_iload_n dX7_has_4 rfl ?_
    refine mv_aload_n dX7_has_5 rfl ?_
    refine mv_getf (ci := 7) (f := 5) dX7_has_6 HS rfl (by decide) wd_209 rfl ?_
    refine mv_icmp_ge (tgt := 22) dX7_has_9 (by decide) (fun c9 => ?_) (fun c9 => ?_)
    · skip
      refine mv_iconst (v := nI 0) dX7_has_22 (by decide) ?_
      exact mv_iret dX7_has_23 rfl rfl ⟨(congrArg (fun z => some (Value.int z)) (by first | exact (mv_b_t ⟨Int32.not_lt.mp c1, Int32.not_le.mp c9, Int32.not_le.mp c15⟩).symm | exact (mv_b_f (fun z => absurd z.1 (Int32.not_le.mpr c1))).symm | exact (mv_b_f (fun z => absurd z.2.1 (Int32.not_lt.mpr c9))).symm | exact (mv_b_f (fun z => absurd z.2.2 (Int32.not_lt.mpr c15))).symm)), rfl⟩
    · skip
      refine mv_iload_n dX7_has_12 rfl ?_
      refine mv_bipush (v := nI 100) dX7_has_13 (by decide) ?_
      refine mv_icmp_ge (tgt := 22) dX7_has_15 (by decide) (fun c15 => ?_) (fun c15 => ?_)
      · skip
        refine mv_iconst (v := nI 0) dX7_has_22 (by decide) ?_
        exact mv_iret dX7_has_23 rfl rfl ⟨(congrArg (fun z => some (Value.int z)) (by first | exact (mv_b_t ⟨Int32.not_lt.mp c1, Int32.not_le.mp c9, Int32.not_le.mp c15⟩).symm | exact (mv_b_f (fun z => absurd z.1 (Int32.not_le.mpr c1))).symm | exact (mv_b_f (fun z => absurd z.2.1 (Int32.not_lt.mpr c9))).symm | exact (mv_b_f (fun z => absurd z.2.2 (Int32.not_lt.mpr c15))).symm)), rfl⟩
      · skip
        refine mv_iconst (v := nI 1) dX7_has_18 (by decide) ?_
        refine mv_goto (tgt := 23) dX7_has_19 (by decide) ?_
        exact mv_iret dX7_has_23 rfl rfl ⟨(congrArg (fun z => some (Value.int z)) (by first | exact (mv_b_t ⟨Int32.not_lt.mp c1, Int32.not_le.mp c9, Int32.not_le.mp c15⟩).symm | exact (mv_b_f (fun z => absurd z.1 (Int32.not_le.mpr c1))).symm | exact (mv_b_f (fun z => absurd z.2.1 (Int32.not_lt.mpr c9))).symm | exact (mv_b_f (fun z => absurd z.2.2 (Int32.not_lt.mpr c15))).symm)), rfl⟩
set_option maxRecDepth 100000 in
theorem k_X7_has {ev : mv_E} {h : mv_H} {s : q_S} {rc : Nat} {k : Nat} (HS : h[22]? = some (.inr (7, [.ref 1, .ref 23, .ref 24, .ref 25, .ref 26, .int (nI s.1), .ref 27, .ref 28, .ref 29, .ref 30, .int (nI rc), .ref 31]))) (hk : k < s.1) (hn : s.1 ≤ 100) : mv_K ev mX7_has [.ref 22, .int (nI k)] h (some (.int (nI 1))) h := by
  refine mv_Kof ?_
  show mv_g ev mX7_has 0 [.ref 22, .int (nI k)] [] h _
  refine mv_iload_n dX7_has_0 rfl ?_
  refine mv_if_lt (tgt := 22) dX7_has_1 (by decide) (fun z => absurd z ((nI_pos (by omega)))) (fun c1 => ?_)
  refine mv_iload_n dX7_has_4 rfl ?_
  refine mv_aload_n dX7_has_5 rfl ?_
  refine mv_getf (ci := 7) (f := 5) dX7_has_6 HS rfl (by decide) wd_209 rfl ?_
  refine mv_icmp_ge (tgt := 22) dX7_has_9 (by decide) (fun z => absurd z ((fun z => absurd ((nI_leI (by omega) (by omega)).mp z) (by omega)))) (fun c9 => ?_)
  refine mv_iload_n dX7_has_12 rfl ?_
  refine mv_bipush (v := nI 100) dX7_has_13 (by decide) ?_
  refine mv_icmp_ge (tgt := 22) dX7_has_15 (by decide) (fun z => absurd z ((fun z => absurd ((nI_leI (by omega) (by omega)).mp z) (by omega)))) (fun c15 => ?_)
  refine mv_iconst (v := nI 1) dX7_has_18 (by decide) ?_
  refine mv_goto (tgt := 23) dX7_has_19 (by decide) ?_
  exact mv_iret dX7_has_23 rfl rfl ⟨rfl, rfl⟩
set_option maxRecDepth 100000 in
theorem k_X7_kindOf {ev : mv_E} {h : mv_H} {s : q_S} {rc : Nat} {k : Nat} (HS : h[22]? = some (.inr (7, [.ref 1, .ref 23, .ref 24, .ref 25, .ref 26, .int (nI s.1), .ref 27, .ref 28, .ref 29, .ref 30, .int (nI rc), .ref 31]))) (S23 : h[23]? = some (.inl (0, 100, .inl (fun j => nI (s.2.1 j))))) (hk : k < s.1) (hn : s.1 ≤ 100) : mv_K ev mX7_kindOf [.ref 22, .int (nI k)] h (some (.int (nI (s.2.1 k)))) h := by
  refine mv_Kof ?_
  show mv_g ev mX7_kindOf 0 [.ref 22, .int (nI k)] [] h _
  refine mv_aload_n dX7_kindOf_0 rfl ?_
  refine mv_iload_n dX7_kindOf_1 rfl ?_
  refine mv_cV1 (ci := 7) dX7_kindOf_2 lk_X7_kindOf_55 HS rfl (Nat.le_of_ble_eq_true rfl) (Nat.le_of_ble_eq_true rfl) (k_X7_has (ev := ev) HS (by omega) (by omega)) ?_
  refine mv_if_eq (tgt := 17) dX7_kindOf_5 (by decide) (fun z => absurd z ((by decide))) (fun c5 => ?_)
  refine mv_aload_n dX7_kindOf_8 rfl ?_
  refine mv_getf (ci := 7) (f := 1) dX7_kindOf_9 HS rfl (by decide) wd_205 rfl ?_
  refine mv_iload_n dX7_kindOf_12 rfl ?_
  refine mv_iaN (j := k) (x := nI (s.2.1 k)) dX7_kindOf_13 S23 rfl (by decide) (by omega) rfl ?_
  refine mv_goto (tgt := 18) dX7_kindOf_14 (by decide) ?_
  exact mv_iret dX7_kindOf_18 rfl rfl ⟨rfl, rfl⟩
set_option maxRecDepth 100000 in
theorem k_X7_dayOf {ev : mv_E} {h : mv_H} {s : q_S} {rc : Nat} {k : Nat} (HS : h[22]? = some (.inr (7, [.ref 1, .ref 23, .ref 24, .ref 25, .ref 26, .int (nI s.1), .ref 27, .ref 28, .ref 29, .ref 30, .int (nI rc), .ref 31]))) (S24 : h[24]? = some (.inl (0, 100, .inl (fun j => nI (s.2.2.1 j))))) (hk : k < s.1) (hn : s.1 ≤ 100) : mv_K ev mX7_dayOf [.ref 22, .int (nI k)] h (some (.int (nI (s.2.2.1 k)))) h := by
  refine mv_Kof ?_
  show mv_g ev mX7_dayOf 0 [.ref 22, .int (nI k)] [] h _
  refine mv_aload_n dX7_dayOf_0 rfl ?_
  refine mv_iload_n dX7_dayOf_1 rfl ?_
  refine mv_cV1 (ci := 7) dX7_dayOf_2 lk_X7_dayOf_55 HS rfl (Nat.le_of_ble_eq_true rfl) (Nat.le_of_ble_eq_true rfl) (k_X7_has (ev := ev) HS (by omega) (by omega)) ?_
  refine mv_if_eq (tgt := 17) dX7_dayOf_5 (by decide) (fun z => absurd z ((by decide))) (fun c5 => ?_)
  refine mv_aload_n dX7_dayOf_8 rfl ?_
  refine mv_getf (ci := 7) (f := 2) dX7_dayOf_9 HS rfl (by decide) wd_206 rfl ?_
  refine mv_iload_n dX7_dayOf_12 rfl ?_
  refine mv_iaN (j := k) (x := nI (s.2.2.1 k)) dX7_dayOf_13 S24 rfl (by decide) (by omega) rfl ?_
  refine mv_goto (tgt := 18) dX7_dayOf_14 (by decide) ?_
  exact mv_iret dX7_dayOf_18 rfl rfl ⟨rfl, rfl⟩
set_option maxRecDepth 100000 in
theorem k_X7_placeOf {ev : mv_E} {h : mv_H} {s : q_S} {rc : Nat} {k : Nat} (HS : h[22]? = some (.inr (7, [.ref 1, .ref 23, .ref 24, .ref 25, .ref 26, .int (nI s.1), .ref 27, .ref 28, .ref 29, .ref 30, .int (nI rc), .ref 31]))) (S25 : h[25]? = some (.inl (0, 100, .inl (fun j => nI (s.2.2.2.1 j))))) (hk : k < s.1) (hn : s.1 ≤ 100) : mv_K ev mX7_placeOf [.ref 22, .int (nI k)] h (some (.int (nI (s.2.2.2.1 k)))) h := by
  refine mv_Kof ?_
  show mv_g ev mX7_placeOf 0 [.ref 22, .int (nI k)] [] h _
  refine mv_aload_n dX7_placeOf_0 rfl ?_
  refine mv_iload_n dX7_placeOf_1 rfl ?_
  refine mv_cV1 (ci := 7) dX7_placeOf_2 lk_X7_placeOf_55 HS rfl (Nat.le_of_ble_eq_true rfl) (Nat.le_of_ble_eq_true rfl) (k_X7_has (ev := ev) HS (by omega) (by omega)) ?_
  refine mv_if_eq (tgt := 17) dX7_placeOf_5 (by decide) (fun z => absurd z ((by decide))) (fun c5 => ?_)
  refine mv_aload_n dX7_placeOf_8 rfl ?_
  refine mv_getf (ci := 7) (f := 3) dX7_placeOf_9 HS rfl (by decide) wd_207 rfl ?_
  refine mv_iload_n dX7_placeOf_12 rfl ?_
  refine mv_iaN (j := k) (x := nI (s.2.2.2.1 k)) dX7_placeOf_13 S25 rfl (by decide) (by omega) rfl ?_
  refine mv_goto (tgt := 18) dX7_placeOf_14 (by decide) ?_
  exact mv_iret dX7_placeOf_18 rfl rfl ⟨rfl, rfl⟩
set_option maxRecDepth 100000 in
theorem k_X7_writtenOf {ev : mv_E} {h : mv_H} {s : q_S} {rc : Nat} {k : Nat} (HS : h[22]? = some (.inr (7, [.ref 1, .ref 23, .ref 24, .ref 25, .ref 26, .int (nI s.1), .ref 27, .ref 28, .ref 29, .ref 30, .int (nI rc), .ref 31]))) (S26 : h[26]? = some (.inl (0, 100, .inl (fun j => nI (s.2.2.2.2 j))))) (hk : k < s.1) (hn : s.1 ≤ 100) : mv_K ev mX7_writtenOf [.ref 22, .int (nI k)] h (some (.int (nI (s.2.2.2.2 k)))) h := by
  refine mv_Kof ?_
  show mv_g ev mX7_writtenOf 0 [.ref 22, .int (nI k)] [] h _
  refine mv_aload_n dX7_writtenOf_0 rfl ?_
  refine mv_iload_n dX7_writtenOf_1 rfl ?_
  refine mv_cV1 (ci := 7) dX7_writtenOf_2 lk_X7_writtenOf_55 HS rfl (Nat.le_of_ble_eq_true rfl) (Nat.le_of_ble_eq_true rfl) (k_X7_has (ev := ev) HS (by omega) (by omega)) ?_
  refine mv_if_eq (tgt := 17) dX7_writtenOf_5 (by decide) (fun z => absurd z ((by decide))) (fun c5 => ?_)
  refine mv_aload_n dX7_writtenOf_8 rfl ?_
  refine mv_getf (ci := 7) (f := 4) dX7_writtenOf_9 HS rfl (by decide) wd_208 rfl ?_
  refine mv_iload_n dX7_writtenOf_12 rfl ?_
  refine mv_iaN (j := k) (x := nI (s.2.2.2.2 k)) dX7_writtenOf_13 S26 rfl (by decide) (by omega) rfl ?_
  refine mv_goto (tgt := 18) dX7_writtenOf_14 (by decide) ?_
  exact mv_iret dX7_writtenOf_18 rfl rfl ⟨rfl, rfl⟩
set_option maxRecDepth 100000 in
theorem k_X7_write {ev : mv_E} {h : mv_H} {s : q_S} {rc : Nat} {k : Nat} {d : Nat} {p : Nat} {w : Nat} (HS : h[22]? = some (.inr (7, [.ref 1, .ref 23, .ref 24, .ref 25, .ref 26, .int (nI s.1), .ref 27, .ref 28, .ref 29, .ref 30, .int (nI rc), .ref 31]))) (S23 : h[23]? = some (.inl (0, 100, .inl (fun j => nI (s.2.1 j))))) (S24 : h[24]? = some (.inl (0, 100, .inl (fun j => nI (s.2.2.1 j))))) (S25 : h[25]? = some (.inl (0, 100, .inl (fun j => nI (s.2.2.2.1 j))))) (S26 : h[26]? = some (.inl (0, 100, .inl (fun j => nI (s.2.2.2.2 j))))) (hn : s.1 < 100) : ∃ h2, mv_K ev mX7_write [.ref 22, .int (nI k), .int (nI d), .int (nI p), .int (nI w)] h (some (.int (nI s.1))) h2 ∧ mv_fra [22, 23, 24, 25, 26] h h2 ∧ h2[22]? = some (.inr (7, [.ref 1, .ref 23, .ref 24, .ref 25, .ref 26, .int (nI (q_sw s k d p w).1), .ref 27, .ref 28, .ref 29, .ref 30, .int (nI rc), .ref 31])) ∧ h2[23]? = some (.inl (0, 100, .inl (fun j => nI ((q_sw s k d p w).2.1 j)))) ∧ h2[24]? = some (.inl (0, 100, .inl (fun j => nI ((q_sw s k d p w).2.2.1 j)))) ∧ h2[25]? = some (.inl (0, 100, .inl (fun j => nI ((q_sw s k d p w).2.2.2.1 j)))) ∧ h2[26]? = some (.inl (0, 100, .inl (fun j => nI ((q_sw s k d p w).2.2.2.2 j)))) := by
  suffices g0 : mv_g ev mX7_write 0 (mv_ent [.ref 22, .int (nI k), .int (nI d), .int (nI p), .int (nI w)] (mv_ml mX7_write)) [] h (fun r g => r = some (.int (nI s.1)) ∧ mv_fra [22, 23, 24, 25, 26] h g ∧ g[22]? = some (.inr (7, [.ref 1, .ref 23, .ref 24, .ref 25, .ref 26, .int (nI (q_sw s k d p w).1), .ref 27, .ref 28, .ref 29, .ref 30, .int (nI rc), .ref 31])) ∧ g[23]? = some (.inl (0, 100, .inl (fun j => nI ((q_sw s k d p w).2.1 j)))) ∧ g[24]? = some (.inl (0, 100, .inl (fun j => nI ((q_sw s k d p w).2.2.1 j)))) ∧ g[25]? = some (.inl (0, 100, .inl (fun j => nI ((q_sw s k d p w).2.2.2.1 j)))) ∧ g[26]? = some (.inl (0, 100, .inl (fun j => nI ((q_sw s k d p w).2.2.2.2 j))))) from (by obtain ⟨r0, h0, K0, q0, Q0⟩ := mv_Kex g0; subst q0; exact ⟨h0, K0, Q0⟩)
  show mv_g ev mX7_write 0 [.ref 22, .int (nI k), .int (nI d), .int (nI p), .int (nI w)] [] h _
  have fr : mv_fra [22, 23, 24, 25, 26] h h := mv_fra.rf
  refine mv_aload_n dX7_write_0 rfl ?_
  refine mv_getf (ci := 7) (f := 5) dX7_write_1 HS rfl (by decide) wd_209 rfl ?_
  refine mv_if_lt (tgt := 14) dX7_write_4 (by decide) (fun z => absurd z ((nI_pos (by omega)))) (fun c4 => ?_)
  refine mv_aload_n dX7_write_7 rfl ?_
  refine mv_cV0 (ci := 7) dX7_write_8 lk_X7_write_51 HS rfl (Nat.le_of_ble_eq_true rfl) (Nat.le_of_ble_eq_true rfl) (k_X7_isFull (ev := ev) HS (by omega)) ?_
  refine mv_if_eq (tgt := 16) dX7_write_11 (by decide) (fun c11 => ?_) (fun z => absurd (((mv_b_0 _).mpr (by omega))) z)
  refine mv_aload_n dX7_write_16 rfl ?_
  refine mv_getf (ci := 7) (f := 1) dX7_write_17 HS rfl (by decide) wd_205 rfl ?_
  refine mv_aload_n dX7_write_20 rfl ?_
  refine mv_getf (ci := 7) (f := 5) dX7_write_21 HS rfl (by decide) wd_209 rfl ?_
  refine mv_iload_n dX7_write_24 rfl ?_
  refine mv_iastN (j := s.1) dX7_write_25 S23 rfl (by decide) (by omega) (fun h1 e2 => ?_)
  rw [upd_nI] at e2
  have HS := mv_ne e2 (by decide) HS
  have S23 : h1[23]? = some (.inl (0, 100, .inl (fun j => nI (t_up s.2.1 s.1 k j)))) := mv_eq e2 S23
  have S24 := mv_ne e2 (by decide) S24
  have S25 := mv_ne e2 (by decide) S25
  have S26 := mv_ne e2 (by decide) S26
  have fr := fr.set e2 (by decide)
  clear e2
  refine mv_aload_n dX7_write_26 rfl ?_
  refine mv_getf (ci := 7) (f := 2) dX7_write_27 HS rfl (by decide) wd_206 rfl ?_
  refine mv_aload_n dX7_write_30 rfl ?_
  refine mv_getf (ci := 7) (f := 5) dX7_write_31 HS rfl (by decide) wd_209 rfl ?_
  refine mv_iload_n dX7_write_34 rfl ?_
  refine mv_iastN (j := s.1) dX7_write_35 S24 rfl (by decide) (by omega) (fun h3 e4 => ?_)
  rw [upd_nI] at e4
  have HS := mv_ne e4 (by decide) HS
  have S23 := mv_ne e4 (by decide) S23
  have S24 : h3[24]? = some (.inl (0, 100, .inl (fun j => nI (t_up s.2.2.1 s.1 d j)))) := mv_eq e4 S24
  have S25 := mv_ne e4 (by decide) S25
  have S26 := mv_ne e4 (by decide) S26
  have fr := fr.set e4 (by decide)
  clear e4
  refine mv_aload_n dX7_write_36 rfl ?_
  refine mv_getf (ci := 7) (f := 3) dX7_write_37 HS rfl (by decide) wd_207 rfl ?_
  refine mv_aload_n dX7_write_40 rfl ?_
  refine mv_getf (ci := 7) (f := 5) dX7_write_41 HS rfl (by decide) wd_209 rfl ?_
  refine mv_iload_n dX7_write_44 rfl ?_
  refine mv_iastN (j := s.1) dX7_write_45 S25 rfl (by decide) (by omega) (fun h5 e6 => ?_)
  rw [upd_nI] at e6
  have HS := mv_ne e6 (by decide) HS
  have S23 := mv_ne e6 (by decide) S23
  have S24 := mv_ne e6 (by decide) S24
  have S25 : h5[25]? = some (.inl (0, 100, .inl (fun j => nI (t_up s.2.2.2.1 s.1 p j)))) := mv_eq e6 S25
  have S26 := mv_ne e6 (by decide) S26
  have fr := fr.set e6 (by decide)
  clear e6
  refine mv_aload_n dX7_write_46 rfl ?_
  refine mv_getf (ci := 7) (f := 4) dX7_write_47 HS rfl (by decide) wd_208 rfl ?_
  refine mv_aload_n dX7_write_50 rfl ?_
  refine mv_getf (ci := 7) (f := 5) dX7_write_51 HS rfl (by decide) wd_209 rfl ?_
  refine mv_iload dX7_write_54 rfl ?_
  refine mv_iastN (j := s.1) dX7_write_56 S26 rfl (by decide) (by omega) (fun h7 e8 => ?_)
  rw [upd_nI] at e8
  have HS := mv_ne e8 (by decide) HS
  have S23 := mv_ne e8 (by decide) S23
  have S24 := mv_ne e8 (by decide) S24
  have S25 := mv_ne e8 (by decide) S25
  have S26 : h7[26]? = some (.inl (0, 100, .inl (fun j => nI (t_up s.2.2.2.2 s.1 w j)))) := mv_eq e8 S26
  have fr := fr.set e8 (by decide)
  clear e8
  refine mv_aload_n dX7_write_57 rfl ?_
  refine mv_dup dX7_write_58 rfl ?_
  refine mv_getf (ci := 7) (f := 5) dX7_write_59 HS rfl (by decide) wd_209 rfl ?_
  refine mv_iconst (v := nI 1) dX7_write_62 (by decide) ?_
  refine mv_iadd dX7_write_63 ?_
  refine mv_topI (y := nI (s.1 + 1)) (nI_add _ _) ?_
  refine mv_putf (ci := 7) (f := 5) dX7_write_64 HS rfl (by decide) wd_209 rfl rfl (fun _ => ⟨rfl, rfl⟩) (Nat.le_of_ble_eq_true rfl) ?_
  refine mv_topH (fun h9 e10 => ?_)
  have HS : h9[22]? = some (.inr (7, [.ref 1, .ref 23, .ref 24, .ref 25, .ref 26, .int (nI (s.1 + 1)), .ref 27, .ref 28, .ref 29, .ref 30, .int (nI rc), .ref 31])) := mv_eq e10 HS
  have S23 := mv_ne e10 (by decide) S23
  have S24 := mv_ne e10 (by decide) S24
  have S25 := mv_ne e10 (by decide) S25
  have S26 := mv_ne e10 (by decide) S26
  have fr := fr.set e10 (by decide)
  clear e10
  refine mv_aload_n dX7_write_67 rfl ?_
  refine mv_getf (ci := 7) (f := 5) dX7_write_68 HS rfl (by decide) wd_209 rfl ?_
  refine mv_iconst (v := nI 1) dX7_write_71 (by decide) ?_
  refine mv_isub dX7_write_72 ?_
  refine mv_topI (y := nI s.1) (by rw [pk_sub (by omega)]; exact congrArg nI (by omega)) ?_
  exact mv_iret dX7_write_73 rfl rfl ⟨rfl, fr, HS, S23, S24, S25, S26⟩
set_option maxRecDepth 100000 in
theorem k_X7_isCounted {ev : mv_E} {h : mv_H} {s : q_S} {cf : Nat → Int32} {rc : Nat} {k : Nat} (HS : h[22]? = some (.inr (7, [.ref 1, .ref 23, .ref 24, .ref 25, .ref 26, .int (nI s.1), .ref 27, .ref 28, .ref 29, .ref 30, .int (nI rc), .ref 31]))) (S28 : h[28]? = some (.inl (0, 8, .inl cf))) (hk : k < 8) : mv_K ev mX7_isCounted [.ref 22, .int (nI k)] h (some (.int (mv_b (cf k ≠ -1)))) h := by
  refine mv_Kof ?_
  show mv_g ev mX7_isCounted 0 [.ref 22, .int (nI k)] [] h _
  refine mv_iload_n dX7_isCounted_0 rfl ?_
  refine mv_cSN1 dX7_isCounted_1 lk_X7_isCounted_59 (Nat.le_of_ble_eq_true rfl) (Nat.le_of_ble_eq_true rfl) (k_X11_isKind (ev := ev)) ?_
  refine mv_if_eq (tgt := 21) dX7_isCounted_4 (by decide) (fun z => absurd z ((fun z => (mv_b_0 _).mp z (mv_in_i (by omega) (by omega) (by omega))))) (fun c4 => ?_)
  refine mv_aload_n dX7_isCounted_7 rfl ?_
  refine mv_getf (ci := 7) (f := 7) dX7_isCounted_8 HS rfl (by decide) wd_211 rfl ?_
  refine mv_iload_n dX7_isCounted_11 rfl ?_
  refine mv_iaN (j := k) (x := cf k) dX7_isCounted_12 S28 rfl (by decide) (by omega) rfl ?_
  refine mv_iconst (v := (-1)) dX7_isCounted_13 (by decide) ?_
  refine mv_icmp_eq (tgt := 21) dX7_isCounted_14 (by decide) (fun c14 => ?_) (fun c14 => ?_)
  · skip
    refine mv_iconst (v := nI 0) dX7_isCounted_21 (by decide) ?_
    exact mv_iret dX7_isCounted_22 rfl rfl ⟨(congrArg (fun z => some (Value.int z)) (by first | exact (mv_b_t c14).symm | exact (mv_b_f (fun z => z c14)).symm)), rfl⟩
  · skip
    refine mv_iconst (v := nI 1) dX7_isCounted_17 (by decide) ?_
    refine mv_goto (tgt := 22) dX7_isCounted_18 (by decide) ?_
    exact mv_iret dX7_isCounted_22 rfl rfl ⟨(congrArg (fun z => some (Value.int z)) (by first | exact (mv_b_t c14).symm | exact (mv_b_f (fun z => z c14)).symm)), rfl⟩
set_option maxRecDepth 100000 in
theorem k_X7_firstCounted {ev : mv_E} {h : mv_H} {s : q_S} {cf : Nat → Int32} {rc : Nat} {k : Nat} (HS : h[22]? = some (.inr (7, [.ref 1, .ref 23, .ref 24, .ref 25, .ref 26, .int (nI s.1), .ref 27, .ref 28, .ref 29, .ref 30, .int (nI rc), .ref 31]))) (S28 : h[28]? = some (.inl (0, 8, .inl cf))) (hk : k < 8) : mv_K ev mX7_firstCounted [.ref 22, .int (nI k)] h (some (.int (cf k))) h := by
  refine mv_Kof ?_
  show mv_g ev mX7_firstCounted 0 [.ref 22, .int (nI k)] [] h _
  refine mv_iload_n dX7_firstCounted_0 rfl ?_
  refine mv_cSN1 dX7_firstCounted_1 lk_X7_firstCounted_59 (Nat.le_of_ble_eq_true rfl) (Nat.le_of_ble_eq_true rfl) (k_X11_isKind (ev := ev)) ?_
  refine mv_if_eq (tgt := 16) dX7_firstCounted_4 (by decide) (fun z => absurd z ((fun z => (mv_b_0 _).mp z (mv_in_i (by omega) (by omega) (by omega))))) (fun c4 => ?_)
  refine mv_aload_n dX7_firstCounted_7 rfl ?_
  refine mv_getf (ci := 7) (f := 7) dX7_firstCounted_8 HS rfl (by decide) wd_211 rfl ?_
  refine mv_iload_n dX7_firstCounted_11 rfl ?_
  refine mv_iaN (j := k) (x := cf k) dX7_firstCounted_12 S28 rfl (by decide) (by omega) rfl ?_
  refine mv_goto (tgt := 17) dX7_firstCounted_13 (by decide) ?_
  exact mv_iret dX7_firstCounted_17 rfl rfl ⟨rfl, rfl⟩
set_option maxRecDepth 100000 in
theorem k_X7_lastCounted {ev : mv_E} {h : mv_H} {s : q_S} {cf : Nat → Int32} {ct : Nat → Int32} {rc : Nat} {k : Nat} (HS : h[22]? = some (.inr (7, [.ref 1, .ref 23, .ref 24, .ref 25, .ref 26, .int (nI s.1), .ref 27, .ref 28, .ref 29, .ref 30, .int (nI rc), .ref 31]))) (S28 : h[28]? = some (.inl (0, 8, .inl cf))) (S29 : h[29]? = some (.inl (0, 8, .inl ct))) (hk : k < 8) (hc : cf k ≠ -1) : mv_K ev mX7_lastCounted [.ref 22, .int (nI k)] h (some (.int (ct k))) h := by
  refine mv_Kof ?_
  show mv_g ev mX7_lastCounted 0 [.ref 22, .int (nI k)] [] h _
  refine mv_aload_n dX7_lastCounted_0 rfl ?_
  refine mv_iload_n dX7_lastCounted_1 rfl ?_
  refine mv_cV1 (ci := 7) dX7_lastCounted_2 lk_X7_lastCounted_66 HS rfl (Nat.le_of_ble_eq_true rfl) (Nat.le_of_ble_eq_true rfl) (k_X7_isCounted (ev := ev) HS S28 (by omega)) ?_
  refine mv_if_eq (tgt := 17) dX7_lastCounted_5 (by decide) (fun z => absurd z ((fun z => (mv_b_0 _).mp z hc))) (fun c5 => ?_)
  refine mv_aload_n dX7_lastCounted_8 rfl ?_
  refine mv_getf (ci := 7) (f := 8) dX7_lastCounted_9 HS rfl (by decide) wd_212 rfl ?_
  refine mv_iload_n dX7_lastCounted_12 rfl ?_
  refine mv_iaN (j := k) (x := ct k) dX7_lastCounted_13 S29 rfl (by decide) (by omega) rfl ?_
  refine mv_goto (tgt := 18) dX7_lastCounted_14 (by decide) ?_
  exact mv_iret dX7_lastCounted_18 rfl rfl ⟨rfl, rfl⟩
set_option maxRecDepth 100000 in
theorem k_X7_watchPlace {ev : mv_E} {h : mv_H} {s : q_S} {wa : Nat → Nat} {rc : Nat} {k : Nat} (HS : h[22]? = some (.inr (7, [.ref 1, .ref 23, .ref 24, .ref 25, .ref 26, .int (nI s.1), .ref 27, .ref 28, .ref 29, .ref 30, .int (nI rc), .ref 31]))) (S27 : h[27]? = some (.inl (0, 8, .inl (fun j => nI (wa j))))) (hk : k < 8) : mv_K ev mX7_watchPlace [.ref 22, .int (nI k)] h (some (.int (nI (wa k)))) h := by
  refine mv_Kof ?_
  show mv_g ev mX7_watchPlace 0 [.ref 22, .int (nI k)] [] h _
  refine mv_iload_n dX7_watchPlace_0 rfl ?_
  refine mv_cSN1 dX7_watchPlace_1 lk_X7_watchPlace_59 (Nat.le_of_ble_eq_true rfl) (Nat.le_of_ble_eq_true rfl) (k_X11_isKind (ev := ev)) ?_
  refine mv_if_eq (tgt := 16) dX7_watchPlace_4 (by decide) (fun z => absurd z ((fun z => (mv_b_0 _).mp z (mv_in_i (by omega) (by omega) (by omega))))) (fun c4 => ?_)
  refine mv_aload_n dX7_watchPlace_7 rfl ?_
  refine mv_getf (ci := 7) (f := 6) dX7_watchPlace_8 HS rfl (by decide) wd_210 rfl ?_
  refine mv_iload_n dX7_watchPlace_11 rfl ?_
  refine mv_iaN (j := k) (x := nI (wa k)) dX7_watchPlace_12 S27 rfl (by decide) (by omega) rfl ?_
  refine mv_goto (tgt := 17) dX7_watchPlace_13 (by decide) ?_
  exact mv_iret dX7_watchPlace_17 rfl rfl ⟨rfl, rfl⟩
set_option maxRecDepth 100000 in
theorem k_X7_countedDays {ev : mv_E} {h : mv_H} {s : q_S} {wa : Nat → Nat} {cf : Nat → Int32} {ct : Nat → Int32} {rc : Nat} {k : Nat} (HS : h[22]? = some (.inr (7, [.ref 1, .ref 23, .ref 24, .ref 25, .ref 26, .int (nI s.1), .ref 27, .ref 28, .ref 29, .ref 30, .int (nI rc), .ref 31]))) (S28 : h[28]? = some (.inl (0, 8, .inl cf))) (S29 : h[29]? = some (.inl (0, 8, .inl ct))) (hk : k < 8) (hwi : q_WI wa cf ct) : mv_K ev mX7_countedDays [.ref 22, .int (nI k)] h (some (.int (nI (q_cd cf ct k)))) h := by
  refine mv_Kof ?_
  show mv_g ev mX7_countedDays 0 [.ref 22, .int (nI k)] [] h _
  refine mv_aload_n dX7_countedDays_0 rfl ?_
  refine mv_iload_n dX7_countedDays_1 rfl ?_
  refine mv_cV1 (ci := 7) dX7_countedDays_2 lk_X7_countedDays_66 HS rfl (Nat.le_of_ble_eq_true rfl) (Nat.le_of_ble_eq_true rfl) (k_X7_isCounted (ev := ev) HS S28 (by omega)) ?_
  refine mv_if_eq (tgt := 26) dX7_countedDays_5 (by decide) (fun c5 => ?_) (fun c5 => ?_)
  · have c5 : ¬ (cf k ≠ -1) := (mv_b_0 _).mp c5
    refine mv_iconst (v := nI 0) dX7_countedDays_26 (by decide) ?_
    exact mv_iret dX7_countedDays_27 rfl rfl ⟨(congrArg (fun z => some (Value.int z)) (by first | rfl | exact congrArg nI (q_cd_0 (Classical.not_not.mp c5)).symm)), rfl⟩
  · have c5 : cf k ≠ -1 := Classical.byContradiction (fun z => c5 ((mv_b_0 _).mpr z))
    refine mv_aload_n dX7_countedDays_8 rfl ?_
    refine mv_getf (ci := 7) (f := 8) dX7_countedDays_9 HS rfl (by decide) wd_212 rfl ?_
    refine mv_iload_n dX7_countedDays_12 rfl ?_
    refine mv_iaN (j := k) (x := ct k) dX7_countedDays_13 S29 rfl (by decide) (by omega) rfl ?_
    refine mv_aload_n dX7_countedDays_14 rfl ?_
    refine mv_getf (ci := 7) (f := 7) dX7_countedDays_15 HS rfl (by decide) wd_211 rfl ?_
    refine mv_iload_n dX7_countedDays_18 rfl ?_
    refine mv_iaN (j := k) (x := cf k) dX7_countedDays_19 S28 rfl (by decide) (by omega) rfl ?_
    refine mv_isub dX7_countedDays_20 ?_
    refine mv_iconst (v := nI 1) dX7_countedDays_21 (by decide) ?_
    refine mv_iadd dX7_countedDays_22 ?_
    refine mv_topI (y := nI (q_cd cf ct k)) (q_cd_c hwi c5) ?_
    refine mv_goto (tgt := 27) dX7_countedDays_23 (by decide) ?_
    exact mv_iret dX7_countedDays_27 rfl rfl ⟨(congrArg (fun z => some (Value.int z)) (by first | rfl | exact congrArg nI (q_cd_0 (Classical.not_not.mp c5)).symm)), rfl⟩
set_option maxRecDepth 100000 in
theorem k_X7_watchKind {ev : mv_E} {h : mv_H} {s : q_S} {wa : Nat → Nat} {cf : Nat → Int32} {ct : Nat → Int32} {rc : Nat} {k : Nat} {p : Nat} {a : Int32} {c : Int32} (HS : h[22]? = some (.inr (7, [.ref 1, .ref 23, .ref 24, .ref 25, .ref 26, .int (nI s.1), .ref 27, .ref 28, .ref 29, .ref 30, .int (nI rc), .ref 31]))) (S27 : h[27]? = some (.inl (0, 8, .inl (fun j => nI (wa j))))) (S28 : h[28]? = some (.inl (0, 8, .inl cf))) (S29 : h[29]? = some (.inl (0, 8, .inl ct))) (hk : k < 8) (hwi : q_WI wa cf ct) : ∃ h2, mv_K ev mX7_watchKind [.ref 22, .int (nI k), .int (nI p), .int a, .int c] h (some (.int (nI (q_cd cf ct k)))) h2 ∧ mv_fra [27, 28, 29] h h2 ∧ h2[27]? = some (.inl (0, 8, .inl (fun j => nI ((t_up wa k p) j)))) ∧ h2[28]? = some (.inl (0, 8, .inl (upd cf k a))) ∧ h2[29]? = some (.inl (0, 8, .inl (upd ct k c))) := by
  suffices g0 : mv_g ev mX7_watchKind 0 (mv_ent [.ref 22, .int (nI k), .int (nI p), .int a, .int c] (mv_ml mX7_watchKind)) [] h (fun r g => r = some (.int (nI (q_cd cf ct k))) ∧ mv_fra [27, 28, 29] h g ∧ g[27]? = some (.inl (0, 8, .inl (fun j => nI ((t_up wa k p) j)))) ∧ g[28]? = some (.inl (0, 8, .inl (upd cf k a))) ∧ g[29]? = some (.inl (0, 8, .inl (upd ct k c)))) from (by obtain ⟨r0, h0, K0, q0, Q0⟩ := mv_Kex g0; subst q0; exact ⟨h0, K0, Q0⟩)
  show mv_g ev mX7_watchKind 0 [.ref 22, .int (nI k), .int (nI p), .int a, .int c, .null] [] h _
  have fr : mv_fra [27, 28, 29] h h := mv_fra.rf
  refine mv_iload_n dX7_watchKind_0 rfl ?_
  refine mv_cSN1 dX7_watchKind_1 lk_X7_watchKind_59 (Nat.le_of_ble_eq_true rfl) (Nat.le_of_ble_eq_true rfl) (k_X11_isKind (ev := ev)) ?_
  refine mv_if_ne (tgt := 9) dX7_watchKind_4 (by decide) (fun c4 => ?_) (fun z => absurd z ((fun z => (mv_b_0 _).mp z (mv_in_i (by omega) (by omega) (by omega)))))
  refine mv_aload_n dX7_watchKind_9 rfl ?_
  refine mv_iload_n dX7_watchKind_10 rfl ?_
  refine mv_cV1 (ci := 7) dX7_watchKind_11 lk_X7_watchKind_62 HS rfl (Nat.le_of_ble_eq_true rfl) (Nat.le_of_ble_eq_true rfl) (k_X7_countedDays (ev := ev) HS S28 S29 hk hwi) ?_
  refine mv_istore dX7_watchKind_14 (by decide) ?_
  refine mv_aload_n dX7_watchKind_16 rfl ?_
  refine mv_getf (ci := 7) (f := 6) dX7_watchKind_17 HS rfl (by decide) wd_210 rfl ?_
  refine mv_iload_n dX7_watchKind_20 rfl ?_
  refine mv_iload_n dX7_watchKind_21 rfl ?_
  refine mv_iastN (j := k) dX7_watchKind_22 S27 rfl (by decide) (by omega) (fun h1 e2 => ?_)
  rw [upd_nI] at e2
  have HS := mv_ne e2 (by decide) HS
  have S27 : h1[27]? = some (.inl (0, 8, .inl (fun j => nI (t_up wa k p j)))) := mv_eq e2 S27
  have S28 := mv_ne e2 (by decide) S28
  have S29 := mv_ne e2 (by decide) S29
  have fr := fr.set e2 (by decide)
  clear e2
  refine mv_aload_n dX7_watchKind_23 rfl ?_
  refine mv_getf (ci := 7) (f := 7) dX7_watchKind_24 HS rfl (by decide) wd_211 rfl ?_
  refine mv_iload_n dX7_watchKind_27 rfl ?_
  refine mv_iload_n dX7_watchKind_28 rfl ?_
  refine mv_iastN (j := k) dX7_watchKind_29 S28 rfl (by decide) (by omega) (fun h3 e4 => ?_)
  have HS := mv_ne e4 (by decide) HS
  have S27 := mv_ne e4 (by decide) S27
  have S28 : h3[28]? = some (.inl (0, 8, .inl (upd cf k a))) := mv_eq e4 S28
  have S29 := mv_ne e4 (by decide) S29
  have fr := fr.set e4 (by decide)
  clear e4
  refine mv_aload_n dX7_watchKind_30 rfl ?_
  refine mv_getf (ci := 7) (f := 8) dX7_watchKind_31 HS rfl (by decide) wd_212 rfl ?_
  refine mv_iload_n dX7_watchKind_34 rfl ?_
  refine mv_iload dX7_watchKind_35 rfl ?_
  refine mv_iastN (j := k) dX7_watchKind_37 S29 rfl (by decide) (by omega) (fun h5 e6 => ?_)
  have HS := mv_ne e6 (by decide) HS
  have S27 := mv_ne e6 (by decide) S27
  have S28 := mv_ne e6 (by decide) S28
  have S29 : h5[29]? = some (.inl (0, 8, .inl (upd ct k c))) := mv_eq e6 S29
  have fr := fr.set e6 (by decide)
  clear e6
  refine mv_iload dX7_watchKind_38 rfl ?_
  exact mv_iret dX7_watchKind_40 rfl rfl ⟨rfl, fr, S27, S28, S29⟩
set_option maxRecDepth 100000 in
theorem k_X7_isCountedOn {ev : mv_E} {h : mv_H} {s : q_S} {cf : Nat → Int32} {ct : Nat → Int32} {rc : Nat} {k : Nat} {d : Nat} (HS : h[22]? = some (.inr (7, [.ref 1, .ref 23, .ref 24, .ref 25, .ref 26, .int (nI s.1), .ref 27, .ref 28, .ref 29, .ref 30, .int (nI rc), .ref 31]))) (S28 : h[28]? = some (.inl (0, 8, .inl cf))) (S29 : h[29]? = some (.inl (0, 8, .inl ct))) (hk : k < 8) : mv_K ev mX7_isCountedOn [.ref 22, .int (nI k), .int (nI d)] h (some (.int (mv_b (cf k ≠ -1 ∧ cf k ≤ nI d ∧ nI d ≤ ct k)))) h := by
  refine mv_Kof ?_
  show mv_g ev mX7_isCountedOn 0 [.ref 22, .int (nI k), .int (nI d)] [] h _
  refine mv_aload_n dX7_isCountedOn_0 rfl ?_
  refine mv_iload_n dX7_isCountedOn_1 rfl ?_
  refine mv_cV1 (ci := 7) dX7_isCountedOn_2 lk_X7_isCountedOn_66 HS rfl (Nat.le_of_ble_eq_true rfl) (Nat.le_of_ble_eq_true rfl) (k_X7_isCounted (ev := ev) HS S28 (by omega)) ?_
  refine mv_if_eq (tgt := 31) dX7_isCountedOn_5 (by decide) (fun c5 => ?_) (fun c5 => ?_)
  · have c5 : ¬ (cf k ≠ -1) := (mv_b_0 _).mp c5
    refine mv_iconst (v := nI 0) dX7_isCountedOn_31 (by decide) ?_
    exact mv_iret dX7_isCountedOn_32 rfl rfl ⟨(congrArg (fun z => some (Value.int z)) (by first | exact (mv_b_t ⟨c5, c24⟩).symm | exact (mv_b_f (fun z => c24 z.2)).symm | exact (mv_b_f (fun z => c5 z.1)).symm)), rfl⟩
  · have c5 : cf k ≠ -1 := Classical.byContradiction (fun z => c5 ((mv_b_0 _).mpr z))
    refine mv_iload_n dX7_isCountedOn_8 rfl ?_
    refine mv_aload_n dX7_isCountedOn_9 rfl ?_
    refine mv_getf (ci := 7) (f := 7) dX7_isCountedOn_10 HS rfl (by decide) wd_211 rfl ?_
    refine mv_iload_n dX7_isCountedOn_13 rfl ?_
    refine mv_iaN (j := k) (x := cf k) dX7_isCountedOn_14 S28 rfl (by decide) (by omega) rfl ?_
    refine mv_aload_n dX7_isCountedOn_15 rfl ?_
    refine mv_getf (ci := 7) (f := 8) dX7_isCountedOn_16 HS rfl (by decide) wd_212 rfl ?_
    refine mv_iload_n dX7_isCountedOn_19 rfl ?_
    refine mv_iaN (j := k) (x := ct k) dX7_isCountedOn_20 S29 rfl (by decide) (by omega) rfl ?_
    refine mv_cSN3 dX7_isCountedOn_21 lk_X7_isCountedOn_69 (Nat.le_of_ble_eq_true rfl) (Nat.le_of_ble_eq_true rfl) (k_X11_within (ev := ev)) ?_
    refine mv_if_eq (tgt := 31) dX7_isCountedOn_24 (by decide) (fun c24 => ?_) (fun c24 => ?_)
    · have c24 : ¬ ((cf k) ≤ (nI d) ∧ (nI d) ≤ (ct k)) := (mv_b_0 _).mp c24
      refine mv_iconst (v := nI 0) dX7_isCountedOn_31 (by decide) ?_
      exact mv_iret dX7_isCountedOn_32 rfl rfl ⟨(congrArg (fun z => some (Value.int z)) (by first | exact (mv_b_t ⟨c5, c24⟩).symm | exact (mv_b_f (fun z => c24 z.2)).symm | exact (mv_b_f (fun z => c5 z.1)).symm)), rfl⟩
    · have c24 : (cf k) ≤ (nI d) ∧ (nI d) ≤ (ct k) := Classical.byContradiction (fun z => c24 ((mv_b_0 _).mpr z))
      refine mv_iconst (v := nI 1) dX7_isCountedOn_27 (by decide) ?_
      refine mv_goto (tgt := 32) dX7_isCountedOn_28 (by decide) ?_
      exact mv_iret dX7_isCountedOn_32 rfl rfl ⟨(congrArg (fun z => some (Value.int z)) (by first | exact (mv_b_t ⟨c5, c24⟩).symm | exact (mv_b_f (fun z => c24 z.2)).symm | exact (mv_b_f (fun z => c5 z.1)).symm)), rfl⟩
set_option maxRecDepth 100000 in
theorem k_X7_isRainyOn {ev : mv_E} {h : mv_H} {s : q_S} {rr : Nat → Nat} {rc : Nat} {x : Int32} (HS : h[22]? = some (.inr (7, [.ref 1, .ref 23, .ref 24, .ref 25, .ref 26, .int (nI s.1), .ref 27, .ref 28, .ref 29, .ref 30, .int (nI rc), .ref 31]))) (S30 : h[30]? = some (.inl (2, 400, .inl (fun j => nI (rr j))))) (hr : ∀ d, rr d ≤ 1) : mv_K ev mX7_isRainyOn [.ref 22, .int x] h (some (.int (mv_q (q_rO rr x)))) h := by
  refine mv_Kof ?_
  show mv_g ev mX7_isRainyOn 0 [.ref 22, .int x] [] h _
  refine mv_iload_n dX7_isRainyOn_0 rfl ?_
  refine mv_cSN1 dX7_isRainyOn_1 lk_X7_isRainyOn_76 (Nat.le_of_ble_eq_true rfl) (Nat.le_of_ble_eq_true rfl) (k_X11_isDay (ev := ev)) ?_
  refine mv_if_eq (tgt := 20) dX7_isRainyOn_4 (by decide) (fun c4 => ?_) (fun c4 => ?_)
  · have c4 : ¬ (nI 0 ≤ x ∧ x ≤ nI 399) := (mv_b_0 _).mp c4
    refine mv_iconst (v := nI 0) dX7_isRainyOn_20 (by decide) ?_
    exact mv_iret dX7_isRainyOn_21 rfl rfl ⟨(congrArg (fun z => some (Value.int z)) (by first | exact (mv_q_t ((q_rO_n (by omega)).mpr (by omega))).symm | exact (mv_q_f (fun z => absurd ((q_rO_n (by omega)).mp z) (by omega))).symm | exact (mv_q_f (fun ⟨i, hi, ei, hz⟩ => c4 (ei ▸ mv_in_i (Nat.zero_le _) hi (by decide)))).symm)), rfl⟩
  · have c4 : nI 0 ≤ x ∧ x ≤ nI 399 := Classical.byContradiction (fun z => c4 ((mv_b_0 _).mpr z))
    obtain ⟨e, e1, e2, rfl⟩ := mv_in_n (by decide) c4 (by decide)
    have e3 := hr e
    refine mv_aload_n dX7_isRainyOn_7 rfl ?_
    refine mv_getf (ci := 7) (f := 9) dX7_isRainyOn_8 HS rfl (by decide) wd_213 rfl ?_
    refine mv_iload_n dX7_isRainyOn_11 rfl ?_
    refine mv_zaN (j := e) (x := nI (rr e)) dX7_isRainyOn_12 S30 rfl (by decide) (by omega) rfl ?_
    refine mv_if_eq (tgt := 20) dX7_isRainyOn_13 (by decide) (fun c13 => ?_) (fun c13 => ?_)
    · have c13 : rr e = 0 := (nI_eq (b := 0) (by omega) (by omega)).mp c13
      refine mv_iconst (v := nI 0) dX7_isRainyOn_20 (by decide) ?_
      exact mv_iret dX7_isRainyOn_21 rfl rfl ⟨(congrArg (fun z => some (Value.int z)) (by first | exact (mv_q_t ((q_rO_n (by omega)).mpr (by omega))).symm | exact (mv_q_f (fun z => absurd ((q_rO_n (by omega)).mp z) (by omega))).symm | exact (mv_q_f (fun ⟨i, hi, ei, hz⟩ => c4 (ei ▸ mv_in_i (Nat.zero_le _) hi (by decide)))).symm)), rfl⟩
    · have c13 : ¬ (rr e = 0) := fun z => c13 ((nI_eq (b := 0) (by omega) (by omega)).mpr z)
      refine mv_iconst (v := nI 1) dX7_isRainyOn_16 (by decide) ?_
      refine mv_goto (tgt := 21) dX7_isRainyOn_17 (by decide) ?_
      exact mv_iret dX7_isRainyOn_21 rfl rfl ⟨(congrArg (fun z => some (Value.int z)) (by first | exact (mv_q_t ((q_rO_n (by omega)).mpr (by omega))).symm | exact (mv_q_f (fun z => absurd ((q_rO_n (by omega)).mp z) (by omega))).symm | exact (mv_q_f (fun ⟨i, hi, ei, hz⟩ => c4 (ei ▸ mv_in_i (Nat.zero_le _) hi (by decide)))).symm)), rfl⟩
theorem q_up_id {f : Nat → Nat} {k x : Nat} (h : f k = x) : t_up f k x = f := by
  funext i
  unfold t_up
  by_cases hi : i = k
  · rw [if_pos hi, hi, h]
  · rw [if_neg hi]
theorem q_nar {v : Nat} (h : v ≤ 1) : vp_nar .boolean (nI v) = nI v := by
  have e : v = 0 ∨ v = 1 := by omega
  rcases e with rfl | rfl <;> rfl
theorem q_m1 {a b : Nat} (h : a = b + 1) : nI a + (-1) = nI b := by
  have e : (-1 : Int32) = Int32.ofInt (-((1 : Nat) : Int)) := by decide
  rw [e, mv_dec a 1 (by omega)]
  exact congrArg nI (by omega)
set_option maxRecDepth 100000 in
theorem k_X7_changeRain {ev : mv_E} {h : mv_H} {s : q_S} {rr : Nat → Nat} {d : Nat} {v : Nat} (HS : h[22]? = some (.inr (7, [.ref 1, .ref 23, .ref 24, .ref 25, .ref 26, .int (nI s.1), .ref 27, .ref 28, .ref 29, .ref 30, .int (nI (q_cr rr 400)), .ref 31]))) (S30 : h[30]? = some (.inl (2, 400, .inl (fun j => nI (rr j))))) (hr : ∀ d, rr d ≤ 1) (hd : d ≤ 399) (hv : v ≤ 1) : ∃ h2, mv_K ev mX7_changeRain [.ref 22, .int (nI d), .int (nI v)] h (some (.int (nI (rr d)))) h2 ∧ mv_fra [22, 30] h h2 ∧ h2[22]? = some (.inr (7, [.ref 1, .ref 23, .ref 24, .ref 25, .ref 26, .int (nI s.1), .ref 27, .ref 28, .ref 29, .ref 30, .int (nI (q_cr (t_up rr d v) 400)), .ref 31])) ∧ h2[30]? = some (.inl (2, 400, .inl (fun j => nI ((t_up rr d v) j)))) := by
  suffices g0 : mv_g ev mX7_changeRain 0 (mv_ent [.ref 22, .int (nI d), .int (nI v)] (mv_ml mX7_changeRain)) [] h (fun r g => r = some (.int (nI (rr d))) ∧ mv_fra [22, 30] h g ∧ g[22]? = some (.inr (7, [.ref 1, .ref 23, .ref 24, .ref 25, .ref 26, .int (nI s.1), .ref 27, .ref 28, .ref 29, .ref 30, .int (nI (q_cr (t_up rr d v) 400)), .ref 31])) ∧ g[30]? = some (.inl (2, 400, .inl (fun j => nI ((t_up rr d v) j))))) from (by obtain ⟨r0, h0, K0, q0, Q0⟩ := mv_Kex g0; subst q0; exact ⟨h0, K0, Q0⟩)
  show mv_g ev mX7_changeRain 0 [.ref 22, .int (nI d), .int (nI v), .null] [] h _
  have fr : mv_fra [22, 30] h h := mv_fra.rf
  have n1 := hr d
  have n2 := q_cr_le hr 400
  have n3 := q_cr_up rr d v 400
  rw [if_pos (by omega), if_pos (by omega)] at n3
  refine mv_aload_n dX7_changeRain_0 rfl ?_
  refine mv_iload_n dX7_changeRain_1 rfl ?_
  refine mv_cV1 (ci := 7) dX7_changeRain_2 lk_X7_changeRain_73 HS rfl (Nat.le_of_ble_eq_true rfl) (Nat.le_of_ble_eq_true rfl) (k_X7_isRainyOn (ev := ev) HS S30 hr) ?_
  refine mv_topI (y := nI (rr d)) (q_rO_b hd n1) ?_
  refine mv_istore_n dX7_changeRain_5 (by decide) ?_
  refine mv_iload_n dX7_changeRain_6 rfl ?_
  refine mv_cSN1 dX7_changeRain_7 lk_X7_changeRain_76 (Nat.le_of_ble_eq_true rfl) (Nat.le_of_ble_eq_true rfl) (k_X11_isDay (ev := ev)) ?_
  refine mv_if_eq (tgt := 43) dX7_changeRain_10 (by decide) (fun z => absurd z ((fun z => (mv_b_0 _).mp z (mv_in_i (by omega) (by omega) (by omega))))) (fun c10 => ?_)
  refine mv_iload_n dX7_changeRain_13 rfl ?_
  refine mv_iload_n dX7_changeRain_14 rfl ?_
  refine mv_icmp_eq (tgt := 43) dX7_changeRain_15 (by decide) (fun c15 => ?_) (fun c15 => ?_)
  · have c15 : rr d = v := (nI_eq (by omega) (by omega)).mp c15
    refine mv_iload_n dX7_changeRain_43 rfl ?_
    refine mv_if_eq (tgt := 51) dX7_changeRain_44 (by decide) (fun c44 => ?_) (fun c44 => ?_)
    · have c44 : rr d = 0 := (nI_eq (b := 0) (by omega) (by omega)).mp c44
      refine mv_iconst (v := nI 0) dX7_changeRain_51 (by decide) ?_
      have hs : t_up rr d v = rr := q_up_id (by omega)
      exact mv_iret dX7_changeRain_52 rfl (by first | rfl | decide) ⟨(congrArg (fun z => some (Value.int z)) (congrArg nI (by omega))), fr, (by rw [hs]; exact HS), (by rw [hs]; exact S30)⟩
    · have c44 : ¬ (rr d = 0) := fun z => c44 ((nI_eq (b := 0) (by omega) (by omega)).mpr z)
      refine mv_iconst (v := nI 1) dX7_changeRain_47 (by decide) ?_
      refine mv_goto (tgt := 52) dX7_changeRain_48 (by decide) ?_
      have hs : t_up rr d v = rr := q_up_id (by omega)
      exact mv_iret dX7_changeRain_52 rfl (by first | rfl | decide) ⟨(congrArg (fun z => some (Value.int z)) (congrArg nI (by omega))), fr, (by rw [hs]; exact HS), (by rw [hs]; exact S30)⟩
  · have c15 : ¬ (rr d = v) := fun z => c15 ((nI_eq (by omega) (by omega)).mpr z)
    refine mv_aload_n dX7_changeRain_18 rfl ?_
    refine mv_getf (ci := 7) (f := 9) dX7_changeRain_19 HS rfl (by decide) wd_213 rfl ?_
    refine mv_iload_n dX7_changeRain_22 rfl ?_
    refine mv_iload_n dX7_changeRain_23 rfl ?_
    refine mv_zastN (j := d) dX7_changeRain_24 S30 rfl (by decide) (by omega) (by first | exact q_nar (by omega) | decide) (fun h1 e2 => ?_)
    rw [upd_nI] at e2
    have HS := mv_ne e2 (by decide) HS
    have S30 : h1[30]? = some (.inl (2, 400, .inl (fun j => nI (t_up rr d v j)))) := mv_eq e2 S30
    have fr := fr.set e2 (by decide)
    clear e2
    refine mv_aload_n dX7_changeRain_25 rfl ?_
    refine mv_dup dX7_changeRain_26 rfl ?_
    refine mv_getf (ci := 7) (f := 10) dX7_changeRain_27 HS rfl (by decide) wd_214 rfl ?_
    refine mv_iload_n dX7_changeRain_30 rfl ?_
    refine mv_if_eq (tgt := 38) dX7_changeRain_31 (by decide) (fun c31 => ?_) (fun c31 => ?_)
    · have c31 : v = 0 := (nI_eq (b := 0) (by omega) (by omega)).mp c31
      refine mv_iconst (v := (-1)) dX7_changeRain_38 (by decide) ?_
      refine mv_iadd dX7_changeRain_39 ?_
      refine mv_topI (y := nI (q_cr (t_up rr d v) 400)) (by first | exact (nI_add _ _).trans (congrArg nI (by omega)) | exact q_m1 (by omega)) ?_
      refine mv_putf (ci := 7) (f := 10) dX7_changeRain_40 HS rfl (by decide) wd_214 rfl rfl (fun _ => ⟨rfl, rfl⟩) (Nat.le_of_ble_eq_true rfl) ?_
      refine mv_topH (fun h3 e4 => ?_)
      have HS : h3[22]? = some (.inr (7, [.ref 1, .ref 23, .ref 24, .ref 25, .ref 26, .int (nI s.1), .ref 27, .ref 28, .ref 29, .ref 30, .int (nI (q_cr (t_up rr d v) 400)), .ref 31])) := mv_eq e4 HS
      have S30 := mv_ne e4 (by decide) S30
      have fr := fr.set e4 (by decide)
      clear e4
      refine mv_iload_n dX7_changeRain_43 rfl ?_
      refine mv_if_eq (tgt := 51) dX7_changeRain_44 (by decide) (fun c44 => ?_) (fun c44 => ?_)
      · have c44 : rr d = 0 := (nI_eq (b := 0) (by omega) (by omega)).mp c44
        refine mv_iconst (v := nI 0) dX7_changeRain_51 (by decide) ?_
        exact mv_iret dX7_changeRain_52 rfl rfl ⟨(congrArg (fun z => some (Value.int z)) (congrArg nI (by omega))), fr, HS, S30⟩
      · have c44 : ¬ (rr d = 0) := fun z => c44 ((nI_eq (b := 0) (by omega) (by omega)).mpr z)
        refine mv_iconst (v := nI 1) dX7_changeRain_47 (by decide) ?_
        refine mv_goto (tgt := 52) dX7_changeRain_48 (by decide) ?_
        exact mv_iret dX7_changeRain_52 rfl rfl ⟨(congrArg (fun z => some (Value.int z)) (congrArg nI (by omega))), fr, HS, S30⟩
    · have c31 : ¬ (v = 0) := fun z => c31 ((nI_eq (b := 0) (by omega) (by omega)).mpr z)
      refine mv_iconst (v := nI 1) dX7_changeRain_34 (by decide) ?_
      refine mv_goto (tgt := 39) dX7_changeRain_35 (by decide) ?_
      refine mv_iadd dX7_changeRain_39 ?_
      refine mv_topI (y := nI (q_cr (t_up rr d v) 400)) (by first | exact (nI_add _ _).trans (congrArg nI (by omega)) | exact q_m1 (by omega)) ?_
      refine mv_putf (ci := 7) (f := 10) dX7_changeRain_40 HS rfl (by decide) wd_214 rfl rfl (fun _ => ⟨rfl, rfl⟩) (Nat.le_of_ble_eq_true rfl) ?_
      refine mv_topH (fun h5 e6 => ?_)
      have HS : h5[22]? = some (.inr (7, [.ref 1, .ref 23, .ref 24, .ref 25, .ref 26, .int (nI s.1), .ref 27, .ref 28, .ref 29, .ref 30, .int (nI (q_cr (t_up rr d v) 400)), .ref 31])) := mv_eq e6 HS
      have S30 := mv_ne e6 (by decide) S30
      have fr := fr.set e6 (by decide)
      clear e6
      refine mv_iload_n dX7_changeRain_43 rfl ?_
      refine mv_if_eq (tgt := 51) dX7_changeRain_44 (by decide) (fun c44 => ?_) (fun c44 => ?_)
      · have c44 : rr d = 0 := (nI_eq (b := 0) (by omega) (by omega)).mp c44
        refine mv_iconst (v := nI 0) dX7_changeRain_51 (by decide) ?_
        exact mv_iret dX7_changeRain_52 rfl rfl ⟨(congrArg (fun z => some (Value.int z)) (congrArg nI (by omega))), fr, HS, S30⟩
      · have c44 : ¬ (rr d = 0) := fun z => c44 ((nI_eq (b := 0) (by omega) (by omega)).mpr z)
        refine mv_iconst (v := nI 1) dX7_changeRain_47 (by decide) ?_
        refine mv_goto (tgt := 52) dX7_changeRain_48 (by decide) ?_
        exact mv_iret dX7_changeRain_52 rfl rfl ⟨(congrArg (fun z => some (Value.int z)) (congrArg nI (by omega))), fr, HS, S30⟩
theorem q_ow_1 {lw : Nat → Int32} {ln : Nat → Nat} {rr : Nat → Nat} {d : Nat} (h : t_mo (lw 5) (lw 6) (nI (d % 28))) : q_ow lw ln rr d = 1 := if_pos h
theorem q_ow_2 {lw : Nat → Int32} {ln : Nat → Nat} {rr : Nat → Nat} {d : Nat} (h : ¬ t_mo (lw 5) (lw 6) (nI (d % 28))) (h2 : q_rd rr d (ln 7)) : q_ow lw ln rr d = 2 := (if_neg h).trans (if_pos h2)
theorem q_ow_0 {lw : Nat → Int32} {ln : Nat → Nat} {rr : Nat → Nat} {d : Nat} (h : ¬ t_mo (lw 5) (lw 6) (nI (d % 28))) (h2 : ¬ q_rd rr d (ln 7)) : q_ow lw ln rr d = 0 := (if_neg h).trans (if_neg h2)
set_option maxRecDepth 100000 in
theorem l_X7_owedOf {ev : mv_E} {h : mv_H} {s : q_S} {rr : Nat → Nat} {rc : Nat} {lw : Nat → Int32} {ln : Nat → Nat} {k : Nat} (HL : h[1]? = some (.inr (5, [.ref 2]))) (HV : h[2]? = some (.inl (0, 8, .inl lw))) (HS : h[22]? = some (.inr (7, [.ref 1, .ref 23, .ref 24, .ref 25, .ref 26, .int (nI s.1), .ref 27, .ref 28, .ref 29, .ref 30, .int (nI rc), .ref 31]))) (S24 : h[24]? = some (.inl (0, 100, .inl (fun j => nI (s.2.2.1 j))))) (S30 : h[30]? = some (.inl (2, 400, .inl (fun j => nI (rr j))))) (hw : q_LW lw ln) (hsi : q_SI s) (hr : ∀ d, rr d ≤ 1) (hk : k < s.1) : ∀ (fu : Nat) (y : Nat), ln 7 < y + fu → (¬ t_mo (lw 5) (lw 6) (nI (s.2.2.1 k % 28))) → (y ≤ ln 7) → (∀ x, x < y → ¬ (x ≤ s.2.2.1 k ∧ rr (s.2.2.1 k - x) = 1)) → mv_g ev mX7_owedOf 32 [.ref 22, .int (nI k), .int (nI (s.2.2.1 k)), .int (nI (ln 7)), .int (nI y)] [] h (fun r g => r = some (.int (nI (q_ow lw ln rr (s.2.2.1 k)))) ∧ g = h) := by
  intro fu
  induction fu with
  | zero => intro y hm c14 hy hq; exact absurd hm (by omega)
  | succ fu ih =>
    intro y hm c14 hy hq
    have hwv := hw.1
    obtain ⟨g0, g1, g2, g3, g3b, g4, g7, gmo⟩ := hw.2
    have n0 := hsi.1
    have n1 := hsi.2.2.1 k
    refine mv_iload dX7_owedOf_32 rfl ?_
    refine mv_iload_n dX7_owedOf_34 rfl ?_
    refine mv_icmp_ge (tgt := 57) dX7_owedOf_35 (by decide) (fun c35 => ?_) (fun c35 => ?_)
    · have c35 : ln 7 ≤ y := (nI_leI (by omega) (by omega)).mp c35
      refine mv_iconst (v := nI 0) dX7_owedOf_57 (by decide) ?_
      exact mv_iret dX7_owedOf_58 rfl rfl ⟨(congrArg (fun z => some (Value.int z)) (congrArg nI (q_ow_0 c14 (fun ⟨x, hx, h1, h2⟩ => hq x (by omega) ⟨h1, h2⟩)).symm)), rfl⟩
    · have c35 : ¬ (ln 7 ≤ y) := fun z => c35 ((nI_leI (by omega) (by omega)).mpr z)
      refine mv_aload_n dX7_owedOf_38 rfl ?_
      refine mv_iload_n dX7_owedOf_39 rfl ?_
      refine mv_iload dX7_owedOf_40 rfl ?_
      refine mv_isub dX7_owedOf_42 ?_
      refine mv_cV1 (ci := 7) dX7_owedOf_43 lk_X7_owedOf_73 HS rfl (Nat.le_of_ble_eq_true rfl) (Nat.le_of_ble_eq_true rfl) (k_X7_isRainyOn (ev := ev) HS S30 hr) ?_
      refine mv_if_eq (tgt := 51) dX7_owedOf_46 (by decide) (fun c46 => ?_) (fun c46 => ?_)
      · have c46 : ¬ (y ≤ s.2.2.1 k ∧ rr (s.2.2.1 k - y) = 1) := fun z => (mv_q_0 _).mp c46 ((q_rO_m n1 (by omega)).mpr z)
        refine mv_iinc (v := nI (y + 1)) dX7_owedOf_51 rfl (mv_inc y 1) (by decide) ?_
        refine mv_goto (tgt := 32) dX7_owedOf_54 (by decide) ?_
        exact ih (y + 1) (by omega) c14 (by omega) (fun x hx => by by_cases e : x = y; rw [e]; exact c46; exact hq x (by omega))
      · have c46 := (q_rO_m n1 (by omega)).mp (mv_q_ne c46)
        refine mv_iconst (v := nI 2) dX7_owedOf_49 (by decide) ?_
        exact mv_iret dX7_owedOf_50 rfl rfl ⟨(congrArg (fun z => some (Value.int z)) (congrArg nI (q_ow_2 c14 ⟨y, by omega, c46.1, c46.2⟩).symm)), rfl⟩
set_option maxRecDepth 100000 in
theorem k_X7_owedOf {ev : mv_E} {h : mv_H} {s : q_S} {rr : Nat → Nat} {rc : Nat} {lw : Nat → Int32} {ln : Nat → Nat} {k : Nat} (HL : h[1]? = some (.inr (5, [.ref 2]))) (HV : h[2]? = some (.inl (0, 8, .inl lw))) (HS : h[22]? = some (.inr (7, [.ref 1, .ref 23, .ref 24, .ref 25, .ref 26, .int (nI s.1), .ref 27, .ref 28, .ref 29, .ref 30, .int (nI rc), .ref 31]))) (S24 : h[24]? = some (.inl (0, 100, .inl (fun j => nI (s.2.2.1 j))))) (S30 : h[30]? = some (.inl (2, 400, .inl (fun j => nI (rr j))))) (hw : q_LW lw ln) (hsi : q_SI s) (hr : ∀ d, rr d ≤ 1) (hk : k < s.1) : mv_K ev mX7_owedOf [.ref 22, .int (nI k)] h (some (.int (nI (q_ow lw ln rr (s.2.2.1 k))))) h := by
  refine mv_Kof ?_
  show mv_g ev mX7_owedOf 0 [.ref 22, .int (nI k), .null, .null, .null] [] h _
  have hwv := hw.1
  obtain ⟨g0, g1, g2, g3, g3b, g4, g7, gmo⟩ := hw.2
  have n0 := hsi.1
  have n1 := hsi.2.2.1 k
  refine mv_aload_n dX7_owedOf_0 rfl ?_
  refine mv_iload_n dX7_owedOf_1 rfl ?_
  refine mv_cV1 (ci := 7) dX7_owedOf_2 lk_X7_owedOf_79 HS rfl (Nat.le_of_ble_eq_true rfl) (Nat.le_of_ble_eq_true rfl) (k_X7_dayOf (ev := ev) HS S24 (by omega) (by omega)) ?_
  refine mv_istore_n dX7_owedOf_5 (by decide) ?_
  refine mv_aload_n dX7_owedOf_6 rfl ?_
  refine mv_getf (ci := 7) (f := 0) dX7_owedOf_7 HS rfl (by decide) wd_204 rfl ?_
  refine mv_iload_n dX7_owedOf_10 rfl ?_
  refine mv_cV1 (ci := 5) dX7_owedOf_11 lk_X7_owedOf_82 HL rfl (Nat.le_of_ble_eq_true rfl) (Nat.le_of_ble_eq_true rfl) (k_X5_isMoonOn (ev := ev) HL HV hw (by omega)) ?_
  refine mv_if_eq (tgt := 19) dX7_owedOf_14 (by decide) (fun c14 => ?_) (fun c14 => ?_)
  · have c14 : ¬ (t_mo (lw 5) (lw 6) (nI ((s.2.2.1 k) % 28))) := (mv_b_0 _).mp c14
    refine mv_aload_n dX7_owedOf_19 rfl ?_
    refine mv_getf (ci := 7) (f := 0) dX7_owedOf_20 HS rfl (by decide) wd_204 rfl ?_
    refine mv_bipush (v := nI 7) dX7_owedOf_23 (by decide) ?_
    refine mv_cV1 (ci := 5) dX7_owedOf_25 lk_X7_owedOf_87 HL rfl (Nat.le_of_ble_eq_true rfl) (Nat.le_of_ble_eq_true rfl) (k_X5_value (ev := ev) HL HV (by omega)) ?_
    refine mv_topI (y := nI (ln 7)) (hwv 7 (by decide) (by decide)) ?_
    refine mv_istore_n dX7_owedOf_28 (by decide) ?_
    refine mv_iconst (v := nI 0) dX7_owedOf_29 (by decide) ?_
    refine mv_istore dX7_owedOf_30 (by decide) ?_
    exact l_X7_owedOf HL HV HS S24 S30 hw hsi hr hk (ln 7 + 1) 0 (by omega) c14 (Nat.zero_le _) (fun x hx => absurd hx (Nat.not_lt_zero _))
  · have c14 : t_mo (lw 5) (lw 6) (nI ((s.2.2.1 k) % 28)) := Classical.byContradiction (fun z => c14 ((mv_b_0 _).mpr z))
    refine mv_iconst (v := nI 1) dX7_owedOf_17 (by decide) ?_
    exact mv_iret dX7_owedOf_18 rfl rfl ⟨(congrArg (fun z => some (Value.int z)) (congrArg nI (q_ow_1 c14).symm)), rfl⟩
