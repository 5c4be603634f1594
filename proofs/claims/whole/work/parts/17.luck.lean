/-- rows of a committee -/
def q_bg (f : Nat → Nat) (y : Nat) : Nat → Nat := fun i => if i < y then (if i = 0 then 1000000 else 0) else f i
theorem q_bg_0 (f : Nat → Nat) : q_bg f 0 = f := by
  funext i
  exact if_neg (Nat.not_lt_zero _)
theorem q_bg_s (f : Nat → Nat) (y : Nat) : t_up (q_bg f y) y (if y = 0 then 1000000 else 0) = q_bg f (y + 1) := by
  funext i
  unfold t_up q_bg
  by_cases c : i = y
  · rw [if_pos c, if_pos (show i < y + 1 by omega), c]
  · rw [if_neg c]
    by_cases c2 : i < y
    · rw [if_pos c2, if_pos (show i < y + 1 by omega)]
    · rw [if_neg c2, if_neg (show ¬ i < y + 1 by omega)]
theorem q_bg_le {f : Nat → Nat} (h : ∀ i, f i ≤ 1000000) (y : Nat) : ∀ i, q_bg f y i ≤ 1000000 := by
  intro i
  unfold q_bg
  split
  · split <;> omega
  · exact h i
def q_nw (f : Nat → Nat) (p i : Nat) : Nat := (f i * (1000 - p) + (if i = 0 then 0 else f (i - 1)) * p) / 1000
def q_ao (f : Nat → Nat) (p n y : Nat) : Nat → Nat := fun i => if y ≤ i ∧ i ≤ n then q_nw f p i else f i
theorem q_ao_f {f : Nat → Nat} {p n y i : Nat} (h : i < y) : q_ao f p n y i = f i := if_neg (by omega)
theorem q_ao_0 (f : Nat → Nat) (p n : Nat) : q_ao f p n (n + 1) = f := by
  funext i
  exact if_neg (by omega)
theorem q_ao_s {f : Nat → Nat} {p n y : Nat} (h : 1 ≤ y) (hy : y ≤ n + 1) : t_up (q_ao f p n y) (y - 1) (q_nw f p (y - 1)) = q_ao f p n (y - 1) := by
  funext i
  unfold t_up q_ao
  by_cases c : i = y - 1
  · rw [if_pos c, if_pos (show y - 1 ≤ i ∧ i ≤ n by omega), c]
  · rw [if_neg c]
    by_cases c2 : y ≤ i ∧ i ≤ n
    · rw [if_pos c2, if_pos (show y - 1 ≤ i ∧ i ≤ n by omega)]
    · rw [if_neg c2, if_neg (show ¬ (y - 1 ≤ i ∧ i ≤ n) by omega)]
theorem q_nw_le {f : Nat → Nat} (h : ∀ i, f i ≤ 1000000) {p : Nat} (hp : p ≤ 1000) (i : Nat) : q_nw f p i ≤ 1000000 := by
  unfold q_nw
  have h1 : f i * (1000 - p) ≤ 1000000 * (1000 - p) := Nat.mul_le_mul_right _ (h i)
  have h2 : (if i = 0 then 0 else f (i - 1)) * p ≤ 1000000 * p := by
    refine Nat.mul_le_mul_right _ ?_
    split
    · omega
    · exact h _
  have h3 : 1000000 * (1000 - p) + 1000000 * p = 1000000 * 1000 := by omega
  omega
theorem q_ao_le {f : Nat → Nat} (h : ∀ i, f i ≤ 1000000) {p : Nat} (hp : p ≤ 1000) (n y : Nat) : ∀ i, q_ao f p n y i ≤ 1000000 := by
  intro i
  unfold q_ao
  split
  · exact q_nw_le h hp i
  · exact h i
def q_rows (p : Nat) (f : Nat → Nat) : Nat → (Nat → Nat)
  | 0 => f
  | y + 1 => q_ao (q_rows p f y) p (y + 1) 0
theorem q_rows_le {f : Nat → Nat} (h : ∀ i, f i ≤ 1000000) {p : Nat} (hp : p ≤ 1000) (n : Nat) : ∀ i, q_rows p f n i ≤ 1000000 := by
  induction n with
  | zero => exact h
  | succ n ih => exact q_ao_le ih hp _ _
def q_sm (f : Nat → Nat) (a : Nat) : Nat → Nat
  | 0 => 0
  | n + 1 => q_sm f a n + f (a + n)
theorem q_sm_le {f : Nat → Nat} (h : ∀ i, f i ≤ 1000000) (a n : Nat) : q_sm f a n ≤ 1000000 * n := by
  induction n with
  | zero => exact Nat.le_refl _
  | succ n ih =>
    have e : q_sm f a (n + 1) = q_sm f a n + f (a + n) := rfl
    have := h (a + n)
    omega
theorem q_sm_s {f : Nat → Nat} {a y : Nat} (h : a ≤ y) : q_sm f a (y + 1 - a) = q_sm f a (y - a) + f y := by
  have e : y + 1 - a = (y - a) + 1 := by omega
  have e2 : q_sm f a ((y - a) + 1) = q_sm f a (y - a) + f (a + (y - a)) := rfl
  rw [e, e2, show a + (y - a) = y by omega]
theorem q_sm_f (f : Nat → Nat) (a n : Nat) : q_sm f a (n + 1) = f a + q_sm f (a + 1) n := by
  induction n with
  | zero =>
    have e : q_sm f a 1 = 0 + f (a + 0) := rfl
    have e2 : q_sm f (a + 1) 0 = 0 := rfl
    rw [e, e2]
    show 0 + f a = f a + 0
    omega
  | succ n ih =>
    have e : q_sm f a (n + 1 + 1) = q_sm f a (n + 1) + f (a + (n + 1)) := rfl
    have e2 : q_sm f (a + 1) (n + 1) = q_sm f (a + 1) n + f (a + 1 + n) := rfl
    rw [e, e2, ih, show a + (n + 1) = a + 1 + n by omega]
    omega
/-- the least number of odd years that is as seldom by chance -/
def q_lo (d o : Nat → Nat) (n x y : Nat) : Nat → Int32
  | 0 => -1
  | i + 1 => if q_sm d (n - i) (i + 1) ≤ x ∧ y ≤ q_sm o (n - i) (i + 1) then nI (n - i) else q_lo d o n x y i
def q_lP (r t x y : Nat) (f g : Nat → Nat) (n : Nat) : Int32 := q_lo (q_rows r f n) (q_rows t g n) n x y (n + 1)
def q_yn (P : Nat → Int32) : Nat → Nat → Nat
  | 0, n => n
  | f + 1, n => if P (n + 1) ≠ -1 then n + 1 else q_yn P f (n + 1)
theorem q_yn_y {P : Nat → Int32} {f n : Nat} (hf : 0 < f) (h : P (n + 1) ≠ -1) : q_yn P f n = n + 1 := by
  obtain ⟨g, rfl⟩ : ∃ g, f = g + 1 := ⟨f - 1, by omega⟩
  exact if_pos h
theorem q_yn_n {P : Nat → Int32} {f n : Nat} (hf : 0 < f) (h : P (n + 1) = -1) : q_yn P f n = q_yn P (f - 1) (n + 1) := by
  obtain ⟨g, rfl⟩ : ∃ g, f = g + 1 := ⟨f - 1, by omega⟩
  exact if_neg (fun z => z h)
theorem q_dc (x : Int32) : x + Int32.ofInt (-1) = x - nI 1 := by
  rw [Int32.sub_eq_add_neg]
  rfl
theorem q_lt0 {y : Nat} (hy : y < 1000) : nI y - nI 1 < 0 ↔ y = 0 := by
  have h1 := pk_sub_toInt (a := y) (b := 1) (by omega) (by omega)
  rw [Int32.lt_iff_toInt_lt, h1, show (0 : Int32).toInt = 0 by decide]
  omega
set_option maxRecDepth 100000 in
theorem l_X2_begin46 {ev : mv_E} {h : mv_H} {f : Nat → Nat}   : ∀ (fu : Nat) (y : Nat), ∀ (g : mv_H), 201 < y + fu → mv_fra [46] h g → g[46]? = some (.inl (1, 201, .inr (.inl (fun j => lN (q_bg f y j))))) → (y ≤ 201) → mv_g ev mX2_begin 2 [.ref 46, .int (nI y)] [] g (fun r g => r = none ∧ mv_fra [46] h g ∧ g[46]? = some (.inl (1, 201, .inr (.inl (fun j => lN (q_bg f 201 j)))))) := by
  intro fu
  induction fu with
  | zero => intro y g hm fr HA hy; exact absurd hm (by omega)
  | succ fu ih =>
    intro y g hm fr HA hy
    refine mv_iload_n dX2_begin_2 rfl ?_
    refine mv_aload_n dX2_begin_3 rfl ?_
    refine mv_alen dX2_begin_4 HA (by decide) ?_
    refine mv_icmp_ge (tgt := 28) dX2_begin_5 (by decide) (fun c5 => ?_) (fun c5 => ?_)
    · have c5 : 201 ≤ y := (nI_leI (by omega) (by omega)).mp c5
      have ey : y = 201 := (by omega)
      subst ey
      exact mv_vret dX2_begin_28 rfl ⟨rfl, fr, HA⟩
    · have c5 : ¬ (201 ≤ y) := fun z => c5 ((nI_leI (by omega) (by omega)).mpr z)
      refine mv_aload_n dX2_begin_8 rfl ?_
      refine mv_iload_n dX2_begin_9 rfl ?_
      refine mv_iload_n dX2_begin_10 rfl ?_
      refine mv_if_ne (tgt := 20) dX2_begin_11 (by decide) (fun c11 => ?_) (fun c11 => ?_)
      · have c11 : ¬ (y = 0) := fun z => c11 ((nI_eq (b := 0) (by omega) (by omega)).mpr z)
        refine mv_lconst (v := lN 0) dX2_begin_20 rfl ?_
        refine mv_lastN (j := y) dX2_begin_21 HA rfl (by decide) (by omega) (fun h1 e2 => ?_)
        rw [upd_lN] at e2
        have HA : h1[46]? = some (.inl (1, 201, .inr (.inl (fun j => lN (t_up (q_bg f y) y 0 j))))) := mv_eq e2 HA
        have fr := fr.set e2 (by decide)
        clear e2
        have es := q_bg_s f y
        rw [if_neg c11] at es
        rw [es] at HA
        refine mv_iinc (v := nI (y + 1)) dX2_begin_22 rfl (mv_inc y 1) (by decide) ?_
        refine mv_goto (tgt := 2) dX2_begin_25 (by decide) ?_
        exact ih (y + 1) h1 (by omega) fr HA (by omega)
      · have c11 : y = 0 := (nI_eq (b := 0) (by omega) (by omega)).mp c11
        refine mv_ldc2 (v := lN 1000000) dX2_begin_14 wd_1088 ?_
        refine mv_goto (tgt := 21) dX2_begin_17 (by decide) ?_
        refine mv_lastN (j := y) dX2_begin_21 HA rfl (by decide) (by omega) (fun h3 e4 => ?_)
        rw [upd_lN] at e4
        have HA : h3[46]? = some (.inl (1, 201, .inr (.inl (fun j => lN (t_up (q_bg f y) y 1000000 j))))) := mv_eq e4 HA
        have fr := fr.set e4 (by decide)
        clear e4
        have es := q_bg_s f y
        rw [if_pos c11] at es
        rw [es] at HA
        refine mv_iinc (v := nI (y + 1)) dX2_begin_22 rfl (mv_inc y 1) (by decide) ?_
        refine mv_goto (tgt := 2) dX2_begin_25 (by decide) ?_
        exact ih (y + 1) h3 (by omega) fr HA (by omega)
set_option maxRecDepth 100000 in
theorem k_X2_begin46 {ev : mv_E} {h : mv_H} {f : Nat → Nat} (HA : h[46]? = some (.inl (1, 201, .inr (.inl (fun j => lN (f j))))))  : ∃ h2, mv_K ev mX2_begin [.ref 46] h (none) h2 ∧ mv_fra [46] h h2 ∧ h2[46]? = some (.inl (1, 201, .inr (.inl (fun j => lN (q_bg f 201 j))))) := by
  suffices g0 : mv_g ev mX2_begin 0 (mv_ent [.ref 46] (mv_ml mX2_begin)) [] h (fun r g => r = none ∧ mv_fra [46] h g ∧ g[46]? = some (.inl (1, 201, .inr (.inl (fun j => lN (q_bg f 201 j)))))) from (by obtain ⟨r0, h0, K0, q0, Q0⟩ := mv_Kex g0; subst q0; exact ⟨h0, K0, Q0⟩)
  show mv_g ev mX2_begin 0 [.ref 46, .null] [] h _
  have fr : mv_fra [46] h h := mv_fra.rf
  rw [← q_bg_0 f] at HA
  refine mv_iconst (v := nI 0) dX2_begin_0 (by decide) ?_
  refine mv_istore_n dX2_begin_1 (by decide) ?_
  exact l_X2_begin46 (201 + 1) 0 h (by omega) fr HA (Nat.zero_le _)
set_option maxRecDepth 100000 in
theorem l_X2_addOne46 {ev : mv_E} {h : mv_H} {f : Nat → Nat} {n : Nat} {p : Nat}  (hf : ∀ i, f i ≤ 1000000) (hn : n ≤ 200) (hp : p ≤ 1000) : ∀ (fu : Nat) (y : Nat), ∀ (g : mv_H), y < 0 + fu → mv_fra [46] h g → g[46]? = some (.inl (1, 201, .inr (.inl (fun j => lN (q_ao f p n y j))))) → (y ≤ n + 1) → mv_g ev mX2_addOne 9 [.ref 46, .int (nI n), .int (nI p), .int (nI y - nI 1), .null, .null] [] g (fun r g => r = none ∧ mv_fra [46] h g ∧ g[46]? = some (.inl (1, 201, .inr (.inl (fun j => lN (q_ao f p n 0 j)))))) := by
  intro fu
  induction fu with
  | zero => intro y g hm fr HA hy; exact absurd hm (by omega)
  | succ fu ih =>
    intro y g hm fr HA hy
    refine mv_iload_n dX2_addOne_9 rfl ?_
    refine mv_if_lt (tgt := 57) dX2_addOne_10 (by decide) (fun c10 => ?_) (fun c10 => ?_)
    · have cl := (q_lt0 (by omega)).mp c10
      have ey : y = 0 := (by omega)
      subst ey
      exact mv_vret dX2_addOne_57 rfl ⟨rfl, fr, HA⟩
    · have cl : 1 ≤ y := (by have c0 : ¬ y = 0 := fun z => c10 ((q_lt0 (by omega)).mpr z); omega)
      rw [show nI y - nI 1 = nI (y - 1) from pk_sub cl]
      have n1 : f (y - 1) * (1000 - p) ≤ 1000000 * 1000 := Nat.mul_le_mul (hf _) (by omega)
      have n2 : f (y - 1 - 1) * p ≤ 1000000 * 1000 := Nat.mul_le_mul (hf _) hp
      refine mv_iload_n dX2_addOne_13 rfl ?_
      refine mv_if_le (tgt := 25) dX2_addOne_14 (by decide) (fun c14 => ?_) (fun c14 => ?_)
      · have c14 : y - 1 ≤ 0 := (nI_leI (b := 0) (by omega) (by omega)).mp c14
        refine mv_lconst (v := lN 0) dX2_addOne_25 rfl ?_
        refine mv_lstore dX2_addOne_26 (by decide) ?_
        refine mv_aload_n dX2_addOne_28 rfl ?_
        refine mv_iload_n dX2_addOne_29 rfl ?_
        refine mv_aload_n dX2_addOne_30 rfl ?_
        refine mv_iload_n dX2_addOne_31 rfl ?_
        refine mv_laN (j := (y - 1)) (x := lN (f (y - 1))) dX2_addOne_32 HA rfl (by decide) (by omega) (congrArg lN (q_ao_f (by omega))) ?_
        refine mv_sipush (v := nI 1000) dX2_addOne_33 (by decide) ?_
        refine mv_iload_n dX2_addOne_36 rfl ?_
        refine mv_isub dX2_addOne_37 ?_
        refine mv_topI (y := nI (1000 - p)) (pk_sub (by omega)) ?_
        refine mv_i2l dX2_addOne_38 ?_
        refine mv_topL (y := lN (1000 - p)) (nI_l (by omega)) ?_
        refine mv_lmul dX2_addOne_39 ?_
        refine mv_topL (y := lN ((f (y - 1)) * (1000 - p))) (lN_mul _ _) ?_
        refine mv_lload dX2_addOne_40 rfl ?_
        refine mv_iload_n dX2_addOne_42 rfl ?_
        refine mv_i2l dX2_addOne_43 ?_
        refine mv_topL (y := lN p) (nI_l (by omega)) ?_
        refine mv_lmul dX2_addOne_44 ?_
        refine mv_topL (y := lN (0 * p)) (lN_mul _ _) ?_
        refine mv_ladd dX2_addOne_45 ?_
        refine mv_topL (y := lN (((f (y - 1)) * (1000 - p)) + (0 * p))) (lN_add _ _) ?_
        refine mv_ldc2 (v := lN 1000) dX2_addOne_46 wd_1093 ?_
        refine mv_ldiv dX2_addOne_49 (by decide) ?_
        refine mv_topL (y := lN (q_nw f p (y - 1))) ((lN_div (by omega) (by decide) (by decide)).trans (congrArg lN (by unfold q_nw; first | rw [if_pos (by omega)] | rw [if_neg (by omega)]))) ?_
        refine mv_lastN (j := (y - 1)) dX2_addOne_50 HA rfl (by decide) (by omega) (fun h1 e2 => ?_)
        rw [upd_lN] at e2
        have HA : h1[46]? = some (.inl (1, 201, .inr (.inl (fun j => lN (t_up (q_ao f p n y) (y - 1) (q_nw f p (y - 1)) j))))) := mv_eq e2 HA
        have fr := fr.set e2 (by decide)
        clear e2
        rw [q_ao_s cl hy] at HA
        refine mv_iinc (v := nI (y - 1) - nI 1) dX2_addOne_51 rfl (q_dc _) (by decide) ?_
        refine mv_goto (tgt := 9) dX2_addOne_54 (by decide) ?_
        refine mv_sub (lv' := [.ref 46, .int (nI n), .int (nI p), .int (nI (y - 1) - nI 1), .null, .null]) ⟨Or.inr rfl, Or.inr rfl, Or.inr rfl, Or.inr rfl, Or.inl rfl, Or.inl rfl, trivial⟩ ?_
        exact ih (y - 1) h1 (by omega) fr HA (by omega)
      · have c14 : ¬ (y - 1 ≤ 0) := fun z => c14 ((nI_leI (b := 0) (by omega) (by omega)).mpr z)
        refine mv_aload_n dX2_addOne_17 rfl ?_
        refine mv_iload_n dX2_addOne_18 rfl ?_
        refine mv_iconst (v := nI 1) dX2_addOne_19 (by decide) ?_
        refine mv_isub dX2_addOne_20 ?_
        refine mv_topI (y := nI ((y - 1) - 1)) (pk_sub (by omega)) ?_
        refine mv_laN (j := ((y - 1) - 1)) (x := lN (f (y - 1 - 1))) dX2_addOne_21 HA rfl (by decide) (by omega) (congrArg lN (q_ao_f (by omega))) ?_
        refine mv_goto (tgt := 26) dX2_addOne_22 (by decide) ?_
        refine mv_lstore dX2_addOne_26 (by decide) ?_
        refine mv_aload_n dX2_addOne_28 rfl ?_
        refine mv_iload_n dX2_addOne_29 rfl ?_
        refine mv_aload_n dX2_addOne_30 rfl ?_
        refine mv_iload_n dX2_addOne_31 rfl ?_
        refine mv_laN (j := (y - 1)) (x := lN (f (y - 1))) dX2_addOne_32 HA rfl (by decide) (by omega) (congrArg lN (q_ao_f (by omega))) ?_
        refine mv_sipush (v := nI 1000) dX2_addOne_33 (by decide) ?_
        refine mv_iload_n dX2_addOne_36 rfl ?_
        refine mv_isub dX2_addOne_37 ?_
        refine mv_topI (y := nI (1000 - p)) (pk_sub (by omega)) ?_
        refine mv_i2l dX2_addOne_38 ?_
        refine mv_topL (y := lN (1000 - p)) (nI_l (by omega)) ?_
        refine mv_lmul dX2_addOne_39 ?_
        refine mv_topL (y := lN ((f (y - 1)) * (1000 - p))) (lN_mul _ _) ?_
        refine mv_lload dX2_addOne_40 rfl ?_
        refine mv_iload_n dX2_addOne_42 rfl ?_
        refine mv_i2l dX2_addOne_43 ?_
        refine mv_topL (y := lN p) (nI_l (by omega)) ?_
        refine mv_lmul dX2_addOne_44 ?_
        refine mv_topL (y := lN ((f (y - 1 - 1)) * p)) (lN_mul _ _) ?_
        refine mv_ladd dX2_addOne_45 ?_
        refine mv_topL (y := lN (((f (y - 1)) * (1000 - p)) + ((f (y - 1 - 1)) * p))) (lN_add _ _) ?_
        refine mv_ldc2 (v := lN 1000) dX2_addOne_46 wd_1093 ?_
        refine mv_ldiv dX2_addOne_49 (by decide) ?_
        refine mv_topL (y := lN (q_nw f p (y - 1))) ((lN_div (by omega) (by decide) (by decide)).trans (congrArg lN (by unfold q_nw; first | rw [if_pos (by omega)] | rw [if_neg (by omega)]))) ?_
        refine mv_lastN (j := (y - 1)) dX2_addOne_50 HA rfl (by decide) (by omega) (fun h3 e4 => ?_)
        rw [upd_lN] at e4
        have HA : h3[46]? = some (.inl (1, 201, .inr (.inl (fun j => lN (t_up (q_ao f p n y) (y - 1) (q_nw f p (y - 1)) j))))) := mv_eq e4 HA
        have fr := fr.set e4 (by decide)
        clear e4
        rw [q_ao_s cl hy] at HA
        refine mv_iinc (v := nI (y - 1) - nI 1) dX2_addOne_51 rfl (q_dc _) (by decide) ?_
        refine mv_goto (tgt := 9) dX2_addOne_54 (by decide) ?_
        refine mv_sub (lv' := [.ref 46, .int (nI n), .int (nI p), .int (nI (y - 1) - nI 1), .null, .null]) ⟨Or.inr rfl, Or.inr rfl, Or.inr rfl, Or.inr rfl, Or.inl rfl, Or.inl rfl, trivial⟩ ?_
        exact ih (y - 1) h3 (by omega) fr HA (by omega)
set_option maxRecDepth 100000 in
theorem k_X2_addOne46 {ev : mv_E} {h : mv_H} {f : Nat → Nat} {n : Nat} {p : Nat} (HA : h[46]? = some (.inl (1, 201, .inr (.inl (fun j => lN (f j)))))) (hf : ∀ i, f i ≤ 1000000) (hn : n ≤ 200) (hp : p ≤ 1000) : ∃ h2, mv_K ev mX2_addOne [.ref 46, .int (nI n), .int (nI p)] h (none) h2 ∧ mv_fra [46] h h2 ∧ h2[46]? = some (.inl (1, 201, .inr (.inl (fun j => lN (q_ao f p n 0 j))))) := by
  suffices g0 : mv_g ev mX2_addOne 0 (mv_ent [.ref 46, .int (nI n), .int (nI p)] (mv_ml mX2_addOne)) [] h (fun r g => r = none ∧ mv_fra [46] h g ∧ g[46]? = some (.inl (1, 201, .inr (.inl (fun j => lN (q_ao f p n 0 j)))))) from (by obtain ⟨r0, h0, K0, q0, Q0⟩ := mv_Kex g0; subst q0; exact ⟨h0, K0, Q0⟩)
  show mv_g ev mX2_addOne 0 [.ref 46, .int (nI n), .int (nI p), .null, .null, .null] [] h _
  have fr : mv_fra [46] h h := mv_fra.rf
  refine mv_iload_n dX2_addOne_0 rfl ?_
  refine mv_aload_n dX2_addOne_1 rfl ?_
  refine mv_alen dX2_addOne_2 HA (by decide) ?_
  refine mv_iconst (v := nI 1) dX2_addOne_3 (by decide) ?_
  refine mv_isub dX2_addOne_4 ?_
  refine mv_topI (y := nI 200) (pk_sub (a := 201) (b := 1) (by decide)) ?_
  refine mv_mmin dX2_addOne_5 wd_1092 (by decide) (Nat.le_of_ble_eq_true rfl) ?_
  refine mv_topI (y := nI n) (by rw [mv_nmin (by omega) (by omega)]; exact congrArg nI (by omega)) ?_
  rw [← q_ao_0 f p n] at HA
  refine mv_topI (y := nI (n + 1) - nI 1) ((pk_sub (by omega)).trans (congrArg nI (by omega))).symm ?_
  refine mv_istore_n dX2_addOne_8 (by decide) ?_
  exact l_X2_addOne46 hf hn hp (n + 2) (n + 1) h (by omega) fr HA (Nat.le_refl _)
set_option maxRecDepth 100000 in
theorem l_X2_begin47 {ev : mv_E} {h : mv_H} {f : Nat → Nat}   : ∀ (fu : Nat) (y : Nat), ∀ (g : mv_H), 201 < y + fu → mv_fra [47] h g → g[47]? = some (.inl (1, 201, .inr (.inl (fun j => lN (q_bg f y j))))) → (y ≤ 201) → mv_g ev mX2_begin 2 [.ref 47, .int (nI y)] [] g (fun r g => r = none ∧ mv_fra [47] h g ∧ g[47]? = some (.inl (1, 201, .inr (.inl (fun j => lN (q_bg f 201 j)))))) := by
  intro fu
  induction fu with
  | zero => intro y g hm fr HA hy; exact absurd hm (by omega)
  | succ fu ih =>
    intro y g hm fr HA hy
    refine mv_iload_n dX2_begin_2 rfl ?_
    refine mv_aload_n dX2_begin_3 rfl ?_
    refine mv_alen dX2_begin_4 HA (by decide) ?_
    refine mv_icmp_ge (tgt := 28) dX2_begin_5 (by decide) (fun c5 => ?_) (fun c5 => ?_)
    · have c5 : 201 ≤ y := (nI_leI (by omega) (by omega)).mp c5
      have ey : y = 201 := (by omega)
      subst ey
      exact mv_vret dX2_begin_28 rfl ⟨rfl, fr, HA⟩
    · have c5 : ¬ (201 ≤ y) := fun z => c5 ((nI_leI (by omega) (by omega)).mpr z)
      refine mv_aload_n dX2_begin_8 rfl ?_
      refine mv_iload_n dX2_begin_9 rfl ?_
      refine mv_iload_n dX2_begin_10 rfl ?_
      refine mv_if_ne (tgt := 20) dX2_begin_11 (by decide) (fun c11 => ?_) (fun c11 => ?_)
      · have c11 : ¬ (y = 0) := fun z => c11 ((nI_eq (b := 0) (by omega) (by omega)).mpr z)
        refine mv_lconst (v := lN 0) dX2_begin_20 rfl ?_
        refine mv_lastN (j := y) dX2_begin_21 HA rfl (by decide) (by omega) (fun h1 e2 => ?_)
        rw [upd_lN] at e2
        have HA : h1[47]? = some (.inl (1, 201, .inr (.inl (fun j => lN (t_up (q_bg f y) y 0 j))))) := mv_eq e2 HA
        have fr := fr.set e2 (by decide)
        clear e2
        have es := q_bg_s f y
        rw [if_neg c11] at es
        rw [es] at HA
        refine mv_iinc (v := nI (y + 1)) dX2_begin_22 rfl (mv_inc y 1) (by decide) ?_
        refine mv_goto (tgt := 2) dX2_begin_25 (by decide) ?_
        exact ih (y + 1) h1 (by omega) fr HA (by omega)
      · have c11 : y = 0 := (nI_eq (b := 0) (by omega) (by omega)).mp c11
        refine mv_ldc2 (v := lN 1000000) dX2_begin_14 wd_1088 ?_
        refine mv_goto (tgt := 21) dX2_begin_17 (by decide) ?_
        refine mv_lastN (j := y) dX2_begin_21 HA rfl (by decide) (by omega) (fun h3 e4 => ?_)
        rw [upd_lN] at e4
        have HA : h3[47]? = some (.inl (1, 201, .inr (.inl (fun j => lN (t_up (q_bg f y) y 1000000 j))))) := mv_eq e4 HA
        have fr := fr.set e4 (by decide)
        clear e4
        have es := q_bg_s f y
        rw [if_pos c11] at es
        rw [es] at HA
        refine mv_iinc (v := nI (y + 1)) dX2_begin_22 rfl (mv_inc y 1) (by decide) ?_
        refine mv_goto (tgt := 2) dX2_begin_25 (by decide) ?_
        exact ih (y + 1) h3 (by omega) fr HA (by omega)
set_option maxRecDepth 100000 in
theorem k_X2_begin47 {ev : mv_E} {h : mv_H} {f : Nat → Nat} (HA : h[47]? = some (.inl (1, 201, .inr (.inl (fun j => lN (f j))))))  : ∃ h2, mv_K ev mX2_begin [.ref 47] h (none) h2 ∧ mv_fra [47] h h2 ∧ h2[47]? = some (.inl (1, 201, .inr (.inl (fun j => lN (q_bg f 201 j))))) := by
  suffices g0 : mv_g ev mX2_begin 0 (mv_ent [.ref 47] (mv_ml mX2_begin)) [] h (fun r g => r = none ∧ mv_fra [47] h g ∧ g[47]? = some (.inl (1, 201, .inr (.inl (fun j => lN (q_bg f 201 j)))))) from (by obtain ⟨r0, h0, K0, q0, Q0⟩ := mv_Kex g0; subst q0; exact ⟨h0, K0, Q0⟩)
  show mv_g ev mX2_begin 0 [.ref 47, .null] [] h _
  have fr : mv_fra [47] h h := mv_fra.rf
  rw [← q_bg_0 f] at HA
  refine mv_iconst (v := nI 0) dX2_begin_0 (by decide) ?_
  refine mv_istore_n dX2_begin_1 (by decide) ?_
  exact l_X2_begin47 (201 + 1) 0 h (by omega) fr HA (Nat.zero_le _)
set_option maxRecDepth 100000 in
theorem l_X2_addOne47 {ev : mv_E} {h : mv_H} {f : Nat → Nat} {n : Nat} {p : Nat}  (hf : ∀ i, f i ≤ 1000000) (hn : n ≤ 200) (hp : p ≤ 1000) : ∀ (fu : Nat) (y : Nat), ∀ (g : mv_H), y < 0 + fu → mv_fra [47] h g → g[47]? = some (.inl (1, 201, .inr (.inl (fun j => lN (q_ao f p n y j))))) → (y ≤ n + 1) → mv_g ev mX2_addOne 9 [.ref 47, .int (nI n), .int (nI p), .int (nI y - nI 1), .null, .null] [] g (fun r g => r = none ∧ mv_fra [47] h g ∧ g[47]? = some (.inl (1, 201, .inr (.inl (fun j => lN (q_ao f p n 0 j)))))) := by
  intro fu
  induction fu with
  | zero => intro y g hm fr HA hy; exact absurd hm (by omega)
  | succ fu ih =>
    intro y g hm fr HA hy
    refine mv_iload_n dX2_addOne_9 rfl ?_
    refine mv_if_lt (tgt := 57) dX2_addOne_10 (by decide) (fun c10 => ?_) (fun c10 => ?_)
    · have cl := (q_lt0 (by omega)).mp c10
      have ey : y = 0 := (by omega)
      subst ey
      exact mv_vret dX2_addOne_57 rfl ⟨rfl, fr, HA⟩
    · have cl : 1 ≤ y := (by have c0 : ¬ y = 0 := fun z => c10 ((q_lt0 (by omega)).mpr z); omega)
      rw [show nI y - nI 1 = nI (y - 1) from pk_sub cl]
      have n1 : f (y - 1) * (1000 - p) ≤ 1000000 * 1000 := Nat.mul_le_mul (hf _) (by omega)
      have n2 : f (y - 1 - 1) * p ≤ 1000000 * 1000 := Nat.mul_le_mul (hf _) hp
      refine mv_iload_n dX2_addOne_13 rfl ?_
      refine mv_if_le (tgt := 25) dX2_addOne_14 (by decide) (fun c14 => ?_) (fun c14 => ?_)
      · have c14 : y - 1 ≤ 0 := (nI_leI (b := 0) (by omega) (by omega)).mp c14
        refine mv_lconst (v := lN 0) dX2_addOne_25 rfl ?_
        refine mv_lstore dX2_addOne_26 (by decide) ?_
        refine mv_aload_n dX2_addOne_28 rfl ?_
        refine mv_iload_n dX2_addOne_29 rfl ?_
        refine mv_aload_n dX2_addOne_30 rfl ?_
        refine mv_iload_n dX2_addOne_31 rfl ?_
        refine mv_laN (j := (y - 1)) (x := lN (f (y - 1))) dX2_addOne_32 HA rfl (by decide) (by omega) (congrArg lN (q_ao_f (by omega))) ?_
        refine mv_sipush (v := nI 1000) dX2_addOne_33 (by decide) ?_
        refine mv_iload_n dX2_addOne_36 rfl ?_
        refine mv_isub dX2_addOne_37 ?_
        refine mv_topI (y := nI (1000 - p)) (pk_sub (by omega)) ?_
        refine mv_i2l dX2_addOne_38 ?_
        refine mv_topL (y := lN (1000 - p)) (nI_l (by omega)) ?_
        refine mv_lmul dX2_addOne_39 ?_
        refine mv_topL (y := lN ((f (y - 1)) * (1000 - p))) (lN_mul _ _) ?_
        refine mv_lload dX2_addOne_40 rfl ?_
        refine mv_iload_n dX2_addOne_42 rfl ?_
        refine mv_i2l dX2_addOne_43 ?_
        refine mv_topL (y := lN p) (nI_l (by omega)) ?_
        refine mv_lmul dX2_addOne_44 ?_
        refine mv_topL (y := lN (0 * p)) (lN_mul _ _) ?_
        refine mv_ladd dX2_addOne_45 ?_
        refine mv_topL (y := lN (((f (y - 1)) * (1000 - p)) + (0 * p))) (lN_add _ _) ?_
        refine mv_ldc2 (v := lN 1000) dX2_addOne_46 wd_1093 ?_
        refine mv_ldiv dX2_addOne_49 (by decide) ?_
        refine mv_topL (y := lN (q_nw f p (y - 1))) ((lN_div (by omega) (by decide) (by decide)).trans (congrArg lN (by unfold q_nw; first | rw [if_pos (by omega)] | rw [if_neg (by omega)]))) ?_
        refine mv_lastN (j := (y - 1)) dX2_addOne_50 HA rfl (by decide) (by omega) (fun h1 e2 => ?_)
        rw [upd_lN] at e2
        have HA : h1[47]? = some (.inl (1, 201, .inr (.inl (fun j => lN (t_up (q_ao f p n y) (y - 1) (q_nw f p (y - 1)) j))))) := mv_eq e2 HA
        have fr := fr.set e2 (by decide)
        clear e2
        rw [q_ao_s cl hy] at HA
        refine mv_iinc (v := nI (y - 1) - nI 1) dX2_addOne_51 rfl (q_dc _) (by decide) ?_
        refine mv_goto (tgt := 9) dX2_addOne_54 (by decide) ?_
        refine mv_sub (lv' := [.ref 47, .int (nI n), .int (nI p), .int (nI (y - 1) - nI 1), .null, .null]) ⟨Or.inr rfl, Or.inr rfl, Or.inr rfl, Or.inr rfl, Or.inl rfl, Or.inl rfl, trivial⟩ ?_
        exact ih (y - 1) h1 (by omega) fr HA (by omega)
      · have c14 : ¬ (y - 1 ≤ 0) := fun z => c14 ((nI_leI (b := 0) (by omega) (by omega)).mpr z)
        refine mv_aload_n dX2_addOne_17 rfl ?_
        refine mv_iload_n dX2_addOne_18 rfl ?_
        refine mv_iconst (v := nI 1) dX2_addOne_19 (by decide) ?_
        refine mv_isub dX2_addOne_20 ?_
        refine mv_topI (y := nI ((y - 1) - 1)) (pk_sub (by omega)) ?_
        refine mv_laN (j := ((y - 1) - 1)) (x := lN (f (y - 1 - 1))) dX2_addOne_21 HA rfl (by decide) (by omega) (congrArg lN (q_ao_f (by omega))) ?_
        refine mv_goto (tgt := 26) dX2_addOne_22 (by decide) ?_
        refine mv_lstore dX2_addOne_26 (by decide) ?_
        refine mv_aload_n dX2_addOne_28 rfl ?_
        refine mv_iload_n dX2_addOne_29 rfl ?_
        refine mv_aload_n dX2_addOne_30 rfl ?_
        refine mv_iload_n dX2_addOne_31 rfl ?_
        refine mv_laN (j := (y - 1)) (x := lN (f (y - 1))) dX2_addOne_32 HA rfl (by decide) (by omega) (congrArg lN (q_ao_f (by omega))) ?_
        refine mv_sipush (v := nI 1000) dX2_addOne_33 (by decide) ?_
        refine mv_iload_n dX2_addOne_36 rfl ?_
        refine mv_isub dX2_addOne_37 ?_
        refine mv_topI (y := nI (1000 - p)) (pk_sub (by omega)) ?_
        refine mv_i2l dX2_addOne_38 ?_
        refine mv_topL (y := lN (1000 - p)) (nI_l (by omega)) ?_
        refine mv_lmul dX2_addOne_39 ?_
        refine mv_topL (y := lN ((f (y - 1)) * (1000 - p))) (lN_mul _ _) ?_
        refine mv_lload dX2_addOne_40 rfl ?_
        refine mv_iload_n dX2_addOne_42 rfl ?_
        refine mv_i2l dX2_addOne_43 ?_
        refine mv_topL (y := lN p) (nI_l (by omega)) ?_
        refine mv_lmul dX2_addOne_44 ?_
        refine mv_topL (y := lN ((f (y - 1 - 1)) * p)) (lN_mul _ _) ?_
        refine mv_ladd dX2_addOne_45 ?_
        refine mv_topL (y := lN (((f (y - 1)) * (1000 - p)) + ((f (y - 1 - 1)) * p))) (lN_add _ _) ?_
        refine mv_ldc2 (v := lN 1000) dX2_addOne_46 wd_1093 ?_
        refine mv_ldiv dX2_addOne_49 (by decide) ?_
        refine mv_topL (y := lN (q_nw f p (y - 1))) ((lN_div (by omega) (by decide) (by decide)).trans (congrArg lN (by unfold q_nw; first | rw [if_pos (by omega)] | rw [if_neg (by omega)]))) ?_
        refine mv_lastN (j := (y - 1)) dX2_addOne_50 HA rfl (by decide) (by omega) (fun h3 e4 => ?_)
        rw [upd_lN] at e4
        have HA : h3[47]? = some (.inl (1, 201, .inr (.inl (fun j => lN (t_up (q_ao f p n y) (y - 1) (q_nw f p (y - 1)) j))))) := mv_eq e4 HA
        have fr := fr.set e4 (by decide)
        clear e4
        rw [q_ao_s cl hy] at HA
        refine mv_iinc (v := nI (y - 1) - nI 1) dX2_addOne_51 rfl (q_dc _) (by decide) ?_
        refine mv_goto (tgt := 9) dX2_addOne_54 (by decide) ?_
        refine mv_sub (lv' := [.ref 47, .int (nI n), .int (nI p), .int (nI (y - 1) - nI 1), .null, .null]) ⟨Or.inr rfl, Or.inr rfl, Or.inr rfl, Or.inr rfl, Or.inl rfl, Or.inl rfl, trivial⟩ ?_
        exact ih (y - 1) h3 (by omega) fr HA (by omega)
set_option maxRecDepth 100000 in
theorem k_X2_addOne47 {ev : mv_E} {h : mv_H} {f : Nat → Nat} {n : Nat} {p : Nat} (HA : h[47]? = some (.inl (1, 201, .inr (.inl (fun j => lN (f j)))))) (hf : ∀ i, f i ≤ 1000000) (hn : n ≤ 200) (hp : p ≤ 1000) : ∃ h2, mv_K ev mX2_addOne [.ref 47, .int (nI n), .int (nI p)] h (none) h2 ∧ mv_fra [47] h h2 ∧ h2[47]? = some (.inl (1, 201, .inr (.inl (fun j => lN (q_ao f p n 0 j))))) := by
  suffices g0 : mv_g ev mX2_addOne 0 (mv_ent [.ref 47, .int (nI n), .int (nI p)] (mv_ml mX2_addOne)) [] h (fun r g => r = none ∧ mv_fra [47] h g ∧ g[47]? = some (.inl (1, 201, .inr (.inl (fun j => lN (q_ao f p n 0 j)))))) from (by obtain ⟨r0, h0, K0, q0, Q0⟩ := mv_Kex g0; subst q0; exact ⟨h0, K0, Q0⟩)
  show mv_g ev mX2_addOne 0 [.ref 47, .int (nI n), .int (nI p), .null, .null, .null] [] h _
  have fr : mv_fra [47] h h := mv_fra.rf
  refine mv_iload_n dX2_addOne_0 rfl ?_
  refine mv_aload_n dX2_addOne_1 rfl ?_
  refine mv_alen dX2_addOne_2 HA (by decide) ?_
  refine mv_iconst (v := nI 1) dX2_addOne_3 (by decide) ?_
  refine mv_isub dX2_addOne_4 ?_
  refine mv_topI (y := nI 200) (pk_sub (a := 201) (b := 1) (by decide)) ?_
  refine mv_mmin dX2_addOne_5 wd_1092 (by decide) (Nat.le_of_ble_eq_true rfl) ?_
  refine mv_topI (y := nI n) (by rw [mv_nmin (by omega) (by omega)]; exact congrArg nI (by omega)) ?_
  rw [← q_ao_0 f p n] at HA
  refine mv_topI (y := nI (n + 1) - nI 1) ((pk_sub (by omega)).trans (congrArg nI (by omega))).symm ?_
  refine mv_istore_n dX2_addOne_8 (by decide) ?_
  exact l_X2_addOne47 hf hn hp (n + 2) (n + 1) h (by omega) fr HA (Nat.le_refl _)
set_option maxRecDepth 100000 in
theorem k_X2_oddYears {ev : mv_E} {h : mv_H} {fo : Int32} (HM : h[45]? = some (.inr (2, [.ref 46, .ref 47, .int fo])))  : mv_K ev mX2_oddYears [.ref 45] h (some (.int fo)) h := by
  refine mv_Kof ?_
  show mv_g ev mX2_oddYears 0 [.ref 45] [] h _
  refine mv_aload_n dX2_oddYears_0 rfl ?_
  refine mv_getf (ci := 2) (f := 2) dX2_oddYears_1 HM rfl (by decide) wd_345 rfl ?_
  exact mv_iret dX2_oddYears_4 rfl rfl ⟨rfl, rfl⟩
set_option maxRecDepth 100000 in
theorem l_X2_luckB {ev : mv_E} {h : mv_H} {f : Nat → Nat} {fo : Int32} {n : Nat} {p : Nat} {k : Nat}  (hf : ∀ i, f i ≤ 1000000) (hn : n ≤ 200) (hp : p ≤ 1000) (hk : k ≤ n) : ∀ (fu : Nat) (v : Nat) (u : Nat), ∀ (g : mv_H), n + 1 < u + fu → mv_fra [46] h g → g[46]? = some (.inl (1, 201, .inr (.inl (fun j => lN ((q_rows p (q_bg f 201) n) j))))) → g[45]? = some (.inr (2, [.ref 46, .ref 47, .int fo])) → (k ≤ u) → (u ≤ n + 1) → (v = q_sm (q_rows p (q_bg f 201) n) k (u - k)) → mv_g ev mX2_rightByLuck 42 [.ref 45, .int (nI n), .int (nI p), .int (nI k), .long (lN v), .null, .int (nI u)] [] g (fun r g => r = some (.int (nI (q_sm (q_rows p (q_bg f 201) n) k (n + 1 - k)))) ∧ mv_fra [46] h g ∧ g[46]? = some (.inl (1, 201, .inr (.inl (fun j => lN ((q_rows p (q_bg f 201) n) j)))))) := by
  intro fu
  induction fu with
  | zero => intro v u g hm fr H46 HM hu hu2 hv; exact absurd hm (by omega)
  | succ fu ih =>
    intro v u g hm fr H46 HM hu hu2 hv
    have hb := q_bg_le hf 201
    refine mv_iload dX2_rightByLuck_42 rfl ?_
    refine mv_iload_n dX2_rightByLuck_44 rfl ?_
    refine mv_icmp_gt (tgt := 76) dX2_rightByLuck_45 (by decide) (fun c45 => ?_) (fun c45 => ?_)
    · have c45 : n < u := (nI_ltI (by omega) (by omega)).mp c45
      refine mv_lload dX2_rightByLuck_76 rfl ?_
      refine mv_l2i dX2_rightByLuck_78 ?_
      refine mv_topI (y := nI v) (lN_i _) ?_
      exact mv_iret dX2_rightByLuck_79 rfl rfl ⟨(congrArg (fun z => some (Value.int z)) (congrArg nI (by rw [hv, show u = n + 1 by omega]))), fr, H46⟩
    · have c45 : ¬ (n < u) := fun z => c45 ((nI_ltI (by omega) (by omega)).mpr z)
      have n1 := q_rows_le hb hp n
      have n2 := q_sm_le n1 k (u - k)
      have n3 := n1 u
      refine mv_iload dX2_rightByLuck_48 rfl ?_
      refine mv_aload_n dX2_rightByLuck_50 rfl ?_
      refine mv_getf (ci := 2) (f := 0) dX2_rightByLuck_51 HM rfl (by decide) wd_343 rfl ?_
      refine mv_alen dX2_rightByLuck_54 H46 (by decide) ?_
      refine mv_icmp_ge (tgt := 76) dX2_rightByLuck_55 (by decide) (fun z => absurd z ((fun z => absurd ((nI_leI (by omega) (by omega)).mp z) (by omega)))) (fun c55 => ?_)
      refine mv_lload dX2_rightByLuck_58 rfl ?_
      refine mv_aload_n dX2_rightByLuck_60 rfl ?_
      refine mv_getf (ci := 2) (f := 0) dX2_rightByLuck_61 HM rfl (by decide) wd_343 rfl ?_
      refine mv_iload dX2_rightByLuck_64 rfl ?_
      refine mv_laN (j := u) (x := lN ((q_rows p (q_bg f 201) n) u)) dX2_rightByLuck_66 H46 rfl (by decide) (by omega) rfl ?_
      refine mv_ladd dX2_rightByLuck_67 ?_
      refine mv_topL (y := lN (v + ((q_rows p (q_bg f 201) n) u))) (lN_add _ _) ?_
      refine mv_lstore dX2_rightByLuck_68 (by decide) ?_
      refine mv_iinc (v := nI (u + 1)) dX2_rightByLuck_70 rfl (mv_inc u 1) (by decide) ?_
      refine mv_goto (tgt := 42) dX2_rightByLuck_73 (by decide) ?_
      exact ih (v + ((q_rows p (q_bg f 201) n) u)) (u + 1) g (by omega) fr H46 HM (by omega) (by omega) (by rw [q_sm_s hu, ← hv])
set_option maxRecDepth 100000 in
theorem l_X2_luckA {ev : mv_E} {h : mv_H} {f : Nat → Nat} {fo : Int32} {n : Nat} {p : Nat} {k : Nat}  (hf : ∀ i, f i ≤ 1000000) (hn : n ≤ 200) (hp : p ≤ 1000) (hk : k ≤ n) : ∀ (fu : Nat) (y : Nat), ∀ (g : mv_H), n < y + fu → mv_fra [46] h g → g[46]? = some (.inl (1, 201, .inr (.inl (fun j => lN ((q_rows p (q_bg f 201) y) j))))) → g[45]? = some (.inr (2, [.ref 46, .ref 47, .int fo])) → (y ≤ n) → mv_g ev mX2_rightByLuck 10 [.ref 45, .int (nI n), .int (nI p), .int (nI k), .int (nI (y + 1)), .null, .null] [] g (fun r g => r = some (.int (nI (q_sm (q_rows p (q_bg f 201) n) k (n + 1 - k)))) ∧ mv_fra [46] h g ∧ g[46]? = some (.inl (1, 201, .inr (.inl (fun j => lN ((q_rows p (q_bg f 201) n) j)))))) := by
  intro fu
  induction fu with
  | zero => intro y g hm fr H46 HM hy; exact absurd hm (by omega)
  | succ fu ih =>
    intro y g hm fr H46 HM hy
    have hb := q_bg_le hf 201
    refine mv_iload dX2_rightByLuck_10 rfl ?_
    refine mv_iload_n dX2_rightByLuck_12 rfl ?_
    refine mv_icmp_gt (tgt := 32) dX2_rightByLuck_13 (by decide) (fun c13 => ?_) (fun c13 => ?_)
    · have c13 : n < y + 1 := (nI_ltI (by omega) (by omega)).mp c13
      have ey : y = n := (by omega)
      rw [ey] at H46
      refine mv_lconst (v := lN 0) dX2_rightByLuck_32 rfl ?_
      refine mv_lstore dX2_rightByLuck_33 (by decide) ?_
      refine mv_iconst (v := nI 0) dX2_rightByLuck_35 (by decide) ?_
      refine mv_iload_n dX2_rightByLuck_36 rfl ?_
      refine mv_mmax dX2_rightByLuck_37 wd_1094 (by decide) (Nat.le_of_ble_eq_true rfl) ?_
      refine mv_topI (y := nI k) (by rw [mv_nmax (by omega) (by omega)]; exact congrArg nI (by omega)) ?_
      refine mv_istore dX2_rightByLuck_40 (by decide) ?_
      exact l_X2_luckB hf hn hp hk (n + 2) 0 k g (by omega) fr H46 HM (Nat.le_refl _) (by omega) (by rw [Nat.sub_self]; rfl)
    · have c13 : ¬ (n < y + 1) := fun z => c13 ((nI_ltI (by omega) (by omega)).mpr z)
      refine mv_aload_n dX2_rightByLuck_16 rfl ?_
      refine mv_getf (ci := 2) (f := 0) dX2_rightByLuck_17 HM rfl (by decide) wd_343 rfl ?_
      refine mv_iload dX2_rightByLuck_20 rfl ?_
      refine mv_iload_n dX2_rightByLuck_22 rfl ?_
      obtain ⟨h1, K2, f3, y4⟩ := (k_X2_addOne46 (ev := ev) (f := (q_rows p (q_bg f 201) y)) (n := (y + 1)) (p := p) H46 (q_rows_le hb hp y) (by omega) hp)
      refine mv_cS3 dX2_rightByLuck_23 lk_X2_rightByLuck_26 (Nat.le_of_ble_eq_true rfl) (Nat.le_of_ble_eq_true rfl) K2 ?_
      have HM := f3.get (by decide) HM
      have H46 : h1[46]? = some (.inl (1, 201, .inr (.inl (fun j => lN (q_ao (q_rows p (q_bg f 201) y) p (y + 1) 0 j))))) := y4
      have fr := fr.trans f3 (by decide)
      refine mv_iinc (v := nI (y + 1 + 1)) dX2_rightByLuck_26 rfl (mv_inc (y + 1) 1) (by decide) ?_
      refine mv_goto (tgt := 10) dX2_rightByLuck_29 (by decide) ?_
      exact ih (y + 1) h1 (by omega) fr H46 HM (by omega)
set_option maxRecDepth 100000 in
theorem k_X2_rightByLuck {ev : mv_E} {h : mv_H} {f : Nat → Nat} {fo : Int32} {n : Nat} {p : Nat} {k : Nat} (HM : h[45]? = some (.inr (2, [.ref 46, .ref 47, .int fo]))) (H46 : h[46]? = some (.inl (1, 201, .inr (.inl (fun j => lN (f j)))))) (hf : ∀ i, f i ≤ 1000000) (hn : n ≤ 200) (hp : p ≤ 1000) (hk : k ≤ n) : ∃ h2, mv_K ev mX2_rightByLuck [.ref 45, .int (nI n), .int (nI p), .int (nI k)] h (some (.int (nI (q_sm (q_rows p (q_bg f 201) n) k (n + 1 - k))))) h2 ∧ mv_fra [46] h h2 ∧ h2[46]? = some (.inl (1, 201, .inr (.inl (fun j => lN ((q_rows p (q_bg f 201) n) j))))) := by
  suffices g0 : mv_g ev mX2_rightByLuck 0 (mv_ent [.ref 45, .int (nI n), .int (nI p), .int (nI k)] (mv_ml mX2_rightByLuck)) [] h (fun r g => r = some (.int (nI (q_sm (q_rows p (q_bg f 201) n) k (n + 1 - k)))) ∧ mv_fra [46] h g ∧ g[46]? = some (.inl (1, 201, .inr (.inl (fun j => lN ((q_rows p (q_bg f 201) n) j)))))) from (by obtain ⟨r0, h0, K0, q0, Q0⟩ := mv_Kex g0; subst q0; exact ⟨h0, K0, Q0⟩)
  show mv_g ev mX2_rightByLuck 0 [.ref 45, .int (nI n), .int (nI p), .int (nI k), .null, .null, .null] [] h _
  have fr : mv_fra [46] h h := mv_fra.rf
  have hb := q_bg_le hf 201
  refine mv_aload_n dX2_rightByLuck_0 rfl ?_
  refine mv_getf (ci := 2) (f := 0) dX2_rightByLuck_1 HM rfl (by decide) wd_343 rfl ?_
  obtain ⟨h1, K2, f3, y4⟩ := (k_X2_begin46 (ev := ev) (f := f) H46)
  refine mv_cS1 dX2_rightByLuck_4 lk_X2_rightByLuck_22 (Nat.le_of_ble_eq_true rfl) (Nat.le_of_ble_eq_true rfl) K2 ?_
  have HM := f3.get (by decide) HM
  have H46 : h1[46]? = some (.inl (1, 201, .inr (.inl (fun j => lN (q_bg f 201 j))))) := y4
  have fr := fr.trans f3 (by decide)
  refine mv_iconst (v := nI 1) dX2_rightByLuck_7 (by decide) ?_
  refine mv_topI (y := nI (0 + 1)) rfl ?_
  refine mv_istore dX2_rightByLuck_8 (by decide) ?_
  exact l_X2_luckA hf hn hp hk (n + 1) 0 h1 (by omega) fr H46 HM (Nat.zero_le _)
theorem q_lo_s {d o : Nat → Nat} {n x y u : Nat} (h : 1 ≤ u) (hu : u ≤ n + 1) : q_lo d o n x y (n + 1 - (u - 1)) = if q_sm d (u - 1) (n + 1 - (u - 1)) ≤ x ∧ y ≤ q_sm o (u - 1) (n + 1 - (u - 1)) then nI (u - 1) else q_lo d o n x y (n + 1 - u) := by
  have e : n + 1 - (u - 1) = (n + 1 - u) + 1 := by omega
  have e2 : q_lo d o n x y ((n + 1 - u) + 1) = if q_sm d (n - (n + 1 - u)) ((n + 1 - u) + 1) ≤ x ∧ y ≤ q_sm o (n - (n + 1 - u)) ((n + 1 - u) + 1) then nI (n - (n + 1 - u)) else q_lo d o n x y (n + 1 - u) := rfl
  rw [e, e2, show n - (n + 1 - u) = u - 1 by omega]
theorem q_sm_d {f : Nat → Nat} {n u v : Nat} (h : 1 ≤ u) (hu : u ≤ n + 1) (hv : v = q_sm f u (n + 1 - u)) : q_sm f (u - 1) (n + 1 - (u - 1)) = v + f (u - 1) := by
  rw [hv, show n + 1 - (u - 1) = (n + 1 - u) + 1 by omega, q_sm_f, show u - 1 + 1 = u by omega, Nat.add_comm]
def q_yr (P : Nat → Int32) : Int32 := if P (q_yn P 60 0) = -1 then -1 else nI (q_yn P 60 0)
set_option maxRecDepth 100000 in
theorem l_X2_leastOdd {ev : mv_E} {h : mv_H} {f : Nat → Nat} {gg : Nat → Nat} {fo : Int32} {n : Nat} {x : Nat} {y : Nat} (HM : h[45]? = some (.inr (2, [.ref 46, .ref 47, .int fo]))) (H46 : h[46]? = some (.inl (1, 201, .inr (.inl (fun j => lN (f j)))))) (H47 : h[47]? = some (.inl (1, 201, .inr (.inl (fun j => lN (gg j)))))) (hf : ∀ i, f i ≤ 1000000) (hg : ∀ i, gg i ≤ 1000000) (hn : n ≤ 200) (hx : x ≤ 1000000) (hy : y ≤ 1000000) : ∀ (fu : Nat) (v1 : Nat) (v2 : Nat) (lo : Int32) (u : Nat), u < 0 + fu → (u ≤ n + 1) → (v1 = q_sm f u (n + 1 - u)) → (v2 = q_sm gg u (n + 1 - u)) → (lo = q_lo f gg n x y (n + 1 - u)) → mv_g ev mX2_leastOdd 18 [.ref 45, .int (nI n), .int (nI x), .int (nI y), .long (lN v1), .null, .long (lN v2), .null, .int lo, .int (nI u - nI 1)] [] h (fun r g => r = some (.int (q_lo f gg n x y (n + 1))) ∧ g = h) := by
  intro fu
  induction fu with
  | zero => intro v1 v2 lo u hm hu hv1 hv2 hlo; exact absurd hm (by omega)
  | succ fu ih =>
    intro v1 v2 lo u hm hu hv1 hv2 hlo
    refine mv_iload dX2_leastOdd_18 rfl ?_
    refine mv_if_lt (tgt := 73) dX2_leastOdd_20 (by decide) (fun c20 => ?_) (fun c20 => ?_)
    · have cl := (q_lt0 (by omega)).mp c20
      refine mv_iload dX2_leastOdd_73 rfl ?_
      exact mv_iret dX2_leastOdd_75 rfl rfl ⟨(congrArg (fun z => some (Value.int z)) (by rw [hlo, show n + 1 - u = n + 1 by omega])), rfl⟩
    · have cl : 1 ≤ u := (by have c0 : ¬ u = 0 := fun z => c20 ((q_lt0 (by omega)).mpr z); omega)
      rw [show nI u - nI 1 = nI (u - 1) from pk_sub cl]
      have n1 := hf (u - 1)
      have n2 := hg (u - 1)
      have n3 := q_sm_le hf u (n + 1 - u)
      have n4 := q_sm_le hg u (n + 1 - u)
      refine mv_lload dX2_leastOdd_23 rfl ?_
      refine mv_aload_n dX2_leastOdd_25 rfl ?_
      refine mv_getf (ci := 2) (f := 0) dX2_leastOdd_26 HM rfl (by decide) wd_343 rfl ?_
      refine mv_iload dX2_leastOdd_29 rfl ?_
      refine mv_laN (j := (u - 1)) (x := lN (f (u - 1))) dX2_leastOdd_31 H46 rfl (by decide) (by omega) rfl ?_
      refine mv_ladd dX2_leastOdd_32 ?_
      refine mv_topL (y := lN (v1 + (f (u - 1)))) (lN_add _ _) ?_
      refine mv_lstore dX2_leastOdd_33 (by decide) ?_
      refine mv_lload dX2_leastOdd_35 rfl ?_
      refine mv_aload_n dX2_leastOdd_37 rfl ?_
      refine mv_getf (ci := 2) (f := 1) dX2_leastOdd_38 HM rfl (by decide) wd_344 rfl ?_
      refine mv_iload dX2_leastOdd_41 rfl ?_
      refine mv_laN (j := (u - 1)) (x := lN (gg (u - 1))) dX2_leastOdd_43 H47 rfl (by decide) (by omega) rfl ?_
      refine mv_ladd dX2_leastOdd_44 ?_
      refine mv_topL (y := lN (v2 + (gg (u - 1)))) (lN_add _ _) ?_
      refine mv_lstore dX2_leastOdd_45 (by decide) ?_
      refine mv_lload dX2_leastOdd_47 rfl ?_
      refine mv_iload_n dX2_leastOdd_49 rfl ?_
      refine mv_i2l dX2_leastOdd_50 ?_
      refine mv_topL (y := lN x) (nI_l (by omega)) ?_
      refine mv_lcmp dX2_leastOdd_51 ?_
      refine mv_if_gt (tgt := 67) dX2_leastOdd_52 (by decide) (fun c52 => ?_) (fun c52 => ?_)
      · have c52 : x < v1 + (f (u - 1)) := (lN_ltB (by omega) (by omega)).mp ((lg_cmp_gt _ _).mp c52)
        have s1 := q_sm_d cl hu hv1
        have s2 := q_sm_d cl hu hv2
        refine mv_iinc (v := nI (u - 1) - nI 1) dX2_leastOdd_67 rfl (q_dc _) (by decide) ?_
        refine mv_goto (tgt := 18) dX2_leastOdd_70 (by decide) ?_
        exact ih (v1 + (f (u - 1))) (v2 + (gg (u - 1))) lo (u - 1) (by omega) (by omega) s1.symm s2.symm (by rw [q_lo_s cl hu]; first | exact (if_pos ⟨by omega, by omega⟩).symm | exact hlo.trans (if_neg (fun z => absurd z (by omega))).symm)
      · have c52 : ¬ (x < v1 + (f (u - 1))) := fun z => c52 ((lg_cmp_gt _ _).mpr ((lN_ltB (by omega) (by omega)).mpr z))
        refine mv_lload dX2_leastOdd_55 rfl ?_
        refine mv_iload_n dX2_leastOdd_57 rfl ?_
        refine mv_i2l dX2_leastOdd_58 ?_
        refine mv_topL (y := lN y) (nI_l (by omega)) ?_
        refine mv_lcmp dX2_leastOdd_59 ?_
        refine mv_if_lt (tgt := 67) dX2_leastOdd_60 (by decide) (fun c60 => ?_) (fun c60 => ?_)
        · have c60 : v2 + (gg (u - 1)) < y := (lN_ltB (by omega) (by omega)).mp ((lg_cmp_lt _ _).mp c60)
          have s1 := q_sm_d cl hu hv1
          have s2 := q_sm_d cl hu hv2
          refine mv_iinc (v := nI (u - 1) - nI 1) dX2_leastOdd_67 rfl (q_dc _) (by decide) ?_
          refine mv_goto (tgt := 18) dX2_leastOdd_70 (by decide) ?_
          exact ih (v1 + (f (u - 1))) (v2 + (gg (u - 1))) lo (u - 1) (by omega) (by omega) s1.symm s2.symm (by rw [q_lo_s cl hu]; first | exact (if_pos ⟨by omega, by omega⟩).symm | exact hlo.trans (if_neg (fun z => absurd z (by omega))).symm)
        · have c60 : ¬ (v2 + (gg (u - 1)) < y) := fun z => c60 ((lg_cmp_lt _ _).mpr ((lN_ltB (by omega) (by omega)).mpr z))
          refine mv_iload dX2_leastOdd_63 rfl ?_
          refine mv_istore dX2_leastOdd_65 (by decide) ?_
          have s1 := q_sm_d cl hu hv1
          have s2 := q_sm_d cl hu hv2
          refine mv_iinc (v := nI (u - 1) - nI 1) dX2_leastOdd_67 rfl (q_dc _) (by decide) ?_
          refine mv_goto (tgt := 18) dX2_leastOdd_70 (by decide) ?_
          exact ih (v1 + (f (u - 1))) (v2 + (gg (u - 1))) (nI (u - 1)) (u - 1) (by omega) (by omega) s1.symm s2.symm (by rw [q_lo_s cl hu]; first | exact (if_pos ⟨by omega, by omega⟩).symm | exact hlo.trans (if_neg (fun z => absurd z (by omega))).symm)
set_option maxRecDepth 100000 in
theorem k_X2_leastOdd {ev : mv_E} {h : mv_H} {f : Nat → Nat} {gg : Nat → Nat} {fo : Int32} {n : Nat} {x : Nat} {y : Nat} (HM : h[45]? = some (.inr (2, [.ref 46, .ref 47, .int fo]))) (H46 : h[46]? = some (.inl (1, 201, .inr (.inl (fun j => lN (f j)))))) (H47 : h[47]? = some (.inl (1, 201, .inr (.inl (fun j => lN (gg j)))))) (hf : ∀ i, f i ≤ 1000000) (hg : ∀ i, gg i ≤ 1000000) (hn : n ≤ 200) (hx : x ≤ 1000000) (hy : y ≤ 1000000) : mv_K ev mX2_leastOdd [.ref 45, .int (nI n), .int (nI x), .int (nI y)] h (some (.int (q_lo f gg n x y (n + 1)))) h := by
  refine mv_Kof ?_
  show mv_g ev mX2_leastOdd 0 [.ref 45, .int (nI n), .int (nI x), .int (nI y), .null, .null, .null, .null, .null, .null] [] h _
  refine mv_lconst (v := lN 0) dX2_leastOdd_0 rfl ?_
  refine mv_lstore dX2_leastOdd_1 (by decide) ?_
  refine mv_lconst (v := lN 0) dX2_leastOdd_3 rfl ?_
  refine mv_lstore dX2_leastOdd_4 (by decide) ?_
  refine mv_iconst (v := (-1)) dX2_leastOdd_6 (by decide) ?_
  refine mv_istore dX2_leastOdd_7 (by decide) ?_
  refine mv_iload_n dX2_leastOdd_9 rfl ?_
  refine mv_sipush (v := nI 200) dX2_leastOdd_10 (by decide) ?_
  refine mv_mmin dX2_leastOdd_13 wd_1092 (by decide) (Nat.le_of_ble_eq_true rfl) ?_
  refine mv_topI (y := nI n) (by rw [mv_nmin (by omega) (by omega)]; exact congrArg nI (by omega)) ?_
  refine mv_topI (y := nI (n + 1) - nI 1) ((pk_sub (by omega)).trans (congrArg nI (by omega))).symm ?_
  refine mv_istore dX2_leastOdd_16 (by decide) ?_
  exact l_X2_leastOdd HM H46 H47 hf hg hn hx hy (n + 2) 0 0 (-1) (n + 1) (by omega) (Nat.le_refl _) (by rw [Nat.sub_self]; rfl) (by rw [Nat.sub_self]; rfl) (by rw [Nat.sub_self]; rfl)
set_option maxRecDepth 100000 in
theorem l_X2_years {ev : mv_E} {h : mv_H} {f : Nat → Nat} {gg : Nat → Nat} {r1 : Nat} {t : Nat} {x : Nat} {y : Nat}  (hf : ∀ i, f i ≤ 1000000) (hg : ∀ i, gg i ≤ 1000000) (hr : r1 ≤ 1000) (ht : t ≤ 1000) (hx : x ≤ 1000000) (hy : y ≤ 1000000) : ∀ (fu : Nat) (m : Nat) (f2 : Int32), ∀ (g : mv_H), 60 < m + fu → mv_fra [45, 46, 47] h g → g[45]? = some (.inr (2, [.ref 46, .ref 47, .int f2])) → g[46]? = some (.inl (1, 201, .inr (.inl (fun j => lN (q_rows r1 (q_bg f 201) m j))))) → g[47]? = some (.inl (1, 201, .inr (.inl (fun j => lN (q_rows t (q_bg gg 201) m j))))) → (m ≤ 60) → (q_yn (q_lP r1 t x y (q_bg f 201) (q_bg gg 201)) (60 - m) m = q_yn (q_lP r1 t x y (q_bg f 201) (q_bg gg 201)) 60 0) → (m = 0 ∨ (f2 = (q_lP r1 t x y (q_bg f 201) (q_bg gg 201)) m ∧ (q_lP r1 t x y (q_bg f 201) (q_bg gg 201)) m = -1)) → mv_g ev mX2_yearsToCount 17 [.ref 45, .int (nI r1), .int (nI t), .int (nI x), .int (nI y), .int (nI (m + 1))] [] g (fun r g => r = some (.int (q_yr (q_lP r1 t x y (q_bg f 201) (q_bg gg 201)))) ∧ mv_fra [45, 46, 47] h g ∧ g[45]? = some (.inr (2, [.ref 46, .ref 47, .int ((q_lP r1 t x y (q_bg f 201) (q_bg gg 201)) (q_yn (q_lP r1 t x y (q_bg f 201) (q_bg gg 201)) 60 0))])) ∧ g[46]? = some (.inl (1, 201, .inr (.inl (fun j => lN (q_rows r1 (q_bg f 201) (q_yn (q_lP r1 t x y (q_bg f 201) (q_bg gg 201)) 60 0) j))))) ∧ g[47]? = some (.inl (1, 201, .inr (.inl (fun j => lN (q_rows t (q_bg gg 201) (q_yn (q_lP r1 t x y (q_bg f 201) (q_bg gg 201)) 60 0) j)))))) := by
  intro fu
  induction fu with
  | zero => intro m f2 g hm fr HM H46 H47 hm hq hfo; exact absurd hm (by omega)
  | succ fu ih =>
    intro m f2 g hm fr HM H46 H47 hm hq hfo
    have hb := q_bg_le hf 201
    have hb2 := q_bg_le hg 201
    refine mv_iload dX2_yearsToCount_17 rfl ?_
    refine mv_bipush (v := nI 60) dX2_yearsToCount_19 (by decide) ?_
    refine mv_icmp_gt (tgt := 74) dX2_yearsToCount_21 (by decide) (fun c21 => ?_) (fun c21 => ?_)
    · have c21 : 60 < m + 1 := (nI_ltI (by omega) (by omega)).mp c21
      have em : m = 60 := (by omega)
      rcases hfo with z | ⟨z1, z2⟩
      · exact absurd z (by omega)
      subst em
      subst z1
      refine mv_iconst (v := (-1)) dX2_yearsToCount_74 (by decide) ?_
      have eN : q_yn (q_lP r1 t x y (q_bg f 201) (q_bg gg 201)) 60 0 = 60 := (hq.symm.trans rfl)
      exact mv_iret dX2_yearsToCount_75 rfl rfl ⟨(congrArg (fun z => some (Value.int z)) (by unfold q_yr; rw [eN]; exact (if_pos z2).symm)), fr, (by rw [eN]; exact HM), (by rw [eN]; exact H46), (by rw [eN]; exact H47)⟩
    · have c21 : ¬ (60 < m + 1) := fun z => c21 ((nI_ltI (by omega) (by omega)).mpr z)
      refine mv_aload_n dX2_yearsToCount_24 rfl ?_
      refine mv_getf (ci := 2) (f := 0) dX2_yearsToCount_25 HM rfl (by decide) wd_343 rfl ?_
      refine mv_iload dX2_yearsToCount_28 rfl ?_
      refine mv_iload_n dX2_yearsToCount_30 rfl ?_
      obtain ⟨h1, K2, f3, y4⟩ := (k_X2_addOne46 (ev := ev) (f := q_rows r1 (q_bg f 201) m) (n := (m + 1)) (p := r1) H46 (q_rows_le hb hr m) (by omega) hr)
      refine mv_cS3 dX2_yearsToCount_31 lk_X2_yearsToCount_26 (Nat.le_of_ble_eq_true rfl) (Nat.le_of_ble_eq_true rfl) K2 ?_
      have HM := f3.get (by decide) HM
      have H46 : h1[46]? = some (.inl (1, 201, .inr (.inl (fun j => lN (q_ao (q_rows r1 (q_bg f 201) m) r1 (m + 1) 0 j))))) := y4
      have H47 := f3.get (by decide) H47
      have fr := fr.trans f3 (by decide)
      refine mv_aload_n dX2_yearsToCount_34 rfl ?_
      refine mv_getf (ci := 2) (f := 1) dX2_yearsToCount_35 HM rfl (by decide) wd_344 rfl ?_
      refine mv_iload dX2_yearsToCount_38 rfl ?_
      refine mv_iload_n dX2_yearsToCount_40 rfl ?_
      obtain ⟨h5, K6, f7, y8⟩ := (k_X2_addOne47 (ev := ev) (f := q_rows t (q_bg gg 201) m) (n := (m + 1)) (p := t) H47 (q_rows_le hb2 ht m) (by omega) ht)
      refine mv_cS3 dX2_yearsToCount_41 lk_X2_yearsToCount_26 (Nat.le_of_ble_eq_true rfl) (Nat.le_of_ble_eq_true rfl) K6 ?_
      have HM := f7.get (by decide) HM
      have H46 := f7.get (by decide) H46
      have H47 : h5[47]? = some (.inl (1, 201, .inr (.inl (fun j => lN (q_ao (q_rows t (q_bg gg 201) m) t (m + 1) 0 j))))) := y8
      have fr := fr.trans f7 (by decide)
      refine mv_aload_n dX2_yearsToCount_44 rfl ?_
      refine mv_aload_n dX2_yearsToCount_45 rfl ?_
      refine mv_iload dX2_yearsToCount_46 rfl ?_
      refine mv_iload_n dX2_yearsToCount_48 rfl ?_
      refine mv_iload dX2_yearsToCount_49 rfl ?_
      refine mv_cV3 (ci := 2) dX2_yearsToCount_51 lk_X2_yearsToCount_43 HM rfl (Nat.le_of_ble_eq_true rfl) (Nat.le_of_ble_eq_true rfl) (k_X2_leastOdd (ev := ev) HM H46 H47 (q_rows_le hb hr (m + 1)) (q_rows_le hb2 ht (m + 1)) (by omega) hx hy) ?_
      refine mv_topI (y := (q_lP r1 t x y (q_bg f 201) (q_bg gg 201)) (m + 1)) rfl ?_
      refine mv_putf (ci := 2) (f := 2) dX2_yearsToCount_54 HM rfl (by decide) wd_345 rfl rfl (fun _ => ⟨rfl, rfl⟩) (Nat.le_of_ble_eq_true rfl) ?_
      refine mv_topH (fun h9 e10 => ?_)
      have HM : h9[45]? = some (.inr (2, [.ref 46, .ref 47, .int ((q_lP r1 t x y (q_bg f 201) (q_bg gg 201)) (m + 1))])) := mv_eq e10 HM
      have H46 := mv_ne e10 (by decide) H46
      have H47 := mv_ne e10 (by decide) H47
      have fr := fr.set e10 (by decide)
      clear e10
      refine mv_aload_n dX2_yearsToCount_57 rfl ?_
      refine mv_getf (ci := 2) (f := 2) dX2_yearsToCount_58 HM rfl (by decide) wd_345 rfl ?_
      refine mv_iconst (v := (-1)) dX2_yearsToCount_61 (by decide) ?_
      refine mv_icmp_eq (tgt := 68) dX2_yearsToCount_62 (by decide) (fun c62 => ?_) (fun c62 => ?_)
      · skip
        refine mv_iinc (v := nI (m + 1 + 1)) dX2_yearsToCount_68 rfl (mv_inc (m + 1) 1) (by decide) ?_
        refine mv_goto (tgt := 17) dX2_yearsToCount_71 (by decide) ?_
        exact ih (m + 1) ((q_lP r1 t x y (q_bg f 201) (q_bg gg 201)) (m + 1)) h9 (by omega) fr HM H46 H47 (by omega) (by rw [← hq, q_yn_n (f := 60 - m) (by omega) c62, Nat.sub_sub]) (Or.inr ⟨rfl, c62⟩)
      · skip
        refine mv_iload dX2_yearsToCount_65 rfl ?_
        have eN : q_yn (q_lP r1 t x y (q_bg f 201) (q_bg gg 201)) 60 0 = m + 1 := (hq.symm.trans (q_yn_y (by omega) c62))
        exact mv_iret dX2_yearsToCount_67 rfl rfl ⟨(congrArg (fun z => some (Value.int z)) (by unfold q_yr; rw [eN]; exact (if_neg c62).symm)), fr, (by rw [eN]; exact HM), (by rw [eN]; exact H46), (by rw [eN]; exact H47)⟩
set_option maxRecDepth 100000 in
theorem k_X2_yearsToCount {ev : mv_E} {h : mv_H} {f : Nat → Nat} {gg : Nat → Nat} {fo : Int32} {r1 : Nat} {t : Nat} {x : Nat} {y : Nat} (HM : h[45]? = some (.inr (2, [.ref 46, .ref 47, .int fo]))) (H46 : h[46]? = some (.inl (1, 201, .inr (.inl (fun j => lN (f j)))))) (H47 : h[47]? = some (.inl (1, 201, .inr (.inl (fun j => lN (gg j)))))) (hf : ∀ i, f i ≤ 1000000) (hg : ∀ i, gg i ≤ 1000000) (hr : r1 ≤ 1000) (ht : t ≤ 1000) (hx : x ≤ 1000000) (hy : y ≤ 1000000) : ∃ h2, mv_K ev mX2_yearsToCount [.ref 45, .int (nI r1), .int (nI t), .int (nI x), .int (nI y)] h (some (.int (q_yr (q_lP r1 t x y (q_bg f 201) (q_bg gg 201))))) h2 ∧ mv_fra [45, 46, 47] h h2 ∧ h2[45]? = some (.inr (2, [.ref 46, .ref 47, .int ((q_lP r1 t x y (q_bg f 201) (q_bg gg 201)) (q_yn (q_lP r1 t x y (q_bg f 201) (q_bg gg 201)) 60 0))])) ∧ h2[46]? = some (.inl (1, 201, .inr (.inl (fun j => lN (q_rows r1 (q_bg f 201) (q_yn (q_lP r1 t x y (q_bg f 201) (q_bg gg 201)) 60 0) j))))) ∧ h2[47]? = some (.inl (1, 201, .inr (.inl (fun j => lN (q_rows t (q_bg gg 201) (q_yn (q_lP r1 t x y (q_bg f 201) (q_bg gg 201)) 60 0) j))))) := by
  suffices g0 : mv_g ev mX2_yearsToCount 0 (mv_ent [.ref 45, .int (nI r1), .int (nI t), .int (nI x), .int (nI y)] (mv_ml mX2_yearsToCount)) [] h (fun r g => r = some (.int (q_yr (q_lP r1 t x y (q_bg f 201) (q_bg gg 201)))) ∧ mv_fra [45, 46, 47] h g ∧ g[45]? = some (.inr (2, [.ref 46, .ref 47, .int ((q_lP r1 t x y (q_bg f 201) (q_bg gg 201)) (q_yn (q_lP r1 t x y (q_bg f 201) (q_bg gg 201)) 60 0))])) ∧ g[46]? = some (.inl (1, 201, .inr (.inl (fun j => lN (q_rows r1 (q_bg f 201) (q_yn (q_lP r1 t x y (q_bg f 201) (q_bg gg 201)) 60 0) j))))) ∧ g[47]? = some (.inl (1, 201, .inr (.inl (fun j => lN (q_rows t (q_bg gg 201) (q_yn (q_lP r1 t x y (q_bg f 201) (q_bg gg 201)) 60 0) j)))))) from (by obtain ⟨r0, h0, K0, q0, Q0⟩ := mv_Kex g0; subst q0; exact ⟨h0, K0, Q0⟩)
  show mv_g ev mX2_yearsToCount 0 [.ref 45, .int (nI r1), .int (nI t), .int (nI x), .int (nI y), .null] [] h _
  have fr : mv_fra [45, 46, 47] h h := mv_fra.rf
  have hb := q_bg_le hf 201
  have hb2 := q_bg_le hg 201
  refine mv_aload_n dX2_yearsToCount_0 rfl ?_
  refine mv_getf (ci := 2) (f := 0) dX2_yearsToCount_1 HM rfl (by decide) wd_343 rfl ?_
  obtain ⟨h1, K2, f3, y4⟩ := (k_X2_begin46 (ev := ev) (f := f) H46)
  refine mv_cS1 dX2_yearsToCount_4 lk_X2_yearsToCount_22 (Nat.le_of_ble_eq_true rfl) (Nat.le_of_ble_eq_true rfl) K2 ?_
  have HM := f3.get (by decide) HM
  have H46 : h1[46]? = some (.inl (1, 201, .inr (.inl (fun j => lN (q_bg f 201 j))))) := y4
  have H47 := f3.get (by decide) H47
  have fr := fr.trans f3 (by decide)
  refine mv_aload_n dX2_yearsToCount_7 rfl ?_
  refine mv_getf (ci := 2) (f := 1) dX2_yearsToCount_8 HM rfl (by decide) wd_344 rfl ?_
  obtain ⟨h5, K6, f7, y8⟩ := (k_X2_begin47 (ev := ev) (f := gg) H47)
  refine mv_cS1 dX2_yearsToCount_11 lk_X2_yearsToCount_22 (Nat.le_of_ble_eq_true rfl) (Nat.le_of_ble_eq_true rfl) K6 ?_
  have HM := f7.get (by decide) HM
  have H46 := f7.get (by decide) H46
  have H47 : h5[47]? = some (.inl (1, 201, .inr (.inl (fun j => lN (q_bg gg 201 j))))) := y8
  have fr := fr.trans f7 (by decide)
  refine mv_iconst (v := nI 1) dX2_yearsToCount_14 (by decide) ?_
  refine mv_topI (y := nI (0 + 1)) rfl ?_
  refine mv_istore dX2_yearsToCount_15 (by decide) ?_
  exact l_X2_years hf hg hr ht hx hy (60 + 1) 0 fo h5 (by omega) fr HM H46 H47 (Nat.zero_le _) rfl (Or.inl rfl)
