/-- reading: where, the fault, its place, the draft -/
abbrev q_U : Type := Nat × Nat × Int32 × (Nat → Int32)
def q_f1 (fa f : Nat) : Nat := if fa = 0 then f else fa
def q_f2 (fa p : Nat) (fp : Int32) : Int32 := if fa = 0 then nI p else fp
def q_uf (f p : Nat) (u : q_U) : q_U := (u.1, q_f1 u.2.1 f, q_f2 u.2.1 p u.2.2.1, u.2.2.2)
theorem q_sk_in {n : Nat} {tx : Nat → Nat} (f : Nat) : ∀ k, k ≤ n → k ≤ q_sk n tx f k ∧ q_sk n tx f k ≤ n := by
  induction f with
  | zero => intro k h; exact ⟨Nat.le_refl _, h⟩
  | succ f ih =>
    intro k h
    have e : q_sk n tx (f + 1) k = if k < n ∧ tx k = 32 then q_sk n tx f (k + 1) else k := rfl
    rw [e]
    by_cases c : k < n ∧ tx k = 32
    · rw [if_pos c]
      have := ih (k + 1) (by omega)
      omega
    · rw [if_neg c]
      omega
theorem q_ew_in {n : Nat} {tx : Nat → Nat} (f : Nat) : ∀ k, k ≤ n → k ≤ q_ew n tx f k ∧ q_ew n tx f k ≤ n := by
  induction f with
  | zero => intro k h; exact ⟨Nat.le_refl _, h⟩
  | succ f ih =>
    intro k h
    have e : q_ew n tx (f + 1) k = if k < n ∧ 97 ≤ tx k ∧ tx k ≤ 122 then q_ew n tx f (k + 1) else k := rfl
    rw [e]
    by_cases c : k < n ∧ 97 ≤ tx k ∧ tx k ≤ 122
    · rw [if_pos c]
      have := ih (k + 1) (by omega)
      omega
    · rw [if_neg c]
      omega
/-- the end of figures -/
def q_fe (n : Nat) (tx : Nat → Nat) : Nat → Nat → Nat
  | 0, k => k
  | f + 1, k => if k < n ∧ 48 ≤ tx k ∧ tx k ≤ 57 then q_fe n tx f (k + 1) else k
theorem q_fe_y {n : Nat} {tx : Nat → Nat} {k : Nat} (h : k < n ∧ 48 ≤ tx k ∧ tx k ≤ 57) : q_fe n tx (n - k) k = q_fe n tx (n - (k + 1)) (k + 1) := by
  have e : n - k = (n - (k + 1)) + 1 := by omega
  rw [e]
  exact if_pos h
theorem q_fe_n {n : Nat} {tx : Nat → Nat} {k : Nat} (h : ¬ (k < n ∧ 48 ≤ tx k ∧ tx k ≤ 57)) : q_fe n tx (n - k) k = k := by
  by_cases c : n - k = 0
  · rw [c]; rfl
  · have e : n - k = (n - k - 1) + 1 := by omega
    rw [e]
    exact if_neg h
theorem q_fe_in {n : Nat} {tx : Nat → Nat} (f : Nat) : ∀ k, k ≤ n → k ≤ q_fe n tx f k ∧ q_fe n tx f k ≤ n := by
  induction f with
  | zero => intro k h; exact ⟨Nat.le_refl _, h⟩
  | succ f ih =>
    intro k h
    have e : q_fe n tx (f + 1) k = if k < n ∧ 48 ≤ tx k ∧ tx k ≤ 57 then q_fe n tx f (k + 1) else k := rfl
    rw [e]
    by_cases c : k < n ∧ 48 ≤ tx k ∧ tx k ≤ 57
    · rw [if_pos c]
      have := ih (k + 1) (by omega)
      omega
    · rw [if_neg c]
      omega
/-- the number of the first three figures -/
def q_nv (tx : Nat → Nat) (s : Nat) : Nat → Nat
  | 0 => 0
  | i + 1 => if i < 3 then q_nv tx s i * 10 + (tx (s + i) - 48) else q_nv tx s i
theorem q_nv_y {tx : Nat → Nat} {s y : Nat} (h : s ≤ y) (h3 : y - s < 3) : q_nv tx s (y + 1 - s) = q_nv tx s (y - s) * 10 + (tx y - 48) := by
  have e : y + 1 - s = (y - s) + 1 := by omega
  rw [e]
  refine (if_pos h3).trans ?_
  rw [show s + (y - s) = y by omega]
theorem q_nv_n {tx : Nat → Nat} {s y : Nat} (h : s ≤ y) (h3 : ¬ y - s < 3) : q_nv tx s (y + 1 - s) = q_nv tx s (y - s) := by
  have e : y + 1 - s = (y - s) + 1 := by omega
  rw [e]
  exact if_neg h3
abbrev q_ib (w v : Nat) : Prop := mv_at [0, 0, 0, 1, 0, 0, 0, 0] w ≤ nI v ∧ nI v ≤ mv_at [999, 99, 999, 30, 7, 27, 27, 9] w
def q_nm2 (tx : Nat → Nat) (w : Nat) (u : q_U) (s e : Nat) : q_U := if e = s then (e, q_f1 u.2.1 1, q_f2 u.2.1 s u.2.2.1, u.2.2.2) else if e - s ≤ 3 ∧ q_ib w (q_nv tx s (e - s)) then (e, u.2.1, u.2.2.1, upd u.2.2.2 w (nI (q_nv tx s (e - s)))) else (e, q_f1 u.2.1 2, q_f2 u.2.1 s u.2.2.1, u.2.2.2)
/-- a number is read -/
def q_num (n : Nat) (tx : Nat → Nat) (w : Nat) (u : q_U) : q_U := q_nm2 tx w u (q_sk n tx (n - u.1) u.1) (q_fe n tx (n - q_sk n tx (n - u.1) u.1) (q_sk n tx (n - u.1) u.1))
abbrev q_wTo (tx : Nat → Nat) (k e : Nat) : Prop := e - k = 2 ∧ tx (k + 0) = 116 ∧ tx (k + 1) = 111
def q_to2 (n : Nat) (tx : Nat → Nat) (u : q_U) (s : Nat) : q_U := if q_wTo tx s (q_ew n tx (n - s) s) then (q_ew n tx (n - s) s, u.2) else (s, q_f1 u.2.1 1, q_f2 u.2.1 s u.2.2.1, u.2.2.2)
def q_toS (n : Nat) (tx : Nat → Nat) (u : q_U) : q_U := q_to2 n tx u (q_sk n tx (n - u.1) u.1)
def q_se2 (n : Nat) (tx : Nat → Nat) (u : q_U) (s : Nat) : q_U := if s < n ∧ tx s = 59 then (s + 1, u.2) else (s, q_f1 u.2.1 1, q_f2 u.2.1 s u.2.2.1, u.2.2.2)
def q_sem (n : Nat) (tx : Nat → Nat) (u : q_U) : q_U := q_se2 n tx u (q_sk n tx (n - u.1) u.1)
abbrev q_kw0 (tx : Nat → Nat) (k e : Nat) : Prop := e - k = 4 ∧ tx (k + 0) = 114 ∧ tx (k + 1) = 97 ∧ tx (k + 2) = 116 ∧ tx (k + 3) = 101
abbrev q_kw1 (tx : Nat → Nat) (k e : Nat) : Prop := e - k = 4 ∧ tx (k + 0) = 103 ∧ tx (k + 1) = 114 ∧ tx (k + 2) = 111 ∧ tx (k + 3) = 119
abbrev q_kw2 (tx : Nat → Nat) (k e : Nat) : Prop := e - k = 5 ∧ tx (k + 0) = 97 ∧ tx (k + 1) = 102 ∧ tx (k + 2) = 116 ∧ tx (k + 3) = 101 ∧ tx (k + 4) = 114
abbrev q_kw3 (tx : Nat → Nat) (k e : Nat) : Prop := e - k = 4 ∧ tx (k + 0) = 100 ∧ tx (k + 1) = 97 ∧ tx (k + 2) = 121 ∧ tx (k + 3) = 115
abbrev q_kw4 (tx : Nat → Nat) (k e : Nat) : Prop := e - k = 4 ∧ tx (k + 0) = 110 ∧ tx (k + 1) = 101 ∧ tx (k + 2) = 97 ∧ tx (k + 3) = 114
abbrev q_kw5 (tx : Nat → Nat) (k e : Nat) : Prop := e - k = 4 ∧ tx (k + 0) = 109 ∧ tx (k + 1) = 111 ∧ tx (k + 2) = 111 ∧ tx (k + 3) = 110
abbrev q_kw6 (tx : Nat → Nat) (k e : Nat) : Prop := e - k = 4 ∧ tx (k + 0) = 114 ∧ tx (k + 1) = 97 ∧ tx (k + 2) = 105 ∧ tx (k + 3) = 110
def q_cn (tx : Nat → Nat) (k e : Nat) : Int32 := if q_kw0 tx k e then nI 0 else if q_kw1 tx k e then nI 1 else if q_kw2 tx k e then nI 2 else if q_kw3 tx k e then nI 3 else if q_kw4 tx k e then nI 4 else if q_kw5 tx k e then nI 5 else if q_kw6 tx k e then nI 6 else -1
set_option maxRecDepth 100000 in
theorem k_X6_setFault {ev : mv_E} {h : mv_H} {n : Nat} {a0 : Nat} {cl : Nat} {fa : Nat} {fp : Int32} {f : Nat} {p : Nat} (H3 : h[3]? = some (.inr (6, [.ref 4, .ref 5, .ref 6, .int (nI n), .int (nI a0), .int (nI cl), .int (nI fa), .int fp]))) (hfa : fa < 1000) : ∃ h2, mv_K ev mX6_setFault [.ref 3, .int (nI f), .int (nI p)] h (none) h2 ∧ mv_fra [3] h h2 ∧ h2[3]? = some (.inr (6, [.ref 4, .ref 5, .ref 6, .int (nI n), .int (nI a0), .int (nI cl), .int (nI (q_f1 fa f)), .int (q_f2 fa p fp)])) := by
  suffices g0 : mv_g ev mX6_setFault 0 (mv_ent [.ref 3, .int (nI f), .int (nI p)] (mv_ml mX6_setFault)) [] h (fun r g => r = none ∧ mv_fra [3] h g ∧ g[3]? = some (.inr (6, [.ref 4, .ref 5, .ref 6, .int (nI n), .int (nI a0), .int (nI cl), .int (nI (q_f1 fa f)), .int (q_f2 fa p fp)]))) from (by obtain ⟨r0, h0, K0, q0, Q0⟩ := mv_Kex g0; subst q0; exact ⟨h0, K0, Q0⟩)
  show mv_g ev mX6_setFault 0 [.ref 3, .int (nI f), .int (nI p)] [] h _
  have fr : mv_fra [3] h h := mv_fra.rf
  refine mv_aload_n dX6_setFault_0 rfl ?_
  refine mv_getf (ci := 6) (f := 6) dX6_setFault_1 H3 rfl (by decide) wd_122 rfl ?_
  refine mv_if_ne (tgt := 17) dX6_setFault_4 (by decide) (fun c4 => ?_) (fun c4 => ?_)
  · have c4 : ¬ (fa = 0) := fun z => c4 ((nI_eq (b := 0) (by omega) (by omega)).mpr z)
    exact mv_vret dX6_setFault_17 rfl ⟨rfl, fr, (by unfold q_f1 q_f2; first | (rw [if_neg c4, if_neg c4]; exact H3) | (rw [if_pos c4, if_pos c4]; exact H3))⟩
  · have c4 : fa = 0 := (nI_eq (b := 0) (by omega) (by omega)).mp c4
    refine mv_aload_n dX6_setFault_7 rfl ?_
    refine mv_iload_n dX6_setFault_8 rfl ?_
    refine mv_putf (ci := 6) (f := 6) dX6_setFault_9 H3 rfl (by decide) wd_122 rfl rfl (fun _ => ⟨rfl, rfl⟩) (Nat.le_of_ble_eq_true rfl) ?_
    refine mv_topH (fun h1 e2 => ?_)
    have H3 : h1[3]? = some (.inr (6, [.ref 4, .ref 5, .ref 6, .int (nI n), .int (nI a0), .int (nI cl), .int (nI f), .int fp])) := mv_eq e2 H3
    have fr := fr.set e2 (by decide)
    clear e2
    refine mv_aload_n dX6_setFault_12 rfl ?_
    refine mv_iload_n dX6_setFault_13 rfl ?_
    refine mv_putf (ci := 6) (f := 7) dX6_setFault_14 H3 rfl (by decide) wd_123 rfl rfl (fun _ => ⟨rfl, rfl⟩) (Nat.le_of_ble_eq_true rfl) ?_
    refine mv_topH (fun h3 e4 => ?_)
    have H3 : h3[3]? = some (.inr (6, [.ref 4, .ref 5, .ref 6, .int (nI n), .int (nI a0), .int (nI cl), .int (nI f), .int (nI p)])) := mv_eq e4 H3
    have fr := fr.set e4 (by decide)
    clear e4
    exact mv_vret dX6_setFault_17 rfl ⟨rfl, fr, (by unfold q_f1 q_f2; first | (rw [if_neg c4, if_neg c4]; exact H3) | (rw [if_pos c4, if_pos c4]; exact H3))⟩
set_option maxRecDepth 100000 in
theorem k_X6_isInBounds {ev : mv_E} {h : mv_H} {w : Nat} {v : Nat}  (hw8 : w < 8) : mv_K ev mX6_isInBounds [.int (nI w), .int (nI v)] h (some (.int (mv_b (q_ib w v)))) h := by
  refine mv_Kof ?_
  show mv_g ev mX6_isInBounds 0 [.int (nI w), .int (nI v)] [] h _
  refine mv_iload_n dX6_isInBounds_0 rfl ?_
  refine mv_iconst (v := nI 0) dX6_isInBounds_1 (by decide) ?_
  refine mv_bipush (v := nI 7) dX6_isInBounds_2 (by decide) ?_
  refine mv_cSN3 dX6_isInBounds_4 lk_X6_isInBounds_75 (Nat.le_of_ble_eq_true rfl) (Nat.le_of_ble_eq_true rfl) (k_X11_within (ev := ev)) ?_
  refine mv_if_eq (tgt := 31) dX6_isInBounds_7 (by decide) (fun z => absurd z ((fun z => (mv_b_0 _).mp z (mv_in_i (by omega) (by omega) (by omega))))) (fun c7 => ?_)
  refine mv_iload_n dX6_isInBounds_10 rfl ?_
  refine mv_getsN (v := .ref 1000002) dX6_isInBounds_11 (List.mem_of_getElem? (i := 1) rfl) mv_nest_541 ?_
  refine mv_iload_n dX6_isInBounds_14 rfl ?_
  refine mv_raN (j := w) dX6_isInBounds_15 (List.mem_of_getElem? (i := 2) rfl) rfl (by omega) (by omega) rfl ?_
  refine mv_getsN (v := .ref 1000003) dX6_isInBounds_16 (List.mem_of_getElem? (i := 2) rfl) mv_nest_543 ?_
  refine mv_iload_n dX6_isInBounds_19 rfl ?_
  refine mv_raN (j := w) dX6_isInBounds_20 (List.mem_of_getElem? (i := 3) rfl) rfl (by omega) (by omega) rfl ?_
  refine mv_cSN3 dX6_isInBounds_21 lk_X6_isInBounds_75 (Nat.le_of_ble_eq_true rfl) (Nat.le_of_ble_eq_true rfl) (k_X11_within (ev := ev)) ?_
  refine mv_if_eq (tgt := 31) dX6_isInBounds_24 (by decide) (fun c24 => ?_) (fun c24 => ?_)
  · have c24 : ¬ (((mv_at [0, 0, 0, 1, 0, 0, 0, 0]) w) ≤ (nI v) ∧ (nI v) ≤ ((mv_at [999, 99, 999, 30, 7, 27, 27, 9]) w)) := (mv_b_0 _).mp c24
    refine mv_iconst (v := nI 0) dX6_isInBounds_31 (by decide) ?_
    exact mv_iret dX6_isInBounds_32 rfl rfl ⟨(congrArg (fun z => some (Value.int z)) (by first | exact (mv_b_t c24).symm | exact (mv_b_f c24).symm)), rfl⟩
  · have c24 : ((mv_at [0, 0, 0, 1, 0, 0, 0, 0]) w) ≤ (nI v) ∧ (nI v) ≤ ((mv_at [999, 99, 999, 30, 7, 27, 27, 9]) w) := Classical.byContradiction (fun z => c24 ((mv_b_0 _).mpr z))
    refine mv_iconst (v := nI 1) dX6_isInBounds_27 (by decide) ?_
    refine mv_goto (tgt := 32) dX6_isInBounds_28 (by decide) ?_
    exact mv_iret dX6_isInBounds_32 rfl rfl ⟨(congrArg (fun z => some (Value.int z)) (by first | exact (mv_b_t c24).symm | exact (mv_b_f c24).symm)), rfl⟩
set_option maxRecDepth 100000 in
theorem l_X6_num {ev : mv_E} {h : mv_H} {n : Nat} {tx : Nat → Nat} {u : q_U} {cl : Nat} {ti : Nat → Nat} {w : Nat}  (hn : n ≤ 160) (htx : ∀ i, tx i < 256) (ha : u.1 ≤ n) (hfa : u.2.1 ≤ 3) (hw8 : w < 8) : ∀ (fu : Nat) (s : Nat) (v : Nat) (y : Nat), ∀ (g : mv_H), n < y + fu → mv_fra [3, 5] h g → g[3]? = some (.inr (6, [.ref 4, .ref 5, .ref 6, .int (nI n), .int (nI y), .int (nI cl), .int (nI u.2.1), .int u.2.2.1])) → g[5]? = some (.inl (0, 8, .inl u.2.2.2)) → g[4]? = some (.inl (0, 160, .inl (fun j => nI (tx j)))) → g[6]? = some (.inl (2, 7, .inl (fun j => nI (ti j)))) → (s = q_sk n tx (n - u.1) u.1) → (s ≤ y) → (y ≤ n) → (q_fe n tx (n - y) y = q_fe n tx (n - s) s) → (v = q_nv tx s (y - s)) → (v ≤ 999 ∧ (y - s ≤ 2 → v ≤ 99) ∧ (y - s ≤ 1 → v ≤ 9) ∧ (y - s = 0 → v = 0)) → mv_g ev mX6_readNumber 11 [.ref 3, .int (nI w), .int (nI s), .int (nI v)] [] g (fun r g => r = none ∧ mv_fra [3, 5] h g ∧ g[3]? = some (.inr (6, [.ref 4, .ref 5, .ref 6, .int (nI n), .int (nI (q_num n tx w u).1), .int (nI cl), .int (nI (q_num n tx w u).2.1), .int (q_num n tx w u).2.2.1])) ∧ g[5]? = some (.inl (0, 8, .inl (q_num n tx w u).2.2.2))) := by
  intro fu
  induction fu with
  | zero => intro s v y g hm fr H3 H5 H4 H6 es hs hy hq hv hvb; exact absurd hm (by omega)
  | succ fu ih =>
    intro s v y g hm fr H3 H5 H4 H6 es hs hy hq hv hvb
    have n1 := htx y
    refine mv_aload_n dX6_readNumber_11 rfl ?_
    refine mv_getf (ci := 6) (f := 4) dX6_readNumber_12 H3 rfl (by decide) wd_120 rfl ?_
    refine mv_aload_n dX6_readNumber_15 rfl ?_
    refine mv_getf (ci := 6) (f := 3) dX6_readNumber_16 H3 rfl (by decide) wd_119 rfl ?_
    refine mv_icmp_ge (tgt := 76) dX6_readNumber_19 (by decide) (fun c19 => ?_) (fun c19 => ?_)
    · have c19 : n ≤ y := (nI_leI (by omega) (by omega)).mp c19
      refine mv_aload_n dX6_readNumber_76 rfl ?_
      refine mv_getf (ci := 6) (f := 4) dX6_readNumber_77 H3 rfl (by decide) wd_120 rfl ?_
      refine mv_iload_n dX6_readNumber_80 rfl ?_
      refine mv_icmp_ne (tgt := 93) dX6_readNumber_81 (by decide) (fun c81 => ?_) (fun c81 => ?_)
      · have c81 : ¬ (y = s) := fun z => c81 ((nI_eq (by omega) (by omega)).mpr z)
        refine mv_aload_n dX6_readNumber_93 rfl ?_
        refine mv_getf (ci := 6) (f := 4) dX6_readNumber_94 H3 rfl (by decide) wd_120 rfl ?_
        refine mv_iload_n dX6_readNumber_97 rfl ?_
        refine mv_isub dX6_readNumber_98 ?_
        refine mv_topI (y := nI (y - s)) (pk_sub (by omega)) ?_
        refine mv_iconst (v := nI 3) dX6_readNumber_99 (by decide) ?_
        refine mv_icmp_gt (tgt := 111) dX6_readNumber_100 (by decide) (fun c100 => ?_) (fun c100 => ?_)
        · have c100 : 3 < y - s := (nI_ltI (by omega) (by omega)).mp c100
          refine mv_aload_n dX6_readNumber_111 rfl ?_
          refine mv_iconst (v := nI 2) dX6_readNumber_112 (by decide) ?_
          refine mv_iload_n dX6_readNumber_113 rfl ?_
          obtain ⟨h1, K2, f3, y4⟩ := (k_X6_setFault (ev := ev) (n := n) (a0 := y) (cl := cl) (fa := u.2.1) (fp := u.2.2.1) (f := 2) (p := s) H3 (by omega))
          refine mv_cV2 (ci := 6) dX6_readNumber_114 lk_X6_readNumber_79 H3 rfl (Nat.le_of_ble_eq_true rfl) (Nat.le_of_ble_eq_true rfl) K2 ?_
          have H3 : h1[3]? = some (.inr (6, [.ref 4, .ref 5, .ref 6, .int (nI n), .int (nI y), .int (nI cl), .int (nI (q_f1 u.2.1 2)), .int (q_f2 u.2.1 s u.2.2.1)])) := y4
          have H4 := f3.get (by decide) H4
          have H5 := f3.get (by decide) H5
          have H6 := f3.get (by decide) H6
          have fr := fr.trans f3 (by decide)
          refine mv_goto (tgt := 127) dX6_readNumber_117 (by decide) ?_
          have e8 : q_fe n tx (n - q_sk n tx (n - u.1) u.1) (q_sk n tx (n - u.1) u.1) = y := (by rw [← es, ← hq]; exact q_fe_n (by omega))
          have e9 : q_num n tx w u = (y, q_f1 u.2.1 2, q_f2 u.2.1 s u.2.2.1, u.2.2.2) := (by unfold q_num; rw [e8, ← es]; unfold q_nm2; exact (if_neg c81).trans (if_neg (by first | exact (fun q => absurd q.1 (by omega)) | exact (fun q => c108 (hv ▸ q.2)))))
          exact mv_vret dX6_readNumber_127 rfl ⟨rfl, fr, (by rw [e9]; exact H3), (by rw [e9]; first | exact H5 | (rw [← hv]; exact H5))⟩
        · have c100 : ¬ (3 < y - s) := fun z => c100 ((nI_ltI (by omega) (by omega)).mpr z)
          refine mv_iload_n dX6_readNumber_103 rfl ?_
          refine mv_iload_n dX6_readNumber_104 rfl ?_
          refine mv_cS2 dX6_readNumber_105 lk_X6_readNumber_100 (Nat.le_of_ble_eq_true rfl) (Nat.le_of_ble_eq_true rfl) (k_X6_isInBounds (ev := ev) (by omega)) ?_
          refine mv_if_ne (tgt := 120) dX6_readNumber_108 (by decide) (fun c108 => ?_) (fun c108 => ?_)
          · have c108 : q_ib w v := Classical.byContradiction (fun z => c108 ((mv_b_0 _).mpr z))
            refine mv_aload_n dX6_readNumber_120 rfl ?_
            refine mv_getf (ci := 6) (f := 1) dX6_readNumber_121 H3 rfl (by decide) wd_117 rfl ?_
            refine mv_iload_n dX6_readNumber_124 rfl ?_
            refine mv_iload_n dX6_readNumber_125 rfl ?_
            refine mv_iastN (j := w) dX6_readNumber_126 H5 rfl (by decide) (by omega) (fun h5 e6 => ?_)
            have H3 := mv_ne e6 (by decide) H3
            have H4 := mv_ne e6 (by decide) H4
            have H5 : h5[5]? = some (.inl (0, 8, .inl (upd u.2.2.2 w (nI v)))) := mv_eq e6 H5
            have H6 := mv_ne e6 (by decide) H6
            have fr := fr.set e6 (by decide)
            clear e6
            have e8 : q_fe n tx (n - q_sk n tx (n - u.1) u.1) (q_sk n tx (n - u.1) u.1) = y := (by rw [← es, ← hq]; exact q_fe_n (by omega))
            have e9 : q_num n tx w u = (y, u.2.1, u.2.2.1, upd u.2.2.2 w (nI (q_nv tx s (y - s)))) := (by unfold q_num; rw [e8, ← es]; unfold q_nm2; exact (if_neg c81).trans (if_pos ⟨by omega, hv ▸ c108⟩))
            exact mv_vret dX6_readNumber_127 rfl ⟨rfl, fr, (by rw [e9]; exact H3), (by rw [e9]; first | exact H5 | (rw [← hv]; exact H5))⟩
          · have c108 : ¬ (q_ib w v) := (mv_b_0 _).mp c108
            refine mv_aload_n dX6_readNumber_111 rfl ?_
            refine mv_iconst (v := nI 2) dX6_readNumber_112 (by decide) ?_
            refine mv_iload_n dX6_readNumber_113 rfl ?_
            obtain ⟨h7, K8, f9, y10⟩ := (k_X6_setFault (ev := ev) (n := n) (a0 := y) (cl := cl) (fa := u.2.1) (fp := u.2.2.1) (f := 2) (p := s) H3 (by omega))
            refine mv_cV2 (ci := 6) dX6_readNumber_114 lk_X6_readNumber_79 H3 rfl (Nat.le_of_ble_eq_true rfl) (Nat.le_of_ble_eq_true rfl) K8 ?_
            have H3 : h7[3]? = some (.inr (6, [.ref 4, .ref 5, .ref 6, .int (nI n), .int (nI y), .int (nI cl), .int (nI (q_f1 u.2.1 2)), .int (q_f2 u.2.1 s u.2.2.1)])) := y10
            have H4 := f9.get (by decide) H4
            have H5 := f9.get (by decide) H5
            have H6 := f9.get (by decide) H6
            have fr := fr.trans f9 (by decide)
            refine mv_goto (tgt := 127) dX6_readNumber_117 (by decide) ?_
            have e8 : q_fe n tx (n - q_sk n tx (n - u.1) u.1) (q_sk n tx (n - u.1) u.1) = y := (by rw [← es, ← hq]; exact q_fe_n (by omega))
            have e9 : q_num n tx w u = (y, q_f1 u.2.1 2, q_f2 u.2.1 s u.2.2.1, u.2.2.2) := (by unfold q_num; rw [e8, ← es]; unfold q_nm2; exact (if_neg c81).trans (if_neg (by first | exact (fun q => absurd q.1 (by omega)) | exact (fun q => c108 (hv ▸ q.2)))))
            exact mv_vret dX6_readNumber_127 rfl ⟨rfl, fr, (by rw [e9]; exact H3), (by rw [e9]; first | exact H5 | (rw [← hv]; exact H5))⟩
      · have c81 : y = s := (nI_eq (by omega) (by omega)).mp c81
        refine mv_aload_n dX6_readNumber_84 rfl ?_
        refine mv_iconst (v := nI 1) dX6_readNumber_85 (by decide) ?_
        refine mv_iload_n dX6_readNumber_86 rfl ?_
        obtain ⟨h11, K12, f13, y14⟩ := (k_X6_setFault (ev := ev) (n := n) (a0 := y) (cl := cl) (fa := u.2.1) (fp := u.2.2.1) (f := 1) (p := s) H3 (by omega))
        refine mv_cV2 (ci := 6) dX6_readNumber_87 lk_X6_readNumber_79 H3 rfl (Nat.le_of_ble_eq_true rfl) (Nat.le_of_ble_eq_true rfl) K12 ?_
        have H3 : h11[3]? = some (.inr (6, [.ref 4, .ref 5, .ref 6, .int (nI n), .int (nI y), .int (nI cl), .int (nI (q_f1 u.2.1 1)), .int (q_f2 u.2.1 s u.2.2.1)])) := y14
        have H4 := f13.get (by decide) H4
        have H5 := f13.get (by decide) H5
        have H6 := f13.get (by decide) H6
        have fr := fr.trans f13 (by decide)
        refine mv_goto (tgt := 127) dX6_readNumber_90 (by decide) ?_
        have e8 : q_fe n tx (n - q_sk n tx (n - u.1) u.1) (q_sk n tx (n - u.1) u.1) = y := (by rw [← es, ← hq]; exact q_fe_n (by omega))
        have e9 : q_num n tx w u = (y, q_f1 u.2.1 1, q_f2 u.2.1 s u.2.2.1, u.2.2.2) := (by unfold q_num; rw [e8, ← es]; unfold q_nm2; exact if_pos (by omega))
        exact mv_vret dX6_readNumber_127 rfl ⟨rfl, fr, (by rw [e9]; exact H3), (by rw [e9]; first | exact H5 | (rw [← hv]; exact H5))⟩
    · have c19 : ¬ (n ≤ y) := fun z => c19 ((nI_leI (by omega) (by omega)).mpr z)
      refine mv_aload_n dX6_readNumber_22 rfl ?_
      refine mv_aload_n dX6_readNumber_23 rfl ?_
      refine mv_getf (ci := 6) (f := 4) dX6_readNumber_24 H3 rfl (by decide) wd_120 rfl ?_
      refine mv_cV1 (ci := 6) dX6_readNumber_27 lk_X6_readNumber_93 H3 rfl (Nat.le_of_ble_eq_true rfl) (Nat.le_of_ble_eq_true rfl) (k_X6_byteAt (ev := ev) H3 H4 hn (by omega)) ?_
      refine mv_topI (y := nI (tx y)) (if_pos (by omega)) ?_
      refine mv_cS1 dX6_readNumber_30 lk_X6_readNumber_96 (Nat.le_of_ble_eq_true rfl) (Nat.le_of_ble_eq_true rfl) (k_X6_isFigure (ev := ev)) ?_
      refine mv_if_eq (tgt := 76) dX6_readNumber_33 (by decide) (fun c33 => ?_) (fun c33 => ?_)
      · have c33 : ¬ (48 ≤ tx y ∧ tx y ≤ 57) := fun q => (mv_b_0 _).mp c33 ((and_congr (nI_leI (by omega) (by omega)) (nI_leI (by omega) (by omega))).mpr q)
        refine mv_aload_n dX6_readNumber_76 rfl ?_
        refine mv_getf (ci := 6) (f := 4) dX6_readNumber_77 H3 rfl (by decide) wd_120 rfl ?_
        refine mv_iload_n dX6_readNumber_80 rfl ?_
        refine mv_icmp_ne (tgt := 93) dX6_readNumber_81 (by decide) (fun c81 => ?_) (fun c81 => ?_)
        · have c81 : ¬ (y = s) := fun z => c81 ((nI_eq (by omega) (by omega)).mpr z)
          refine mv_aload_n dX6_readNumber_93 rfl ?_
          refine mv_getf (ci := 6) (f := 4) dX6_readNumber_94 H3 rfl (by decide) wd_120 rfl ?_
          refine mv_iload_n dX6_readNumber_97 rfl ?_
          refine mv_isub dX6_readNumber_98 ?_
          refine mv_topI (y := nI (y - s)) (pk_sub (by omega)) ?_
          refine mv_iconst (v := nI 3) dX6_readNumber_99 (by decide) ?_
          refine mv_icmp_gt (tgt := 111) dX6_readNumber_100 (by decide) (fun c100 => ?_) (fun c100 => ?_)
          · have c100 : 3 < y - s := (nI_ltI (by omega) (by omega)).mp c100
            refine mv_aload_n dX6_readNumber_111 rfl ?_
            refine mv_iconst (v := nI 2) dX6_readNumber_112 (by decide) ?_
            refine mv_iload_n dX6_readNumber_113 rfl ?_
            obtain ⟨h15, K16, f17, y18⟩ := (k_X6_setFault (ev := ev) (n := n) (a0 := y) (cl := cl) (fa := u.2.1) (fp := u.2.2.1) (f := 2) (p := s) H3 (by omega))
            refine mv_cV2 (ci := 6) dX6_readNumber_114 lk_X6_readNumber_79 H3 rfl (Nat.le_of_ble_eq_true rfl) (Nat.le_of_ble_eq_true rfl) K16 ?_
            have H3 : h15[3]? = some (.inr (6, [.ref 4, .ref 5, .ref 6, .int (nI n), .int (nI y), .int (nI cl), .int (nI (q_f1 u.2.1 2)), .int (q_f2 u.2.1 s u.2.2.1)])) := y18
            have H4 := f17.get (by decide) H4
            have H5 := f17.get (by decide) H5
            have H6 := f17.get (by decide) H6
            have fr := fr.trans f17 (by decide)
            refine mv_goto (tgt := 127) dX6_readNumber_117 (by decide) ?_
            have e8 : q_fe n tx (n - q_sk n tx (n - u.1) u.1) (q_sk n tx (n - u.1) u.1) = y := (by rw [← es, ← hq]; exact q_fe_n (by omega))
            have e9 : q_num n tx w u = (y, q_f1 u.2.1 2, q_f2 u.2.1 s u.2.2.1, u.2.2.2) := (by unfold q_num; rw [e8, ← es]; unfold q_nm2; exact (if_neg c81).trans (if_neg (by first | exact (fun q => absurd q.1 (by omega)) | exact (fun q => c108 (hv ▸ q.2)))))
            exact mv_vret dX6_readNumber_127 rfl ⟨rfl, fr, (by rw [e9]; exact H3), (by rw [e9]; first | exact H5 | (rw [← hv]; exact H5))⟩
          · have c100 : ¬ (3 < y - s) := fun z => c100 ((nI_ltI (by omega) (by omega)).mpr z)
            refine mv_iload_n dX6_readNumber_103 rfl ?_
            refine mv_iload_n dX6_readNumber_104 rfl ?_
            refine mv_cS2 dX6_readNumber_105 lk_X6_readNumber_100 (Nat.le_of_ble_eq_true rfl) (Nat.le_of_ble_eq_true rfl) (k_X6_isInBounds (ev := ev) (by omega)) ?_
            refine mv_if_ne (tgt := 120) dX6_readNumber_108 (by decide) (fun c108 => ?_) (fun c108 => ?_)
            · have c108 : q_ib w v := Classical.byContradiction (fun z => c108 ((mv_b_0 _).mpr z))
              refine mv_aload_n dX6_readNumber_120 rfl ?_
              refine mv_getf (ci := 6) (f := 1) dX6_readNumber_121 H3 rfl (by decide) wd_117 rfl ?_
              refine mv_iload_n dX6_readNumber_124 rfl ?_
              refine mv_iload_n dX6_readNumber_125 rfl ?_
              refine mv_iastN (j := w) dX6_readNumber_126 H5 rfl (by decide) (by omega) (fun h19 e20 => ?_)
              have H3 := mv_ne e20 (by decide) H3
              have H4 := mv_ne e20 (by decide) H4
              have H5 : h19[5]? = some (.inl (0, 8, .inl (upd u.2.2.2 w (nI v)))) := mv_eq e20 H5
              have H6 := mv_ne e20 (by decide) H6
              have fr := fr.set e20 (by decide)
              clear e20
              have e8 : q_fe n tx (n - q_sk n tx (n - u.1) u.1) (q_sk n tx (n - u.1) u.1) = y := (by rw [← es, ← hq]; exact q_fe_n (by omega))
              have e9 : q_num n tx w u = (y, u.2.1, u.2.2.1, upd u.2.2.2 w (nI (q_nv tx s (y - s)))) := (by unfold q_num; rw [e8, ← es]; unfold q_nm2; exact (if_neg c81).trans (if_pos ⟨by omega, hv ▸ c108⟩))
              exact mv_vret dX6_readNumber_127 rfl ⟨rfl, fr, (by rw [e9]; exact H3), (by rw [e9]; first | exact H5 | (rw [← hv]; exact H5))⟩
            · have c108 : ¬ (q_ib w v) := (mv_b_0 _).mp c108
              refine mv_aload_n dX6_readNumber_111 rfl ?_
              refine mv_iconst (v := nI 2) dX6_readNumber_112 (by decide) ?_
              refine mv_iload_n dX6_readNumber_113 rfl ?_
              obtain ⟨h21, K22, f23, y24⟩ := (k_X6_setFault (ev := ev) (n := n) (a0 := y) (cl := cl) (fa := u.2.1) (fp := u.2.2.1) (f := 2) (p := s) H3 (by omega))
              refine mv_cV2 (ci := 6) dX6_readNumber_114 lk_X6_readNumber_79 H3 rfl (Nat.le_of_ble_eq_true rfl) (Nat.le_of_ble_eq_true rfl) K22 ?_
              have H3 : h21[3]? = some (.inr (6, [.ref 4, .ref 5, .ref 6, .int (nI n), .int (nI y), .int (nI cl), .int (nI (q_f1 u.2.1 2)), .int (q_f2 u.2.1 s u.2.2.1)])) := y24
              have H4 := f23.get (by decide) H4
              have H5 := f23.get (by decide) H5
              have H6 := f23.get (by decide) H6
              have fr := fr.trans f23 (by decide)
              refine mv_goto (tgt := 127) dX6_readNumber_117 (by decide) ?_
              have e8 : q_fe n tx (n - q_sk n tx (n - u.1) u.1) (q_sk n tx (n - u.1) u.1) = y := (by rw [← es, ← hq]; exact q_fe_n (by omega))
              have e9 : q_num n tx w u = (y, q_f1 u.2.1 2, q_f2 u.2.1 s u.2.2.1, u.2.2.2) := (by unfold q_num; rw [e8, ← es]; unfold q_nm2; exact (if_neg c81).trans (if_neg (by first | exact (fun q => absurd q.1 (by omega)) | exact (fun q => c108 (hv ▸ q.2)))))
              exact mv_vret dX6_readNumber_127 rfl ⟨rfl, fr, (by rw [e9]; exact H3), (by rw [e9]; first | exact H5 | (rw [← hv]; exact H5))⟩
        · have c81 : y = s := (nI_eq (by omega) (by omega)).mp c81
          refine mv_aload_n dX6_readNumber_84 rfl ?_
          refine mv_iconst (v := nI 1) dX6_readNumber_85 (by decide) ?_
          refine mv_iload_n dX6_readNumber_86 rfl ?_
          obtain ⟨h25, K26, f27, y28⟩ := (k_X6_setFault (ev := ev) (n := n) (a0 := y) (cl := cl) (fa := u.2.1) (fp := u.2.2.1) (f := 1) (p := s) H3 (by omega))
          refine mv_cV2 (ci := 6) dX6_readNumber_87 lk_X6_readNumber_79 H3 rfl (Nat.le_of_ble_eq_true rfl) (Nat.le_of_ble_eq_true rfl) K26 ?_
          have H3 : h25[3]? = some (.inr (6, [.ref 4, .ref 5, .ref 6, .int (nI n), .int (nI y), .int (nI cl), .int (nI (q_f1 u.2.1 1)), .int (q_f2 u.2.1 s u.2.2.1)])) := y28
          have H4 := f27.get (by decide) H4
          have H5 := f27.get (by decide) H5
          have H6 := f27.get (by decide) H6
          have fr := fr.trans f27 (by decide)
          refine mv_goto (tgt := 127) dX6_readNumber_90 (by decide) ?_
          have e8 : q_fe n tx (n - q_sk n tx (n - u.1) u.1) (q_sk n tx (n - u.1) u.1) = y := (by rw [← es, ← hq]; exact q_fe_n (by omega))
          have e9 : q_num n tx w u = (y, q_f1 u.2.1 1, q_f2 u.2.1 s u.2.2.1, u.2.2.2) := (by unfold q_num; rw [e8, ← es]; unfold q_nm2; exact if_pos (by omega))
          exact mv_vret dX6_readNumber_127 rfl ⟨rfl, fr, (by rw [e9]; exact H3), (by rw [e9]; first | exact H5 | (rw [← hv]; exact H5))⟩
      · have c33 : 48 ≤ tx y ∧ tx y ≤ 57 := (and_congr (nI_leI (by omega) (by omega)) (nI_leI (by omega) (by omega))).mp (mv_b_ne c33)
        refine mv_aload_n dX6_readNumber_36 rfl ?_
        refine mv_getf (ci := 6) (f := 4) dX6_readNumber_37 H3 rfl (by decide) wd_120 rfl ?_
        refine mv_iload_n dX6_readNumber_40 rfl ?_
        refine mv_isub dX6_readNumber_41 ?_
        refine mv_topI (y := nI (y - s)) (pk_sub (by omega)) ?_
        refine mv_iconst (v := nI 3) dX6_readNumber_42 (by decide) ?_
        refine mv_icmp_ge (tgt := 63) dX6_readNumber_43 (by decide) (fun c43 => ?_) (fun c43 => ?_)
        · have c43 : 3 ≤ y - s := (nI_leI (by omega) (by omega)).mp c43
          refine mv_aload_n dX6_readNumber_63 rfl ?_
          refine mv_dup dX6_readNumber_64 rfl ?_
          refine mv_getf (ci := 6) (f := 4) dX6_readNumber_65 H3 rfl (by decide) wd_120 rfl ?_
          refine mv_iconst (v := nI 1) dX6_readNumber_68 (by decide) ?_
          refine mv_iadd dX6_readNumber_69 ?_
          refine mv_topI (y := nI (y + 1)) (nI_add _ _) ?_
          refine mv_putf (ci := 6) (f := 4) dX6_readNumber_70 H3 rfl (by decide) wd_120 rfl rfl (fun _ => ⟨rfl, rfl⟩) (Nat.le_of_ble_eq_true rfl) ?_
          refine mv_topH (fun h29 e30 => ?_)
          have H3 : h29[3]? = some (.inr (6, [.ref 4, .ref 5, .ref 6, .int (nI n), .int (nI (y + 1)), .int (nI cl), .int (nI u.2.1), .int u.2.2.1])) := mv_eq e30 H3
          have H4 := mv_ne e30 (by decide) H4
          have H5 := mv_ne e30 (by decide) H5
          have H6 := mv_ne e30 (by decide) H6
          have fr := fr.set e30 (by decide)
          clear e30
          refine mv_goto (tgt := 11) dX6_readNumber_73 (by decide) ?_
          exact ih s v (y + 1) h29 (by omega) fr H3 H5 H4 H6 es (by omega) (by omega) (by rw [← hq]; exact (q_fe_y (by omega)).symm) (by first | (rw [q_nv_y hs (by omega), ← hv]; omega) | (rw [q_nv_n hs (by omega), ← hv])) (by omega)
        · have c43 : ¬ (3 ≤ y - s) := fun z => c43 ((nI_leI (by omega) (by omega)).mpr z)
          refine mv_iload_n dX6_readNumber_46 rfl ?_
          refine mv_bipush (v := nI 10) dX6_readNumber_47 (by decide) ?_
          refine mv_imul dX6_readNumber_49 ?_
          refine mv_topI (y := nI (v * 10)) (pk_mul _ _) ?_
          refine mv_aload_n dX6_readNumber_50 rfl ?_
          refine mv_aload_n dX6_readNumber_51 rfl ?_
          refine mv_getf (ci := 6) (f := 4) dX6_readNumber_52 H3 rfl (by decide) wd_120 rfl ?_
          refine mv_cV1 (ci := 6) dX6_readNumber_55 lk_X6_readNumber_93 H3 rfl (Nat.le_of_ble_eq_true rfl) (Nat.le_of_ble_eq_true rfl) (k_X6_byteAt (ev := ev) H3 H4 hn (by omega)) ?_
          refine mv_topI (y := nI (tx y)) (if_pos (by omega)) ?_
          refine mv_iadd dX6_readNumber_58 ?_
          refine mv_topI (y := nI (v * 10 + (tx y))) (nI_add _ _) ?_
          refine mv_bipush (v := nI 48) dX6_readNumber_59 (by decide) ?_
          refine mv_isub dX6_readNumber_61 ?_
          refine mv_topI (y := nI (v * 10 + tx y - 48)) (pk_sub (by omega)) ?_
          refine mv_istore_n dX6_readNumber_62 (by decide) ?_
          refine mv_aload_n dX6_readNumber_63 rfl ?_
          refine mv_dup dX6_readNumber_64 rfl ?_
          refine mv_getf (ci := 6) (f := 4) dX6_readNumber_65 H3 rfl (by decide) wd_120 rfl ?_
          refine mv_iconst (v := nI 1) dX6_readNumber_68 (by decide) ?_
          refine mv_iadd dX6_readNumber_69 ?_
          refine mv_topI (y := nI (y + 1)) (nI_add _ _) ?_
          refine mv_putf (ci := 6) (f := 4) dX6_readNumber_70 H3 rfl (by decide) wd_120 rfl rfl (fun _ => ⟨rfl, rfl⟩) (Nat.le_of_ble_eq_true rfl) ?_
          refine mv_topH (fun h31 e32 => ?_)
          have H3 : h31[3]? = some (.inr (6, [.ref 4, .ref 5, .ref 6, .int (nI n), .int (nI (y + 1)), .int (nI cl), .int (nI u.2.1), .int u.2.2.1])) := mv_eq e32 H3
          have H4 := mv_ne e32 (by decide) H4
          have H5 := mv_ne e32 (by decide) H5
          have H6 := mv_ne e32 (by decide) H6
          have fr := fr.set e32 (by decide)
          clear e32
          refine mv_goto (tgt := 11) dX6_readNumber_73 (by decide) ?_
          exact ih s (v * 10 + tx y - 48) (y + 1) h31 (by omega) fr H3 H5 H4 H6 es (by omega) (by omega) (by rw [← hq]; exact (q_fe_y (by omega)).symm) (by first | (rw [q_nv_y hs (by omega), ← hv]; omega) | (rw [q_nv_n hs (by omega), ← hv])) (by omega)
set_option maxRecDepth 100000 in
theorem k_X6_readNumber {ev : mv_E} {h : mv_H} {n : Nat} {tx : Nat → Nat} {u : q_U} {cl : Nat} {ti : Nat → Nat} {w : Nat} (H3 : h[3]? = some (.inr (6, [.ref 4, .ref 5, .ref 6, .int (nI n), .int (nI u.1), .int (nI cl), .int (nI u.2.1), .int u.2.2.1]))) (H4 : h[4]? = some (.inl (0, 160, .inl (fun j => nI (tx j))))) (H5 : h[5]? = some (.inl (0, 8, .inl u.2.2.2))) (H6 : h[6]? = some (.inl (2, 7, .inl (fun j => nI (ti j))))) (hn : n ≤ 160) (htx : ∀ i, tx i < 256) (ha : u.1 ≤ n) (hfa : u.2.1 ≤ 3) (hw8 : w < 8) : ∃ h2, mv_K ev mX6_readNumber [.ref 3, .int (nI w)] h (none) h2 ∧ mv_fra [3, 5] h h2 ∧ h2[3]? = some (.inr (6, [.ref 4, .ref 5, .ref 6, .int (nI n), .int (nI (q_num n tx w u).1), .int (nI cl), .int (nI (q_num n tx w u).2.1), .int (q_num n tx w u).2.2.1])) ∧ h2[5]? = some (.inl (0, 8, .inl (q_num n tx w u).2.2.2)) := by
  suffices g0 : mv_g ev mX6_readNumber 0 (mv_ent [.ref 3, .int (nI w)] (mv_ml mX6_readNumber)) [] h (fun r g => r = none ∧ mv_fra [3, 5] h g ∧ g[3]? = some (.inr (6, [.ref 4, .ref 5, .ref 6, .int (nI n), .int (nI (q_num n tx w u).1), .int (nI cl), .int (nI (q_num n tx w u).2.1), .int (q_num n tx w u).2.2.1])) ∧ g[5]? = some (.inl (0, 8, .inl (q_num n tx w u).2.2.2))) from (by obtain ⟨r0, h0, K0, q0, Q0⟩ := mv_Kex g0; subst q0; exact ⟨h0, K0, Q0⟩)
  show mv_g ev mX6_readNumber 0 [.ref 3, .int (nI w), .null, .null] [] h _
  have fr : mv_fra [3, 5] h h := mv_fra.rf
  refine mv_aload_n dX6_readNumber_0 rfl ?_
  obtain ⟨h1, K2, f3, y4⟩ := (k_X6_skipBlanks (ev := ev) (n := n) (tx := tx) (a0 := u.1) (cl := cl) (fa := u.2.1) (fp := u.2.2.1) H3 H4 hn htx ha)
  refine mv_cV0 (ci := 6) dX6_readNumber_1 lk_X6_readNumber_41 H3 rfl (Nat.le_of_ble_eq_true rfl) (Nat.le_of_ble_eq_true rfl) K2 ?_
  have H3 : h1[3]? = some (.inr (6, [.ref 4, .ref 5, .ref 6, .int (nI n), .int (nI (q_sk n tx (n - u.1) u.1)), .int (nI cl), .int (nI u.2.1), .int u.2.2.1])) := y4
  have H4 := f3.get (by decide) H4
  have H5 := f3.get (by decide) H5
  have H6 := f3.get (by decide) H6
  have fr := fr.trans f3 (by decide)
  refine mv_aload_n dX6_readNumber_4 rfl ?_
  refine mv_getf (ci := 6) (f := 4) dX6_readNumber_5 H3 rfl (by decide) wd_120 rfl ?_
  refine mv_istore_n dX6_readNumber_8 (by decide) ?_
  refine mv_iconst (v := nI 0) dX6_readNumber_9 (by decide) ?_
  refine mv_istore_n dX6_readNumber_10 (by decide) ?_
  exact l_X6_num hn htx ha hfa hw8 (n + 1) (q_sk n tx (n - u.1) u.1) 0 (q_sk n tx (n - u.1) u.1) h1 (by omega) fr H3 H5 H4 H6 rfl (Nat.le_refl _) (q_sk_in _ _ ha).2 rfl (by rw [Nat.sub_self]; rfl) (by omega)
set_option maxRecDepth 100000 in
theorem k_X6_readTo {ev : mv_E} {h : mv_H} {n : Nat} {tx : Nat → Nat} {u : q_U} {cl : Nat} {ti : Nat → Nat} (H3 : h[3]? = some (.inr (6, [.ref 4, .ref 5, .ref 6, .int (nI n), .int (nI u.1), .int (nI cl), .int (nI u.2.1), .int u.2.2.1]))) (H4 : h[4]? = some (.inl (0, 160, .inl (fun j => nI (tx j))))) (H5 : h[5]? = some (.inl (0, 8, .inl u.2.2.2))) (H6 : h[6]? = some (.inl (2, 7, .inl (fun j => nI (ti j))))) (hn : n ≤ 160) (htx : ∀ i, tx i < 256) (ha : u.1 ≤ n) (hfa : u.2.1 ≤ 3) (hE : q_E ev) : ∃ h2, mv_K ev mX6_readTo [.ref 3] h (none) h2 ∧ mv_fra [3] h h2 ∧ h2[3]? = some (.inr (6, [.ref 4, .ref 5, .ref 6, .int (nI n), .int (nI (q_toS n tx u).1), .int (nI cl), .int (nI (q_toS n tx u).2.1), .int (q_toS n tx u).2.2.1])) := by
  suffices g0 : mv_g ev mX6_readTo 0 (mv_ent [.ref 3] (mv_ml mX6_readTo)) [] h (fun r g => r = none ∧ mv_fra [3] h g ∧ g[3]? = some (.inr (6, [.ref 4, .ref 5, .ref 6, .int (nI n), .int (nI (q_toS n tx u).1), .int (nI cl), .int (nI (q_toS n tx u).2.1), .int (q_toS n tx u).2.2.1]))) from (by obtain ⟨r0, h0, K0, q0, Q0⟩ := mv_Kex g0; subst q0; exact ⟨h0, K0, Q0⟩)
  show mv_g ev mX6_readTo 0 [.ref 3, .null] [] h _
  have fr : mv_fra [3] h h := mv_fra.rf
  refine mv_aload_n dX6_readTo_0 rfl ?_
  obtain ⟨h1, K2, f3, y4⟩ := (k_X6_skipBlanks (ev := ev) (n := n) (tx := tx) (a0 := u.1) (cl := cl) (fa := u.2.1) (fp := u.2.2.1) H3 H4 hn htx ha)
  refine mv_cV0 (ci := 6) dX6_readTo_1 lk_X6_readTo_41 H3 rfl (Nat.le_of_ble_eq_true rfl) (Nat.le_of_ble_eq_true rfl) K2 ?_
  have H3 : h1[3]? = some (.inr (6, [.ref 4, .ref 5, .ref 6, .int (nI n), .int (nI (q_sk n tx (n - u.1) u.1)), .int (nI cl), .int (nI u.2.1), .int u.2.2.1])) := y4
  have H4 := f3.get (by decide) H4
  have H5 := f3.get (by decide) H5
  have H6 := f3.get (by decide) H6
  have fr := fr.trans f3 (by decide)
  refine mv_aload_n dX6_readTo_4 rfl ?_
  refine mv_aload_n dX6_readTo_5 rfl ?_
  refine mv_getf (ci := 6) (f := 4) dX6_readTo_6 H3 rfl (by decide) wd_120 rfl ?_
  refine mv_cV1 (ci := 6) dX6_readTo_9 lk_X6_readTo_68 H3 rfl (Nat.le_of_ble_eq_true rfl) (Nat.le_of_ble_eq_true rfl) (k_X6_endOfWord (ev := ev) H3 H4 hn htx (q_sk_in _ _ ha).2) ?_
  refine mv_istore_n dX6_readTo_12 (by decide) ?_
  refine mv_aload_n dX6_readTo_13 rfl ?_
  refine mv_aload_n dX6_readTo_14 rfl ?_
  refine mv_getf (ci := 6) (f := 4) dX6_readTo_15 H3 rfl (by decide) wd_120 rfl ?_
  refine mv_iload_n dX6_readTo_18 rfl ?_
  refine mv_ldcs (i := 1000020) dX6_readTo_19 (List.mem_of_getElem? (i := 0) rfl) ?_
  refine mv_cV3 (ci := 6) dX6_readTo_21 lk_X6_readTo_112 H3 rfl (Nat.le_of_ble_eq_true rfl) (Nat.le_of_ble_eq_true rfl) (k_X6_isWord_0 (ev := ev) H3 H4 hn htx hE (q_ew_in _ _ (q_sk_in _ _ ha).2).1 (q_ew_in _ _ (q_sk_in _ _ ha).2).2) ?_
  refine mv_if_eq (tgt := 35) dX6_readTo_24 (by decide) (fun c24 => ?_) (fun c24 => ?_)
  · have c24 : ¬ ((q_ew n tx (n - (q_sk n tx (n - u.1) u.1)) (q_sk n tx (n - u.1) u.1)) - (q_sk n tx (n - u.1) u.1) = 2 ∧ tx ((q_sk n tx (n - u.1) u.1) + 0) = 116 ∧ tx ((q_sk n tx (n - u.1) u.1) + 1) = 111) := (mv_b_0 _).mp c24
    refine mv_aload_n dX6_readTo_35 rfl ?_
    refine mv_iconst (v := nI 1) dX6_readTo_36 (by decide) ?_
    refine mv_aload_n dX6_readTo_37 rfl ?_
    refine mv_getf (ci := 6) (f := 4) dX6_readTo_38 H3 rfl (by decide) wd_120 rfl ?_
    obtain ⟨h5, K6, f7, y8⟩ := (k_X6_setFault (ev := ev) (n := n) (a0 := (q_sk n tx (n - u.1) u.1)) (cl := cl) (fa := u.2.1) (fp := u.2.2.1) (f := 1) (p := (q_sk n tx (n - u.1) u.1)) H3 (by omega))
    refine mv_cV2 (ci := 6) dX6_readTo_41 lk_X6_readTo_79 H3 rfl (Nat.le_of_ble_eq_true rfl) (Nat.le_of_ble_eq_true rfl) K6 ?_
    have H3 : h5[3]? = some (.inr (6, [.ref 4, .ref 5, .ref 6, .int (nI n), .int (nI (q_sk n tx (n - u.1) u.1)), .int (nI cl), .int (nI (q_f1 u.2.1 1)), .int (q_f2 u.2.1 (q_sk n tx (n - u.1) u.1) u.2.2.1)])) := y8
    have H4 := f7.get (by decide) H4
    have H5 := f7.get (by decide) H5
    have H6 := f7.get (by decide) H6
    have fr := fr.trans f7 (by decide)
    have e9 := (show q_toS n tx u = _ from if_neg c24)
    exact mv_vret dX6_readTo_44 rfl ⟨rfl, fr, (by rw [e9]; exact H3)⟩
  · have c24 : (q_ew n tx (n - (q_sk n tx (n - u.1) u.1)) (q_sk n tx (n - u.1) u.1)) - (q_sk n tx (n - u.1) u.1) = 2 ∧ tx ((q_sk n tx (n - u.1) u.1) + 0) = 116 ∧ tx ((q_sk n tx (n - u.1) u.1) + 1) = 111 := Classical.byContradiction (fun z => c24 ((mv_b_0 _).mpr z))
    refine mv_aload_n dX6_readTo_27 rfl ?_
    refine mv_iload_n dX6_readTo_28 rfl ?_
    refine mv_putf (ci := 6) (f := 4) dX6_readTo_29 H3 rfl (by decide) wd_120 rfl rfl (fun _ => ⟨rfl, rfl⟩) (Nat.le_of_ble_eq_true rfl) ?_
    refine mv_topH (fun h9 e10 => ?_)
    have H3 : h9[3]? = some (.inr (6, [.ref 4, .ref 5, .ref 6, .int (nI n), .int (nI (q_ew n tx (n - (q_sk n tx (n - u.1) u.1)) (q_sk n tx (n - u.1) u.1))), .int (nI cl), .int (nI u.2.1), .int u.2.2.1])) := mv_eq e10 H3
    have H4 := mv_ne e10 (by decide) H4
    have H5 := mv_ne e10 (by decide) H5
    have H6 := mv_ne e10 (by decide) H6
    have fr := fr.set e10 (by decide)
    clear e10
    refine mv_goto (tgt := 44) dX6_readTo_32 (by decide) ?_
    have e9 := (show q_toS n tx u = _ from if_pos c24)
    exact mv_vret dX6_readTo_44 rfl ⟨rfl, fr, (by rw [e9]; exact H3)⟩
theorem q_by_59 {n : Nat} {tx : Nat → Nat} (htx : ∀ i, tx i < 256) (s : Nat) : q_by n tx s = nI 59 ↔ s < n ∧ tx s = 59 := by
  have h := htx s
  unfold q_by
  by_cases c : s < n
  · rw [if_pos c, nI_eq (by omega) (by omega)]
    exact ⟨fun q => ⟨c, q⟩, fun q => q.2⟩
  · rw [if_neg c]
    exact ⟨fun q => absurd q (by decide), fun q => absurd q.1 c⟩
set_option maxRecDepth 100000 in
theorem k_X6_readSemicolon {ev : mv_E} {h : mv_H} {n : Nat} {tx : Nat → Nat} {u : q_U} {cl : Nat} {ti : Nat → Nat} (H3 : h[3]? = some (.inr (6, [.ref 4, .ref 5, .ref 6, .int (nI n), .int (nI u.1), .int (nI cl), .int (nI u.2.1), .int u.2.2.1]))) (H4 : h[4]? = some (.inl (0, 160, .inl (fun j => nI (tx j))))) (H5 : h[5]? = some (.inl (0, 8, .inl u.2.2.2))) (H6 : h[6]? = some (.inl (2, 7, .inl (fun j => nI (ti j))))) (hn : n ≤ 160) (htx : ∀ i, tx i < 256) (ha : u.1 ≤ n) (hfa : u.2.1 ≤ 3) : ∃ h2, mv_K ev mX6_readSemicolon [.ref 3] h (none) h2 ∧ mv_fra [3] h h2 ∧ h2[3]? = some (.inr (6, [.ref 4, .ref 5, .ref 6, .int (nI n), .int (nI (q_sem n tx u).1), .int (nI cl), .int (nI (q_sem n tx u).2.1), .int (q_sem n tx u).2.2.1])) := by
  suffices g0 : mv_g ev mX6_readSemicolon 0 (mv_ent [.ref 3] (mv_ml mX6_readSemicolon)) [] h (fun r g => r = none ∧ mv_fra [3] h g ∧ g[3]? = some (.inr (6, [.ref 4, .ref 5, .ref 6, .int (nI n), .int (nI (q_sem n tx u).1), .int (nI cl), .int (nI (q_sem n tx u).2.1), .int (q_sem n tx u).2.2.1]))) from (by obtain ⟨r0, h0, K0, q0, Q0⟩ := mv_Kex g0; subst q0; exact ⟨h0, K0, Q0⟩)
  show mv_g ev mX6_readSemicolon 0 [.ref 3] [] h _
  have fr : mv_fra [3] h h := mv_fra.rf
  refine mv_aload_n dX6_readSemicolon_0 rfl ?_
  obtain ⟨h1, K2, f3, y4⟩ := (k_X6_skipBlanks (ev := ev) (n := n) (tx := tx) (a0 := u.1) (cl := cl) (fa := u.2.1) (fp := u.2.2.1) H3 H4 hn htx ha)
  refine mv_cV0 (ci := 6) dX6_readSemicolon_1 lk_X6_readSemicolon_41 H3 rfl (Nat.le_of_ble_eq_true rfl) (Nat.le_of_ble_eq_true rfl) K2 ?_
  have H3 : h1[3]? = some (.inr (6, [.ref 4, .ref 5, .ref 6, .int (nI n), .int (nI (q_sk n tx (n - u.1) u.1)), .int (nI cl), .int (nI u.2.1), .int u.2.2.1])) := y4
  have H4 := f3.get (by decide) H4
  have H5 := f3.get (by decide) H5
  have H6 := f3.get (by decide) H6
  have fr := fr.trans f3 (by decide)
  refine mv_aload_n dX6_readSemicolon_4 rfl ?_
  refine mv_aload_n dX6_readSemicolon_5 rfl ?_
  refine mv_getf (ci := 6) (f := 4) dX6_readSemicolon_6 H3 rfl (by decide) wd_120 rfl ?_
  refine mv_cV1 (ci := 6) dX6_readSemicolon_9 lk_X6_readSemicolon_93 H3 rfl (Nat.le_of_ble_eq_true rfl) (Nat.le_of_ble_eq_true rfl) (k_X6_byteAt (ev := ev) H3 H4 hn (by have := (q_sk_in (n := n) (tx := tx) (n - u.1) u.1 ha).2; omega)) ?_
  refine mv_bipush (v := nI 59) dX6_readSemicolon_12 (by decide) ?_
  refine mv_icmp_ne (tgt := 30) dX6_readSemicolon_14 (by decide) (fun c14 => ?_) (fun c14 => ?_)
  · have c14 : ¬ ((q_sk n tx (n - u.1) u.1) < n ∧ tx (q_sk n tx (n - u.1) u.1) = 59) := fun q => c14 ((q_by_59 htx _).mpr q)
    refine mv_aload_n dX6_readSemicolon_30 rfl ?_
    refine mv_iconst (v := nI 1) dX6_readSemicolon_31 (by decide) ?_
    refine mv_aload_n dX6_readSemicolon_32 rfl ?_
    refine mv_getf (ci := 6) (f := 4) dX6_readSemicolon_33 H3 rfl (by decide) wd_120 rfl ?_
    obtain ⟨h5, K6, f7, y8⟩ := (k_X6_setFault (ev := ev) (n := n) (a0 := (q_sk n tx (n - u.1) u.1)) (cl := cl) (fa := u.2.1) (fp := u.2.2.1) (f := 1) (p := (q_sk n tx (n - u.1) u.1)) H3 (by omega))
    refine mv_cV2 (ci := 6) dX6_readSemicolon_36 lk_X6_readSemicolon_79 H3 rfl (Nat.le_of_ble_eq_true rfl) (Nat.le_of_ble_eq_true rfl) K6 ?_
    have H3 : h5[3]? = some (.inr (6, [.ref 4, .ref 5, .ref 6, .int (nI n), .int (nI (q_sk n tx (n - u.1) u.1)), .int (nI cl), .int (nI (q_f1 u.2.1 1)), .int (q_f2 u.2.1 (q_sk n tx (n - u.1) u.1) u.2.2.1)])) := y8
    have H4 := f7.get (by decide) H4
    have H5 := f7.get (by decide) H5
    have H6 := f7.get (by decide) H6
    have fr := fr.trans f7 (by decide)
    have e9 := (show q_sem n tx u = _ from if_neg c14)
    exact mv_vret dX6_readSemicolon_39 rfl ⟨rfl, fr, (by rw [e9]; exact H3)⟩
  · have c14 := (q_by_59 htx _).mp c14
    refine mv_aload_n dX6_readSemicolon_17 rfl ?_
    refine mv_dup dX6_readSemicolon_18 rfl ?_
    refine mv_getf (ci := 6) (f := 4) dX6_readSemicolon_19 H3 rfl (by decide) wd_120 rfl ?_
    refine mv_iconst (v := nI 1) dX6_readSemicolon_22 (by decide) ?_
    refine mv_iadd dX6_readSemicolon_23 ?_
    refine mv_topI (y := nI ((q_sk n tx (n - u.1) u.1) + 1)) (nI_add _ _) ?_
    refine mv_putf (ci := 6) (f := 4) dX6_readSemicolon_24 H3 rfl (by decide) wd_120 rfl rfl (fun _ => ⟨rfl, rfl⟩) (Nat.le_of_ble_eq_true rfl) ?_
    refine mv_topH (fun h9 e10 => ?_)
    have H3 : h9[3]? = some (.inr (6, [.ref 4, .ref 5, .ref 6, .int (nI n), .int (nI ((q_sk n tx (n - u.1) u.1) + 1)), .int (nI cl), .int (nI u.2.1), .int u.2.2.1])) := mv_eq e10 H3
    have H4 := mv_ne e10 (by decide) H4
    have H5 := mv_ne e10 (by decide) H5
    have H6 := mv_ne e10 (by decide) H6
    have fr := fr.set e10 (by decide)
    clear e10
    refine mv_goto (tgt := 39) dX6_readSemicolon_27 (by decide) ?_
    have e9 := (show q_sem n tx u = _ from if_pos c14)
    exact mv_vret dX6_readSemicolon_39 rfl ⟨rfl, fr, (by rw [e9]; exact H3)⟩
set_option maxRecDepth 100000 in
theorem k_X6_wordOf_0 {ev : mv_E} {h : mv_H}   : mv_K ev mX6_wordOf [.int (nI 0)] h (some (.ref 1000021)) h := by
  refine mv_Kof ?_
  show mv_g ev mX6_wordOf 0 [.int (nI 0)] [] h _
  refine mv_iload_n dX6_wordOf_0 rfl ?_
  refine mv_tswIn (tgt := 40) dX6_wordOf_1 (by decide) (by decide) rfl (by decide) ?_
  refine mv_ldcs (i := 1000021) dX6_wordOf_40 (List.mem_of_getElem? (i := 1) rfl) ?_
  exact mv_aret dX6_wordOf_42 rfl (Or.inl ⟨_, rfl⟩) ⟨rfl, rfl⟩
set_option maxRecDepth 100000 in
theorem k_X6_wordOf_1 {ev : mv_E} {h : mv_H}   : mv_K ev mX6_wordOf [.int (nI 1)] h (some (.ref 1000022)) h := by
  refine mv_Kof ?_
  show mv_g ev mX6_wordOf 0 [.int (nI 1)] [] h _
  refine mv_iload_n dX6_wordOf_0 rfl ?_
  refine mv_tswIn (tgt := 43) dX6_wordOf_1 (by decide) (by decide) rfl (by decide) ?_
  refine mv_ldcs (i := 1000022) dX6_wordOf_43 (List.mem_of_getElem? (i := 2) rfl) ?_
  exact mv_aret dX6_wordOf_45 rfl (Or.inl ⟨_, rfl⟩) ⟨rfl, rfl⟩
set_option maxRecDepth 100000 in
theorem k_X6_wordOf_2 {ev : mv_E} {h : mv_H}   : mv_K ev mX6_wordOf [.int (nI 2)] h (some (.ref 1000023)) h := by
  refine mv_Kof ?_
  show mv_g ev mX6_wordOf 0 [.int (nI 2)] [] h _
  refine mv_iload_n dX6_wordOf_0 rfl ?_
  refine mv_tswIn (tgt := 46) dX6_wordOf_1 (by decide) (by decide) rfl (by decide) ?_
  refine mv_ldcs (i := 1000023) dX6_wordOf_46 (List.mem_of_getElem? (i := 3) rfl) ?_
  exact mv_aret dX6_wordOf_48 rfl (Or.inl ⟨_, rfl⟩) ⟨rfl, rfl⟩
set_option maxRecDepth 100000 in
theorem k_X6_wordOf_3 {ev : mv_E} {h : mv_H}   : mv_K ev mX6_wordOf [.int (nI 3)] h (some (.ref 1000024)) h := by
  refine mv_Kof ?_
  show mv_g ev mX6_wordOf 0 [.int (nI 3)] [] h _
  refine mv_iload_n dX6_wordOf_0 rfl ?_
  refine mv_tswIn (tgt := 49) dX6_wordOf_1 (by decide) (by decide) rfl (by decide) ?_
  refine mv_ldcs (i := 1000024) dX6_wordOf_49 (List.mem_of_getElem? (i := 4) rfl) ?_
  exact mv_aret dX6_wordOf_51 rfl (Or.inl ⟨_, rfl⟩) ⟨rfl, rfl⟩
set_option maxRecDepth 100000 in
theorem k_X6_wordOf_4 {ev : mv_E} {h : mv_H}   : mv_K ev mX6_wordOf [.int (nI 4)] h (some (.ref 1000025)) h := by
  refine mv_Kof ?_
  show mv_g ev mX6_wordOf 0 [.int (nI 4)] [] h _
  refine mv_iload_n dX6_wordOf_0 rfl ?_
  refine mv_tswIn (tgt := 52) dX6_wordOf_1 (by decide) (by decide) rfl (by decide) ?_
  refine mv_ldcs (i := 1000025) dX6_wordOf_52 (List.mem_of_getElem? (i := 5) rfl) ?_
  exact mv_aret dX6_wordOf_54 rfl (Or.inl ⟨_, rfl⟩) ⟨rfl, rfl⟩
set_option maxRecDepth 100000 in
theorem k_X6_wordOf_5 {ev : mv_E} {h : mv_H}   : mv_K ev mX6_wordOf [.int (nI 5)] h (some (.ref 1000026)) h := by
  refine mv_Kof ?_
  show mv_g ev mX6_wordOf 0 [.int (nI 5)] [] h _
  refine mv_iload_n dX6_wordOf_0 rfl ?_
  refine mv_tswIn (tgt := 55) dX6_wordOf_1 (by decide) (by decide) rfl (by decide) ?_
  refine mv_ldcs (i := 1000026) dX6_wordOf_55 (List.mem_of_getElem? (i := 6) rfl) ?_
  exact mv_aret dX6_wordOf_57 rfl (Or.inl ⟨_, rfl⟩) ⟨rfl, rfl⟩
set_option maxRecDepth 100000 in
theorem k_X6_wordOf_6 {ev : mv_E} {h : mv_H}   : mv_K ev mX6_wordOf [.int (nI 6)] h (some (.ref 1000027)) h := by
  refine mv_Kof ?_
  show mv_g ev mX6_wordOf 0 [.int (nI 6)] [] h _
  refine mv_iload_n dX6_wordOf_0 rfl ?_
  refine mv_tswOut (tgt := 58) dX6_wordOf_1 (by decide) (by decide) ?_
  refine mv_ldcs (i := 1000027) dX6_wordOf_58 (List.mem_of_getElem? (i := 7) rfl) ?_
  exact mv_aret dX6_wordOf_60 rfl (Or.inl ⟨_, rfl⟩) ⟨rfl, rfl⟩
def q_cnf (tx : Nat → Nat) (k e : Nat) : Nat → Int32
  | 0 => if q_kw0 tx k e then nI 0 else if q_kw1 tx k e then nI 1 else if q_kw2 tx k e then nI 2 else if q_kw3 tx k e then nI 3 else if q_kw4 tx k e then nI 4 else if q_kw5 tx k e then nI 5 else if q_kw6 tx k e then nI 6 else -1
  | 1 => if q_kw1 tx k e then nI 1 else if q_kw2 tx k e then nI 2 else if q_kw3 tx k e then nI 3 else if q_kw4 tx k e then nI 4 else if q_kw5 tx k e then nI 5 else if q_kw6 tx k e then nI 6 else -1
  | 2 => if q_kw2 tx k e then nI 2 else if q_kw3 tx k e then nI 3 else if q_kw4 tx k e then nI 4 else if q_kw5 tx k e then nI 5 else if q_kw6 tx k e then nI 6 else -1
  | 3 => if q_kw3 tx k e then nI 3 else if q_kw4 tx k e then nI 4 else if q_kw5 tx k e then nI 5 else if q_kw6 tx k e then nI 6 else -1
  | 4 => if q_kw4 tx k e then nI 4 else if q_kw5 tx k e then nI 5 else if q_kw6 tx k e then nI 6 else -1
  | 5 => if q_kw5 tx k e then nI 5 else if q_kw6 tx k e then nI 6 else -1
  | 6 => if q_kw6 tx k e then nI 6 else -1
  | _ => -1
set_option maxRecDepth 100000 in
theorem l_X6_clauseNamed {ev : mv_E} {h : mv_H} {n : Nat} {tx : Nat → Nat} {a0 : Nat} {cl : Nat} {fa : Nat} {fp : Int32} {k : Nat} {e : Nat} (H3 : h[3]? = some (.inr (6, [.ref 4, .ref 5, .ref 6, .int (nI n), .int (nI a0), .int (nI cl), .int (nI fa), .int fp]))) (H4 : h[4]? = some (.inl (0, 160, .inl (fun j => nI (tx j))))) (hn : n ≤ 160) (htx : ∀ i, tx i < 256) (hE : q_E ev) (hk : k ≤ e) (he : e ≤ n) : ∀ (fu : Nat) (y : Nat), 7 < y + fu → (y ≤ 7) → (q_cnf tx k e y = q_cn tx k e) → mv_g ev mX6_clauseNamed 2 [.ref 3, .int (nI k), .int (nI e), .int (nI y)] [] h (fun r g => r = some (.int (q_cn tx k e)) ∧ g = h) := by
  intro fu
  induction fu with
  | zero => intro y hm hy hq; exact absurd hm (by omega)
  | succ fu ih =>
    intro y hm hy hq
    refine mv_iload_n dX6_clauseNamed_2 rfl ?_
    refine mv_bipush (v := nI 7) dX6_clauseNamed_3 (by decide) ?_
    refine mv_icmp_ge (tgt := 29) dX6_clauseNamed_5 (by decide) (fun c5 => ?_) (fun c5 => ?_)
    · have c5 : 7 ≤ y := (nI_leI (by omega) (by omega)).mp c5
      refine mv_iconst (v := (-1)) dX6_clauseNamed_29 (by decide) ?_
      exact mv_iret dX6_clauseNamed_30 rfl rfl ⟨(congrArg (fun z => some (Value.int z)) (by rw [← hq, show y = 7 by omega]; rfl)), rfl⟩
    · have c5 : ¬ (7 ≤ y) := fun z => c5 ((nI_leI (by omega) (by omega)).mpr z)
      have ey : y = 0 ∨ y = 1 ∨ y = 2 ∨ y = 3 ∨ y = 4 ∨ y = 5 ∨ y = 6 := (by omega)
      rcases ey with rfl | rfl | rfl | rfl | rfl | rfl | rfl
      · skip
        refine mv_aload_n dX6_clauseNamed_8 rfl ?_
        refine mv_iload_n dX6_clauseNamed_9 rfl ?_
        refine mv_iload_n dX6_clauseNamed_10 rfl ?_
        refine mv_iload_n dX6_clauseNamed_11 rfl ?_
        refine mv_cS1 dX6_clauseNamed_12 lk_X6_clauseNamed_116 (Nat.le_of_ble_eq_true rfl) (Nat.le_of_ble_eq_true rfl) (k_X6_wordOf_0 (ev := ev)) ?_
        refine mv_cV3 (ci := 6) dX6_clauseNamed_15 lk_X6_clauseNamed_112 H3 rfl (Nat.le_of_ble_eq_true rfl) (Nat.le_of_ble_eq_true rfl) (k_X6_isWord_1 (ev := ev) H3 H4 hn htx hE hk he) ?_
        refine mv_if_eq (tgt := 23) dX6_clauseNamed_18 (by decide) (fun c18 => ?_) (fun c18 => ?_)
        · have w : ¬ q_kw0 tx k e := (mv_b_0 _).mp c18
          refine mv_iinc (v := nI 1) dX6_clauseNamed_23 rfl (mv_inc 0 1) (by decide) ?_
          refine mv_goto (tgt := 2) dX6_clauseNamed_26 (by decide) ?_
          exact ih 1 (by omega) (by omega) ((if_neg w).symm.trans hq)
        · have w : q_kw0 tx k e := mv_b_ne c18
          refine mv_iload_n dX6_clauseNamed_21 rfl ?_
          exact mv_iret dX6_clauseNamed_22 rfl rfl ⟨(congrArg (fun z => some (Value.int z)) ((if_pos w).symm.trans hq)), rfl⟩
      · skip
        refine mv_aload_n dX6_clauseNamed_8 rfl ?_
        refine mv_iload_n dX6_clauseNamed_9 rfl ?_
        refine mv_iload_n dX6_clauseNamed_10 rfl ?_
        refine mv_iload_n dX6_clauseNamed_11 rfl ?_
        refine mv_cS1 dX6_clauseNamed_12 lk_X6_clauseNamed_116 (Nat.le_of_ble_eq_true rfl) (Nat.le_of_ble_eq_true rfl) (k_X6_wordOf_1 (ev := ev)) ?_
        refine mv_cV3 (ci := 6) dX6_clauseNamed_15 lk_X6_clauseNamed_112 H3 rfl (Nat.le_of_ble_eq_true rfl) (Nat.le_of_ble_eq_true rfl) (k_X6_isWord_2 (ev := ev) H3 H4 hn htx hE hk he) ?_
        refine mv_if_eq (tgt := 23) dX6_clauseNamed_18 (by decide) (fun c18 => ?_) (fun c18 => ?_)
        · have w : ¬ q_kw1 tx k e := (mv_b_0 _).mp c18
          refine mv_iinc (v := nI 2) dX6_clauseNamed_23 rfl (mv_inc 1 1) (by decide) ?_
          refine mv_goto (tgt := 2) dX6_clauseNamed_26 (by decide) ?_
          exact ih 2 (by omega) (by omega) ((if_neg w).symm.trans hq)
        · have w : q_kw1 tx k e := mv_b_ne c18
          refine mv_iload_n dX6_clauseNamed_21 rfl ?_
          exact mv_iret dX6_clauseNamed_22 rfl rfl ⟨(congrArg (fun z => some (Value.int z)) ((if_pos w).symm.trans hq)), rfl⟩
      · skip
        refine mv_aload_n dX6_clauseNamed_8 rfl ?_
        refine mv_iload_n dX6_clauseNamed_9 rfl ?_
        refine mv_iload_n dX6_clauseNamed_10 rfl ?_
        refine mv_iload_n dX6_clauseNamed_11 rfl ?_
        refine mv_cS1 dX6_clauseNamed_12 lk_X6_clauseNamed_116 (Nat.le_of_ble_eq_true rfl) (Nat.le_of_ble_eq_true rfl) (k_X6_wordOf_2 (ev := ev)) ?_
        refine mv_cV3 (ci := 6) dX6_clauseNamed_15 lk_X6_clauseNamed_112 H3 rfl (Nat.le_of_ble_eq_true rfl) (Nat.le_of_ble_eq_true rfl) (k_X6_isWord_3 (ev := ev) H3 H4 hn htx hE hk he) ?_
        refine mv_if_eq (tgt := 23) dX6_clauseNamed_18 (by decide) (fun c18 => ?_) (fun c18 => ?_)
        · have w : ¬ q_kw2 tx k e := (mv_b_0 _).mp c18
          refine mv_iinc (v := nI 3) dX6_clauseNamed_23 rfl (mv_inc 2 1) (by decide) ?_
          refine mv_goto (tgt := 2) dX6_clauseNamed_26 (by decide) ?_
          exact ih 3 (by omega) (by omega) ((if_neg w).symm.trans hq)
        · have w : q_kw2 tx k e := mv_b_ne c18
          refine mv_iload_n dX6_clauseNamed_21 rfl ?_
          exact mv_iret dX6_clauseNamed_22 rfl rfl ⟨(congrArg (fun z => some (Value.int z)) ((if_pos w).symm.trans hq)), rfl⟩
      · skip
        refine mv_aload_n dX6_clauseNamed_8 rfl ?_
        refine mv_iload_n dX6_clauseNamed_9 rfl ?_
        refine mv_iload_n dX6_clauseNamed_10 rfl ?_
        refine mv_iload_n dX6_clauseNamed_11 rfl ?_
        refine mv_cS1 dX6_clauseNamed_12 lk_X6_clauseNamed_116 (Nat.le_of_ble_eq_true rfl) (Nat.le_of_ble_eq_true rfl) (k_X6_wordOf_3 (ev := ev)) ?_
        refine mv_cV3 (ci := 6) dX6_clauseNamed_15 lk_X6_clauseNamed_112 H3 rfl (Nat.le_of_ble_eq_true rfl) (Nat.le_of_ble_eq_true rfl) (k_X6_isWord_4 (ev := ev) H3 H4 hn htx hE hk he) ?_
        refine mv_if_eq (tgt := 23) dX6_clauseNamed_18 (by decide) (fun c18 => ?_) (fun c18 => ?_)
        · have w : ¬ q_kw3 tx k e := (mv_b_0 _).mp c18
          refine mv_iinc (v := nI 4) dX6_clauseNamed_23 rfl (mv_inc 3 1) (by decide) ?_
          refine mv_goto (tgt := 2) dX6_clauseNamed_26 (by decide) ?_
          exact ih 4 (by omega) (by omega) ((if_neg w).symm.trans hq)
        · have w : q_kw3 tx k e := mv_b_ne c18
          refine mv_iload_n dX6_clauseNamed_21 rfl ?_
          exact mv_iret dX6_clauseNamed_22 rfl rfl ⟨(congrArg (fun z => some (Value.int z)) ((if_pos w).symm.trans hq)), rfl⟩
      · skip
        refine mv_aload_n dX6_clauseNamed_8 rfl ?_
        refine mv_iload_n dX6_clauseNamed_9 rfl ?_
        refine mv_iload_n dX6_clauseNamed_10 rfl ?_
        refine mv_iload_n dX6_clauseNamed_11 rfl ?_
        refine mv_cS1 dX6_clauseNamed_12 lk_X6_clauseNamed_116 (Nat.le_of_ble_eq_true rfl) (Nat.le_of_ble_eq_true rfl) (k_X6_wordOf_4 (ev := ev)) ?_
        refine mv_cV3 (ci := 6) dX6_clauseNamed_15 lk_X6_clauseNamed_112 H3 rfl (Nat.le_of_ble_eq_true rfl) (Nat.le_of_ble_eq_true rfl) (k_X6_isWord_5 (ev := ev) H3 H4 hn htx hE hk he) ?_
        refine mv_if_eq (tgt := 23) dX6_clauseNamed_18 (by decide) (fun c18 => ?_) (fun c18 => ?_)
        · have w : ¬ q_kw4 tx k e := (mv_b_0 _).mp c18
          refine mv_iinc (v := nI 5) dX6_clauseNamed_23 rfl (mv_inc 4 1) (by decide) ?_
          refine mv_goto (tgt := 2) dX6_clauseNamed_26 (by decide) ?_
          exact ih 5 (by omega) (by omega) ((if_neg w).symm.trans hq)
        · have w : q_kw4 tx k e := mv_b_ne c18
          refine mv_iload_n dX6_clauseNamed_21 rfl ?_
          exact mv_iret dX6_clauseNamed_22 rfl rfl ⟨(congrArg (fun z => some (Value.int z)) ((if_pos w).symm.trans hq)), rfl⟩
      · skip
        refine mv_aload_n dX6_clauseNamed_8 rfl ?_
        refine mv_iload_n dX6_clauseNamed_9 rfl ?_
        refine mv_iload_n dX6_clauseNamed_10 rfl ?_
        refine mv_iload_n dX6_clauseNamed_11 rfl ?_
        refine mv_cS1 dX6_clauseNamed_12 lk_X6_clauseNamed_116 (Nat.le_of_ble_eq_true rfl) (Nat.le_of_ble_eq_true rfl) (k_X6_wordOf_5 (ev := ev)) ?_
        refine mv_cV3 (ci := 6) dX6_clauseNamed_15 lk_X6_clauseNamed_112 H3 rfl (Nat.le_of_ble_eq_true rfl) (Nat.le_of_ble_eq_true rfl) (k_X6_isWord_6 (ev := ev) H3 H4 hn htx hE hk he) ?_
        refine mv_if_eq (tgt := 23) dX6_clauseNamed_18 (by decide) (fun c18 => ?_) (fun c18 => ?_)
        · have w : ¬ q_kw5 tx k e := (mv_b_0 _).mp c18
          refine mv_iinc (v := nI 6) dX6_clauseNamed_23 rfl (mv_inc 5 1) (by decide) ?_
          refine mv_goto (tgt := 2) dX6_clauseNamed_26 (by decide) ?_
          exact ih 6 (by omega) (by omega) ((if_neg w).symm.trans hq)
        · have w : q_kw5 tx k e := mv_b_ne c18
          refine mv_iload_n dX6_clauseNamed_21 rfl ?_
          exact mv_iret dX6_clauseNamed_22 rfl rfl ⟨(congrArg (fun z => some (Value.int z)) ((if_pos w).symm.trans hq)), rfl⟩
      · skip
        refine mv_aload_n dX6_clauseNamed_8 rfl ?_
        refine mv_iload_n dX6_clauseNamed_9 rfl ?_
        refine mv_iload_n dX6_clauseNamed_10 rfl ?_
        refine mv_iload_n dX6_clauseNamed_11 rfl ?_
        refine mv_cS1 dX6_clauseNamed_12 lk_X6_clauseNamed_116 (Nat.le_of_ble_eq_true rfl) (Nat.le_of_ble_eq_true rfl) (k_X6_wordOf_6 (ev := ev)) ?_
        refine mv_cV3 (ci := 6) dX6_clauseNamed_15 lk_X6_clauseNamed_112 H3 rfl (Nat.le_of_ble_eq_true rfl) (Nat.le_of_ble_eq_true rfl) (k_X6_isWord_7 (ev := ev) H3 H4 hn htx hE hk he) ?_
        refine mv_if_eq (tgt := 23) dX6_clauseNamed_18 (by decide) (fun c18 => ?_) (fun c18 => ?_)
        · have w : ¬ q_kw6 tx k e := (mv_b_0 _).mp c18
          refine mv_iinc (v := nI 7) dX6_clauseNamed_23 rfl (mv_inc 6 1) (by decide) ?_
          refine mv_goto (tgt := 2) dX6_clauseNamed_26 (by decide) ?_
          exact ih 7 (by omega) (by omega) ((if_neg w).symm.trans hq)
        · have w : q_kw6 tx k e := mv_b_ne c18
          refine mv_iload_n dX6_clauseNamed_21 rfl ?_
          exact mv_iret dX6_clauseNamed_22 rfl rfl ⟨(congrArg (fun z => some (Value.int z)) ((if_pos w).symm.trans hq)), rfl⟩
set_option maxRecDepth 100000 in
theorem k_X6_clauseNamed {ev : mv_E} {h : mv_H} {n : Nat} {tx : Nat → Nat} {a0 : Nat} {cl : Nat} {fa : Nat} {fp : Int32} {k : Nat} {e : Nat} (H3 : h[3]? = some (.inr (6, [.ref 4, .ref 5, .ref 6, .int (nI n), .int (nI a0), .int (nI cl), .int (nI fa), .int fp]))) (H4 : h[4]? = some (.inl (0, 160, .inl (fun j => nI (tx j))))) (hn : n ≤ 160) (htx : ∀ i, tx i < 256) (hE : q_E ev) (hk : k ≤ e) (he : e ≤ n) : mv_K ev mX6_clauseNamed [.ref 3, .int (nI k), .int (nI e)] h (some (.int (q_cn tx k e))) h := by
  refine mv_Kof ?_
  show mv_g ev mX6_clauseNamed 0 [.ref 3, .int (nI k), .int (nI e), .null] [] h _
  refine mv_iconst (v := nI 0) dX6_clauseNamed_0 (by decide) ?_
  refine mv_istore_n dX6_clauseNamed_1 (by decide) ?_
  exact l_X6_clauseNamed H3 H4 hn htx hE hk he (7 + 1) 0 (by omega) (Nat.zero_le _) rfl
