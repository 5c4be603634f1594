def q_by (n : Nat) (tx : Nat → Nat) (k : Nat) : Int32 := if k < n then nI (tx k) else -1
theorem q_w0 {n k : Nat} (hn : n ≤ 160) (hk : k < 1000) : (nI 0 ≤ nI k ∧ nI k ≤ nI n - nI 1) ↔ k < n := by
  have h1 := pk_sub_toInt (a := n) (b := 1) (by omega) (by omega)
  rw [Int32.le_iff_toInt_le, Int32.le_iff_toInt_le, h1, nI_toInt (show k < 2 ^ 31 by omega), show (nI 0).toInt = 0 by decide]
  omega
def q_sk (n : Nat) (tx : Nat → Nat) : Nat → Nat → Nat
  | 0, k => k
  | f + 1, k => if k < n ∧ tx k = 32 then q_sk n tx f (k + 1) else k
theorem q_sk_y {n : Nat} {tx : Nat → Nat} {k : Nat} (h : k < n ∧ tx k = 32) : q_sk n tx (n - k) k = q_sk n tx (n - (k + 1)) (k + 1) := by
  have e : n - k = (n - (k + 1)) + 1 := by omega
  rw [e]
  exact if_pos h
theorem q_sk_n {n : Nat} {tx : Nat → Nat} {k : Nat} (h : ¬ (k < n ∧ tx k = 32)) : q_sk n tx (n - k) k = k := by
  by_cases c : n - k = 0
  · rw [c]; rfl
  · have e : n - k = (n - k - 1) + 1 := by omega
    rw [e]
    exact if_neg h
def q_ew (n : Nat) (tx : Nat → Nat) : Nat → Nat → Nat
  | 0, k => k
  | f + 1, k => if k < n ∧ 97 ≤ tx k ∧ tx k ≤ 122 then q_ew n tx f (k + 1) else k
theorem q_ew_y {n : Nat} {tx : Nat → Nat} {k : Nat} (h : k < n ∧ 97 ≤ tx k ∧ tx k ≤ 122) : q_ew n tx (n - k) k = q_ew n tx (n - (k + 1)) (k + 1) := by
  have e : n - k = (n - (k + 1)) + 1 := by omega
  rw [e]
  exact if_pos h
theorem q_ew_n {n : Nat} {tx : Nat → Nat} {k : Nat} (h : ¬ (k < n ∧ 97 ≤ tx k ∧ tx k ≤ 122)) : q_ew n tx (n - k) k = k := by
  by_cases c : n - k = 0
  · rw [c]; rfl
  · have e : n - k = (n - k - 1) + 1 := by omega
    rw [e]
    exact if_neg h
set_option maxRecDepth 100000 in
theorem k_X6_size {ev : mv_E} {h : mv_H} {n : Nat} {a0 : Nat} {cl : Nat} {fa : Nat} {fp : Int32} (H3 : h[3]? = some (.inr (6, [.ref 4, .ref 5, .ref 6, .int (nI n), .int (nI a0), .int (nI cl), .int (nI fa), .int fp])))  : mv_K ev mX6_size [.ref 3] h (some (.int (nI n))) h := by
  refine mv_Kof ?_
  show mv_g ev mX6_size 0 [.ref 3] [] h _
  refine mv_aload_n dX6_size_0 rfl ?_
  refine mv_getf (ci := 6) (f := 3) dX6_size_1 H3 rfl (by decide) wd_119 rfl ?_
  exact mv_iret dX6_size_4 rfl rfl ⟨rfl, rfl⟩
set_option maxRecDepth 100000 in
theorem k_X6_placeOfFault {ev : mv_E} {h : mv_H} {n : Nat} {a0 : Nat} {cl : Nat} {fa : Nat} {fp : Int32} (H3 : h[3]? = some (.inr (6, [.ref 4, .ref 5, .ref 6, .int (nI n), .int (nI a0), .int (nI cl), .int (nI fa), .int fp])))  : mv_K ev mX6_placeOfFault [.ref 3] h (some (.int fp)) h := by
  refine mv_Kof ?_
  show mv_g ev mX6_placeOfFault 0 [.ref 3] [] h _
  refine mv_aload_n dX6_placeOfFault_0 rfl ?_
  refine mv_getf (ci := 6) (f := 7) dX6_placeOfFault_1 H3 rfl (by decide) wd_123 rfl ?_
  exact mv_iret dX6_placeOfFault_4 rfl rfl ⟨rfl, rfl⟩
set_option maxRecDepth 100000 in
theorem k_X6_hasRoomFor {ev : mv_E} {h : mv_H} {n : Nat} {a0 : Nat} {cl : Nat} {fa : Nat} {fp : Int32} {k : Nat} (H3 : h[3]? = some (.inr (6, [.ref 4, .ref 5, .ref 6, .int (nI n), .int (nI a0), .int (nI cl), .int (nI fa), .int fp]))) (hn : n ≤ 160) (hk : k < 1000) : mv_K ev mX6_hasRoomFor [.ref 3, .int (nI k)] h (some (.int (mv_b (k + n ≤ 160)))) h := by
  refine mv_Kof ?_
  show mv_g ev mX6_hasRoomFor 0 [.ref 3, .int (nI k)] [] h _
  refine mv_iload_n dX6_hasRoomFor_0 rfl ?_
  refine mv_sipush (v := nI 160) dX6_hasRoomFor_1 (by decide) ?_
  refine mv_aload_n dX6_hasRoomFor_4 rfl ?_
  refine mv_getf (ci := 6) (f := 3) dX6_hasRoomFor_5 H3 rfl (by decide) wd_119 rfl ?_
  refine mv_isub dX6_hasRoomFor_8 ?_
  refine mv_topI (y := nI (160 - n)) (pk_sub (by omega)) ?_
  refine mv_icmp_gt (tgt := 16) dX6_hasRoomFor_9 (by decide) (fun c9 => ?_) (fun c9 => ?_)
  · have c9 : 160 - n < k := (nI_ltI (by omega) (by omega)).mp c9
    refine mv_iconst (v := nI 0) dX6_hasRoomFor_16 (by decide) ?_
    exact mv_iret dX6_hasRoomFor_17 rfl rfl ⟨(congrArg (fun z => some (Value.int z)) (by first | exact (mv_b_t (by omega)).symm | exact (mv_b_f (by omega)).symm)), rfl⟩
  · have c9 : ¬ (160 - n < k) := fun z => c9 ((nI_ltI (by omega) (by omega)).mpr z)
    refine mv_iconst (v := nI 1) dX6_hasRoomFor_12 (by decide) ?_
    refine mv_goto (tgt := 17) dX6_hasRoomFor_13 (by decide) ?_
    exact mv_iret dX6_hasRoomFor_17 rfl rfl ⟨(congrArg (fun z => some (Value.int z)) (by first | exact (mv_b_t (by omega)).symm | exact (mv_b_f (by omega)).symm)), rfl⟩
set_option maxRecDepth 100000 in
theorem k_X6_isFigure {ev : mv_E} {h : mv_H} {x : Int32}   : mv_K ev mX6_isFigure [.int x] h (some (.int (mv_b (nI 48 ≤ x ∧ x ≤ nI 57)))) h := by
  refine mv_Kof ?_
  show mv_g ev mX6_isFigure 0 [.int x] [] h _
  refine mv_iload_n dX6_isFigure_0 rfl ?_
  refine mv_bipush (v := nI 48) dX6_isFigure_1 (by decide) ?_
  refine mv_icmp_lt (tgt := 16) dX6_isFigure_3 (by decide) (fun c3 => ?_) (fun c3 => ?_)
  · skip
    refine mv_iconst (v := nI 0) dX6_isFigure_16 (by decide) ?_
    exact mv_iret dX6_isFigure_17 rfl rfl ⟨(congrArg (fun z => some (Value.int z)) (by first | exact (mv_b_t ⟨Int32.not_lt.mp c3, Int32.not_lt.mp c9⟩).symm | exact (mv_b_f (fun q => absurd q.1 (Int32.not_le.mpr c3))).symm | exact (mv_b_f (fun q => absurd q.2 (Int32.not_le.mpr c9))).symm)), rfl⟩
  · skip
    refine mv_iload_n dX6_isFigure_6 rfl ?_
    refine mv_bipush (v := nI 57) dX6_isFigure_7 (by decide) ?_
    refine mv_icmp_gt (tgt := 16) dX6_isFigure_9 (by decide) (fun c9 => ?_) (fun c9 => ?_)
    · skip
      refine mv_iconst (v := nI 0) dX6_isFigure_16 (by decide) ?_
      exact mv_iret dX6_isFigure_17 rfl rfl ⟨(congrArg (fun z => some (Value.int z)) (by first | exact (mv_b_t ⟨Int32.not_lt.mp c3, Int32.not_lt.mp c9⟩).symm | exact (mv_b_f (fun q => absurd q.1 (Int32.not_le.mpr c3))).symm | exact (mv_b_f (fun q => absurd q.2 (Int32.not_le.mpr c9))).symm)), rfl⟩
    · skip
      refine mv_iconst (v := nI 1) dX6_isFigure_12 (by decide) ?_
      refine mv_goto (tgt := 17) dX6_isFigure_13 (by decide) ?_
      exact mv_iret dX6_isFigure_17 rfl rfl ⟨(congrArg (fun z => some (Value.int z)) (by first | exact (mv_b_t ⟨Int32.not_lt.mp c3, Int32.not_lt.mp c9⟩).symm | exact (mv_b_f (fun q => absurd q.1 (Int32.not_le.mpr c3))).symm | exact (mv_b_f (fun q => absurd q.2 (Int32.not_le.mpr c9))).symm)), rfl⟩
set_option maxRecDepth 100000 in
theorem k_X6_byteAt {ev : mv_E} {h : mv_H} {n : Nat} {tx : Nat → Nat} {a0 : Nat} {cl : Nat} {fa : Nat} {fp : Int32} {k : Nat} (H3 : h[3]? = some (.inr (6, [.ref 4, .ref 5, .ref 6, .int (nI n), .int (nI a0), .int (nI cl), .int (nI fa), .int fp]))) (H4 : h[4]? = some (.inl (0, 160, .inl (fun j => nI (tx j))))) (hn : n ≤ 160) (hk : k < 1000) : mv_K ev mX6_byteAt [.ref 3, .int (nI k)] h (some (.int (q_by n tx k))) h := by
  refine mv_Kof ?_
  show mv_g ev mX6_byteAt 0 [.ref 3, .int (nI k)] [] h _
  refine mv_iload_n dX6_byteAt_0 rfl ?_
  refine mv_iconst (v := nI 0) dX6_byteAt_1 (by decide) ?_
  refine mv_aload_n dX6_byteAt_2 rfl ?_
  refine mv_getf (ci := 6) (f := 3) dX6_byteAt_3 H3 rfl (by decide) wd_119 rfl ?_
  refine mv_iconst (v := nI 1) dX6_byteAt_6 (by decide) ?_
  refine mv_isub dX6_byteAt_7 ?_
  refine mv_cSN3 dX6_byteAt_8 lk_X6_byteAt_75 (Nat.le_of_ble_eq_true rfl) (Nat.le_of_ble_eq_true rfl) (k_X11_within (ev := ev)) ?_
  refine mv_if_eq (tgt := 32) dX6_byteAt_11 (by decide) (fun c11 => ?_) (fun c11 => ?_)
  · have c11 : ¬ k < n := fun q => (mv_b_0 _).mp c11 ((q_w0 hn hk).mpr q)
    refine mv_iconst (v := (-1)) dX6_byteAt_32 (by decide) ?_
    exact mv_iret dX6_byteAt_33 rfl rfl ⟨(congrArg (fun z => some (Value.int z)) (by first | exact (if_pos c11).symm | exact (if_neg c11).symm)), rfl⟩
  · have c11 := (q_w0 hn hk).mp (mv_b_ne c11)
    refine mv_iload_n dX6_byteAt_14 rfl ?_
    refine mv_aload_n dX6_byteAt_15 rfl ?_
    refine mv_getf (ci := 6) (f := 0) dX6_byteAt_16 H3 rfl (by decide) wd_116 rfl ?_
    refine mv_alen dX6_byteAt_19 H4 (by decide) ?_
    refine mv_icmp_ge (tgt := 32) dX6_byteAt_20 (by decide) (fun z => absurd z ((fun z => absurd ((nI_leI (by omega) (by omega)).mp z) (by omega)))) (fun c20 => ?_)
    refine mv_aload_n dX6_byteAt_23 rfl ?_
    refine mv_getf (ci := 6) (f := 0) dX6_byteAt_24 H3 rfl (by decide) wd_116 rfl ?_
    refine mv_iload_n dX6_byteAt_27 rfl ?_
    refine mv_iaN (j := k) (x := nI (tx k)) dX6_byteAt_28 H4 rfl (by decide) (by omega) rfl ?_
    refine mv_goto (tgt := 33) dX6_byteAt_29 (by decide) ?_
    exact mv_iret dX6_byteAt_33 rfl rfl ⟨(congrArg (fun z => some (Value.int z)) (by first | exact (if_pos c11).symm | exact (if_neg c11).symm)), rfl⟩
set_option maxRecDepth 100000 in
theorem l_X6_skip {ev : mv_E} {h : mv_H} {n : Nat} {tx : Nat → Nat} {a0 : Nat} {cl : Nat} {fa : Nat} {fp : Int32}  (hn : n ≤ 160) (htx : ∀ i, tx i < 256) (ha : a0 ≤ n) : ∀ (fu : Nat) (k : Nat), ∀ (g : mv_H), n < k + fu → mv_fra [3] h g → g[3]? = some (.inr (6, [.ref 4, .ref 5, .ref 6, .int (nI n), .int (nI k), .int (nI cl), .int (nI fa), .int fp])) → g[4]? = some (.inl (0, 160, .inl (fun j => nI (tx j)))) → (k ≤ n) → (q_sk n tx (n - k) k = q_sk n tx (n - a0) a0) → mv_g ev mX6_skipBlanks 0 [.ref 3] [] g (fun r g => r = none ∧ mv_fra [3] h g ∧ g[3]? = some (.inr (6, [.ref 4, .ref 5, .ref 6, .int (nI n), .int (nI (q_sk n tx (n - a0) a0)), .int (nI cl), .int (nI fa), .int fp]))) := by
  intro fu
  induction fu with
  | zero => intro k g hm fr H3 H4 hk hq; exact absurd hm (by omega)
  | succ fu ih =>
    intro k g hm fr H3 H4 hk hq
    have n1 := htx k
    refine mv_aload_n dX6_skipBlanks_0 rfl ?_
    refine mv_getf (ci := 6) (f := 4) dX6_skipBlanks_1 H3 rfl (by decide) wd_120 rfl ?_
    refine mv_aload_n dX6_skipBlanks_4 rfl ?_
    refine mv_getf (ci := 6) (f := 3) dX6_skipBlanks_5 H3 rfl (by decide) wd_119 rfl ?_
    refine mv_icmp_ge (tgt := 37) dX6_skipBlanks_8 (by decide) (fun c8 => ?_) (fun c8 => ?_)
    · have c8 : n ≤ k := (nI_leI (by omega) (by omega)).mp c8
      have e9 : q_sk n tx (n - a0) a0 = k := (by rw [← hq]; exact q_sk_n (by omega))
      exact mv_vret dX6_skipBlanks_37 rfl ⟨rfl, fr, (by rw [e9]; exact H3)⟩
    · have c8 : ¬ (n ≤ k) := fun z => c8 ((nI_leI (by omega) (by omega)).mpr z)
      refine mv_aload_n dX6_skipBlanks_11 rfl ?_
      refine mv_aload_n dX6_skipBlanks_12 rfl ?_
      refine mv_getf (ci := 6) (f := 4) dX6_skipBlanks_13 H3 rfl (by decide) wd_120 rfl ?_
      refine mv_cV1 (ci := 6) dX6_skipBlanks_16 lk_X6_skipBlanks_93 H3 rfl (Nat.le_of_ble_eq_true rfl) (Nat.le_of_ble_eq_true rfl) (k_X6_byteAt (ev := ev) H3 H4 hn (by omega)) ?_
      refine mv_topI (y := nI (tx k)) (if_pos (by omega)) ?_
      refine mv_bipush (v := nI 32) dX6_skipBlanks_19 (by decide) ?_
      refine mv_icmp_ne (tgt := 37) dX6_skipBlanks_21 (by decide) (fun c21 => ?_) (fun c21 => ?_)
      · have c21 : ¬ (tx k = 32) := fun z => c21 ((nI_eq (by omega) (by omega)).mpr z)
        have e9 : q_sk n tx (n - a0) a0 = k := (by rw [← hq]; exact q_sk_n (by omega))
        exact mv_vret dX6_skipBlanks_37 rfl ⟨rfl, fr, (by rw [e9]; exact H3)⟩
      · have c21 : tx k = 32 := (nI_eq (by omega) (by omega)).mp c21
        refine mv_aload_n dX6_skipBlanks_24 rfl ?_
        refine mv_dup dX6_skipBlanks_25 rfl ?_
        refine mv_getf (ci := 6) (f := 4) dX6_skipBlanks_26 H3 rfl (by decide) wd_120 rfl ?_
        refine mv_iconst (v := nI 1) dX6_skipBlanks_29 (by decide) ?_
        refine mv_iadd dX6_skipBlanks_30 ?_
        refine mv_topI (y := nI (k + 1)) (nI_add _ _) ?_
        refine mv_putf (ci := 6) (f := 4) dX6_skipBlanks_31 H3 rfl (by decide) wd_120 rfl rfl (fun _ => ⟨rfl, rfl⟩) (Nat.le_of_ble_eq_true rfl) ?_
        refine mv_topH (fun h1 e2 => ?_)
        have H3 : h1[3]? = some (.inr (6, [.ref 4, .ref 5, .ref 6, .int (nI n), .int (nI (k + 1)), .int (nI cl), .int (nI fa), .int fp])) := mv_eq e2 H3
        have H4 := mv_ne e2 (by decide) H4
        have fr := fr.set e2 (by decide)
        clear e2
        refine mv_goto (tgt := 0) dX6_skipBlanks_34 (by decide) ?_
        exact ih (k + 1) h1 (by omega) fr H3 H4 (by omega) (by rw [← hq]; exact (q_sk_y (by omega)).symm)
set_option maxRecDepth 100000 in
theorem k_X6_skipBlanks {ev : mv_E} {h : mv_H} {n : Nat} {tx : Nat → Nat} {a0 : Nat} {cl : Nat} {fa : Nat} {fp : Int32} (H3 : h[3]? = some (.inr (6, [.ref 4, .ref 5, .ref 6, .int (nI n), .int (nI a0), .int (nI cl), .int (nI fa), .int fp]))) (H4 : h[4]? = some (.inl (0, 160, .inl (fun j => nI (tx j))))) (hn : n ≤ 160) (htx : ∀ i, tx i < 256) (ha : a0 ≤ n) : ∃ h2, mv_K ev mX6_skipBlanks [.ref 3] h (none) h2 ∧ mv_fra [3] h h2 ∧ h2[3]? = some (.inr (6, [.ref 4, .ref 5, .ref 6, .int (nI n), .int (nI (q_sk n tx (n - a0) a0)), .int (nI cl), .int (nI fa), .int fp])) := by
  suffices g0 : mv_g ev mX6_skipBlanks 0 (mv_ent [.ref 3] (mv_ml mX6_skipBlanks)) [] h (fun r g => r = none ∧ mv_fra [3] h g ∧ g[3]? = some (.inr (6, [.ref 4, .ref 5, .ref 6, .int (nI n), .int (nI (q_sk n tx (n - a0) a0)), .int (nI cl), .int (nI fa), .int fp]))) from (by obtain ⟨r0, h0, K0, q0, Q0⟩ := mv_Kex g0; subst q0; exact ⟨h0, K0, Q0⟩)
  show mv_g ev mX6_skipBlanks 0 [.ref 3] [] h _
  have fr : mv_fra [3] h h := mv_fra.rf
  exact l_X6_skip hn htx ha (n + 1) a0 h (by omega) fr H3 H4 ha rfl
set_option maxRecDepth 100000 in
theorem l_X6_word {ev : mv_E} {h : mv_H} {n : Nat} {tx : Nat → Nat} {a0 : Nat} {cl : Nat} {fa : Nat} {fp : Int32} {k : Nat} (H3 : h[3]? = some (.inr (6, [.ref 4, .ref 5, .ref 6, .int (nI n), .int (nI a0), .int (nI cl), .int (nI fa), .int fp]))) (H4 : h[4]? = some (.inl (0, 160, .inl (fun j => nI (tx j))))) (hn : n ≤ 160) (htx : ∀ i, tx i < 256) (hk : k ≤ n) : ∀ (fu : Nat) (y : Nat), n < y + fu → (y ≤ n) → (q_ew n tx (n - y) y = q_ew n tx (n - k) k) → mv_g ev mX6_endOfWord 2 [.ref 3, .int (nI k), .int (nI y)] [] h (fun r g => r = some (.int (nI (q_ew n tx (n - k) k))) ∧ g = h) := by
  intro fu
  induction fu with
  | zero => intro y hm hy hq; exact absurd hm (by omega)
  | succ fu ih =>
    intro y hm hy hq
    have n1 := htx y
    refine mv_iload_n dX6_endOfWord_2 rfl ?_
    refine mv_aload_n dX6_endOfWord_3 rfl ?_
    refine mv_getf (ci := 6) (f := 3) dX6_endOfWord_4 H3 rfl (by decide) wd_119 rfl ?_
    refine mv_icmp_ge (tgt := 36) dX6_endOfWord_7 (by decide) (fun c7 => ?_) (fun c7 => ?_)
    · have c7 : n ≤ y := (nI_leI (by omega) (by omega)).mp c7
      refine mv_iload_n dX6_endOfWord_36 rfl ?_
      exact mv_iret dX6_endOfWord_37 rfl rfl ⟨(congrArg (fun z => some (Value.int z)) (congrArg nI (by rw [← hq]; exact (q_ew_n (by omega)).symm))), rfl⟩
    · have c7 : ¬ (n ≤ y) := fun z => c7 ((nI_leI (by omega) (by omega)).mpr z)
      refine mv_aload_n dX6_endOfWord_10 rfl ?_
      refine mv_iload_n dX6_endOfWord_11 rfl ?_
      refine mv_cV1 (ci := 6) dX6_endOfWord_12 lk_X6_endOfWord_93 H3 rfl (Nat.le_of_ble_eq_true rfl) (Nat.le_of_ble_eq_true rfl) (k_X6_byteAt (ev := ev) H3 H4 hn (by omega)) ?_
      refine mv_topI (y := nI (tx y)) (if_pos (by omega)) ?_
      refine mv_bipush (v := nI 97) dX6_endOfWord_15 (by decide) ?_
      refine mv_icmp_lt (tgt := 36) dX6_endOfWord_17 (by decide) (fun c17 => ?_) (fun c17 => ?_)
      · have c17 : tx y < 97 := (nI_ltI (by omega) (by omega)).mp c17
        refine mv_iload_n dX6_endOfWord_36 rfl ?_
        exact mv_iret dX6_endOfWord_37 rfl rfl ⟨(congrArg (fun z => some (Value.int z)) (congrArg nI (by rw [← hq]; exact (q_ew_n (by omega)).symm))), rfl⟩
      · have c17 : ¬ (tx y < 97) := fun z => c17 ((nI_ltI (by omega) (by omega)).mpr z)
        refine mv_aload_n dX6_endOfWord_20 rfl ?_
        refine mv_iload_n dX6_endOfWord_21 rfl ?_
        refine mv_cV1 (ci := 6) dX6_endOfWord_22 lk_X6_endOfWord_93 H3 rfl (Nat.le_of_ble_eq_true rfl) (Nat.le_of_ble_eq_true rfl) (k_X6_byteAt (ev := ev) H3 H4 hn (by omega)) ?_
        refine mv_topI (y := nI (tx y)) (if_pos (by omega)) ?_
        refine mv_bipush (v := nI 122) dX6_endOfWord_25 (by decide) ?_
        refine mv_icmp_gt (tgt := 36) dX6_endOfWord_27 (by decide) (fun c27 => ?_) (fun c27 => ?_)
        · have c27 : 122 < tx y := (nI_ltI (by omega) (by omega)).mp c27
          refine mv_iload_n dX6_endOfWord_36 rfl ?_
          exact mv_iret dX6_endOfWord_37 rfl rfl ⟨(congrArg (fun z => some (Value.int z)) (congrArg nI (by rw [← hq]; exact (q_ew_n (by omega)).symm))), rfl⟩
        · have c27 : ¬ (122 < tx y) := fun z => c27 ((nI_ltI (by omega) (by omega)).mpr z)
          refine mv_iinc (v := nI (y + 1)) dX6_endOfWord_30 rfl (mv_inc y 1) (by decide) ?_
          refine mv_goto (tgt := 2) dX6_endOfWord_33 (by decide) ?_
          exact ih (y + 1) (by omega) (by omega) (by rw [← hq]; exact (q_ew_y (by omega)).symm)
set_option maxRecDepth 100000 in
theorem k_X6_endOfWord {ev : mv_E} {h : mv_H} {n : Nat} {tx : Nat → Nat} {a0 : Nat} {cl : Nat} {fa : Nat} {fp : Int32} {k : Nat} (H3 : h[3]? = some (.inr (6, [.ref 4, .ref 5, .ref 6, .int (nI n), .int (nI a0), .int (nI cl), .int (nI fa), .int fp]))) (H4 : h[4]? = some (.inl (0, 160, .inl (fun j => nI (tx j))))) (hn : n ≤ 160) (htx : ∀ i, tx i < 256) (hk : k ≤ n) : mv_K ev mX6_endOfWord [.ref 3, .int (nI k)] h (some (.int (nI (q_ew n tx (n - k) k)))) h := by
  refine mv_Kof ?_
  show mv_g ev mX6_endOfWord 0 [.ref 3, .int (nI k), .null] [] h _
  refine mv_iload_n dX6_endOfWord_0 rfl ?_
  refine mv_istore_n dX6_endOfWord_1 (by decide) ?_
  exact l_X6_word H3 H4 hn htx hk (n + 1) k (by omega) hk rfl
