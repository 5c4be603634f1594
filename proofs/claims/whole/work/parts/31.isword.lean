def q_wd (tx : Nat → Nat) (k : Nat) : List Nat → Prop
  | [] => True
  | c :: l => tx k = c ∧ q_wd tx (k + 1) l
set_option maxRecDepth 100000 in
theorem k_X6_isWord_0 {ev : mv_E} {h : mv_H} {n : Nat} {tx : Nat → Nat} {a0 : Nat} {cl : Nat} {fa : Nat} {fp : Int32} {k : Nat} {e : Nat} (H3 : h[3]? = some (.inr (6, [.ref 4, .ref 5, .ref 6, .int (nI n), .int (nI a0), .int (nI cl), .int (nI fa), .int fp]))) (H4 : h[4]? = some (.inl (0, 160, .inl (fun j => nI (tx j))))) (hn : n ≤ 160) (htx : ∀ i, tx i < 256) (hE : q_E ev) (hk : k ≤ e) (he : e ≤ n) : mv_K ev mX6_isWord [.ref 3, .int (nI k), .int (nI e), .ref 1000020] h (some (.int (mv_b (e - k = 2 ∧ tx (k + 0) = 116 ∧ tx (k + 1) = 111)))) h := by
  refine mv_Kof ?_
  show mv_g ev mX6_isWord 0 [.ref 3, .int (nI k), .int (nI e), .ref 1000020, .null] [] h _
  refine mv_iload_n dX6_isWord_0 rfl ?_
  refine mv_iload_n dX6_isWord_1 rfl ?_
  refine mv_isub dX6_isWord_2 ?_
  refine mv_topI (y := nI (e - k)) (pk_sub (by omega)) ?_
  refine mv_aload_n dX6_isWord_3 rfl ?_
  refine mv_cR0 dX6_isWord_4 lk_X6_isWord_120 (List.mem_of_getElem? (i := 0) rfl) rfl (Nat.le_of_ble_eq_true rfl) (Nat.le_of_ble_eq_true rfl) (k_J0_length_0 (ev := ev)) ?_
  refine mv_icmp_eq (tgt := 12) dX6_isWord_7 (by decide) (fun c7 => ?_) (fun c7 => ?_)
  · have c7 : e - k = 2 := (nI_eq (by omega) (by omega)).mp c7
    refine mv_iconst (v := nI 0) dX6_isWord_12 (by decide) ?_
    refine mv_istore dX6_isWord_13 (by decide) ?_
    refine mv_iload dX6_isWord_15 rfl ?_
    refine mv_aload_n dX6_isWord_17 rfl ?_
    refine mv_cR0 dX6_isWord_18 lk_X6_isWord_120 (List.mem_of_getElem? (i := 0) rfl) rfl (Nat.le_of_ble_eq_true rfl) (Nat.le_of_ble_eq_true rfl) (k_J0_length_0 (ev := ev)) ?_
    refine mv_icmp_ge (tgt := 49) dX6_isWord_21 (by decide) (fun z => absurd z ((by decide))) (fun c21 => ?_)
    refine mv_aload_n dX6_isWord_24 rfl ?_
    refine mv_iload_n dX6_isWord_25 rfl ?_
    refine mv_iload dX6_isWord_26 rfl ?_
    refine mv_iadd dX6_isWord_28 ?_
    refine mv_topI (y := nI (k + 0)) (nI_add _ _) ?_
    refine mv_cV1 (ci := 6) dX6_isWord_29 lk_X6_isWord_93 H3 rfl (Nat.le_of_ble_eq_true rfl) (Nat.le_of_ble_eq_true rfl) (k_X6_byteAt (ev := ev) H3 H4 hn (by omega)) ?_
    refine mv_topI (y := nI (tx (k + 0))) (if_pos (by omega)) ?_
    refine mv_aload_n dX6_isWord_32 rfl ?_
    refine mv_iload dX6_isWord_33 rfl ?_
    refine mv_cR1 dX6_isWord_35 lk_X6_isWord_125 (List.mem_of_getElem? (i := 0) rfl) rfl (Nat.le_of_ble_eq_true rfl) (Nat.le_of_ble_eq_true rfl) (k_J0c_0_0 (ev := ev) hE) ?_
    have btxk0 := htx (k + 0)
    refine mv_icmp_eq (tgt := 43) dX6_isWord_38 (by decide) (fun c38 => ?_) (fun c38 => ?_)
    · have c38 : tx (k + 0) = 116 := (nI_eq (by omega) (by omega)).mp c38
      refine mv_iinc (v := nI 1) dX6_isWord_43 rfl (mv_inc 0 1) (by decide) ?_
      refine mv_goto (tgt := 15) dX6_isWord_46 (by decide) ?_
      refine mv_iload dX6_isWord_15 rfl ?_
      refine mv_aload_n dX6_isWord_17 rfl ?_
      refine mv_cR0 dX6_isWord_18 lk_X6_isWord_120 (List.mem_of_getElem? (i := 0) rfl) rfl (Nat.le_of_ble_eq_true rfl) (Nat.le_of_ble_eq_true rfl) (k_J0_length_0 (ev := ev)) ?_
      refine mv_icmp_ge (tgt := 49) dX6_isWord_21 (by decide) (fun z => absurd z ((by decide))) (fun c21 => ?_)
      refine mv_aload_n dX6_isWord_24 rfl ?_
      refine mv_iload_n dX6_isWord_25 rfl ?_
      refine mv_iload dX6_isWord_26 rfl ?_
      refine mv_iadd dX6_isWord_28 ?_
      refine mv_topI (y := nI (k + 1)) (nI_add _ _) ?_
      refine mv_cV1 (ci := 6) dX6_isWord_29 lk_X6_isWord_93 H3 rfl (Nat.le_of_ble_eq_true rfl) (Nat.le_of_ble_eq_true rfl) (k_X6_byteAt (ev := ev) H3 H4 hn (by omega)) ?_
      refine mv_topI (y := nI (tx (k + 1))) (if_pos (by omega)) ?_
      refine mv_aload_n dX6_isWord_32 rfl ?_
      refine mv_iload dX6_isWord_33 rfl ?_
      refine mv_cR1 dX6_isWord_35 lk_X6_isWord_125 (List.mem_of_getElem? (i := 0) rfl) rfl (Nat.le_of_ble_eq_true rfl) (Nat.le_of_ble_eq_true rfl) (k_J0c_0_1 (ev := ev) hE) ?_
      have btxk1 := htx (k + 1)
      refine mv_icmp_eq (tgt := 43) dX6_isWord_38 (by decide) (fun c38 => ?_) (fun c38 => ?_)
      · have c38 : tx (k + 1) = 111 := (nI_eq (by omega) (by omega)).mp c38
        refine mv_iinc (v := nI 2) dX6_isWord_43 rfl (mv_inc 1 1) (by decide) ?_
        refine mv_goto (tgt := 15) dX6_isWord_46 (by decide) ?_
        refine mv_iload dX6_isWord_15 rfl ?_
        refine mv_aload_n dX6_isWord_17 rfl ?_
        refine mv_cR0 dX6_isWord_18 lk_X6_isWord_120 (List.mem_of_getElem? (i := 0) rfl) rfl (Nat.le_of_ble_eq_true rfl) (Nat.le_of_ble_eq_true rfl) (k_J0_length_0 (ev := ev)) ?_
        refine mv_icmp_ge (tgt := 49) dX6_isWord_21 (by decide) (fun c21 => ?_) (fun z => absurd ((by decide)) z)
        refine mv_iconst (v := nI 1) dX6_isWord_49 (by decide) ?_
        exact mv_iret dX6_isWord_50 rfl rfl ⟨(congrArg (fun z => some (Value.int z)) (by first | exact (mv_b_t (by omega)).symm | exact (mv_b_f (by omega)).symm)), rfl⟩
      · have c38 : ¬ (tx (k + 1) = 111) := fun z => c38 ((nI_eq (by omega) (by omega)).mpr z)
        refine mv_iconst (v := nI 0) dX6_isWord_41 (by decide) ?_
        exact mv_iret dX6_isWord_42 rfl rfl ⟨(congrArg (fun z => some (Value.int z)) (by first | exact (mv_b_t (by omega)).symm | exact (mv_b_f (by omega)).symm)), rfl⟩
    · have c38 : ¬ (tx (k + 0) = 116) := fun z => c38 ((nI_eq (by omega) (by omega)).mpr z)
      refine mv_iconst (v := nI 0) dX6_isWord_41 (by decide) ?_
      exact mv_iret dX6_isWord_42 rfl rfl ⟨(congrArg (fun z => some (Value.int z)) (by first | exact (mv_b_t (by omega)).symm | exact (mv_b_f (by omega)).symm)), rfl⟩
  · have c7 : ¬ (e - k = 2) := fun z => c7 ((nI_eq (by omega) (by omega)).mpr z)
    refine mv_iconst (v := nI 0) dX6_isWord_10 (by decide) ?_
    exact mv_iret dX6_isWord_11 rfl rfl ⟨(congrArg (fun z => some (Value.int z)) (by first | exact (mv_b_t (by omega)).symm | exact (mv_b_f (by omega)).symm)), rfl⟩
set_option maxRecDepth 100000 in
theorem k_X6_isWord_1 {ev : mv_E} {h : mv_H} {n : Nat} {tx : Nat → Nat} {a0 : Nat} {cl : Nat} {fa : Nat} {fp : Int32} {k : Nat} {e : Nat} (H3 : h[3]? = some (.inr (6, [.ref 4, .ref 5, .ref 6, .int (nI n), .int (nI a0), .int (nI cl), .int (nI fa), .int fp]))) (H4 : h[4]? = some (.inl (0, 160, .inl (fun j => nI (tx j))))) (hn : n ≤ 160) (htx : ∀ i, tx i < 256) (hE : q_E ev) (hk : k ≤ e) (he : e ≤ n) : mv_K ev mX6_isWord [.ref 3, .int (nI k), .int (nI e), .ref 1000021] h (some (.int (mv_b (e - k = 4 ∧ tx (k + 0) = 114 ∧ tx (k + 1) = 97 ∧ tx (k + 2) = 116 ∧ tx (k + 3) = 101)))) h := by
  refine mv_Kof ?_
  show mv_g ev mX6_isWord 0 [.ref 3, .int (nI k), .int (nI e), .ref 1000021, .null] [] h _
  refine mv_iload_n dX6_isWord_0 rfl ?_
  refine mv_iload_n dX6_isWord_1 rfl ?_
  refine mv_isub dX6_isWord_2 ?_
  refine mv_topI (y := nI (e - k)) (pk_sub (by omega)) ?_
  refine mv_aload_n dX6_isWord_3 rfl ?_
  refine mv_cR0 dX6_isWord_4 lk_X6_isWord_120 (List.mem_of_getElem? (i := 1) rfl) rfl (Nat.le_of_ble_eq_true rfl) (Nat.le_of_ble_eq_true rfl) (k_J0_length_1 (ev := ev)) ?_
  refine mv_icmp_eq (tgt := 12) dX6_isWord_7 (by decide) (fun c7 => ?_) (fun c7 => ?_)
  · have c7 : e - k = 4 := (nI_eq (by omega) (by omega)).mp c7
    refine mv_iconst (v := nI 0) dX6_isWord_12 (by decide) ?_
    refine mv_istore dX6_isWord_13 (by decide) ?_
    refine mv_iload dX6_isWord_15 rfl ?_
    refine mv_aload_n dX6_isWord_17 rfl ?_
    refine mv_cR0 dX6_isWord_18 lk_X6_isWord_120 (List.mem_of_getElem? (i := 1) rfl) rfl (Nat.le_of_ble_eq_true rfl) (Nat.le_of_ble_eq_true rfl) (k_J0_length_1 (ev := ev)) ?_
    refine mv_icmp_ge (tgt := 49) dX6_isWord_21 (by decide) (fun z => absurd z ((by decide))) (fun c21 => ?_)
    refine mv_aload_n dX6_isWord_24 rfl ?_
    refine mv_iload_n dX6_isWord_25 rfl ?_
    refine mv_iload dX6_isWord_26 rfl ?_
    refine mv_iadd dX6_isWord_28 ?_
    refine mv_topI (y := nI (k + 0)) (nI_add _ _) ?_
    refine mv_cV1 (ci := 6) dX6_isWord_29 lk_X6_isWord_93 H3 rfl (Nat.le_of_ble_eq_true rfl) (Nat.le_of_ble_eq_true rfl) (k_X6_byteAt (ev := ev) H3 H4 hn (by omega)) ?_
    refine mv_topI (y := nI (tx (k + 0))) (if_pos (by omega)) ?_
    refine mv_aload_n dX6_isWord_32 rfl ?_
    refine mv_iload dX6_isWord_33 rfl ?_
    refine mv_cR1 dX6_isWord_35 lk_X6_isWord_125 (List.mem_of_getElem? (i := 1) rfl) rfl (Nat.le_of_ble_eq_true rfl) (Nat.le_of_ble_eq_true rfl) (k_J0c_1_0 (ev := ev) hE) ?_
    have btxk0 := htx (k + 0)
    refine mv_icmp_eq (tgt := 43) dX6_isWord_38 (by decide) (fun c38 => ?_) (fun c38 => ?_)
    · have c38 : tx (k + 0) = 114 := (nI_eq (by omega) (by omega)).mp c38
      refine mv_iinc (v := nI 1) dX6_isWord_43 rfl (mv_inc 0 1) (by decide) ?_
      refine mv_goto (tgt := 15) dX6_isWord_46 (by decide) ?_
      refine mv_iload dX6_isWord_15 rfl ?_
      refine mv_aload_n dX6_isWord_17 rfl ?_
      refine mv_cR0 dX6_isWord_18 lk_X6_isWord_120 (List.mem_of_getElem? (i := 1) rfl) rfl (Nat.le_of_ble_eq_true rfl) (Nat.le_of_ble_eq_true rfl) (k_J0_length_1 (ev := ev)) ?_
      refine mv_icmp_ge (tgt := 49) dX6_isWord_21 (by decide) (fun z => absurd z ((by decide))) (fun c21 => ?_)
      refine mv_aload_n dX6_isWord_24 rfl ?_
      refine mv_iload_n dX6_isWord_25 rfl ?_
      refine mv_iload dX6_isWord_26 rfl ?_
      refine mv_iadd dX6_isWord_28 ?_
      refine mv_topI (y := nI (k + 1)) (nI_add _ _) ?_
      refine mv_cV1 (ci := 6) dX6_isWord_29 lk_X6_isWord_93 H3 rfl (Nat.le_of_ble_eq_true rfl) (Nat.le_of_ble_eq_true rfl) (k_X6_byteAt (ev := ev) H3 H4 hn (by omega)) ?_
      refine mv_topI (y := nI (tx (k + 1))) (if_pos (by omega)) ?_
      refine mv_aload_n dX6_isWord_32 rfl ?_
      refine mv_iload dX6_isWord_33 rfl ?_
      refine mv_cR1 dX6_isWord_35 lk_X6_isWord_125 (List.mem_of_getElem? (i := 1) rfl) rfl (Nat.le_of_ble_eq_true rfl) (Nat.le_of_ble_eq_true rfl) (k_J0c_1_1 (ev := ev) hE) ?_
      have btxk1 := htx (k + 1)
      refine mv_icmp_eq (tgt := 43) dX6_isWord_38 (by decide) (fun c38 => ?_) (fun c38 => ?_)
      · have c38 : tx (k + 1) = 97 := (nI_eq (by omega) (by omega)).mp c38
        refine mv_iinc (v := nI 2) dX6_isWord_43 rfl (mv_inc 1 1) (by decide) ?_
        refine mv_goto (tgt := 15) dX6_isWord_46 (by decide) ?_
        refine mv_iload dX6_isWord_15 rfl ?_
        refine mv_aload_n dX6_isWord_17 rfl ?_
        refine mv_cR0 dX6_isWord_18 lk_X6_isWord_120 (List.mem_of_getElem? (i := 1) rfl) rfl (Nat.le_of_ble_eq_true rfl) (Nat.le_of_ble_eq_true rfl) (k_J0_length_1 (ev := ev)) ?_
        refine mv_icmp_ge (tgt := 49) dX6_isWord_21 (by decide) (fun z => absurd z ((by decide))) (fun c21 => ?_)
        refine mv_aload_n dX6_isWord_24 rfl ?_
        refine mv_iload_n dX6_isWord_25 rfl ?_
        refine mv_iload dX6_isWord_26 rfl ?_
        refine mv_iadd dX6_isWord_28 ?_
        refine mv_topI (y := nI (k + 2)) (nI_add _ _) ?_
        refine mv_cV1 (ci := 6) dX6_isWord_29 lk_X6_isWord_93 H3 rfl (Nat.le_of_ble_eq_true rfl) (Nat.le_of_ble_eq_true rfl) (k_X6_byteAt (ev := ev) H3 H4 hn (by omega)) ?_
        refine mv_topI (y := nI (tx (k + 2))) (if_pos (by omega)) ?_
        refine mv_aload_n dX6_isWord_32 rfl ?_
        refine mv_iload dX6_isWord_33 rfl ?_
        refine mv_cR1 dX6_isWord_35 lk_X6_isWord_125 (List.mem_of_getElem? (i := 1) rfl) rfl (Nat.le_of_ble_eq_true rfl) (Nat.le_of_ble_eq_true rfl) (k_J0c_1_2 (ev := ev) hE) ?_
        have btxk2 := htx (k + 2)
        refine mv_icmp_eq (tgt := 43) dX6_isWord_38 (by decide) (fun c38 => ?_) (fun c38 => ?_)
        · have c38 : tx (k + 2) = 116 := (nI_eq (by omega) (by omega)).mp c38
          refine mv_iinc (v := nI 3) dX6_isWord_43 rfl (mv_inc 2 1) (by decide) ?_
          refine mv_goto (tgt := 15) dX6_isWord_46 (by decide) ?_
          refine mv_iload dX6_isWord_15 rfl ?_
          refine mv_aload_n dX6_isWord_17 rfl ?_
          refine mv_cR0 dX6_isWord_18 lk_X6_isWord_120 (List.mem_of_getElem? (i := 1) rfl) rfl (Nat.le_of_ble_eq_true rfl) (Nat.le_of_ble_eq_true rfl) (k_J0_length_1 (ev := ev)) ?_
          refine mv_icmp_ge (tgt := 49) dX6_isWord_21 (by decide) (fun z => absurd z ((by decide))) (fun c21 => ?_)
          refine mv_aload_n dX6_isWord_24 rfl ?_
          refine mv_iload_n dX6_isWord_25 rfl ?_
          refine mv_iload dX6_isWord_26 rfl ?_
          refine mv_iadd dX6_isWord_28 ?_
          refine mv_topI (y := nI (k + 3)) (nI_add _ _) ?_
          refine mv_cV1 (ci := 6) dX6_isWord_29 lk_X6_isWord_93 H3 rfl (Nat.le_of_ble_eq_true rfl) (Nat.le_of_ble_eq_true rfl) (k_X6_byteAt (ev := ev) H3 H4 hn (by omega)) ?_
          refine mv_topI (y := nI (tx (k + 3))) (if_pos (by omega)) ?_
          refine mv_aload_n dX6_isWord_32 rfl ?_
          refine mv_iload dX6_isWord_33 rfl ?_
          refine mv_cR1 dX6_isWord_35 lk_X6_isWord_125 (List.mem_of_getElem? (i := 1) rfl) rfl (Nat.le_of_ble_eq_true rfl) (Nat.le_of_ble_eq_true rfl) (k_J0c_1_3 (ev := ev) hE) ?_
          have btxk3 := htx (k + 3)
          refine mv_icmp_eq (tgt := 43) dX6_isWord_38 (by decide) (fun c38 => ?_) (fun c38 => ?_)
          · have c38 : tx (k + 3) = 101 := (nI_eq (by omega) (by omega)).mp c38
            refine mv_iinc (v := nI 4) dX6_isWord_43 rfl (mv_inc 3 1) (by decide) ?_
            refine mv_goto (tgt := 15) dX6_isWord_46 (by decide) ?_
            refine mv_iload dX6_isWord_15 rfl ?_
            refine mv_aload_n dX6_isWord_17 rfl ?_
            refine mv_cR0 dX6_isWord_18 lk_X6_isWord_120 (List.mem_of_getElem? (i := 1) rfl) rfl (Nat.le_of_ble_eq_true rfl) (Nat.le_of_ble_eq_true rfl) (k_J0_length_1 (ev := ev)) ?_
            refine mv_icmp_ge (tgt := 49) dX6_isWord_21 (by decide) (fun c21 => ?_) (fun z => absurd ((by decide)) z)
            refine mv_iconst (v := nI 1) dX6_isWord_49 (by decide) ?_
            exact mv_iret dX6_isWord_50 rfl rfl ⟨(congrArg (fun z => some (Value.int z)) (by first | exact (mv_b_t (by omega)).symm | exact (mv_b_f (by omega)).symm)), rfl⟩
          · have c38 : ¬ (tx (k + 3) = 101) := fun z => c38 ((nI_eq (by omega) (by omega)).mpr z)
            refine mv_iconst (v := nI 0) dX6_isWord_41 (by decide) ?_
            exact mv_iret dX6_isWord_42 rfl rfl ⟨(congrArg (fun z => some (Value.int z)) (by first | exact (mv_b_t (by omega)).symm | exact (mv_b_f (by omega)).symm)), rfl⟩
        · have c38 : ¬ (tx (k + 2) = 116) := fun z => c38 ((nI_eq (by omega) (by omega)).mpr z)
          refine mv_iconst (v := nI 0) dX6_isWord_41 (by decide) ?_
          exact mv_iret dX6_isWord_42 rfl rfl ⟨(congrArg (fun z => some (Value.int z)) (by first | exact (mv_b_t (by omega)).symm | exact (mv_b_f (by omega)).symm)), rfl⟩
      · have c38 : ¬ (tx (k + 1) = 97) := fun z => c38 ((nI_eq (by omega) (by omega)).mpr z)
        refine mv_iconst (v := nI 0) dX6_isWord_41 (by decide) ?_
        exact mv_iret dX6_isWord_42 rfl rfl ⟨(congrArg (fun z => some (Value.int z)) (by first | exact (mv_b_t (by omega)).symm | exact (mv_b_f (by omega)).symm)), rfl⟩
    · have c38 : ¬ (tx (k + 0) = 114) := fun z => c38 ((nI_eq (by omega) (by omega)).mpr z)
      refine mv_iconst (v := nI 0) dX6_isWord_41 (by decide) ?_
      exact mv_iret dX6_isWord_42 rfl rfl ⟨(congrArg (fun z => some (Value.int z)) (by first | exact (mv_b_t (by omega)).symm | exact (mv_b_f (by omega)).symm)), rfl⟩
  · have c7 : ¬ (e - k = 4) := fun z => c7 ((nI_eq (by omega) (by omega)).mpr z)
    refine mv_iconst (v := nI 0) dX6_isWord_10 (by decide) ?_
    exact mv_iret dX6_isWord_11 rfl rfl ⟨(congrArg (fun z => some (Value.int z)) (by first | exact (mv_b_t (by omega)).symm | exact (mv_b_f (by omega)).symm)), rfl⟩
set_option maxRecDepth 100000 in
theorem k_X6_isWord_2 {ev : mv_E} {h : mv_H} {n : Nat} {tx : Nat → Nat} {a0 : Nat} {cl : Nat} {fa : Nat} {fp : Int32} {k : Nat} {e : Nat} (H3 : h[3]? = some (.inr (6, [.ref 4, .ref 5, .ref 6, .int (nI n), .int (nI a0), .int (nI cl), .int (nI fa), .int fp]))) (H4 : h[4]? = some (.inl (0, 160, .inl (fun j => nI (tx j))))) (hn : n ≤ 160) (htx : ∀ i, tx i < 256) (hE : q_E ev) (hk : k ≤ e) (he : e ≤ n) : mv_K ev mX6_isWord [.ref 3, .int (nI k), .int (nI e), .ref 1000022] h (some (.int (mv_b (e - k = 4 ∧ tx (k + 0) = 103 ∧ tx (k + 1) = 114 ∧ tx (k + 2) = 111 ∧ tx (k + 3) = 119)))) h := by
  refine mv_Kof ?_
  show mv_g ev mX6_isWord 0 [.ref 3, .int (nI k), .int (nI e), .ref 1000022, .null] [] h _
  refine mv_iload_n dX6_isWord_0 rfl ?_
  refine mv_iload_n dX6_isWord_1 rfl ?_
  refine mv_isub dX6_isWord_2 ?_
  refine mv_topI (y := nI (e - k)) (pk_sub (by omega)) ?_
  refine mv_aload_n dX6_isWord_3 rfl ?_
  refine mv_cR0 dX6_isWord_4 lk_X6_isWord_120 (List.mem_of_getElem? (i := 2) rfl) rfl (Nat.le_of_ble_eq_true rfl) (Nat.le_of_ble_eq_true rfl) (k_J0_length_2 (ev := ev)) ?_
  refine mv_icmp_eq (tgt := 12) dX6_isWord_7 (by decide) (fun c7 => ?_) (fun c7 => ?_)
  · have c7 : e - k = 4 := (nI_eq (by omega) (by omega)).mp c7
    refine mv_iconst (v := nI 0) dX6_isWord_12 (by decide) ?_
    refine mv_istore dX6_isWord_13 (by decide) ?_
    refine mv_iload dX6_isWord_15 rfl ?_
    refine mv_aload_n dX6_isWord_17 rfl ?_
    refine mv_cR0 dX6_isWord_18 lk_X6_isWord_120 (List.mem_of_getElem? (i := 2) rfl) rfl (Nat.le_of_ble_eq_true rfl) (Nat.le_of_ble_eq_true rfl) (k_J0_length_2 (ev := ev)) ?_
    refine mv_icmp_ge (tgt := 49) dX6_isWord_21 (by decide) (fun z => absurd z ((by decide))) (fun c21 => ?_)
    refine mv_aload_n dX6_isWord_24 rfl ?_
    refine mv_iload_n dX6_isWord_25 rfl ?_
    refine mv_iload dX6_isWord_26 rfl ?_
    refine mv_iadd dX6_isWord_28 ?_
    refine mv_topI (y := nI (k + 0)) (nI_add _ _) ?_
    refine mv_cV1 (ci := 6) dX6_isWord_29 lk_X6_isWord_93 H3 rfl (Nat.le_of_ble_eq_true rfl) (Nat.le_of_ble_eq_true rfl) (k_X6_byteAt (ev := ev) H3 H4 hn (by omega)) ?_
    refine mv_topI (y := nI (tx (k + 0))) (if_pos (by omega)) ?_
    refine mv_aload_n dX6_isWord_32 rfl ?_
    refine mv_iload dX6_isWord_33 rfl ?_
    refine mv_cR1 dX6_isWord_35 lk_X6_isWord_125 (List.mem_of_getElem? (i := 2) rfl) rfl (Nat.le_of_ble_eq_true rfl) (Nat.le_of_ble_eq_true rfl) (k_J0c_2_0 (ev := ev) hE) ?_
    have btxk0 := htx (k + 0)
    refine mv_icmp_eq (tgt := 43) dX6_isWord_38 (by decide) (fun c38 => ?_) (fun c38 => ?_)
    · have c38 : tx (k + 0) = 103 := (nI_eq (by omega) (by omega)).mp c38
      refine mv_iinc (v := nI 1) dX6_isWord_43 rfl (mv_inc 0 1) (by decide) ?_
      refine mv_goto (tgt := 15) dX6_isWord_46 (by decide) ?_
      refine mv_iload dX6_isWord_15 rfl ?_
      refine mv_aload_n dX6_isWord_17 rfl ?_
      refine mv_cR0 dX6_isWord_18 lk_X6_isWord_120 (List.mem_of_getElem? (i := 2) rfl) rfl (Nat.le_of_ble_eq_true rfl) (Nat.le_of_ble_eq_true rfl) (k_J0_length_2 (ev := ev)) ?_
      refine mv_icmp_ge (tgt := 49) dX6_isWord_21 (by decide) (fun z => absurd z ((by decide))) (fun c21 => ?_)
      refine mv_aload_n dX6_isWord_24 rfl ?_
      refine mv_iload_n dX6_isWord_25 rfl ?_
      refine mv_iload dX6_isWord_26 rfl ?_
      refine mv_iadd dX6_isWord_28 ?_
      refine mv_topI (y := nI (k + 1)) (nI_add _ _) ?_
      refine mv_cV1 (ci := 6) dX6_isWord_29 lk_X6_isWord_93 H3 rfl (Nat.le_of_ble_eq_true rfl) (Nat.le_of_ble_eq_true rfl) (k_X6_byteAt (ev := ev) H3 H4 hn (by omega)) ?_
      refine mv_topI (y := nI (tx (k + 1))) (if_pos (by omega)) ?_
      refine mv_aload_n dX6_isWord_32 rfl ?_
      refine mv_iload dX6_isWord_33 rfl ?_
      refine mv_cR1 dX6_isWord_35 lk_X6_isWord_125 (List.mem_of_getElem? (i := 2) rfl) rfl (Nat.le_of_ble_eq_true rfl) (Nat.le_of_ble_eq_true rfl) (k_J0c_2_1 (ev := ev) hE) ?_
      have btxk1 := htx (k + 1)
      refine mv_icmp_eq (tgt := 43) dX6_isWord_38 (by decide) (fun c38 => ?_) (fun c38 => ?_)
      · have c38 : tx (k + 1) = 114 := (nI_eq (by omega) (by omega)).mp c38
        refine mv_iinc (v := nI 2) dX6_isWord_43 rfl (mv_inc 1 1) (by decide) ?_
        refine mv_goto (tgt := 15) dX6_isWord_46 (by decide) ?_
        refine mv_iload dX6_isWord_15 rfl ?_
        refine mv_aload_n dX6_isWord_17 rfl ?_
        refine mv_cR0 dX6_isWord_18 lk_X6_isWord_120 (List.mem_of_getElem? (i := 2) rfl) rfl (Nat.le_of_ble_eq_true rfl) (Nat.le_of_ble_eq_true rfl) (k_J0_length_2 (ev := ev)) ?_
        refine mv_icmp_ge (tgt := 49) dX6_isWord_21 (by decide) (fun z => absurd z ((by decide))) (fun c21 => ?_)
        refine mv_aload_n dX6_isWord_24 rfl ?_
        refine mv_iload_n dX6_isWord_25 rfl ?_
        refine mv_iload dX6_isWord_26 rfl ?_
        refine mv_iadd dX6_isWord_28 ?_
        refine mv_topI (y := nI (k + 2)) (nI_add _ _) ?_
        refine mv_cV1 (ci := 6) dX6_isWord_29 lk_X6_isWord_93 H3 rfl (Nat.le_of_ble_eq_true rfl) (Nat.le_of_ble_eq_true rfl) (k_X6_byteAt (ev := ev) H3 H4 hn (by omega)) ?_
        refine mv_topI (y := nI (tx (k + 2))) (if_pos (by omega)) ?_
        refine mv_aload_n dX6_isWord_32 rfl ?_
        refine mv_iload dX6_isWord_33 rfl ?_
        refine mv_cR1 dX6_isWord_35 lk_X6_isWord_125 (List.mem_of_getElem? (i := 2) rfl) rfl (Nat.le_of_ble_eq_true rfl) (Nat.le_of_ble_eq_true rfl) (k_J0c_2_2 (ev := ev) hE) ?_
        have btxk2 := htx (k + 2)
        refine mv_icmp_eq (tgt := 43) dX6_isWord_38 (by decide) (fun c38 => ?_) (fun c38 => ?_)
        · have c38 : tx (k + 2) = 111 := (nI_eq (by omega) (by omega)).mp c38
          refine mv_iinc (v := nI 3) dX6_isWord_43 rfl (mv_inc 2 1) (by decide) ?_
          refine mv_goto (tgt := 15) dX6_isWord_46 (by decide) ?_
          refine mv_iload dX6_isWord_15 rfl ?_
          refine mv_aload_n dX6_isWord_17 rfl ?_
          refine mv_cR0 dX6_isWord_18 lk_X6_isWord_120 (List.mem_of_getElem? (i := 2) rfl) rfl (Nat.le_of_ble_eq_true rfl) (Nat.le_of_ble_eq_true rfl) (k_J0_length_2 (ev := ev)) ?_
          refine mv_icmp_ge (tgt := 49) dX6_isWord_21 (by decide) (fun z => absurd z ((by decide))) (fun c21 => ?_)
          refine mv_aload_n dX6_isWord_24 rfl ?_
          refine mv_iload_n dX6_isWord_25 rfl ?_
          refine mv_iload dX6_isWord_26 rfl ?_
          refine mv_iadd dX6_isWord_28 ?_
          refine mv_topI (y := nI (k + 3)) (nI_add _ _) ?_
          refine mv_cV1 (ci := 6) dX6_isWord_29 lk_X6_isWord_93 H3 rfl (Nat.le_of_ble_eq_true rfl) (Nat.le_of_ble_eq_true rfl) (k_X6_byteAt (ev := ev) H3 H4 hn (by omega)) ?_
          refine mv_topI (y := nI (tx (k + 3))) (if_pos (by omega)) ?_
          refine mv_aload_n dX6_isWord_32 rfl ?_
          refine mv_iload dX6_isWord_33 rfl ?_
          refine mv_cR1 dX6_isWord_35 lk_X6_isWord_125 (List.mem_of_getElem? (i := 2) rfl) rfl (Nat.le_of_ble_eq_true rfl) (Nat.le_of_ble_eq_true rfl) (k_J0c_2_3 (ev := ev) hE) ?_
          have btxk3 := htx (k + 3)
          refine mv_icmp_eq (tgt := 43) dX6_isWord_38 (by decide) (fun c38 => ?_) (fun c38 => ?_)
          · have c38 : tx (k + 3) = 119 := (nI_eq (by omega) (by omega)).mp c38
            refine mv_iinc (v := nI 4) dX6_isWord_43 rfl (mv_inc 3 1) (by decide) ?_
            refine mv_goto (tgt := 15) dX6_isWord_46 (by decide) ?_
            refine mv_iload dX6_isWord_15 rfl ?_
            refine mv_aload_n dX6_isWord_17 rfl ?_
            refine mv_cR0 dX6_isWord_18 lk_X6_isWord_120 (List.mem_of_getElem? (i := 2) rfl) rfl (Nat.le_of_ble_eq_true rfl) (Nat.le_of_ble_eq_true rfl) (k_J0_length_2 (ev := ev)) ?_
            refine mv_icmp_ge (tgt := 49) dX6_isWord_21 (by decide) (fun c21 => ?_) (fun z => absurd ((by decide)) z)
            refine mv_iconst (v := nI 1) dX6_isWord_49 (by decide) ?_
            exact mv_iret dX6_isWord_50 rfl rfl ⟨(congrArg (fun z => some (Value.int z)) (by first | exact (mv_b_t (by omega)).symm | exact (mv_b_f (by omega)).symm)), rfl⟩
          · have c38 : ¬ (tx (k + 3) = 119) := fun z => c38 ((nI_eq (by omega) (by omega)).mpr z)
            refine mv_iconst (v := nI 0) dX6_isWord_41 (by decide) ?_
            exact mv_iret dX6_isWord_42 rfl rfl ⟨(congrArg (fun z => some (Value.int z)) (by first | exact (mv_b_t (by omega)).symm | exact (mv_b_f (by omega)).symm)), rfl⟩
        · have c38 : ¬ (tx (k + 2) = 111) := fun z => c38 ((nI_eq (by omega) (by omega)).mpr z)
          refine mv_iconst (v := nI 0) dX6_isWord_41 (by decide) ?_
          exact mv_iret dX6_isWord_42 rfl rfl ⟨(congrArg (fun z => some (Value.int z)) (by first | exact (mv_b_t (by omega)).symm | exact (mv_b_f (by omega)).symm)), rfl⟩
      · have c38 : ¬ (tx (k + 1) = 114) := fun z => c38 ((nI_eq (by omega) (by omega)).mpr z)
        refine mv_iconst (v := nI 0) dX6_isWord_41 (by decide) ?_
        exact mv_iret dX6_isWord_42 rfl rfl ⟨(congrArg (fun z => some (Value.int z)) (by first | exact (mv_b_t (by omega)).symm | exact (mv_b_f (by omega)).symm)), rfl⟩
    · have c38 : ¬ (tx (k + 0) = 103) := fun z => c38 ((nI_eq (by omega) (by omega)).mpr z)
      refine mv_iconst (v := nI 0) dX6_isWord_41 (by decide) ?_
      exact mv_iret dX6_isWord_42 rfl rfl ⟨(congrArg (fun z => some (Value.int z)) (by first | exact (mv_b_t (by omega)).symm | exact (mv_b_f (by omega)).symm)), rfl⟩
  · have c7 : ¬ (e - k = 4) := fun z => c7 ((nI_eq (by omega) (by omega)).mpr z)
    refine mv_iconst (v := nI 0) dX6_isWord_10 (by decide) ?_
    exact mv_iret dX6_isWord_11 rfl rfl ⟨(congrArg (fun z => some (Value.int z)) (by first | exact (mv_b_t (by omega)).symm | exact (mv_b_f (by omega)).symm)), rfl⟩
set_option maxRecDepth 100000 in
theorem k_X6_isWord_3 {ev : mv_E} {h : mv_H} {n : Nat} {tx : Nat → Nat} {a0 : Nat} {cl : Nat} {fa : Nat} {fp : Int32} {k : Nat} {e : Nat} (H3 : h[3]? = some (.inr (6, [.ref 4, .ref 5, .ref 6, .int (nI n), .int (nI a0), .int (nI cl), .int (nI fa), .int fp]))) (H4 : h[4]? = some (.inl (0, 160, .inl (fun j => nI (tx j))))) (hn : n ≤ 160) (htx : ∀ i, tx i < 256) (hE : q_E ev) (hk : k ≤ e) (he : e ≤ n) : mv_K ev mX6_isWord [.ref 3, .int (nI k), .int (nI e), .ref 1000023] h (some (.int (mv_b (e - k = 5 ∧ tx (k + 0) = 97 ∧ tx (k + 1) = 102 ∧ tx (k + 2) = 116 ∧ tx (k + 3) = 101 ∧ tx (k + 4) = 114)))) h := by
  refine mv_Kof ?_
  show mv_g ev mX6_isWord 0 [.ref 3, .int (nI k), .int (nI e), .ref 1000023, .null] [] h _
  refine mv_iload_n dX6_isWord_0 rfl ?_
  refine mv_iload_n dX6_isWord_1 rfl ?_
  refine mv_isub dX6_isWord_2 ?_
  refine mv_topI (y := nI (e - k)) (pk_sub (by omega)) ?_
  refine mv_aload_n dX6_isWord_3 rfl ?_
  refine mv_cR0 dX6_isWord_4 lk_X6_isWord_120 (List.mem_of_getElem? (i := 3) rfl) rfl (Nat.le_of_ble_eq_true rfl) (Nat.le_of_ble_eq_true rfl) (k_J0_length_3 (ev := ev)) ?_
  refine mv_icmp_eq (tgt := 12) dX6_isWord_7 (by decide) (fun c7 => ?_) (fun c7 => ?_)
  · have c7 : e - k = 5 := (nI_eq (by omega) (by omega)).mp c7
    refine mv_iconst (v := nI 0) dX6_isWord_12 (by decide) ?_
    refine mv_istore dX6_isWord_13 (by decide) ?_
    refine mv_iload dX6_isWord_15 rfl ?_
    refine mv_aload_n dX6_isWord_17 rfl ?_
    refine mv_cR0 dX6_isWord_18 lk_X6_isWord_120 (List.mem_of_getElem? (i := 3) rfl) rfl (Nat.le_of_ble_eq_true rfl) (Nat.le_of_ble_eq_true rfl) (k_J0_length_3 (ev := ev)) ?_
    refine mv_icmp_ge (tgt := 49) dX6_isWord_21 (by decide) (fun z => absurd z ((by decide))) (fun c21 => ?_)
    refine mv_aload_n dX6_isWord_24 rfl ?_
    refine mv_iload_n dX6_isWord_25 rfl ?_
    refine mv_iload dX6_isWord_26 rfl ?_
    refine mv_iadd dX6_isWord_28 ?_
    refine mv_topI (y := nI (k + 0)) (nI_add _ _) ?_
    refine mv_cV1 (ci := 6) dX6_isWord_29 lk_X6_isWord_93 H3 rfl (Nat.le_of_ble_eq_true rfl) (Nat.le_of_ble_eq_true rfl) (k_X6_byteAt (ev := ev) H3 H4 hn (by omega)) ?_
    refine mv_topI (y := nI (tx (k + 0))) (if_pos (by omega)) ?_
    refine mv_aload_n dX6_isWord_32 rfl ?_
    refine mv_iload dX6_isWord_33 rfl ?_
    refine mv_cR1 dX6_isWord_35 lk_X6_isWord_125 (List.mem_of_getElem? (i := 3) rfl) rfl (Nat.le_of_ble_eq_true rfl) (Nat.le_of_ble_eq_true rfl) (k_J0c_3_0 (ev := ev) hE) ?_
    have btxk0 := htx (k + 0)
    refine mv_icmp_eq (tgt := 43) dX6_isWord_38 (by decide) (fun c38 => ?_) (fun c38 => ?_)
    · have c38 : tx (k + 0) = 97 := (nI_eq (by omega) (by omega)).mp c38
      refine mv_iinc (v := nI 1) dX6_isWord_43 rfl (mv_inc 0 1) (by decide) ?_
      refine mv_goto (tgt := 15) dX6_isWord_46 (by decide) ?_
      refine mv_iload dX6_isWord_15 rfl ?_
      refine mv_aload_n dX6_isWord_17 rfl ?_
      refine mv_cR0 dX6_isWord_18 lk_X6_isWord_120 (List.mem_of_getElem? (i := 3) rfl) rfl (Nat.le_of_ble_eq_true rfl) (Nat.le_of_ble_eq_true rfl) (k_J0_length_3 (ev := ev)) ?_
      refine mv_icmp_ge (tgt := 49) dX6_isWord_21 (by decide) (fun z => absurd z ((by decide))) (fun c21 => ?_)
      refine mv_aload_n dX6_isWord_24 rfl ?_
      refine mv_iload_n dX6_isWord_25 rfl ?_
      refine mv_iload dX6_isWord_26 rfl ?_
      refine mv_iadd dX6_isWord_28 ?_
      refine mv_topI (y := nI (k + 1)) (nI_add _ _) ?_
      refine mv_cV1 (ci := 6) dX6_isWord_29 lk_X6_isWord_93 H3 rfl (Nat.le_of_ble_eq_true rfl) (Nat.le_of_ble_eq_true rfl) (k_X6_byteAt (ev := ev) H3 H4 hn (by omega)) ?_
      refine mv_topI (y := nI (tx (k + 1))) (if_pos (by omega)) ?_
      refine mv_aload_n dX6_isWord_32 rfl ?_
      refine mv_iload dX6_isWord_33 rfl ?_
      refine mv_cR1 dX6_isWord_35 lk_X6_isWord_125 (List.mem_of_getElem? (i := 3) rfl) rfl (Nat.le_of_ble_eq_true rfl) (Nat.le_of_ble_eq_true rfl) (k_J0c_3_1 (ev := ev) hE) ?_
      have btxk1 := htx (k + 1)
      refine mv_icmp_eq (tgt := 43) dX6_isWord_38 (by decide) (fun c38 => ?_) (fun c38 => ?_)
      · have c38 : tx (k + 1) = 102 := (nI_eq (by omega) (by omega)).mp c38
        refine mv_iinc (v := nI 2) dX6_isWord_43 rfl (mv_inc 1 1) (by decide) ?_
        refine mv_goto (tgt := 15) dX6_isWord_46 (by decide) ?_
        refine mv_iload dX6_isWord_15 rfl ?_
        refine mv_aload_n dX6_isWord_17 rfl ?_
        refine mv_cR0 dX6_isWord_18 lk_X6_isWord_120 (List.mem_of_getElem? (i := 3) rfl) rfl (Nat.le_of_ble_eq_true rfl) (Nat.le_of_ble_eq_true rfl) (k_J0_length_3 (ev := ev)) ?_
        refine mv_icmp_ge (tgt := 49) dX6_isWord_21 (by decide) (fun z => absurd z ((by decide))) (fun c21 => ?_)
        refine mv_aload_n dX6_isWord_24 rfl ?_
        refine mv_iload_n dX6_isWord_25 rfl ?_
        refine mv_iload dX6_isWord_26 rfl ?_
        refine mv_iadd dX6_isWord_28 ?_
        refine mv_topI (y := nI (k + 2)) (nI_add _ _) ?_
        refine mv_cV1 (ci := 6) dX6_isWord_29 lk_X6_isWord_93 H3 rfl (Nat.le_of_ble_eq_true rfl) (Nat.le_of_ble_eq_true rfl) (k_X6_byteAt (ev := ev) H3 H4 hn (by omega)) ?_
        refine mv_topI (y := nI (tx (k + 2))) (if_pos (by omega)) ?_
        refine mv_aload_n dX6_isWord_32 rfl ?_
        refine mv_iload dX6_isWord_33 rfl ?_
        refine mv_cR1 dX6_isWord_35 lk_X6_isWord_125 (List.mem_of_getElem? (i := 3) rfl) rfl (Nat.le_of_ble_eq_true rfl) (Nat.le_of_ble_eq_true rfl) (k_J0c_3_2 (ev := ev) hE) ?_
        have btxk2 := htx (k + 2)
        refine mv_icmp_eq (tgt := 43) dX6_isWord_38 (by decide) (fun c38 => ?_) (fun c38 => ?_)
        · have c38 : tx (k + 2) = 116 := (nI_eq (by omega) (by omega)).mp c38
          refine mv_iinc (v := nI 3) dX6_isWord_43 rfl (mv_inc 2 1) (by decide) ?_
          refine mv_goto (tgt := 15) dX6_isWord_46 (by decide) ?_
          refine mv_iload dX6_isWord_15 rfl ?_
          refine mv_aload_n dX6_isWord_17 rfl ?_
          refine mv_cR0 dX6_isWord_18 lk_X6_isWord_120 (List.mem_of_getElem? (i := 3) rfl) rfl (Nat.le_of_ble_eq_true rfl) (Nat.le_of_ble_eq_true rfl) (k_J0_length_3 (ev := ev)) ?_
          refine mv_icmp_ge (tgt := 49) dX6_isWord_21 (by decide) (fun z => absurd z ((by decide))) (fun c21 => ?_)
          refine mv_aload_n dX6_isWord_24 rfl ?_
          refine mv_iload_n dX6_isWord_25 rfl ?_
          refine mv_iload dX6_isWord_26 rfl ?_
          refine mv_iadd dX6_isWord_28 ?_
          refine mv_topI (y := nI (k + 3)) (nI_add _ _) ?_
          refine mv_cV1 (ci := 6) dX6_isWord_29 lk_X6_isWord_93 H3 rfl (Nat.le_of_ble_eq_true rfl) (Nat.le_of_ble_eq_true rfl) (k_X6_byteAt (ev := ev) H3 H4 hn (by omega)) ?_
          refine mv_topI (y := nI (tx (k + 3))) (if_pos (by omega)) ?_
          refine mv_aload_n dX6_isWord_32 rfl ?_
          refine mv_iload dX6_isWord_33 rfl ?_
          refine mv_cR1 dX6_isWord_35 lk_X6_isWord_125 (List.mem_of_getElem? (i := 3) rfl) rfl (Nat.le_of_ble_eq_true rfl) (Nat.le_of_ble_eq_true rfl) (k_J0c_3_3 (ev := ev) hE) ?_
          have btxk3 := htx (k + 3)
          refine mv_icmp_eq (tgt := 43) dX6_isWord_38 (by decide) (fun c38 => ?_) (fun c38 => ?_)
          · have c38 : tx (k + 3) = 101 := (nI_eq (by omega) (by omega)).mp c38
            refine mv_iinc (v := nI 4) dX6_isWord_43 rfl (mv_inc 3 1) (by decide) ?_
            refine mv_goto (tgt := 15) dX6_isWord_46 (by decide) ?_
            refine mv_iload dX6_isWord_15 rfl ?_
            refine mv_aload_n dX6_isWord_17 rfl ?_
            refine mv_cR0 dX6_isWord_18 lk_X6_isWord_120 (List.mem_of_getElem? (i := 3) rfl) rfl (Nat.le_of_ble_eq_true rfl) (Nat.le_of_ble_eq_true rfl) (k_J0_length_3 (ev := ev)) ?_
            refine mv_icmp_ge (tgt := 49) dX6_isWord_21 (by decide) (fun z => absurd z ((by decide))) (fun c21 => ?_)
            refine mv_aload_n dX6_isWord_24 rfl ?_
            refine mv_iload_n dX6_isWord_25 rfl ?_
            refine mv_iload dX6_isWord_26 rfl ?_
            refine mv_iadd dX6_isWord_28 ?_
            refine mv_topI (y := nI (k + 4)) (nI_add _ _) ?_
            refine mv_cV1 (ci := 6) dX6_isWord_29 lk_X6_isWord_93 H3 rfl (Nat.le_of_ble_eq_true rfl) (Nat.le_of_ble_eq_true rfl) (k_X6_byteAt (ev := ev) H3 H4 hn (by omega)) ?_
            refine mv_topI (y := nI (tx (k + 4))) (if_pos (by omega)) ?_
            refine mv_aload_n dX6_isWord_32 rfl ?_
            refine mv_iload dX6_isWord_33 rfl ?_
            refine mv_cR1 dX6_isWord_35 lk_X6_isWord_125 (List.mem_of_getElem? (i := 3) rfl) rfl (Nat.le_of_ble_eq_true rfl) (Nat.le_of_ble_eq_true rfl) (k_J0c_3_4 (ev := ev) hE) ?_
            have btxk4 := htx (k + 4)
            refine mv_icmp_eq (tgt := 43) dX6_isWord_38 (by decide) (fun c38 => ?_) (fun c38 => ?_)
            · have c38 : tx (k + 4) = 114 := (nI_eq (by omega) (by omega)).mp c38
              refine mv_iinc (v := nI 5) dX6_isWord_43 rfl (mv_inc 4 1) (by decide) ?_
              refine mv_goto (tgt := 15) dX6_isWord_46 (by decide) ?_
              refine mv_iload dX6_isWord_15 rfl ?_
              refine mv_aload_n dX6_isWord_17 rfl ?_
              refine mv_cR0 dX6_isWord_18 lk_X6_isWord_120 (List.mem_of_getElem? (i := 3) rfl) rfl (Nat.le_of_ble_eq_true rfl) (Nat.le_of_ble_eq_true rfl) (k_J0_length_3 (ev := ev)) ?_
              refine mv_icmp_ge (tgt := 49) dX6_isWord_21 (by decide) (fun c21 => ?_) (fun z => absurd ((by decide)) z)
              refine mv_iconst (v := nI 1) dX6_isWord_49 (by decide) ?_
              exact mv_iret dX6_isWord_50 rfl rfl ⟨(congrArg (fun z => some (Value.int z)) (by first | exact (mv_b_t (by omega)).symm | exact (mv_b_f (by omega)).symm)), rfl⟩
            · have c38 : ¬ (tx (k + 4) = 114) := fun z => c38 ((nI_eq (by omega) (by omega)).mpr z)
              refine mv_iconst (v := nI 0) dX6_isWord_41 (by decide) ?_
              exact mv_iret dX6_isWord_42 rfl rfl ⟨(congrArg (fun z => some (Value.int z)) (by first | exact (mv_b_t (by omega)).symm | exact (mv_b_f (by omega)).symm)), rfl⟩
          · have c38 : ¬ (tx (k + 3) = 101) := fun z => c38 ((nI_eq (by omega) (by omega)).mpr z)
            refine mv_iconst (v := nI 0) dX6_isWord_41 (by decide) ?_
            exact mv_iret dX6_isWord_42 rfl rfl ⟨(congrArg (fun z => some (Value.int z)) (by first | exact (mv_b_t (by omega)).symm | exact (mv_b_f (by omega)).symm)), rfl⟩
        · have c38 : ¬ (tx (k + 2) = 116) := fun z => c38 ((nI_eq (by omega) (by omega)).mpr z)
          refine mv_iconst (v := nI 0) dX6_isWord_41 (by decide) ?_
          exact mv_iret dX6_isWord_42 rfl rfl ⟨(congrArg (fun z => some (Value.int z)) (by first | exact (mv_b_t (by omega)).symm | exact (mv_b_f (by omega)).symm)), rfl⟩
      · have c38 : ¬ (tx (k + 1) = 102) := fun z => c38 ((nI_eq (by omega) (by omega)).mpr z)
        refine mv_iconst (v := nI 0) dX6_isWord_41 (by decide) ?_
        exact mv_iret dX6_isWord_42 rfl rfl ⟨(congrArg (fun z => some (Value.int z)) (by first | exact (mv_b_t (by omega)).symm | exact (mv_b_f (by omega)).symm)), rfl⟩
    · have c38 : ¬ (tx (k + 0) = 97) := fun z => c38 ((nI_eq (by omega) (by omega)).mpr z)
      refine mv_iconst (v := nI 0) dX6_isWord_41 (by decide) ?_
      exact mv_iret dX6_isWord_42 rfl rfl ⟨(congrArg (fun z => some (Value.int z)) (by first | exact (mv_b_t (by omega)).symm | exact (mv_b_f (by omega)).symm)), rfl⟩
  · have c7 : ¬ (e - k = 5) := fun z => c7 ((nI_eq (by omega) (by omega)).mpr z)
    refine mv_iconst (v := nI 0) dX6_isWord_10 (by decide) ?_
    exact mv_iret dX6_isWord_11 rfl rfl ⟨(congrArg (fun z => some (Value.int z)) (by first | exact (mv_b_t (by omega)).symm | exact (mv_b_f (by omega)).symm)), rfl⟩
set_option maxRecDepth 100000 in
theorem k_X6_isWord_4 {ev : mv_E} {h : mv_H} {n : Nat} {tx : Nat → Nat} {a0 : Nat} {cl : Nat} {fa : Nat} {fp : Int32} {k : Nat} {e : Nat} (H3 : h[3]? = some (.inr (6, [.ref 4, .ref 5, .ref 6, .int (nI n), .int (nI a0), .int (nI cl), .int (nI fa), .int fp]))) (H4 : h[4]? = some (.inl (0, 160, .inl (fun j => nI (tx j))))) (hn : n ≤ 160) (htx : ∀ i, tx i < 256) (hE : q_E ev) (hk : k ≤ e) (he : e ≤ n) : mv_K ev mX6_isWord [.ref 3, .int (nI k), .int (nI e), .ref 1000024] h (some (.int (mv_b (e - k = 4 ∧ tx (k + 0) = 100 ∧ tx (k + 1) = 97 ∧ tx (k + 2) = 121 ∧ tx (k + 3) = 115)))) h := by
  refine mv_Kof ?_
  show mv_g ev mX6_isWord 0 [.ref 3, .int (nI k), .int (nI e), .ref 1000024, .null] [] h _
  refine mv_iload_n dX6_isWord_0 rfl ?_
  refine mv_iload_n dX6_isWord_1 rfl ?_
  refine mv_isub dX6_isWord_2 ?_
  refine mv_topI (y := nI (e - k)) (pk_sub (by omega)) ?_
  refine mv_aload_n dX6_isWord_3 rfl ?_
  refine mv_cR0 dX6_isWord_4 lk_X6_isWord_120 (List.mem_of_getElem? (i := 4) rfl) rfl (Nat.le_of_ble_eq_true rfl) (Nat.le_of_ble_eq_true rfl) (k_J0_length_4 (ev := ev)) ?_
  refine mv_icmp_eq (tgt := 12) dX6_isWord_7 (by decide) (fun c7 => ?_) (fun c7 => ?_)
  · have c7 : e - k = 4 := (nI_eq (by omega) (by omega)).mp c7
    refine mv_iconst (v := nI 0) dX6_isWord_12 (by decide) ?_
    refine mv_istore dX6_isWord_13 (by decide) ?_
    refine mv_iload dX6_isWord_15 rfl ?_
    refine mv_aload_n dX6_isWord_17 rfl ?_
    refine mv_cR0 dX6_isWord_18 lk_X6_isWord_120 (List.mem_of_getElem? (i := 4) rfl) rfl (Nat.le_of_ble_eq_true rfl) (Nat.le_of_ble_eq_true rfl) (k_J0_length_4 (ev := ev)) ?_
    refine mv_icmp_ge (tgt := 49) dX6_isWord_21 (by decide) (fun z => absurd z ((by decide))) (fun c21 => ?_)
    refine mv_aload_n dX6_isWord_24 rfl ?_
    refine mv_iload_n dX6_isWord_25 rfl ?_
    refine mv_iload dX6_isWord_26 rfl ?_
    refine mv_iadd dX6_isWord_28 ?_
    refine mv_topI (y := nI (k + 0)) (nI_add _ _) ?_
    refine mv_cV1 (ci := 6) dX6_isWord_29 lk_X6_isWord_93 H3 rfl (Nat.le_of_ble_eq_true rfl) (Nat.le_of_ble_eq_true rfl) (k_X6_byteAt (ev := ev) H3 H4 hn (by omega)) ?_
    refine mv_topI (y := nI (tx (k + 0))) (if_pos (by omega)) ?_
    refine mv_aload_n dX6_isWord_32 rfl ?_
    refine mv_iload dX6_isWord_33 rfl ?_
    refine mv_cR1 dX6_isWord_35 lk_X6_isWord_125 (List.mem_of_getElem? (i := 4) rfl) rfl (Nat.le_of_ble_eq_true rfl) (Nat.le_of_ble_eq_true rfl) (k_J0c_4_0 (ev := ev) hE) ?_
    have btxk0 := htx (k + 0)
    refine mv_icmp_eq (tgt := 43) dX6_isWord_38 (by decide) (fun c38 => ?_) (fun c38 => ?_)
    · have c38 : tx (k + 0) = 100 := (nI_eq (by omega) (by omega)).mp c38
      refine mv_iinc (v := nI 1) dX6_isWord_43 rfl (mv_inc 0 1) (by decide) ?_
      refine mv_goto (tgt := 15) dX6_isWord_46 (by decide) ?_
      refine mv_iload dX6_isWord_15 rfl ?_
      refine mv_aload_n dX6_isWord_17 rfl ?_
      refine mv_cR0 dX6_isWord_18 lk_X6_isWord_120 (List.mem_of_getElem? (i := 4) rfl) rfl (Nat.le_of_ble_eq_true rfl) (Nat.le_of_ble_eq_true rfl) (k_J0_length_4 (ev := ev)) ?_
      refine mv_icmp_ge (tgt := 49) dX6_isWord_21 (by decide) (fun z => absurd z ((by decide))) (fun c21 => ?_)
      refine mv_aload_n dX6_isWord_24 rfl ?_
      refine mv_iload_n dX6_isWord_25 rfl ?_
      refine mv_iload dX6_isWord_26 rfl ?_
      refine mv_iadd dX6_isWord_28 ?_
      refine mv_topI (y := nI (k + 1)) (nI_add _ _) ?_
      refine mv_cV1 (ci := 6) dX6_isWord_29 lk_X6_isWord_93 H3 rfl (Nat.le_of_ble_eq_true rfl) (Nat.le_of_ble_eq_true rfl) (k_X6_byteAt (ev := ev) H3 H4 hn (by omega)) ?_
      refine mv_topI (y := nI (tx (k + 1))) (if_pos (by omega)) ?_
      refine mv_aload_n dX6_isWord_32 rfl ?_
      refine mv_iload dX6_isWord_33 rfl ?_
      refine mv_cR1 dX6_isWord_35 lk_X6_isWord_125 (List.mem_of_getElem? (i := 4) rfl) rfl (Nat.le_of_ble_eq_true rfl) (Nat.le_of_ble_eq_true rfl) (k_J0c_4_1 (ev := ev) hE) ?_
      have btxk1 := htx (k + 1)
      refine mv_icmp_eq (tgt := 43) dX6_isWord_38 (by decide) (fun c38 => ?_) (fun c38 => ?_)
      · have c38 : tx (k + 1) = 97 := (nI_eq (by omega) (by omega)).mp c38
        refine mv_iinc (v := nI 2) dX6_isWord_43 rfl (mv_inc 1 1) (by decide) ?_
        refine mv_goto (tgt := 15) dX6_isWord_46 (by decide) ?_
        refine mv_iload dX6_isWord_15 rfl ?_
        refine mv_aload_n dX6_isWord_17 rfl ?_
        refine mv_cR0 dX6_isWord_18 lk_X6_isWord_120 (List.mem_of_getElem? (i := 4) rfl) rfl (Nat.le_of_ble_eq_true rfl) (Nat.le_of_ble_eq_true rfl) (k_J0_length_4 (ev := ev)) ?_
        refine mv_icmp_ge (tgt := 49) dX6_isWord_21 (by decide) (fun z => absurd z ((by decide))) (fun c21 => ?_)
        refine mv_aload_n dX6_isWord_24 rfl ?_
        refine mv_iload_n dX6_isWord_25 rfl ?_
        refine mv_iload dX6_isWord_26 rfl ?_
        refine mv_iadd dX6_isWord_28 ?_
        refine mv_topI (y := nI (k + 2)) (nI_add _ _) ?_
        refine mv_cV1 (ci := 6) dX6_isWord_29 lk_X6_isWord_93 H3 rfl (Nat.le_of_ble_eq_true rfl) (Nat.le_of_ble_eq_true rfl) (k_X6_byteAt (ev := ev) H3 H4 hn (by omega)) ?_
        refine mv_topI (y := nI (tx (k + 2))) (if_pos (by omega)) ?_
        refine mv_aload_n dX6_isWord_32 rfl ?_
        refine mv_iload dX6_isWord_33 rfl ?_
        refine mv_cR1 dX6_isWord_35 lk_X6_isWord_125 (List.mem_of_getElem? (i := 4) rfl) rfl (Nat.le_of_ble_eq_true rfl) (Nat.le_of_ble_eq_true rfl) (k_J0c_4_2 (ev := ev) hE) ?_
        have btxk2 := htx (k + 2)
        refine mv_icmp_eq (tgt := 43) dX6_isWord_38 (by decide) (fun c38 => ?_) (fun c38 => ?_)
        · have c38 : tx (k + 2) = 121 := (nI_eq (by omega) (by omega)).mp c38
          refine mv_iinc (v := nI 3) dX6_isWord_43 rfl (mv_inc 2 1) (by decide) ?_
          refine mv_goto (tgt := 15) dX6_isWord_46 (by decide) ?_
          refine mv_iload dX6_isWord_15 rfl ?_
          refine mv_aload_n dX6_isWord_17 rfl ?_
          refine mv_cR0 dX6_isWord_18 lk_X6_isWord_120 (List.mem_of_getElem? (i := 4) rfl) rfl (Nat.le_of_ble_eq_true rfl) (Nat.le_of_ble_eq_true rfl) (k_J0_length_4 (ev := ev)) ?_
          refine mv_icmp_ge (tgt := 49) dX6_isWord_21 (by decide) (fun z => absurd z ((by decide))) (fun c21 => ?_)
          refine mv_aload_n dX6_isWord_24 rfl ?_
          refine mv_iload_n dX6_isWord_25 rfl ?_
          refine mv_iload dX6_isWord_26 rfl ?_
          refine mv_iadd dX6_isWord_28 ?_
          refine mv_topI (y := nI (k + 3)) (nI_add _ _) ?_
          refine mv_cV1 (ci := 6) dX6_isWord_29 lk_X6_isWord_93 H3 rfl (Nat.le_of_ble_eq_true rfl) (Nat.le_of_ble_eq_true rfl) (k_X6_byteAt (ev := ev) H3 H4 hn (by omega)) ?_
          refine mv_topI (y := nI (tx (k + 3))) (if_pos (by omega)) ?_
          refine mv_aload_n dX6_isWord_32 rfl ?_
          refine mv_iload dX6_isWord_33 rfl ?_
          refine mv_cR1 dX6_isWord_35 lk_X6_isWord_125 (List.mem_of_getElem? (i := 4) rfl) rfl (Nat.le_of_ble_eq_true rfl) (Nat.le_of_ble_eq_true rfl) (k_J0c_4_3 (ev := ev) hE) ?_
          have btxk3 := htx (k + 3)
          refine mv_icmp_eq (tgt := 43) dX6_isWord_38 (by decide) (fun c38 => ?_) (fun c38 => ?_)
          · have c38 : tx (k + 3) = 115 := (nI_eq (by omega) (by omega)).mp c38
            refine mv_iinc (v := nI 4) dX6_isWord_43 rfl (mv_inc 3 1) (by decide) ?_
            refine mv_goto (tgt := 15) dX6_isWord_46 (by decide) ?_
            refine mv_iload dX6_isWord_15 rfl ?_
            refine mv_aload_n dX6_isWord_17 rfl ?_
            refine mv_cR0 dX6_isWord_18 lk_X6_isWord_120 (List.mem_of_getElem? (i := 4) rfl) rfl (Nat.le_of_ble_eq_true rfl) (Nat.le_of_ble_eq_true rfl) (k_J0_length_4 (ev := ev)) ?_
            refine mv_icmp_ge (tgt := 49) dX6_isWord_21 (by decide) (fun c21 => ?_) (fun z => absurd ((by decide)) z)
            refine mv_iconst (v := nI 1) dX6_isWord_49 (by decide) ?_
            exact mv_iret dX6_isWord_50 rfl rfl ⟨(congrArg (fun z => some (Value.int z)) (by first | exact (mv_b_t (by omega)).symm | exact (mv_b_f (by omega)).symm)), rfl⟩
          · have c38 : ¬ (tx (k + 3) = 115) := fun z => c38 ((nI_eq (by omega) (by omega)).mpr z)
            refine mv_iconst (v := nI 0) dX6_isWord_41 (by decide) ?_
            exact mv_iret dX6_isWord_42 rfl rfl ⟨(congrArg (fun z => some (Value.int z)) (by first | exact (mv_b_t (by omega)).symm | exact (mv_b_f (by omega)).symm)), rfl⟩
        · have c38 : ¬ (tx (k + 2) = 121) := fun z => c38 ((nI_eq (by omega) (by omega)).mpr z)
          refine mv_iconst (v := nI 0) dX6_isWord_41 (by decide) ?_
          exact mv_iret dX6_isWord_42 rfl rfl ⟨(congrArg (fun z => some (Value.int z)) (by first | exact (mv_b_t (by omega)).symm | exact (mv_b_f (by omega)).symm)), rfl⟩
      · have c38 : ¬ (tx (k + 1) = 97) := fun z => c38 ((nI_eq (by omega) (by omega)).mpr z)
        refine mv_iconst (v := nI 0) dX6_isWord_41 (by decide) ?_
        exact mv_iret dX6_isWord_42 rfl rfl ⟨(congrArg (fun z => some (Value.int z)) (by first | exact (mv_b_t (by omega)).symm | exact (mv_b_f (by omega)).symm)), rfl⟩
    · have c38 : ¬ (tx (k + 0) = 100) := fun z => c38 ((nI_eq (by omega) (by omega)).mpr z)
      refine mv_iconst (v := nI 0) dX6_isWord_41 (by decide) ?_
      exact mv_iret dX6_isWord_42 rfl rfl ⟨(congrArg (fun z => some (Value.int z)) (by first | exact (mv_b_t (by omega)).symm | exact (mv_b_f (by omega)).symm)), rfl⟩
  · have c7 : ¬ (e - k = 4) := fun z => c7 ((nI_eq (by omega) (by omega)).mpr z)
    refine mv_iconst (v := nI 0) dX6_isWord_10 (by decide) ?_
    exact mv_iret dX6_isWord_11 rfl rfl ⟨(congrArg (fun z => some (Value.int z)) (by first | exact (mv_b_t (by omega)).symm | exact (mv_b_f (by omega)).symm)), rfl⟩
set_option maxRecDepth 100000 in
theorem k_X6_isWord_5 {ev : mv_E} {h : mv_H} {n : Nat} {tx : Nat → Nat} {a0 : Nat} {cl : Nat} {fa : Nat} {fp : Int32} {k : Nat} {e : Nat} (H3 : h[3]? = some (.inr (6, [.ref 4, .ref 5, .ref 6, .int (nI n), .int (nI a0), .int (nI cl), .int (nI fa), .int fp]))) (H4 : h[4]? = some (.inl (0, 160, .inl (fun j => nI (tx j))))) (hn : n ≤ 160) (htx : ∀ i, tx i < 256) (hE : q_E ev) (hk : k ≤ e) (he : e ≤ n) : mv_K ev mX6_isWord [.ref 3, .int (nI k), .int (nI e), .ref 1000025] h (some (.int (mv_b (e - k = 4 ∧ tx (k + 0) = 110 ∧ tx (k + 1) = 101 ∧ tx (k + 2) = 97 ∧ tx (k + 3) = 114)))) h := by
  refine mv_Kof ?_
  show mv_g ev mX6_isWord 0 [.ref 3, .int (nI k), .int (nI e), .ref 1000025, .null] [] h _
  refine mv_iload_n dX6_isWord_0 rfl ?_
  refine mv_iload_n dX6_isWord_1 rfl ?_
  refine mv_isub dX6_isWord_2 ?_
  refine mv_topI (y := nI (e - k)) (pk_sub (by omega)) ?_
  refine mv_aload_n dX6_isWord_3 rfl ?_
  refine mv_cR0 dX6_isWord_4 lk_X6_isWord_120 (List.mem_of_getElem? (i := 5) rfl) rfl (Nat.le_of_ble_eq_true rfl) (Nat.le_of_ble_eq_true rfl) (k_J0_length_5 (ev := ev)) ?_
  refine mv_icmp_eq (tgt := 12) dX6_isWord_7 (by decide) (fun c7 => ?_) (fun c7 => ?_)
  · have c7 : e - k = 4 := (nI_eq (by omega) (by omega)).mp c7
    refine mv_iconst (v := nI 0) dX6_isWord_12 (by decide) ?_
    refine mv_istore dX6_isWord_13 (by decide) ?_
    refine mv_iload dX6_isWord_15 rfl ?_
    refine mv_aload_n dX6_isWord_17 rfl ?_
    refine mv_cR0 dX6_isWord_18 lk_X6_isWord_120 (List.mem_of_getElem? (i := 5) rfl) rfl (Nat.le_of_ble_eq_true rfl) (Nat.le_of_ble_eq_true rfl) (k_J0_length_5 (ev := ev)) ?_
    refine mv_icmp_ge (tgt := 49) dX6_isWord_21 (by decide) (fun z => absurd z ((by decide))) (fun c21 => ?_)
    refine mv_aload_n dX6_isWord_24 rfl ?_
    refine mv_iload_n dX6_isWord_25 rfl ?_
    refine mv_iload dX6_isWord_26 rfl ?_
    refine mv_iadd dX6_isWord_28 ?_
    refine mv_topI (y := nI (k + 0)) (nI_add _ _) ?_
    refine mv_cV1 (ci := 6) dX6_isWord_29 lk_X6_isWord_93 H3 rfl (Nat.le_of_ble_eq_true rfl) (Nat.le_of_ble_eq_true rfl) (k_X6_byteAt (ev := ev) H3 H4 hn (by omega)) ?_
    refine mv_topI (y := nI (tx (k + 0))) (if_pos (by omega)) ?_
    refine mv_aload_n dX6_isWord_32 rfl ?_
    refine mv_iload dX6_isWord_33 rfl ?_
    refine mv_cR1 dX6_isWord_35 lk_X6_isWord_125 (List.mem_of_getElem? (i := 5) rfl) rfl (Nat.le_of_ble_eq_true rfl) (Nat.le_of_ble_eq_true rfl) (k_J0c_5_0 (ev := ev) hE) ?_
    have btxk0 := htx (k + 0)
    refine mv_icmp_eq (tgt := 43) dX6_isWord_38 (by decide) (fun c38 => ?_) (fun c38 => ?_)
    · have c38 : tx (k + 0) = 110 := (nI_eq (by omega) (by omega)).mp c38
      refine mv_iinc (v := nI 1) dX6_isWord_43 rfl (mv_inc 0 1) (by decide) ?_
      refine mv_goto (tgt := 15) dX6_isWord_46 (by decide) ?_
      refine mv_iload dX6_isWord_15 rfl ?_
      refine mv_aload_n dX6_isWord_17 rfl ?_
      refine mv_cR0 dX6_isWord_18 lk_X6_isWord_120 (List.mem_of_getElem? (i := 5) rfl) rfl (Nat.le_of_ble_eq_true rfl) (Nat.le_of_ble_eq_true rfl) (k_J0_length_5 (ev := ev)) ?_
      refine mv_icmp_ge (tgt := 49) dX6_isWord_21 (by decide) (fun z => absurd z ((by decide))) (fun c21 => ?_)
      refine mv_aload_n dX6_isWord_24 rfl ?_
      refine mv_iload_n dX6_isWord_25 rfl ?_
      refine mv_iload dX6_isWord_26 rfl ?_
      refine mv_iadd dX6_isWord_28 ?_
      refine mv_topI (y := nI (k + 1)) (nI_add _ _) ?_
      refine mv_cV1 (ci := 6) dX6_isWord_29 lk_X6_isWord_93 H3 rfl (Nat.le_of_ble_eq_true rfl) (Nat.le_of_ble_eq_true rfl) (k_X6_byteAt (ev := ev) H3 H4 hn (by omega)) ?_
      refine mv_topI (y := nI (tx (k + 1))) (if_pos (by omega)) ?_
      refine mv_aload_n dX6_isWord_32 rfl ?_
      refine mv_iload dX6_isWord_33 rfl ?_
      refine mv_cR1 dX6_isWord_35 lk_X6_isWord_125 (List.mem_of_getElem? (i := 5) rfl) rfl (Nat.le_of_ble_eq_true rfl) (Nat.le_of_ble_eq_true rfl) (k_J0c_5_1 (ev := ev) hE) ?_
      have btxk1 := htx (k + 1)
      refine mv_icmp_eq (tgt := 43) dX6_isWord_38 (by decide) (fun c38 => ?_) (fun c38 => ?_)
      · have c38 : tx (k + 1) = 101 := (nI_eq (by omega) (by omega)).mp c38
        refine mv_iinc (v := nI 2) dX6_isWord_43 rfl (mv_inc 1 1) (by decide) ?_
        refine mv_goto (tgt := 15) dX6_isWord_46 (by decide) ?_
        refine mv_iload dX6_isWord_15 rfl ?_
        refine mv_aload_n dX6_isWord_17 rfl ?_
        refine mv_cR0 dX6_isWord_18 lk_X6_isWord_120 (List.mem_of_getElem? (i := 5) rfl) rfl (Nat.le_of_ble_eq_true rfl) (Nat.le_of_ble_eq_true rfl) (k_J0_length_5 (ev := ev)) ?_
        refine mv_icmp_ge (tgt := 49) dX6_isWord_21 (by decide) (fun z => absurd z ((by decide))) (fun c21 => ?_)
        refine mv_aload_n dX6_isWord_24 rfl ?_
        refine mv_iload_n dX6_isWord_25 rfl ?_
        refine mv_iload dX6_isWord_26 rfl ?_
        refine mv_iadd dX6_isWord_28 ?_
        refine mv_topI (y := nI (k + 2)) (nI_add _ _) ?_
        refine mv_cV1 (ci := 6) dX6_isWord_29 lk_X6_isWord_93 H3 rfl (Nat.le_of_ble_eq_true rfl) (Nat.le_of_ble_eq_true rfl) (k_X6_byteAt (ev := ev) H3 H4 hn (by omega)) ?_
        refine mv_topI (y := nI (tx (k + 2))) (if_pos (by omega)) ?_
        refine mv_aload_n dX6_isWord_32 rfl ?_
        refine mv_iload dX6_isWord_33 rfl ?_
        refine mv_cR1 dX6_isWord_35 lk_X6_isWord_125 (List.mem_of_getElem? (i := 5) rfl) rfl (Nat.le_of_ble_eq_true rfl) (Nat.le_of_ble_eq_true rfl) (k_J0c_5_2 (ev := ev) hE) ?_
        have btxk2 := htx (k + 2)
        refine mv_icmp_eq (tgt := 43) dX6_isWord_38 (by decide) (fun c38 => ?_) (fun c38 => ?_)
        · have c38 : tx (k + 2) = 97 := (nI_eq (by omega) (by omega)).mp c38
          refine mv_iinc (v := nI 3) dX6_isWord_43 rfl (mv_inc 2 1) (by decide) ?_
          refine mv_goto (tgt := 15) dX6_isWord_46 (by decide) ?_
          refine mv_iload dX6_isWord_15 rfl ?_
          refine mv_aload_n dX6_isWord_17 rfl ?_
          refine mv_cR0 dX6_isWord_18 lk_X6_isWord_120 (List.mem_of_getElem? (i := 5) rfl) rfl (Nat.le_of_ble_eq_true rfl) (Nat.le_of_ble_eq_true rfl) (k_J0_length_5 (ev := ev)) ?_
          refine mv_icmp_ge (tgt := 49) dX6_isWord_21 (by decide) (fun z => absurd z ((by decide))) (fun c21 => ?_)
          refine mv_aload_n dX6_isWord_24 rfl ?_
          refine mv_iload_n dX6_isWord_25 rfl ?_
          refine mv_iload dX6_isWord_26 rfl ?_
          refine mv_iadd dX6_isWord_28 ?_
          refine mv_topI (y := nI (k + 3)) (nI_add _ _) ?_
          refine mv_cV1 (ci := 6) dX6_isWord_29 lk_X6_isWord_93 H3 rfl (Nat.le_of_ble_eq_true rfl) (Nat.le_of_ble_eq_true rfl) (k_X6_byteAt (ev := ev) H3 H4 hn (by omega)) ?_
          refine mv_topI (y := nI (tx (k + 3))) (if_pos (by omega)) ?_
          refine mv_aload_n dX6_isWord_32 rfl ?_
          refine mv_iload dX6_isWord_33 rfl ?_
          refine mv_cR1 dX6_isWord_35 lk_X6_isWord_125 (List.mem_of_getElem? (i := 5) rfl) rfl (Nat.le_of_ble_eq_true rfl) (Nat.le_of_ble_eq_true rfl) (k_J0c_5_3 (ev := ev) hE) ?_
          have btxk3 := htx (k + 3)
          refine mv_icmp_eq (tgt := 43) dX6_isWord_38 (by decide) (fun c38 => ?_) (fun c38 => ?_)
          · have c38 : tx (k + 3) = 114 := (nI_eq (by omega) (by omega)).mp c38
            refine mv_iinc (v := nI 4) dX6_isWord_43 rfl (mv_inc 3 1) (by decide) ?_
            refine mv_goto (tgt := 15) dX6_isWord_46 (by decide) ?_
            refine mv_iload dX6_isWord_15 rfl ?_
            refine mv_aload_n dX6_isWord_17 rfl ?_
            refine mv_cR0 dX6_isWord_18 lk_X6_isWord_120 (List.mem_of_getElem? (i := 5) rfl) rfl (Nat.le_of_ble_eq_true rfl) (Nat.le_of_ble_eq_true rfl) (k_J0_length_5 (ev := ev)) ?_
            refine mv_icmp_ge (tgt := 49) dX6_isWord_21 (by decide) (fun c21 => ?_) (fun z => absurd ((by decide)) z)
            refine mv_iconst (v := nI 1) dX6_isWord_49 (by decide) ?_
            exact mv_iret dX6_isWord_50 rfl rfl ⟨(congrArg (fun z => some (Value.int z)) (by first | exact (mv_b_t (by omega)).symm | exact (mv_b_f (by omega)).symm)), rfl⟩
          · have c38 : ¬ (tx (k + 3) = 114) := fun z => c38 ((nI_eq (by omega) (by omega)).mpr z)
            refine mv_iconst (v := nI 0) dX6_isWord_41 (by decide) ?_
            exact mv_iret dX6_isWord_42 rfl rfl ⟨(congrArg (fun z => some (Value.int z)) (by first | exact (mv_b_t (by omega)).symm | exact (mv_b_f (by omega)).symm)), rfl⟩
        · have c38 : ¬ (tx (k + 2) = 97) := fun z => c38 ((nI_eq (by omega) (by omega)).mpr z)
          refine mv_iconst (v := nI 0) dX6_isWord_41 (by decide) ?_
          exact mv_iret dX6_isWord_42 rfl rfl ⟨(congrArg (fun z => some (Value.int z)) (by first | exact (mv_b_t (by omega)).symm | exact (mv_b_f (by omega)).symm)), rfl⟩
      · have c38 : ¬ (tx (k + 1) = 101) := fun z => c38 ((nI_eq (by omega) (by omega)).mpr z)
        refine mv_iconst (v := nI 0) dX6_isWord_41 (by decide) ?_
        exact mv_iret dX6_isWord_42 rfl rfl ⟨(congrArg (fun z => some (Value.int z)) (by first | exact (mv_b_t (by omega)).symm | exact (mv_b_f (by omega)).symm)), rfl⟩
    · have c38 : ¬ (tx (k + 0) = 110) := fun z => c38 ((nI_eq (by omega) (by omega)).mpr z)
      refine mv_iconst (v := nI 0) dX6_isWord_41 (by decide) ?_
      exact mv_iret dX6_isWord_42 rfl rfl ⟨(congrArg (fun z => some (Value.int z)) (by first | exact (mv_b_t (by omega)).symm | exact (mv_b_f (by omega)).symm)), rfl⟩
  · have c7 : ¬ (e - k = 4) := fun z => c7 ((nI_eq (by omega) (by omega)).mpr z)
    refine mv_iconst (v := nI 0) dX6_isWord_10 (by decide) ?_
    exact mv_iret dX6_isWord_11 rfl rfl ⟨(congrArg (fun z => some (Value.int z)) (by first | exact (mv_b_t (by omega)).symm | exact (mv_b_f (by omega)).symm)), rfl⟩
set_option maxRecDepth 100000 in
theorem k_X6_isWord_6 {ev : mv_E} {h : mv_H} {n : Nat} {tx : Nat → Nat} {a0 : Nat} {cl : Nat} {fa : Nat} {fp : Int32} {k : Nat} {e : Nat} (H3 : h[3]? = some (.inr (6, [.ref 4, .ref 5, .ref 6, .int (nI n), .int (nI a0), .int (nI cl), .int (nI fa), .int fp]))) (H4 : h[4]? = some (.inl (0, 160, .inl (fun j => nI (tx j))))) (hn : n ≤ 160) (htx : ∀ i, tx i < 256) (hE : q_E ev) (hk : k ≤ e) (he : e ≤ n) : mv_K ev mX6_isWord [.ref 3, .int (nI k), .int (nI e), .ref 1000026] h (some (.int (mv_b (e - k = 4 ∧ tx (k + 0) = 109 ∧ tx (k + 1) = 111 ∧ tx (k + 2) = 111 ∧ tx (k + 3) = 110)))) h := by
  refine mv_Kof ?_
  show mv_g ev mX6_isWord 0 [.ref 3, .int (nI k), .int (nI e), .ref 1000026, .null] [] h _
  refine mv_iload_n dX6_isWord_0 rfl ?_
  refine mv_iload_n dX6_isWord_1 rfl ?_
  refine mv_isub dX6_isWord_2 ?_
  refine mv_topI (y := nI (e - k)) (pk_sub (by omega)) ?_
  refine mv_aload_n dX6_isWord_3 rfl ?_
  refine mv_cR0 dX6_isWord_4 lk_X6_isWord_120 (List.mem_of_getElem? (i := 6) rfl) rfl (Nat.le_of_ble_eq_true rfl) (Nat.le_of_ble_eq_true rfl) (k_J0_length_6 (ev := ev)) ?_
  refine mv_icmp_eq (tgt := 12) dX6_isWord_7 (by decide) (fun c7 => ?_) (fun c7 => ?_)
  · have c7 : e - k = 4 := (nI_eq (by omega) (by omega)).mp c7
    refine mv_iconst (v := nI 0) dX6_isWord_12 (by decide) ?_
    refine mv_istore dX6_isWord_13 (by decide) ?_
    refine mv_iload dX6_isWord_15 rfl ?_
    refine mv_aload_n dX6_isWord_17 rfl ?_
    refine mv_cR0 dX6_isWord_18 lk_X6_isWord_120 (List.mem_of_getElem? (i := 6) rfl) rfl (Nat.le_of_ble_eq_true rfl) (Nat.le_of_ble_eq_true rfl) (k_J0_length_6 (ev := ev)) ?_
    refine mv_icmp_ge (tgt := 49) dX6_isWord_21 (by decide) (fun z => absurd z ((by decide))) (fun c21 => ?_)
    refine mv_aload_n dX6_isWord_24 rfl ?_
    refine mv_iload_n dX6_isWord_25 rfl ?_
    refine mv_iload dX6_isWord_26 rfl ?_
    refine mv_iadd dX6_isWord_28 ?_
    refine mv_topI (y := nI (k + 0)) (nI_add _ _) ?_
    refine mv_cV1 (ci := 6) dX6_isWord_29 lk_X6_isWord_93 H3 rfl (Nat.le_of_ble_eq_true rfl) (Nat.le_of_ble_eq_true rfl) (k_X6_byteAt (ev := ev) H3 H4 hn (by omega)) ?_
    refine mv_topI (y := nI (tx (k + 0))) (if_pos (by omega)) ?_
    refine mv_aload_n dX6_isWord_32 rfl ?_
    refine mv_iload dX6_isWord_33 rfl ?_
    refine mv_cR1 dX6_isWord_35 lk_X6_isWord_125 (List.mem_of_getElem? (i := 6) rfl) rfl (Nat.le_of_ble_eq_true rfl) (Nat.le_of_ble_eq_true rfl) (k_J0c_6_0 (ev := ev) hE) ?_
    have btxk0 := htx (k + 0)
    refine mv_icmp_eq (tgt := 43) dX6_isWord_38 (by decide) (fun c38 => ?_) (fun c38 => ?_)
    · have c38 : tx (k + 0) = 109 := (nI_eq (by omega) (by omega)).mp c38
      refine mv_iinc (v := nI 1) dX6_isWord_43 rfl (mv_inc 0 1) (by decide) ?_
      refine mv_goto (tgt := 15) dX6_isWord_46 (by decide) ?_
      refine mv_iload dX6_isWord_15 rfl ?_
      refine mv_aload_n dX6_isWord_17 rfl ?_
      refine mv_cR0 dX6_isWord_18 lk_X6_isWord_120 (List.mem_of_getElem? (i := 6) rfl) rfl (Nat.le_of_ble_eq_true rfl) (Nat.le_of_ble_eq_true rfl) (k_J0_length_6 (ev := ev)) ?_
      refine mv_icmp_ge (tgt := 49) dX6_isWord_21 (by decide) (fun z => absurd z ((by decide))) (fun c21 => ?_)
      refine mv_aload_n dX6_isWord_24 rfl ?_
      refine mv_iload_n dX6_isWord_25 rfl ?_
      refine mv_iload dX6_isWord_26 rfl ?_
      refine mv_iadd dX6_isWord_28 ?_
      refine mv_topI (y := nI (k + 1)) (nI_add _ _) ?_
      refine mv_cV1 (ci := 6) dX6_isWord_29 lk_X6_isWord_93 H3 rfl (Nat.le_of_ble_eq_true rfl) (Nat.le_of_ble_eq_true rfl) (k_X6_byteAt (ev := ev) H3 H4 hn (by omega)) ?_
      refine mv_topI (y := nI (tx (k + 1))) (if_pos (by omega)) ?_
      refine mv_aload_n dX6_isWord_32 rfl ?_
      refine mv_iload dX6_isWord_33 rfl ?_
      refine mv_cR1 dX6_isWord_35 lk_X6_isWord_125 (List.mem_of_getElem? (i := 6) rfl) rfl (Nat.le_of_ble_eq_true rfl) (Nat.le_of_ble_eq_true rfl) (k_J0c_6_1 (ev := ev) hE) ?_
      have btxk1 := htx (k + 1)
      refine mv_icmp_eq (tgt := 43) dX6_isWord_38 (by decide) (fun c38 => ?_) (fun c38 => ?_)
      · have c38 : tx (k + 1) = 111 := (nI_eq (by omega) (by omega)).mp c38
        refine mv_iinc (v := nI 2) dX6_isWord_43 rfl (mv_inc 1 1) (by decide) ?_
        refine mv_goto (tgt := 15) dX6_isWord_46 (by decide) ?_
        refine mv_iload dX6_isWord_15 rfl ?_
        refine mv_aload_n dX6_isWord_17 rfl ?_
        refine mv_cR0 dX6_isWord_18 lk_X6_isWord_120 (List.mem_of_getElem? (i := 6) rfl) rfl (Nat.le_of_ble_eq_true rfl) (Nat.le_of_ble_eq_true rfl) (k_J0_length_6 (ev := ev)) ?_
        refine mv_icmp_ge (tgt := 49) dX6_isWord_21 (by decide) (fun z => absurd z ((by decide))) (fun c21 => ?_)
        refine mv_aload_n dX6_isWord_24 rfl ?_
        refine mv_iload_n dX6_isWord_25 rfl ?_
        refine mv_iload dX6_isWord_26 rfl ?_
        refine mv_iadd dX6_isWord_28 ?_
        refine mv_topI (y := nI (k + 2)) (nI_add _ _) ?_
        refine mv_cV1 (ci := 6) dX6_isWord_29 lk_X6_isWord_93 H3 rfl (Nat.le_of_ble_eq_true rfl) (Nat.le_of_ble_eq_true rfl) (k_X6_byteAt (ev := ev) H3 H4 hn (by omega)) ?_
        refine mv_topI (y := nI (tx (k + 2))) (if_pos (by omega)) ?_
        refine mv_aload_n dX6_isWord_32 rfl ?_
        refine mv_iload dX6_isWord_33 rfl ?_
        refine mv_cR1 dX6_isWord_35 lk_X6_isWord_125 (List.mem_of_getElem? (i := 6) rfl) rfl (Nat.le_of_ble_eq_true rfl) (Nat.le_of_ble_eq_true rfl) (k_J0c_6_2 (ev := ev) hE) ?_
        have btxk2 := htx (k + 2)
        refine mv_icmp_eq (tgt := 43) dX6_isWord_38 (by decide) (fun c38 => ?_) (fun c38 => ?_)
        · have c38 : tx (k + 2) = 111 := (nI_eq (by omega) (by omega)).mp c38
          refine mv_iinc (v := nI 3) dX6_isWord_43 rfl (mv_inc 2 1) (by decide) ?_
          refine mv_goto (tgt := 15) dX6_isWord_46 (by decide) ?_
          refine mv_iload dX6_isWord_15 rfl ?_
          refine mv_aload_n dX6_isWord_17 rfl ?_
          refine mv_cR0 dX6_isWord_18 lk_X6_isWord_120 (List.mem_of_getElem? (i := 6) rfl) rfl (Nat.le_of_ble_eq_true rfl) (Nat.le_of_ble_eq_true rfl) (k_J0_length_6 (ev := ev)) ?_
          refine mv_icmp_ge (tgt := 49) dX6_isWord_21 (by decide) (fun z => absurd z ((by decide))) (fun c21 => ?_)
          refine mv_aload_n dX6_isWord_24 rfl ?_
          refine mv_iload_n dX6_isWord_25 rfl ?_
          refine mv_iload dX6_isWord_26 rfl ?_
          refine mv_iadd dX6_isWord_28 ?_
          refine mv_topI (y := nI (k + 3)) (nI_add _ _) ?_
          refine mv_cV1 (ci := 6) dX6_isWord_29 lk_X6_isWord_93 H3 rfl (Nat.le_of_ble_eq_true rfl) (Nat.le_of_ble_eq_true rfl) (k_X6_byteAt (ev := ev) H3 H4 hn (by omega)) ?_
          refine mv_topI (y := nI (tx (k + 3))) (if_pos (by omega)) ?_
          refine mv_aload_n dX6_isWord_32 rfl ?_
          refine mv_iload dX6_isWord_33 rfl ?_
          refine mv_cR1 dX6_isWord_35 lk_X6_isWord_125 (List.mem_of_getElem? (i := 6) rfl) rfl (Nat.le_of_ble_eq_true rfl) (Nat.le_of_ble_eq_true rfl) (k_J0c_6_3 (ev := ev) hE) ?_
          have btxk3 := htx (k + 3)
          refine mv_icmp_eq (tgt := 43) dX6_isWord_38 (by decide) (fun c38 => ?_) (fun c38 => ?_)
          · have c38 : tx (k + 3) = 110 := (nI_eq (by omega) (by omega)).mp c38
            refine mv_iinc (v := nI 4) dX6_isWord_43 rfl (mv_inc 3 1) (by decide) ?_
            refine mv_goto (tgt := 15) dX6_isWord_46 (by decide) ?_
            refine mv_iload dX6_isWord_15 rfl ?_
            refine mv_aload_n dX6_isWord_17 rfl ?_
            refine mv_cR0 dX6_isWord_18 lk_X6_isWord_120 (List.mem_of_getElem? (i := 6) rfl) rfl (Nat.le_of_ble_eq_true rfl) (Nat.le_of_ble_eq_true rfl) (k_J0_length_6 (ev := ev)) ?_
            refine mv_icmp_ge (tgt := 49) dX6_isWord_21 (by decide) (fun c21 => ?_) (fun z => absurd ((by decide)) z)
            refine mv_iconst (v := nI 1) dX6_isWord_49 (by decide) ?_
            exact mv_iret dX6_isWord_50 rfl rfl ⟨(congrArg (fun z => some (Value.int z)) (by first | exact (mv_b_t (by omega)).symm | exact (mv_b_f (by omega)).symm)), rfl⟩
          · have c38 : ¬ (tx (k + 3) = 110) := fun z => c38 ((nI_eq (by omega) (by omega)).mpr z)
            refine mv_iconst (v := nI 0) dX6_isWord_41 (by decide) ?_
            exact mv_iret dX6_isWord_42 rfl rfl ⟨(congrArg (fun z => some (Value.int z)) (by first | exact (mv_b_t (by omega)).symm | exact (mv_b_f (by omega)).symm)), rfl⟩
        · have c38 : ¬ (tx (k + 2) = 111) := fun z => c38 ((nI_eq (by omega) (by omega)).mpr z)
          refine mv_iconst (v := nI 0) dX6_isWord_41 (by decide) ?_
          exact mv_iret dX6_isWord_42 rfl rfl ⟨(congrArg (fun z => some (Value.int z)) (by first | exact (mv_b_t (by omega)).symm | exact (mv_b_f (by omega)).symm)), rfl⟩
      · have c38 : ¬ (tx (k + 1) = 111) := fun z => c38 ((nI_eq (by omega) (by omega)).mpr z)
        refine mv_iconst (v := nI 0) dX6_isWord_41 (by decide) ?_
        exact mv_iret dX6_isWord_42 rfl rfl ⟨(congrArg (fun z => some (Value.int z)) (by first | exact (mv_b_t (by omega)).symm | exact (mv_b_f (by omega)).symm)), rfl⟩
    · have c38 : ¬ (tx (k + 0) = 109) := fun z => c38 ((nI_eq (by omega) (by omega)).mpr z)
      refine mv_iconst (v := nI 0) dX6_isWord_41 (by decide) ?_
      exact mv_iret dX6_isWord_42 rfl rfl ⟨(congrArg (fun z => some (Value.int z)) (by first | exact (mv_b_t (by omega)).symm | exact (mv_b_f (by omega)).symm)), rfl⟩
  · have c7 : ¬ (e - k = 4) := fun z => c7 ((nI_eq (by omega) (by omega)).mpr z)
    refine mv_iconst (v := nI 0) dX6_isWord_10 (by decide) ?_
    exact mv_iret dX6_isWord_11 rfl rfl ⟨(congrArg (fun z => some (Value.int z)) (by first | exact (mv_b_t (by omega)).symm | exact (mv_b_f (by omega)).symm)), rfl⟩
set_option maxRecDepth 100000 in
theorem k_X6_isWord_7 {ev : mv_E} {h : mv_H} {n : Nat} {tx : Nat → Nat} {a0 : Nat} {cl : Nat} {fa : Nat} {fp : Int32} {k : Nat} {e : Nat} (H3 : h[3]? = some (.inr (6, [.ref 4, .ref 5, .ref 6, .int (nI n), .int (nI a0), .int (nI cl), .int (nI fa), .int fp]))) (H4 : h[4]? = some (.inl (0, 160, .inl (fun j => nI (tx j))))) (hn : n ≤ 160) (htx : ∀ i, tx i < 256) (hE : q_E ev) (hk : k ≤ e) (he : e ≤ n) : mv_K ev mX6_isWord [.ref 3, .int (nI k), .int (nI e), .ref 1000027] h (some (.int (mv_b (e - k = 4 ∧ tx (k + 0) = 114 ∧ tx (k + 1) = 97 ∧ tx (k + 2) = 105 ∧ tx (k + 3) = 110)))) h := by
  refine mv_Kof ?_
  show mv_g ev mX6_isWord 0 [.ref 3, .int (nI k), .int (nI e), .ref 1000027, .null] [] h _
  refine mv_iload_n dX6_isWord_0 rfl ?_
  refine mv_iload_n dX6_isWord_1 rfl ?_
  refine mv_isub dX6_isWord_2 ?_
  refine mv_topI (y := nI (e - k)) (pk_sub (by omega)) ?_
  refine mv_aload_n dX6_isWord_3 rfl ?_
  refine mv_cR0 dX6_isWord_4 lk_X6_isWord_120 (List.mem_of_getElem? (i := 7) rfl) rfl (Nat.le_of_ble_eq_true rfl) (Nat.le_of_ble_eq_true rfl) (k_J0_length_7 (ev := ev)) ?_
  refine mv_icmp_eq (tgt := 12) dX6_isWord_7 (by decide) (fun c7 => ?_) (fun c7 => ?_)
  · have c7 : e - k = 4 := (nI_eq (by omega) (by omega)).mp c7
    refine mv_iconst (v := nI 0) dX6_isWord_12 (by decide) ?_
    refine mv_istore dX6_isWord_13 (by decide) ?_
    refine mv_iload dX6_isWord_15 rfl ?_
    refine mv_aload_n dX6_isWord_17 rfl ?_
    refine mv_cR0 dX6_isWord_18 lk_X6_isWord_120 (List.mem_of_getElem? (i := 7) rfl) rfl (Nat.le_of_ble_eq_true rfl) (Nat.le_of_ble_eq_true rfl) (k_J0_length_7 (ev := ev)) ?_
    refine mv_icmp_ge (tgt := 49) dX6_isWord_21 (by decide) (fun z => absurd z ((by decide))) (fun c21 => ?_)
    refine mv_aload_n dX6_isWord_24 rfl ?_
    refine mv_iload_n dX6_isWord_25 rfl ?_
    refine mv_iload dX6_isWord_26 rfl ?_
    refine mv_iadd dX6_isWord_28 ?_
    refine mv_topI (y := nI (k + 0)) (nI_add _ _) ?_
    refine mv_cV1 (ci := 6) dX6_isWord_29 lk_X6_isWord_93 H3 rfl (Nat.le_of_ble_eq_true rfl) (Nat.le_of_ble_eq_true rfl) (k_X6_byteAt (ev := ev) H3 H4 hn (by omega)) ?_
    refine mv_topI (y := nI (tx (k + 0))) (if_pos (by omega)) ?_
    refine mv_aload_n dX6_isWord_32 rfl ?_
    refine mv_iload dX6_isWord_33 rfl ?_
    refine mv_cR1 dX6_isWord_35 lk_X6_isWord_125 (List.mem_of_getElem? (i := 7) rfl) rfl (Nat.le_of_ble_eq_true rfl) (Nat.le_of_ble_eq_true rfl) (k_J0c_7_0 (ev := ev) hE) ?_
    have btxk0 := htx (k + 0)
    refine mv_icmp_eq (tgt := 43) dX6_isWord_38 (by decide) (fun c38 => ?_) (fun c38 => ?_)
    · have c38 : tx (k + 0) = 114 := (nI_eq (by omega) (by omega)).mp c38
      refine mv_iinc (v := nI 1) dX6_isWord_43 rfl (mv_inc 0 1) (by decide) ?_
      refine mv_goto (tgt := 15) dX6_isWord_46 (by decide) ?_
      refine mv_iload dX6_isWord_15 rfl ?_
      refine mv_aload_n dX6_isWord_17 rfl ?_
      refine mv_cR0 dX6_isWord_18 lk_X6_isWord_120 (List.mem_of_getElem? (i := 7) rfl) rfl (Nat.le_of_ble_eq_true rfl) (Nat.le_of_ble_eq_true rfl) (k_J0_length_7 (ev := ev)) ?_
      refine mv_icmp_ge (tgt := 49) dX6_isWord_21 (by decide) (fun z => absurd z ((by decide))) (fun c21 => ?_)
      refine mv_aload_n dX6_isWord_24 rfl ?_
      refine mv_iload_n dX6_isWord_25 rfl ?_
      refine mv_iload dX6_isWord_26 rfl ?_
      refine mv_iadd dX6_isWord_28 ?_
      refine mv_topI (y := nI (k + 1)) (nI_add _ _) ?_
      refine mv_cV1 (ci := 6) dX6_isWord_29 lk_X6_isWord_93 H3 rfl (Nat.le_of_ble_eq_true rfl) (Nat.le_of_ble_eq_true rfl) (k_X6_byteAt (ev := ev) H3 H4 hn (by omega)) ?_
      refine mv_topI (y := nI (tx (k + 1))) (if_pos (by omega)) ?_
      refine mv_aload_n dX6_isWord_32 rfl ?_
      refine mv_iload dX6_isWord_33 rfl ?_
      refine mv_cR1 dX6_isWord_35 lk_X6_isWord_125 (List.mem_of_getElem? (i := 7) rfl) rfl (Nat.le_of_ble_eq_true rfl) (Nat.le_of_ble_eq_true rfl) (k_J0c_7_1 (ev := ev) hE) ?_
      have btxk1 := htx (k + 1)
      refine mv_icmp_eq (tgt := 43) dX6_isWord_38 (by decide) (fun c38 => ?_) (fun c38 => ?_)
      · have c38 : tx (k + 1) = 97 := (nI_eq (by omega) (by omega)).mp c38
        refine mv_iinc (v := nI 2) dX6_isWord_43 rfl (mv_inc 1 1) (by decide) ?_
        refine mv_goto (tgt := 15) dX6_isWord_46 (by decide) ?_
        refine mv_iload dX6_isWord_15 rfl ?_
        refine mv_aload_n dX6_isWord_17 rfl ?_
        refine mv_cR0 dX6_isWord_18 lk_X6_isWord_120 (List.mem_of_getElem? (i := 7) rfl) rfl (Nat.le_of_ble_eq_true rfl) (Nat.le_of_ble_eq_true rfl) (k_J0_length_7 (ev := ev)) ?_
        refine mv_icmp_ge (tgt := 49) dX6_isWord_21 (by decide) (fun z => absurd z ((by decide))) (fun c21 => ?_)
        refine mv_aload_n dX6_isWord_24 rfl ?_
        refine mv_iload_n dX6_isWord_25 rfl ?_
        refine mv_iload dX6_isWord_26 rfl ?_
        refine mv_iadd dX6_isWord_28 ?_
        refine mv_topI (y := nI (k + 2)) (nI_add _ _) ?_
        refine mv_cV1 (ci := 6) dX6_isWord_29 lk_X6_isWord_93 H3 rfl (Nat.le_of_ble_eq_true rfl) (Nat.le_of_ble_eq_true rfl) (k_X6_byteAt (ev := ev) H3 H4 hn (by omega)) ?_
        refine mv_topI (y := nI (tx (k + 2))) (if_pos (by omega)) ?_
        refine mv_aload_n dX6_isWord_32 rfl ?_
        refine mv_iload dX6_isWord_33 rfl ?_
        refine mv_cR1 dX6_isWord_35 lk_X6_isWord_125 (List.mem_of_getElem? (i := 7) rfl) rfl (Nat.le_of_ble_eq_true rfl) (Nat.le_of_ble_eq_true rfl) (k_J0c_7_2 (ev := ev) hE) ?_
        have btxk2 := htx (k + 2)
        refine mv_icmp_eq (tgt := 43) dX6_isWord_38 (by decide) (fun c38 => ?_) (fun c38 => ?_)
        · have c38 : tx (k + 2) = 105 := (nI_eq (by omega) (by omega)).mp c38
          refine mv_iinc (v := nI 3) dX6_isWord_43 rfl (mv_inc 2 1) (by decide) ?_
          refine mv_goto (tgt := 15) dX6_isWord_46 (by decide) ?_
          refine mv_iload dX6_isWord_15 rfl ?_
          refine mv_aload_n dX6_isWord_17 rfl ?_
          refine mv_cR0 dX6_isWord_18 lk_X6_isWord_120 (List.mem_of_getElem? (i := 7) rfl) rfl (Nat.le_of_ble_eq_true rfl) (Nat.le_of_ble_eq_true rfl) (k_J0_length_7 (ev := ev)) ?_
          refine mv_icmp_ge (tgt := 49) dX6_isWord_21 (by decide) (fun z => absurd z ((by decide))) (fun c21 => ?_)
          refine mv_aload_n dX6_isWord_24 rfl ?_
          refine mv_iload_n dX6_isWord_25 rfl ?_
          refine mv_iload dX6_isWord_26 rfl ?_
          refine mv_iadd dX6_isWord_28 ?_
          refine mv_topI (y := nI (k + 3)) (nI_add _ _) ?_
          refine mv_cV1 (ci := 6) dX6_isWord_29 lk_X6_isWord_93 H3 rfl (Nat.le_of_ble_eq_true rfl) (Nat.le_of_ble_eq_true rfl) (k_X6_byteAt (ev := ev) H3 H4 hn (by omega)) ?_
          refine mv_topI (y := nI (tx (k + 3))) (if_pos (by omega)) ?_
          refine mv_aload_n dX6_isWord_32 rfl ?_
          refine mv_iload dX6_isWord_33 rfl ?_
          refine mv_cR1 dX6_isWord_35 lk_X6_isWord_125 (List.mem_of_getElem? (i := 7) rfl) rfl (Nat.le_of_ble_eq_true rfl) (Nat.le_of_ble_eq_true rfl) (k_J0c_7_3 (ev := ev) hE) ?_
          have btxk3 := htx (k + 3)
          refine mv_icmp_eq (tgt := 43) dX6_isWord_38 (by decide) (fun c38 => ?_) (fun c38 => ?_)
          · have c38 : tx (k + 3) = 110 := (nI_eq (by omega) (by omega)).mp c38
            refine mv_iinc (v := nI 4) dX6_isWord_43 rfl (mv_inc 3 1) (by decide) ?_
            refine mv_goto (tgt := 15) dX6_isWord_46 (by decide) ?_
            refine mv_iload dX6_isWord_15 rfl ?_
            refine mv_aload_n dX6_isWord_17 rfl ?_
            refine mv_cR0 dX6_isWord_18 lk_X6_isWord_120 (List.mem_of_getElem? (i := 7) rfl) rfl (Nat.le_of_ble_eq_true rfl) (Nat.le_of_ble_eq_true rfl) (k_J0_length_7 (ev := ev)) ?_
            refine mv_icmp_ge (tgt := 49) dX6_isWord_21 (by decide) (fun c21 => ?_) (fun z => absurd ((by decide)) z)
            refine mv_iconst (v := nI 1) dX6_isWord_49 (by decide) ?_
            exact mv_iret dX6_isWord_50 rfl rfl ⟨(congrArg (fun z => some (Value.int z)) (by first | exact (mv_b_t (by omega)).symm | exact (mv_b_f (by omega)).symm)), rfl⟩
          · have c38 : ¬ (tx (k + 3) = 110) := fun z => c38 ((nI_eq (by omega) (by omega)).mpr z)
            refine mv_iconst (v := nI 0) dX6_isWord_41 (by decide) ?_
            exact mv_iret dX6_isWord_42 rfl rfl ⟨(congrArg (fun z => some (Value.int z)) (by first | exact (mv_b_t (by omega)).symm | exact (mv_b_f (by omega)).symm)), rfl⟩
        · have c38 : ¬ (tx (k + 2) = 105) := fun z => c38 ((nI_eq (by omega) (by omega)).mpr z)
          refine mv_iconst (v := nI 0) dX6_isWord_41 (by decide) ?_
          exact mv_iret dX6_isWord_42 rfl rfl ⟨(congrArg (fun z => some (Value.int z)) (by first | exact (mv_b_t (by omega)).symm | exact (mv_b_f (by omega)).symm)), rfl⟩
      · have c38 : ¬ (tx (k + 1) = 97) := fun z => c38 ((nI_eq (by omega) (by omega)).mpr z)
        refine mv_iconst (v := nI 0) dX6_isWord_41 (by decide) ?_
        exact mv_iret dX6_isWord_42 rfl rfl ⟨(congrArg (fun z => some (Value.int z)) (by first | exact (mv_b_t (by omega)).symm | exact (mv_b_f (by omega)).symm)), rfl⟩
    · have c38 : ¬ (tx (k + 0) = 114) := fun z => c38 ((nI_eq (by omega) (by omega)).mpr z)
      refine mv_iconst (v := nI 0) dX6_isWord_41 (by decide) ?_
      exact mv_iret dX6_isWord_42 rfl rfl ⟨(congrArg (fun z => some (Value.int z)) (by first | exact (mv_b_t (by omega)).symm | exact (mv_b_f (by omega)).symm)), rfl⟩
  · have c7 : ¬ (e - k = 4) := fun z => c7 ((nI_eq (by omega) (by omega)).mpr z)
    refine mv_iconst (v := nI 0) dX6_isWord_10 (by decide) ?_
    exact mv_iret dX6_isWord_11 rfl rfl ⟨(congrArg (fun z => some (Value.int z)) (by first | exact (mv_b_t (by omega)).symm | exact (mv_b_f (by omega)).symm)), rfl⟩
