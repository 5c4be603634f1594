def q_E (ev : mv_E) : Prop := ev.2.2 = .null ∨ ∃ x, ev.2.2 = .ref x
set_option maxRecDepth 100000 in
theorem k_J0_coder_0 {ev : mv_E} {h : mv_H}   : mv_K ev mJ0_coder_7d493 [.ref 1000020] h (some (.int (nI 0))) h := by
  refine mv_Kof ?_
  show mv_g ev mJ0_coder_7d493 0 [.ref 1000020] [] h _
  refine mv_gets (v := .int (nI 1)) dJ0_coder_7d493_0 (List.mem_of_getElem? (i := 3) rfl) wd_487 ?_
  refine mv_if_eq (tgt := 13) dJ0_coder_7d493_3 (by decide) (fun z => absurd z ((by decide))) (fun c3 => ?_)
  refine mv_aload_n dJ0_coder_7d493_6 rfl ?_
  refine mv_getc (i := 1000020) (b := 1000030) dJ0_coder_7d493_7 (List.mem_of_getElem? (i := 0) rfl) wd_1662 ?_
  refine mv_goto (tgt := 14) dJ0_coder_7d493_10 (by decide) ?_
  exact mv_iret dJ0_coder_7d493_14 rfl rfl ⟨rfl, rfl⟩
set_option maxRecDepth 100000 in
theorem k_J0_isLatin1_0 {ev : mv_E} {h : mv_H}   : mv_K ev mJ0_isLatin1_aae02 [.ref 1000020] h (some (.int (nI 1))) h := by
  refine mv_Kof ?_
  show mv_g ev mJ0_isLatin1_aae02 0 [.ref 1000020] [] h _
  refine mv_gets (v := .int (nI 1)) dJ0_isLatin1_aae02_0 (List.mem_of_getElem? (i := 3) rfl) wd_487 ?_
  refine mv_if_eq (tgt := 17) dJ0_isLatin1_aae02_3 (by decide) (fun z => absurd z ((by decide))) (fun c3 => ?_)
  refine mv_aload_n dJ0_isLatin1_aae02_6 rfl ?_
  refine mv_getc (i := 1000020) (b := 1000030) dJ0_isLatin1_aae02_7 (List.mem_of_getElem? (i := 0) rfl) wd_1662 ?_
  refine mv_if_ne (tgt := 17) dJ0_isLatin1_aae02_10 (by decide) (fun z => absurd ((by decide)) z) (fun c10 => ?_)
  refine mv_iconst (v := nI 1) dJ0_isLatin1_aae02_13 (by decide) ?_
  refine mv_goto (tgt := 18) dJ0_isLatin1_aae02_14 (by decide) ?_
  exact mv_iret dJ0_isLatin1_aae02_18 rfl rfl ⟨rfl, rfl⟩
set_option maxRecDepth 100000 in
theorem k_J0_length_0 {ev : mv_E} {h : mv_H}   : mv_K ev mJ0_length_8abf5 [.ref 1000020] h (some (.int (nI 2))) h := by
  refine mv_Kof ?_
  show mv_g ev mJ0_length_8abf5 0 [.ref 1000020] [] h _
  refine mv_aload_n dJ0_length_8abf5_0 rfl ?_
  refine mv_getv (i := 1000020) (b := 1000030) dJ0_length_8abf5_1 (List.mem_of_getElem? (i := 0) rfl) wd_1661 ?_
  refine mv_blen (a := 1000030) dJ0_length_8abf5_4 (List.mem_of_getElem? (i := 0) rfl) ?_
  refine mv_aload_n dJ0_length_8abf5_5 rfl ?_
  refine mv_cR0 dJ0_length_8abf5_6 lk_J0_length_8abf5_335 (List.mem_of_getElem? (i := 0) rfl) rfl (Nat.le_of_ble_eq_true rfl) (Nat.le_of_ble_eq_true rfl) (k_J0_coder_0 (ev := ev)) ?_
  refine mv_ishr dJ0_length_8abf5_9 ?_
  refine mv_topI (y := nI 2) (by decide) ?_
  exact mv_iret dJ0_length_8abf5_10 rfl rfl ⟨rfl, rfl⟩
set_option maxRecDepth 100000 in
theorem k_J3R_0_2 {ev : mv_E} {h : mv_H} {x : Nat}   : mv_K ev mJ3_checkIndex_8e157 [.int (nI 0), .int (nI 2), .ref x] h (some (.int (nI 0))) h := by
  refine mv_Kof ?_
  show mv_g ev mJ3_checkIndex_8e157 0 [.int (nI 0), .int (nI 2), .ref x] [] h _
  refine mv_iload_n dJ3_checkIndex_8e157_0 rfl ?_
  refine mv_if_lt (tgt := 9) dJ3_checkIndex_8e157_1 (by decide) (fun z => absurd z ((by decide))) (fun c1 => ?_)
  refine mv_iload_n dJ3_checkIndex_8e157_4 rfl ?_
  refine mv_iload_n dJ3_checkIndex_8e157_5 rfl ?_
  refine mv_icmp_lt (tgt := 16) dJ3_checkIndex_8e157_6 (by decide) (fun c6 => ?_) (fun z => absurd ((by decide)) z)
  refine mv_iload_n dJ3_checkIndex_8e157_16 rfl ?_
  exact mv_iret dJ3_checkIndex_8e157_17 rfl rfl ⟨rfl, rfl⟩
set_option maxRecDepth 100000 in
theorem k_J0ciR_0_2 {ev : mv_E} {h : mv_H} {x : Nat}  (hE : ev.2.2 = .ref x) : mv_K ev mJ0_checkIndex_df160 [.int (nI 0), .int (nI 2)] h (none) h := by
  refine mv_Kof ?_
  show mv_g ev mJ0_checkIndex_df160 0 [.int (nI 0), .int (nI 2)] [] h _
  refine mv_iload_n dJ0_checkIndex_df160_0 rfl ?_
  refine mv_iload_n dJ0_checkIndex_df160_1 rfl ?_
  refine mv_gets (v := ev.2.2) dJ0_checkIndex_df160_2 (List.mem_of_getElem? (i := 4) rfl) wd_503 ?_
  rw [hE]
  refine mv_cS3 dJ0_checkIndex_df160_5 lk_J0_checkIndex_df160_1059 (Nat.le_of_ble_eq_true rfl) (Nat.le_of_ble_eq_true rfl) (k_J3R_0_2 (ev := ev)) ?_
  refine mv_pop dJ0_checkIndex_df160_8 rfl ?_
  exact mv_vret dJ0_checkIndex_df160_9 rfl ⟨rfl, rfl⟩
set_option maxRecDepth 100000 in
theorem k_J3N_0_2 {ev : mv_E} {h : mv_H}   : mv_K ev mJ3_checkIndex_8e157 [.int (nI 0), .int (nI 2), .null] h (some (.int (nI 0))) h := by
  refine mv_Kof ?_
  show mv_g ev mJ3_checkIndex_8e157 0 [.int (nI 0), .int (nI 2), .null] [] h _
  refine mv_iload_n dJ3_checkIndex_8e157_0 rfl ?_
  refine mv_if_lt (tgt := 9) dJ3_checkIndex_8e157_1 (by decide) (fun z => absurd z ((by decide))) (fun c1 => ?_)
  refine mv_iload_n dJ3_checkIndex_8e157_4 rfl ?_
  refine mv_iload_n dJ3_checkIndex_8e157_5 rfl ?_
  refine mv_icmp_lt (tgt := 16) dJ3_checkIndex_8e157_6 (by decide) (fun c6 => ?_) (fun z => absurd ((by decide)) z)
  refine mv_iload_n dJ3_checkIndex_8e157_16 rfl ?_
  exact mv_iret dJ3_checkIndex_8e157_17 rfl rfl ⟨rfl, rfl⟩
set_option maxRecDepth 100000 in
theorem k_J0ciN_0_2 {ev : mv_E} {h : mv_H}  (hE : ev.2.2 = .null) : mv_K ev mJ0_checkIndex_df160 [.int (nI 0), .int (nI 2)] h (none) h := by
  refine mv_Kof ?_
  show mv_g ev mJ0_checkIndex_df160 0 [.int (nI 0), .int (nI 2)] [] h _
  refine mv_iload_n dJ0_checkIndex_df160_0 rfl ?_
  refine mv_iload_n dJ0_checkIndex_df160_1 rfl ?_
  refine mv_gets (v := ev.2.2) dJ0_checkIndex_df160_2 (List.mem_of_getElem? (i := 4) rfl) wd_503 ?_
  rw [hE]
  refine mv_cS3 dJ0_checkIndex_df160_5 lk_J0_checkIndex_df160_1059 (Nat.le_of_ble_eq_true rfl) (Nat.le_of_ble_eq_true rfl) (k_J3N_0_2 (ev := ev)) ?_
  refine mv_pop dJ0_checkIndex_df160_8 rfl ?_
  exact mv_vret dJ0_checkIndex_df160_9 rfl ⟨rfl, rfl⟩
theorem k_J0ci_0_2 {ev : mv_E} {h : mv_H} (hE : q_E ev) : mv_K ev mJ0_checkIndex_df160 [.int (nI 0), .int (nI 2)] h none h := by
  rcases hE with e | ⟨x, e⟩
  · exact k_J0ciN_0_2 e
  · exact k_J0ciR_0_2 e
set_option maxRecDepth 100000 in
theorem k_J1_0_0 {ev : mv_E} {h : mv_H}  (hE : q_E ev) : mv_K ev mJ1_charAt_3b067 [.ref 1000030, .int (nI 0)] h (some (.int (nI 116))) h := by
  refine mv_Kof ?_
  show mv_g ev mJ1_charAt_3b067 0 [.ref 1000030, .int (nI 0)] [] h _
  refine mv_iload_n dJ1_charAt_3b067_0 rfl ?_
  refine mv_aload_n dJ1_charAt_3b067_1 rfl ?_
  refine mv_blen (a := 1000030) dJ1_charAt_3b067_2 (List.mem_of_getElem? (i := 0) rfl) ?_
  refine mv_cS2 dJ1_charAt_3b067_3 lk_J1_charAt_3b067_9 (Nat.le_of_ble_eq_true rfl) (Nat.le_of_ble_eq_true rfl) (k_J0ci_0_2 (ev := ev) hE) ?_
  refine mv_aload_n dJ1_charAt_3b067_6 rfl ?_
  refine mv_iload_n dJ1_charAt_3b067_7 rfl ?_
  refine mv_bald (a := 1000030) dJ1_charAt_3b067_8 (List.mem_of_getElem? (i := 0) rfl) (vp_in_nI (by decide) (by decide)) ?_
  refine mv_sipush (v := nI 255) dJ1_charAt_3b067_9 (by decide) ?_
  refine mv_iand dJ1_charAt_3b067_12 ?_
  refine mv_topI (y := nI 116) (by decide) ?_
  refine mv_i2c dJ1_charAt_3b067_13 ?_
  refine mv_topI (y := nI 116) (by decide) ?_
  exact mv_iret dJ1_charAt_3b067_14 rfl rfl ⟨rfl, rfl⟩
set_option maxRecDepth 100000 in
theorem k_J0c_0_0 {ev : mv_E} {h : mv_H}  (hE : q_E ev) : mv_K ev mJ0_charAt_5068e [.ref 1000020, .int (nI 0)] h (some (.int (nI 116))) h := by
  refine mv_Kof ?_
  show mv_g ev mJ0_charAt_5068e 0 [.ref 1000020, .int (nI 0)] [] h _
  refine mv_aload_n dJ0_charAt_5068e_0 rfl ?_
  refine mv_cR0 dJ0_charAt_5068e_1 lk_J0_charAt_5068e_492 (List.mem_of_getElem? (i := 0) rfl) rfl (Nat.le_of_ble_eq_true rfl) (Nat.le_of_ble_eq_true rfl) (k_J0_isLatin1_0 (ev := ev)) ?_
  refine mv_if_eq (tgt := 16) dJ0_charAt_5068e_4 (by decide) (fun z => absurd z ((by decide))) (fun c4 => ?_)
  refine mv_aload_n dJ0_charAt_5068e_7 rfl ?_
  refine mv_getv (i := 1000020) (b := 1000030) dJ0_charAt_5068e_8 (List.mem_of_getElem? (i := 0) rfl) wd_1661 ?_
  refine mv_iload_n dJ0_charAt_5068e_11 rfl ?_
  refine mv_cS2 dJ0_charAt_5068e_12 lk_J0_charAt_5068e_495 (Nat.le_of_ble_eq_true rfl) (Nat.le_of_ble_eq_true rfl) (k_J1_0_0 (ev := ev) hE) ?_
  exact mv_iret dJ0_charAt_5068e_15 rfl rfl ⟨rfl, rfl⟩
set_option maxRecDepth 100000 in
theorem k_J3R_1_2 {ev : mv_E} {h : mv_H} {x : Nat}   : mv_K ev mJ3_checkIndex_8e157 [.int (nI 1), .int (nI 2), .ref x] h (some (.int (nI 1))) h := by
  refine mv_Kof ?_
  show mv_g ev mJ3_checkIndex_8e157 0 [.int (nI 1), .int (nI 2), .ref x] [] h _
  refine mv_iload_n dJ3_checkIndex_8e157_0 rfl ?_
  refine mv_if_lt (tgt := 9) dJ3_checkIndex_8e157_1 (by decide) (fun z => absurd z ((by decide))) (fun c1 => ?_)
  refine mv_iload_n dJ3_checkIndex_8e157_4 rfl ?_
  refine mv_iload_n dJ3_checkIndex_8e157_5 rfl ?_
  refine mv_icmp_lt (tgt := 16) dJ3_checkIndex_8e157_6 (by decide) (fun c6 => ?_) (fun z => absurd ((by decide)) z)
  refine mv_iload_n dJ3_checkIndex_8e157_16 rfl ?_
  exact mv_iret dJ3_checkIndex_8e157_17 rfl rfl ⟨rfl, rfl⟩
set_option maxRecDepth 100000 in
theorem k_J0ciR_1_2 {ev : mv_E} {h : mv_H} {x : Nat}  (hE : ev.2.2 = .ref x) : mv_K ev mJ0_checkIndex_df160 [.int (nI 1), .int (nI 2)] h (none) h := by
  refine mv_Kof ?_
  show mv_g ev mJ0_checkIndex_df160 0 [.int (nI 1), .int (nI 2)] [] h _
  refine mv_iload_n dJ0_checkIndex_df160_0 rfl ?_
  refine mv_iload_n dJ0_checkIndex_df160_1 rfl ?_
  refine mv_gets (v := ev.2.2) dJ0_checkIndex_df160_2 (List.mem_of_getElem? (i := 4) rfl) wd_503 ?_
  rw [hE]
  refine mv_cS3 dJ0_checkIndex_df160_5 lk_J0_checkIndex_df160_1059 (Nat.le_of_ble_eq_true rfl) (Nat.le_of_ble_eq_true rfl) (k_J3R_1_2 (ev := ev)) ?_
  refine mv_pop dJ0_checkIndex_df160_8 rfl ?_
  exact mv_vret dJ0_checkIndex_df160_9 rfl ⟨rfl, rfl⟩
set_option maxRecDepth 100000 in
theorem k_J3N_1_2 {ev : mv_E} {h : mv_H}   : mv_K ev mJ3_checkIndex_8e157 [.int (nI 1), .int (nI 2), .null] h (some (.int (nI 1))) h := by
  refine mv_Kof ?_
  show mv_g ev mJ3_checkIndex_8e157 0 [.int (nI 1), .int (nI 2), .null] [] h _
  refine mv_iload_n dJ3_checkIndex_8e157_0 rfl ?_
  refine mv_if_lt (tgt := 9) dJ3_checkIndex_8e157_1 (by decide) (fun z => absurd z ((by decide))) (fun c1 => ?_)
  refine mv_iload_n dJ3_checkIndex_8e157_4 rfl ?_
  refine mv_iload_n dJ3_checkIndex_8e157_5 rfl ?_
  refine mv_icmp_lt (tgt := 16) dJ3_checkIndex_8e157_6 (by decide) (fun c6 => ?_) (fun z => absurd ((by decide)) z)
  refine mv_iload_n dJ3_checkIndex_8e157_16 rfl ?_
  exact mv_iret dJ3_checkIndex_8e157_17 rfl rfl ⟨rfl, rfl⟩
set_option maxRecDepth 100000 in
theorem k_J0ciN_1_2 {ev : mv_E} {h : mv_H}  (hE : ev.2.2 = .null) : mv_K ev mJ0_checkIndex_df160 [.int (nI 1), .int (nI 2)] h (none) h := by
  refine mv_Kof ?_
  show mv_g ev mJ0_checkIndex_df160 0 [.int (nI 1), .int (nI 2)] [] h _
  refine mv_iload_n dJ0_checkIndex_df160_0 rfl ?_
  refine mv_iload_n dJ0_checkIndex_df160_1 rfl ?_
  refine mv_gets (v := ev.2.2) dJ0_checkIndex_df160_2 (List.mem_of_getElem? (i := 4) rfl) wd_503 ?_
  rw [hE]
  refine mv_cS3 dJ0_checkIndex_df160_5 lk_J0_checkIndex_df160_1059 (Nat.le_of_ble_eq_true rfl) (Nat.le_of_ble_eq_true rfl) (k_J3N_1_2 (ev := ev)) ?_
  refine mv_pop dJ0_checkIndex_df160_8 rfl ?_
  exact mv_vret dJ0_checkIndex_df160_9 rfl ⟨rfl, rfl⟩
theorem k_J0ci_1_2 {ev : mv_E} {h : mv_H} (hE : q_E ev) : mv_K ev mJ0_checkIndex_df160 [.int (nI 1), .int (nI 2)] h none h := by
  rcases hE with e | ⟨x, e⟩
  · exact k_J0ciN_1_2 e
  · exact k_J0ciR_1_2 e
set_option maxRecDepth 100000 in
theorem k_J1_0_1 {ev : mv_E} {h : mv_H}  (hE : q_E ev) : mv_K ev mJ1_charAt_3b067 [.ref 1000030, .int (nI 1)] h (some (.int (nI 111))) h := by
  refine mv_Kof ?_
  show mv_g ev mJ1_charAt_3b067 0 [.ref 1000030, .int (nI 1)] [] h _
  refine mv_iload_n dJ1_charAt_3b067_0 rfl ?_
  refine mv_aload_n dJ1_charAt_3b067_1 rfl ?_
  refine mv_blen (a := 1000030) dJ1_charAt_3b067_2 (List.mem_of_getElem? (i := 0) rfl) ?_
  refine mv_cS2 dJ1_charAt_3b067_3 lk_J1_charAt_3b067_9 (Nat.le_of_ble_eq_true rfl) (Nat.le_of_ble_eq_true rfl) (k_J0ci_1_2 (ev := ev) hE) ?_
  refine mv_aload_n dJ1_charAt_3b067_6 rfl ?_
  refine mv_iload_n dJ1_charAt_3b067_7 rfl ?_
  refine mv_bald (a := 1000030) dJ1_charAt_3b067_8 (List.mem_of_getElem? (i := 0) rfl) (vp_in_nI (by decide) (by decide)) ?_
  refine mv_sipush (v := nI 255) dJ1_charAt_3b067_9 (by decide) ?_
  refine mv_iand dJ1_charAt_3b067_12 ?_
  refine mv_topI (y := nI 111) (by decide) ?_
  refine mv_i2c dJ1_charAt_3b067_13 ?_
  refine mv_topI (y := nI 111) (by decide) ?_
  exact mv_iret dJ1_charAt_3b067_14 rfl rfl ⟨rfl, rfl⟩
set_option maxRecDepth 100000 in
theorem k_J0c_0_1 {ev : mv_E} {h : mv_H}  (hE : q_E ev) : mv_K ev mJ0_charAt_5068e [.ref 1000020, .int (nI 1)] h (some (.int (nI 111))) h := by
  refine mv_Kof ?_
  show mv_g ev mJ0_charAt_5068e 0 [.ref 1000020, .int (nI 1)] [] h _
  refine mv_aload_n dJ0_charAt_5068e_0 rfl ?_
  refine mv_cR0 dJ0_charAt_5068e_1 lk_J0_charAt_5068e_492 (List.mem_of_getElem? (i := 0) rfl) rfl (Nat.le_of_ble_eq_true rfl) (Nat.le_of_ble_eq_true rfl) (k_J0_isLatin1_0 (ev := ev)) ?_
  refine mv_if_eq (tgt := 16) dJ0_charAt_5068e_4 (by decide) (fun z => absurd z ((by decide))) (fun c4 => ?_)
  refine mv_aload_n dJ0_charAt_5068e_7 rfl ?_
  refine mv_getv (i := 1000020) (b := 1000030) dJ0_charAt_5068e_8 (List.mem_of_getElem? (i := 0) rfl) wd_1661 ?_
  refine mv_iload_n dJ0_charAt_5068e_11 rfl ?_
  refine mv_cS2 dJ0_charAt_5068e_12 lk_J0_charAt_5068e_495 (Nat.le_of_ble_eq_true rfl) (Nat.le_of_ble_eq_true rfl) (k_J1_0_1 (ev := ev) hE) ?_
  exact mv_iret dJ0_charAt_5068e_15 rfl rfl ⟨rfl, rfl⟩
set_option maxRecDepth 100000 in
theorem k_J0_coder_1 {ev : mv_E} {h : mv_H}   : mv_K ev mJ0_coder_7d493 [.ref 1000021] h (some (.int (nI 0))) h := by
  refine mv_Kof ?_
  show mv_g ev mJ0_coder_7d493 0 [.ref 1000021] [] h _
  refine mv_gets (v := .int (nI 1)) dJ0_coder_7d493_0 (List.mem_of_getElem? (i := 3) rfl) wd_487 ?_
  refine mv_if_eq (tgt := 13) dJ0_coder_7d493_3 (by decide) (fun z => absurd z ((by decide))) (fun c3 => ?_)
  refine mv_aload_n dJ0_coder_7d493_6 rfl ?_
  refine mv_getc (i := 1000021) (b := 1000031) dJ0_coder_7d493_7 (List.mem_of_getElem? (i := 1) rfl) wd_1662 ?_
  refine mv_goto (tgt := 14) dJ0_coder_7d493_10 (by decide) ?_
  exact mv_iret dJ0_coder_7d493_14 rfl rfl ⟨rfl, rfl⟩
set_option maxRecDepth 100000 in
theorem k_J0_isLatin1_1 {ev : mv_E} {h : mv_H}   : mv_K ev mJ0_isLatin1_aae02 [.ref 1000021] h (some (.int (nI 1))) h := by
  refine mv_Kof ?_
  show mv_g ev mJ0_isLatin1_aae02 0 [.ref 1000021] [] h _
  refine mv_gets (v := .int (nI 1)) dJ0_isLatin1_aae02_0 (List.mem_of_getElem? (i := 3) rfl) wd_487 ?_
  refine mv_if_eq (tgt := 17) dJ0_isLatin1_aae02_3 (by decide) (fun z => absurd z ((by decide))) (fun c3 => ?_)
  refine mv_aload_n dJ0_isLatin1_aae02_6 rfl ?_
  refine mv_getc (i := 1000021) (b := 1000031) dJ0_isLatin1_aae02_7 (List.mem_of_getElem? (i := 1) rfl) wd_1662 ?_
  refine mv_if_ne (tgt := 17) dJ0_isLatin1_aae02_10 (by decide) (fun z => absurd ((by decide)) z) (fun c10 => ?_)
  refine mv_iconst (v := nI 1) dJ0_isLatin1_aae02_13 (by decide) ?_
  refine mv_goto (tgt := 18) dJ0_isLatin1_aae02_14 (by decide) ?_
  exact mv_iret dJ0_isLatin1_aae02_18 rfl rfl ⟨rfl, rfl⟩
set_option maxRecDepth 100000 in
theorem k_J0_length_1 {ev : mv_E} {h : mv_H}   : mv_K ev mJ0_length_8abf5 [.ref 1000021] h (some (.int (nI 4))) h := by
  refine mv_Kof ?_
  show mv_g ev mJ0_length_8abf5 0 [.ref 1000021] [] h _
  refine mv_aload_n dJ0_length_8abf5_0 rfl ?_
  refine mv_getv (i := 1000021) (b := 1000031) dJ0_length_8abf5_1 (List.mem_of_getElem? (i := 1) rfl) wd_1661 ?_
  refine mv_blen (a := 1000031) dJ0_length_8abf5_4 (List.mem_of_getElem? (i := 1) rfl) ?_
  refine mv_aload_n dJ0_length_8abf5_5 rfl ?_
  refine mv_cR0 dJ0_length_8abf5_6 lk_J0_length_8abf5_335 (List.mem_of_getElem? (i := 1) rfl) rfl (Nat.le_of_ble_eq_true rfl) (Nat.le_of_ble_eq_true rfl) (k_J0_coder_1 (ev := ev)) ?_
  refine mv_ishr dJ0_length_8abf5_9 ?_
  refine mv_topI (y := nI 4) (by decide) ?_
  exact mv_iret dJ0_length_8abf5_10 rfl rfl ⟨rfl, rfl⟩
set_option maxRecDepth 100000 in
theorem k_J3R_0_4 {ev : mv_E} {h : mv_H} {x : Nat}   : mv_K ev mJ3_checkIndex_8e157 [.int (nI 0), .int (nI 4), .ref x] h (some (.int (nI 0))) h := by
  refine mv_Kof ?_
  show mv_g ev mJ3_checkIndex_8e157 0 [.int (nI 0), .int (nI 4), .ref x] [] h _
  refine mv_iload_n dJ3_checkIndex_8e157_0 rfl ?_
  refine mv_if_lt (tgt := 9) dJ3_checkIndex_8e157_1 (by decide) (fun z => absurd z ((by decide))) (fun c1 => ?_)
  refine mv_iload_n dJ3_checkIndex_8e157_4 rfl ?_
  refine mv_iload_n dJ3_checkIndex_8e157_5 rfl ?_
  refine mv_icmp_lt (tgt := 16) dJ3_checkIndex_8e157_6 (by decide) (fun c6 => ?_) (fun z => absurd ((by decide)) z)
  refine mv_iload_n dJ3_checkIndex_8e157_16 rfl ?_
  exact mv_iret dJ3_checkIndex_8e157_17 rfl rfl ⟨rfl, rfl⟩
set_option maxRecDepth 100000 in
theorem k_J0ciR_0_4 {ev : mv_E} {h : mv_H} {x : Nat}  (hE : ev.2.2 = .ref x) : mv_K ev mJ0_checkIndex_df160 [.int (nI 0), .int (nI 4)] h (none) h := by
  refine mv_Kof ?_
  show mv_g ev mJ0_checkIndex_df160 0 [.int (nI 0), .int (nI 4)] [] h _
  refine mv_iload_n dJ0_checkIndex_df160_0 rfl ?_
  refine mv_iload_n dJ0_checkIndex_df160_1 rfl ?_
  refine mv_gets (v := ev.2.2) dJ0_checkIndex_df160_2 (List.mem_of_getElem? (i := 4) rfl) wd_503 ?_
  rw [hE]
  refine mv_cS3 dJ0_checkIndex_df160_5 lk_J0_checkIndex_df160_1059 (Nat.le_of_ble_eq_true rfl) (Nat.le_of_ble_eq_true rfl) (k_J3R_0_4 (ev := ev)) ?_
  refine mv_pop dJ0_checkIndex_df160_8 rfl ?_
  exact mv_vret dJ0_checkIndex_df160_9 rfl ⟨rfl, rfl⟩
set_option maxRecDepth 100000 in
theorem k_J3N_0_4 {ev : mv_E} {h : mv_H}   : mv_K ev mJ3_checkIndex_8e157 [.int (nI 0), .int (nI 4), .null] h (some (.int (nI 0))) h := by
  refine mv_Kof ?_
  show mv_g ev mJ3_checkIndex_8e157 0 [.int (nI 0), .int (nI 4), .null] [] h _
  refine mv_iload_n dJ3_checkIndex_8e157_0 rfl ?_
  refine mv_if_lt (tgt := 9) dJ3_checkIndex_8e157_1 (by decide) (fun z => absurd z ((by decide))) (fun c1 => ?_)
  refine mv_iload_n dJ3_checkIndex_8e157_4 rfl ?_
  refine mv_iload_n dJ3_checkIndex_8e157_5 rfl ?_
  refine mv_icmp_lt (tgt := 16) dJ3_checkIndex_8e157_6 (by decide) (fun c6 => ?_) (fun z => absurd ((by decide)) z)
  refine mv_iload_n dJ3_checkIndex_8e157_16 rfl ?_
  exact mv_iret dJ3_checkIndex_8e157_17 rfl rfl ⟨rfl, rfl⟩
set_option maxRecDepth 100000 in
theorem k_J0ciN_0_4 {ev : mv_E} {h : mv_H}  (hE : ev.2.2 = .null) : mv_K ev mJ0_checkIndex_df160 [.int (nI 0), .int (nI 4)] h (none) h := by
  refine mv_Kof ?_
  show mv_g ev mJ0_checkIndex_df160 0 [.int (nI 0), .int (nI 4)] [] h _
  refine mv_iload_n dJ0_checkIndex_df160_0 rfl ?_
  refine mv_iload_n dJ0_checkIndex_df160_1 rfl ?_
  refine mv_gets (v := ev.2.2) dJ0_checkIndex_df160_2 (List.mem_of_getElem? (i := 4) rfl) wd_503 ?_
  rw [hE]
  refine mv_cS3 dJ0_checkIndex_df160_5 lk_J0_checkIndex_df160_1059 (Nat.le_of_ble_eq_true rfl) (Nat.le_of_ble_eq_true rfl) (k_J3N_0_4 (ev := ev)) ?_
  refine mv_pop dJ0_checkIndex_df160_8 rfl ?_
  exact mv_vret dJ0_checkIndex_df160_9 rfl ⟨rfl, rfl⟩
theorem k_J0ci_0_4 {ev : mv_E} {h : mv_H} (hE : q_E ev) : mv_K ev mJ0_checkIndex_df160 [.int (nI 0), .int (nI 4)] h none h := by
  rcases hE with e | ⟨x, e⟩
  · exact k_J0ciN_0_4 e
  · exact k_J0ciR_0_4 e
set_option maxRecDepth 100000 in
theorem k_J1_1_0 {ev : mv_E} {h : mv_H}  (hE : q_E ev) : mv_K ev mJ1_charAt_3b067 [.ref 1000031, .int (nI 0)] h (some (.int (nI 114))) h := by
  refine mv_Kof ?_
  show mv_g ev mJ1_charAt_3b067 0 [.ref 1000031, .int (nI 0)] [] h _
  refine mv_iload_n dJ1_charAt_3b067_0 rfl ?_
  refine mv_aload_n dJ1_charAt_3b067_1 rfl ?_
  refine mv_blen (a := 1000031) dJ1_charAt_3b067_2 (List.mem_of_getElem? (i := 1) rfl) ?_
  refine mv_cS2 dJ1_charAt_3b067_3 lk_J1_charAt_3b067_9 (Nat.le_of_ble_eq_true rfl) (Nat.le_of_ble_eq_true rfl) (k_J0ci_0_4 (ev := ev) hE) ?_
  refine mv_aload_n dJ1_charAt_3b067_6 rfl ?_
  refine mv_iload_n dJ1_charAt_3b067_7 rfl ?_
  refine mv_bald (a := 1000031) dJ1_charAt_3b067_8 (List.mem_of_getElem? (i := 1) rfl) (vp_in_nI (by decide) (by decide)) ?_
  refine mv_sipush (v := nI 255) dJ1_charAt_3b067_9 (by decide) ?_
  refine mv_iand dJ1_charAt_3b067_12 ?_
  refine mv_topI (y := nI 114) (by decide) ?_
  refine mv_i2c dJ1_charAt_3b067_13 ?_
  refine mv_topI (y := nI 114) (by decide) ?_
  exact mv_iret dJ1_charAt_3b067_14 rfl rfl ⟨rfl, rfl⟩
set_option maxRecDepth 100000 in
theorem k_J0c_1_0 {ev : mv_E} {h : mv_H}  (hE : q_E ev) : mv_K ev mJ0_charAt_5068e [.ref 1000021, .int (nI 0)] h (some (.int (nI 114))) h := by
  refine mv_Kof ?_
  show mv_g ev mJ0_charAt_5068e 0 [.ref 1000021, .int (nI 0)] [] h _
  refine mv_aload_n dJ0_charAt_5068e_0 rfl ?_
  refine mv_cR0 dJ0_charAt_5068e_1 lk_J0_charAt_5068e_492 (List.mem_of_getElem? (i := 1) rfl) rfl (Nat.le_of_ble_eq_true rfl) (Nat.le_of_ble_eq_true rfl) (k_J0_isLatin1_1 (ev := ev)) ?_
  refine mv_if_eq (tgt := 16) dJ0_charAt_5068e_4 (by decide) (fun z => absurd z ((by decide))) (fun c4 => ?_)
  refine mv_aload_n dJ0_charAt_5068e_7 rfl ?_
  refine mv_getv (i := 1000021) (b := 1000031) dJ0_charAt_5068e_8 (List.mem_of_getElem? (i := 1) rfl) wd_1661 ?_
  refine mv_iload_n dJ0_charAt_5068e_11 rfl ?_
  refine mv_cS2 dJ0_charAt_5068e_12 lk_J0_charAt_5068e_495 (Nat.le_of_ble_eq_true rfl) (Nat.le_of_ble_eq_true rfl) (k_J1_1_0 (ev := ev) hE) ?_
  exact mv_iret dJ0_charAt_5068e_15 rfl rfl ⟨rfl, rfl⟩
set_option maxRecDepth 100000 in
theorem k_J3R_1_4 {ev : mv_E} {h : mv_H} {x : Nat}   : mv_K ev mJ3_checkIndex_8e157 [.int (nI 1), .int (nI 4), .ref x] h (some (.int (nI 1))) h := by
  refine mv_Kof ?_
  show mv_g ev mJ3_checkIndex_8e157 0 [.int (nI 1), .int (nI 4), .ref x] [] h _
  refine mv_iload_n dJ3_checkIndex_8e157_0 rfl ?_
  refine mv_if_lt (tgt := 9) dJ3_checkIndex_8e157_1 (by decide) (fun z => absurd z ((by decide))) (fun c1 => ?_)
  refine mv_iload_n dJ3_checkIndex_8e157_4 rfl ?_
  refine mv_iload_n dJ3_checkIndex_8e157_5 rfl ?_
  refine mv_icmp_lt (tgt := 16) dJ3_checkIndex_8e157_6 (by decide) (fun c6 => ?_) (fun z => absurd ((by decide)) z)
  refine mv_iload_n dJ3_checkIndex_8e157_16 rfl ?_
  exact mv_iret dJ3_checkIndex_8e157_17 rfl rfl ⟨rfl, rfl⟩
set_option maxRecDepth 100000 in
theorem k_J0ciR_1_4 {ev : mv_E} {h : mv_H} {x : Nat}  (hE : ev.2.2 = .ref x) : mv_K ev mJ0_checkIndex_df160 [.int (nI 1), .int (nI 4)] h (none) h := by
  refine mv_Kof ?_
  show mv_g ev mJ0_checkIndex_df160 0 [.int (nI 1), .int (nI 4)] [] h _
  refine mv_iload_n dJ0_checkIndex_df160_0 rfl ?_
  refine mv_iload_n dJ0_checkIndex_df160_1 rfl ?_
  refine mv_gets (v := ev.2.2) dJ0_checkIndex_df160_2 (List.mem_of_getElem? (i := 4) rfl) wd_503 ?_
  rw [hE]
  refine mv_cS3 dJ0_checkIndex_df160_5 lk_J0_checkIndex_df160_1059 (Nat.le_of_ble_eq_true rfl) (Nat.le_of_ble_eq_true rfl) (k_J3R_1_4 (ev := ev)) ?_
  refine mv_pop dJ0_checkIndex_df160_8 rfl ?_
  exact mv_vret dJ0_checkIndex_df160_9 rfl ⟨rfl, rfl⟩
set_option maxRecDepth 100000 in
theorem k_J3N_1_4 {ev : mv_E} {h : mv_H}   : mv_K ev mJ3_checkIndex_8e157 [.int (nI 1), .int (nI 4), .null] h (some (.int (nI 1))) h := by
  refine mv_Kof ?_
  show mv_g ev mJ3_checkIndex_8e157 0 [.int (nI 1), .int (nI 4), .null] [] h _
  refine mv_iload_n dJ3_checkIndex_8e157_0 rfl ?_
  refine mv_if_lt (tgt := 9) dJ3_checkIndex_8e157_1 (by decide) (fun z => absurd z ((by decide))) (fun c1 => ?_)
  refine mv_iload_n dJ3_checkIndex_8e157_4 rfl ?_
  refine mv_iload_n dJ3_checkIndex_8e157_5 rfl ?_
  refine mv_icmp_lt (tgt := 16) dJ3_checkIndex_8e157_6 (by decide) (fun c6 => ?_) (fun z => absurd ((by decide)) z)
  refine mv_iload_n dJ3_checkIndex_8e157_16 rfl ?_
  exact mv_iret dJ3_checkIndex_8e157_17 rfl rfl ⟨rfl, rfl⟩
set_option maxRecDepth 100000 in
theorem k_J0ciN_1_4 {ev : mv_E} {h : mv_H}  (hE : ev.2.2 = .null) : mv_K ev mJ0_checkIndex_df160 [.int (nI 1), .int (nI 4)] h (none) h := by
  refine mv_Kof ?_
  show mv_g ev mJ0_checkIndex_df160 0 [.int (nI 1), .int (nI 4)] [] h _
  refine mv_iload_n dJ0_checkIndex_df160_0 rfl ?_
  refine mv_iload_n dJ0_checkIndex_df160_1 rfl ?_
  refine mv_gets (v := ev.2.2) dJ0_checkIndex_df160_2 (List.mem_of_getElem? (i := 4) rfl) wd_503 ?_
  rw [hE]
  refine mv_cS3 dJ0_checkIndex_df160_5 lk_J0_checkIndex_df160_1059 (Nat.le_of_ble_eq_true rfl) (Nat.le_of_ble_eq_true rfl) (k_J3N_1_4 (ev := ev)) ?_
  refine mv_pop dJ0_checkIndex_df160_8 rfl ?_
  exact mv_vret dJ0_checkIndex_df160_9 rfl ⟨rfl, rfl⟩
theorem k_J0ci_1_4 {ev : mv_E} {h : mv_H} (hE : q_E ev) : mv_K ev mJ0_checkIndex_df160 [.int (nI 1), .int (nI 4)] h none h := by
  rcases hE with e | ⟨x, e⟩
  · exact k_J0ciN_1_4 e
  · exact k_J0ciR_1_4 e
set_option maxRecDepth 100000 in
theorem k_J1_1_1 {ev : mv_E} {h : mv_H}  (hE : q_E ev) : mv_K ev mJ1_charAt_3b067 [.ref 1000031, .int (nI 1)] h (some (.int (nI 97))) h := by
  refine mv_Kof ?_
  show mv_g ev mJ1_charAt_3b067 0 [.ref 1000031, .int (nI 1)] [] h _
  refine mv_iload_n dJ1_charAt_3b067_0 rfl ?_
  refine mv_aload_n dJ1_charAt_3b067_1 rfl ?_
  refine mv_blen (a := 1000031) dJ1_charAt_3b067_2 (List.mem_of_getElem? (i := 1) rfl) ?_
  refine mv_cS2 dJ1_charAt_3b067_3 lk_J1_charAt_3b067_9 (Nat.le_of_ble_eq_true rfl) (Nat.le_of_ble_eq_true rfl) (k_J0ci_1_4 (ev := ev) hE) ?_
  refine mv_aload_n dJ1_charAt_3b067_6 rfl ?_
  refine mv_iload_n dJ1_charAt_3b067_7 rfl ?_
  refine mv_bald (a := 1000031) dJ1_charAt_3b067_8 (List.mem_of_getElem? (i := 1) rfl) (vp_in_nI (by decide) (by decide)) ?_
  refine mv_sipush (v := nI 255) dJ1_charAt_3b067_9 (by decide) ?_
  refine mv_iand dJ1_charAt_3b067_12 ?_
  refine mv_topI (y := nI 97) (by decide) ?_
  refine mv_i2c dJ1_charAt_3b067_13 ?_
  refine mv_topI (y := nI 97) (by decide) ?_
  exact mv_iret dJ1_charAt_3b067_14 rfl rfl ⟨rfl, rfl⟩
set_option maxRecDepth 100000 in
theorem k_J0c_1_1 {ev : mv_E} {h : mv_H}  (hE : q_E ev) : mv_K ev mJ0_charAt_5068e [.ref 1000021, .int (nI 1)] h (some (.int (nI 97))) h := by
  refine mv_Kof ?_
  show mv_g ev mJ0_charAt_5068e 0 [.ref 1000021, .int (nI 1)] [] h _
  refine mv_aload_n dJ0_charAt_5068e_0 rfl ?_
  refine mv_cR0 dJ0_charAt_5068e_1 lk_J0_charAt_5068e_492 (List.mem_of_getElem? (i := 1) rfl) rfl (Nat.le_of_ble_eq_true rfl) (Nat.le_of_ble_eq_true rfl) (k_J0_isLatin1_1 (ev := ev)) ?_
  refine mv_if_eq (tgt := 16) dJ0_charAt_5068e_4 (by decide) (fun z => absurd z ((by decide))) (fun c4 => ?_)
  refine mv_aload_n dJ0_charAt_5068e_7 rfl ?_
  refine mv_getv (i := 1000021) (b := 1000031) dJ0_charAt_5068e_8 (List.mem_of_getElem? (i := 1) rfl) wd_1661 ?_
  refine mv_iload_n dJ0_charAt_5068e_11 rfl ?_
  refine mv_cS2 dJ0_charAt_5068e_12 lk_J0_charAt_5068e_495 (Nat.le_of_ble_eq_true rfl) (Nat.le_of_ble_eq_true rfl) (k_J1_1_1 (ev := ev) hE) ?_
  exact mv_iret dJ0_charAt_5068e_15 rfl rfl ⟨rfl, rfl⟩
set_option maxRecDepth 100000 in
theorem k_J3R_2_4 {ev : mv_E} {h : mv_H} {x : Nat}   : mv_K ev mJ3_checkIndex_8e157 [.int (nI 2), .int (nI 4), .ref x] h (some (.int (nI 2))) h := by
  refine mv_Kof ?_
  show mv_g ev mJ3_checkIndex_8e157 0 [.int (nI 2), .int (nI 4), .ref x] [] h _
  refine mv_iload_n dJ3_checkIndex_8e157_0 rfl ?_
  refine mv_if_lt (tgt := 9) dJ3_checkIndex_8e157_1 (by decide) (fun z => absurd z ((by decide))) (fun c1 => ?_)
  refine mv_iload_n dJ3_checkIndex_8e157_4 rfl ?_
  refine mv_iload_n dJ3_checkIndex_8e157_5 rfl ?_
  refine mv_icmp_lt (tgt := 16) dJ3_checkIndex_8e157_6 (by decide) (fun c6 => ?_) (fun z => absurd ((by decide)) z)
  refine mv_iload_n dJ3_checkIndex_8e157_16 rfl ?_
  exact mv_iret dJ3_checkIndex_8e157_17 rfl rfl ⟨rfl, rfl⟩
set_option maxRecDepth 100000 in
theorem k_J0ciR_2_4 {ev : mv_E} {h : mv_H} {x : Nat}  (hE : ev.2.2 = .ref x) : mv_K ev mJ0_checkIndex_df160 [.int (nI 2), .int (nI 4)] h (none) h := by
  refine mv_Kof ?_
  show mv_g ev mJ0_checkIndex_df160 0 [.int (nI 2), .int (nI 4)] [] h _
  refine mv_iload_n dJ0_checkIndex_df160_0 rfl ?_
  refine mv_iload_n dJ0_checkIndex_df160_1 rfl ?_
  refine mv_gets (v := ev.2.2) dJ0_checkIndex_df160_2 (List.mem_of_getElem? (i := 4) rfl) wd_503 ?_
  rw [hE]
  refine mv_cS3 dJ0_checkIndex_df160_5 lk_J0_checkIndex_df160_1059 (Nat.le_of_ble_eq_true rfl) (Nat.le_of_ble_eq_true rfl) (k_J3R_2_4 (ev := ev)) ?_
  refine mv_pop dJ0_checkIndex_df160_8 rfl ?_
  exact mv_vret dJ0_checkIndex_df160_9 rfl ⟨rfl, rfl⟩
set_option maxRecDepth 100000 in
theorem k_J3N_2_4 {ev : mv_E} {h : mv_H}   : mv_K ev mJ3_checkIndex_8e157 [.int (nI 2), .int (nI 4), .null] h (some (.int (nI 2))) h := by
  refine mv_Kof ?_
  show mv_g ev mJ3_checkIndex_8e157 0 [.int (nI 2), .int (nI 4), .null] [] h _
  refine mv_iload_n dJ3_checkIndex_8e157_0 rfl ?_
  refine mv_if_lt (tgt := 9) dJ3_checkIndex_8e157_1 (by decide) (fun z => absurd z ((by decide))) (fun c1 => ?_)
  refine mv_iload_n dJ3_checkIndex_8e157_4 rfl ?_
  refine mv_iload_n dJ3_checkIndex_8e157_5 rfl ?_
  refine mv_icmp_lt (tgt := 16) dJ3_checkIndex_8e157_6 (by decide) (fun c6 => ?_) (fun z => absurd ((by decide)) z)
  refine mv_iload_n dJ3_checkIndex_8e157_16 rfl ?_
  exact mv_iret dJ3_checkIndex_8e157_17 rfl rfl ⟨rfl, rfl⟩
set_option maxRecDepth 100000 in
theorem k_J0ciN_2_4 {ev : mv_E} {h : mv_H}  (hE : ev.2.2 = .null) : mv_K ev mJ0_checkIndex_df160 [.int (nI 2), .int (nI 4)] h (none) h := by
  refine mv_Kof ?_
  show mv_g ev mJ0_checkIndex_df160 0 [.int (nI 2), .int (nI 4)] [] h _
  refine mv_iload_n dJ0_checkIndex_df160_0 rfl ?_
  refine mv_iload_n dJ0_checkIndex_df160_1 rfl ?_
  refine mv_gets (v := ev.2.2) dJ0_checkIndex_df160_2 (List.mem_of_getElem? (i := 4) rfl) wd_503 ?_
  rw [hE]
  refine mv_cS3 dJ0_checkIndex_df160_5 lk_J0_checkIndex_df160_1059 (Nat.le_of_ble_eq_true rfl) (Nat.le_of_ble_eq_true rfl) (k_J3N_2_4 (ev := ev)) ?_
  refine mv_pop dJ0_checkIndex_df160_8 rfl ?_
  exact mv_vret dJ0_checkIndex_df160_9 rfl ⟨rfl, rfl⟩
theorem k_J0ci_2_4 {ev : mv_E} {h : mv_H} (hE : q_E ev) : mv_K ev mJ0_checkIndex_df160 [.int (nI 2), .int (nI 4)] h none h := by
  rcases hE with e | ⟨x, e⟩
  · exact k_J0ciN_2_4 e
  · exact k_J0ciR_2_4 e
set_option maxRecDepth 100000 in
theorem k_J1_1_2 {ev : mv_E} {h : mv_H}  (hE : q_E ev) : mv_K ev mJ1_charAt_3b067 [.ref 1000031, .int (nI 2)] h (some (.int (nI 116))) h := by
  refine mv_Kof ?_
  show mv_g ev mJ1_charAt_3b067 0 [.ref 1000031, .int (nI 2)] [] h _
  refine mv_iload_n dJ1_charAt_3b067_0 rfl ?_
  refine mv_aload_n dJ1_charAt_3b067_1 rfl ?_
  refine mv_blen (a := 1000031) dJ1_charAt_3b067_2 (List.mem_of_getElem? (i := 1) rfl) ?_
  refine mv_cS2 dJ1_charAt_3b067_3 lk_J1_charAt_3b067_9 (Nat.le_of_ble_eq_true rfl) (Nat.le_of_ble_eq_true rfl) (k_J0ci_2_4 (ev := ev) hE) ?_
  refine mv_aload_n dJ1_charAt_3b067_6 rfl ?_
  refine mv_iload_n dJ1_charAt_3b067_7 rfl ?_
  refine mv_bald (a := 1000031) dJ1_charAt_3b067_8 (List.mem_of_getElem? (i := 1) rfl) (vp_in_nI (by decide) (by decide)) ?_
  refine mv_sipush (v := nI 255) dJ1_charAt_3b067_9 (by decide) ?_
  refine mv_iand dJ1_charAt_3b067_12 ?_
  refine mv_topI (y := nI 116) (by decide) ?_
  refine mv_i2c dJ1_charAt_3b067_13 ?_
  refine mv_topI (y := nI 116) (by decide) ?_
  exact mv_iret dJ1_charAt_3b067_14 rfl rfl ⟨rfl, rfl⟩
set_option maxRecDepth 100000 in
theorem k_J0c_1_2 {ev : mv_E} {h : mv_H}  (hE : q_E ev) : mv_K ev mJ0_charAt_5068e [.ref 1000021, .int (nI 2)] h (some (.int (nI 116))) h := by
  refine mv_Kof ?_
  show mv_g ev mJ0_charAt_5068e 0 [.ref 1000021, .int (nI 2)] [] h _
  refine mv_aload_n dJ0_charAt_5068e_0 rfl ?_
  refine mv_cR0 dJ0_charAt_5068e_1 lk_J0_charAt_5068e_492 (List.mem_of_getElem? (i := 1) rfl) rfl (Nat.le_of_ble_eq_true rfl) (Nat.le_of_ble_eq_true rfl) (k_J0_isLatin1_1 (ev := ev)) ?_
  refine mv_if_eq (tgt := 16) dJ0_charAt_5068e_4 (by decide) (fun z => absurd z ((by decide))) (fun c4 => ?_)
  refine mv_aload_n dJ0_charAt_5068e_7 rfl ?_
  refine mv_getv (i := 1000021) (b := 1000031) dJ0_charAt_5068e_8 (List.mem_of_getElem? (i := 1) rfl) wd_1661 ?_
  refine mv_iload_n dJ0_charAt_5068e_11 rfl ?_
  refine mv_cS2 dJ0_charAt_5068e_12 lk_J0_charAt_5068e_495 (Nat.le_of_ble_eq_true rfl) (Nat.le_of_ble_eq_true rfl) (k_J1_1_2 (ev := ev) hE) ?_
  exact mv_iret dJ0_charAt_5068e_15 rfl rfl ⟨rfl, rfl⟩
set_option maxRecDepth 100000 in
theorem k_J3R_3_4 {ev : mv_E} {h : mv_H} {x : Nat}   : mv_K ev mJ3_checkIndex_8e157 [.int (nI 3), .int (nI 4), .ref x] h (some (.int (nI 3))) h := by
  refine mv_Kof ?_
  show mv_g ev mJ3_checkIndex_8e157 0 [.int (nI 3), .int (nI 4), .ref x] [] h _
  refine mv_iload_n dJ3_checkIndex_8e157_0 rfl ?_
  refine mv_if_lt (tgt := 9) dJ3_checkIndex_8e157_1 (by decide) (fun z => absurd z ((by decide))) (fun c1 => ?_)
  refine mv_iload_n dJ3_checkIndex_8e157_4 rfl ?_
  refine mv_iload_n dJ3_checkIndex_8e157_5 rfl ?_
  refine mv_icmp_lt (tgt := 16) dJ3_checkIndex_8e157_6 (by decide) (fun c6 => ?_) (fun z => absurd ((by decide)) z)
  refine mv_iload_n dJ3_checkIndex_8e157_16 rfl ?_
  exact mv_iret dJ3_checkIndex_8e157_17 rfl rfl ⟨rfl, rfl⟩
set_option maxRecDepth 100000 in
theorem k_J0ciR_3_4 {ev : mv_E} {h : mv_H} {x : Nat}  (hE : ev.2.2 = .ref x) : mv_K ev mJ0_checkIndex_df160 [.int (nI 3), .int (nI 4)] h (none) h := by
  refine mv_Kof ?_
  show mv_g ev mJ0_checkIndex_df160 0 [.int (nI 3), .int (nI 4)] [] h _
  refine mv_iload_n dJ0_checkIndex_df160_0 rfl ?_
  refine mv_iload_n dJ0_checkIndex_df160_1 rfl ?_
  refine mv_gets (v := ev.2.2) dJ0_checkIndex_df160_2 (List.mem_of_getElem? (i := 4) rfl) wd_503 ?_
  rw [hE]
  refine mv_cS3 dJ0_checkIndex_df160_5 lk_J0_checkIndex_df160_1059 (Nat.le_of_ble_eq_true rfl) (Nat.le_of_ble_eq_true rfl) (k_J3R_3_4 (ev := ev)) ?_
  refine mv_pop dJ0_checkIndex_df160_8 rfl ?_
  exact mv_vret dJ0_checkIndex_df160_9 rfl ⟨rfl, rfl⟩
set_option maxRecDepth 100000 in
theorem k_J3N_3_4 {ev : mv_E} {h : mv_H}   : mv_K ev mJ3_checkIndex_8e157 [.int (nI 3), .int (nI 4), .null] h (some (.int (nI 3))) h := by
  refine mv_Kof ?_
  show mv_g ev mJ3_checkIndex_8e157 0 [.int (nI 3), .int (nI 4), .null] [] h _
  refine mv_iload_n dJ3_checkIndex_8e157_0 rfl ?_
  refine mv_if_lt (tgt := 9) dJ3_checkIndex_8e157_1 (by decide) (fun z => absurd z ((by decide))) (fun c1 => ?_)
  refine mv_iload_n dJ3_checkIndex_8e157_4 rfl ?_
  refine mv_iload_n dJ3_checkIndex_8e157_5 rfl ?_
  refine mv_icmp_lt (tgt := 16) dJ3_checkIndex_8e157_6 (by decide) (fun c6 => ?_) (fun z => absurd ((by decide)) z)
  refine mv_iload_n dJ3_checkIndex_8e157_16 rfl ?_
  exact mv_iret dJ3_checkIndex_8e157_17 rfl rfl ⟨rfl, rfl⟩
set_option maxRecDepth 100000 in
theorem k_J0ciN_3_4 {ev : mv_E} {h : mv_H}  (hE : ev.2.2 = .null) : mv_K ev mJ0_checkIndex_df160 [.int (nI 3), .int (nI 4)] h (none) h := by
  refine mv_Kof ?_
  show mv_g ev mJ0_checkIndex_df160 0 [.int (nI 3), .int (nI 4)] [] h _
  refine mv_iload_n dJ0_checkIndex_df160_0 rfl ?_
  refine mv_iload_n dJ0_checkIndex_df160_1 rfl ?_
  refine mv_gets (v := ev.2.2) dJ0_checkIndex_df160_2 (List.mem_of_getElem? (i := 4) rfl) wd_503 ?_
  rw [hE]
  refine mv_cS3 dJ0_checkIndex_df160_5 lk_J0_checkIndex_df160_1059 (Nat.le_of_ble_eq_true rfl) (Nat.le_of_ble_eq_true rfl) (k_J3N_3_4 (ev := ev)) ?_
  refine mv_pop dJ0_checkIndex_df160_8 rfl ?_
  exact mv_vret dJ0_checkIndex_df160_9 rfl ⟨rfl, rfl⟩
theorem k_J0ci_3_4 {ev : mv_E} {h : mv_H} (hE : q_E ev) : mv_K ev mJ0_checkIndex_df160 [.int (nI 3), .int (nI 4)] h none h := by
  rcases hE with e | ⟨x, e⟩
  · exact k_J0ciN_3_4 e
  · exact k_J0ciR_3_4 e
set_option maxRecDepth 100000 in
theorem k_J1_1_3 {ev : mv_E} {h : mv_H}  (hE : q_E ev) : mv_K ev mJ1_charAt_3b067 [.ref 1000031, .int (nI 3)] h (some (.int (nI 101))) h := by
  refine mv_Kof ?_
  show mv_g ev mJ1_charAt_3b067 0 [.ref 1000031, .int (nI 3)] [] h _
  refine mv_iload_n dJ1_charAt_3b067_0 rfl ?_
  refine mv_aload_n dJ1_charAt_3b067_1 rfl ?_
  refine mv_blen (a := 1000031) dJ1_charAt_3b067_2 (List.mem_of_getElem? (i := 1) rfl) ?_
  refine mv_cS2 dJ1_charAt_3b067_3 lk_J1_charAt_3b067_9 (Nat.le_of_ble_eq_true rfl) (Nat.le_of_ble_eq_true rfl) (k_J0ci_3_4 (ev := ev) hE) ?_
  refine mv_aload_n dJ1_charAt_3b067_6 rfl ?_
  refine mv_iload_n dJ1_charAt_3b067_7 rfl ?_
  refine mv_bald (a := 1000031) dJ1_charAt_3b067_8 (List.mem_of_getElem? (i := 1) rfl) (vp_in_nI (by decide) (by decide)) ?_
  refine mv_sipush (v := nI 255) dJ1_charAt_3b067_9 (by decide) ?_
  refine mv_iand dJ1_charAt_3b067_12 ?_
  refine mv_topI (y := nI 101) (by decide) ?_
  refine mv_i2c dJ1_charAt_3b067_13 ?_
  refine mv_topI (y := nI 101) (by decide) ?_
  exact mv_iret dJ1_charAt_3b067_14 rfl rfl ⟨rfl, rfl⟩
set_option maxRecDepth 100000 in
theorem k_J0c_1_3 {ev : mv_E} {h : mv_H}  (hE : q_E ev) : mv_K ev mJ0_charAt_5068e [.ref 1000021, .int (nI 3)] h (some (.int (nI 101))) h := by
  refine mv_Kof ?_
  show mv_g ev mJ0_charAt_5068e 0 [.ref 1000021, .int (nI 3)] [] h _
  refine mv_aload_n dJ0_charAt_5068e_0 rfl ?_
  refine mv_cR0 dJ0_charAt_5068e_1 lk_J0_charAt_5068e_492 (List.mem_of_getElem? (i := 1) rfl) rfl (Nat.le_of_ble_eq_true rfl) (Nat.le_of_ble_eq_true rfl) (k_J0_isLatin1_1 (ev := ev)) ?_
  refine mv_if_eq (tgt := 16) dJ0_charAt_5068e_4 (by decide) (fun z => absurd z ((by decide))) (fun c4 => ?_)
  refine mv_aload_n dJ0_charAt_5068e_7 rfl ?_
  refine mv_getv (i := 1000021) (b := 1000031) dJ0_charAt_5068e_8 (List.mem_of_getElem? (i := 1) rfl) wd_1661 ?_
  refine mv_iload_n dJ0_charAt_5068e_11 rfl ?_
  refine mv_cS2 dJ0_charAt_5068e_12 lk_J0_charAt_5068e_495 (Nat.le_of_ble_eq_true rfl) (Nat.le_of_ble_eq_true rfl) (k_J1_1_3 (ev := ev) hE) ?_
  exact mv_iret dJ0_charAt_5068e_15 rfl rfl ⟨rfl, rfl⟩
set_option maxRecDepth 100000 in
theorem k_J0_coder_2 {ev : mv_E} {h : mv_H}   : mv_K ev mJ0_coder_7d493 [.ref 1000022] h (some (.int (nI 0))) h := by
  refine mv_Kof ?_
  show mv_g ev mJ0_coder_7d493 0 [.ref 1000022] [] h _
  refine mv_gets (v := .int (nI 1)) dJ0_coder_7d493_0 (List.mem_of_getElem? (i := 3) rfl) wd_487 ?_
  refine mv_if_eq (tgt := 13) dJ0_coder_7d493_3 (by decide) (fun z => absurd z ((by decide))) (fun c3 => ?_)
  refine mv_aload_n dJ0_coder_7d493_6 rfl ?_
  refine mv_getc (i := 1000022) (b := 1000032) dJ0_coder_7d493_7 (List.mem_of_getElem? (i := 2) rfl) wd_1662 ?_
  refine mv_goto (tgt := 14) dJ0_coder_7d493_10 (by decide) ?_
  exact mv_iret dJ0_coder_7d493_14 rfl rfl ⟨rfl, rfl⟩
set_option maxRecDepth 100000 in
theorem k_J0_isLatin1_2 {ev : mv_E} {h : mv_H}   : mv_K ev mJ0_isLatin1_aae02 [.ref 1000022] h (some (.int (nI 1))) h := by
  refine mv_Kof ?_
  show mv_g ev mJ0_isLatin1_aae02 0 [.ref 1000022] [] h _
  refine mv_gets (v := .int (nI 1)) dJ0_isLatin1_aae02_0 (List.mem_of_getElem? (i := 3) rfl) wd_487 ?_
  refine mv_if_eq (tgt := 17) dJ0_isLatin1_aae02_3 (by decide) (fun z => absurd z ((by decide))) (fun c3 => ?_)
  refine mv_aload_n dJ0_isLatin1_aae02_6 rfl ?_
  refine mv_getc (i := 1000022) (b := 1000032) dJ0_isLatin1_aae02_7 (List.mem_of_getElem? (i := 2) rfl) wd_1662 ?_
  refine mv_if_ne (tgt := 17) dJ0_isLatin1_aae02_10 (by decide) (fun z => absurd ((by decide)) z) (fun c10 => ?_)
  refine mv_iconst (v := nI 1) dJ0_isLatin1_aae02_13 (by decide) ?_
  refine mv_goto (tgt := 18) dJ0_isLatin1_aae02_14 (by decide) ?_
  exact mv_iret dJ0_isLatin1_aae02_18 rfl rfl ⟨rfl, rfl⟩
set_option maxRecDepth 100000 in
theorem k_J0_length_2 {ev : mv_E} {h : mv_H}   : mv_K ev mJ0_length_8abf5 [.ref 1000022] h (some (.int (nI 4))) h := by
  refine mv_Kof ?_
  show mv_g ev mJ0_length_8abf5 0 [.ref 1000022] [] h _
  refine mv_aload_n dJ0_length_8abf5_0 rfl ?_
  refine mv_getv (i := 1000022) (b := 1000032) dJ0_length_8abf5_1 (List.mem_of_getElem? (i := 2) rfl) wd_1661 ?_
  refine mv_blen (a := 1000032) dJ0_length_8abf5_4 (List.mem_of_getElem? (i := 2) rfl) ?_
  refine mv_aload_n dJ0_length_8abf5_5 rfl ?_
  refine mv_cR0 dJ0_length_8abf5_6 lk_J0_length_8abf5_335 (List.mem_of_getElem? (i := 2) rfl) rfl (Nat.le_of_ble_eq_true rfl) (Nat.le_of_ble_eq_true rfl) (k_J0_coder_2 (ev := ev)) ?_
  refine mv_ishr dJ0_length_8abf5_9 ?_
  refine mv_topI (y := nI 4) (by decide) ?_
  exact mv_iret dJ0_length_8abf5_10 rfl rfl ⟨rfl, rfl⟩
set_option maxRecDepth 100000 in
theorem k_J1_2_0 {ev : mv_E} {h : mv_H}  (hE : q_E ev) : mv_K ev mJ1_charAt_3b067 [.ref 1000032, .int (nI 0)] h (some (.int (nI 103))) h := by
  refine mv_Kof ?_
  show mv_g ev mJ1_charAt_3b067 0 [.ref 1000032, .int (nI 0)] [] h _
  refine mv_iload_n dJ1_charAt_3b067_0 rfl ?_
  refine mv_aload_n dJ1_charAt_3b067_1 rfl ?_
  refine mv_blen (a := 1000032) dJ1_charAt_3b067_2 (List.mem_of_getElem? (i := 2) rfl) ?_
  refine mv_cS2 dJ1_charAt_3b067_3 lk_J1_charAt_3b067_9 (Nat.le_of_ble_eq_true rfl) (Nat.le_of_ble_eq_true rfl) (k_J0ci_0_4 (ev := ev) hE) ?_
  refine mv_aload_n dJ1_charAt_3b067_6 rfl ?_
  refine mv_iload_n dJ1_charAt_3b067_7 rfl ?_
  refine mv_bald (a := 1000032) dJ1_charAt_3b067_8 (List.mem_of_getElem? (i := 2) rfl) (vp_in_nI (by decide) (by decide)) ?_
  refine mv_sipush (v := nI 255) dJ1_charAt_3b067_9 (by decide) ?_
  refine mv_iand dJ1_charAt_3b067_12 ?_
  refine mv_topI (y := nI 103) (by decide) ?_
  refine mv_i2c dJ1_charAt_3b067_13 ?_
  refine mv_topI (y := nI 103) (by decide) ?_
  exact mv_iret dJ1_charAt_3b067_14 rfl rfl ⟨rfl, rfl⟩
set_option maxRecDepth 100000 in
theorem k_J0c_2_0 {ev : mv_E} {h : mv_H}  (hE : q_E ev) : mv_K ev mJ0_charAt_5068e [.ref 1000022, .int (nI 0)] h (some (.int (nI 103))) h := by
  refine mv_Kof ?_
  show mv_g ev mJ0_charAt_5068e 0 [.ref 1000022, .int (nI 0)] [] h _
  refine mv_aload_n dJ0_charAt_5068e_0 rfl ?_
  refine mv_cR0 dJ0_charAt_5068e_1 lk_J0_charAt_5068e_492 (List.mem_of_getElem? (i := 2) rfl) rfl (Nat.le_of_ble_eq_true rfl) (Nat.le_of_ble_eq_true rfl) (k_J0_isLatin1_2 (ev := ev)) ?_
  refine mv_if_eq (tgt := 16) dJ0_charAt_5068e_4 (by decide) (fun z => absurd z ((by decide))) (fun c4 => ?_)
  refine mv_aload_n dJ0_charAt_5068e_7 rfl ?_
  refine mv_getv (i := 1000022) (b := 1000032) dJ0_charAt_5068e_8 (List.mem_of_getElem? (i := 2) rfl) wd_1661 ?_
  refine mv_iload_n dJ0_charAt_5068e_11 rfl ?_
  refine mv_cS2 dJ0_charAt_5068e_12 lk_J0_charAt_5068e_495 (Nat.le_of_ble_eq_true rfl) (Nat.le_of_ble_eq_true rfl) (k_J1_2_0 (ev := ev) hE) ?_
  exact mv_iret dJ0_charAt_5068e_15 rfl rfl ⟨rfl, rfl⟩
set_option maxRecDepth 100000 in
theorem k_J1_2_1 {ev : mv_E} {h : mv_H}  (hE : q_E ev) : mv_K ev mJ1_charAt_3b067 [.ref 1000032, .int (nI 1)] h (some (.int (nI 114))) h := by
  refine mv_Kof ?_
  show mv_g ev mJ1_charAt_3b067 0 [.ref 1000032, .int (nI 1)] [] h _
  refine mv_iload_n dJ1_charAt_3b067_0 rfl ?_
  refine mv_aload_n dJ1_charAt_3b067_1 rfl ?_
  refine mv_blen (a := 1000032) dJ1_charAt_3b067_2 (List.mem_of_getElem? (i := 2) rfl) ?_
  refine mv_cS2 dJ1_charAt_3b067_3 lk_J1_charAt_3b067_9 (Nat.le_of_ble_eq_true rfl) (Nat.le_of_ble_eq_true rfl) (k_J0ci_1_4 (ev := ev) hE) ?_
  refine mv_aload_n dJ1_charAt_3b067_6 rfl ?_
  refine mv_iload_n dJ1_charAt_3b067_7 rfl ?_
  refine mv_bald (a := 1000032) dJ1_charAt_3b067_8 (List.mem_of_getElem? (i := 2) rfl) (vp_in_nI (by decide) (by decide)) ?_
  refine mv_sipush (v := nI 255) dJ1_charAt_3b067_9 (by decide) ?_
  refine mv_iand dJ1_charAt_3b067_12 ?_
  refine mv_topI (y := nI 114) (by decide) ?_
  refine mv_i2c dJ1_charAt_3b067_13 ?_
  refine mv_topI (y := nI 114) (by decide) ?_
  exact mv_iret dJ1_charAt_3b067_14 rfl rfl ⟨rfl, rfl⟩
set_option maxRecDepth 100000 in
theorem k_J0c_2_1 {ev : mv_E} {h : mv_H}  (hE : q_E ev) : mv_K ev mJ0_charAt_5068e [.ref 1000022, .int (nI 1)] h (some (.int (nI 114))) h := by
  refine mv_Kof ?_
  show mv_g ev mJ0_charAt_5068e 0 [.ref 1000022, .int (nI 1)] [] h _
  refine mv_aload_n dJ0_charAt_5068e_0 rfl ?_
  refine mv_cR0 dJ0_charAt_5068e_1 lk_J0_charAt_5068e_492 (List.mem_of_getElem? (i := 2) rfl) rfl (Nat.le_of_ble_eq_true rfl) (Nat.le_of_ble_eq_true rfl) (k_J0_isLatin1_2 (ev := ev)) ?_
  refine mv_if_eq (tgt := 16) dJ0_charAt_5068e_4 (by decide) (fun z => absurd z ((by decide))) (fun c4 => ?_)
  refine mv_aload_n dJ0_charAt_5068e_7 rfl ?_
  refine mv_getv (i := 1000022) (b := 1000032) dJ0_charAt_5068e_8 (List.mem_of_getElem? (i := 2) rfl) wd_1661 ?_
  refine mv_iload_n dJ0_charAt_5068e_11 rfl ?_
  refine mv_cS2 dJ0_charAt_5068e_12 lk_J0_charAt_5068e_495 (Nat.le_of_ble_eq_true rfl) (Nat.le_of_ble_eq_true rfl) (k_J1_2_1 (ev := ev) hE) ?_
  exact mv_iret dJ0_charAt_5068e_15 rfl rfl ⟨rfl, rfl⟩
set_option maxRecDepth 100000 in
theorem k_J1_2_2 {ev : mv_E} {h : mv_H}  (hE : q_E ev) : mv_K ev mJ1_charAt_3b067 [.ref 1000032, .int (nI 2)] h (some (.int (nI 111))) h := by
  refine mv_Kof ?_
  show mv_g ev mJ1_charAt_3b067 0 [.ref 1000032, .int (nI 2)] [] h _
  refine mv_iload_n dJ1_charAt_3b067_0 rfl ?_
  refine mv_aload_n dJ1_charAt_3b067_1 rfl ?_
  refine mv_blen (a := 1000032) dJ1_charAt_3b067_2 (List.mem_of_getElem? (i := 2) rfl) ?_
  refine mv_cS2 dJ1_charAt_3b067_3 lk_J1_charAt_3b067_9 (Nat.le_of_ble_eq_true rfl) (Nat.le_of_ble_eq_true rfl) (k_J0ci_2_4 (ev := ev) hE) ?_
  refine mv_aload_n dJ1_charAt_3b067_6 rfl ?_
  refine mv_iload_n dJ1_charAt_3b067_7 rfl ?_
  refine mv_bald (a := 1000032) dJ1_charAt_3b067_8 (List.mem_of_getElem? (i := 2) rfl) (vp_in_nI (by decide) (by decide)) ?_
  refine mv_sipush (v := nI 255) dJ1_charAt_3b067_9 (by decide) ?_
  refine mv_iand dJ1_charAt_3b067_12 ?_
  refine mv_topI (y := nI 111) (by decide) ?_
  refine mv_i2c dJ1_charAt_3b067_13 ?_
  refine mv_topI (y := nI 111) (by decide) ?_
  exact mv_iret dJ1_charAt_3b067_14 rfl rfl ⟨rfl, rfl⟩
set_option maxRecDepth 100000 in
theorem k_J0c_2_2 {ev : mv_E} {h : mv_H}  (hE : q_E ev) : mv_K ev mJ0_charAt_5068e [.ref 1000022, .int (nI 2)] h (some (.int (nI 111))) h := by
  refine mv_Kof ?_
  show mv_g ev mJ0_charAt_5068e 0 [.ref 1000022, .int (nI 2)] [] h _
  refine mv_aload_n dJ0_charAt_5068e_0 rfl ?_
  refine mv_cR0 dJ0_charAt_5068e_1 lk_J0_charAt_5068e_492 (List.mem_of_getElem? (i := 2) rfl) rfl (Nat.le_of_ble_eq_true rfl) (Nat.le_of_ble_eq_true rfl) (k_J0_isLatin1_2 (ev := ev)) ?_
  refine mv_if_eq (tgt := 16) dJ0_charAt_5068e_4 (by decide) (fun z => absurd z ((by decide))) (fun c4 => ?_)
  refine mv_aload_n dJ0_charAt_5068e_7 rfl ?_
  refine mv_getv (i := 1000022) (b := 1000032) dJ0_charAt_5068e_8 (List.mem_of_getElem? (i := 2) rfl) wd_1661 ?_
  refine mv_iload_n dJ0_charAt_5068e_11 rfl ?_
  refine mv_cS2 dJ0_charAt_5068e_12 lk_J0_charAt_5068e_495 (Nat.le_of_ble_eq_true rfl) (Nat.le_of_ble_eq_true rfl) (k_J1_2_2 (ev := ev) hE) ?_
  exact mv_iret dJ0_charAt_5068e_15 rfl rfl ⟨rfl, rfl⟩
set_option maxRecDepth 100000 in
theorem k_J1_2_3 {ev : mv_E} {h : mv_H}  (hE : q_E ev) : mv_K ev mJ1_charAt_3b067 [.ref 1000032, .int (nI 3)] h (some (.int (nI 119))) h := by
  refine mv_Kof ?_
  show mv_g ev mJ1_charAt_3b067 0 [.ref 1000032, .int (nI 3)] [] h _
  refine mv_iload_n dJ1_charAt_3b067_0 rfl ?_
  refine mv_aload_n dJ1_charAt_3b067_1 rfl ?_
  refine mv_blen (a := 1000032) dJ1_charAt_3b067_2 (List.mem_of_getElem? (i := 2) rfl) ?_
  refine mv_cS2 dJ1_charAt_3b067_3 lk_J1_charAt_3b067_9 (Nat.le_of_ble_eq_true rfl) (Nat.le_of_ble_eq_true rfl) (k_J0ci_3_4 (ev := ev) hE) ?_
  refine mv_aload_n dJ1_charAt_3b067_6 rfl ?_
  refine mv_iload_n dJ1_charAt_3b067_7 rfl ?_
  refine mv_bald (a := 1000032) dJ1_charAt_3b067_8 (List.mem_of_getElem? (i := 2) rfl) (vp_in_nI (by decide) (by decide)) ?_
  refine mv_sipush (v := nI 255) dJ1_charAt_3b067_9 (by decide) ?_
  refine mv_iand dJ1_charAt_3b067_12 ?_
  refine mv_topI (y := nI 119) (by decide) ?_
  refine mv_i2c dJ1_charAt_3b067_13 ?_
  refine mv_topI (y := nI 119) (by decide) ?_
  exact mv_iret dJ1_charAt_3b067_14 rfl rfl ⟨rfl, rfl⟩
set_option maxRecDepth 100000 in
theorem k_J0c_2_3 {ev : mv_E} {h : mv_H}  (hE : q_E ev) : mv_K ev mJ0_charAt_5068e [.ref 1000022, .int (nI 3)] h (some (.int (nI 119))) h := by
  refine mv_Kof ?_
  show mv_g ev mJ0_charAt_5068e 0 [.ref 1000022, .int (nI 3)] [] h _
  refine mv_aload_n dJ0_charAt_5068e_0 rfl ?_
  refine mv_cR0 dJ0_charAt_5068e_1 lk_J0_charAt_5068e_492 (List.mem_of_getElem? (i := 2) rfl) rfl (Nat.le_of_ble_eq_true rfl) (Nat.le_of_ble_eq_true rfl) (k_J0_isLatin1_2 (ev := ev)) ?_
  refine mv_if_eq (tgt := 16) dJ0_charAt_5068e_4 (by decide) (fun z => absurd z ((by decide))) (fun c4 => ?_)
  refine mv_aload_n dJ0_charAt_5068e_7 rfl ?_
  refine mv_getv (i := 1000022) (b := 1000032) dJ0_charAt_5068e_8 (List.mem_of_getElem? (i := 2) rfl) wd_1661 ?_
  refine mv_iload_n dJ0_charAt_5068e_11 rfl ?_
  refine mv_cS2 dJ0_charAt_5068e_12 lk_J0_charAt_5068e_495 (Nat.le_of_ble_eq_true rfl) (Nat.le_of_ble_eq_true rfl) (k_J1_2_3 (ev := ev) hE) ?_
  exact mv_iret dJ0_charAt_5068e_15 rfl rfl ⟨rfl, rfl⟩
set_option maxRecDepth 100000 in
theorem k_J0_coder_3 {ev : mv_E} {h : mv_H}   : mv_K ev mJ0_coder_7d493 [.ref 1000023] h (some (.int (nI 0))) h := by
  refine mv_Kof ?_
  show mv_g ev mJ0_coder_7d493 0 [.ref 1000023] [] h _
  refine mv_gets (v := .int (nI 1)) dJ0_coder_7d493_0 (List.mem_of_getElem? (i := 3) rfl) wd_487 ?_
  refine mv_if_eq (tgt := 13) dJ0_coder_7d493_3 (by decide) (fun z => absurd z ((by decide))) (fun c3 => ?_)
  refine mv_aload_n dJ0_coder_7d493_6 rfl ?_
  refine mv_getc (i := 1000023) (b := 1000033) dJ0_coder_7d493_7 (List.mem_of_getElem? (i := 3) rfl) wd_1662 ?_
  refine mv_goto (tgt := 14) dJ0_coder_7d493_10 (by decide) ?_
  exact mv_iret dJ0_coder_7d493_14 rfl rfl ⟨rfl, rfl⟩
set_option maxRecDepth 100000 in
theorem k_J0_isLatin1_3 {ev : mv_E} {h : mv_H}   : mv_K ev mJ0_isLatin1_aae02 [.ref 1000023] h (some (.int (nI 1))) h := by
  refine mv_Kof ?_
  show mv_g ev mJ0_isLatin1_aae02 0 [.ref 1000023] [] h _
  refine mv_gets (v := .int (nI 1)) dJ0_isLatin1_aae02_0 (List.mem_of_getElem? (i := 3) rfl) wd_487 ?_
  refine mv_if_eq (tgt := 17) dJ0_isLatin1_aae02_3 (by decide) (fun z => absurd z ((by decide))) (fun c3 => ?_)
  refine mv_aload_n dJ0_isLatin1_aae02_6 rfl ?_
  refine mv_getc (i := 1000023) (b := 1000033) dJ0_isLatin1_aae02_7 (List.mem_of_getElem? (i := 3) rfl) wd_1662 ?_
  refine mv_if_ne (tgt := 17) dJ0_isLatin1_aae02_10 (by decide) (fun z => absurd ((by decide)) z) (fun c10 => ?_)
  refine mv_iconst (v := nI 1) dJ0_isLatin1_aae02_13 (by decide) ?_
  refine mv_goto (tgt := 18) dJ0_isLatin1_aae02_14 (by decide) ?_
  exact mv_iret dJ0_isLatin1_aae02_18 rfl rfl ⟨rfl, rfl⟩
set_option maxRecDepth 100000 in
theorem k_J0_length_3 {ev : mv_E} {h : mv_H}   : mv_K ev mJ0_length_8abf5 [.ref 1000023] h (some (.int (nI 5))) h := by
  refine mv_Kof ?_
  show mv_g ev mJ0_length_8abf5 0 [.ref 1000023] [] h _
  refine mv_aload_n dJ0_length_8abf5_0 rfl ?_
  refine mv_getv (i := 1000023) (b := 1000033) dJ0_length_8abf5_1 (List.mem_of_getElem? (i := 3) rfl) wd_1661 ?_
  refine mv_blen (a := 1000033) dJ0_length_8abf5_4 (List.mem_of_getElem? (i := 3) rfl) ?_
  refine mv_aload_n dJ0_length_8abf5_5 rfl ?_
  refine mv_cR0 dJ0_length_8abf5_6 lk_J0_length_8abf5_335 (List.mem_of_getElem? (i := 3) rfl) rfl (Nat.le_of_ble_eq_true rfl) (Nat.le_of_ble_eq_true rfl) (k_J0_coder_3 (ev := ev)) ?_
  refine mv_ishr dJ0_length_8abf5_9 ?_
  refine mv_topI (y := nI 5) (by decide) ?_
  exact mv_iret dJ0_length_8abf5_10 rfl rfl ⟨rfl, rfl⟩
set_option maxRecDepth 100000 in
theorem k_J3R_0_5 {ev : mv_E} {h : mv_H} {x : Nat}   : mv_K ev mJ3_checkIndex_8e157 [.int (nI 0), .int (nI 5), .ref x] h (some (.int (nI 0))) h := by
  refine mv_Kof ?_
  show mv_g ev mJ3_checkIndex_8e157 0 [.int (nI 0), .int (nI 5), .ref x] [] h _
  refine mv_iload_n dJ3_checkIndex_8e157_0 rfl ?_
  refine mv_if_lt (tgt := 9) dJ3_checkIndex_8e157_1 (by decide) (fun z => absurd z ((by decide))) (fun c1 => ?_)
  refine mv_iload_n dJ3_checkIndex_8e157_4 rfl ?_
  refine mv_iload_n dJ3_checkIndex_8e157_5 rfl ?_
  refine mv_icmp_lt (tgt := 16) dJ3_checkIndex_8e157_6 (by decide) (fun c6 => ?_) (fun z => absurd ((by decide)) z)
  refine mv_iload_n dJ3_checkIndex_8e157_16 rfl ?_
  exact mv_iret dJ3_checkIndex_8e157_17 rfl rfl ⟨rfl, rfl⟩
set_option maxRecDepth 100000 in
theorem k_J0ciR_0_5 {ev : mv_E} {h : mv_H} {x : Nat}  (hE : ev.2.2 = .ref x) : mv_K ev mJ0_checkIndex_df160 [.int (nI 0), .int (nI 5)] h (none) h := by
  refine mv_Kof ?_
  show mv_g ev mJ0_checkIndex_df160 0 [.int (nI 0), .int (nI 5)] [] h _
  refine mv_iload_n dJ0_checkIndex_df160_0 rfl ?_
  refine mv_iload_n dJ0_checkIndex_df160_1 rfl ?_
  refine mv_gets (v := ev.2.2) dJ0_checkIndex_df160_2 (List.mem_of_getElem? (i := 4) rfl) wd_503 ?_
  rw [hE]
  refine mv_cS3 dJ0_checkIndex_df160_5 lk_J0_checkIndex_df160_1059 (Nat.le_of_ble_eq_true rfl) (Nat.le_of_ble_eq_true rfl) (k_J3R_0_5 (ev := ev)) ?_
  refine mv_pop dJ0_checkIndex_df160_8 rfl ?_
  exact mv_vret dJ0_checkIndex_df160_9 rfl ⟨rfl, rfl⟩
set_option maxRecDepth 100000 in
theorem k_J3N_0_5 {ev : mv_E} {h : mv_H}   : mv_K ev mJ3_checkIndex_8e157 [.int (nI 0), .int (nI 5), .null] h (some (.int (nI 0))) h := by
  refine mv_Kof ?_
  show mv_g ev mJ3_checkIndex_8e157 0 [.int (nI 0), .int (nI 5), .null] [] h _
  refine mv_iload_n dJ3_checkIndex_8e157_0 rfl ?_
  refine mv_if_lt (tgt := 9) dJ3_checkIndex_8e157_1 (by decide) (fun z => absurd z ((by decide))) (fun c1 => ?_)
  refine mv_iload_n dJ3_checkIndex_8e157_4 rfl ?_
  refine mv_iload_n dJ3_checkIndex_8e157_5 rfl ?_
  refine mv_icmp_lt (tgt := 16) dJ3_checkIndex_8e157_6 (by decide) (fun c6 => ?_) (fun z => absurd ((by decide)) z)
  refine mv_iload_n dJ3_checkIndex_8e157_16 rfl ?_
  exact mv_iret dJ3_checkIndex_8e157_17 rfl rfl ⟨rfl, rfl⟩
set_option maxRecDepth 100000 in
theorem k_J0ciN_0_5 {ev : mv_E} {h : mv_H}  (hE : ev.2.2 = .null) : mv_K ev mJ0_checkIndex_df160 [.int (nI 0), .int (nI 5)] h (none) h := by
  refine mv_Kof ?_
  show mv_g ev mJ0_checkIndex_df160 0 [.int (nI 0), .int (nI 5)] [] h _
  refine mv_iload_n dJ0_checkIndex_df160_0 rfl ?_
  refine mv_iload_n dJ0_checkIndex_df160_1 rfl ?_
  refine mv_gets (v := ev.2.2) dJ0_checkIndex_df160_2 (List.mem_of_getElem? (i := 4) rfl) wd_503 ?_
  rw [hE]
  refine mv_cS3 dJ0_checkIndex_df160_5 lk_J0_checkIndex_df160_1059 (Nat.le_of_ble_eq_true rfl) (Nat.le_of_ble_eq_true rfl) (k_J3N_0_5 (ev := ev)) ?_
  refine mv_pop dJ0_checkIndex_df160_8 rfl ?_
  exact mv_vret dJ0_checkIndex_df160_9 rfl ⟨rfl, rfl⟩
theorem k_J0ci_0_5 {ev : mv_E} {h : mv_H} (hE : q_E ev) : mv_K ev mJ0_checkIndex_df160 [.int (nI 0), .int (nI 5)] h none h := by
  rcases hE with e | ⟨x, e⟩
  · exact k_J0ciN_0_5 e
  · exact k_J0ciR_0_5 e
set_option maxRecDepth 100000 in
theorem k_J1_3_0 {ev : mv_E} {h : mv_H}  (hE : q_E ev) : mv_K ev mJ1_charAt_3b067 [.ref 1000033, .int (nI 0)] h (some (.int (nI 97))) h := by
  refine mv_Kof ?_
  show mv_g ev mJ1_charAt_3b067 0 [.ref 1000033, .int (nI 0)] [] h _
  refine mv_iload_n dJ1_charAt_3b067_0 rfl ?_
  refine mv_aload_n dJ1_charAt_3b067_1 rfl ?_
  refine mv_blen (a := 1000033) dJ1_charAt_3b067_2 (List.mem_of_getElem? (i := 3) rfl) ?_
  refine mv_cS2 dJ1_charAt_3b067_3 lk_J1_charAt_3b067_9 (Nat.le_of_ble_eq_true rfl) (Nat.le_of_ble_eq_true rfl) (k_J0ci_0_5 (ev := ev) hE) ?_
  refine mv_aload_n dJ1_charAt_3b067_6 rfl ?_
  refine mv_iload_n dJ1_charAt_3b067_7 rfl ?_
  refine mv_bald (a := 1000033) dJ1_charAt_3b067_8 (List.mem_of_getElem? (i := 3) rfl) (vp_in_nI (by decide) (by decide)) ?_
  refine mv_sipush (v := nI 255) dJ1_charAt_3b067_9 (by decide) ?_
  refine mv_iand dJ1_charAt_3b067_12 ?_
  refine mv_topI (y := nI 97) (by decide) ?_
  refine mv_i2c dJ1_charAt_3b067_13 ?_
  refine mv_topI (y := nI 97) (by decide) ?_
  exact mv_iret dJ1_charAt_3b067_14 rfl rfl ⟨rfl, rfl⟩
set_option maxRecDepth 100000 in
theorem k_J0c_3_0 {ev : mv_E} {h : mv_H}  (hE : q_E ev) : mv_K ev mJ0_charAt_5068e [.ref 1000023, .int (nI 0)] h (some (.int (nI 97))) h := by
  refine mv_Kof ?_
  show mv_g ev mJ0_charAt_5068e 0 [.ref 1000023, .int (nI 0)] [] h _
  refine mv_aload_n dJ0_charAt_5068e_0 rfl ?_
  refine mv_cR0 dJ0_charAt_5068e_1 lk_J0_charAt_5068e_492 (List.mem_of_getElem? (i := 3) rfl) rfl (Nat.le_of_ble_eq_true rfl) (Nat.le_of_ble_eq_true rfl) (k_J0_isLatin1_3 (ev := ev)) ?_
  refine mv_if_eq (tgt := 16) dJ0_charAt_5068e_4 (by decide) (fun z => absurd z ((by decide))) (fun c4 => ?_)
  refine mv_aload_n dJ0_charAt_5068e_7 rfl ?_
  refine mv_getv (i := 1000023) (b := 1000033) dJ0_charAt_5068e_8 (List.mem_of_getElem? (i := 3) rfl) wd_1661 ?_
  refine mv_iload_n dJ0_charAt_5068e_11 rfl ?_
  refine mv_cS2 dJ0_charAt_5068e_12 lk_J0_charAt_5068e_495 (Nat.le_of_ble_eq_true rfl) (Nat.le_of_ble_eq_true rfl) (k_J1_3_0 (ev := ev) hE) ?_
  exact mv_iret dJ0_charAt_5068e_15 rfl rfl ⟨rfl, rfl⟩
set_option maxRecDepth 100000 in
theorem k_J3R_1_5 {ev : mv_E} {h : mv_H} {x : Nat}   : mv_K ev mJ3_checkIndex_8e157 [.int (nI 1), .int (nI 5), .ref x] h (some (.int (nI 1))) h := by
  refine mv_Kof ?_
  show mv_g ev mJ3_checkIndex_8e157 0 [.int (nI 1), .int (nI 5), .ref x] [] h _
  refine mv_iload_n dJ3_checkIndex_8e157_0 rfl ?_
  refine mv_if_lt (tgt := 9) dJ3_checkIndex_8e157_1 (by decide) (fun z => absurd z ((by decide))) (fun c1 => ?_)
  refine mv_iload_n dJ3_checkIndex_8e157_4 rfl ?_
  refine mv_iload_n dJ3_checkIndex_8e157_5 rfl ?_
  refine mv_icmp_lt (tgt := 16) dJ3_checkIndex_8e157_6 (by decide) (fun c6 => ?_) (fun z => absurd ((by decide)) z)
  refine mv_iload_n dJ3_checkIndex_8e157_16 rfl ?_
  exact mv_iret dJ3_checkIndex_8e157_17 rfl rfl ⟨rfl, rfl⟩
set_option maxRecDepth 100000 in
theorem k_J0ciR_1_5 {ev : mv_E} {h : mv_H} {x : Nat}  (hE : ev.2.2 = .ref x) : mv_K ev mJ0_checkIndex_df160 [.int (nI 1), .int (nI 5)] h (none) h := by
  refine mv_Kof ?_
  show mv_g ev mJ0_checkIndex_df160 0 [.int (nI 1), .int (nI 5)] [] h _
  refine mv_iload_n dJ0_checkIndex_df160_0 rfl ?_
  refine mv_iload_n dJ0_checkIndex_df160_1 rfl ?_
  refine mv_gets (v := ev.2.2) dJ0_checkIndex_df160_2 (List.mem_of_getElem? (i := 4) rfl) wd_503 ?_
  rw [hE]
  refine mv_cS3 dJ0_checkIndex_df160_5 lk_J0_checkIndex_df160_1059 (Nat.le_of_ble_eq_true rfl) (Nat.le_of_ble_eq_true rfl) (k_J3R_1_5 (ev := ev)) ?_
  refine mv_pop dJ0_checkIndex_df160_8 rfl ?_
  exact mv_vret dJ0_checkIndex_df160_9 rfl ⟨rfl, rfl⟩
set_option maxRecDepth 100000 in
theorem k_J3N_1_5 {ev : mv_E} {h : mv_H}   : mv_K ev mJ3_checkIndex_8e157 [.int (nI 1), .int (nI 5), .null] h (some (.int (nI 1))) h := by
  refine mv_Kof ?_
  show mv_g ev mJ3_checkIndex_8e157 0 [.int (nI 1), .int (nI 5), .null] [] h _
  refine mv_iload_n dJ3_checkIndex_8e157_0 rfl ?_
  refine mv_if_lt (tgt := 9) dJ3_checkIndex_8e157_1 (by decide) (fun z => absurd z ((by decide))) (fun c1 => ?_)
  refine mv_iload_n dJ3_checkIndex_8e157_4 rfl ?_
  refine mv_iload_n dJ3_checkIndex_8e157_5 rfl ?_
  refine mv_icmp_lt (tgt := 16) dJ3_checkIndex_8e157_6 (by decide) (fun c6 => ?_) (fun z => absurd ((by decide)) z)
  refine mv_iload_n dJ3_checkIndex_8e157_16 rfl ?_
  exact mv_iret dJ3_checkIndex_8e157_17 rfl rfl ⟨rfl, rfl⟩
set_option maxRecDepth 100000 in
theorem k_J0ciN_1_5 {ev : mv_E} {h : mv_H}  (hE : ev.2.2 = .null) : mv_K ev mJ0_checkIndex_df160 [.int (nI 1), .int (nI 5)] h (none) h := by
  refine mv_Kof ?_
  show mv_g ev mJ0_checkIndex_df160 0 [.int (nI 1), .int (nI 5)] [] h _
  refine mv_iload_n dJ0_checkIndex_df160_0 rfl ?_
  refine mv_iload_n dJ0_checkIndex_df160_1 rfl ?_
  refine mv_gets (v := ev.2.2) dJ0_checkIndex_df160_2 (List.mem_of_getElem? (i := 4) rfl) wd_503 ?_
  rw [hE]
  refine mv_cS3 dJ0_checkIndex_df160_5 lk_J0_checkIndex_df160_1059 (Nat.le_of_ble_eq_true rfl) (Nat.le_of_ble_eq_true rfl) (k_J3N_1_5 (ev := ev)) ?_
  refine mv_pop dJ0_checkIndex_df160_8 rfl ?_
  exact mv_vret dJ0_checkIndex_df160_9 rfl ⟨rfl, rfl⟩
theorem k_J0ci_1_5 {ev : mv_E} {h : mv_H} (hE : q_E ev) : mv_K ev mJ0_checkIndex_df160 [.int (nI 1), .int (nI 5)] h none h := by
  rcases hE with e | ⟨x, e⟩
  · exact k_J0ciN_1_5 e
  · exact k_J0ciR_1_5 e
set_option maxRecDepth 100000 in
theorem k_J1_3_1 {ev : mv_E} {h : mv_H}  (hE : q_E ev) : mv_K ev mJ1_charAt_3b067 [.ref 1000033, .int (nI 1)] h (some (.int (nI 102))) h := by
  refine mv_Kof ?_
  show mv_g ev mJ1_charAt_3b067 0 [.ref 1000033, .int (nI 1)] [] h _
  refine mv_iload_n dJ1_charAt_3b067_0 rfl ?_
  refine mv_aload_n dJ1_charAt_3b067_1 rfl ?_
  refine mv_blen (a := 1000033) dJ1_charAt_3b067_2 (List.mem_of_getElem? (i := 3) rfl) ?_
  refine mv_cS2 dJ1_charAt_3b067_3 lk_J1_charAt_3b067_9 (Nat.le_of_ble_eq_true rfl) (Nat.le_of_ble_eq_true rfl) (k_J0ci_1_5 (ev := ev) hE) ?_
  refine mv_aload_n dJ1_charAt_3b067_6 rfl ?_
  refine mv_iload_n dJ1_charAt_3b067_7 rfl ?_
  refine mv_bald (a := 1000033) dJ1_charAt_3b067_8 (List.mem_of_getElem? (i := 3) rfl) (vp_in_nI (by decide) (by decide)) ?_
  refine mv_sipush (v := nI 255) dJ1_charAt_3b067_9 (by decide) ?_
  refine mv_iand dJ1_charAt_3b067_12 ?_
  refine mv_topI (y := nI 102) (by decide) ?_
  refine mv_i2c dJ1_charAt_3b067_13 ?_
  refine mv_topI (y := nI 102) (by decide) ?_
  exact mv_iret dJ1_charAt_3b067_14 rfl rfl ⟨rfl, rfl⟩
set_option maxRecDepth 100000 in
theorem k_J0c_3_1 {ev : mv_E} {h : mv_H}  (hE : q_E ev) : mv_K ev mJ0_charAt_5068e [.ref 1000023, .int (nI 1)] h (some (.int (nI 102))) h := by
  refine mv_Kof ?_
  show mv_g ev mJ0_charAt_5068e 0 [.ref 1000023, .int (nI 1)] [] h _
  refine mv_aload_n dJ0_charAt_5068e_0 rfl ?_
  refine mv_cR0 dJ0_charAt_5068e_1 lk_J0_charAt_5068e_492 (List.mem_of_getElem? (i := 3) rfl) rfl (Nat.le_of_ble_eq_true rfl) (Nat.le_of_ble_eq_true rfl) (k_J0_isLatin1_3 (ev := ev)) ?_
  refine mv_if_eq (tgt := 16) dJ0_charAt_5068e_4 (by decide) (fun z => absurd z ((by decide))) (fun c4 => ?_)
  refine mv_aload_n dJ0_charAt_5068e_7 rfl ?_
  refine mv_getv (i := 1000023) (b := 1000033) dJ0_charAt_5068e_8 (List.mem_of_getElem? (i := 3) rfl) wd_1661 ?_
  refine mv_iload_n dJ0_charAt_5068e_11 rfl ?_
  refine mv_cS2 dJ0_charAt_5068e_12 lk_J0_charAt_5068e_495 (Nat.le_of_ble_eq_true rfl) (Nat.le_of_ble_eq_true rfl) (k_J1_3_1 (ev := ev) hE) ?_
  exact mv_iret dJ0_charAt_5068e_15 rfl rfl ⟨rfl, rfl⟩
set_option maxRecDepth 100000 in
theorem k_J3R_2_5 {ev : mv_E} {h : mv_H} {x : Nat}   : mv_K ev mJ3_checkIndex_8e157 [.int (nI 2), .int (nI 5), .ref x] h (some (.int (nI 2))) h := by
  refine mv_Kof ?_
  show mv_g ev mJ3_checkIndex_8e157 0 [.int (nI 2), .int (nI 5), .ref x] [] h _
  refine mv_iload_n dJ3_checkIndex_8e157_0 rfl ?_
  refine mv_if_lt (tgt := 9) dJ3_checkIndex_8e157_1 (by decide) (fun z => absurd z ((by decide))) (fun c1 => ?_)
  refine mv_iload_n dJ3_checkIndex_8e157_4 rfl ?_
  refine mv_iload_n dJ3_checkIndex_8e157_5 rfl ?_
  refine mv_icmp_lt (tgt := 16) dJ3_checkIndex_8e157_6 (by decide) (fun c6 => ?_) (fun z => absurd ((by decide)) z)
  refine mv_iload_n dJ3_checkIndex_8e157_16 rfl ?_
  exact mv_iret dJ3_checkIndex_8e157_17 rfl rfl ⟨rfl, rfl⟩
set_option maxRecDepth 100000 in
theorem k_J0ciR_2_5 {ev : mv_E} {h : mv_H} {x : Nat}  (hE : ev.2.2 = .ref x) : mv_K ev mJ0_checkIndex_df160 [.int (nI 2), .int (nI 5)] h (none) h := by
  refine mv_Kof ?_
  show mv_g ev mJ0_checkIndex_df160 0 [.int (nI 2), .int (nI 5)] [] h _
  refine mv_iload_n dJ0_checkIndex_df160_0 rfl ?_
  refine mv_iload_n dJ0_checkIndex_df160_1 rfl ?_
  refine mv_gets (v := ev.2.2) dJ0_checkIndex_df160_2 (List.mem_of_getElem? (i := 4) rfl) wd_503 ?_
  rw [hE]
  refine mv_cS3 dJ0_checkIndex_df160_5 lk_J0_checkIndex_df160_1059 (Nat.le_of_ble_eq_true rfl) (Nat.le_of_ble_eq_true rfl) (k_J3R_2_5 (ev := ev)) ?_
  refine mv_pop dJ0_checkIndex_df160_8 rfl ?_
  exact mv_vret dJ0_checkIndex_df160_9 rfl ⟨rfl, rfl⟩
set_option maxRecDepth 100000 in
theorem k_J3N_2_5 {ev : mv_E} {h : mv_H}   : mv_K ev mJ3_checkIndex_8e157 [.int (nI 2), .int (nI 5), .null] h (some (.int (nI 2))) h := by
  refine mv_Kof ?_
  show mv_g ev mJ3_checkIndex_8e157 0 [.int (nI 2), .int (nI 5), .null] [] h _
  refine mv_iload_n dJ3_checkIndex_8e157_0 rfl ?_
  refine mv_if_lt (tgt := 9) dJ3_checkIndex_8e157_1 (by decide) (fun z => absurd z ((by decide))) (fun c1 => ?_)
  refine mv_iload_n dJ3_checkIndex_8e157_4 rfl ?_
  refine mv_iload_n dJ3_checkIndex_8e157_5 rfl ?_
  refine mv_icmp_lt (tgt := 16) dJ3_checkIndex_8e157_6 (by decide) (fun c6 => ?_) (fun z => absurd ((by decide)) z)
  refine mv_iload_n dJ3_checkIndex_8e157_16 rfl ?_
  exact mv_iret dJ3_checkIndex_8e157_17 rfl rfl ⟨rfl, rfl⟩
set_option maxRecDepth 100000 in
theorem k_J0ciN_2_5 {ev : mv_E} {h : mv_H}  (hE : ev.2.2 = .null) : mv_K ev mJ0_checkIndex_df160 [.int (nI 2), .int (nI 5)] h (none) h := by
  refine mv_Kof ?_
  show mv_g ev mJ0_checkIndex_df160 0 [.int (nI 2), .int (nI 5)] [] h _
  refine mv_iload_n dJ0_checkIndex_df160_0 rfl ?_
  refine mv_iload_n dJ0_checkIndex_df160_1 rfl ?_
  refine mv_gets (v := ev.2.2) dJ0_checkIndex_df160_2 (List.mem_of_getElem? (i := 4) rfl) wd_503 ?_
  rw [hE]
  refine mv_cS3 dJ0_checkIndex_df160_5 lk_J0_checkIndex_df160_1059 (Nat.le_of_ble_eq_true rfl) (Nat.le_of_ble_eq_true rfl) (k_J3N_2_5 (ev := ev)) ?_
  refine mv_pop dJ0_checkIndex_df160_8 rfl ?_
  exact mv_vret dJ0_checkIndex_df160_9 rfl ⟨rfl, rfl⟩
theorem k_J0ci_2_5 {ev : mv_E} {h : mv_H} (hE : q_E ev) : mv_K ev mJ0_checkIndex_df160 [.int (nI 2), .int (nI 5)] h none h := by
  rcases hE with e | ⟨x, e⟩
  · exact k_J0ciN_2_5 e
  · exact k_J0ciR_2_5 e
set_option maxRecDepth 100000 in
theorem k_J1_3_2 {ev : mv_E} {h : mv_H}  (hE : q_E ev) : mv_K ev mJ1_charAt_3b067 [.ref 1000033, .int (nI 2)] h (some (.int (nI 116))) h := by
  refine mv_Kof ?_
  show mv_g ev mJ1_charAt_3b067 0 [.ref 1000033, .int (nI 2)] [] h _
  refine mv_iload_n dJ1_charAt_3b067_0 rfl ?_
  refine mv_aload_n dJ1_charAt_3b067_1 rfl ?_
  refine mv_blen (a := 1000033) dJ1_charAt_3b067_2 (List.mem_of_getElem? (i := 3) rfl) ?_
  refine mv_cS2 dJ1_charAt_3b067_3 lk_J1_charAt_3b067_9 (Nat.le_of_ble_eq_true rfl) (Nat.le_of_ble_eq_true rfl) (k_J0ci_2_5 (ev := ev) hE) ?_
  refine mv_aload_n dJ1_charAt_3b067_6 rfl ?_
  refine mv_iload_n dJ1_charAt_3b067_7 rfl ?_
  refine mv_bald (a := 1000033) dJ1_charAt_3b067_8 (List.mem_of_getElem? (i := 3) rfl) (vp_in_nI (by decide) (by decide)) ?_
  refine mv_sipush (v := nI 255) dJ1_charAt_3b067_9 (by decide) ?_
  refine mv_iand dJ1_charAt_3b067_12 ?_
  refine mv_topI (y := nI 116) (by decide) ?_
  refine mv_i2c dJ1_charAt_3b067_13 ?_
  refine mv_topI (y := nI 116) (by decide) ?_
  exact mv_iret dJ1_charAt_3b067_14 rfl rfl ⟨rfl, rfl⟩
set_option maxRecDepth 100000 in
theorem k_J0c_3_2 {ev : mv_E} {h : mv_H}  (hE : q_E ev) : mv_K ev mJ0_charAt_5068e [.ref 1000023, .int (nI 2)] h (some (.int (nI 116))) h := by
  refine mv_Kof ?_
  show mv_g ev mJ0_charAt_5068e 0 [.ref 1000023, .int (nI 2)] [] h _
  refine mv_aload_n dJ0_charAt_5068e_0 rfl ?_
  refine mv_cR0 dJ0_charAt_5068e_1 lk_J0_charAt_5068e_492 (List.mem_of_getElem? (i := 3) rfl) rfl (Nat.le_of_ble_eq_true rfl) (Nat.le_of_ble_eq_true rfl) (k_J0_isLatin1_3 (ev := ev)) ?_
  refine mv_if_eq (tgt := 16) dJ0_charAt_5068e_4 (by decide) (fun z => absurd z ((by decide))) (fun c4 => ?_)
  refine mv_aload_n dJ0_charAt_5068e_7 rfl ?_
  refine mv_getv (i := 1000023) (b := 1000033) dJ0_charAt_5068e_8 (List.mem_of_getElem? (i := 3) rfl) wd_1661 ?_
  refine mv_iload_n dJ0_charAt_5068e_11 rfl ?_
  refine mv_cS2 dJ0_charAt_5068e_12 lk_J0_charAt_5068e_495 (Nat.le_of_ble_eq_true rfl) (Nat.le_of_ble_eq_true rfl) (k_J1_3_2 (ev := ev) hE) ?_
  exact mv_iret dJ0_charAt_5068e_15 rfl rfl ⟨rfl, rfl⟩
set_option maxRecDepth 100000 in
theorem k_J3R_3_5 {ev : mv_E} {h : mv_H} {x : Nat}   : mv_K ev mJ3_checkIndex_8e157 [.int (nI 3), .int (nI 5), .ref x] h (some (.int (nI 3))) h := by
  refine mv_Kof ?_
  show mv_g ev mJ3_checkIndex_8e157 0 [.int (nI 3), .int (nI 5), .ref x] [] h _
  refine mv_iload_n dJ3_checkIndex_8e157_0 rfl ?_
  refine mv_if_lt (tgt := 9) dJ3_checkIndex_8e157_1 (by decide) (fun z => absurd z ((by decide))) (fun c1 => ?_)
  refine mv_iload_n dJ3_checkIndex_8e157_4 rfl ?_
  refine mv_iload_n dJ3_checkIndex_8e157_5 rfl ?_
  refine mv_icmp_lt (tgt := 16) dJ3_checkIndex_8e157_6 (by decide) (fun c6 => ?_) (fun z => absurd ((by decide)) z)
  refine mv_iload_n dJ3_checkIndex_8e157_16 rfl ?_
  exact mv_iret dJ3_checkIndex_8e157_17 rfl rfl ⟨rfl, rfl⟩
set_option maxRecDepth 100000 in
theorem k_J0ciR_3_5 {ev : mv_E} {h : mv_H} {x : Nat}  (hE : ev.2.2 = .ref x) : mv_K ev mJ0_checkIndex_df160 [.int (nI 3), .int (nI 5)] h (none) h := by
  refine mv_Kof ?_
  show mv_g ev mJ0_checkIndex_df160 0 [.int (nI 3), .int (nI 5)] [] h _
  refine mv_iload_n dJ0_checkIndex_df160_0 rfl ?_
  refine mv_iload_n dJ0_checkIndex_df160_1 rfl ?_
  refine mv_gets (v := ev.2.2) dJ0_checkIndex_df160_2 (List.mem_of_getElem? (i := 4) rfl) wd_503 ?_
  rw [hE]
  refine mv_cS3 dJ0_checkIndex_df160_5 lk_J0_checkIndex_df160_1059 (Nat.le_of_ble_eq_true rfl) (Nat.le_of_ble_eq_true rfl) (k_J3R_3_5 (ev := ev)) ?_
  refine mv_pop dJ0_checkIndex_df160_8 rfl ?_
  exact mv_vret dJ0_checkIndex_df160_9 rfl ⟨rfl, rfl⟩
set_option maxRecDepth 100000 in
theorem k_J3N_3_5 {ev : mv_E} {h : mv_H}   : mv_K ev mJ3_checkIndex_8e157 [.int (nI 3), .int (nI 5), .null] h (some (.int (nI 3))) h := by
  refine mv_Kof ?_
  show mv_g ev mJ3_checkIndex_8e157 0 [.int (nI 3), .int (nI 5), .null] [] h _
  refine mv_iload_n dJ3_checkIndex_8e157_0 rfl ?_
  refine mv_if_lt (tgt := 9) dJ3_checkIndex_8e157_1 (by decide) (fun z => absurd z ((by decide))) (fun c1 => ?_)
  refine mv_iload_n dJ3_checkIndex_8e157_4 rfl ?_
  refine mv_iload_n dJ3_checkIndex_8e157_5 rfl ?_
  refine mv_icmp_lt (tgt := 16) dJ3_checkIndex_8e157_6 (by decide) (fun c6 => ?_) (fun z => absurd ((by decide)) z)
  refine mv_iload_n dJ3_checkIndex_8e157_16 rfl ?_
  exact mv_iret dJ3_checkIndex_8e157_17 rfl rfl ⟨rfl, rfl⟩
set_option maxRecDepth 100000 in
theorem k_J0ciN_3_5 {ev : mv_E} {h : mv_H}  (hE : ev.2.2 = .null) : mv_K ev mJ0_checkIndex_df160 [.int (nI 3), .int (nI 5)] h (none) h := by
  refine mv_Kof ?_
  show mv_g ev mJ0_checkIndex_df160 0 [.int (nI 3), .int (nI 5)] [] h _
  refine mv_iload_n dJ0_checkIndex_df160_0 rfl ?_
  refine mv_iload_n dJ0_checkIndex_df160_1 rfl ?_
  refine mv_gets (v := ev.2.2) dJ0_checkIndex_df160_2 (List.mem_of_getElem? (i := 4) rfl) wd_503 ?_
  rw [hE]
  refine mv_cS3 dJ0_checkIndex_df160_5 lk_J0_checkIndex_df160_1059 (Nat.le_of_ble_eq_true rfl) (Nat.le_of_ble_eq_true rfl) (k_J3N_3_5 (ev := ev)) ?_
  refine mv_pop dJ0_checkIndex_df160_8 rfl ?_
  exact mv_vret dJ0_checkIndex_df160_9 rfl ⟨rfl, rfl⟩
theorem k_J0ci_3_5 {ev : mv_E} {h : mv_H} (hE : q_E ev) : mv_K ev mJ0_checkIndex_df160 [.int (nI 3), .int (nI 5)] h none h := by
  rcases hE with e | ⟨x, e⟩
  · exact k_J0ciN_3_5 e
  · exact k_J0ciR_3_5 e
set_option maxRecDepth 100000 in
theorem k_J1_3_3 {ev : mv_E} {h : mv_H}  (hE : q_E ev) : mv_K ev mJ1_charAt_3b067 [.ref 1000033, .int (nI 3)] h (some (.int (nI 101))) h := by
  refine mv_Kof ?_
  show mv_g ev mJ1_charAt_3b067 0 [.ref 1000033, .int (nI 3)] [] h _
  refine mv_iload_n dJ1_charAt_3b067_0 rfl ?_
  refine mv_aload_n dJ1_charAt_3b067_1 rfl ?_
  refine mv_blen (a := 1000033) dJ1_charAt_3b067_2 (List.mem_of_getElem? (i := 3) rfl) ?_
  refine mv_cS2 dJ1_charAt_3b067_3 lk_J1_charAt_3b067_9 (Nat.le_of_ble_eq_true rfl) (Nat.le_of_ble_eq_true rfl) (k_J0ci_3_5 (ev := ev) hE) ?_
  refine mv_aload_n dJ1_charAt_3b067_6 rfl ?_
  refine mv_iload_n dJ1_charAt_3b067_7 rfl ?_
  refine mv_bald (a := 1000033) dJ1_charAt_3b067_8 (List.mem_of_getElem? (i := 3) rfl) (vp_in_nI (by decide) (by decide)) ?_
  refine mv_sipush (v := nI 255) dJ1_charAt_3b067_9 (by decide) ?_
  refine mv_iand dJ1_charAt_3b067_12 ?_
  refine mv_topI (y := nI 101) (by decide) ?_
  refine mv_i2c dJ1_charAt_3b067_13 ?_
  refine mv_topI (y := nI 101) (by decide) ?_
  exact mv_iret dJ1_charAt_3b067_14 rfl rfl ⟨rfl, rfl⟩
set_option maxRecDepth 100000 in
theorem k_J0c_3_3 {ev : mv_E} {h : mv_H}  (hE : q_E ev) : mv_K ev mJ0_charAt_5068e [.ref 1000023, .int (nI 3)] h (some (.int (nI 101))) h := by
  refine mv_Kof ?_
  show mv_g ev mJ0_charAt_5068e 0 [.ref 1000023, .int (nI 3)] [] h _
  refine mv_aload_n dJ0_charAt_5068e_0 rfl ?_
  refine mv_cR0 dJ0_charAt_5068e_1 lk_J0_charAt_5068e_492 (List.mem_of_getElem? (i := 3) rfl) rfl (Nat.le_of_ble_eq_true rfl) (Nat.le_of_ble_eq_true rfl) (k_J0_isLatin1_3 (ev := ev)) ?_
  refine mv_if_eq (tgt := 16) dJ0_charAt_5068e_4 (by decide) (fun z => absurd z ((by decide))) (fun c4 => ?_)
  refine mv_aload_n dJ0_charAt_5068e_7 rfl ?_
  refine mv_getv (i := 1000023) (b := 1000033) dJ0_charAt_5068e_8 (List.mem_of_getElem? (i := 3) rfl) wd_1661 ?_
  refine mv_iload_n dJ0_charAt_5068e_11 rfl ?_
  refine mv_cS2 dJ0_charAt_5068e_12 lk_J0_charAt_5068e_495 (Nat.le_of_ble_eq_true rfl) (Nat.le_of_ble_eq_true rfl) (k_J1_3_3 (ev := ev) hE) ?_
  exact mv_iret dJ0_charAt_5068e_15 rfl rfl ⟨rfl, rfl⟩
set_option maxRecDepth 100000 in
theorem k_J3R_4_5 {ev : mv_E} {h : mv_H} {x : Nat}   : mv_K ev mJ3_checkIndex_8e157 [.int (nI 4), .int (nI 5), .ref x] h (some (.int (nI 4))) h := by
  refine mv_Kof ?_
  show mv_g ev mJ3_checkIndex_8e157 0 [.int (nI 4), .int (nI 5), .ref x] [] h _
  refine mv_iload_n dJ3_checkIndex_8e157_0 rfl ?_
  refine mv_if_lt (tgt := 9) dJ3_checkIndex_8e157_1 (by decide) (fun z => absurd z ((by decide))) (fun c1 => ?_)
  refine mv_iload_n dJ3_checkIndex_8e157_4 rfl ?_
  refine mv_iload_n dJ3_checkIndex_8e157_5 rfl ?_
  refine mv_icmp_lt (tgt := 16) dJ3_checkIndex_8e157_6 (by decide) (fun c6 => ?_) (fun z => absurd ((by decide)) z)
  refine mv_iload_n dJ3_checkIndex_8e157_16 rfl ?_
  exact mv_iret dJ3_checkIndex_8e157_17 rfl rfl ⟨rfl, rfl⟩
set_option maxRecDepth 100000 in
theorem k_J0ciR_4_5 {ev : mv_E} {h : mv_H} {x : Nat}  (hE : ev.2.2 = .ref x) : mv_K ev mJ0_checkIndex_df160 [.int (nI 4), .int (nI 5)] h (none) h := by
  refine mv_Kof ?_
  show mv_g ev mJ0_checkIndex_df160 0 [.int (nI 4), .int (nI 5)] [] h _
  refine mv_iload_n dJ0_checkIndex_df160_0 rfl ?_
  refine mv_iload_n dJ0_checkIndex_df160_1 rfl ?_
  refine mv_gets (v := ev.2.2) dJ0_checkIndex_df160_2 (List.mem_of_getElem? (i := 4) rfl) wd_503 ?_
  rw [hE]
  refine mv_cS3 dJ0_checkIndex_df160_5 lk_J0_checkIndex_df160_1059 (Nat.le_of_ble_eq_true rfl) (Nat.le_of_ble_eq_true rfl) (k_J3R_4_5 (ev := ev)) ?_
  refine mv_pop dJ0_checkIndex_df160_8 rfl ?_
  exact mv_vret dJ0_checkIndex_df160_9 rfl ⟨rfl, rfl⟩
set_option maxRecDepth 100000 in
theorem k_J3N_4_5 {ev : mv_E} {h : mv_H}   : mv_K ev mJ3_checkIndex_8e157 [.int (nI 4), .int (nI 5), .null] h (some (.int (nI 4))) h := by
  refine mv_Kof ?_
  show mv_g ev mJ3_checkIndex_8e157 0 [.int (nI 4), .int (nI 5), .null] [] h _
  refine mv_iload_n dJ3_checkIndex_8e157_0 rfl ?_
  refine mv_if_lt (tgt := 9) dJ3_checkIndex_8e157_1 (by decide) (fun z => absurd z ((by decide))) (fun c1 => ?_)
  refine mv_iload_n dJ3_checkIndex_8e157_4 rfl ?_
  refine mv_iload_n dJ3_checkIndex_8e157_5 rfl ?_
  refine mv_icmp_lt (tgt := 16) dJ3_checkIndex_8e157_6 (by decide) (fun c6 => ?_) (fun z => absurd ((by decide)) z)
  refine mv_iload_n dJ3_checkIndex_8e157_16 rfl ?_
  exact mv_iret dJ3_checkIndex_8e157_17 rfl rfl ⟨rfl, rfl⟩
set_option maxRecDepth 100000 in
theorem k_J0ciN_4_5 {ev : mv_E} {h : mv_H}  (hE : ev.2.2 = .null) : mv_K ev mJ0_checkIndex_df160 [.int (nI 4), .int (nI 5)] h (none) h := by
  refine mv_Kof ?_
  show mv_g ev mJ0_checkIndex_df160 0 [.int (nI 4), .int (nI 5)] [] h _
  refine mv_iload_n dJ0_checkIndex_df160_0 rfl ?_
  refine mv_iload_n dJ0_checkIndex_df160_1 rfl ?_
  refine mv_gets (v := ev.2.2) dJ0_checkIndex_df160_2 (List.mem_of_getElem? (i := 4) rfl) wd_503 ?_
  rw [hE]
  refine mv_cS3 dJ0_checkIndex_df160_5 lk_J0_checkIndex_df160_1059 (Nat.le_of_ble_eq_true rfl) (Nat.le_of_ble_eq_true rfl) (k_J3N_4_5 (ev := ev)) ?_
  refine mv_pop dJ0_checkIndex_df160_8 rfl ?_
  exact mv_vret dJ0_checkIndex_df160_9 rfl ⟨rfl, rfl⟩
theorem k_J0ci_4_5 {ev : mv_E} {h : mv_H} (hE : q_E ev) : mv_K ev mJ0_checkIndex_df160 [.int (nI 4), .int (nI 5)] h none h := by
  rcases hE with e | ⟨x, e⟩
  · exact k_J0ciN_4_5 e
  · exact k_J0ciR_4_5 e
set_option maxRecDepth 100000 in
theorem k_J1_3_4 {ev : mv_E} {h : mv_H}  (hE : q_E ev) : mv_K ev mJ1_charAt_3b067 [.ref 1000033, .int (nI 4)] h (some (.int (nI 114))) h := by
  refine mv_Kof ?_
  show mv_g ev mJ1_charAt_3b067 0 [.ref 1000033, .int (nI 4)] [] h _
  refine mv_iload_n dJ1_charAt_3b067_0 rfl ?_
  refine mv_aload_n dJ1_charAt_3b067_1 rfl ?_
  refine mv_blen (a := 1000033) dJ1_charAt_3b067_2 (List.mem_of_getElem? (i := 3) rfl) ?_
  refine mv_cS2 dJ1_charAt_3b067_3 lk_J1_charAt_3b067_9 (Nat.le_of_ble_eq_true rfl) (Nat.le_of_ble_eq_true rfl) (k_J0ci_4_5 (ev := ev) hE) ?_
  refine mv_aload_n dJ1_charAt_3b067_6 rfl ?_
  refine mv_iload_n dJ1_charAt_3b067_7 rfl ?_
  refine mv_bald (a := 1000033) dJ1_charAt_3b067_8 (List.mem_of_getElem? (i := 3) rfl) (vp_in_nI (by decide) (by decide)) ?_
  refine mv_sipush (v := nI 255) dJ1_charAt_3b067_9 (by decide) ?_
  refine mv_iand dJ1_charAt_3b067_12 ?_
  refine mv_topI (y := nI 114) (by decide) ?_
  refine mv_i2c dJ1_charAt_3b067_13 ?_
  refine mv_topI (y := nI 114) (by decide) ?_
  exact mv_iret dJ1_charAt_3b067_14 rfl rfl ⟨rfl, rfl⟩
set_option maxRecDepth 100000 in
theorem k_J0c_3_4 {ev : mv_E} {h : mv_H}  (hE : q_E ev) : mv_K ev mJ0_charAt_5068e [.ref 1000023, .int (nI 4)] h (some (.int (nI 114))) h := by
  refine mv_Kof ?_
  show mv_g ev mJ0_charAt_5068e 0 [.ref 1000023, .int (nI 4)] [] h _
  refine mv_aload_n dJ0_charAt_5068e_0 rfl ?_
  refine mv_cR0 dJ0_charAt_5068e_1 lk_J0_charAt_5068e_492 (List.mem_of_getElem? (i := 3) rfl) rfl (Nat.le_of_ble_eq_true rfl) (Nat.le_of_ble_eq_true rfl) (k_J0_isLatin1_3 (ev := ev)) ?_
  refine mv_if_eq (tgt := 16) dJ0_charAt_5068e_4 (by decide) (fun z => absurd z ((by decide))) (fun c4 => ?_)
  refine mv_aload_n dJ0_charAt_5068e_7 rfl ?_
  refine mv_getv (i := 1000023) (b := 1000033) dJ0_charAt_5068e_8 (List.mem_of_getElem? (i := 3) rfl) wd_1661 ?_
  refine mv_iload_n dJ0_charAt_5068e_11 rfl ?_
  refine mv_cS2 dJ0_charAt_5068e_12 lk_J0_charAt_5068e_495 (Nat.le_of_ble_eq_true rfl) (Nat.le_of_ble_eq_true rfl) (k_J1_3_4 (ev := ev) hE) ?_
  exact mv_iret dJ0_charAt_5068e_15 rfl rfl ⟨rfl, rfl⟩
set_option maxRecDepth 100000 in
theorem k_J0_coder_4 {ev : mv_E} {h : mv_H}   : mv_K ev mJ0_coder_7d493 [.ref 1000024] h (some (.int (nI 0))) h := by
  refine mv_Kof ?_
  show mv_g ev mJ0_coder_7d493 0 [.ref 1000024] [] h _
  refine mv_gets (v := .int (nI 1)) dJ0_coder_7d493_0 (List.mem_of_getElem? (i := 3) rfl) wd_487 ?_
  refine mv_if_eq (tgt := 13) dJ0_coder_7d493_3 (by decide) (fun z => absurd z ((by decide))) (fun c3 => ?_)
  refine mv_aload_n dJ0_coder_7d493_6 rfl ?_
  refine mv_getc (i := 1000024) (b := 1000034) dJ0_coder_7d493_7 (List.mem_of_getElem? (i := 4) rfl) wd_1662 ?_
  refine mv_goto (tgt := 14) dJ0_coder_7d493_10 (by decide) ?_
  exact mv_iret dJ0_coder_7d493_14 rfl rfl ⟨rfl, rfl⟩
set_option maxRecDepth 100000 in
theorem k_J0_isLatin1_4 {ev : mv_E} {h : mv_H}   : mv_K ev mJ0_isLatin1_aae02 [.ref 1000024] h (some (.int (nI 1))) h := by
  refine mv_Kof ?_
  show mv_g ev mJ0_isLatin1_aae02 0 [.ref 1000024] [] h _
  refine mv_gets (v := .int (nI 1)) dJ0_isLatin1_aae02_0 (List.mem_of_getElem? (i := 3) rfl) wd_487 ?_
  refine mv_if_eq (tgt := 17) dJ0_isLatin1_aae02_3 (by decide) (fun z => absurd z ((by decide))) (fun c3 => ?_)
  refine mv_aload_n dJ0_isLatin1_aae02_6 rfl ?_
  refine mv_getc (i := 1000024) (b := 1000034) dJ0_isLatin1_aae02_7 (List.mem_of_getElem? (i := 4) rfl) wd_1662 ?_
  refine mv_if_ne (tgt := 17) dJ0_isLatin1_aae02_10 (by decide) (fun z => absurd ((by decide)) z) (fun c10 => ?_)
  refine mv_iconst (v := nI 1) dJ0_isLatin1_aae02_13 (by decide) ?_
  refine mv_goto (tgt := 18) dJ0_isLatin1_aae02_14 (by decide) ?_
  exact mv_iret dJ0_isLatin1_aae02_18 rfl rfl ⟨rfl, rfl⟩
set_option maxRecDepth 100000 in
theorem k_J0_length_4 {ev : mv_E} {h : mv_H}   : mv_K ev mJ0_length_8abf5 [.ref 1000024] h (some (.int (nI 4))) h := by
  refine mv_Kof ?_
  show mv_g ev mJ0_length_8abf5 0 [.ref 1000024] [] h _
  refine mv_aload_n dJ0_length_8abf5_0 rfl ?_
  refine mv_getv (i := 1000024) (b := 1000034) dJ0_length_8abf5_1 (List.mem_of_getElem? (i := 4) rfl) wd_1661 ?_
  refine mv_blen (a := 1000034) dJ0_length_8abf5_4 (List.mem_of_getElem? (i := 4) rfl) ?_
  refine mv_aload_n dJ0_length_8abf5_5 rfl ?_
  refine mv_cR0 dJ0_length_8abf5_6 lk_J0_length_8abf5_335 (List.mem_of_getElem? (i := 4) rfl) rfl (Nat.le_of_ble_eq_true rfl) (Nat.le_of_ble_eq_true rfl) (k_J0_coder_4 (ev := ev)) ?_
  refine mv_ishr dJ0_length_8abf5_9 ?_
  refine mv_topI (y := nI 4) (by decide) ?_
  exact mv_iret dJ0_length_8abf5_10 rfl rfl ⟨rfl, rfl⟩
set_option maxRecDepth 100000 in
theorem k_J1_4_0 {ev : mv_E} {h : mv_H}  (hE : q_E ev) : mv_K ev mJ1_charAt_3b067 [.ref 1000034, .int (nI 0)] h (some (.int (nI 100))) h := by
  refine mv_Kof ?_
  show mv_g ev mJ1_charAt_3b067 0 [.ref 1000034, .int (nI 0)] [] h _
  refine mv_iload_n dJ1_charAt_3b067_0 rfl ?_
  refine mv_aload_n dJ1_charAt_3b067_1 rfl ?_
  refine mv_blen (a := 1000034) dJ1_charAt_3b067_2 (List.mem_of_getElem? (i := 4) rfl) ?_
  refine mv_cS2 dJ1_charAt_3b067_3 lk_J1_charAt_3b067_9 (Nat.le_of_ble_eq_true rfl) (Nat.le_of_ble_eq_true rfl) (k_J0ci_0_4 (ev := ev) hE) ?_
  refine mv_aload_n dJ1_charAt_3b067_6 rfl ?_
  refine mv_iload_n dJ1_charAt_3b067_7 rfl ?_
  refine mv_bald (a := 1000034) dJ1_charAt_3b067_8 (List.mem_of_getElem? (i := 4) rfl) (vp_in_nI (by decide) (by decide)) ?_
  refine mv_sipush (v := nI 255) dJ1_charAt_3b067_9 (by decide) ?_
  refine mv_iand dJ1_charAt_3b067_12 ?_
  refine mv_topI (y := nI 100) (by decide) ?_
  refine mv_i2c dJ1_charAt_3b067_13 ?_
  refine mv_topI (y := nI 100) (by decide) ?_
  exact mv_iret dJ1_charAt_3b067_14 rfl rfl ⟨rfl, rfl⟩
set_option maxRecDepth 100000 in
theorem k_J0c_4_0 {ev : mv_E} {h : mv_H}  (hE : q_E ev) : mv_K ev mJ0_charAt_5068e [.ref 1000024, .int (nI 0)] h (some (.int (nI 100))) h := by
  refine mv_Kof ?_
  show mv_g ev mJ0_charAt_5068e 0 [.ref 1000024, .int (nI 0)] [] h _
  refine mv_aload_n dJ0_charAt_5068e_0 rfl ?_
  refine mv_cR0 dJ0_charAt_5068e_1 lk_J0_charAt_5068e_492 (List.mem_of_getElem? (i := 4) rfl) rfl (Nat.le_of_ble_eq_true rfl) (Nat.le_of_ble_eq_true rfl) (k_J0_isLatin1_4 (ev := ev)) ?_
  refine mv_if_eq (tgt := 16) dJ0_charAt_5068e_4 (by decide) (fun z => absurd z ((by decide))) (fun c4 => ?_)
  refine mv_aload_n dJ0_charAt_5068e_7 rfl ?_
  refine mv_getv (i := 1000024) (b := 1000034) dJ0_charAt_5068e_8 (List.mem_of_getElem? (i := 4) rfl) wd_1661 ?_
  refine mv_iload_n dJ0_charAt_5068e_11 rfl ?_
  refine mv_cS2 dJ0_charAt_5068e_12 lk_J0_charAt_5068e_495 (Nat.le_of_ble_eq_true rfl) (Nat.le_of_ble_eq_true rfl) (k_J1_4_0 (ev := ev) hE) ?_
  exact mv_iret dJ0_charAt_5068e_15 rfl rfl ⟨rfl, rfl⟩
set_option maxRecDepth 100000 in
theorem k_J1_4_1 {ev : mv_E} {h : mv_H}  (hE : q_E ev) : mv_K ev mJ1_charAt_3b067 [.ref 1000034, .int (nI 1)] h (some (.int (nI 97))) h := by
  refine mv_Kof ?_
  show mv_g ev mJ1_charAt_3b067 0 [.ref 1000034, .int (nI 1)] [] h _
  refine mv_iload_n dJ1_charAt_3b067_0 rfl ?_
  refine mv_aload_n dJ1_charAt_3b067_1 rfl ?_
  refine mv_blen (a := 1000034) dJ1_charAt_3b067_2 (List.mem_of_getElem? (i := 4) rfl) ?_
  refine mv_cS2 dJ1_charAt_3b067_3 lk_J1_charAt_3b067_9 (Nat.le_of_ble_eq_true rfl) (Nat.le_of_ble_eq_true rfl) (k_J0ci_1_4 (ev := ev) hE) ?_
  refine mv_aload_n dJ1_charAt_3b067_6 rfl ?_
  refine mv_iload_n dJ1_charAt_3b067_7 rfl ?_
  refine mv_bald (a := 1000034) dJ1_charAt_3b067_8 (List.mem_of_getElem? (i := 4) rfl) (vp_in_nI (by decide) (by decide)) ?_
  refine mv_sipush (v := nI 255) dJ1_charAt_3b067_9 (by decide) ?_
  refine mv_iand dJ1_charAt_3b067_12 ?_
  refine mv_topI (y := nI 97) (by decide) ?_
  refine mv_i2c dJ1_charAt_3b067_13 ?_
  refine mv_topI (y := nI 97) (by decide) ?_
  exact mv_iret dJ1_charAt_3b067_14 rfl rfl ⟨rfl, rfl⟩
set_option maxRecDepth 100000 in
theorem k_J0c_4_1 {ev : mv_E} {h : mv_H}  (hE : q_E ev) : mv_K ev mJ0_charAt_5068e [.ref 1000024, .int (nI 1)] h (some (.int (nI 97))) h := by
  refine mv_Kof ?_
  show mv_g ev mJ0_charAt_5068e 0 [.ref 1000024, .int (nI 1)] [] h _
  refine mv_aload_n dJ0_charAt_5068e_0 rfl ?_
  refine mv_cR0 dJ0_charAt_5068e_1 lk_J0_charAt_5068e_492 (List.mem_of_getElem? (i := 4) rfl) rfl (Nat.le_of_ble_eq_true rfl) (Nat.le_of_ble_eq_true rfl) (k_J0_isLatin1_4 (ev := ev)) ?_
  refine mv_if_eq (tgt := 16) dJ0_charAt_5068e_4 (by decide) (fun z => absurd z ((by decide))) (fun c4 => ?_)
  refine mv_aload_n dJ0_charAt_5068e_7 rfl ?_
  refine mv_getv (i := 1000024) (b := 1000034) dJ0_charAt_5068e_8 (List.mem_of_getElem? (i := 4) rfl) wd_1661 ?_
  refine mv_iload_n dJ0_charAt_5068e_11 rfl ?_
  refine mv_cS2 dJ0_charAt_5068e_12 lk_J0_charAt_5068e_495 (Nat.le_of_ble_eq_true rfl) (Nat.le_of_ble_eq_true rfl) (k_J1_4_1 (ev := ev) hE) ?_
  exact mv_iret dJ0_charAt_5068e_15 rfl rfl ⟨rfl, rfl⟩
set_option maxRecDepth 100000 in
theorem k_J1_4_2 {ev : mv_E} {h : mv_H}  (hE : q_E ev) : mv_K ev mJ1_charAt_3b067 [.ref 1000034, .int (nI 2)] h (some (.int (nI 121))) h := by
  refine mv_Kof ?_
  show mv_g ev mJ1_charAt_3b067 0 [.ref 1000034, .int (nI 2)] [] h _
  refine mv_iload_n dJ1_charAt_3b067_0 rfl ?_
  refine mv_aload_n dJ1_charAt_3b067_1 rfl ?_
  refine mv_blen (a := 1000034) dJ1_charAt_3b067_2 (List.mem_of_getElem? (i := 4) rfl) ?_
  refine mv_cS2 dJ1_charAt_3b067_3 lk_J1_charAt_3b067_9 (Nat.le_of_ble_eq_true rfl) (Nat.le_of_ble_eq_true rfl) (k_J0ci_2_4 (ev := ev) hE) ?_
  refine mv_aload_n dJ1_charAt_3b067_6 rfl ?_
  refine mv_iload_n dJ1_charAt_3b067_7 rfl ?_
  refine mv_bald (a := 1000034) dJ1_charAt_3b067_8 (List.mem_of_getElem? (i := 4) rfl) (vp_in_nI (by decide) (by decide)) ?_
  refine mv_sipush (v := nI 255) dJ1_charAt_3b067_9 (by decide) ?_
  refine mv_iand dJ1_charAt_3b067_12 ?_
  refine mv_topI (y := nI 121) (by decide) ?_
  refine mv_i2c dJ1_charAt_3b067_13 ?_
  refine mv_topI (y := nI 121) (by decide) ?_
  exact mv_iret dJ1_charAt_3b067_14 rfl rfl ⟨rfl, rfl⟩
set_option maxRecDepth 100000 in
theorem k_J0c_4_2 {ev : mv_E} {h : mv_H}  (hE : q_E ev) : mv_K ev mJ0_charAt_5068e [.ref 1000024, .int (nI 2)] h (some (.int (nI 121))) h := by
  refine mv_Kof ?_
  show mv_g ev mJ0_charAt_5068e 0 [.ref 1000024, .int (nI 2)] [] h _
  refine mv_aload_n dJ0_charAt_5068e_0 rfl ?_
  refine mv_cR0 dJ0_charAt_5068e_1 lk_J0_charAt_5068e_492 (List.mem_of_getElem? (i := 4) rfl) rfl (Nat.le_of_ble_eq_true rfl) (Nat.le_of_ble_eq_true rfl) (k_J0_isLatin1_4 (ev := ev)) ?_
  refine mv_if_eq (tgt := 16) dJ0_charAt_5068e_4 (by decide) (fun z => absurd z ((by decide))) (fun c4 => ?_)
  refine mv_aload_n dJ0_charAt_5068e_7 rfl ?_
  refine mv_getv (i := 1000024) (b := 1000034) dJ0_charAt_5068e_8 (List.mem_of_getElem? (i := 4) rfl) wd_1661 ?_
  refine mv_iload_n dJ0_charAt_5068e_11 rfl ?_
  refine mv_cS2 dJ0_charAt_5068e_12 lk_J0_charAt_5068e_495 (Nat.le_of_ble_eq_true rfl) (Nat.le_of_ble_eq_true rfl) (k_J1_4_2 (ev := ev) hE) ?_
  exact mv_iret dJ0_charAt_5068e_15 rfl rfl ⟨rfl, rfl⟩
set_option maxRecDepth 100000 in
theorem k_J1_4_3 {ev : mv_E} {h : mv_H}  (hE : q_E ev) : mv_K ev mJ1_charAt_3b067 [.ref 1000034, .int (nI 3)] h (some (.int (nI 115))) h := by
  refine mv_Kof ?_
  show mv_g ev mJ1_charAt_3b067 0 [.ref 1000034, .int (nI 3)] [] h _
  refine mv_iload_n dJ1_charAt_3b067_0 rfl ?_
  refine mv_aload_n dJ1_charAt_3b067_1 rfl ?_
  refine mv_blen (a := 1000034) dJ1_charAt_3b067_2 (List.mem_of_getElem? (i := 4) rfl) ?_
  refine mv_cS2 dJ1_charAt_3b067_3 lk_J1_charAt_3b067_9 (Nat.le_of_ble_eq_true rfl) (Nat.le_of_ble_eq_true rfl) (k_J0ci_3_4 (ev := ev) hE) ?_
  refine mv_aload_n dJ1_charAt_3b067_6 rfl ?_
  refine mv_iload_n dJ1_charAt_3b067_7 rfl ?_
  refine mv_bald (a := 1000034) dJ1_charAt_3b067_8 (List.mem_of_getElem? (i := 4) rfl) (vp_in_nI (by decide) (by decide)) ?_
  refine mv_sipush (v := nI 255) dJ1_charAt_3b067_9 (by decide) ?_
  refine mv_iand dJ1_charAt_3b067_12 ?_
  refine mv_topI (y := nI 115) (by decide) ?_
  refine mv_i2c dJ1_charAt_3b067_13 ?_
  refine mv_topI (y := nI 115) (by decide) ?_
  exact mv_iret dJ1_charAt_3b067_14 rfl rfl ⟨rfl, rfl⟩
set_option maxRecDepth 100000 in
theorem k_J0c_4_3 {ev : mv_E} {h : mv_H}  (hE : q_E ev) : mv_K ev mJ0_charAt_5068e [.ref 1000024, .int (nI 3)] h (some (.int (nI 115))) h := by
  refine mv_Kof ?_
  show mv_g ev mJ0_charAt_5068e 0 [.ref 1000024, .int (nI 3)] [] h _
  refine mv_aload_n dJ0_charAt_5068e_0 rfl ?_
  refine mv_cR0 dJ0_charAt_5068e_1 lk_J0_charAt_5068e_492 (List.mem_of_getElem? (i := 4) rfl) rfl (Nat.le_of_ble_eq_true rfl) (Nat.le_of_ble_eq_true rfl) (k_J0_isLatin1_4 (ev := ev)) ?_
  refine mv_if_eq (tgt := 16) dJ0_charAt_5068e_4 (by decide) (fun z => absurd z ((by decide))) (fun c4 => ?_)
  refine mv_aload_n dJ0_charAt_5068e_7 rfl ?_
  refine mv_getv (i := 1000024) (b := 1000034) dJ0_charAt_5068e_8 (List.mem_of_getElem? (i := 4) rfl) wd_1661 ?_
  refine mv_iload_n dJ0_charAt_5068e_11 rfl ?_
  refine mv_cS2 dJ0_charAt_5068e_12 lk_J0_charAt_5068e_495 (Nat.le_of_ble_eq_true rfl) (Nat.le_of_ble_eq_true rfl) (k_J1_4_3 (ev := ev) hE) ?_
  exact mv_iret dJ0_charAt_5068e_15 rfl rfl ⟨rfl, rfl⟩
set_option maxRecDepth 100000 in
theorem k_J0_coder_5 {ev : mv_E} {h : mv_H}   : mv_K ev mJ0_coder_7d493 [.ref 1000025] h (some (.int (nI 0))) h := by
  refine mv_Kof ?_
  show mv_g ev mJ0_coder_7d493 0 [.ref 1000025] [] h _
  refine mv_gets (v := .int (nI 1)) dJ0_coder_7d493_0 (List.mem_of_getElem? (i := 3) rfl) wd_487 ?_
  refine mv_if_eq (tgt := 13) dJ0_coder_7d493_3 (by decide) (fun z => absurd z ((by decide))) (fun c3 => ?_)
  refine mv_aload_n dJ0_coder_7d493_6 rfl ?_
  refine mv_getc (i := 1000025) (b := 1000035) dJ0_coder_7d493_7 (List.mem_of_getElem? (i := 5) rfl) wd_1662 ?_
  refine mv_goto (tgt := 14) dJ0_coder_7d493_10 (by decide) ?_
  exact mv_iret dJ0_coder_7d493_14 rfl rfl ⟨rfl, rfl⟩
set_option maxRecDepth 100000 in
theorem k_J0_isLatin1_5 {ev : mv_E} {h : mv_H}   : mv_K ev mJ0_isLatin1_aae02 [.ref 1000025] h (some (.int (nI 1))) h := by
  refine mv_Kof ?_
  show mv_g ev mJ0_isLatin1_aae02 0 [.ref 1000025] [] h _
  refine mv_gets (v := .int (nI 1)) dJ0_isLatin1_aae02_0 (List.mem_of_getElem? (i := 3) rfl) wd_487 ?_
  refine mv_if_eq (tgt := 17) dJ0_isLatin1_aae02_3 (by decide) (fun z => absurd z ((by decide))) (fun c3 => ?_)
  refine mv_aload_n dJ0_isLatin1_aae02_6 rfl ?_
  refine mv_getc (i := 1000025) (b := 1000035) dJ0_isLatin1_aae02_7 (List.mem_of_getElem? (i := 5) rfl) wd_1662 ?_
  refine mv_if_ne (tgt := 17) dJ0_isLatin1_aae02_10 (by decide) (fun z => absurd ((by decide)) z) (fun c10 => ?_)
  refine mv_iconst (v := nI 1) dJ0_isLatin1_aae02_13 (by decide) ?_
  refine mv_goto (tgt := 18) dJ0_isLatin1_aae02_14 (by decide) ?_
  exact mv_iret dJ0_isLatin1_aae02_18 rfl rfl ⟨rfl, rfl⟩
set_option maxRecDepth 100000 in
theorem k_J0_length_5 {ev : mv_E} {h : mv_H}   : mv_K ev mJ0_length_8abf5 [.ref 1000025] h (some (.int (nI 4))) h := by
  refine mv_Kof ?_
  show mv_g ev mJ0_length_8abf5 0 [.ref 1000025] [] h _
  refine mv_aload_n dJ0_length_8abf5_0 rfl ?_
  refine mv_getv (i := 1000025) (b := 1000035) dJ0_length_8abf5_1 (List.mem_of_getElem? (i := 5) rfl) wd_1661 ?_
  refine mv_blen (a := 1000035) dJ0_length_8abf5_4 (List.mem_of_getElem? (i := 5) rfl) ?_
  refine mv_aload_n dJ0_length_8abf5_5 rfl ?_
  refine mv_cR0 dJ0_length_8abf5_6 lk_J0_length_8abf5_335 (List.mem_of_getElem? (i := 5) rfl) rfl (Nat.le_of_ble_eq_true rfl) (Nat.le_of_ble_eq_true rfl) (k_J0_coder_5 (ev := ev)) ?_
  refine mv_ishr dJ0_length_8abf5_9 ?_
  refine mv_topI (y := nI 4) (by decide) ?_
  exact mv_iret dJ0_length_8abf5_10 rfl rfl ⟨rfl, rfl⟩
set_option maxRecDepth 100000 in
theorem k_J1_5_0 {ev : mv_E} {h : mv_H}  (hE : q_E ev) : mv_K ev mJ1_charAt_3b067 [.ref 1000035, .int (nI 0)] h (some (.int (nI 110))) h := by
  refine mv_Kof ?_
  show mv_g ev mJ1_charAt_3b067 0 [.ref 1000035, .int (nI 0)] [] h _
  refine mv_iload_n dJ1_charAt_3b067_0 rfl ?_
  refine mv_aload_n dJ1_charAt_3b067_1 rfl ?_
  refine mv_blen (a := 1000035) dJ1_charAt_3b067_2 (List.mem_of_getElem? (i := 5) rfl) ?_
  refine mv_cS2 dJ1_charAt_3b067_3 lk_J1_charAt_3b067_9 (Nat.le_of_ble_eq_true rfl) (Nat.le_of_ble_eq_true rfl) (k_J0ci_0_4 (ev := ev) hE) ?_
  refine mv_aload_n dJ1_charAt_3b067_6 rfl ?_
  refine mv_iload_n dJ1_charAt_3b067_7 rfl ?_
  refine mv_bald (a := 1000035) dJ1_charAt_3b067_8 (List.mem_of_getElem? (i := 5) rfl) (vp_in_nI (by decide) (by decide)) ?_
  refine mv_sipush (v := nI 255) dJ1_charAt_3b067_9 (by decide) ?_
  refine mv_iand dJ1_charAt_3b067_12 ?_
  refine mv_topI (y := nI 110) (by decide) ?_
  refine mv_i2c dJ1_charAt_3b067_13 ?_
  refine mv_topI (y := nI 110) (by decide) ?_
  exact mv_iret dJ1_charAt_3b067_14 rfl rfl ⟨rfl, rfl⟩
set_option maxRecDepth 100000 in
theorem k_J0c_5_0 {ev : mv_E} {h : mv_H}  (hE : q_E ev) : mv_K ev mJ0_charAt_5068e [.ref 1000025, .int (nI 0)] h (some (.int (nI 110))) h := by
  refine mv_Kof ?_
  show mv_g ev mJ0_charAt_5068e 0 [.ref 1000025, .int (nI 0)] [] h _
  refine mv_aload_n dJ0_charAt_5068e_0 rfl ?_
  refine mv_cR0 dJ0_charAt_5068e_1 lk_J0_charAt_5068e_492 (List.mem_of_getElem? (i := 5) rfl) rfl (Nat.le_of_ble_eq_true rfl) (Nat.le_of_ble_eq_true rfl) (k_J0_isLatin1_5 (ev := ev)) ?_
  refine mv_if_eq (tgt := 16) dJ0_charAt_5068e_4 (by decide) (fun z => absurd z ((by decide))) (fun c4 => ?_)
  refine mv_aload_n dJ0_charAt_5068e_7 rfl ?_
  refine mv_getv (i := 1000025) (b := 1000035) dJ0_charAt_5068e_8 (List.mem_of_getElem? (i := 5) rfl) wd_1661 ?_
  refine mv_iload_n dJ0_charAt_5068e_11 rfl ?_
  refine mv_cS2 dJ0_charAt_5068e_12 lk_J0_charAt_5068e_495 (Nat.le_of_ble_eq_true rfl) (Nat.le_of_ble_eq_true rfl) (k_J1_5_0 (ev := ev) hE) ?_
  exact mv_iret dJ0_charAt_5068e_15 rfl rfl ⟨rfl, rfl⟩
set_option maxRecDepth 100000 in
theorem k_J1_5_1 {ev : mv_E} {h : mv_H}  (hE : q_E ev) : mv_K ev mJ1_charAt_3b067 [.ref 1000035, .int (nI 1)] h (some (.int (nI 101))) h := by
  refine mv_Kof ?_
  show mv_g ev mJ1_charAt_3b067 0 [.ref 1000035, .int (nI 1)] [] h _
  refine mv_iload_n dJ1_charAt_3b067_0 rfl ?_
  refine mv_aload_n dJ1_charAt_3b067_1 rfl ?_
  refine mv_blen (a := 1000035) dJ1_charAt_3b067_2 (List.mem_of_getElem? (i := 5) rfl) ?_
  refine mv_cS2 dJ1_charAt_3b067_3 lk_J1_charAt_3b067_9 (Nat.le_of_ble_eq_true rfl) (Nat.le_of_ble_eq_true rfl) (k_J0ci_1_4 (ev := ev) hE) ?_
  refine mv_aload_n dJ1_charAt_3b067_6 rfl ?_
  refine mv_iload_n dJ1_charAt_3b067_7 rfl ?_
  refine mv_bald (a := 1000035) dJ1_charAt_3b067_8 (List.mem_of_getElem? (i := 5) rfl) (vp_in_nI (by decide) (by decide)) ?_
  refine mv_sipush (v := nI 255) dJ1_charAt_3b067_9 (by decide) ?_
  refine mv_iand dJ1_charAt_3b067_12 ?_
  refine mv_topI (y := nI 101) (by decide) ?_
  refine mv_i2c dJ1_charAt_3b067_13 ?_
  refine mv_topI (y := nI 101) (by decide) ?_
  exact mv_iret dJ1_charAt_3b067_14 rfl rfl ⟨rfl, rfl⟩
set_option maxRecDepth 100000 in
theorem k_J0c_5_1 {ev : mv_E} {h : mv_H}  (hE : q_E ev) : mv_K ev mJ0_charAt_5068e [.ref 1000025, .int (nI 1)] h (some (.int (nI 101))) h := by
  refine mv_Kof ?_
  show mv_g ev mJ0_charAt_5068e 0 [.ref 1000025, .int (nI 1)] [] h _
  refine mv_aload_n dJ0_charAt_5068e_0 rfl ?_
  refine mv_cR0 dJ0_charAt_5068e_1 lk_J0_charAt_5068e_492 (List.mem_of_getElem? (i := 5) rfl) rfl (Nat.le_of_ble_eq_true rfl) (Nat.le_of_ble_eq_true rfl) (k_J0_isLatin1_5 (ev := ev)) ?_
  refine mv_if_eq (tgt := 16) dJ0_charAt_5068e_4 (by decide) (fun z => absurd z ((by decide))) (fun c4 => ?_)
  refine mv_aload_n dJ0_charAt_5068e_7 rfl ?_
  refine mv_getv (i := 1000025) (b := 1000035) dJ0_charAt_5068e_8 (List.mem_of_getElem? (i := 5) rfl) wd_1661 ?_
  refine mv_iload_n dJ0_charAt_5068e_11 rfl ?_
  refine mv_cS2 dJ0_charAt_5068e_12 lk_J0_charAt_5068e_495 (Nat.le_of_ble_eq_true rfl) (Nat.le_of_ble_eq_true rfl) (k_J1_5_1 (ev := ev) hE) ?_
  exact mv_iret dJ0_charAt_5068e_15 rfl rfl ⟨rfl, rfl⟩
set_option maxRecDepth 100000 in
theorem k_J1_5_2 {ev : mv_E} {h : mv_H}  (hE : q_E ev) : mv_K ev mJ1_charAt_3b067 [.ref 1000035, .int (nI 2)] h (some (.int (nI 97))) h := by
  refine mv_Kof ?_
  show mv_g ev mJ1_charAt_3b067 0 [.ref 1000035, .int (nI 2)] [] h _
  refine mv_iload_n dJ1_charAt_3b067_0 rfl ?_
  refine mv_aload_n dJ1_charAt_3b067_1 rfl ?_
  refine mv_blen (a := 1000035) dJ1_charAt_3b067_2 (List.mem_of_getElem? (i := 5) rfl) ?_
  refine mv_cS2 dJ1_charAt_3b067_3 lk_J1_charAt_3b067_9 (Nat.le_of_ble_eq_true rfl) (Nat.le_of_ble_eq_true rfl) (k_J0ci_2_4 (ev := ev) hE) ?_
  refine mv_aload_n dJ1_charAt_3b067_6 rfl ?_
  refine mv_iload_n dJ1_charAt_3b067_7 rfl ?_
  refine mv_bald (a := 1000035) dJ1_charAt_3b067_8 (List.mem_of_getElem? (i := 5) rfl) (vp_in_nI (by decide) (by decide)) ?_
  refine mv_sipush (v := nI 255) dJ1_charAt_3b067_9 (by decide) ?_
  refine mv_iand dJ1_charAt_3b067_12 ?_
  refine mv_topI (y := nI 97) (by decide) ?_
  refine mv_i2c dJ1_charAt_3b067_13 ?_
  refine mv_topI (y := nI 97) (by decide) ?_
  exact mv_iret dJ1_charAt_3b067_14 rfl rfl ⟨rfl, rfl⟩
set_option maxRecDepth 100000 in
theorem k_J0c_5_2 {ev : mv_E} {h : mv_H}  (hE : q_E ev) : mv_K ev mJ0_charAt_5068e [.ref 1000025, .int (nI 2)] h (some (.int (nI 97))) h := by
  refine mv_Kof ?_
  show mv_g ev mJ0_charAt_5068e 0 [.ref 1000025, .int (nI 2)] [] h _
  refine mv_aload_n dJ0_charAt_5068e_0 rfl ?_
  refine mv_cR0 dJ0_charAt_5068e_1 lk_J0_charAt_5068e_492 (List.mem_of_getElem? (i := 5) rfl) rfl (Nat.le_of_ble_eq_true rfl) (Nat.le_of_ble_eq_true rfl) (k_J0_isLatin1_5 (ev := ev)) ?_
  refine mv_if_eq (tgt := 16) dJ0_charAt_5068e_4 (by decide) (fun z => absurd z ((by decide))) (fun c4 => ?_)
  refine mv_aload_n dJ0_charAt_5068e_7 rfl ?_
  refine mv_getv (i := 1000025) (b := 1000035) dJ0_charAt_5068e_8 (List.mem_of_getElem? (i := 5) rfl) wd_1661 ?_
  refine mv_iload_n dJ0_charAt_5068e_11 rfl ?_
  refine mv_cS2 dJ0_charAt_5068e_12 lk_J0_charAt_5068e_495 (Nat.le_of_ble_eq_true rfl) (Nat.le_of_ble_eq_true rfl) (k_J1_5_2 (ev := ev) hE) ?_
  exact mv_iret dJ0_charAt_5068e_15 rfl rfl ⟨rfl, rfl⟩
set_option maxRecDepth 100000 in
theorem k_J1_5_3 {ev : mv_E} {h : mv_H}  (hE : q_E ev) : mv_K ev mJ1_charAt_3b067 [.ref 1000035, .int (nI 3)] h (some (.int (nI 114))) h := by
  refine mv_Kof ?_
  show mv_g ev mJ1_charAt_3b067 0 [.ref 1000035, .int (nI 3)] [] h _
  refine mv_iload_n dJ1_charAt_3b067_0 rfl ?_
  refine mv_aload_n dJ1_charAt_3b067_1 rfl ?_
  refine mv_blen (a := 1000035) dJ1_charAt_3b067_2 (List.mem_of_getElem? (i := 5) rfl) ?_
  refine mv_cS2 dJ1_charAt_3b067_3 lk_J1_charAt_3b067_9 (Nat.le_of_ble_eq_true rfl) (Nat.le_of_ble_eq_true rfl) (k_J0ci_3_4 (ev := ev) hE) ?_
  refine mv_aload_n dJ1_charAt_3b067_6 rfl ?_
  refine mv_iload_n dJ1_charAt_3b067_7 rfl ?_
  refine mv_bald (a := 1000035) dJ1_charAt_3b067_8 (List.mem_of_getElem? (i := 5) rfl) (vp_in_nI (by decide) (by decide)) ?_
  refine mv_sipush (v := nI 255) dJ1_charAt_3b067_9 (by decide) ?_
  refine mv_iand dJ1_charAt_3b067_12 ?_
  refine mv_topI (y := nI 114) (by decide) ?_
  refine mv_i2c dJ1_charAt_3b067_13 ?_
  refine mv_topI (y := nI 114) (by decide) ?_
  exact mv_iret dJ1_charAt_3b067_14 rfl rfl ⟨rfl, rfl⟩
set_option maxRecDepth 100000 in
theorem k_J0c_5_3 {ev : mv_E} {h : mv_H}  (hE : q_E ev) : mv_K ev mJ0_charAt_5068e [.ref 1000025, .int (nI 3)] h (some (.int (nI 114))) h := by
  refine mv_Kof ?_
  show mv_g ev mJ0_charAt_5068e 0 [.ref 1000025, .int (nI 3)] [] h _
  refine mv_aload_n dJ0_charAt_5068e_0 rfl ?_
  refine mv_cR0 dJ0_charAt_5068e_1 lk_J0_charAt_5068e_492 (List.mem_of_getElem? (i := 5) rfl) rfl (Nat.le_of_ble_eq_true rfl) (Nat.le_of_ble_eq_true rfl) (k_J0_isLatin1_5 (ev := ev)) ?_
  refine mv_if_eq (tgt := 16) dJ0_charAt_5068e_4 (by decide) (fun z => absurd z ((by decide))) (fun c4 => ?_)
  refine mv_aload_n dJ0_charAt_5068e_7 rfl ?_
  refine mv_getv (i := 1000025) (b := 1000035) dJ0_charAt_5068e_8 (List.mem_of_getElem? (i := 5) rfl) wd_1661 ?_
  refine mv_iload_n dJ0_charAt_5068e_11 rfl ?_
  refine mv_cS2 dJ0_charAt_5068e_12 lk_J0_charAt_5068e_495 (Nat.le_of_ble_eq_true rfl) (Nat.le_of_ble_eq_true rfl) (k_J1_5_3 (ev := ev) hE) ?_
  exact mv_iret dJ0_charAt_5068e_15 rfl rfl ⟨rfl, rfl⟩
set_option maxRecDepth 100000 in
theorem k_J0_coder_6 {ev : mv_E} {h : mv_H}   : mv_K ev mJ0_coder_7d493 [.ref 1000026] h (some (.int (nI 0))) h := by
  refine mv_Kof ?_
  show mv_g ev mJ0_coder_7d493 0 [.ref 1000026] [] h _
  refine mv_gets (v := .int (nI 1)) dJ0_coder_7d493_0 (List.mem_of_getElem? (i := 3) rfl) wd_487 ?_
  refine mv_if_eq (tgt := 13) dJ0_coder_7d493_3 (by decide) (fun z => absurd z ((by decide))) (fun c3 => ?_)
  refine mv_aload_n dJ0_coder_7d493_6 rfl ?_
  refine mv_getc (i := 1000026) (b := 1000036) dJ0_coder_7d493_7 (List.mem_of_getElem? (i := 6) rfl) wd_1662 ?_
  refine mv_goto (tgt := 14) dJ0_coder_7d493_10 (by decide) ?_
  exact mv_iret dJ0_coder_7d493_14 rfl rfl ⟨rfl, rfl⟩
set_option maxRecDepth 100000 in
theorem k_J0_isLatin1_6 {ev : mv_E} {h : mv_H}   : mv_K ev mJ0_isLatin1_aae02 [.ref 1000026] h (some (.int (nI 1))) h := by
  refine mv_Kof ?_
  show mv_g ev mJ0_isLatin1_aae02 0 [.ref 1000026] [] h _
  refine mv_gets (v := .int (nI 1)) dJ0_isLatin1_aae02_0 (List.mem_of_getElem? (i := 3) rfl) wd_487 ?_
  refine mv_if_eq (tgt := 17) dJ0_isLatin1_aae02_3 (by decide) (fun z => absurd z ((by decide))) (fun c3 => ?_)
  refine mv_aload_n dJ0_isLatin1_aae02_6 rfl ?_
  refine mv_getc (i := 1000026) (b := 1000036) dJ0_isLatin1_aae02_7 (List.mem_of_getElem? (i := 6) rfl) wd_1662 ?_
  refine mv_if_ne (tgt := 17) dJ0_isLatin1_aae02_10 (by decide) (fun z => absurd ((by decide)) z) (fun c10 => ?_)
  refine mv_iconst (v := nI 1) dJ0_isLatin1_aae02_13 (by decide) ?_
  refine mv_goto (tgt := 18) dJ0_isLatin1_aae02_14 (by decide) ?_
  exact mv_iret dJ0_isLatin1_aae02_18 rfl rfl ⟨rfl, rfl⟩
set_option maxRecDepth 100000 in
theorem k_J0_length_6 {ev : mv_E} {h : mv_H}   : mv_K ev mJ0_length_8abf5 [.ref 1000026] h (some (.int (nI 4))) h := by
  refine mv_Kof ?_
  show mv_g ev mJ0_length_8abf5 0 [.ref 1000026] [] h _
  refine mv_aload_n dJ0_length_8abf5_0 rfl ?_
  refine mv_getv (i := 1000026) (b := 1000036) dJ0_length_8abf5_1 (List.mem_of_getElem? (i := 6) rfl) wd_1661 ?_
  refine mv_blen (a := 1000036) dJ0_length_8abf5_4 (List.mem_of_getElem? (i := 6) rfl) ?_
  refine mv_aload_n dJ0_length_8abf5_5 rfl ?_
  refine mv_cR0 dJ0_length_8abf5_6 lk_J0_length_8abf5_335 (List.mem_of_getElem? (i := 6) rfl) rfl (Nat.le_of_ble_eq_true rfl) (Nat.le_of_ble_eq_true rfl) (k_J0_coder_6 (ev := ev)) ?_
  refine mv_ishr dJ0_length_8abf5_9 ?_
  refine mv_topI (y := nI 4) (by decide) ?_
  exact mv_iret dJ0_length_8abf5_10 rfl rfl ⟨rfl, rfl⟩
set_option maxRecDepth 100000 in
theorem k_J1_6_0 {ev : mv_E} {h : mv_H}  (hE : q_E ev) : mv_K ev mJ1_charAt_3b067 [.ref 1000036, .int (nI 0)] h (some (.int (nI 109))) h := by
  refine mv_Kof ?_
  show mv_g ev mJ1_charAt_3b067 0 [.ref 1000036, .int (nI 0)] [] h _
  refine mv_iload_n dJ1_charAt_3b067_0 rfl ?_
  refine mv_aload_n dJ1_charAt_3b067_1 rfl ?_
  refine mv_blen (a := 1000036) dJ1_charAt_3b067_2 (List.mem_of_getElem? (i := 6) rfl) ?_
  refine mv_cS2 dJ1_charAt_3b067_3 lk_J1_charAt_3b067_9 (Nat.le_of_ble_eq_true rfl) (Nat.le_of_ble_eq_true rfl) (k_J0ci_0_4 (ev := ev) hE) ?_
  refine mv_aload_n dJ1_charAt_3b067_6 rfl ?_
  refine mv_iload_n dJ1_charAt_3b067_7 rfl ?_
  refine mv_bald (a := 1000036) dJ1_charAt_3b067_8 (List.mem_of_getElem? (i := 6) rfl) (vp_in_nI (by decide) (by decide)) ?_
  refine mv_sipush (v := nI 255) dJ1_charAt_3b067_9 (by decide) ?_
  refine mv_iand dJ1_charAt_3b067_12 ?_
  refine mv_topI (y := nI 109) (by decide) ?_
  refine mv_i2c dJ1_charAt_3b067_13 ?_
  refine mv_topI (y := nI 109) (by decide) ?_
  exact mv_iret dJ1_charAt_3b067_14 rfl rfl ⟨rfl, rfl⟩
set_option maxRecDepth 100000 in
theorem k_J0c_6_0 {ev : mv_E} {h : mv_H}  (hE : q_E ev) : mv_K ev mJ0_charAt_5068e [.ref 1000026, .int (nI 0)] h (some (.int (nI 109))) h := by
  refine mv_Kof ?_
  show mv_g ev mJ0_charAt_5068e 0 [.ref 1000026, .int (nI 0)] [] h _
  refine mv_aload_n dJ0_charAt_5068e_0 rfl ?_
  refine mv_cR0 dJ0_charAt_5068e_1 lk_J0_charAt_5068e_492 (List.mem_of_getElem? (i := 6) rfl) rfl (Nat.le_of_ble_eq_true rfl) (Nat.le_of_ble_eq_true rfl) (k_J0_isLatin1_6 (ev := ev)) ?_
  refine mv_if_eq (tgt := 16) dJ0_charAt_5068e_4 (by decide) (fun z => absurd z ((by decide))) (fun c4 => ?_)
  refine mv_aload_n dJ0_charAt_5068e_7 rfl ?_
  refine mv_getv (i := 1000026) (b := 1000036) dJ0_charAt_5068e_8 (List.mem_of_getElem? (i := 6) rfl) wd_1661 ?_
  refine mv_iload_n dJ0_charAt_5068e_11 rfl ?_
  refine mv_cS2 dJ0_charAt_5068e_12 lk_J0_charAt_5068e_495 (Nat.le_of_ble_eq_true rfl) (Nat.le_of_ble_eq_true rfl) (k_J1_6_0 (ev := ev) hE) ?_
  exact mv_iret dJ0_charAt_5068e_15 rfl rfl ⟨rfl, rfl⟩
set_option maxRecDepth 100000 in
theorem k_J1_6_1 {ev : mv_E} {h : mv_H}  (hE : q_E ev) : mv_K ev mJ1_charAt_3b067 [.ref 1000036, .int (nI 1)] h (some (.int (nI 111))) h := by
  refine mv_Kof ?_
  show mv_g ev mJ1_charAt_3b067 0 [.ref 1000036, .int (nI 1)] [] h _
  refine mv_iload_n dJ1_charAt_3b067_0 rfl ?_
  refine mv_aload_n dJ1_charAt_3b067_1 rfl ?_
  refine mv_blen (a := 1000036) dJ1_charAt_3b067_2 (List.mem_of_getElem? (i := 6) rfl) ?_
  refine mv_cS2 dJ1_charAt_3b067_3 lk_J1_charAt_3b067_9 (Nat.le_of_ble_eq_true rfl) (Nat.le_of_ble_eq_true rfl) (k_J0ci_1_4 (ev := ev) hE) ?_
  refine mv_aload_n dJ1_charAt_3b067_6 rfl ?_
  refine mv_iload_n dJ1_charAt_3b067_7 rfl ?_
  refine mv_bald (a := 1000036) dJ1_charAt_3b067_8 (List.mem_of_getElem? (i := 6) rfl) (vp_in_nI (by decide) (by decide)) ?_
  refine mv_sipush (v := nI 255) dJ1_charAt_3b067_9 (by decide) ?_
  refine mv_iand dJ1_charAt_3b067_12 ?_
  refine mv_topI (y := nI 111) (by decide) ?_
  refine mv_i2c dJ1_charAt_3b067_13 ?_
  refine mv_topI (y := nI 111) (by decide) ?_
  exact mv_iret dJ1_charAt_3b067_14 rfl rfl ⟨rfl, rfl⟩
set_option maxRecDepth 100000 in
theorem k_J0c_6_1 {ev : mv_E} {h : mv_H}  (hE : q_E ev) : mv_K ev mJ0_charAt_5068e [.ref 1000026, .int (nI 1)] h (some (.int (nI 111))) h := by
  refine mv_Kof ?_
  show mv_g ev mJ0_charAt_5068e 0 [.ref 1000026, .int (nI 1)] [] h _
  refine mv_aload_n dJ0_charAt_5068e_0 rfl ?_
  refine mv_cR0 dJ0_charAt_5068e_1 lk_J0_charAt_5068e_492 (List.mem_of_getElem? (i := 6) rfl) rfl (Nat.le_of_ble_eq_true rfl) (Nat.le_of_ble_eq_true rfl) (k_J0_isLatin1_6 (ev := ev)) ?_
  refine mv_if_eq (tgt := 16) dJ0_charAt_5068e_4 (by decide) (fun z => absurd z ((by decide))) (fun c4 => ?_)
  refine mv_aload_n dJ0_charAt_5068e_7 rfl ?_
  refine mv_getv (i := 1000026) (b := 1000036) dJ0_charAt_5068e_8 (List.mem_of_getElem? (i := 6) rfl) wd_1661 ?_
  refine mv_iload_n dJ0_charAt_5068e_11 rfl ?_
  refine mv_cS2 dJ0_charAt_5068e_12 lk_J0_charAt_5068e_495 (Nat.le_of_ble_eq_true rfl) (Nat.le_of_ble_eq_true rfl) (k_J1_6_1 (ev := ev) hE) ?_
  exact mv_iret dJ0_charAt_5068e_15 rfl rfl ⟨rfl, rfl⟩
set_option maxRecDepth 100000 in
theorem k_J1_6_2 {ev : mv_E} {h : mv_H}  (hE : q_E ev) : mv_K ev mJ1_charAt_3b067 [.ref 1000036, .int (nI 2)] h (some (.int (nI 111))) h := by
  refine mv_Kof ?_
  show mv_g ev mJ1_charAt_3b067 0 [.ref 1000036, .int (nI 2)] [] h _
  refine mv_iload_n dJ1_charAt_3b067_0 rfl ?_
  refine mv_aload_n dJ1_charAt_3b067_1 rfl ?_
  refine mv_blen (a := 1000036) dJ1_charAt_3b067_2 (List.mem_of_getElem? (i := 6) rfl) ?_
  refine mv_cS2 dJ1_charAt_3b067_3 lk_J1_charAt_3b067_9 (Nat.le_of_ble_eq_true rfl) (Nat.le_of_ble_eq_true rfl) (k_J0ci_2_4 (ev := ev) hE) ?_
  refine mv_aload_n dJ1_charAt_3b067_6 rfl ?_
  refine mv_iload_n dJ1_charAt_3b067_7 rfl ?_
  refine mv_bald (a := 1000036) dJ1_charAt_3b067_8 (List.mem_of_getElem? (i := 6) rfl) (vp_in_nI (by decide) (by decide)) ?_
  refine mv_sipush (v := nI 255) dJ1_charAt_3b067_9 (by decide) ?_
  refine mv_iand dJ1_charAt_3b067_12 ?_
  refine mv_topI (y := nI 111) (by decide) ?_
  refine mv_i2c dJ1_charAt_3b067_13 ?_
  refine mv_topI (y := nI 111) (by decide) ?_
  exact mv_iret dJ1_charAt_3b067_14 rfl rfl ⟨rfl, rfl⟩
set_option maxRecDepth 100000 in
theorem k_J0c_6_2 {ev : mv_E} {h : mv_H}  (hE : q_E ev) : mv_K ev mJ0_charAt_5068e [.ref 1000026, .int (nI 2)] h (some (.int (nI 111))) h := by
  refine mv_Kof ?_
  show mv_g ev mJ0_charAt_5068e 0 [.ref 1000026, .int (nI 2)] [] h _
  refine mv_aload_n dJ0_charAt_5068e_0 rfl ?_
  refine mv_cR0 dJ0_charAt_5068e_1 lk_J0_charAt_5068e_492 (List.mem_of_getElem? (i := 6) rfl) rfl (Nat.le_of_ble_eq_true rfl) (Nat.le_of_ble_eq_true rfl) (k_J0_isLatin1_6 (ev := ev)) ?_
  refine mv_if_eq (tgt := 16) dJ0_charAt_5068e_4 (by decide) (fun z => absurd z ((by decide))) (fun c4 => ?_)
  refine mv_aload_n dJ0_charAt_5068e_7 rfl ?_
  refine mv_getv (i := 1000026) (b := 1000036) dJ0_charAt_5068e_8 (List.mem_of_getElem? (i := 6) rfl) wd_1661 ?_
  refine mv_iload_n dJ0_charAt_5068e_11 rfl ?_
  refine mv_cS2 dJ0_charAt_5068e_12 lk_J0_charAt_5068e_495 (Nat.le_of_ble_eq_true rfl) (Nat.le_of_ble_eq_true rfl) (k_J1_6_2 (ev := ev) hE) ?_
  exact mv_iret dJ0_charAt_5068e_15 rfl rfl ⟨rfl, rfl⟩
set_option maxRecDepth 100000 in
theorem k_J1_6_3 {ev : mv_E} {h : mv_H}  (hE : q_E ev) : mv_K ev mJ1_charAt_3b067 [.ref 1000036, .int (nI 3)] h (some (.int (nI 110))) h := by
  refine mv_Kof ?_
  show mv_g ev mJ1_charAt_3b067 0 [.ref 1000036, .int (nI 3)] [] h _
  refine mv_iload_n dJ1_charAt_3b067_0 rfl ?_
  refine mv_aload_n dJ1_charAt_3b067_1 rfl ?_
  refine mv_blen (a := 1000036) dJ1_charAt_3b067_2 (List.mem_of_getElem? (i := 6) rfl) ?_
  refine mv_cS2 dJ1_charAt_3b067_3 lk_J1_charAt_3b067_9 (Nat.le_of_ble_eq_true rfl) (Nat.le_of_ble_eq_true rfl) (k_J0ci_3_4 (ev := ev) hE) ?_
  refine mv_aload_n dJ1_charAt_3b067_6 rfl ?_
  refine mv_iload_n dJ1_charAt_3b067_7 rfl ?_
  refine mv_bald (a := 1000036) dJ1_charAt_3b067_8 (List.mem_of_getElem? (i := 6) rfl) (vp_in_nI (by decide) (by decide)) ?_
  refine mv_sipush (v := nI 255) dJ1_charAt_3b067_9 (by decide) ?_
  refine mv_iand dJ1_charAt_3b067_12 ?_
  refine mv_topI (y := nI 110) (by decide) ?_
  refine mv_i2c dJ1_charAt_3b067_13 ?_
  refine mv_topI (y := nI 110) (by decide) ?_
  exact mv_iret dJ1_charAt_3b067_14 rfl rfl ⟨rfl, rfl⟩
set_option maxRecDepth 100000 in
theorem k_J0c_6_3 {ev : mv_E} {h : mv_H}  (hE : q_E ev) : mv_K ev mJ0_charAt_5068e [.ref 1000026, .int (nI 3)] h (some (.int (nI 110))) h := by
  refine mv_Kof ?_
  show mv_g ev mJ0_charAt_5068e 0 [.ref 1000026, .int (nI 3)] [] h _
  refine mv_aload_n dJ0_charAt_5068e_0 rfl ?_
  refine mv_cR0 dJ0_charAt_5068e_1 lk_J0_charAt_5068e_492 (List.mem_of_getElem? (i := 6) rfl) rfl (Nat.le_of_ble_eq_true rfl) (Nat.le_of_ble_eq_true rfl) (k_J0_isLatin1_6 (ev := ev)) ?_
  refine mv_if_eq (tgt := 16) dJ0_charAt_5068e_4 (by decide) (fun z => absurd z ((by decide))) (fun c4 => ?_)
  refine mv_aload_n dJ0_charAt_5068e_7 rfl ?_
  refine mv_getv (i := 1000026) (b := 1000036) dJ0_charAt_5068e_8 (List.mem_of_getElem? (i := 6) rfl) wd_1661 ?_
  refine mv_iload_n dJ0_charAt_5068e_11 rfl ?_
  refine mv_cS2 dJ0_charAt_5068e_12 lk_J0_charAt_5068e_495 (Nat.le_of_ble_eq_true rfl) (Nat.le_of_ble_eq_true rfl) (k_J1_6_3 (ev := ev) hE) ?_
  exact mv_iret dJ0_charAt_5068e_15 rfl rfl ⟨rfl, rfl⟩
set_option maxRecDepth 100000 in
theorem k_J0_coder_7 {ev : mv_E} {h : mv_H}   : mv_K ev mJ0_coder_7d493 [.ref 1000027] h (some (.int (nI 0))) h := by
  refine mv_Kof ?_
  show mv_g ev mJ0_coder_7d493 0 [.ref 1000027] [] h _
  refine mv_gets (v := .int (nI 1)) dJ0_coder_7d493_0 (List.mem_of_getElem? (i := 3) rfl) wd_487 ?_
  refine mv_if_eq (tgt := 13) dJ0_coder_7d493_3 (by decide) (fun z => absurd z ((by decide))) (fun c3 => ?_)
  refine mv_aload_n dJ0_coder_7d493_6 rfl ?_
  refine mv_getc (i := 1000027) (b := 1000037) dJ0_coder_7d493_7 (List.mem_of_getElem? (i := 7) rfl) wd_1662 ?_
  refine mv_goto (tgt := 14) dJ0_coder_7d493_10 (by decide) ?_
  exact mv_iret dJ0_coder_7d493_14 rfl rfl ⟨rfl, rfl⟩
set_option maxRecDepth 100000 in
theorem k_J0_isLatin1_7 {ev : mv_E} {h : mv_H}   : mv_K ev mJ0_isLatin1_aae02 [.ref 1000027] h (some (.int (nI 1))) h := by
  refine mv_Kof ?_
  show mv_g ev mJ0_isLatin1_aae02 0 [.ref 1000027] [] h _
  refine mv_gets (v := .int (nI 1)) dJ0_isLatin1_aae02_0 (List.mem_of_getElem? (i := 3) rfl) wd_487 ?_
  refine mv_if_eq (tgt := 17) dJ0_isLatin1_aae02_3 (by decide) (fun z => absurd z ((by decide))) (fun c3 => ?_)
  refine mv_aload_n dJ0_isLatin1_aae02_6 rfl ?_
  refine mv_getc (i := 1000027) (b := 1000037) dJ0_isLatin1_aae02_7 (List.mem_of_getElem? (i := 7) rfl) wd_1662 ?_
  refine mv_if_ne (tgt := 17) dJ0_isLatin1_aae02_10 (by decide) (fun z => absurd ((by decide)) z) (fun c10 => ?_)
  refine mv_iconst (v := nI 1) dJ0_isLatin1_aae02_13 (by decide) ?_
  refine mv_goto (tgt := 18) dJ0_isLatin1_aae02_14 (by decide) ?_
  exact mv_iret dJ0_isLatin1_aae02_18 rfl rfl ⟨rfl, rfl⟩
set_option maxRecDepth 100000 in
theorem k_J0_length_7 {ev : mv_E} {h : mv_H}   : mv_K ev mJ0_length_8abf5 [.ref 1000027] h (some (.int (nI 4))) h := by
  refine mv_Kof ?_
  show mv_g ev mJ0_length_8abf5 0 [.ref 1000027] [] h _
  refine mv_aload_n dJ0_length_8abf5_0 rfl ?_
  refine mv_getv (i := 1000027) (b := 1000037) dJ0_length_8abf5_1 (List.mem_of_getElem? (i := 7) rfl) wd_1661 ?_
  refine mv_blen (a := 1000037) dJ0_length_8abf5_4 (List.mem_of_getElem? (i := 7) rfl) ?_
  refine mv_aload_n dJ0_length_8abf5_5 rfl ?_
  refine mv_cR0 dJ0_length_8abf5_6 lk_J0_length_8abf5_335 (List.mem_of_getElem? (i := 7) rfl) rfl (Nat.le_of_ble_eq_true rfl) (Nat.le_of_ble_eq_true rfl) (k_J0_coder_7 (ev := ev)) ?_
  refine mv_ishr dJ0_length_8abf5_9 ?_
  refine mv_topI (y := nI 4) (by decide) ?_
  exact mv_iret dJ0_length_8abf5_10 rfl rfl ⟨rfl, rfl⟩
set_option maxRecDepth 100000 in
theorem k_J1_7_0 {ev : mv_E} {h : mv_H}  (hE : q_E ev) : mv_K ev mJ1_charAt_3b067 [.ref 1000037, .int (nI 0)] h (some (.int (nI 114))) h := by
  refine mv_Kof ?_
  show mv_g ev mJ1_charAt_3b067 0 [.ref 1000037, .int (nI 0)] [] h _
  refine mv_iload_n dJ1_charAt_3b067_0 rfl ?_
  refine mv_aload_n dJ1_charAt_3b067_1 rfl ?_
  refine mv_blen (a := 1000037) dJ1_charAt_3b067_2 (List.mem_of_getElem? (i := 7) rfl) ?_
  refine mv_cS2 dJ1_charAt_3b067_3 lk_J1_charAt_3b067_9 (Nat.le_of_ble_eq_true rfl) (Nat.le_of_ble_eq_true rfl) (k_J0ci_0_4 (ev := ev) hE) ?_
  refine mv_aload_n dJ1_charAt_3b067_6 rfl ?_
  refine mv_iload_n dJ1_charAt_3b067_7 rfl ?_
  refine mv_bald (a := 1000037) dJ1_charAt_3b067_8 (List.mem_of_getElem? (i := 7) rfl) (vp_in_nI (by decide) (by decide)) ?_
  refine mv_sipush (v := nI 255) dJ1_charAt_3b067_9 (by decide) ?_
  refine mv_iand dJ1_charAt_3b067_12 ?_
  refine mv_topI (y := nI 114) (by decide) ?_
  refine mv_i2c dJ1_charAt_3b067_13 ?_
  refine mv_topI (y := nI 114) (by decide) ?_
  exact mv_iret dJ1_charAt_3b067_14 rfl rfl ⟨rfl, rfl⟩
set_option maxRecDepth 100000 in
theorem k_J0c_7_0 {ev : mv_E} {h : mv_H}  (hE : q_E ev) : mv_K ev mJ0_charAt_5068e [.ref 1000027, .int (nI 0)] h (some (.int (nI 114))) h := by
  refine mv_Kof ?_
  show mv_g ev mJ0_charAt_5068e 0 [.ref 1000027, .int (nI 0)] [] h _
  refine mv_aload_n dJ0_charAt_5068e_0 rfl ?_
  refine mv_cR0 dJ0_charAt_5068e_1 lk_J0_charAt_5068e_492 (List.mem_of_getElem? (i := 7) rfl) rfl (Nat.le_of_ble_eq_true rfl) (Nat.le_of_ble_eq_true rfl) (k_J0_isLatin1_7 (ev := ev)) ?_
  refine mv_if_eq (tgt := 16) dJ0_charAt_5068e_4 (by decide) (fun z => absurd z ((by decide))) (fun c4 => ?_)
  refine mv_aload_n dJ0_charAt_5068e_7 rfl ?_
  refine mv_getv (i := 1000027) (b := 1000037) dJ0_charAt_5068e_8 (List.mem_of_getElem? (i := 7) rfl) wd_1661 ?_
  refine mv_iload_n dJ0_charAt_5068e_11 rfl ?_
  refine mv_cS2 dJ0_charAt_5068e_12 lk_J0_charAt_5068e_495 (Nat.le_of_ble_eq_true rfl) (Nat.le_of_ble_eq_true rfl) (k_J1_7_0 (ev := ev) hE) ?_
  exact mv_iret dJ0_charAt_5068e_15 rfl rfl ⟨rfl, rfl⟩
set_option maxRecDepth 100000 in
theorem k_J1_7_1 {ev : mv_E} {h : mv_H}  (hE : q_E ev) : mv_K ev mJ1_charAt_3b067 [.ref 1000037, .int (nI 1)] h (some (.int (nI 97))) h := by
  refine mv_Kof ?_
  show mv_g ev mJ1_charAt_3b067 0 [.ref 1000037, .int (nI 1)] [] h _
  refine mv_iload_n dJ1_charAt_3b067_0 rfl ?_
  refine mv_aload_n dJ1_charAt_3b067_1 rfl ?_
  refine mv_blen (a := 1000037) dJ1_charAt_3b067_2 (List.mem_of_getElem? (i := 7) rfl) ?_
  refine mv_cS2 dJ1_charAt_3b067_3 lk_J1_charAt_3b067_9 (Nat.le_of_ble_eq_true rfl) (Nat.le_of_ble_eq_true rfl) (k_J0ci_1_4 (ev := ev) hE) ?_
  refine mv_aload_n dJ1_charAt_3b067_6 rfl ?_
  refine mv_iload_n dJ1_charAt_3b067_7 rfl ?_
  refine mv_bald (a := 1000037) dJ1_charAt_3b067_8 (List.mem_of_getElem? (i := 7) rfl) (vp_in_nI (by decide) (by decide)) ?_
  refine mv_sipush (v := nI 255) dJ1_charAt_3b067_9 (by decide) ?_
  refine mv_iand dJ1_charAt_3b067_12 ?_
  refine mv_topI (y := nI 97) (by decide) ?_
  refine mv_i2c dJ1_charAt_3b067_13 ?_
  refine mv_topI (y := nI 97) (by decide) ?_
  exact mv_iret dJ1_charAt_3b067_14 rfl rfl ⟨rfl, rfl⟩
set_option maxRecDepth 100000 in
theorem k_J0c_7_1 {ev : mv_E} {h : mv_H}  (hE : q_E ev) : mv_K ev mJ0_charAt_5068e [.ref 1000027, .int (nI 1)] h (some (.int (nI 97))) h := by
  refine mv_Kof ?_
  show mv_g ev mJ0_charAt_5068e 0 [.ref 1000027, .int (nI 1)] [] h _
  refine mv_aload_n dJ0_charAt_5068e_0 rfl ?_
  refine mv_cR0 dJ0_charAt_5068e_1 lk_J0_charAt_5068e_492 (List.mem_of_getElem? (i := 7) rfl) rfl (Nat.le_of_ble_eq_true rfl) (Nat.le_of_ble_eq_true rfl) (k_J0_isLatin1_7 (ev := ev)) ?_
  refine mv_if_eq (tgt := 16) dJ0_charAt_5068e_4 (by decide) (fun z => absurd z ((by decide))) (fun c4 => ?_)
  refine mv_aload_n dJ0_charAt_5068e_7 rfl ?_
  refine mv_getv (i := 1000027) (b := 1000037) dJ0_charAt_5068e_8 (List.mem_of_getElem? (i := 7) rfl) wd_1661 ?_
  refine mv_iload_n dJ0_charAt_5068e_11 rfl ?_
  refine mv_cS2 dJ0_charAt_5068e_12 lk_J0_charAt_5068e_495 (Nat.le_of_ble_eq_true rfl) (Nat.le_of_ble_eq_true rfl) (k_J1_7_1 (ev := ev) hE) ?_
  exact mv_iret dJ0_charAt_5068e_15 rfl rfl ⟨rfl, rfl⟩
set_option maxRecDepth 100000 in
theorem k_J1_7_2 {ev : mv_E} {h : mv_H}  (hE : q_E ev) : mv_K ev mJ1_charAt_3b067 [.ref 1000037, .int (nI 2)] h (some (.int (nI 105))) h := by
  refine mv_Kof ?_
  show mv_g ev mJ1_charAt_3b067 0 [.ref 1000037, .int (nI 2)] [] h _
  refine mv_iload_n dJ1_charAt_3b067_0 rfl ?_
  refine mv_aload_n dJ1_charAt_3b067_1 rfl ?_
  refine mv_blen (a := 1000037) dJ1_charAt_3b067_2 (List.mem_of_getElem? (i := 7) rfl) ?_
  refine mv_cS2 dJ1_charAt_3b067_3 lk_J1_charAt_3b067_9 (Nat.le_of_ble_eq_true rfl) (Nat.le_of_ble_eq_true rfl) (k_J0ci_2_4 (ev := ev) hE) ?_
  refine mv_aload_n dJ1_charAt_3b067_6 rfl ?_
  refine mv_iload_n dJ1_charAt_3b067_7 rfl ?_
  refine mv_bald (a := 1000037) dJ1_charAt_3b067_8 (List.mem_of_getElem? (i := 7) rfl) (vp_in_nI (by decide) (by decide)) ?_
  refine mv_sipush (v := nI 255) dJ1_charAt_3b067_9 (by decide) ?_
  refine mv_iand dJ1_charAt_3b067_12 ?_
  refine mv_topI (y := nI 105) (by decide) ?_
  refine mv_i2c dJ1_charAt_3b067_13 ?_
  refine mv_topI (y := nI 105) (by decide) ?_
  exact mv_iret dJ1_charAt_3b067_14 rfl rfl ⟨rfl, rfl⟩
set_option maxRecDepth 100000 in
theorem k_J0c_7_2 {ev : mv_E} {h : mv_H}  (hE : q_E ev) : mv_K ev mJ0_charAt_5068e [.ref 1000027, .int (nI 2)] h (some (.int (nI 105))) h := by
  refine mv_Kof ?_
  show mv_g ev mJ0_charAt_5068e 0 [.ref 1000027, .int (nI 2)] [] h _
  refine mv_aload_n dJ0_charAt_5068e_0 rfl ?_
  refine mv_cR0 dJ0_charAt_5068e_1 lk_J0_charAt_5068e_492 (List.mem_of_getElem? (i := 7) rfl) rfl (Nat.le_of_ble_eq_true rfl) (Nat.le_of_ble_eq_true rfl) (k_J0_isLatin1_7 (ev := ev)) ?_
  refine mv_if_eq (tgt := 16) dJ0_charAt_5068e_4 (by decide) (fun z => absurd z ((by decide))) (fun c4 => ?_)
  refine mv_aload_n dJ0_charAt_5068e_7 rfl ?_
  refine mv_getv (i := 1000027) (b := 1000037) dJ0_charAt_5068e_8 (List.mem_of_getElem? (i := 7) rfl) wd_1661 ?_
  refine mv_iload_n dJ0_charAt_5068e_11 rfl ?_
  refine mv_cS2 dJ0_charAt_5068e_12 lk_J0_charAt_5068e_495 (Nat.le_of_ble_eq_true rfl) (Nat.le_of_ble_eq_true rfl) (k_J1_7_2 (ev := ev) hE) ?_
  exact mv_iret dJ0_charAt_5068e_15 rfl rfl ⟨rfl, rfl⟩
set_option maxRecDepth 100000 in
theorem k_J1_7_3 {ev : mv_E} {h : mv_H}  (hE : q_E ev) : mv_K ev mJ1_charAt_3b067 [.ref 1000037, .int (nI 3)] h (some (.int (nI 110))) h := by
  refine mv_Kof ?_
  show mv_g ev mJ1_charAt_3b067 0 [.ref 1000037, .int (nI 3)] [] h _
  refine mv_iload_n dJ1_charAt_3b067_0 rfl ?_
  refine mv_aload_n dJ1_charAt_3b067_1 rfl ?_
  refine mv_blen (a := 1000037) dJ1_charAt_3b067_2 (List.mem_of_getElem? (i := 7) rfl) ?_
  refine mv_cS2 dJ1_charAt_3b067_3 lk_J1_charAt_3b067_9 (Nat.le_of_ble_eq_true rfl) (Nat.le_of_ble_eq_true rfl) (k_J0ci_3_4 (ev := ev) hE) ?_
  refine mv_aload_n dJ1_charAt_3b067_6 rfl ?_
  refine mv_iload_n dJ1_charAt_3b067_7 rfl ?_
  refine mv_bald (a := 1000037) dJ1_charAt_3b067_8 (List.mem_of_getElem? (i := 7) rfl) (vp_in_nI (by decide) (by decide)) ?_
  refine mv_sipush (v := nI 255) dJ1_charAt_3b067_9 (by decide) ?_
  refine mv_iand dJ1_charAt_3b067_12 ?_
  refine mv_topI (y := nI 110) (by decide) ?_
  refine mv_i2c dJ1_charAt_3b067_13 ?_
  refine mv_topI (y := nI 110) (by decide) ?_
  exact mv_iret dJ1_charAt_3b067_14 rfl rfl ⟨rfl, rfl⟩
set_option maxRecDepth 100000 in
theorem k_J0c_7_3 {ev : mv_E} {h : mv_H}  (hE : q_E ev) : mv_K ev mJ0_charAt_5068e [.ref 1000027, .int (nI 3)] h (some (.int (nI 110))) h := by
  refine mv_Kof ?_
  show mv_g ev mJ0_charAt_5068e 0 [.ref 1000027, .int (nI 3)] [] h _
  refine mv_aload_n dJ0_charAt_5068e_0 rfl ?_
  refine mv_cR0 dJ0_charAt_5068e_1 lk_J0_charAt_5068e_492 (List.mem_of_getElem? (i := 7) rfl) rfl (Nat.le_of_ble_eq_true rfl) (Nat.le_of_ble_eq_true rfl) (k_J0_isLatin1_7 (ev := ev)) ?_
  refine mv_if_eq (tgt := 16) dJ0_charAt_5068e_4 (by decide) (fun z => absurd z ((by decide))) (fun c4 => ?_)
  refine mv_aload_n dJ0_charAt_5068e_7 rfl ?_
  refine mv_getv (i := 1000027) (b := 1000037) dJ0_charAt_5068e_8 (List.mem_of_getElem? (i := 7) rfl) wd_1661 ?_
  refine mv_iload_n dJ0_charAt_5068e_11 rfl ?_
  refine mv_cS2 dJ0_charAt_5068e_12 lk_J0_charAt_5068e_495 (Nat.le_of_ble_eq_true rfl) (Nat.le_of_ble_eq_true rfl) (k_J1_7_3 (ev := ev) hE) ?_
  exact mv_iret dJ0_charAt_5068e_15 rfl rfl ⟨rfl, rfl⟩
