theorem q_cr_zz : ∀ n, q_cr (fun _ => 0) n = 0 := by
  intro n
  induction n with
  | zero => rfl
  | succ n ih => show q_cr (fun _ => 0) n + 0 = 0; rw [ih]
theorem q_row_z : q_row (0, (fun _ => 0), (fun _ => 0), (fun _ => 0), (fun _ => 0), (fun _ => 0), (fun _ => 0), (fun _ => 0)) = fun _ => 0 := by
  funext i
  unfold q_row
  simp only [ite_self]
theorem q_im_z : q_im (0, 0, (fun _ => 0), (fun _ => 0), (fun _ => 0)) 0 (0, 0, (fun _ => 0), (fun _ => 0), (fun _ => 0)) 0 = fun _ => 0 := by
  funext i
  unfold q_im q_i1
  simp only [ite_self]
theorem q_LW_z : q_LW (mv_at [20, 40, 100, 10, 1, -1, -1, 0]) (fun i => [20, 40, 100, 10, 1, 0, 0, 0].getD i 0) := by
  refine ⟨fun k h5 h6 => ?_, by decide, by decide, by decide, by decide, by decide, by decide, by decide, Or.inl ⟨by decide, by decide⟩⟩
  by_cases c : k < 8
  · rcases (show k = 0 ∨ k = 1 ∨ k = 2 ∨ k = 3 ∨ k = 4 ∨ k = 7 by omega) with rfl | rfl | rfl | rfl | rfl | rfl
    all_goals rfl
  · show mv_at [20, 40, 100, 10, 1, -1, -1, 0] k = nI ([20, 40, 100, 10, 1, 0, 0, 0].getD k 0)
    unfold mv_at
    rw [List.getD_eq_getElem?_getD, List.getD_eq_getElem?_getD, List.getElem?_eq_none (by show 8 ≤ k; omega), List.getElem?_eq_none (by show 8 ≤ k; omega)]
    rfl
theorem q_BI_z : q_BI 0 (0, 0, (fun _ => 0), (fun _ => 0), (fun _ => 0)) := ⟨by decide, by decide, fun _ => Nat.zero_le _, fun _ => (show (0 : Nat) < 64 from by decide), fun _ => Nat.zero_le _, fun i q => absurd q (Nat.not_lt_zero _), fun i k _ q => absurd q (Nat.not_lt_zero _)⟩
theorem q_WI_z : q_WI (fun _ => 0) (upd (upd (upd (upd (upd (upd (upd (upd (fun j => nI 0) 0 (-1)) 1 (-1)) 2 (-1)) 3 (-1)) 4 (-1)) 5 (-1)) 6 (-1)) 7 (-1)) (fun _ => nI 0) := by
  refine ⟨fun _ => (show (0 : Nat) < 64 from by decide), fun k => ?_⟩
  by_cases c : k < 8
  · refine Or.inl ?_
    rcases (show k = 0 ∨ k = 1 ∨ k = 2 ∨ k = 3 ∨ k = 4 ∨ k = 5 ∨ k = 6 ∨ k = 7 by omega) with rfl | rfl | rfl | rfl | rfl | rfl | rfl | rfl
    all_goals rfl
  · refine Or.inr ⟨0, 0, by decide, by decide, ?_, rfl⟩
    unfold upd
    rw [if_neg (by omega), if_neg (by omega), if_neg (by omega), if_neg (by omega), if_neg (by omega), if_neg (by omega), if_neg (by omega), if_neg (by omega)]
def q_H81 : mv_H := q_H52 ++ [.inr (12, [.ref 53, .ref 54, .int (nI 0), .int (-1), .int (nI 0), .long (lN 0), .int (nI 0), .int (nI 0), .ref 55, .int (nI 0), .int (nI 0), .ref 56, .ref 57, .ref 58, .int (nI 0), .int (nI 0), .ref 59, .ref 60, .ref 61, .ref 62, .int (nI 0), .ref 63, .ref 64, .ref 65, .ref 66, .ref 67, .ref 68, .ref 69, .int (nI 0), .ref 70, .ref 71, .ref 72, .ref 73, .ref 74, .ref 75, .int (nI 0), .ref 76, .ref 77, .ref 78, .ref 79, .ref 80]), .inl (0, 8, .inl (mv_at [20, 40, 100, 10, 1, -1, -1, 0])), .inl (0, 160, .inl (fun j => nI 0)), .inl (0, 8, .inl (q_cl (mv_at [20, 40, 100, 10, 1, -1, -1, 0]) (fun _ => nI 0))), .inl (0, 60, .inl (fun j => nI 0)), .inl (0, 60, .inl (fun j => nI 0)), .inl (0, 60, .inl (fun j => nI 0)), .inl (0, 8, .inl (fun j => nI 0)), .inl (0, 8, .inl (upd (upd (upd (upd (upd (upd (upd (upd (fun j => nI 0) 0 (-1)) 1 (-1)) 2 (-1)) 3 (-1)) 4 (-1)) 5 (-1)) 6 (-1)) 7 (-1))), .inl (0, 8, .inl (fun j => nI 0)), .inl (2, 400, .inl (fun j => nI 0)), .inl (0, 100, .inl (fun j => nI 0)), .inl (0, 100, .inl (fun j => nI 0)), .inl (0, 100, .inl (fun j => nI 0)), .inl (0, 100, .inl (fun j => nI 0)), .inl (2, 400, .inl (fun j => nI 0)), .inl (2, 400, .inl (fun j => nI 0)), .inl (0, 4, .inl (fun j => nI 0)), .inl (0, 84, .inl (fun j => nI 0)), .inl (0, 400, .inl (fun j => nI 0)), .inl (0, 400, .inl (fun j => nI 0)), .inl (0, 4, .inl (fun j => nI 0)), .inl (0, 201, .inl (fun j => nI 0)), .inl (0, 3721, .inl (fun j => nI 0)), .inl (0, 12, .inl (fun j => nI 0)), .inl (0, 12, .inl (fun j => nI 0)), .inl (0, 12, .inl (fun j => nI 0)), .inl (0, 400, .inl (fun j => nI 0)), .inl (2, 2, .inl (fun j => nI 0))]
set_option maxRecDepth 100000 in
theorem q_I_z : q_I q_H81 := by
  refine ⟨(fun i => [20, 40, 100, 10, 1, 0, 0, 0].getD i 0), (mv_at [20, 40, 100, 10, 1, -1, -1, 0]), 0, (fun _ => 0), (-1), (0, 0, (fun _ => 0), (fun _ => 0), (fun _ => 0)), 0, (0, (fun _ => 0), (fun _ => 0), (fun _ => 0), (fun _ => 0)), (fun _ => 0), (upd (upd (upd (upd (upd (upd (upd (upd (fun j => nI 0) 0 (-1)) 1 (-1)) 2 (-1)) 3 (-1)) 4 (-1)) 5 (-1)) 6 (-1)) 7 (-1)), (fun _ => nI 0), (fun _ => 0), (0, (fun _ => 0), (fun _ => 0), (fun _ => 0), (fun _ => 0), (fun _ => 0), (fun _ => 0), (fun _ => 0)), (0, (fun _ => 0), (fun _ => 0), (fun _ => 0)), (0, 0, (fun _ => 0), (fun _ => 0), (fun _ => 0)), 0, (0, 0, (fun _ => 0), (fun _ => 0), (fun _ => 0)), 0, (fun _ => 0), 0, 0, 0, (fun _ => nI 0), (fun _ => 0), (fun _ => 0), (0, 0, 0, 0), (fun _ => 0), (fun _ => 0), (fun _ => 0), (0, 0, 0), 0, (-1), (fun _ => 0), (fun _ => 0), 0, 0, 0, (nI 0), (q_cl (mv_at [20, 40, 100, 10, 1, -1, -1, 0]) (fun _ => nI 0)), 0, (fun _ => 0), (fun _ => 0), (fun _ => 0), (fun _ => 0), (fun _ => 0), (fun _ => 0), (fun _ => 0), (fun _ => 0), ?_, q_LW_z, ⟨Nat.zero_le _, (fun _ => (show (0 : Nat) < 256 from by decide))⟩, ⟨q_BI_z, Nat.zero_le _⟩, ⟨Nat.zero_le _, (fun _ => (show (0 : Nat) < 8 from by decide)), (fun _ => Nat.zero_le _), (fun _ => (show (0 : Nat) < 64 from by decide)), (fun _ => Nat.zero_le _)⟩, q_WI_z, (fun _ => Nat.zero_le _), ⟨Nat.zero_le _, fun i q => absurd q (Nat.not_lt_zero _)⟩, ⟨Nat.zero_le _, (fun _ => Nat.zero_le _), (fun _ => (show (0 : Nat) < 64 from by decide)), (fun _ => Nat.zero_le _)⟩, ⟨q_BI_z, Nat.zero_le _⟩, ⟨q_BI_z, Nat.zero_le _⟩, (fun _ => Nat.zero_le _), (fun _ => Nat.zero_le _), (fun _ => (show (0 : Nat) < 256 from by decide)), (fun _ => Nat.zero_le _), (fun _ => Nat.zero_le _), (fun _ => Nat.zero_le _), (fun _ => Nat.zero_le _), (fun _ => Nat.zero_le _), (fun _ => Nat.zero_le _)⟩
  unfold q_hc q_hr
  rw [q_row_z, q_im_z, q_cr_zz]
  rfl
set_option maxRecDepth 100000 in
theorem q_law {ev : mv_E} (hE : q_E ev) (hL : ev.1 ≤ 4608) : mv_G ev 81 11032 mL_law 0 (mv_ent [.ref 1000000] (mv_ml mL_law)) [] [] (fun r _ => r = some (.int (nI 1))) := by
  show mv_G ev 81 11032 mL_law 0 [.ref 1000000, .null, .null, .null] [] [] _
  refine mv_newo (k := 80) (n := 11021) (ci := 11) (N := 11) (C := RX11) (T := TX11) (fs := [.null, .null, .null, .null, .null, .null, .null, .null, .null, .null, .null]) dL_law_0 rfl wd_82 wd_83 wd_62 q_dv_X11 (fun _ => rfl) ⟨q_scL (by decide +kernel), q_scL (by decide +kernel), q_scH (by decide +kernel)⟩ ?_
  show mv_G ev 80 11021 mL_law 3 [.ref 1000000, .null, .null, .null] [.ref 0] ([.inr (11, [.null, .null, .null, .null, .null, .null, .null, .null, .null, .null, .null])]) _
  refine mv_dup dL_law_3 rfl ?_
  refine mv_callI (k1 := 51) (n1 := 3748) (k2 := 29) (n2 := 7273) (as := []) (b := 0) dL_law_4 lk_L_law_9 (Nat.le_of_ble_eq_true rfl) (Nat.le_of_ble_eq_true rfl) (k_X11_init (ev := ev)) (fun r1 h1 q => ?_)
  obtain ⟨q1, q2⟩ := q
  subst q1 q2
  refine ⟨Or.inr ⟨q_scL (by decide +kernel), q_scL (by decide +kernel)⟩, ?_⟩
  show mv_G ev 29 7273 mL_law 7 [.ref 1000000, .null, .null, .null] [.ref 0] (q_H52 ++ []) _
  refine mv_astore_n dL_law_7 (by decide) ?_
  refine mv_newo (k := 28) (n := 7232) (ci := 12) (N := 41) (C := RX12) (T := TX12) (fs := [.null, .null, .int (nI 0), .int (nI 0), .int (nI 0), .long (lN 0), .int (nI 0), .int (nI 0), .null, .int (nI 0), .int (nI 0), .null, .null, .null, .int (nI 0), .int (nI 0), .null, .null, .null, .null, .int (nI 0), .null, .null, .null, .null, .null, .null, .null, .int (nI 0), .null, .null, .null, .null, .null, .null, .int (nI 0), .null, .null, .null, .null, .null]) dL_law_8 rfl wd_1185 wd_1186 wd_74 q_dv_X12 (fun _ => rfl) ⟨q_scL (by decide +kernel), q_scL (by decide +kernel), q_scH (by decide +kernel)⟩ ?_
  show mv_G ev 28 7232 mL_law 11 [.ref 1000000, .ref 0, .null, .null] [.ref 52] (q_H52 ++ [.inr (12, [.null, .null, .int (nI 0), .int (nI 0), .int (nI 0), .long (lN 0), .int (nI 0), .int (nI 0), .null, .int (nI 0), .int (nI 0), .null, .null, .null, .int (nI 0), .int (nI 0), .null, .null, .null, .null, .int (nI 0), .null, .null, .null, .null, .null, .null, .null, .int (nI 0), .null, .null, .null, .null, .null, .null, .int (nI 0), .null, .null, .null, .null, .null])]) _
  refine mv_dup dL_law_11 rfl ?_
  refine mv_callI (k1 := 28) (n1 := 7232) (k2 := 0) (n2 := 0) (as := []) (b := 52) dL_law_12 lk_L_law_12 (Nat.le_of_ble_eq_true rfl) (Nat.le_of_ble_eq_true rfl) (k_X12_init (ev := ev)) (fun r1 h1 q => ?_)
  obtain ⟨q1, q2⟩ := q
  subst q1 q2
  refine ⟨Or.inr ⟨q_scL (by decide +kernel), q_scL (by decide +kernel)⟩, ?_⟩
  show mv_G ev 0 0 mL_law 15 [.ref 1000000, .ref 0, .null, .null] [.ref 52] (q_H52 ++ [.inr (12, [.ref 53, .ref 54, .int (nI 0), .int (-1), .int (nI 0), .long (lN 0), .int (nI 0), .int (nI 0), .ref 55, .int (nI 0), .int (nI 0), .ref 56, .ref 57, .ref 58, .int (nI 0), .int (nI 0), .ref 59, .ref 60, .ref 61, .ref 62, .int (nI 0), .ref 63, .ref 64, .ref 65, .ref 66, .ref 67, .ref 68, .ref 69, .int (nI 0), .ref 70, .ref 71, .ref 72, .ref 73, .ref 74, .ref 75, .int (nI 0), .ref 76, .ref 77, .ref 78, .ref 79, .ref 80]), .inl (0, 8, .inl (mv_at [20, 40, 100, 10, 1, -1, -1, 0])), .inl (0, 160, .inl (fun j => nI 0)), .inl (0, 8, .inl (q_cl (mv_at [20, 40, 100, 10, 1, -1, -1, 0]) (fun _ => nI 0))), .inl (0, 60, .inl (fun j => nI 0)), .inl (0, 60, .inl (fun j => nI 0)), .inl (0, 60, .inl (fun j => nI 0)), .inl (0, 8, .inl (fun j => nI 0)), .inl (0, 8, .inl (upd (upd (upd (upd (upd (upd (upd (upd (fun j => nI 0) 0 (-1)) 1 (-1)) 2 (-1)) 3 (-1)) 4 (-1)) 5 (-1)) 6 (-1)) 7 (-1))), .inl (0, 8, .inl (fun j => nI 0)), .inl (2, 400, .inl (fun j => nI 0)), .inl (0, 100, .inl (fun j => nI 0)), .inl (0, 100, .inl (fun j => nI 0)), .inl (0, 100, .inl (fun j => nI 0)), .inl (0, 100, .inl (fun j => nI 0)), .inl (2, 400, .inl (fun j => nI 0)), .inl (2, 400, .inl (fun j => nI 0)), .inl (0, 4, .inl (fun j => nI 0)), .inl (0, 84, .inl (fun j => nI 0)), .inl (0, 400, .inl (fun j => nI 0)), .inl (0, 400, .inl (fun j => nI 0)), .inl (0, 4, .inl (fun j => nI 0)), .inl (0, 201, .inl (fun j => nI 0)), .inl (0, 3721, .inl (fun j => nI 0)), .inl (0, 12, .inl (fun j => nI 0)), .inl (0, 12, .inl (fun j => nI 0)), .inl (0, 12, .inl (fun j => nI 0)), .inl (0, 400, .inl (fun j => nI 0)), .inl (2, 2, .inl (fun j => nI 0))]) _
  refine mv_astore_n dL_law_15 (by decide) ?_
  refine mv_iconst (v := nI 0) dL_law_16 (by decide) ?_
  refine mv_istore_n dL_law_17 (by decide) ?_
  exact q_Lloop hE hL ev.1 0 q_H81 q_I_z (by omega) (Nat.zero_le _)
