set_option maxRecDepth 100000 in
theorem l_X12_take {ev : mv_E} {h : mv_H} {xg : Int32} {xc : Int32} {xw : Int32} {b : t_B} {t : Nat} {n : Nat} {tx : Nat → Nat} {rq : q_R} {lo : Nat} {hi : Nat}  (hn : n ≤ 160) (htx : ∀ i, tx i < 256) (ha : rq.1 ≤ n) (hlo : lo < 2000) (hhi : hi < 2000) : ∀ (fu : Nat) (s : Nat) (v : Nat) (y : Nat), ∀ (g : mv_H), n < y + fu → mv_fra [52] h g → g[52]? = some (.inr (12, [.ref 53, .ref 54, .int (nI n), .int rq.2.1, .int (nI y), .long (lN rq.2.2.1), .int (nI rq.2.2.2.1), .int (nI v), .ref 55, .int (nI rq.2.2.2.2.2.2), .int (nI b.1), .ref 56, .ref 57, .ref 58, .int (nI t), .int (nI b.2.1), .ref 59, .ref 60, .ref 61, .ref 62, .int xg, .ref 63, .ref 64, .ref 65, .ref 66, .ref 67, .ref 68, .ref 69, .int xc, .ref 70, .ref 71, .ref 72, .ref 73, .ref 74, .ref 75, .int xw, .ref 76, .ref 77, .ref 78, .ref 79, .ref 80])) → g[54]? = some (.inl (0, 160, .inl (fun j => nI (tx j)))) → (s = (q_sk n tx (n - rq.1) rq.1)) → (s < n ∧ 48 ≤ tx s ∧ tx s ≤ 57) → (s ≤ y) → (y = s ∨ s + 1 ≤ y) → (y ≤ n) → (q_fe n tx (n - y) y = q_fe n tx (n - s) s) → (v = q_rv tx s (y - s)) → (v ≤ 200000) → mv_g ev mX12_takeNumber 40 [.ref 52, .int (nI lo), .int (nI hi), .null, .int (nI s)] [] g (fun r g => r = some (.int (nI (q_tn n tx lo hi rq.1 rq.2.1 rq.2.2.2.2.1).1)) ∧ mv_fra [52] h g ∧ g[52]? = some (.inr (12, [.ref 53, .ref 54, .int (nI n), .int ((q_tn n tx lo hi rq.1 rq.2.1 rq.2.2.2.2.1).2.2.1), .int (nI (q_tn n tx lo hi rq.1 rq.2.1 rq.2.2.2.2.1).2.1), .long (lN rq.2.2.1), .int (nI rq.2.2.2.1), .int ((q_tn n tx lo hi rq.1 rq.2.1 rq.2.2.2.2.1).2.2.2), .ref 55, .int (nI rq.2.2.2.2.2.2), .int (nI b.1), .ref 56, .ref 57, .ref 58, .int (nI t), .int (nI b.2.1), .ref 59, .ref 60, .ref 61, .ref 62, .int xg, .ref 63, .ref 64, .ref 65, .ref 66, .ref 67, .ref 68, .ref 69, .int xc, .ref 70, .ref 71, .ref 72, .ref 73, .ref 74, .ref 75, .int xw, .ref 76, .ref 77, .ref 78, .ref 79, .ref 80]))) := by
  intro fu
  induction fu with
  | zero => intro s v y g hm fr HX X54 es hf hs hs2 hy hq hv hvb; exact absurd hm (by omega)
  | succ fu ih =>
    intro s v y g hm fr HX X54 es hf hs hs2 hy hq hv hvb
    have n1 := htx y
    refine mv_aload_n dX12_takeNumber_40 rfl ?_
    refine mv_getf (ci := 12) (f := 4) dX12_takeNumber_41 HX rfl (by decide) wd_1203 rfl ?_
    refine mv_aload_n dX12_takeNumber_44 rfl ?_
    refine mv_getf (ci := 12) (f := 2) dX12_takeNumber_45 HX rfl (by decide) wd_1201 rfl ?_
    refine mv_icmp_ge (tgt := 127) dX12_takeNumber_48 (by decide) (fun c48 => ?_) (fun c48 => ?_)
    · have c48 : n ≤ y := (nI_leI (by omega) (by omega)).mp c48
      refine mv_aload_n dX12_takeNumber_127 rfl ?_
      refine mv_getf (ci := 12) (f := 4) dX12_takeNumber_128 HX rfl (by decide) wd_1203 rfl ?_
      refine mv_iload dX12_takeNumber_131 rfl ?_
      refine mv_isub dX12_takeNumber_133 ?_
      refine mv_topI (y := nI (y - s)) (pk_sub (by omega)) ?_
      refine mv_iconst (v := nI 3) dX12_takeNumber_134 (by decide) ?_
      refine mv_icmp_gt (tgt := 153) dX12_takeNumber_135 (by decide) (fun c135 => ?_) (fun c135 => ?_)
      · have c135 : 3 < y - s := (nI_ltI (by omega) (by omega)).mp c135
        refine mv_aload_n dX12_takeNumber_153 rfl ?_
        refine mv_iconst (v := nI 2) dX12_takeNumber_154 (by decide) ?_
        refine mv_iload dX12_takeNumber_155 rfl ?_
        obtain ⟨h1, K2, f3, y4⟩ := (k_X12_fails (ev := ev) (xg := xg) (xc := xc) (xw := xw) (b := b) (t := t) (n := n) (rq := (y, rq.2.1, rq.2.2.1, rq.2.2.2.1, nI v, rq.2.2.2.2.2.1, rq.2.2.2.2.2.2)) (f := (nI 2)) (p := s) HX)
        refine mv_cV2 (ci := 12) dX12_takeNumber_157 lk_X12_takeNumber_174 HX rfl (Nat.le_of_ble_eq_true rfl) (Nat.le_of_ble_eq_true rfl) K2 ?_
        have HX : h1[52]? = some (.inr (12, [.ref 53, .ref 54, .int (nI n), .int (nI s), .int (nI y), .long (lN rq.2.2.1), .int (nI rq.2.2.2.1), .int (nI v), .ref 55, .int (nI rq.2.2.2.2.2.2), .int (nI b.1), .ref 56, .ref 57, .ref 58, .int (nI t), .int (nI b.2.1), .ref 59, .ref 60, .ref 61, .ref 62, .int xg, .ref 63, .ref 64, .ref 65, .ref 66, .ref 67, .ref 68, .ref 69, .int xc, .ref 70, .ref 71, .ref 72, .ref 73, .ref 74, .ref 75, .int xw, .ref 76, .ref 77, .ref 78, .ref 79, .ref 80])) := y4
        have X54 := f3.get (by decide) X54
        have fr := fr.trans f3 (by decide)
        refine mv_goto (tgt := 164) dX12_takeNumber_160 (by decide) ?_
        have hys : ¬ y = s := fun q => absurd hf (by rw [← q]; omega)
        have e8 : (q_fe n tx (n - (q_sk n tx (n - rq.1) rq.1)) (q_sk n tx (n - rq.1) rq.1)) = y := (by rw [← es, ← hq]; exact q_fe_n (by omega))
        have e9 : q_tn n tx lo hi rq.1 rq.2.1 rq.2.2.2.2.1 = (2, y, nI s, nI v) := (by unfold q_tn; rw [e8, ← es, hv]; unfold q_tn2; exact (if_neg (by omega)).trans (if_neg (by first | exact (fun q => absurd q.1 (by omega)) | exact (fun q => c150 (by rw [hv]; exact q.2)))))
        exact mv_iret dX12_takeNumber_164 rfl rfl ⟨(by rw [e9]), fr, (by rw [e9]; exact HX)⟩
      · have c135 : ¬ (3 < y - s) := fun z => c135 ((nI_ltI (by omega) (by omega)).mpr z)
        refine mv_aload_n dX12_takeNumber_138 rfl ?_
        refine mv_getf (ci := 12) (f := 7) dX12_takeNumber_139 HX rfl (by decide) wd_1206 rfl ?_
        refine mv_i2l dX12_takeNumber_142 ?_
        refine mv_topL (y := lN v) (nI_l (by omega)) ?_
        refine mv_iload_n dX12_takeNumber_143 rfl ?_
        refine mv_i2l dX12_takeNumber_144 ?_
        refine mv_topL (y := lN lo) (nI_l (by omega)) ?_
        refine mv_iload_n dX12_takeNumber_145 rfl ?_
        refine mv_i2l dX12_takeNumber_146 ?_
        refine mv_topL (y := lN hi) (nI_l (by omega)) ?_
        refine mv_cS3 dX12_takeNumber_147 lk_X12_takeNumber_107 (Nat.le_of_ble_eq_true rfl) (Nat.le_of_ble_eq_true rfl) (k_X12_in (ev := ev)) ?_
        refine mv_if_ne (tgt := 163) dX12_takeNumber_150 (by decide) (fun c150 => ?_) (fun c150 => ?_)
        · have c150 : lo ≤ v ∧ v ≤ hi := (and_congr (lN_leB (by omega) (by omega)) (lN_leB (by omega) (by omega))).mp (mv_b_ne c150)
          refine mv_iconst (v := nI 0) dX12_takeNumber_163 (by decide) ?_
          have hys : ¬ y = s := fun q => absurd hf (by rw [← q]; omega)
          have e8 : (q_fe n tx (n - (q_sk n tx (n - rq.1) rq.1)) (q_sk n tx (n - rq.1) rq.1)) = y := (by rw [← es, ← hq]; exact q_fe_n (by omega))
          have e9 : q_tn n tx lo hi rq.1 rq.2.1 rq.2.2.2.2.1 = (0, y, rq.2.1, nI v) := (by unfold q_tn; rw [e8, ← es, hv]; unfold q_tn2; exact (if_neg (by omega)).trans (if_pos ⟨by omega, by rw [← hv]; exact c150⟩))
          exact mv_iret dX12_takeNumber_164 rfl rfl ⟨(by rw [e9]), fr, (by rw [e9]; exact HX)⟩
        · have c150 : ¬ (lo ≤ v ∧ v ≤ hi) := fun q => (mv_b_0 _).mp c150 ((and_congr (lN_leB (by omega) (by omega)) (lN_leB (by omega) (by omega))).mpr q)
          refine mv_aload_n dX12_takeNumber_153 rfl ?_
          refine mv_iconst (v := nI 2) dX12_takeNumber_154 (by decide) ?_
          refine mv_iload dX12_takeNumber_155 rfl ?_
          obtain ⟨h5, K6, f7, y8⟩ := (k_X12_fails (ev := ev) (xg := xg) (xc := xc) (xw := xw) (b := b) (t := t) (n := n) (rq := (y, rq.2.1, rq.2.2.1, rq.2.2.2.1, nI v, rq.2.2.2.2.2.1, rq.2.2.2.2.2.2)) (f := (nI 2)) (p := s) HX)
          refine mv_cV2 (ci := 12) dX12_takeNumber_157 lk_X12_takeNumber_174 HX rfl (Nat.le_of_ble_eq_true rfl) (Nat.le_of_ble_eq_true rfl) K6 ?_
          have HX : h5[52]? = some (.inr (12, [.ref 53, .ref 54, .int (nI n), .int (nI s), .int (nI y), .long (lN rq.2.2.1), .int (nI rq.2.2.2.1), .int (nI v), .ref 55, .int (nI rq.2.2.2.2.2.2), .int (nI b.1), .ref 56, .ref 57, .ref 58, .int (nI t), .int (nI b.2.1), .ref 59, .ref 60, .ref 61, .ref 62, .int xg, .ref 63, .ref 64, .ref 65, .ref 66, .ref 67, .ref 68, .ref 69, .int xc, .ref 70, .ref 71, .ref 72, .ref 73, .ref 74, .ref 75, .int xw, .ref 76, .ref 77, .ref 78, .ref 79, .ref 80])) := y8
          have X54 := f7.get (by decide) X54
          have fr := fr.trans f7 (by decide)
          refine mv_goto (tgt := 164) dX12_takeNumber_160 (by decide) ?_
          have hys : ¬ y = s := fun q => absurd hf (by rw [← q]; omega)
          have e8 : (q_fe n tx (n - (q_sk n tx (n - rq.1) rq.1)) (q_sk n tx (n - rq.1) rq.1)) = y := (by rw [← es, ← hq]; exact q_fe_n (by omega))
          have e9 : q_tn n tx lo hi rq.1 rq.2.1 rq.2.2.2.2.1 = (2, y, nI s, nI v) := (by unfold q_tn; rw [e8, ← es, hv]; unfold q_tn2; exact (if_neg (by omega)).trans (if_neg (by first | exact (fun q => absurd q.1 (by omega)) | exact (fun q => c150 (by rw [hv]; exact q.2)))))
          exact mv_iret dX12_takeNumber_164 rfl rfl ⟨(by rw [e9]), fr, (by rw [e9]; exact HX)⟩
    · have c48 : ¬ (n ≤ y) := fun z => c48 ((nI_leI (by omega) (by omega)).mpr z)
      refine mv_aload_n dX12_takeNumber_51 rfl ?_
      refine mv_getf (ci := 12) (f := 1) dX12_takeNumber_52 HX rfl (by decide) wd_1200 rfl ?_
      refine mv_aload_n dX12_takeNumber_55 rfl ?_
      refine mv_getf (ci := 12) (f := 4) dX12_takeNumber_56 HX rfl (by decide) wd_1203 rfl ?_
      refine mv_iaN (j := y) (x := nI (tx y)) dX12_takeNumber_59 X54 rfl (by decide) (by omega) rfl ?_
      refine mv_i2l dX12_takeNumber_60 ?_
      refine mv_topL (y := lN (tx y)) (nI_l (by omega)) ?_
      refine mv_ldc2 (v := lN 48) dX12_takeNumber_61 wd_1391 ?_
      refine mv_ldc2 (v := lN 57) dX12_takeNumber_64 wd_1392 ?_
      refine mv_cS3 dX12_takeNumber_67 lk_X12_takeNumber_107 (Nat.le_of_ble_eq_true rfl) (Nat.le_of_ble_eq_true rfl) (k_X12_in (ev := ev)) ?_
      refine mv_if_eq (tgt := 127) dX12_takeNumber_70 (by decide) (fun c70 => ?_) (fun c70 => ?_)
      · have c70 : ¬ (48 ≤ tx y ∧ tx y ≤ 57) := fun q => (mv_b_0 _).mp c70 ((and_congr (lN_leB (by omega) (by omega)) (lN_leB (by omega) (by omega))).mpr q)
        refine mv_aload_n dX12_takeNumber_127 rfl ?_
        refine mv_getf (ci := 12) (f := 4) dX12_takeNumber_128 HX rfl (by decide) wd_1203 rfl ?_
        refine mv_iload dX12_takeNumber_131 rfl ?_
        refine mv_isub dX12_takeNumber_133 ?_
        refine mv_topI (y := nI (y - s)) (pk_sub (by omega)) ?_
        refine mv_iconst (v := nI 3) dX12_takeNumber_134 (by decide) ?_
        refine mv_icmp_gt (tgt := 153) dX12_takeNumber_135 (by decide) (fun c135 => ?_) (fun c135 => ?_)
        · have c135 : 3 < y - s := (nI_ltI (by omega) (by omega)).mp c135
          refine mv_aload_n dX12_takeNumber_153 rfl ?_
          refine mv_iconst (v := nI 2) dX12_takeNumber_154 (by decide) ?_
          refine mv_iload dX12_takeNumber_155 rfl ?_
          obtain ⟨h9, K10, f11, y12⟩ := (k_X12_fails (ev := ev) (xg := xg) (xc := xc) (xw := xw) (b := b) (t := t) (n := n) (rq := (y, rq.2.1, rq.2.2.1, rq.2.2.2.1, nI v, rq.2.2.2.2.2.1, rq.2.2.2.2.2.2)) (f := (nI 2)) (p := s) HX)
          refine mv_cV2 (ci := 12) dX12_takeNumber_157 lk_X12_takeNumber_174 HX rfl (Nat.le_of_ble_eq_true rfl) (Nat.le_of_ble_eq_true rfl) K10 ?_
          have HX : h9[52]? = some (.inr (12, [.ref 53, .ref 54, .int (nI n), .int (nI s), .int (nI y), .long (lN rq.2.2.1), .int (nI rq.2.2.2.1), .int (nI v), .ref 55, .int (nI rq.2.2.2.2.2.2), .int (nI b.1), .ref 56, .ref 57, .ref 58, .int (nI t), .int (nI b.2.1), .ref 59, .ref 60, .ref 61, .ref 62, .int xg, .ref 63, .ref 64, .ref 65, .ref 66, .ref 67, .ref 68, .ref 69, .int xc, .ref 70, .ref 71, .ref 72, .ref 73, .ref 74, .ref 75, .int xw, .ref 76, .ref 77, .ref 78, .ref 79, .ref 80])) := y12
          have X54 := f11.get (by decide) X54
          have fr := fr.trans f11 (by decide)
          refine mv_goto (tgt := 164) dX12_takeNumber_160 (by decide) ?_
          have hys : ¬ y = s := fun q => absurd hf (by rw [← q]; omega)
          have e8 : (q_fe n tx (n - (q_sk n tx (n - rq.1) rq.1)) (q_sk n tx (n - rq.1) rq.1)) = y := (by rw [← es, ← hq]; exact q_fe_n (by omega))
          have e9 : q_tn n tx lo hi rq.1 rq.2.1 rq.2.2.2.2.1 = (2, y, nI s, nI v) := (by unfold q_tn; rw [e8, ← es, hv]; unfold q_tn2; exact (if_neg (by omega)).trans (if_neg (by first | exact (fun q => absurd q.1 (by omega)) | exact (fun q => c150 (by rw [hv]; exact q.2)))))
          exact mv_iret dX12_takeNumber_164 rfl rfl ⟨(by rw [e9]), fr, (by rw [e9]; exact HX)⟩
        · have c135 : ¬ (3 < y - s) := fun z => c135 ((nI_ltI (by omega) (by omega)).mpr z)
          refine mv_aload_n dX12_takeNumber_138 rfl ?_
          refine mv_getf (ci := 12) (f := 7) dX12_takeNumber_139 HX rfl (by decide) wd_1206 rfl ?_
          refine mv_i2l dX12_takeNumber_142 ?_
          refine mv_topL (y := lN v) (nI_l (by omega)) ?_
          refine mv_iload_n dX12_takeNumber_143 rfl ?_
          refine mv_i2l dX12_takeNumber_144 ?_
          refine mv_topL (y := lN lo) (nI_l (by omega)) ?_
          refine mv_iload_n dX12_takeNumber_145 rfl ?_
          refine mv_i2l dX12_takeNumber_146 ?_
          refine mv_topL (y := lN hi) (nI_l (by omega)) ?_
          refine mv_cS3 dX12_takeNumber_147 lk_X12_takeNumber_107 (Nat.le_of_ble_eq_true rfl) (Nat.le_of_ble_eq_true rfl) (k_X12_in (ev := ev)) ?_
          refine mv_if_ne (tgt := 163) dX12_takeNumber_150 (by decide) (fun c150 => ?_) (fun c150 => ?_)
          · have c150 : lo ≤ v ∧ v ≤ hi := (and_congr (lN_leB (by omega) (by omega)) (lN_leB (by omega) (by omega))).mp (mv_b_ne c150)
            refine mv_iconst (v := nI 0) dX12_takeNumber_163 (by decide) ?_
            have hys : ¬ y = s := fun q => absurd hf (by rw [← q]; omega)
            have e8 : (q_fe n tx (n - (q_sk n tx (n - rq.1) rq.1)) (q_sk n tx (n - rq.1) rq.1)) = y := (by rw [← es, ← hq]; exact q_fe_n (by omega))
            have e9 : q_tn n tx lo hi rq.1 rq.2.1 rq.2.2.2.2.1 = (0, y, rq.2.1, nI v) := (by unfold q_tn; rw [e8, ← es, hv]; unfold q_tn2; exact (if_neg (by omega)).trans (if_pos ⟨by omega, by rw [← hv]; exact c150⟩))
            exact mv_iret dX12_takeNumber_164 rfl rfl ⟨(by rw [e9]), fr, (by rw [e9]; exact HX)⟩
          · have c150 : ¬ (lo ≤ v ∧ v ≤ hi) := fun q => (mv_b_0 _).mp c150 ((and_congr (lN_leB (by omega) (by omega)) (lN_leB (by omega) (by omega))).mpr q)
            refine mv_aload_n dX12_takeNumber_153 rfl ?_
            refine mv_iconst (v := nI 2) dX12_takeNumber_154 (by decide) ?_
            refine mv_iload dX12_takeNumber_155 rfl ?_
            obtain ⟨h13, K14, f15, y16⟩ := (k_X12_fails (ev := ev) (xg := xg) (xc := xc) (xw := xw) (b := b) (t := t) (n := n) (rq := (y, rq.2.1, rq.2.2.1, rq.2.2.2.1, nI v, rq.2.2.2.2.2.1, rq.2.2.2.2.2.2)) (f := (nI 2)) (p := s) HX)
            refine mv_cV2 (ci := 12) dX12_takeNumber_157 lk_X12_takeNumber_174 HX rfl (Nat.le_of_ble_eq_true rfl) (Nat.le_of_ble_eq_true rfl) K14 ?_
            have HX : h13[52]? = some (.inr (12, [.ref 53, .ref 54, .int (nI n), .int (nI s), .int (nI y), .long (lN rq.2.2.1), .int (nI rq.2.2.2.1), .int (nI v), .ref 55, .int (nI rq.2.2.2.2.2.2), .int (nI b.1), .ref 56, .ref 57, .ref 58, .int (nI t), .int (nI b.2.1), .ref 59, .ref 60, .ref 61, .ref 62, .int xg, .ref 63, .ref 64, .ref 65, .ref 66, .ref 67, .ref 68, .ref 69, .int xc, .ref 70, .ref 71, .ref 72, .ref 73, .ref 74, .ref 75, .int xw, .ref 76, .ref 77, .ref 78, .ref 79, .ref 80])) := y16
            have X54 := f15.get (by decide) X54
            have fr := fr.trans f15 (by decide)
            refine mv_goto (tgt := 164) dX12_takeNumber_160 (by decide) ?_
            have hys : ¬ y = s := fun q => absurd hf (by rw [← q]; omega)
            have e8 : (q_fe n tx (n - (q_sk n tx (n - rq.1) rq.1)) (q_sk n tx (n - rq.1) rq.1)) = y := (by rw [← es, ← hq]; exact q_fe_n (by omega))
            have e9 : q_tn n tx lo hi rq.1 rq.2.1 rq.2.2.2.2.1 = (2, y, nI s, nI v) := (by unfold q_tn; rw [e8, ← es, hv]; unfold q_tn2; exact (if_neg (by omega)).trans (if_neg (by first | exact (fun q => absurd q.1 (by omega)) | exact (fun q => c150 (by rw [hv]; exact q.2)))))
            exact mv_iret dX12_takeNumber_164 rfl rfl ⟨(by rw [e9]), fr, (by rw [e9]; exact HX)⟩
      · have c70 : 48 ≤ tx y ∧ tx y ≤ 57 := (and_congr (lN_leB (by omega) (by omega)) (lN_leB (by omega) (by omega))).mp (mv_b_ne c70)
        refine mv_aload_n dX12_takeNumber_73 rfl ?_
        refine mv_aload_n dX12_takeNumber_74 rfl ?_
        refine mv_getf (ci := 12) (f := 7) dX12_takeNumber_75 HX rfl (by decide) wd_1206 rfl ?_
        refine mv_sipush (v := nI 10000) dX12_takeNumber_78 (by decide) ?_
        refine mv_icmp_le (tgt := 91) dX12_takeNumber_81 (by decide) (fun c81 => ?_) (fun c81 => ?_)
        · have c81 : v ≤ 10000 := (nI_leI (by omega) (by omega)).mp c81
          refine mv_bipush (v := nI 10) dX12_takeNumber_91 (by decide) ?_
          refine mv_aload_n dX12_takeNumber_93 rfl ?_
          refine mv_getf (ci := 12) (f := 7) dX12_takeNumber_94 HX rfl (by decide) wd_1206 rfl ?_
          refine mv_imul dX12_takeNumber_97 ?_
          refine mv_topI (y := nI (10 * v)) (pk_mul _ _) ?_
          refine mv_aload_n dX12_takeNumber_98 rfl ?_
          refine mv_getf (ci := 12) (f := 1) dX12_takeNumber_99 HX rfl (by decide) wd_1200 rfl ?_
          refine mv_aload_n dX12_takeNumber_102 rfl ?_
          refine mv_getf (ci := 12) (f := 4) dX12_takeNumber_103 HX rfl (by decide) wd_1203 rfl ?_
          refine mv_iaN (j := y) (x := nI (tx y)) dX12_takeNumber_106 X54 rfl (by decide) (by omega) rfl ?_
          refine mv_iadd dX12_takeNumber_107 ?_
          refine mv_topI (y := nI (10 * v + (tx y))) (nI_add _ _) ?_
          refine mv_bipush (v := nI 48) dX12_takeNumber_108 (by decide) ?_
          refine mv_isub dX12_takeNumber_110 ?_
          refine mv_topI (y := nI (10 * v + tx y - 48)) (pk_sub (by omega)) ?_
          refine mv_putf (ci := 12) (f := 7) dX12_takeNumber_111 HX rfl (by decide) wd_1206 rfl rfl (fun _ => ⟨rfl, rfl⟩) (Nat.le_of_ble_eq_true rfl) ?_
          refine mv_topH (fun h17 e18 => ?_)
          have HX : h17[52]? = some (.inr (12, [.ref 53, .ref 54, .int (nI n), .int rq.2.1, .int (nI y), .long (lN rq.2.2.1), .int (nI rq.2.2.2.1), .int (nI (10 * v + tx y - 48)), .ref 55, .int (nI rq.2.2.2.2.2.2), .int (nI b.1), .ref 56, .ref 57, .ref 58, .int (nI t), .int (nI b.2.1), .ref 59, .ref 60, .ref 61, .ref 62, .int xg, .ref 63, .ref 64, .ref 65, .ref 66, .ref 67, .ref 68, .ref 69, .int xc, .ref 70, .ref 71, .ref 72, .ref 73, .ref 74, .ref 75, .int xw, .ref 76, .ref 77, .ref 78, .ref 79, .ref 80])) := mv_eq e18 HX
          have X54 := mv_ne e18 (by decide) X54
          have fr := fr.set e18 (by decide)
          clear e18
          refine mv_aload_n dX12_takeNumber_114 rfl ?_
          refine mv_dup dX12_takeNumber_115 rfl ?_
          refine mv_getf (ci := 12) (f := 4) dX12_takeNumber_116 HX rfl (by decide) wd_1203 rfl ?_
          refine mv_iconst (v := nI 1) dX12_takeNumber_119 (by decide) ?_
          refine mv_iadd dX12_takeNumber_120 ?_
          refine mv_topI (y := nI (y + 1)) (nI_add _ _) ?_
          refine mv_putf (ci := 12) (f := 4) dX12_takeNumber_121 HX rfl (by decide) wd_1203 rfl rfl (fun _ => ⟨rfl, rfl⟩) (Nat.le_of_ble_eq_true rfl) ?_
          refine mv_topH (fun h19 e20 => ?_)
          have HX : h19[52]? = some (.inr (12, [.ref 53, .ref 54, .int (nI n), .int rq.2.1, .int (nI (y + 1)), .long (lN rq.2.2.1), .int (nI rq.2.2.2.1), .int (nI (10 * v + tx y - 48)), .ref 55, .int (nI rq.2.2.2.2.2.2), .int (nI b.1), .ref 56, .ref 57, .ref 58, .int (nI t), .int (nI b.2.1), .ref 59, .ref 60, .ref 61, .ref 62, .int xg, .ref 63, .ref 64, .ref 65, .ref 66, .ref 67, .ref 68, .ref 69, .int xc, .ref 70, .ref 71, .ref 72, .ref 73, .ref 74, .ref 75, .int xw, .ref 76, .ref 77, .ref 78, .ref 79, .ref 80])) := mv_eq e20 HX
          have X54 := mv_ne e20 (by decide) X54
          have fr := fr.set e20 (by decide)
          clear e20
          refine mv_goto (tgt := 40) dX12_takeNumber_124 (by decide) ?_
          exact ih s (10 * v + tx y - 48) (y + 1) h19 (by omega) fr HX X54 es hf (by omega) (by omega) (by omega) (by rw [← hq]; exact (q_fe_y (by omega)).symm) (by first | (rw [hv]; exact (q_rv_2 hs (by omega) (by omega)).symm) | (rw [hv]; exact (q_rv_1 hs (by omega)).symm)) (by omega)
        · have c81 : ¬ (v ≤ 10000) := fun z => c81 ((nI_leI (by omega) (by omega)).mpr z)
          refine mv_aload_n dX12_takeNumber_84 rfl ?_
          refine mv_getf (ci := 12) (f := 7) dX12_takeNumber_85 HX rfl (by decide) wd_1206 rfl ?_
          refine mv_goto (tgt := 111) dX12_takeNumber_88 (by decide) ?_
          refine mv_putf (ci := 12) (f := 7) dX12_takeNumber_111 HX rfl (by decide) wd_1206 rfl rfl (fun _ => ⟨rfl, rfl⟩) (Nat.le_of_ble_eq_true rfl) ?_
          refine mv_topH (fun h21 e22 => ?_)
          have HX : h21[52]? = some (.inr (12, [.ref 53, .ref 54, .int (nI n), .int rq.2.1, .int (nI y), .long (lN rq.2.2.1), .int (nI rq.2.2.2.1), .int (nI v), .ref 55, .int (nI rq.2.2.2.2.2.2), .int (nI b.1), .ref 56, .ref 57, .ref 58, .int (nI t), .int (nI b.2.1), .ref 59, .ref 60, .ref 61, .ref 62, .int xg, .ref 63, .ref 64, .ref 65, .ref 66, .ref 67, .ref 68, .ref 69, .int xc, .ref 70, .ref 71, .ref 72, .ref 73, .ref 74, .ref 75, .int xw, .ref 76, .ref 77, .ref 78, .ref 79, .ref 80])) := mv_eq e22 HX
          have X54 := mv_ne e22 (by decide) X54
          have fr := fr.set e22 (by decide)
          clear e22
          refine mv_aload_n dX12_takeNumber_114 rfl ?_
          refine mv_dup dX12_takeNumber_115 rfl ?_
          refine mv_getf (ci := 12) (f := 4) dX12_takeNumber_116 HX rfl (by decide) wd_1203 rfl ?_
          refine mv_iconst (v := nI 1) dX12_takeNumber_119 (by decide) ?_
          refine mv_iadd dX12_takeNumber_120 ?_
          refine mv_topI (y := nI (y + 1)) (nI_add _ _) ?_
          refine mv_putf (ci := 12) (f := 4) dX12_takeNumber_121 HX rfl (by decide) wd_1203 rfl rfl (fun _ => ⟨rfl, rfl⟩) (Nat.le_of_ble_eq_true rfl) ?_
          refine mv_topH (fun h23 e24 => ?_)
          have HX : h23[52]? = some (.inr (12, [.ref 53, .ref 54, .int (nI n), .int rq.2.1, .int (nI (y + 1)), .long (lN rq.2.2.1), .int (nI rq.2.2.2.1), .int (nI v), .ref 55, .int (nI rq.2.2.2.2.2.2), .int (nI b.1), .ref 56, .ref 57, .ref 58, .int (nI t), .int (nI b.2.1), .ref 59, .ref 60, .ref 61, .ref 62, .int xg, .ref 63, .ref 64, .ref 65, .ref 66, .ref 67, .ref 68, .ref 69, .int xc, .ref 70, .ref 71, .ref 72, .ref 73, .ref 74, .ref 75, .int xw, .ref 76, .ref 77, .ref 78, .ref 79, .ref 80])) := mv_eq e24 HX
          have X54 := mv_ne e24 (by decide) X54
          have fr := fr.set e24 (by decide)
          clear e24
          refine mv_goto (tgt := 40) dX12_takeNumber_124 (by decide) ?_
          exact ih s v (y + 1) h23 (by omega) fr HX X54 es hf (by omega) (by omega) (by omega) (by rw [← hq]; exact (q_fe_y (by omega)).symm) (by first | (rw [hv]; exact (q_rv_2 hs (by omega) (by omega)).symm) | (rw [hv]; exact (q_rv_1 hs (by omega)).symm)) (by omega)
set_option maxRecDepth 100000 in
theorem k_X12_takeNumber {ev : mv_E} {h : mv_H} {xg : Int32} {xc : Int32} {xw : Int32} {b : t_B} {t : Nat} {n : Nat} {tx : Nat → Nat} {rq : q_R} {lo : Nat} {hi : Nat} (HX : h[52]? = some (.inr (12, [.ref 53, .ref 54, .int (nI n), .int rq.2.1, .int (nI rq.1), .long (lN rq.2.2.1), .int (nI rq.2.2.2.1), .int rq.2.2.2.2.1, .ref 55, .int (nI rq.2.2.2.2.2.2), .int (nI b.1), .ref 56, .ref 57, .ref 58, .int (nI t), .int (nI b.2.1), .ref 59, .ref 60, .ref 61, .ref 62, .int xg, .ref 63, .ref 64, .ref 65, .ref 66, .ref 67, .ref 68, .ref 69, .int xc, .ref 70, .ref 71, .ref 72, .ref 73, .ref 74, .ref 75, .int xw, .ref 76, .ref 77, .ref 78, .ref 79, .ref 80]))) (X54 : h[54]? = some (.inl (0, 160, .inl (fun j => nI (tx j))))) (hn : n ≤ 160) (htx : ∀ i, tx i < 256) (ha : rq.1 ≤ n) (hlo : lo < 2000) (hhi : hi < 2000) : ∃ h2, mv_K ev mX12_takeNumber [.ref 52, .int (nI lo), .int (nI hi)] h (some (.int (nI (q_tn n tx lo hi rq.1 rq.2.1 rq.2.2.2.2.1).1))) h2 ∧ mv_fra [52] h h2 ∧ h2[52]? = some (.inr (12, [.ref 53, .ref 54, .int (nI n), .int ((q_tn n tx lo hi rq.1 rq.2.1 rq.2.2.2.2.1).2.2.1), .int (nI (q_tn n tx lo hi rq.1 rq.2.1 rq.2.2.2.2.1).2.1), .long (lN rq.2.2.1), .int (nI rq.2.2.2.1), .int ((q_tn n tx lo hi rq.1 rq.2.1 rq.2.2.2.2.1).2.2.2), .ref 55, .int (nI rq.2.2.2.2.2.2), .int (nI b.1), .ref 56, .ref 57, .ref 58, .int (nI t), .int (nI b.2.1), .ref 59, .ref 60, .ref 61, .ref 62, .int xg, .ref 63, .ref 64, .ref 65, .ref 66, .ref 67, .ref 68, .ref 69, .int xc, .ref 70, .ref 71, .ref 72, .ref 73, .ref 74, .ref 75, .int xw, .ref 76, .ref 77, .ref 78, .ref 79, .ref 80])) := by
  suffices g0 : mv_g ev mX12_takeNumber 0 (mv_ent [.ref 52, .int (nI lo), .int (nI hi)] (mv_ml mX12_takeNumber)) [] h (fun r g => r = some (.int (nI (q_tn n tx lo hi rq.1 rq.2.1 rq.2.2.2.2.1).1)) ∧ mv_fra [52] h g ∧ g[52]? = some (.inr (12, [.ref 53, .ref 54, .int (nI n), .int ((q_tn n tx lo hi rq.1 rq.2.1 rq.2.2.2.2.1).2.2.1), .int (nI (q_tn n tx lo hi rq.1 rq.2.1 rq.2.2.2.2.1).2.1), .long (lN rq.2.2.1), .int (nI rq.2.2.2.1), .int ((q_tn n tx lo hi rq.1 rq.2.1 rq.2.2.2.2.1).2.2.2), .ref 55, .int (nI rq.2.2.2.2.2.2), .int (nI b.1), .ref 56, .ref 57, .ref 58, .int (nI t), .int (nI b.2.1), .ref 59, .ref 60, .ref 61, .ref 62, .int xg, .ref 63, .ref 64, .ref 65, .ref 66, .ref 67, .ref 68, .ref 69, .int xc, .ref 70, .ref 71, .ref 72, .ref 73, .ref 74, .ref 75, .int xw, .ref 76, .ref 77, .ref 78, .ref 79, .ref 80]))) from (by obtain ⟨r0, h0, K0, q0, Q0⟩ := mv_Kex g0; subst q0; exact ⟨h0, K0, Q0⟩)
  show mv_g ev mX12_takeNumber 0 [.ref 52, .int (nI lo), .int (nI hi), .null, .null] [] h _
  have fr : mv_fra [52] h h := mv_fra.rf
  refine mv_aload_n dX12_takeNumber_0 rfl ?_
  obtain ⟨h1, K2, f3, y4⟩ := (k_X12_here (ev := ev) (xg := xg) (xc := xc) (xw := xw) (b := b) (t := t) (n := n) (tx := tx) (rq := rq) HX X54 hn htx ha)
  refine mv_cV0 (ci := 12) dX12_takeNumber_1 lk_X12_takeNumber_141 HX rfl (Nat.le_of_ble_eq_true rfl) (Nat.le_of_ble_eq_true rfl) K2 ?_
  have HX : h1[52]? = some (.inr (12, [.ref 53, .ref 54, .int (nI n), .int rq.2.1, .int (nI (q_sk n tx (n - rq.1) rq.1)), .long (lN rq.2.2.1), .int (nI rq.2.2.2.1), .int rq.2.2.2.2.1, .ref 55, .int (nI rq.2.2.2.2.2.2), .int (nI b.1), .ref 56, .ref 57, .ref 58, .int (nI t), .int (nI b.2.1), .ref 59, .ref 60, .ref 61, .ref 62, .int xg, .ref 63, .ref 64, .ref 65, .ref 66, .ref 67, .ref 68, .ref 69, .int xc, .ref 70, .ref 71, .ref 72, .ref 73, .ref 74, .ref 75, .int xw, .ref 76, .ref 77, .ref 78, .ref 79, .ref 80])) := y4
  have X54 := f3.get (by decide) X54
  have fr := fr.trans f3 (by decide)
  refine mv_istore_n dX12_takeNumber_4 (by decide) ?_
  refine mv_iload_n dX12_takeNumber_5 rfl ?_
  refine mv_i2l dX12_takeNumber_6 ?_
  refine mv_ldc2 (v := lN 48) dX12_takeNumber_7 wd_1391 ?_
  refine mv_ldc2 (v := lN 57) dX12_takeNumber_10 wd_1392 ?_
  refine mv_cS3 dX12_takeNumber_13 lk_X12_takeNumber_107 (Nat.le_of_ble_eq_true rfl) (Nat.le_of_ble_eq_true rfl) (k_X12_in (ev := ev)) ?_
  refine mv_if_ne (tgt := 29) dX12_takeNumber_16 (by decide) (fun c16 => ?_) (fun c16 => ?_)
  · have c16 : (q_sk n tx (n - rq.1) rq.1) < n ∧ 48 ≤ tx (q_sk n tx (n - rq.1) rq.1) ∧ tx (q_sk n tx (n - rq.1) rq.1) ≤ 57 := (q_by_in htx (by decide) (by decide) _).mp (mv_b_ne c16)
    refine mv_aload_n dX12_takeNumber_29 rfl ?_
    refine mv_getf (ci := 12) (f := 4) dX12_takeNumber_30 HX rfl (by decide) wd_1203 rfl ?_
    refine mv_istore dX12_takeNumber_33 (by decide) ?_
    refine mv_aload_n dX12_takeNumber_35 rfl ?_
    refine mv_iconst (v := nI 0) dX12_takeNumber_36 (by decide) ?_
    refine mv_putf (ci := 12) (f := 7) dX12_takeNumber_37 HX rfl (by decide) wd_1206 rfl rfl (fun _ => ⟨rfl, rfl⟩) (Nat.le_of_ble_eq_true rfl) ?_
    refine mv_topH (fun h5 e6 => ?_)
    have HX : h5[52]? = some (.inr (12, [.ref 53, .ref 54, .int (nI n), .int rq.2.1, .int (nI (q_sk n tx (n - rq.1) rq.1)), .long (lN rq.2.2.1), .int (nI rq.2.2.2.1), .int (nI 0), .ref 55, .int (nI rq.2.2.2.2.2.2), .int (nI b.1), .ref 56, .ref 57, .ref 58, .int (nI t), .int (nI b.2.1), .ref 59, .ref 60, .ref 61, .ref 62, .int xg, .ref 63, .ref 64, .ref 65, .ref 66, .ref 67, .ref 68, .ref 69, .int xc, .ref 70, .ref 71, .ref 72, .ref 73, .ref 74, .ref 75, .int xw, .ref 76, .ref 77, .ref 78, .ref 79, .ref 80])) := mv_eq e6 HX
    have X54 := mv_ne e6 (by decide) X54
    have fr := fr.set e6 (by decide)
    clear e6
    refine mv_sub (lv' := [.ref 52, .int (nI lo), .int (nI hi), .null, .int (nI (q_sk n tx (n - rq.1) rq.1))]) ⟨Or.inr rfl, Or.inr rfl, Or.inr rfl, Or.inl rfl, Or.inr rfl, trivial⟩ ?_
    exact l_X12_take hn htx ha hlo hhi (n + 1) (q_sk n tx (n - rq.1) rq.1) 0 (q_sk n tx (n - rq.1) rq.1) h5 (by omega) fr HX X54 rfl c16 (Nat.le_refl _) (Or.inl rfl) (q_sk_in _ _ ha).2 rfl (by rw [Nat.sub_self]; rfl) (Nat.zero_le _)
  · have c16 : ¬ ((q_sk n tx (n - rq.1) rq.1) < n ∧ 48 ≤ tx (q_sk n tx (n - rq.1) rq.1) ∧ tx (q_sk n tx (n - rq.1) rq.1) ≤ 57) := fun q => (mv_b_0 _).mp c16 ((q_by_in htx (by decide) (by decide) _).mpr q)
    refine mv_aload_n dX12_takeNumber_19 rfl ?_
    refine mv_iconst (v := nI 1) dX12_takeNumber_20 (by decide) ?_
    refine mv_aload_n dX12_takeNumber_21 rfl ?_
    refine mv_getf (ci := 12) (f := 4) dX12_takeNumber_22 HX rfl (by decide) wd_1203 rfl ?_
    obtain ⟨h7, K8, f9, y10⟩ := (k_X12_fails (ev := ev) (xg := xg) (xc := xc) (xw := xw) (b := b) (t := t) (n := n) (rq := (q_sk n tx (n - rq.1) rq.1, rq.2.1, rq.2.2.1, rq.2.2.2.1, rq.2.2.2.2.1, rq.2.2.2.2.2.1, rq.2.2.2.2.2.2)) (f := (nI 1)) (p := (q_sk n tx (n - rq.1) rq.1)) HX)
    refine mv_cV2 (ci := 12) dX12_takeNumber_25 lk_X12_takeNumber_174 HX rfl (Nat.le_of_ble_eq_true rfl) (Nat.le_of_ble_eq_true rfl) K8 ?_
    have HX : h7[52]? = some (.inr (12, [.ref 53, .ref 54, .int (nI n), .int (nI (q_sk n tx (n - rq.1) rq.1)), .int (nI (q_sk n tx (n - rq.1) rq.1)), .long (lN rq.2.2.1), .int (nI rq.2.2.2.1), .int rq.2.2.2.2.1, .ref 55, .int (nI rq.2.2.2.2.2.2), .int (nI b.1), .ref 56, .ref 57, .ref 58, .int (nI t), .int (nI b.2.1), .ref 59, .ref 60, .ref 61, .ref 62, .int xg, .ref 63, .ref 64, .ref 65, .ref 66, .ref 67, .ref 68, .ref 69, .int xc, .ref 70, .ref 71, .ref 72, .ref 73, .ref 74, .ref 75, .int xw, .ref 76, .ref 77, .ref 78, .ref 79, .ref 80])) := y10
    have X54 := f9.get (by decide) X54
    have fr := fr.trans f9 (by decide)
    have e8 : (q_fe n tx (n - (q_sk n tx (n - rq.1) rq.1)) (q_sk n tx (n - rq.1) rq.1)) = (q_sk n tx (n - rq.1) rq.1) := q_fe_n c16
    have e9 : q_tn n tx lo hi rq.1 rq.2.1 rq.2.2.2.2.1 = (1, (q_sk n tx (n - rq.1) rq.1), nI (q_sk n tx (n - rq.1) rq.1), rq.2.2.2.2.1) := (by unfold q_tn; rw [e8]; exact if_pos rfl)
    exact mv_iret dX12_takeNumber_28 rfl rfl ⟨(by rw [e9]), fr, (by rw [e9]; exact HX)⟩
set_option maxRecDepth 100000 in
theorem k_X12_mostOf_0 {ev : mv_E} {h : mv_H}   : mv_K ev mX12_mostOf [.int (nI 0)] h (some (.int (nI 999))) h := by
  refine mv_Kof ?_
  show mv_g ev mX12_mostOf 0 [.int (nI 0)] [] h _
  refine mv_iload_n dX12_mostOf_0 rfl ?_
  refine mv_if_eq (tgt := 9) dX12_mostOf_1 (by decide) (fun c1 => ?_) (fun z => absurd ((by decide)) z)
  refine mv_sipush (v := nI 999) dX12_mostOf_9 (by decide) ?_
  refine mv_goto (tgt := 57) dX12_mostOf_12 (by decide) ?_
  exact mv_iret dX12_mostOf_57 rfl rfl ⟨rfl, rfl⟩
set_option maxRecDepth 100000 in
theorem k_X12_mostOf_1 {ev : mv_E} {h : mv_H}   : mv_K ev mX12_mostOf [.int (nI 1)] h (some (.int (nI 99))) h := by
  refine mv_Kof ?_
  show mv_g ev mX12_mostOf 0 [.int (nI 1)] [] h _
  refine mv_iload_n dX12_mostOf_0 rfl ?_
  refine mv_if_eq (tgt := 9) dX12_mostOf_1 (by decide) (fun z => absurd z ((by decide))) (fun c1 => ?_)
  refine mv_iload_n dX12_mostOf_4 rfl ?_
  refine mv_iconst (v := nI 2) dX12_mostOf_5 (by decide) ?_
  refine mv_icmp_ne (tgt := 15) dX12_mostOf_6 (by decide) (fun c6 => ?_) (fun z => absurd z ((by decide)))
  refine mv_iload_n dX12_mostOf_15 rfl ?_
  refine mv_iconst (v := nI 1) dX12_mostOf_16 (by decide) ?_
  refine mv_icmp_ne (tgt := 25) dX12_mostOf_17 (by decide) (fun z => absurd ((by decide)) z) (fun c17 => ?_)
  refine mv_bipush (v := nI 99) dX12_mostOf_20 (by decide) ?_
  refine mv_goto (tgt := 57) dX12_mostOf_22 (by decide) ?_
  exact mv_iret dX12_mostOf_57 rfl rfl ⟨rfl, rfl⟩
set_option maxRecDepth 100000 in
theorem k_X12_mostOf_2 {ev : mv_E} {h : mv_H}   : mv_K ev mX12_mostOf [.int (nI 2)] h (some (.int (nI 999))) h := by
  refine mv_Kof ?_
  show mv_g ev mX12_mostOf 0 [.int (nI 2)] [] h _
  refine mv_iload_n dX12_mostOf_0 rfl ?_
  refine mv_if_eq (tgt := 9) dX12_mostOf_1 (by decide) (fun z => absurd z ((by decide))) (fun c1 => ?_)
  refine mv_iload_n dX12_mostOf_4 rfl ?_
  refine mv_iconst (v := nI 2) dX12_mostOf_5 (by decide) ?_
  refine mv_icmp_ne (tgt := 15) dX12_mostOf_6 (by decide) (fun z => absurd ((by decide)) z) (fun c6 => ?_)
  refine mv_sipush (v := nI 999) dX12_mostOf_9 (by decide) ?_
  refine mv_goto (tgt := 57) dX12_mostOf_12 (by decide) ?_
  exact mv_iret dX12_mostOf_57 rfl rfl ⟨rfl, rfl⟩
set_option maxRecDepth 100000 in
theorem k_X12_mostOf_3 {ev : mv_E} {h : mv_H}   : mv_K ev mX12_mostOf [.int (nI 3)] h (some (.int (nI 30))) h := by
  refine mv_Kof ?_
  show mv_g ev mX12_mostOf 0 [.int (nI 3)] [] h _
  refine mv_iload_n dX12_mostOf_0 rfl ?_
  refine mv_if_eq (tgt := 9) dX12_mostOf_1 (by decide) (fun z => absurd z ((by decide))) (fun c1 => ?_)
  refine mv_iload_n dX12_mostOf_4 rfl ?_
  refine mv_iconst (v := nI 2) dX12_mostOf_5 (by decide) ?_
  refine mv_icmp_ne (tgt := 15) dX12_mostOf_6 (by decide) (fun c6 => ?_) (fun z => absurd z ((by decide)))
  refine mv_iload_n dX12_mostOf_15 rfl ?_
  refine mv_iconst (v := nI 1) dX12_mostOf_16 (by decide) ?_
  refine mv_icmp_ne (tgt := 25) dX12_mostOf_17 (by decide) (fun c17 => ?_) (fun z => absurd z ((by decide)))
  refine mv_iload_n dX12_mostOf_25 rfl ?_
  refine mv_iconst (v := nI 3) dX12_mostOf_26 (by decide) ?_
  refine mv_icmp_ne (tgt := 35) dX12_mostOf_27 (by decide) (fun z => absurd ((by decide)) z) (fun c27 => ?_)
  refine mv_bipush (v := nI 30) dX12_mostOf_30 (by decide) ?_
  refine mv_goto (tgt := 57) dX12_mostOf_32 (by decide) ?_
  exact mv_iret dX12_mostOf_57 rfl rfl ⟨rfl, rfl⟩
set_option maxRecDepth 100000 in
theorem k_X12_mostOf_4 {ev : mv_E} {h : mv_H}   : mv_K ev mX12_mostOf [.int (nI 4)] h (some (.int (nI 7))) h := by
  refine mv_Kof ?_
  show mv_g ev mX12_mostOf 0 [.int (nI 4)] [] h _
  refine mv_iload_n dX12_mostOf_0 rfl ?_
  refine mv_if_eq (tgt := 9) dX12_mostOf_1 (by decide) (fun z => absurd z ((by decide))) (fun c1 => ?_)
  refine mv_iload_n dX12_mostOf_4 rfl ?_
  refine mv_iconst (v := nI 2) dX12_mostOf_5 (by decide) ?_
  refine mv_icmp_ne (tgt := 15) dX12_mostOf_6 (by decide) (fun c6 => ?_) (fun z => absurd z ((by decide)))
  refine mv_iload_n dX12_mostOf_15 rfl ?_
  refine mv_iconst (v := nI 1) dX12_mostOf_16 (by decide) ?_
  refine mv_icmp_ne (tgt := 25) dX12_mostOf_17 (by decide) (fun c17 => ?_) (fun z => absurd z ((by decide)))
  refine mv_iload_n dX12_mostOf_25 rfl ?_
  refine mv_iconst (v := nI 3) dX12_mostOf_26 (by decide) ?_
  refine mv_icmp_ne (tgt := 35) dX12_mostOf_27 (by decide) (fun c27 => ?_) (fun z => absurd z ((by decide)))
  refine mv_iload_n dX12_mostOf_35 rfl ?_
  refine mv_iconst (v := nI 4) dX12_mostOf_36 (by decide) ?_
  refine mv_icmp_ne (tgt := 45) dX12_mostOf_37 (by decide) (fun z => absurd ((by decide)) z) (fun c37 => ?_)
  refine mv_bipush (v := nI 7) dX12_mostOf_40 (by decide) ?_
  refine mv_goto (tgt := 57) dX12_mostOf_42 (by decide) ?_
  exact mv_iret dX12_mostOf_57 rfl rfl ⟨rfl, rfl⟩
set_option maxRecDepth 100000 in
theorem k_X12_mostOf_5 {ev : mv_E} {h : mv_H}   : mv_K ev mX12_mostOf [.int (nI 5)] h (some (.int (nI 27))) h := by
  refine mv_Kof ?_
  show mv_g ev mX12_mostOf 0 [.int (nI 5)] [] h _
  refine mv_iload_n dX12_mostOf_0 rfl ?_
  refine mv_if_eq (tgt := 9) dX12_mostOf_1 (by decide) (fun z => absurd z ((by decide))) (fun c1 => ?_)
  refine mv_iload_n dX12_mostOf_4 rfl ?_
  refine mv_iconst (v := nI 2) dX12_mostOf_5 (by decide) ?_
  refine mv_icmp_ne (tgt := 15) dX12_mostOf_6 (by decide) (fun c6 => ?_) (fun z => absurd z ((by decide)))
  refine mv_iload_n dX12_mostOf_15 rfl ?_
  refine mv_iconst (v := nI 1) dX12_mostOf_16 (by decide) ?_
  refine mv_icmp_ne (tgt := 25) dX12_mostOf_17 (by decide) (fun c17 => ?_) (fun z => absurd z ((by decide)))
  refine mv_iload_n dX12_mostOf_25 rfl ?_
  refine mv_iconst (v := nI 3) dX12_mostOf_26 (by decide) ?_
  refine mv_icmp_ne (tgt := 35) dX12_mostOf_27 (by decide) (fun c27 => ?_) (fun z => absurd z ((by decide)))
  refine mv_iload_n dX12_mostOf_35 rfl ?_
  refine mv_iconst (v := nI 4) dX12_mostOf_36 (by decide) ?_
  refine mv_icmp_ne (tgt := 45) dX12_mostOf_37 (by decide) (fun c37 => ?_) (fun z => absurd z ((by decide)))
  refine mv_iload_n dX12_mostOf_45 rfl ?_
  refine mv_iconst (v := nI 5) dX12_mostOf_46 (by decide) ?_
  refine mv_icmp_ne (tgt := 55) dX12_mostOf_47 (by decide) (fun z => absurd ((by decide)) z) (fun c47 => ?_)
  refine mv_bipush (v := nI 27) dX12_mostOf_50 (by decide) ?_
  refine mv_goto (tgt := 57) dX12_mostOf_52 (by decide) ?_
  exact mv_iret dX12_mostOf_57 rfl rfl ⟨rfl, rfl⟩
set_option maxRecDepth 100000 in
theorem k_X12_mostOf_7 {ev : mv_E} {h : mv_H}   : mv_K ev mX12_mostOf [.int (nI 7)] h (some (.int (nI 9))) h := by
  refine mv_Kof ?_
  show mv_g ev mX12_mostOf 0 [.int (nI 7)] [] h _
  refine mv_iload_n dX12_mostOf_0 rfl ?_
  refine mv_if_eq (tgt := 9) dX12_mostOf_1 (by decide) (fun z => absurd z ((by decide))) (fun c1 => ?_)
  refine mv_iload_n dX12_mostOf_4 rfl ?_
  refine mv_iconst (v := nI 2) dX12_mostOf_5 (by decide) ?_
  refine mv_icmp_ne (tgt := 15) dX12_mostOf_6 (by decide) (fun c6 => ?_) (fun z => absurd z ((by decide)))
  refine mv_iload_n dX12_mostOf_15 rfl ?_
  refine mv_iconst (v := nI 1) dX12_mostOf_16 (by decide) ?_
  refine mv_icmp_ne (tgt := 25) dX12_mostOf_17 (by decide) (fun c17 => ?_) (fun z => absurd z ((by decide)))
  refine mv_iload_n dX12_mostOf_25 rfl ?_
  refine mv_iconst (v := nI 3) dX12_mostOf_26 (by decide) ?_
  refine mv_icmp_ne (tgt := 35) dX12_mostOf_27 (by decide) (fun c27 => ?_) (fun z => absurd z ((by decide)))
  refine mv_iload_n dX12_mostOf_35 rfl ?_
  refine mv_iconst (v := nI 4) dX12_mostOf_36 (by decide) ?_
  refine mv_icmp_ne (tgt := 45) dX12_mostOf_37 (by decide) (fun c37 => ?_) (fun z => absurd z ((by decide)))
  refine mv_iload_n dX12_mostOf_45 rfl ?_
  refine mv_iconst (v := nI 5) dX12_mostOf_46 (by decide) ?_
  refine mv_icmp_ne (tgt := 55) dX12_mostOf_47 (by decide) (fun c47 => ?_) (fun z => absurd z ((by decide)))
  refine mv_bipush (v := nI 9) dX12_mostOf_55 (by decide) ?_
  exact mv_iret dX12_mostOf_57 rfl rfl ⟨rfl, rfl⟩
theorem k_X12_mostOf {ev : mv_E} {h : mv_H} {c : Nat} (hc : c ≤ 7) (h6 : c ≠ 6) : mv_K ev mX12_mostOf [.int (nI c)] h (some (.int (nI (q_mo c)))) h := by
  have e : c = 0 ∨ c = 1 ∨ c = 2 ∨ c = 3 ∨ c = 4 ∨ c = 5 ∨ c = 7 := by omega
  rcases e with rfl | rfl | rfl | rfl | rfl | rfl | rfl
  · exact k_X12_mostOf_0
  · exact k_X12_mostOf_1
  · exact k_X12_mostOf_2
  · exact k_X12_mostOf_3
  · exact k_X12_mostOf_4
  · exact k_X12_mostOf_5
  · exact k_X12_mostOf_7
theorem q_bare (f : Nat → Int32) : upd (upd (upd (upd (upd (upd (upd (upd f 0 (nI 20)) 1 (nI 40)) 2 (nI 100)) 3 (nI 10)) 4 (nI 1)) 5 (-1)) 6 (-1)) 7 (nI 0) = q_cl (mv_at [20, 40, 100, 10, 1, -1, -1, 0]) f := by
  funext i
  unfold upd q_cl
  by_cases c : i < 8
  · have e : i = 0 ∨ i = 1 ∨ i = 2 ∨ i = 3 ∨ i = 4 ∨ i = 5 ∨ i = 6 ∨ i = 7 := by omega
    rcases e with rfl | rfl | rfl | rfl | rfl | rfl | rfl | rfl <;> rfl
  · rw [if_neg c, if_neg (by omega), if_neg (by omega), if_neg (by omega), if_neg (by omega), if_neg (by omega), if_neg (by omega), if_neg (by omega), if_neg (by omega)]
def q_kl (rd lw : Nat → Int32) (y : Nat) : Nat → Int32 := fun i => if i < y then rd i else lw i
theorem q_kl_0 (rd lw : Nat → Int32) : q_kl rd lw 0 = lw := by
  funext i
  exact if_neg (Nat.not_lt_zero _)
theorem q_kl_s (rd lw : Nat → Int32) (y : Nat) : upd (q_kl rd lw y) y (rd y) = q_kl rd lw (y + 1) := by
  funext i
  unfold upd q_kl
  by_cases c : i = y
  · rw [if_pos c, if_pos (by omega), c]
  · rw [if_neg c]
    by_cases c2 : i < y
    · rw [if_pos c2, if_pos (by omega)]
    · rw [if_neg c2, if_neg (by omega)]
set_option maxRecDepth 100000 in
theorem k_X12_bare {ev : mv_E} {h : mv_H} {xg : Int32} {xc : Int32} {xw : Int32} {b : t_B} {t : Nat} {n : Nat} {rq : q_R} (HX : h[52]? = some (.inr (12, [.ref 53, .ref 54, .int (nI n), .int rq.2.1, .int (nI rq.1), .long (lN rq.2.2.1), .int (nI rq.2.2.2.1), .int rq.2.2.2.2.1, .ref 55, .int (nI rq.2.2.2.2.2.2), .int (nI b.1), .ref 56, .ref 57, .ref 58, .int (nI t), .int (nI b.2.1), .ref 59, .ref 60, .ref 61, .ref 62, .int xg, .ref 63, .ref 64, .ref 65, .ref 66, .ref 67, .ref 68, .ref 69, .int xc, .ref 70, .ref 71, .ref 72, .ref 73, .ref 74, .ref 75, .int xw, .ref 76, .ref 77, .ref 78, .ref 79, .ref 80]))) (X55 : h[55]? = some (.inl (0, 8, .inl rq.2.2.2.2.2.1)))  : ∃ h2, mv_K ev mX12_bare [.ref 52] h (none) h2 ∧ mv_fra [52, 55] h h2 ∧ h2[52]? = some (.inr (12, [.ref 53, .ref 54, .int (nI n), .int rq.2.1, .int (nI rq.1), .long (lN rq.2.2.1), .int (nI rq.2.2.2.1), .int rq.2.2.2.2.1, .ref 55, .int (nI 0), .int (nI b.1), .ref 56, .ref 57, .ref 58, .int (nI t), .int (nI b.2.1), .ref 59, .ref 60, .ref 61, .ref 62, .int xg, .ref 63, .ref 64, .ref 65, .ref 66, .ref 67, .ref 68, .ref 69, .int xc, .ref 70, .ref 71, .ref 72, .ref 73, .ref 74, .ref 75, .int xw, .ref 76, .ref 77, .ref 78, .ref 79, .ref 80])) ∧ h2[55]? = some (.inl (0, 8, .inl (q_cl (mv_at [20, 40, 100, 10, 1, -1, -1, 0]) rq.2.2.2.2.2.1))) := by
  suffices g0 : mv_g ev mX12_bare 0 (mv_ent [.ref 52] (mv_ml mX12_bare)) [] h (fun r g => r = none ∧ mv_fra [52, 55] h g ∧ g[52]? = some (.inr (12, [.ref 53, .ref 54, .int (nI n), .int rq.2.1, .int (nI rq.1), .long (lN rq.2.2.1), .int (nI rq.2.2.2.1), .int rq.2.2.2.2.1, .ref 55, .int (nI 0), .int (nI b.1), .ref 56, .ref 57, .ref 58, .int (nI t), .int (nI b.2.1), .ref 59, .ref 60, .ref 61, .ref 62, .int xg, .ref 63, .ref 64, .ref 65, .ref 66, .ref 67, .ref 68, .ref 69, .int xc, .ref 70, .ref 71, .ref 72, .ref 73, .ref 74, .ref 75, .int xw, .ref 76, .ref 77, .ref 78, .ref 79, .ref 80])) ∧ g[55]? = some (.inl (0, 8, .inl (q_cl (mv_at [20, 40, 100, 10, 1, -1, -1, 0]) rq.2.2.2.2.2.1)))) from (by obtain ⟨r0, h0, K0, q0, Q0⟩ := mv_Kex g0; subst q0; exact ⟨h0, K0, Q0⟩)
  show mv_g ev mX12_bare 0 [.ref 52] [] h _
  have fr : mv_fra [52, 55] h h := mv_fra.rf
  refine mv_aload_n dX12_bare_0 rfl ?_
  refine mv_getf (ci := 12) (f := 8) dX12_bare_1 HX rfl (by decide) wd_1207 rfl ?_
  refine mv_iconst (v := nI 0) dX12_bare_4 (by decide) ?_
  refine mv_bipush (v := nI 20) dX12_bare_5 (by decide) ?_
  refine mv_iastN (j := 0) dX12_bare_7 X55 rfl (by decide) (by omega) (fun h1 e2 => ?_)
  have HX := mv_ne e2 (by decide) HX
  have X55 : h1[55]? = some (.inl (0, 8, .inl (upd rq.2.2.2.2.2.1 0 (nI 20)))) := mv_eq e2 X55
  have fr := fr.set e2 (by decide)
  clear e2
  refine mv_aload_n dX12_bare_8 rfl ?_
  refine mv_getf (ci := 12) (f := 8) dX12_bare_9 HX rfl (by decide) wd_1207 rfl ?_
  refine mv_iconst (v := nI 1) dX12_bare_12 (by decide) ?_
  refine mv_bipush (v := nI 40) dX12_bare_13 (by decide) ?_
  refine mv_iastN (j := 1) dX12_bare_15 X55 rfl (by decide) (by omega) (fun h3 e4 => ?_)
  have HX := mv_ne e4 (by decide) HX
  have X55 : h3[55]? = some (.inl (0, 8, .inl (upd (upd rq.2.2.2.2.2.1 0 (nI 20)) 1 (nI 40)))) := mv_eq e4 X55
  have fr := fr.set e4 (by decide)
  clear e4
  refine mv_aload_n dX12_bare_16 rfl ?_
  refine mv_getf (ci := 12) (f := 8) dX12_bare_17 HX rfl (by decide) wd_1207 rfl ?_
  refine mv_iconst (v := nI 2) dX12_bare_20 (by decide) ?_
  refine mv_bipush (v := nI 100) dX12_bare_21 (by decide) ?_
  refine mv_iastN (j := 2) dX12_bare_23 X55 rfl (by decide) (by omega) (fun h5 e6 => ?_)
  have HX := mv_ne e6 (by decide) HX
  have X55 : h5[55]? = some (.inl (0, 8, .inl (upd (upd (upd rq.2.2.2.2.2.1 0 (nI 20)) 1 (nI 40)) 2 (nI 100)))) := mv_eq e6 X55
  have fr := fr.set e6 (by decide)
  clear e6
  refine mv_aload_n dX12_bare_24 rfl ?_
  refine mv_getf (ci := 12) (f := 8) dX12_bare_25 HX rfl (by decide) wd_1207 rfl ?_
  refine mv_iconst (v := nI 3) dX12_bare_28 (by decide) ?_
  refine mv_bipush (v := nI 10) dX12_bare_29 (by decide) ?_
  refine mv_iastN (j := 3) dX12_bare_31 X55 rfl (by decide) (by omega) (fun h7 e8 => ?_)
  have HX := mv_ne e8 (by decide) HX
  have X55 : h7[55]? = some (.inl (0, 8, .inl (upd (upd (upd (upd rq.2.2.2.2.2.1 0 (nI 20)) 1 (nI 40)) 2 (nI 100)) 3 (nI 10)))) := mv_eq e8 X55
  have fr := fr.set e8 (by decide)
  clear e8
  refine mv_aload_n dX12_bare_32 rfl ?_
  refine mv_getf (ci := 12) (f := 8) dX12_bare_33 HX rfl (by decide) wd_1207 rfl ?_
  refine mv_iconst (v := nI 4) dX12_bare_36 (by decide) ?_
  refine mv_iconst (v := nI 1) dX12_bare_37 (by decide) ?_
  refine mv_iastN (j := 4) dX12_bare_38 X55 rfl (by decide) (by omega) (fun h9 e10 => ?_)
  have HX := mv_ne e10 (by decide) HX
  have X55 : h9[55]? = some (.inl (0, 8, .inl (upd (upd (upd (upd (upd rq.2.2.2.2.2.1 0 (nI 20)) 1 (nI 40)) 2 (nI 100)) 3 (nI 10)) 4 (nI 1)))) := mv_eq e10 X55
  have fr := fr.set e10 (by decide)
  clear e10
  refine mv_aload_n dX12_bare_39 rfl ?_
  refine mv_getf (ci := 12) (f := 8) dX12_bare_40 HX rfl (by decide) wd_1207 rfl ?_
  refine mv_iconst (v := nI 5) dX12_bare_43 (by decide) ?_
  refine mv_iconst (v := (-1)) dX12_bare_44 (by decide) ?_
  refine mv_iastN (j := 5) dX12_bare_45 X55 rfl (by decide) (by omega) (fun h11 e12 => ?_)
  have HX := mv_ne e12 (by decide) HX
  have X55 : h11[55]? = some (.inl (0, 8, .inl (upd (upd (upd (upd (upd (upd rq.2.2.2.2.2.1 0 (nI 20)) 1 (nI 40)) 2 (nI 100)) 3 (nI 10)) 4 (nI 1)) 5 (-1)))) := mv_eq e12 X55
  have fr := fr.set e12 (by decide)
  clear e12
  refine mv_aload_n dX12_bare_46 rfl ?_
  refine mv_getf (ci := 12) (f := 8) dX12_bare_47 HX rfl (by decide) wd_1207 rfl ?_
  refine mv_bipush (v := nI 6) dX12_bare_50 (by decide) ?_
  refine mv_iconst (v := (-1)) dX12_bare_52 (by decide) ?_
  refine mv_iastN (j := 6) dX12_bare_53 X55 rfl (by decide) (by omega) (fun h13 e14 => ?_)
  have HX := mv_ne e14 (by decide) HX
  have X55 : h13[55]? = some (.inl (0, 8, .inl (upd (upd (upd (upd (upd (upd (upd rq.2.2.2.2.2.1 0 (nI 20)) 1 (nI 40)) 2 (nI 100)) 3 (nI 10)) 4 (nI 1)) 5 (-1)) 6 (-1)))) := mv_eq e14 X55
  have fr := fr.set e14 (by decide)
  clear e14
  refine mv_aload_n dX12_bare_54 rfl ?_
  refine mv_getf (ci := 12) (f := 8) dX12_bare_55 HX rfl (by decide) wd_1207 rfl ?_
  refine mv_bipush (v := nI 7) dX12_bare_58 (by decide) ?_
  refine mv_iconst (v := nI 0) dX12_bare_60 (by decide) ?_
  refine mv_iastN (j := 7) dX12_bare_61 X55 rfl (by decide) (by omega) (fun h15 e16 => ?_)
  have HX := mv_ne e16 (by decide) HX
  have X55 : h15[55]? = some (.inl (0, 8, .inl (upd (upd (upd (upd (upd (upd (upd (upd rq.2.2.2.2.2.1 0 (nI 20)) 1 (nI 40)) 2 (nI 100)) 3 (nI 10)) 4 (nI 1)) 5 (-1)) 6 (-1)) 7 (nI 0)))) := mv_eq e16 X55
  have fr := fr.set e16 (by decide)
  clear e16
  rw [q_bare] at X55
  refine mv_aload_n dX12_bare_62 rfl ?_
  refine mv_iconst (v := nI 0) dX12_bare_63 (by decide) ?_
  refine mv_putf (ci := 12) (f := 9) dX12_bare_64 HX rfl (by decide) wd_1208 rfl rfl (fun _ => ⟨rfl, rfl⟩) (Nat.le_of_ble_eq_true rfl) ?_
  refine mv_topH (fun h17 e18 => ?_)
  have HX : h17[52]? = some (.inr (12, [.ref 53, .ref 54, .int (nI n), .int rq.2.1, .int (nI rq.1), .long (lN rq.2.2.1), .int (nI rq.2.2.2.1), .int rq.2.2.2.2.1, .ref 55, .int (nI 0), .int (nI b.1), .ref 56, .ref 57, .ref 58, .int (nI t), .int (nI b.2.1), .ref 59, .ref 60, .ref 61, .ref 62, .int xg, .ref 63, .ref 64, .ref 65, .ref 66, .ref 67, .ref 68, .ref 69, .int xc, .ref 70, .ref 71, .ref 72, .ref 73, .ref 74, .ref 75, .int xw, .ref 76, .ref 77, .ref 78, .ref 79, .ref 80])) := mv_eq e18 HX
  have X55 := mv_ne e18 (by decide) X55
  have fr := fr.set e18 (by decide)
  clear e18
  exact mv_vret dX12_bare_67 rfl ⟨rfl, fr, HX, X55⟩
set_option maxRecDepth 100000 in
theorem l_X12_keepLaw {ev : mv_E} {h : mv_H} {xt : Int32} {xf : Int32} {xa : Int32} {xo : Int64} {xe : Int32} {xu : Int32} {xs : Int32} {xg : Int32} {xc : Int32} {xw : Int32} {b : t_B} {t : Nat} {lw : Nat → Int32} {rd : Nat → Int32}   : ∀ (fu : Nat) (y : Nat), ∀ (g : mv_H), 8 < y + fu → mv_fra [53] h g → g[53]? = some (.inl (0, 8, .inl (q_kl rd lw y))) → g[52]? = some (.inr (12, [.ref 53, .ref 54, .int xt, .int xf, .int xa, .long xo, .int xe, .int xu, .ref 55, .int xs, .int (nI b.1), .ref 56, .ref 57, .ref 58, .int (nI t), .int (nI b.2.1), .ref 59, .ref 60, .ref 61, .ref 62, .int xg, .ref 63, .ref 64, .ref 65, .ref 66, .ref 67, .ref 68, .ref 69, .int xc, .ref 70, .ref 71, .ref 72, .ref 73, .ref 74, .ref 75, .int xw, .ref 76, .ref 77, .ref 78, .ref 79, .ref 80])) → g[55]? = some (.inl (0, 8, .inl rd)) → (y ≤ 8) → mv_g ev mX12_keepLaw 2 [.ref 52, .int (nI y)] [] g (fun r g => r = none ∧ mv_fra [53] h g ∧ g[53]? = some (.inl (0, 8, .inl (q_cl rd lw)))) := by
  intro fu
  induction fu with
  | zero => intro y g hm fr X53 HX X55 hy; exact absurd hm (by omega)
  | succ fu ih =>
    intro y g hm fr X53 HX X55 hy
    refine mv_iload_n dX12_keepLaw_2 rfl ?_
    refine mv_bipush (v := nI 8) dX12_keepLaw_3 (by decide) ?_
    refine mv_icmp_ge (tgt := 26) dX12_keepLaw_5 (by decide) (fun c5 => ?_) (fun c5 => ?_)
    · have c5 : 8 ≤ y := (nI_leI (by omega) (by omega)).mp c5
      have ey : y = 8 := (by omega)
      subst ey
      exact mv_vret dX12_keepLaw_26 rfl ⟨rfl, fr, X53⟩
    · have c5 : ¬ (8 ≤ y) := fun z => c5 ((nI_leI (by omega) (by omega)).mpr z)
      refine mv_aload_n dX12_keepLaw_8 rfl ?_
      refine mv_getf (ci := 12) (f := 0) dX12_keepLaw_9 HX rfl (by decide) wd_1199 rfl ?_
      refine mv_iload_n dX12_keepLaw_12 rfl ?_
      refine mv_aload_n dX12_keepLaw_13 rfl ?_
      refine mv_getf (ci := 12) (f := 8) dX12_keepLaw_14 HX rfl (by decide) wd_1207 rfl ?_
      refine mv_iload_n dX12_keepLaw_17 rfl ?_
      refine mv_iaN (j := y) (x := rd y) dX12_keepLaw_18 X55 rfl (by decide) (by omega) rfl ?_
      refine mv_iastN (j := y) dX12_keepLaw_19 X53 rfl (by decide) (by omega) (fun h1 e2 => ?_)
      have HX := mv_ne e2 (by decide) HX
      have X53 : h1[53]? = some (.inl (0, 8, .inl (upd (q_kl rd lw y) y (rd y)))) := mv_eq e2 X53
      have X55 := mv_ne e2 (by decide) X55
      have fr := fr.set e2 (by decide)
      clear e2
      rw [q_kl_s] at X53
      refine mv_iinc (v := nI (y + 1)) dX12_keepLaw_20 rfl (mv_inc y 1) (by decide) ?_
      refine mv_goto (tgt := 2) dX12_keepLaw_23 (by decide) ?_
      exact ih (y + 1) h1 (by omega) fr X53 HX X55 (by omega)
set_option maxRecDepth 100000 in
theorem k_X12_keepLaw {ev : mv_E} {h : mv_H} {xt : Int32} {xf : Int32} {xa : Int32} {xo : Int64} {xe : Int32} {xu : Int32} {xs : Int32} {xg : Int32} {xc : Int32} {xw : Int32} {b : t_B} {t : Nat} {lw : Nat → Int32} {rd : Nat → Int32} (HX : h[52]? = some (.inr (12, [.ref 53, .ref 54, .int xt, .int xf, .int xa, .long xo, .int xe, .int xu, .ref 55, .int xs, .int (nI b.1), .ref 56, .ref 57, .ref 58, .int (nI t), .int (nI b.2.1), .ref 59, .ref 60, .ref 61, .ref 62, .int xg, .ref 63, .ref 64, .ref 65, .ref 66, .ref 67, .ref 68, .ref 69, .int xc, .ref 70, .ref 71, .ref 72, .ref 73, .ref 74, .ref 75, .int xw, .ref 76, .ref 77, .ref 78, .ref 79, .ref 80]))) (X53 : h[53]? = some (.inl (0, 8, .inl lw))) (X55 : h[55]? = some (.inl (0, 8, .inl rd)))  : ∃ h2, mv_K ev mX12_keepLaw [.ref 52] h (none) h2 ∧ mv_fra [53] h h2 ∧ h2[53]? = some (.inl (0, 8, .inl (q_cl rd lw))) := by
  suffices g0 : mv_g ev mX12_keepLaw 0 (mv_ent [.ref 52] (mv_ml mX12_keepLaw)) [] h (fun r g => r = none ∧ mv_fra [53] h g ∧ g[53]? = some (.inl (0, 8, .inl (q_cl rd lw)))) from (by obtain ⟨r0, h0, K0, q0, Q0⟩ := mv_Kex g0; subst q0; exact ⟨h0, K0, Q0⟩)
  show mv_g ev mX12_keepLaw 0 [.ref 52, .null] [] h _
  have fr : mv_fra [53] h h := mv_fra.rf
  rw [← q_kl_0 rd lw] at X53
  refine mv_iconst (v := nI 0) dX12_keepLaw_0 (by decide) ?_
  refine mv_istore_n dX12_keepLaw_1 (by decide) ?_
  exact l_X12_keepLaw (8 + 1) 0 h (by omega) fr X53 HX X55 (Nat.zero_le _)
/-- of the moon's second number, then of the end -/
def q_tm (n : Nat) (tx : Nat → Nat) (r : q_R) (t : Nat × Nat × Int32 × Int32) : Nat × q_R := if t.1 = 0 then q_ts n tx (t.2.1, t.2.2.1, r.2.2.1, r.2.2.2.1, t.2.2.2, upd r.2.2.2.2.2.1 6 t.2.2.2, r.2.2.2.2.2.2) else (t.1, t.2.1, t.2.2.1, r.2.2.1, r.2.2.2.1, t.2.2.2, upd r.2.2.2.2.2.1 6 t.2.2.2, r.2.2.2.2.2.2)
noncomputable def q_tw5 (n : Nat) (tx : Nat → Nat) (r : q_R) (s : Nat) (e : Nat) : Nat × q_R := if q_wTo tx s e then q_tm n tx (e, r.2.1, q_wv tx s (e - s), e, r.2.2.2.2) (q_tn n tx 0 27 e r.2.1 r.2.2.2.2.1) else (1, s, nI s, q_wv tx s (e - s), e, r.2.2.2.2.1, upd r.2.2.2.2.2.1 6 r.2.2.2.2.1, r.2.2.2.2.2.2)
/-- the first number is taken: what then -/
noncomputable def q_t1 (n : Nat) (tx : Nat → Nat) (c : Nat) (r : q_R) (t : Nat × Nat × Int32 × Int32) : Nat × q_R := if t.1 = 0 then (if c = 5 then q_tw5 n tx (t.2.1, t.2.2.1, r.2.2.1, r.2.2.2.1, t.2.2.2, upd r.2.2.2.2.2.1 c t.2.2.2, r.2.2.2.2.2.2) (q_sk n tx (n - t.2.1) t.2.1) (q_ew n tx (n - q_sk n tx (n - t.2.1) t.2.1) (q_sk n tx (n - t.2.1) t.2.1)) else q_ts n tx (t.2.1, t.2.2.1, r.2.2.1, r.2.2.2.1, t.2.2.2, upd r.2.2.2.2.2.1 c t.2.2.2, r.2.2.2.2.2.2)) else (t.1, t.2.1, t.2.2.1, r.2.2.1, r.2.2.2.1, t.2.2.2, upd r.2.2.2.2.2.1 c t.2.2.2, r.2.2.2.2.2.2)
noncomputable def q_tc2 (n : Nat) (tx : Nat → Nat) (r : q_R) (s e : Nat) (c : Int32) : Nat × q_R := if c < 0 then (1, s, nI s, q_wv tx s (e - s), e, r.2.2.2.2) else if q_bt r.2.2.2.2.2.2 (q_n c) = 1 then (3, s, nI s, q_wv tx s (e - s), e, r.2.2.2.2) else q_t1 n tx (q_n c) (e, r.2.1, q_wv tx s (e - s), e, r.2.2.2.2.1, r.2.2.2.2.2.1, r.2.2.2.2.2.2 ||| 2 ^ q_n c) (q_tn n tx (q_lo1 (q_n c)) (q_mo (q_n c)) e r.2.1 r.2.2.2.2.1)
noncomputable def q_tc (n : Nat) (tx : Nat → Nat) (r : q_R) : Nat × q_R := q_tc2 n tx r (q_sk n tx (n - r.1) r.1) (q_ew n tx (n - q_sk n tx (n - r.1) r.1) (q_sk n tx (n - r.1) r.1)) (q_crx tx (q_sk n tx (n - r.1) r.1) (q_ew n tx (n - q_sk n tx (n - r.1) r.1) (q_sk n tx (n - r.1) r.1)))
theorem q_mo_le (c : Nat) : q_mo c ≤ 999 := by
  unfold q_mo
  (repeat' split) <;> decide
theorem q_no1 {p : Prop} (z : (1 : Nat) = 0) : p := absurd z (by decide)
theorem q_no2 {p : Prop} (z : (2 : Nat) = 0) : p := absurd z (by decide)
theorem q_no3 {p : Prop} (z : (3 : Nat) = 0) : p := absurd z (by decide)
theorem q_crx_c (tx : Nat → Nat) (k e : Nat) : q_crx tx k e = -1 ∨ ∃ i, i ≤ 7 ∧ i ≠ 6 ∧ q_crx tx k e = nI i := by
  unfold q_crx
  split
  · exact Or.inr ⟨0, by decide, by decide, rfl⟩
  · split
    · exact Or.inr ⟨1, by decide, by decide, rfl⟩
    · split
      · exact Or.inr ⟨2, by decide, by decide, rfl⟩
      · split
        · exact Or.inr ⟨3, by decide, by decide, rfl⟩
        · split
          · exact Or.inr ⟨4, by decide, by decide, rfl⟩
          · split
            · exact Or.inr ⟨5, by decide, by decide, rfl⟩
            · split
              · exact Or.inr ⟨7, by decide, by decide, rfl⟩
              · exact Or.inl rfl
theorem q_crx_p {tx : Nat → Nat} {k e : Nat} (h : ¬ q_crx tx k e < 0) : ∃ i, i ≤ 7 ∧ i ≠ 6 ∧ q_crx tx k e = nI i := by
  rcases q_crx_c tx k e with c | c
  · rw [c] at h
    exact absurd (show (-1 : Int32) < 0 by decide) h
  · exact c
theorem q_ew_l {n : Nat} {tx : Nat → Nat} (f : Nat) : ∀ k, ∀ j, k ≤ j → j < q_ew n tx f k → 97 ≤ tx j ∧ tx j ≤ 122 := by
  induction f with
  | zero => intro k j h1 h2; exact absurd (Nat.lt_of_le_of_lt h1 h2) (Nat.lt_irrefl _)
  | succ f ih =>
    intro k j h1 h2
    have e : q_ew n tx (f + 1) k = if k < n ∧ 97 ≤ tx k ∧ tx k ≤ 122 then q_ew n tx f (k + 1) else k := rfl
    rw [e] at h2
    by_cases c : k < n ∧ 97 ≤ tx k ∧ tx k ≤ 122
    · rw [if_pos c] at h2
      by_cases e2 : j = k
      · rw [e2]; exact c.2
      · exact ih (k + 1) j (by omega) h2
    · rw [if_neg c] at h2
      omega
theorem q_wv_le {tx : Nat → Nat} (htx : ∀ i, tx i < 256) (s L : Nat) : q_wv tx s L ≤ 30000000000000 := by
  induction L with
  | zero => exact Nat.zero_le _
  | succ L ih =>
    have e : q_wv tx s (L + 1) = q_ws (q_wv tx s L) (tx (s + L)) := rfl
    have h := htx (s + L)
    rw [e, q_ws_eq]
    split <;> omega
theorem q_tn_ok {n : Nat} {tx : Nat → Nat} {lo hi a : Nat} {fp nu : Int32} (ha : a ≤ n) : (a ≤ (q_tn n tx lo hi a fp nu).2.1 ∧ (q_tn n tx lo hi a fp nu).2.1 ≤ n) ∧ (q_tn n tx lo hi a fp nu).1 ≤ 2 := by
  have h1 := q_sk_in (tx := tx) (n - a) a ha
  have h2 := q_fe_in (tx := tx) (n - q_sk n tx (n - a) a) _ h1.2
  unfold q_tn q_tn2
  split
  · exact ⟨h1, Nat.le_of_ble_eq_true rfl⟩
  · split
    · exact ⟨⟨Nat.le_trans h1.1 h2.1, h2.2⟩, Nat.le_of_ble_eq_true rfl⟩
    · exact ⟨⟨Nat.le_trans h1.1 h2.1, h2.2⟩, Nat.le_of_ble_eq_true rfl⟩
theorem q_or_lt {a b : Nat} (ha : a < 256) (hb : b ≤ 7) : a ||| 2 ^ b < 256 := by
  have h1 : 2 ^ b ≤ 2 ^ 7 := Nat.pow_le_pow_right (by decide) hb
  exact Nat.or_lt_two_pow (n := 8) ha (by omega)
set_option maxRecDepth 100000 in
theorem k_X12_takeClause {ev : mv_E} {h : mv_H} {xg : Int32} {xc : Int32} {xw : Int32} {b : t_B} {t : Nat} {n : Nat} {tx : Nat → Nat} {rq : q_R} (HX : h[52]? = some (.inr (12, [.ref 53, .ref 54, .int (nI n), .int rq.2.1, .int (nI rq.1), .long (lN rq.2.2.1), .int (nI rq.2.2.2.1), .int rq.2.2.2.2.1, .ref 55, .int (nI rq.2.2.2.2.2.2), .int (nI b.1), .ref 56, .ref 57, .ref 58, .int (nI t), .int (nI b.2.1), .ref 59, .ref 60, .ref 61, .ref 62, .int xg, .ref 63, .ref 64, .ref 65, .ref 66, .ref 67, .ref 68, .ref 69, .int xc, .ref 70, .ref 71, .ref 72, .ref 73, .ref 74, .ref 75, .int xw, .ref 76, .ref 77, .ref 78, .ref 79, .ref 80]))) (X54 : h[54]? = some (.inl (0, 160, .inl (fun j => nI (tx j))))) (X55 : h[55]? = some (.inl (0, 8, .inl rq.2.2.2.2.2.1))) (hn : n ≤ 160) (htx : ∀ i, tx i < 256) (ha : rq.1 ≤ n) (hts : rq.2.2.2.2.2.2 < 256) : ∃ h2, mv_K ev mX12_takeClause [.ref 52] h (some (.int (nI (q_tc n tx rq).1))) h2 ∧ mv_fra [52, 55] h h2 ∧ h2[52]? = some (.inr (12, [.ref 53, .ref 54, .int (nI n), .int ((q_tc n tx rq).2.2.1), .int (nI (q_tc n tx rq).2.1), .long (lN (q_tc n tx rq).2.2.2.1), .int (nI (q_tc n tx rq).2.2.2.2.1), .int ((q_tc n tx rq).2.2.2.2.2.1), .ref 55, .int (nI (q_tc n tx rq).2.2.2.2.2.2.2), .int (nI b.1), .ref 56, .ref 57, .ref 58, .int (nI t), .int (nI b.2.1), .ref 59, .ref 60, .ref 61, .ref 62, .int xg, .ref 63, .ref 64, .ref 65, .ref 66, .ref 67, .ref 68, .ref 69, .int xc, .ref 70, .ref 71, .ref 72, .ref 73, .ref 74, .ref 75, .int xw, .ref 76, .ref 77, .ref 78, .ref 79, .ref 80])) ∧ h2[55]? = some (.inl (0, 8, .inl (q_tc n tx rq).2.2.2.2.2.2.1)) := by
  suffices g0 : mv_g ev mX12_takeClause 0 (mv_ent [.ref 52] (mv_ml mX12_takeClause)) [] h (fun r g => r = some (.int (nI (q_tc n tx rq).1)) ∧ mv_fra [52, 55] h g ∧ g[52]? = some (.inr (12, [.ref 53, .ref 54, .int (nI n), .int ((q_tc n tx rq).2.2.1), .int (nI (q_tc n tx rq).2.1), .long (lN (q_tc n tx rq).2.2.2.1), .int (nI (q_tc n tx rq).2.2.2.2.1), .int ((q_tc n tx rq).2.2.2.2.2.1), .ref 55, .int (nI (q_tc n tx rq).2.2.2.2.2.2.2), .int (nI b.1), .ref 56, .ref 57, .ref 58, .int (nI t), .int (nI b.2.1), .ref 59, .ref 60, .ref 61, .ref 62, .int xg, .ref 63, .ref 64, .ref 65, .ref 66, .ref 67, .ref 68, .ref 69, .int xc, .ref 70, .ref 71, .ref 72, .ref 73, .ref 74, .ref 75, .int xw, .ref 76, .ref 77, .ref 78, .ref 79, .ref 80])) ∧ g[55]? = some (.inl (0, 8, .inl (q_tc n tx rq).2.2.2.2.2.2.1))) from (by obtain ⟨r0, h0, K0, q0, Q0⟩ := mv_Kex g0; subst q0; exact ⟨h0, K0, Q0⟩)
  show mv_g ev mX12_takeClause 0 [.ref 52, .null, .null, .null] [] h _
  have fr : mv_fra [52, 55] h h := mv_fra.rf
  refine mv_aload_n dX12_takeClause_0 rfl ?_
  obtain ⟨h1, K2, f3, y4⟩ := (k_X12_readWord (ev := ev) (xg := xg) (xc := xc) (xw := xw) (b := b) (t := t) (n := n) (tx := tx) (rq := rq) HX X54 hn htx ha)
  refine mv_cV0 (ci := 12) dX12_takeClause_1 lk_X12_takeClause_183 HX rfl (Nat.le_of_ble_eq_true rfl) (Nat.le_of_ble_eq_true rfl) K2 ?_
  have HX : h1[52]? = some (.inr (12, [.ref 53, .ref 54, .int (nI n), .int rq.2.1, .int (nI (q_sk n tx (n - rq.1) rq.1)), .long (lN (q_wv tx (q_sk n tx (n - rq.1) rq.1) ((q_ew n tx (n - (q_sk n tx (n - rq.1) rq.1)) (q_sk n tx (n - rq.1) rq.1)) - (q_sk n tx (n - rq.1) rq.1)))), .int (nI (q_ew n tx (n - (q_sk n tx (n - rq.1) rq.1)) (q_sk n tx (n - rq.1) rq.1))), .int rq.2.2.2.2.1, .ref 55, .int (nI rq.2.2.2.2.2.2), .int (nI b.1), .ref 56, .ref 57, .ref 58, .int (nI t), .int (nI b.2.1), .ref 59, .ref 60, .ref 61, .ref 62, .int xg, .ref 63, .ref 64, .ref 65, .ref 66, .ref 67, .ref 68, .ref 69, .int xc, .ref 70, .ref 71, .ref 72, .ref 73, .ref 74, .ref 75, .int xw, .ref 76, .ref 77, .ref 78, .ref 79, .ref 80])) := y4
  have X54 := f3.get (by decide) X54
  have X55 := f3.get (by decide) X55
  have fr := fr.trans f3 (by decide)
  obtain ⟨s, es⟩ : ∃ s, s = (q_sk n tx (n - rq.1) rq.1) := ⟨_, rfl⟩
  obtain ⟨e, ee⟩ : ∃ e, e = q_ew n tx (n - s) s := ⟨_, rfl⟩
  have hs1 : s ≤ n := (by rw [es]; exact (q_sk_in _ _ ha).2)
  have he1 : s ≤ e ∧ e ≤ n := (by rw [ee]; exact q_ew_in _ _ hs1)
  rw [← es, ← ee] at HX
  have e7 : q_tc n tx rq = q_tc2 n tx rq s e (q_crx tx s e) := (by unfold q_tc; rw [← es, ← ee])
  have hl : ∀ j, s ≤ j → j < e → 97 ≤ tx j ∧ tx j ≤ 122 := (by rw [ee]; exact q_ew_l _ _)
  have hwb := q_wv_le htx s (e - s)
  refine mv_aload_n dX12_takeClause_4 rfl ?_
  refine mv_cV0 (ci := 12) dX12_takeClause_5 lk_X12_takeClause_186 HX rfl (Nat.le_of_ble_eq_true rfl) (Nat.le_of_ble_eq_true rfl) (k_X12_clauseOf (ev := ev) HX rfl hwb he1.1 hl) ?_
  refine mv_istore_n dX12_takeClause_8 (by decide) ?_
  refine mv_iload_n dX12_takeClause_9 rfl ?_
  refine mv_if_lt (tgt := 29) dX12_takeClause_10 (by decide) (fun c10 => ?_) (fun c10 => ?_)
  · skip
    refine mv_iconst (v := nI 0) dX12_takeClause_29 (by decide) ?_
    refine mv_istore_n dX12_takeClause_30 (by decide) ?_
    refine mv_iload_n dX12_takeClause_31 rfl ?_
    refine mv_if_lt (tgt := 39) dX12_takeClause_32 (by decide) (fun c32 => ?_) (fun z => absurd (c10) z)
    refine mv_aload_n dX12_takeClause_39 rfl ?_
    refine mv_iload_n dX12_takeClause_40 rfl ?_
    refine mv_if_ge (tgt := 48) dX12_takeClause_41 (by decide) (fun z => absurd z ((Int32.not_le.mpr c10))) (fun c41 => ?_)
    refine mv_iconst (v := nI 1) dX12_takeClause_44 (by decide) ?_
    refine mv_goto (tgt := 49) dX12_takeClause_45 (by decide) ?_
    refine mv_aload_n dX12_takeClause_49 rfl ?_
    refine mv_getf (ci := 12) (f := 4) dX12_takeClause_50 HX rfl (by decide) wd_1203 rfl ?_
    obtain ⟨h5, K6, f7, y8⟩ := (k_X12_fails (ev := ev) (xg := xg) (xc := xc) (xw := xw) (b := b) (t := t) (n := n) (rq := (s, rq.2.1, q_wv tx s (e - s), e, rq.2.2.2.2.1, rq.2.2.2.2.2.1, rq.2.2.2.2.2.2)) (f := (nI 1)) (p := s) HX)
    refine mv_cV2 (ci := 12) dX12_takeClause_53 lk_X12_takeClause_174 HX rfl (Nat.le_of_ble_eq_true rfl) (Nat.le_of_ble_eq_true rfl) K6 ?_
    have HX : h5[52]? = some (.inr (12, [.ref 53, .ref 54, .int (nI n), .int (nI s), .int (nI s), .long (lN (q_wv tx s (e - s))), .int (nI e), .int rq.2.2.2.2.1, .ref 55, .int (nI rq.2.2.2.2.2.2), .int (nI b.1), .ref 56, .ref 57, .ref 58, .int (nI t), .int (nI b.2.1), .ref 59, .ref 60, .ref 61, .ref 62, .int xg, .ref 63, .ref 64, .ref 65, .ref 66, .ref 67, .ref 68, .ref 69, .int xc, .ref 70, .ref 71, .ref 72, .ref 73, .ref 74, .ref 75, .int xw, .ref 76, .ref 77, .ref 78, .ref 79, .ref 80])) := y8
    have X54 := f7.get (by decide) X54
    have X55 := f7.get (by decide) X55
    have fr := fr.trans f7 (by decide)
    have e9 : q_tc n tx rq = (1, s, nI s, q_wv tx s (e - s), e, rq.2.2.2.2) := e7.trans (if_pos c10)
    exact mv_iret dX12_takeClause_56 rfl rfl ⟨(by rw [e9]), fr, (by rw [e9]; exact HX), (by rw [e9]; exact X55)⟩
  · skip
    obtain ⟨c, c1, c6, ec⟩ := q_crx_p c10
    have hp := q_bt_lt rq.2.2.2.2.2.2 c
    rw [ec]
    have qc : q_n (q_crx tx s e) = c := (by rw [ec]; exact q_n_n (by omega))
    refine mv_aload_n dX12_takeClause_13 rfl ?_
    refine mv_getf (ci := 12) (f := 9) dX12_takeClause_14 HX rfl (by decide) wd_1208 rfl ?_
    refine mv_iload_n dX12_takeClause_17 rfl ?_
    refine mv_ishr dX12_takeClause_18 ?_
    refine mv_iconst (v := nI 1) dX12_takeClause_19 (by decide) ?_
    refine mv_iand dX12_takeClause_20 ?_
    refine mv_topI (y := nI (q_bt rq.2.2.2.2.2.2 c)) (q_sb _ hts _ (by omega)) ?_
    refine mv_iconst (v := nI 1) dX12_takeClause_21 (by decide) ?_
    refine mv_icmp_ne (tgt := 29) dX12_takeClause_22 (by decide) (fun c22 => ?_) (fun c22 => ?_)
    · have c22 : ¬ (q_bt rq.2.2.2.2.2.2 c = 1) := fun z => c22 ((nI_eq (by omega) (by omega)).mpr z)
      refine mv_iconst (v := nI 0) dX12_takeClause_29 (by decide) ?_
      refine mv_istore_n dX12_takeClause_30 (by decide) ?_
      refine mv_iload_n dX12_takeClause_31 rfl ?_
      refine mv_if_lt (tgt := 39) dX12_takeClause_32 (by decide) (fun z => absurd z ((nI_pos (by omega)))) (fun c32 => ?_)
      refine mv_iload_n dX12_takeClause_35 rfl ?_
      refine mv_if_eq (tgt := 57) dX12_takeClause_36 (by decide) (fun c36 => ?_) (fun z => absurd ((by decide)) z)
      have e6 : q_tc n tx rq = q_t1 n tx c (e, rq.2.1, q_wv tx s (e - s), e, rq.2.2.2.2.1, rq.2.2.2.2.2.1, rq.2.2.2.2.2.2 ||| 2 ^ c) (q_tn n tx (q_lo1 c) (q_mo c) e rq.2.1 rq.2.2.2.2.1) := e7.trans ((if_neg c10).trans ((if_neg (by rw [qc]; omega)).trans (by rw [qc])))
      have e60 : q_lo1 c ≤ 1 := (by unfold q_lo1; split <;> decide)
      have e61 : q_mo c ≤ 999 := (q_mo_le c)
      have m1 := q_tn_ok (n := n) (tx := tx) (lo := q_lo1 c) (hi := q_mo c) (a := e) (fp := rq.2.1) (nu := rq.2.2.2.2.1) he1.2
      refine mv_aload_n dX12_takeClause_57 rfl ?_
      refine mv_dup dX12_takeClause_58 rfl ?_
      refine mv_getf (ci := 12) (f := 9) dX12_takeClause_59 HX rfl (by decide) wd_1208 rfl ?_
      refine mv_iconst (v := nI 1) dX12_takeClause_62 (by decide) ?_
      refine mv_iload_n dX12_takeClause_63 rfl ?_
      refine mv_ishl dX12_takeClause_64 ?_
      refine mv_topI (y := nI (2 ^ c)) (q_shl1 _ (by omega)) ?_
      refine mv_ior dX12_takeClause_65 ?_
      refine mv_topI (y := nI (rq.2.2.2.2.2.2 ||| 2 ^ c)) (q_or _ _) ?_
      refine mv_putf (ci := 12) (f := 9) dX12_takeClause_66 HX rfl (by decide) wd_1208 rfl rfl (fun _ => ⟨rfl, rfl⟩) (Nat.le_of_ble_eq_true rfl) ?_
      refine mv_topH (fun h9 e10 => ?_)
      have HX : h9[52]? = some (.inr (12, [.ref 53, .ref 54, .int (nI n), .int rq.2.1, .int (nI s), .long (lN (q_wv tx s (e - s))), .int (nI e), .int rq.2.2.2.2.1, .ref 55, .int (nI (rq.2.2.2.2.2.2 ||| 2 ^ c)), .int (nI b.1), .ref 56, .ref 57, .ref 58, .int (nI t), .int (nI b.2.1), .ref 59, .ref 60, .ref 61, .ref 62, .int xg, .ref 63, .ref 64, .ref 65, .ref 66, .ref 67, .ref 68, .ref 69, .int xc, .ref 70, .ref 71, .ref 72, .ref 73, .ref 74, .ref 75, .int xw, .ref 76, .ref 77, .ref 78, .ref 79, .ref 80])) := mv_eq e10 HX
      have X54 := mv_ne e10 (by decide) X54
      have X55 := mv_ne e10 (by decide) X55
      have fr := fr.set e10 (by decide)
      clear e10
      refine mv_aload_n dX12_takeClause_69 rfl ?_
      refine mv_aload_n dX12_takeClause_70 rfl ?_
      refine mv_getf (ci := 12) (f := 6) dX12_takeClause_71 HX rfl (by decide) wd_1205 rfl ?_
      refine mv_putf (ci := 12) (f := 4) dX12_takeClause_74 HX rfl (by decide) wd_1203 rfl rfl (fun _ => ⟨rfl, rfl⟩) (Nat.le_of_ble_eq_true rfl) ?_
      refine mv_topH (fun h11 e12 => ?_)
      have HX : h11[52]? = some (.inr (12, [.ref 53, .ref 54, .int (nI n), .int rq.2.1, .int (nI e), .long (lN (q_wv tx s (e - s))), .int (nI e), .int rq.2.2.2.2.1, .ref 55, .int (nI (rq.2.2.2.2.2.2 ||| 2 ^ c)), .int (nI b.1), .ref 56, .ref 57, .ref 58, .int (nI t), .int (nI b.2.1), .ref 59, .ref 60, .ref 61, .ref 62, .int xg, .ref 63, .ref 64, .ref 65, .ref 66, .ref 67, .ref 68, .ref 69, .int xc, .ref 70, .ref 71, .ref 72, .ref 73, .ref 74, .ref 75, .int xw, .ref 76, .ref 77, .ref 78, .ref 79, .ref 80])) := mv_eq e12 HX
      have X54 := mv_ne e12 (by decide) X54
      have X55 := mv_ne e12 (by decide) X55
      have fr := fr.set e12 (by decide)
      clear e12
      refine mv_aload_n dX12_takeClause_77 rfl ?_
      refine mv_iload_n dX12_takeClause_78 rfl ?_
      refine mv_iconst (v := nI 3) dX12_takeClause_79 (by decide) ?_
      refine mv_icmp_ne (tgt := 87) dX12_takeClause_80 (by decide) (fun c80 => ?_) (fun c80 => ?_)
      · have c80 : ¬ (c = 3) := fun z => c80 ((nI_eq (by omega) (by omega)).mpr z)
        refine mv_iconst (v := nI 0) dX12_takeClause_87 (by decide) ?_
        have el : q_lo1 c = 0 := (by unfold q_lo1; first | exact if_pos (by omega) | exact if_neg (by omega))
        rw [show nI 0 = nI (q_lo1 c) from congrArg nI el.symm]
        refine mv_iload_n dX12_takeClause_88 rfl ?_
        refine mv_cS1 dX12_takeClause_89 lk_X12_takeClause_189 (Nat.le_of_ble_eq_true rfl) (Nat.le_of_ble_eq_true rfl) (k_X12_mostOf (ev := ev) c1 c6) ?_
        obtain ⟨h13, K14, f15, y16⟩ := (k_X12_takeNumber (ev := ev) (xg := xg) (xc := xc) (xw := xw) (b := b) (t := t) (n := n) (tx := tx) (rq := (e, rq.2.1, q_wv tx s (e - s), e, rq.2.2.2.2.1, rq.2.2.2.2.2.1, rq.2.2.2.2.2.2 ||| 2 ^ c)) (lo := (q_lo1 c)) (hi := (q_mo c)) HX X54 hn htx he1.2 (by omega) (by omega))
        refine mv_cV2 (ci := 12) dX12_takeClause_92 lk_X12_takeClause_193 HX rfl (Nat.le_of_ble_eq_true rfl) (Nat.le_of_ble_eq_true rfl) K14 ?_
        have HX : h13[52]? = some (.inr (12, [.ref 53, .ref 54, .int (nI n), .int ((q_tn n tx (q_lo1 c) (q_mo c) e rq.2.1 rq.2.2.2.2.1).2.2.1), .int (nI (q_tn n tx (q_lo1 c) (q_mo c) e rq.2.1 rq.2.2.2.2.1).2.1), .long (lN (q_wv tx s (e - s))), .int (nI e), .int ((q_tn n tx (q_lo1 c) (q_mo c) e rq.2.1 rq.2.2.2.2.1).2.2.2), .ref 55, .int (nI (rq.2.2.2.2.2.2 ||| 2 ^ c)), .int (nI b.1), .ref 56, .ref 57, .ref 58, .int (nI t), .int (nI b.2.1), .ref 59, .ref 60, .ref 61, .ref 62, .int xg, .ref 63, .ref 64, .ref 65, .ref 66, .ref 67, .ref 68, .ref 69, .int xc, .ref 70, .ref 71, .ref 72, .ref 73, .ref 74, .ref 75, .int xw, .ref 76, .ref 77, .ref 78, .ref 79, .ref 80])) := y16
        have X54 := f15.get (by decide) X54
        have X55 := f15.get (by decide) X55
        have fr := fr.trans f15 (by decide)
        refine mv_topI (y := nI (q_tn n tx (q_lo1 c) (q_mo c) e rq.2.1 rq.2.2.2.2.1).1) rfl ?_
        refine mv_istore_n dX12_takeClause_95 (by decide) ?_
        refine mv_aload_n dX12_takeClause_96 rfl ?_
        refine mv_getf (ci := 12) (f := 8) dX12_takeClause_97 HX rfl (by decide) wd_1207 rfl ?_
        refine mv_iload_n dX12_takeClause_100 rfl ?_
        refine mv_aload_n dX12_takeClause_101 rfl ?_
        refine mv_getf (ci := 12) (f := 7) dX12_takeClause_102 HX rfl (by decide) wd_1206 rfl ?_
        refine mv_iastN (j := c) dX12_takeClause_105 X55 rfl (by decide) (by omega) (fun h17 e18 => ?_)
        have HX := mv_ne e18 (by decide) HX
        have X54 := mv_ne e18 (by decide) X54
        have X55 : h17[55]? = some (.inl (0, 8, .inl (upd rq.2.2.2.2.2.1 c (q_tn n tx (q_lo1 c) (q_mo c) e rq.2.1 rq.2.2.2.2.1).2.2.2))) := mv_eq e18 X55
        have fr := fr.set e18 (by decide)
        clear e18
        refine mv_iload_n dX12_takeClause_106 rfl ?_
        refine mv_if_ne (tgt := 190) dX12_takeClause_107 (by decide) (fun c107 => ?_) (fun c107 => ?_)
        · have c107 : ¬ ((q_tn n tx (q_lo1 c) (q_mo c) e rq.2.1 rq.2.2.2.2.1).1 = 0) := fun z => c107 ((nI_eq (b := 0) (by omega) (by omega)).mpr z)
          refine mv_iload_n dX12_takeClause_190 rfl ?_
          refine mv_if_le (tgt := 196) dX12_takeClause_191 (by decide) (fun z => absurd z ((fun q => c107 (by have q2 := (nI_leI (b := 0) (by omega) (by omega)).mp q; omega)))) (fun c191 => ?_)
          refine mv_iload_n dX12_takeClause_194 rfl ?_
          have e9 : q_tc n tx rq = ((q_tn n tx (q_lo1 c) (q_mo c) e rq.2.1 rq.2.2.2.2.1).1, (q_tn n tx (q_lo1 c) (q_mo c) e rq.2.1 rq.2.2.2.2.1).2.1, (q_tn n tx (q_lo1 c) (q_mo c) e rq.2.1 rq.2.2.2.2.1).2.2.1, q_wv tx s (e - s), e, (q_tn n tx (q_lo1 c) (q_mo c) e rq.2.1 rq.2.2.2.2.1).2.2.2, (upd rq.2.2.2.2.2.1 c (q_tn n tx (q_lo1 c) (q_mo c) e rq.2.1 rq.2.2.2.2.1).2.2.2), rq.2.2.2.2.2.2 ||| 2 ^ c) := e6.trans (if_neg c107)
          exact mv_iret dX12_takeClause_195 rfl rfl ⟨(by rw [e9]), fr, (by rw [e9]; exact HX), (by rw [e9]; exact X55)⟩
        · have c107 : (q_tn n tx (q_lo1 c) (q_mo c) e rq.2.1 rq.2.2.2.2.1).1 = 0 := (nI_eq (b := 0) (by omega) (by omega)).mp c107
          refine mv_iload_n dX12_takeClause_110 rfl ?_
          refine mv_iconst (v := nI 5) dX12_takeClause_111 (by decide) ?_
          refine mv_icmp_ne (tgt := 190) dX12_takeClause_112 (by decide) (fun c112 => ?_) (fun c112 => ?_)
          · have c112 : ¬ (c = 5) := fun z => c112 ((nI_eq (by omega) (by omega)).mpr z)
            refine mv_iload_n dX12_takeClause_190 rfl ?_
            refine mv_if_le (tgt := 196) dX12_takeClause_191 (by decide) (fun c191 => ?_) (fun z => absurd ((by rw [c107]; decide)) z)
            have e3 : q_tc n tx rq = q_ts n tx ((q_tn n tx (q_lo1 c) (q_mo c) e rq.2.1 rq.2.2.2.2.1).2.1, (q_tn n tx (q_lo1 c) (q_mo c) e rq.2.1 rq.2.2.2.2.1).2.2.1, q_wv tx s (e - s), e, (q_tn n tx (q_lo1 c) (q_mo c) e rq.2.1 rq.2.2.2.2.1).2.2.2, (upd rq.2.2.2.2.2.1 c (q_tn n tx (q_lo1 c) (q_mo c) e rq.2.1 rq.2.2.2.2.1).2.2.2), rq.2.2.2.2.2.2 ||| 2 ^ c) := e6.trans ((if_pos c107).trans (if_neg c112))
            refine mv_aload_n dX12_takeClause_196 rfl ?_
            obtain ⟨h19, K20, f21, y22⟩ := (k_X12_here (ev := ev) (xg := xg) (xc := xc) (xw := xw) (b := b) (t := t) (n := n) (tx := tx) (rq := ((q_tn n tx (q_lo1 c) (q_mo c) e rq.2.1 rq.2.2.2.2.1).2.1, (q_tn n tx (q_lo1 c) (q_mo c) e rq.2.1 rq.2.2.2.2.1).2.2.1, q_wv tx s (e - s), e, (q_tn n tx (q_lo1 c) (q_mo c) e rq.2.1 rq.2.2.2.2.1).2.2.2, (upd rq.2.2.2.2.2.1 c (q_tn n tx (q_lo1 c) (q_mo c) e rq.2.1 rq.2.2.2.2.1).2.2.2), rq.2.2.2.2.2.2 ||| 2 ^ c)) HX X54 hn htx (by first | exact m2.1.2 | exact m1.1.2))
            refine mv_cV0 (ci := 12) dX12_takeClause_197 lk_X12_takeClause_141 HX rfl (Nat.le_of_ble_eq_true rfl) (Nat.le_of_ble_eq_true rfl) K20 ?_
            have HX : h19[52]? = some (.inr (12, [.ref 53, .ref 54, .int (nI n), .int (q_tn n tx (q_lo1 c) (q_mo c) e rq.2.1 rq.2.2.2.2.1).2.2.1, .int (nI (q_sk n tx (n - (q_tn n tx (q_lo1 c) (q_mo c) e rq.2.1 rq.2.2.2.2.1).2.1) (q_tn n tx (q_lo1 c) (q_mo c) e rq.2.1 rq.2.2.2.2.1).2.1)), .long (lN (q_wv tx s (e - s))), .int (nI e), .int (q_tn n tx (q_lo1 c) (q_mo c) e rq.2.1 rq.2.2.2.2.1).2.2.2, .ref 55, .int (nI (rq.2.2.2.2.2.2 ||| 2 ^ c)), .int (nI b.1), .ref 56, .ref 57, .ref 58, .int (nI t), .int (nI b.2.1), .ref 59, .ref 60, .ref 61, .ref 62, .int xg, .ref 63, .ref 64, .ref 65, .ref 66, .ref 67, .ref 68, .ref 69, .int xc, .ref 70, .ref 71, .ref 72, .ref 73, .ref 74, .ref 75, .int xw, .ref 76, .ref 77, .ref 78, .ref 79, .ref 80])) := y22
            have X54 := f21.get (by decide) X54
            have X55 := f21.get (by decide) X55
            have fr := fr.trans f21 (by decide)
            refine mv_bipush (v := nI 59) dX12_takeClause_200 (by decide) ?_
            refine mv_icmp_eq (tgt := 215) dX12_takeClause_202 (by decide) (fun c202 => ?_) (fun c202 => ?_)
            · have c202 : (q_sk n tx (n - (q_tn n tx (q_lo1 c) (q_mo c) e rq.2.1 rq.2.2.2.2.1).2.1) (q_tn n tx (q_lo1 c) (q_mo c) e rq.2.1 rq.2.2.2.2.1).2.1) < n ∧ tx (q_sk n tx (n - (q_tn n tx (q_lo1 c) (q_mo c) e rq.2.1 rq.2.2.2.2.1).2.1) (q_tn n tx (q_lo1 c) (q_mo c) e rq.2.1 rq.2.2.2.2.1).2.1) = 59 := (q_by_59 htx _).mp c202
              refine mv_aload_n dX12_takeClause_215 rfl ?_
              refine mv_dup dX12_takeClause_216 rfl ?_
              refine mv_getf (ci := 12) (f := 4) dX12_takeClause_217 HX rfl (by decide) wd_1203 rfl ?_
              refine mv_iconst (v := nI 1) dX12_takeClause_220 (by decide) ?_
              refine mv_iadd dX12_takeClause_221 ?_
              refine mv_topI (y := nI ((q_sk n tx (n - (q_tn n tx (q_lo1 c) (q_mo c) e rq.2.1 rq.2.2.2.2.1).2.1) (q_tn n tx (q_lo1 c) (q_mo c) e rq.2.1 rq.2.2.2.2.1).2.1) + 1)) (nI_add _ _) ?_
              refine mv_putf (ci := 12) (f := 4) dX12_takeClause_222 HX rfl (by decide) wd_1203 rfl rfl (fun _ => ⟨rfl, rfl⟩) (Nat.le_of_ble_eq_true rfl) ?_
              refine mv_topH (fun h23 e24 => ?_)
              have HX : h23[52]? = some (.inr (12, [.ref 53, .ref 54, .int (nI n), .int (q_tn n tx (q_lo1 c) (q_mo c) e rq.2.1 rq.2.2.2.2.1).2.2.1, .int (nI ((q_sk n tx (n - (q_tn n tx (q_lo1 c) (q_mo c) e rq.2.1 rq.2.2.2.2.1).2.1) (q_tn n tx (q_lo1 c) (q_mo c) e rq.2.1 rq.2.2.2.2.1).2.1) + 1)), .long (lN (q_wv tx s (e - s))), .int (nI e), .int (q_tn n tx (q_lo1 c) (q_mo c) e rq.2.1 rq.2.2.2.2.1).2.2.2, .ref 55, .int (nI (rq.2.2.2.2.2.2 ||| 2 ^ c)), .int (nI b.1), .ref 56, .ref 57, .ref 58, .int (nI t), .int (nI b.2.1), .ref 59, .ref 60, .ref 61, .ref 62, .int xg, .ref 63, .ref 64, .ref 65, .ref 66, .ref 67, .ref 68, .ref 69, .int xc, .ref 70, .ref 71, .ref 72, .ref 73, .ref 74, .ref 75, .int xw, .ref 76, .ref 77, .ref 78, .ref 79, .ref 80])) := mv_eq e24 HX
              have X54 := mv_ne e24 (by decide) X54
              have X55 := mv_ne e24 (by decide) X55
              have fr := fr.set e24 (by decide)
              clear e24
              refine mv_iconst (v := nI 0) dX12_takeClause_225 (by decide) ?_
              have e9 : q_tc n tx rq = (0, (q_sk n tx (n - (q_tn n tx (q_lo1 c) (q_mo c) e rq.2.1 rq.2.2.2.2.1).2.1) (q_tn n tx (q_lo1 c) (q_mo c) e rq.2.1 rq.2.2.2.2.1).2.1) + 1, (q_tn n tx (q_lo1 c) (q_mo c) e rq.2.1 rq.2.2.2.2.1).2.2.1, q_wv tx s (e - s), e, (q_tn n tx (q_lo1 c) (q_mo c) e rq.2.1 rq.2.2.2.2.1).2.2.2, (upd rq.2.2.2.2.2.1 c (q_tn n tx (q_lo1 c) (q_mo c) e rq.2.1 rq.2.2.2.2.1).2.2.2), rq.2.2.2.2.2.2 ||| 2 ^ c) := e3.trans (if_pos c202)
              exact mv_iret dX12_takeClause_226 rfl rfl ⟨(by rw [e9]), fr, (by rw [e9]; exact HX), (by rw [e9]; exact X55)⟩
            · have c202 : ¬ ((q_sk n tx (n - (q_tn n tx (q_lo1 c) (q_mo c) e rq.2.1 rq.2.2.2.2.1).2.1) (q_tn n tx (q_lo1 c) (q_mo c) e rq.2.1 rq.2.2.2.2.1).2.1) < n ∧ tx (q_sk n tx (n - (q_tn n tx (q_lo1 c) (q_mo c) e rq.2.1 rq.2.2.2.2.1).2.1) (q_tn n tx (q_lo1 c) (q_mo c) e rq.2.1 rq.2.2.2.2.1).2.1) = 59) := fun q => c202 ((q_by_59 htx _).mpr q)
              refine mv_aload_n dX12_takeClause_205 rfl ?_
              refine mv_iconst (v := nI 1) dX12_takeClause_206 (by decide) ?_
              refine mv_aload_n dX12_takeClause_207 rfl ?_
              refine mv_getf (ci := 12) (f := 4) dX12_takeClause_208 HX rfl (by decide) wd_1203 rfl ?_
              obtain ⟨h25, K26, f27, y28⟩ := (k_X12_fails (ev := ev) (xg := xg) (xc := xc) (xw := xw) (b := b) (t := t) (n := n) (rq := (q_sk n tx (n - (q_tn n tx (q_lo1 c) (q_mo c) e rq.2.1 rq.2.2.2.2.1).2.1) (q_tn n tx (q_lo1 c) (q_mo c) e rq.2.1 rq.2.2.2.2.1).2.1, (q_tn n tx (q_lo1 c) (q_mo c) e rq.2.1 rq.2.2.2.2.1).2.2.1, q_wv tx s (e - s), e, (q_tn n tx (q_lo1 c) (q_mo c) e rq.2.1 rq.2.2.2.2.1).2.2.2, (upd rq.2.2.2.2.2.1 c (q_tn n tx (q_lo1 c) (q_mo c) e rq.2.1 rq.2.2.2.2.1).2.2.2), rq.2.2.2.2.2.2 ||| 2 ^ c)) (f := (nI 1)) (p := (q_sk n tx (n - (q_tn n tx (q_lo1 c) (q_mo c) e rq.2.1 rq.2.2.2.2.1).2.1) (q_tn n tx (q_lo1 c) (q_mo c) e rq.2.1 rq.2.2.2.2.1).2.1)) HX)
              refine mv_cV2 (ci := 12) dX12_takeClause_211 lk_X12_takeClause_174 HX rfl (Nat.le_of_ble_eq_true rfl) (Nat.le_of_ble_eq_true rfl) K26 ?_
              have HX : h25[52]? = some (.inr (12, [.ref 53, .ref 54, .int (nI n), .int (nI (q_sk n tx (n - (q_tn n tx (q_lo1 c) (q_mo c) e rq.2.1 rq.2.2.2.2.1).2.1) (q_tn n tx (q_lo1 c) (q_mo c) e rq.2.1 rq.2.2.2.2.1).2.1)), .int (nI (q_sk n tx (n - (q_tn n tx (q_lo1 c) (q_mo c) e rq.2.1 rq.2.2.2.2.1).2.1) (q_tn n tx (q_lo1 c) (q_mo c) e rq.2.1 rq.2.2.2.2.1).2.1)), .long (lN (q_wv tx s (e - s))), .int (nI e), .int (q_tn n tx (q_lo1 c) (q_mo c) e rq.2.1 rq.2.2.2.2.1).2.2.2, .ref 55, .int (nI (rq.2.2.2.2.2.2 ||| 2 ^ c)), .int (nI b.1), .ref 56, .ref 57, .ref 58, .int (nI t), .int (nI b.2.1), .ref 59, .ref 60, .ref 61, .ref 62, .int xg, .ref 63, .ref 64, .ref 65, .ref 66, .ref 67, .ref 68, .ref 69, .int xc, .ref 70, .ref 71, .ref 72, .ref 73, .ref 74, .ref 75, .int xw, .ref 76, .ref 77, .ref 78, .ref 79, .ref 80])) := y28
              have X54 := f27.get (by decide) X54
              have X55 := f27.get (by decide) X55
              have fr := fr.trans f27 (by decide)
              have e9 : q_tc n tx rq = (1, q_sk n tx (n - (q_tn n tx (q_lo1 c) (q_mo c) e rq.2.1 rq.2.2.2.2.1).2.1) (q_tn n tx (q_lo1 c) (q_mo c) e rq.2.1 rq.2.2.2.2.1).2.1, nI (q_sk n tx (n - (q_tn n tx (q_lo1 c) (q_mo c) e rq.2.1 rq.2.2.2.2.1).2.1) (q_tn n tx (q_lo1 c) (q_mo c) e rq.2.1 rq.2.2.2.2.1).2.1), q_wv tx s (e - s), e, (q_tn n tx (q_lo1 c) (q_mo c) e rq.2.1 rq.2.2.2.2.1).2.2.2, (upd rq.2.2.2.2.2.1 c (q_tn n tx (q_lo1 c) (q_mo c) e rq.2.1 rq.2.2.2.2.1).2.2.2), rq.2.2.2.2.2.2 ||| 2 ^ c) := e3.trans (if_neg c202)
              exact mv_iret dX12_takeClause_214 rfl rfl ⟨(by rw [e9]), fr, (by rw [e9]; exact HX), (by rw [e9]; exact X55)⟩
          · have c112 : c = 5 := (nI_eq (by omega) (by omega)).mp c112
            refine mv_aload_n dX12_takeClause_115 rfl ?_
            obtain ⟨h29, K30, f31, y32⟩ := (k_X12_readWord (ev := ev) (xg := xg) (xc := xc) (xw := xw) (b := b) (t := t) (n := n) (tx := tx) (rq := ((q_tn n tx (q_lo1 c) (q_mo c) e rq.2.1 rq.2.2.2.2.1).2.1, (q_tn n tx (q_lo1 c) (q_mo c) e rq.2.1 rq.2.2.2.2.1).2.2.1, q_wv tx s (e - s), e, (q_tn n tx (q_lo1 c) (q_mo c) e rq.2.1 rq.2.2.2.2.1).2.2.2, (upd rq.2.2.2.2.2.1 c (q_tn n tx (q_lo1 c) (q_mo c) e rq.2.1 rq.2.2.2.2.1).2.2.2), rq.2.2.2.2.2.2 ||| 2 ^ c)) HX X54 hn htx m1.1.2)
            refine mv_cV0 (ci := 12) dX12_takeClause_116 lk_X12_takeClause_183 HX rfl (Nat.le_of_ble_eq_true rfl) (Nat.le_of_ble_eq_true rfl) K30 ?_
            have HX : h29[52]? = some (.inr (12, [.ref 53, .ref 54, .int (nI n), .int (q_tn n tx (q_lo1 c) (q_mo c) e rq.2.1 rq.2.2.2.2.1).2.2.1, .int (nI (q_sk n tx (n - (q_tn n tx (q_lo1 c) (q_mo c) e rq.2.1 rq.2.2.2.2.1).2.1) (q_tn n tx (q_lo1 c) (q_mo c) e rq.2.1 rq.2.2.2.2.1).2.1)), .long (lN (q_wv tx (q_sk n tx (n - (q_tn n tx (q_lo1 c) (q_mo c) e rq.2.1 rq.2.2.2.2.1).2.1) (q_tn n tx (q_lo1 c) (q_mo c) e rq.2.1 rq.2.2.2.2.1).2.1) ((q_ew n tx (n - (q_sk n tx (n - (q_tn n tx (q_lo1 c) (q_mo c) e rq.2.1 rq.2.2.2.2.1).2.1) (q_tn n tx (q_lo1 c) (q_mo c) e rq.2.1 rq.2.2.2.2.1).2.1)) (q_sk n tx (n - (q_tn n tx (q_lo1 c) (q_mo c) e rq.2.1 rq.2.2.2.2.1).2.1) (q_tn n tx (q_lo1 c) (q_mo c) e rq.2.1 rq.2.2.2.2.1).2.1)) - (q_sk n tx (n - (q_tn n tx (q_lo1 c) (q_mo c) e rq.2.1 rq.2.2.2.2.1).2.1) (q_tn n tx (q_lo1 c) (q_mo c) e rq.2.1 rq.2.2.2.2.1).2.1)))), .int (nI (q_ew n tx (n - (q_sk n tx (n - (q_tn n tx (q_lo1 c) (q_mo c) e rq.2.1 rq.2.2.2.2.1).2.1) (q_tn n tx (q_lo1 c) (q_mo c) e rq.2.1 rq.2.2.2.2.1).2.1)) (q_sk n tx (n - (q_tn n tx (q_lo1 c) (q_mo c) e rq.2.1 rq.2.2.2.2.1).2.1) (q_tn n tx (q_lo1 c) (q_mo c) e rq.2.1 rq.2.2.2.2.1).2.1))), .int (q_tn n tx (q_lo1 c) (q_mo c) e rq.2.1 rq.2.2.2.2.1).2.2.2, .ref 55, .int (nI (rq.2.2.2.2.2.2 ||| 2 ^ c)), .int (nI b.1), .ref 56, .ref 57, .ref 58, .int (nI t), .int (nI b.2.1), .ref 59, .ref 60, .ref 61, .ref 62, .int xg, .ref 63, .ref 64, .ref 65, .ref 66, .ref 67, .ref 68, .ref 69, .int xc, .ref 70, .ref 71, .ref 72, .ref 73, .ref 74, .ref 75, .int xw, .ref 76, .ref 77, .ref 78, .ref 79, .ref 80])) := y32
            have X54 := f31.get (by decide) X54
            have X55 := f31.get (by decide) X55
            have fr := fr.trans f31 (by decide)
            obtain ⟨s2, es2⟩ : ∃ s2, s2 = (q_sk n tx (n - (q_tn n tx (q_lo1 c) (q_mo c) e rq.2.1 rq.2.2.2.2.1).2.1) (q_tn n tx (q_lo1 c) (q_mo c) e rq.2.1 rq.2.2.2.2.1).2.1) := ⟨_, rfl⟩
            obtain ⟨e2, ee2⟩ : ∃ e2, e2 = q_ew n tx (n - s2) s2 := ⟨_, rfl⟩
            have hs2 : s2 ≤ n := (by rw [es2]; exact (q_sk_in _ _ m1.1.2).2)
            have he2 : s2 ≤ e2 ∧ e2 ≤ n := (by rw [ee2]; exact q_ew_in _ _ hs2)
            rw [← es2, ← ee2] at HX
            have hl2 : ∀ j, s2 ≤ j → j < e2 → 97 ≤ tx j ∧ tx j ≤ 122 := (by rw [ee2]; exact q_ew_l _ _)
            have hwb2 := q_wv_le htx s2 (e2 - s2)
            have i9 := q_wkTo he2.1 hl2
            have e5 : q_tc n tx rq = q_tw5 n tx ((q_tn n tx (q_lo1 c) (q_mo c) e rq.2.1 rq.2.2.2.2.1).2.1, (q_tn n tx (q_lo1 c) (q_mo c) e rq.2.1 rq.2.2.2.2.1).2.2.1, q_wv tx s (e - s), e, (q_tn n tx (q_lo1 c) (q_mo c) e rq.2.1 rq.2.2.2.2.1).2.2.2, upd rq.2.2.2.2.2.1 c (q_tn n tx (q_lo1 c) (q_mo c) e rq.2.1 rq.2.2.2.2.1).2.2.2, rq.2.2.2.2.2.2 ||| 2 ^ c) s2 e2 := e6.trans ((if_pos c107).trans ((if_pos c112).trans (by rw [← es2, ← ee2])))
            refine mv_aload_n dX12_takeClause_119 rfl ?_
            refine mv_getf (ci := 12) (f := 5) dX12_takeClause_120 HX rfl (by decide) wd_1204 rfl ?_
            refine mv_ldc2 (v := lN 555) dX12_takeClause_123 wd_1393 ?_
            refine mv_lcmp dX12_takeClause_126 ?_
            refine mv_if_ne (tgt := 134) dX12_takeClause_127 (by decide) (fun c127 => ?_) (fun c127 => ?_)
            · have c127 : ¬ q_wTo tx s2 e2 := fun q => c127 ((lg_cmp_eq _ _).mpr ((lN_eqB (by omega) (by omega)).mpr (i9.mpr q)))
              refine mv_aload_n dX12_takeClause_134 rfl ?_
              refine mv_iconst (v := nI 1) dX12_takeClause_135 (by decide) ?_
              refine mv_aload_n dX12_takeClause_136 rfl ?_
              refine mv_getf (ci := 12) (f := 4) dX12_takeClause_137 HX rfl (by decide) wd_1203 rfl ?_
              obtain ⟨h33, K34, f35, y36⟩ := (k_X12_fails (ev := ev) (xg := xg) (xc := xc) (xw := xw) (b := b) (t := t) (n := n) (rq := (s2, (q_tn n tx (q_lo1 c) (q_mo c) e rq.2.1 rq.2.2.2.2.1).2.2.1, q_wv tx s2 (e2 - s2), e2, (q_tn n tx (q_lo1 c) (q_mo c) e rq.2.1 rq.2.2.2.2.1).2.2.2, (upd rq.2.2.2.2.2.1 c (q_tn n tx (q_lo1 c) (q_mo c) e rq.2.1 rq.2.2.2.2.1).2.2.2), rq.2.2.2.2.2.2 ||| 2 ^ c)) (f := (nI 1)) (p := s2) HX)
              refine mv_cV2 (ci := 12) dX12_takeClause_140 lk_X12_takeClause_174 HX rfl (Nat.le_of_ble_eq_true rfl) (Nat.le_of_ble_eq_true rfl) K34 ?_
              have HX : h33[52]? = some (.inr (12, [.ref 53, .ref 54, .int (nI n), .int (nI s2), .int (nI s2), .long (lN (q_wv tx s2 (e2 - s2))), .int (nI e2), .int (q_tn n tx (q_lo1 c) (q_mo c) e rq.2.1 rq.2.2.2.2.1).2.2.2, .ref 55, .int (nI (rq.2.2.2.2.2.2 ||| 2 ^ c)), .int (nI b.1), .ref 56, .ref 57, .ref 58, .int (nI t), .int (nI b.2.1), .ref 59, .ref 60, .ref 61, .ref 62, .int xg, .ref 63, .ref 64, .ref 65, .ref 66, .ref 67, .ref 68, .ref 69, .int xc, .ref 70, .ref 71, .ref 72, .ref 73, .ref 74, .ref 75, .int xw, .ref 76, .ref 77, .ref 78, .ref 79, .ref 80])) := y36
              have X54 := f35.get (by decide) X54
              have X55 := f35.get (by decide) X55
              have fr := fr.trans f35 (by decide)
              refine mv_istore_n dX12_takeClause_143 (by decide) ?_
              refine mv_aload_n dX12_takeClause_144 rfl ?_
              refine mv_iload_n dX12_takeClause_145 rfl ?_
              refine mv_if_le (tgt := 156) dX12_takeClause_146 (by decide) (fun z => absurd z ((by decide))) (fun c146 => ?_)
              refine mv_aload_n dX12_takeClause_149 rfl ?_
              refine mv_getf (ci := 12) (f := 4) dX12_takeClause_150 HX rfl (by decide) wd_1203 rfl ?_
              refine mv_goto (tgt := 160) dX12_takeClause_153 (by decide) ?_
              refine mv_putf (ci := 12) (f := 4) dX12_takeClause_160 HX rfl (by decide) wd_1203 rfl rfl (fun _ => ⟨rfl, rfl⟩) (Nat.le_of_ble_eq_true rfl) ?_
              refine mv_topH (fun h37 e38 => ?_)
              have HX : h37[52]? = some (.inr (12, [.ref 53, .ref 54, .int (nI n), .int (nI s2), .int (nI s2), .long (lN (q_wv tx s2 (e2 - s2))), .int (nI e2), .int (q_tn n tx (q_lo1 c) (q_mo c) e rq.2.1 rq.2.2.2.2.1).2.2.2, .ref 55, .int (nI (rq.2.2.2.2.2.2 ||| 2 ^ c)), .int (nI b.1), .ref 56, .ref 57, .ref 58, .int (nI t), .int (nI b.2.1), .ref 59, .ref 60, .ref 61, .ref 62, .int xg, .ref 63, .ref 64, .ref 65, .ref 66, .ref 67, .ref 68, .ref 69, .int xc, .ref 70, .ref 71, .ref 72, .ref 73, .ref 74, .ref 75, .int xw, .ref 76, .ref 77, .ref 78, .ref 79, .ref 80])) := mv_eq e38 HX
              have X54 := mv_ne e38 (by decide) X54
              have X55 := mv_ne e38 (by decide) X55
              have fr := fr.set e38 (by decide)
              clear e38
              refine mv_iload_n dX12_takeClause_163 rfl ?_
              refine mv_if_le (tgt := 171) dX12_takeClause_164 (by decide) (fun z => absurd z ((by decide))) (fun c164 => ?_)
              refine mv_iload_n dX12_takeClause_167 rfl ?_
              refine mv_goto (tgt := 178) dX12_takeClause_168 (by decide) ?_
              refine mv_istore_n dX12_takeClause_178 (by decide) ?_
              refine mv_aload_n dX12_takeClause_179 rfl ?_
              refine mv_getf (ci := 12) (f := 8) dX12_takeClause_180 HX rfl (by decide) wd_1207 rfl ?_
              refine mv_bipush (v := nI 6) dX12_takeClause_183 (by decide) ?_
              refine mv_aload_n dX12_takeClause_185 rfl ?_
              refine mv_getf (ci := 12) (f := 7) dX12_takeClause_186 HX rfl (by decide) wd_1206 rfl ?_
              refine mv_iastN (j := 6) dX12_takeClause_189 X55 rfl (by decide) (by omega) (fun h39 e40 => ?_)
              have HX := mv_ne e40 (by decide) HX
              have X54 := mv_ne e40 (by decide) X54
              have X55 : h39[55]? = some (.inl (0, 8, .inl (upd (upd rq.2.2.2.2.2.1 c (q_tn n tx (q_lo1 c) (q_mo c) e rq.2.1 rq.2.2.2.2.1).2.2.2) 6 (q_tn n tx (q_lo1 c) (q_mo c) e rq.2.1 rq.2.2.2.2.1).2.2.2))) := mv_eq e40 X55
              have fr := fr.set e40 (by decide)
              clear e40
              refine mv_iload_n dX12_takeClause_190 rfl ?_
              refine mv_if_le (tgt := 196) dX12_takeClause_191 (by decide) (fun z => absurd z ((by decide))) (fun c191 => ?_)
              refine mv_iload_n dX12_takeClause_194 rfl ?_
              have e9 : q_tc n tx rq = (1, s2, nI s2, q_wv tx s2 (e2 - s2), e2, (q_tn n tx (q_lo1 c) (q_mo c) e rq.2.1 rq.2.2.2.2.1).2.2.2, (upd (upd rq.2.2.2.2.2.1 c (q_tn n tx (q_lo1 c) (q_mo c) e rq.2.1 rq.2.2.2.2.1).2.2.2) 6 (q_tn n tx (q_lo1 c) (q_mo c) e rq.2.1 rq.2.2.2.2.1).2.2.2), rq.2.2.2.2.2.2 ||| 2 ^ c) := e5.trans (if_neg c127)
              exact mv_iret dX12_takeClause_195 rfl rfl ⟨(by rw [e9]), fr, (by rw [e9]; exact HX), (by rw [e9]; exact X55)⟩
            · have c127 : q_wTo tx s2 e2 := i9.mp ((lN_eqB (by omega) (by omega)).mp ((lg_cmp_eq _ _).mp c127))
              refine mv_iconst (v := nI 0) dX12_takeClause_130 (by decide) ?_
              refine mv_goto (tgt := 143) dX12_takeClause_131 (by decide) ?_
              refine mv_istore_n dX12_takeClause_143 (by decide) ?_
              refine mv_aload_n dX12_takeClause_144 rfl ?_
              refine mv_iload_n dX12_takeClause_145 rfl ?_
              refine mv_if_le (tgt := 156) dX12_takeClause_146 (by decide) (fun c146 => ?_) (fun z => absurd ((by decide)) z)
              refine mv_aload_n dX12_takeClause_156 rfl ?_
              refine mv_getf (ci := 12) (f := 6) dX12_takeClause_157 HX rfl (by decide) wd_1205 rfl ?_
              refine mv_putf (ci := 12) (f := 4) dX12_takeClause_160 HX rfl (by decide) wd_1203 rfl rfl (fun _ => ⟨rfl, rfl⟩) (Nat.le_of_ble_eq_true rfl) ?_
              refine mv_topH (fun h41 e42 => ?_)
              have HX : h41[52]? = some (.inr (12, [.ref 53, .ref 54, .int (nI n), .int (q_tn n tx (q_lo1 c) (q_mo c) e rq.2.1 rq.2.2.2.2.1).2.2.1, .int (nI e2), .long (lN (q_wv tx s2 (e2 - s2))), .int (nI e2), .int (q_tn n tx (q_lo1 c) (q_mo c) e rq.2.1 rq.2.2.2.2.1).2.2.2, .ref 55, .int (nI (rq.2.2.2.2.2.2 ||| 2 ^ c)), .int (nI b.1), .ref 56, .ref 57, .ref 58, .int (nI t), .int (nI b.2.1), .ref 59, .ref 60, .ref 61, .ref 62, .int xg, .ref 63, .ref 64, .ref 65, .ref 66, .ref 67, .ref 68, .ref 69, .int xc, .ref 70, .ref 71, .ref 72, .ref 73, .ref 74, .ref 75, .int xw, .ref 76, .ref 77, .ref 78, .ref 79, .ref 80])) := mv_eq e42 HX
              have X54 := mv_ne e42 (by decide) X54
              have X55 := mv_ne e42 (by decide) X55
              have fr := fr.set e42 (by decide)
              clear e42
              refine mv_iload_n dX12_takeClause_163 rfl ?_
              refine mv_if_le (tgt := 171) dX12_takeClause_164 (by decide) (fun c164 => ?_) (fun z => absurd ((by decide)) z)
              have m2 := q_tn_ok (n := n) (tx := tx) (lo := 0) (hi := 27) (a := e2) (fp := (q_tn n tx (q_lo1 c) (q_mo c) e rq.2.1 rq.2.2.2.2.1).2.2.1) (nu := (q_tn n tx (q_lo1 c) (q_mo c) e rq.2.1 rq.2.2.2.2.1).2.2.2) he2.2
              have e4 : q_tc n tx rq = q_tm n tx (e2, ((q_tn n tx (q_lo1 c) (q_mo c) e rq.2.1 rq.2.2.2.2.1).2.1, (q_tn n tx (q_lo1 c) (q_mo c) e rq.2.1 rq.2.2.2.2.1).2.2.1, q_wv tx s (e - s), e, (q_tn n tx (q_lo1 c) (q_mo c) e rq.2.1 rq.2.2.2.2.1).2.2.2, upd rq.2.2.2.2.2.1 c (q_tn n tx (q_lo1 c) (q_mo c) e rq.2.1 rq.2.2.2.2.1).2.2.2, rq.2.2.2.2.2.2 ||| 2 ^ c).2.1, q_wv tx s2 (e2 - s2), e2, ((q_tn n tx (q_lo1 c) (q_mo c) e rq.2.1 rq.2.2.2.2.1).2.1, (q_tn n tx (q_lo1 c) (q_mo c) e rq.2.1 rq.2.2.2.2.1).2.2.1, q_wv tx s (e - s), e, (q_tn n tx (q_lo1 c) (q_mo c) e rq.2.1 rq.2.2.2.2.1).2.2.2, upd rq.2.2.2.2.2.1 c (q_tn n tx (q_lo1 c) (q_mo c) e rq.2.1 rq.2.2.2.2.1).2.2.2, rq.2.2.2.2.2.2 ||| 2 ^ c).2.2.2.2) (q_tn n tx 0 27 e2 (q_tn n tx (q_lo1 c) (q_mo c) e rq.2.1 rq.2.2.2.2.1).2.2.1 (q_tn n tx (q_lo1 c) (q_mo c) e rq.2.1 rq.2.2.2.2.1).2.2.2) := e5.trans (if_pos c127)
              refine mv_aload_n dX12_takeClause_171 rfl ?_
              refine mv_iconst (v := nI 0) dX12_takeClause_172 (by decide) ?_
              refine mv_bipush (v := nI 27) dX12_takeClause_173 (by decide) ?_
              obtain ⟨h43, K44, f45, y46⟩ := (k_X12_takeNumber (ev := ev) (xg := xg) (xc := xc) (xw := xw) (b := b) (t := t) (n := n) (tx := tx) (rq := (e2, (q_tn n tx (q_lo1 c) (q_mo c) e rq.2.1 rq.2.2.2.2.1).2.2.1, q_wv tx s2 (e2 - s2), e2, (q_tn n tx (q_lo1 c) (q_mo c) e rq.2.1 rq.2.2.2.2.1).2.2.2, (upd rq.2.2.2.2.2.1 c (q_tn n tx (q_lo1 c) (q_mo c) e rq.2.1 rq.2.2.2.2.1).2.2.2), rq.2.2.2.2.2.2 ||| 2 ^ c)) (lo := 0) (hi := 27) HX X54 hn htx he2.2 (by decide) (by decide))
              refine mv_cV2 (ci := 12) dX12_takeClause_175 lk_X12_takeClause_193 HX rfl (Nat.le_of_ble_eq_true rfl) (Nat.le_of_ble_eq_true rfl) K44 ?_
              have HX : h43[52]? = some (.inr (12, [.ref 53, .ref 54, .int (nI n), .int ((q_tn n tx 0 27 e2 (q_tn n tx (q_lo1 c) (q_mo c) e rq.2.1 rq.2.2.2.2.1).2.2.1 (q_tn n tx (q_lo1 c) (q_mo c) e rq.2.1 rq.2.2.2.2.1).2.2.2).2.2.1), .int (nI (q_tn n tx 0 27 e2 (q_tn n tx (q_lo1 c) (q_mo c) e rq.2.1 rq.2.2.2.2.1).2.2.1 (q_tn n tx (q_lo1 c) (q_mo c) e rq.2.1 rq.2.2.2.2.1).2.2.2).2.1), .long (lN (q_wv tx s2 (e2 - s2))), .int (nI e2), .int ((q_tn n tx 0 27 e2 (q_tn n tx (q_lo1 c) (q_mo c) e rq.2.1 rq.2.2.2.2.1).2.2.1 (q_tn n tx (q_lo1 c) (q_mo c) e rq.2.1 rq.2.2.2.2.1).2.2.2).2.2.2), .ref 55, .int (nI (rq.2.2.2.2.2.2 ||| 2 ^ c)), .int (nI b.1), .ref 56, .ref 57, .ref 58, .int (nI t), .int (nI b.2.1), .ref 59, .ref 60, .ref 61, .ref 62, .int xg, .ref 63, .ref 64, .ref 65, .ref 66, .ref 67, .ref 68, .ref 69, .int xc, .ref 70, .ref 71, .ref 72, .ref 73, .ref 74, .ref 75, .int xw, .ref 76, .ref 77, .ref 78, .ref 79, .ref 80])) := y46
              have X54 := f45.get (by decide) X54
              have X55 := f45.get (by decide) X55
              have fr := fr.trans f45 (by decide)
              refine mv_topI (y := nI (q_tn n tx 0 27 e2 (q_tn n tx (q_lo1 c) (q_mo c) e rq.2.1 rq.2.2.2.2.1).2.2.1 (q_tn n tx (q_lo1 c) (q_mo c) e rq.2.1 rq.2.2.2.2.1).2.2.2).1) rfl ?_
              refine mv_istore_n dX12_takeClause_178 (by decide) ?_
              refine mv_aload_n dX12_takeClause_179 rfl ?_
              refine mv_getf (ci := 12) (f := 8) dX12_takeClause_180 HX rfl (by decide) wd_1207 rfl ?_
              refine mv_bipush (v := nI 6) dX12_takeClause_183 (by decide) ?_
              refine mv_aload_n dX12_takeClause_185 rfl ?_
              refine mv_getf (ci := 12) (f := 7) dX12_takeClause_186 HX rfl (by decide) wd_1206 rfl ?_
              refine mv_iastN (j := 6) dX12_takeClause_189 X55 rfl (by decide) (by omega) (fun h47 e48 => ?_)
              have HX := mv_ne e48 (by decide) HX
              have X54 := mv_ne e48 (by decide) X54
              have X55 : h47[55]? = some (.inl (0, 8, .inl (upd (upd rq.2.2.2.2.2.1 c (q_tn n tx (q_lo1 c) (q_mo c) e rq.2.1 rq.2.2.2.2.1).2.2.2) 6 (q_tn n tx 0 27 e2 (q_tn n tx (q_lo1 c) (q_mo c) e rq.2.1 rq.2.2.2.2.1).2.2.1 (q_tn n tx (q_lo1 c) (q_mo c) e rq.2.1 rq.2.2.2.2.1).2.2.2).2.2.2))) := mv_eq e48 X55
              have fr := fr.set e48 (by decide)
              clear e48
              refine mv_iload_n dX12_takeClause_190 rfl ?_
              refine mv_if_le (tgt := 196) dX12_takeClause_191 (by decide) (fun c191 => ?_) (fun c191 => ?_)
              · have c191 : (q_tn n tx 0 27 e2 (q_tn n tx (q_lo1 c) (q_mo c) e rq.2.1 rq.2.2.2.2.1).2.2.1 (q_tn n tx (q_lo1 c) (q_mo c) e rq.2.1 rq.2.2.2.2.1).2.2.2).1 = 0 := (by have q := (nI_leI (b := 0) (by omega) (by omega)).mp c191; omega)
                have e3 : q_tc n tx rq = q_ts n tx ((q_tn n tx 0 27 e2 (q_tn n tx (q_lo1 c) (q_mo c) e rq.2.1 rq.2.2.2.2.1).2.2.1 (q_tn n tx (q_lo1 c) (q_mo c) e rq.2.1 rq.2.2.2.2.1).2.2.2).2.1, (q_tn n tx 0 27 e2 (q_tn n tx (q_lo1 c) (q_mo c) e rq.2.1 rq.2.2.2.2.1).2.2.1 (q_tn n tx (q_lo1 c) (q_mo c) e rq.2.1 rq.2.2.2.2.1).2.2.2).2.2.1, q_wv tx s2 (e2 - s2), e2, (q_tn n tx 0 27 e2 (q_tn n tx (q_lo1 c) (q_mo c) e rq.2.1 rq.2.2.2.2.1).2.2.1 (q_tn n tx (q_lo1 c) (q_mo c) e rq.2.1 rq.2.2.2.2.1).2.2.2).2.2.2, (upd (upd rq.2.2.2.2.2.1 c (q_tn n tx (q_lo1 c) (q_mo c) e rq.2.1 rq.2.2.2.2.1).2.2.2) 6 (q_tn n tx 0 27 e2 (q_tn n tx (q_lo1 c) (q_mo c) e rq.2.1 rq.2.2.2.2.1).2.2.1 (q_tn n tx (q_lo1 c) (q_mo c) e rq.2.1 rq.2.2.2.2.1).2.2.2).2.2.2), rq.2.2.2.2.2.2 ||| 2 ^ c) := e4.trans (if_pos c191)
                refine mv_aload_n dX12_takeClause_196 rfl ?_
                obtain ⟨h49, K50, f51, y52⟩ := (k_X12_here (ev := ev) (xg := xg) (xc := xc) (xw := xw) (b := b) (t := t) (n := n) (tx := tx) (rq := ((q_tn n tx 0 27 e2 (q_tn n tx (q_lo1 c) (q_mo c) e rq.2.1 rq.2.2.2.2.1).2.2.1 (q_tn n tx (q_lo1 c) (q_mo c) e rq.2.1 rq.2.2.2.2.1).2.2.2).2.1, (q_tn n tx 0 27 e2 (q_tn n tx (q_lo1 c) (q_mo c) e rq.2.1 rq.2.2.2.2.1).2.2.1 (q_tn n tx (q_lo1 c) (q_mo c) e rq.2.1 rq.2.2.2.2.1).2.2.2).2.2.1, q_wv tx s2 (e2 - s2), e2, (q_tn n tx 0 27 e2 (q_tn n tx (q_lo1 c) (q_mo c) e rq.2.1 rq.2.2.2.2.1).2.2.1 (q_tn n tx (q_lo1 c) (q_mo c) e rq.2.1 rq.2.2.2.2.1).2.2.2).2.2.2, (upd (upd rq.2.2.2.2.2.1 c (q_tn n tx (q_lo1 c) (q_mo c) e rq.2.1 rq.2.2.2.2.1).2.2.2) 6 (q_tn n tx 0 27 e2 (q_tn n tx (q_lo1 c) (q_mo c) e rq.2.1 rq.2.2.2.2.1).2.2.1 (q_tn n tx (q_lo1 c) (q_mo c) e rq.2.1 rq.2.2.2.2.1).2.2.2).2.2.2), rq.2.2.2.2.2.2 ||| 2 ^ c)) HX X54 hn htx (by first | exact m2.1.2 | exact m1.1.2))
                refine mv_cV0 (ci := 12) dX12_takeClause_197 lk_X12_takeClause_141 HX rfl (Nat.le_of_ble_eq_true rfl) (Nat.le_of_ble_eq_true rfl) K50 ?_
                have HX : h49[52]? = some (.inr (12, [.ref 53, .ref 54, .int (nI n), .int (q_tn n tx 0 27 e2 (q_tn n tx (q_lo1 c) (q_mo c) e rq.2.1 rq.2.2.2.2.1).2.2.1 (q_tn n tx (q_lo1 c) (q_mo c) e rq.2.1 rq.2.2.2.2.1).2.2.2).2.2.1, .int (nI (q_sk n tx (n - (q_tn n tx 0 27 e2 (q_tn n tx (q_lo1 c) (q_mo c) e rq.2.1 rq.2.2.2.2.1).2.2.1 (q_tn n tx (q_lo1 c) (q_mo c) e rq.2.1 rq.2.2.2.2.1).2.2.2).2.1) (q_tn n tx 0 27 e2 (q_tn n tx (q_lo1 c) (q_mo c) e rq.2.1 rq.2.2.2.2.1).2.2.1 (q_tn n tx (q_lo1 c) (q_mo c) e rq.2.1 rq.2.2.2.2.1).2.2.2).2.1)), .long (lN (q_wv tx s2 (e2 - s2))), .int (nI e2), .int (q_tn n tx 0 27 e2 (q_tn n tx (q_lo1 c) (q_mo c) e rq.2.1 rq.2.2.2.2.1).2.2.1 (q_tn n tx (q_lo1 c) (q_mo c) e rq.2.1 rq.2.2.2.2.1).2.2.2).2.2.2, .ref 55, .int (nI (rq.2.2.2.2.2.2 ||| 2 ^ c)), .int (nI b.1), .ref 56, .ref 57, .ref 58, .int (nI t), .int (nI b.2.1), .ref 59, .ref 60, .ref 61, .ref 62, .int xg, .ref 63, .ref 64, .ref 65, .ref 66, .ref 67, .ref 68, .ref 69, .int xc, .ref 70, .ref 71, .ref 72, .ref 73, .ref 74, .ref 75, .int xw, .ref 76, .ref 77, .ref 78, .ref 79, .ref 80])) := y52
                have X54 := f51.get (by decide) X54
                have X55 := f51.get (by decide) X55
                have fr := fr.trans f51 (by decide)
                refine mv_bipush (v := nI 59) dX12_takeClause_200 (by decide) ?_
                refine mv_icmp_eq (tgt := 215) dX12_takeClause_202 (by decide) (fun c202 => ?_) (fun c202 => ?_)
                · have c202 : (q_sk n tx (n - (q_tn n tx 0 27 e2 (q_tn n tx (q_lo1 c) (q_mo c) e rq.2.1 rq.2.2.2.2.1).2.2.1 (q_tn n tx (q_lo1 c) (q_mo c) e rq.2.1 rq.2.2.2.2.1).2.2.2).2.1) (q_tn n tx 0 27 e2 (q_tn n tx (q_lo1 c) (q_mo c) e rq.2.1 rq.2.2.2.2.1).2.2.1 (q_tn n tx (q_lo1 c) (q_mo c) e rq.2.1 rq.2.2.2.2.1).2.2.2).2.1) < n ∧ tx (q_sk n tx (n - (q_tn n tx 0 27 e2 (q_tn n tx (q_lo1 c) (q_mo c) e rq.2.1 rq.2.2.2.2.1).2.2.1 (q_tn n tx (q_lo1 c) (q_mo c) e rq.2.1 rq.2.2.2.2.1).2.2.2).2.1) (q_tn n tx 0 27 e2 (q_tn n tx (q_lo1 c) (q_mo c) e rq.2.1 rq.2.2.2.2.1).2.2.1 (q_tn n tx (q_lo1 c) (q_mo c) e rq.2.1 rq.2.2.2.2.1).2.2.2).2.1) = 59 := (q_by_59 htx _).mp c202
                  refine mv_aload_n dX12_takeClause_215 rfl ?_
                  refine mv_dup dX12_takeClause_216 rfl ?_
                  refine mv_getf (ci := 12) (f := 4) dX12_takeClause_217 HX rfl (by decide) wd_1203 rfl ?_
                  refine mv_iconst (v := nI 1) dX12_takeClause_220 (by decide) ?_
                  refine mv_iadd dX12_takeClause_221 ?_
                  refine mv_topI (y := nI ((q_sk n tx (n - (q_tn n tx 0 27 e2 (q_tn n tx (q_lo1 c) (q_mo c) e rq.2.1 rq.2.2.2.2.1).2.2.1 (q_tn n tx (q_lo1 c) (q_mo c) e rq.2.1 rq.2.2.2.2.1).2.2.2).2.1) (q_tn n tx 0 27 e2 (q_tn n tx (q_lo1 c) (q_mo c) e rq.2.1 rq.2.2.2.2.1).2.2.1 (q_tn n tx (q_lo1 c) (q_mo c) e rq.2.1 rq.2.2.2.2.1).2.2.2).2.1) + 1)) (nI_add _ _) ?_
                  refine mv_putf (ci := 12) (f := 4) dX12_takeClause_222 HX rfl (by decide) wd_1203 rfl rfl (fun _ => ⟨rfl, rfl⟩) (Nat.le_of_ble_eq_true rfl) ?_
                  refine mv_topH (fun h53 e54 => ?_)
                  have HX : h53[52]? = some (.inr (12, [.ref 53, .ref 54, .int (nI n), .int (q_tn n tx 0 27 e2 (q_tn n tx (q_lo1 c) (q_mo c) e rq.2.1 rq.2.2.2.2.1).2.2.1 (q_tn n tx (q_lo1 c) (q_mo c) e rq.2.1 rq.2.2.2.2.1).2.2.2).2.2.1, .int (nI ((q_sk n tx (n - (q_tn n tx 0 27 e2 (q_tn n tx (q_lo1 c) (q_mo c) e rq.2.1 rq.2.2.2.2.1).2.2.1 (q_tn n tx (q_lo1 c) (q_mo c) e rq.2.1 rq.2.2.2.2.1).2.2.2).2.1) (q_tn n tx 0 27 e2 (q_tn n tx (q_lo1 c) (q_mo c) e rq.2.1 rq.2.2.2.2.1).2.2.1 (q_tn n tx (q_lo1 c) (q_mo c) e rq.2.1 rq.2.2.2.2.1).2.2.2).2.1) + 1)), .long (lN (q_wv tx s2 (e2 - s2))), .int (nI e2), .int (q_tn n tx 0 27 e2 (q_tn n tx (q_lo1 c) (q_mo c) e rq.2.1 rq.2.2.2.2.1).2.2.1 (q_tn n tx (q_lo1 c) (q_mo c) e rq.2.1 rq.2.2.2.2.1).2.2.2).2.2.2, .ref 55, .int (nI (rq.2.2.2.2.2.2 ||| 2 ^ c)), .int (nI b.1), .ref 56, .ref 57, .ref 58, .int (nI t), .int (nI b.2.1), .ref 59, .ref 60, .ref 61, .ref 62, .int xg, .ref 63, .ref 64, .ref 65, .ref 66, .ref 67, .ref 68, .ref 69, .int xc, .ref 70, .ref 71, .ref 72, .ref 73, .ref 74, .ref 75, .int xw, .ref 76, .ref 77, .ref 78, .ref 79, .ref 80])) := mv_eq e54 HX
                  have X54 := mv_ne e54 (by decide) X54
                  have X55 := mv_ne e54 (by decide) X55
                  have fr := fr.set e54 (by decide)
                  clear e54
                  refine mv_iconst (v := nI 0) dX12_takeClause_225 (by decide) ?_
                  have e9 : q_tc n tx rq = (0, (q_sk n tx (n - (q_tn n tx 0 27 e2 (q_tn n tx (q_lo1 c) (q_mo c) e rq.2.1 rq.2.2.2.2.1).2.2.1 (q_tn n tx (q_lo1 c) (q_mo c) e rq.2.1 rq.2.2.2.2.1).2.2.2).2.1) (q_tn n tx 0 27 e2 (q_tn n tx (q_lo1 c) (q_mo c) e rq.2.1 rq.2.2.2.2.1).2.2.1 (q_tn n tx (q_lo1 c) (q_mo c) e rq.2.1 rq.2.2.2.2.1).2.2.2).2.1) + 1, (q_tn n tx 0 27 e2 (q_tn n tx (q_lo1 c) (q_mo c) e rq.2.1 rq.2.2.2.2.1).2.2.1 (q_tn n tx (q_lo1 c) (q_mo c) e rq.2.1 rq.2.2.2.2.1).2.2.2).2.2.1, q_wv tx s2 (e2 - s2), e2, (q_tn n tx 0 27 e2 (q_tn n tx (q_lo1 c) (q_mo c) e rq.2.1 rq.2.2.2.2.1).2.2.1 (q_tn n tx (q_lo1 c) (q_mo c) e rq.2.1 rq.2.2.2.2.1).2.2.2).2.2.2, (upd (upd rq.2.2.2.2.2.1 c (q_tn n tx (q_lo1 c) (q_mo c) e rq.2.1 rq.2.2.2.2.1).2.2.2) 6 (q_tn n tx 0 27 e2 (q_tn n tx (q_lo1 c) (q_mo c) e rq.2.1 rq.2.2.2.2.1).2.2.1 (q_tn n tx (q_lo1 c) (q_mo c) e rq.2.1 rq.2.2.2.2.1).2.2.2).2.2.2), rq.2.2.2.2.2.2 ||| 2 ^ c) := e3.trans (if_pos c202)
                  exact mv_iret dX12_takeClause_226 rfl rfl ⟨(by rw [e9]), fr, (by rw [e9]; exact HX), (by rw [e9]; exact X55)⟩
                · have c202 : ¬ ((q_sk n tx (n - (q_tn n tx 0 27 e2 (q_tn n tx (q_lo1 c) (q_mo c) e rq.2.1 rq.2.2.2.2.1).2.2.1 (q_tn n tx (q_lo1 c) (q_mo c) e rq.2.1 rq.2.2.2.2.1).2.2.2).2.1) (q_tn n tx 0 27 e2 (q_tn n tx (q_lo1 c) (q_mo c) e rq.2.1 rq.2.2.2.2.1).2.2.1 (q_tn n tx (q_lo1 c) (q_mo c) e rq.2.1 rq.2.2.2.2.1).2.2.2).2.1) < n ∧ tx (q_sk n tx (n - (q_tn n tx 0 27 e2 (q_tn n tx (q_lo1 c) (q_mo c) e rq.2.1 rq.2.2.2.2.1).2.2.1 (q_tn n tx (q_lo1 c) (q_mo c) e rq.2.1 rq.2.2.2.2.1).2.2.2).2.1) (q_tn n tx 0 27 e2 (q_tn n tx (q_lo1 c) (q_mo c) e rq.2.1 rq.2.2.2.2.1).2.2.1 (q_tn n tx (q_lo1 c) (q_mo c) e rq.2.1 rq.2.2.2.2.1).2.2.2).2.1) = 59) := fun q => c202 ((q_by_59 htx _).mpr q)
                  refine mv_aload_n dX12_takeClause_205 rfl ?_
                  refine mv_iconst (v := nI 1) dX12_takeClause_206 (by decide) ?_
                  refine mv_aload_n dX12_takeClause_207 rfl ?_
                  refine mv_getf (ci := 12) (f := 4) dX12_takeClause_208 HX rfl (by decide) wd_1203 rfl ?_
                  obtain ⟨h55, K56, f57, y58⟩ := (k_X12_fails (ev := ev) (xg := xg) (xc := xc) (xw := xw) (b := b) (t := t) (n := n) (rq := (q_sk n tx (n - (q_tn n tx 0 27 e2 (q_tn n tx (q_lo1 c) (q_mo c) e rq.2.1 rq.2.2.2.2.1).2.2.1 (q_tn n tx (q_lo1 c) (q_mo c) e rq.2.1 rq.2.2.2.2.1).2.2.2).2.1) (q_tn n tx 0 27 e2 (q_tn n tx (q_lo1 c) (q_mo c) e rq.2.1 rq.2.2.2.2.1).2.2.1 (q_tn n tx (q_lo1 c) (q_mo c) e rq.2.1 rq.2.2.2.2.1).2.2.2).2.1, (q_tn n tx 0 27 e2 (q_tn n tx (q_lo1 c) (q_mo c) e rq.2.1 rq.2.2.2.2.1).2.2.1 (q_tn n tx (q_lo1 c) (q_mo c) e rq.2.1 rq.2.2.2.2.1).2.2.2).2.2.1, q_wv tx s2 (e2 - s2), e2, (q_tn n tx 0 27 e2 (q_tn n tx (q_lo1 c) (q_mo c) e rq.2.1 rq.2.2.2.2.1).2.2.1 (q_tn n tx (q_lo1 c) (q_mo c) e rq.2.1 rq.2.2.2.2.1).2.2.2).2.2.2, (upd (upd rq.2.2.2.2.2.1 c (q_tn n tx (q_lo1 c) (q_mo c) e rq.2.1 rq.2.2.2.2.1).2.2.2) 6 (q_tn n tx 0 27 e2 (q_tn n tx (q_lo1 c) (q_mo c) e rq.2.1 rq.2.2.2.2.1).2.2.1 (q_tn n tx (q_lo1 c) (q_mo c) e rq.2.1 rq.2.2.2.2.1).2.2.2).2.2.2), rq.2.2.2.2.2.2 ||| 2 ^ c)) (f := (nI 1)) (p := (q_sk n tx (n - (q_tn n tx 0 27 e2 (q_tn n tx (q_lo1 c) (q_mo c) e rq.2.1 rq.2.2.2.2.1).2.2.1 (q_tn n tx (q_lo1 c) (q_mo c) e rq.2.1 rq.2.2.2.2.1).2.2.2).2.1) (q_tn n tx 0 27 e2 (q_tn n tx (q_lo1 c) (q_mo c) e rq.2.1 rq.2.2.2.2.1).2.2.1 (q_tn n tx (q_lo1 c) (q_mo c) e rq.2.1 rq.2.2.2.2.1).2.2.2).2.1)) HX)
                  refine mv_cV2 (ci := 12) dX12_takeClause_211 lk_X12_takeClause_174 HX rfl (Nat.le_of_ble_eq_true rfl) (Nat.le_of_ble_eq_true rfl) K56 ?_
                  have HX : h55[52]? = some (.inr (12, [.ref 53, .ref 54, .int (nI n), .int (nI (q_sk n tx (n - (q_tn n tx 0 27 e2 (q_tn n tx (q_lo1 c) (q_mo c) e rq.2.1 rq.2.2.2.2.1).2.2.1 (q_tn n tx (q_lo1 c) (q_mo c) e rq.2.1 rq.2.2.2.2.1).2.2.2).2.1) (q_tn n tx 0 27 e2 (q_tn n tx (q_lo1 c) (q_mo c) e rq.2.1 rq.2.2.2.2.1).2.2.1 (q_tn n tx (q_lo1 c) (q_mo c) e rq.2.1 rq.2.2.2.2.1).2.2.2).2.1)), .int (nI (q_sk n tx (n - (q_tn n tx 0 27 e2 (q_tn n tx (q_lo1 c) (q_mo c) e rq.2.1 rq.2.2.2.2.1).2.2.1 (q_tn n tx (q_lo1 c) (q_mo c) e rq.2.1 rq.2.2.2.2.1).2.2.2).2.1) (q_tn n tx 0 27 e2 (q_tn n tx (q_lo1 c) (q_mo c) e rq.2.1 rq.2.2.2.2.1).2.2.1 (q_tn n tx (q_lo1 c) (q_mo c) e rq.2.1 rq.2.2.2.2.1).2.2.2).2.1)), .long (lN (q_wv tx s2 (e2 - s2))), .int (nI e2), .int (q_tn n tx 0 27 e2 (q_tn n tx (q_lo1 c) (q_mo c) e rq.2.1 rq.2.2.2.2.1).2.2.1 (q_tn n tx (q_lo1 c) (q_mo c) e rq.2.1 rq.2.2.2.2.1).2.2.2).2.2.2, .ref 55, .int (nI (rq.2.2.2.2.2.2 ||| 2 ^ c)), .int (nI b.1), .ref 56, .ref 57, .ref 58, .int (nI t), .int (nI b.2.1), .ref 59, .ref 60, .ref 61, .ref 62, .int xg, .ref 63, .ref 64, .ref 65, .ref 66, .ref 67, .ref 68, .ref 69, .int xc, .ref 70, .ref 71, .ref 72, .ref 73, .ref 74, .ref 75, .int xw, .ref 76, .ref 77, .ref 78, .ref 79, .ref 80])) := y58
                  have X54 := f57.get (by decide) X54
                  have X55 := f57.get (by decide) X55
                  have fr := fr.trans f57 (by decide)
                  have e9 : q_tc n tx rq = (1, q_sk n tx (n - (q_tn n tx 0 27 e2 (q_tn n tx (q_lo1 c) (q_mo c) e rq.2.1 rq.2.2.2.2.1).2.2.1 (q_tn n tx (q_lo1 c) (q_mo c) e rq.2.1 rq.2.2.2.2.1).2.2.2).2.1) (q_tn n tx 0 27 e2 (q_tn n tx (q_lo1 c) (q_mo c) e rq.2.1 rq.2.2.2.2.1).2.2.1 (q_tn n tx (q_lo1 c) (q_mo c) e rq.2.1 rq.2.2.2.2.1).2.2.2).2.1, nI (q_sk n tx (n - (q_tn n tx 0 27 e2 (q_tn n tx (q_lo1 c) (q_mo c) e rq.2.1 rq.2.2.2.2.1).2.2.1 (q_tn n tx (q_lo1 c) (q_mo c) e rq.2.1 rq.2.2.2.2.1).2.2.2).2.1) (q_tn n tx 0 27 e2 (q_tn n tx (q_lo1 c) (q_mo c) e rq.2.1 rq.2.2.2.2.1).2.2.1 (q_tn n tx (q_lo1 c) (q_mo c) e rq.2.1 rq.2.2.2.2.1).2.2.2).2.1), q_wv tx s2 (e2 - s2), e2, (q_tn n tx 0 27 e2 (q_tn n tx (q_lo1 c) (q_mo c) e rq.2.1 rq.2.2.2.2.1).2.2.1 (q_tn n tx (q_lo1 c) (q_mo c) e rq.2.1 rq.2.2.2.2.1).2.2.2).2.2.2, (upd (upd rq.2.2.2.2.2.1 c (q_tn n tx (q_lo1 c) (q_mo c) e rq.2.1 rq.2.2.2.2.1).2.2.2) 6 (q_tn n tx 0 27 e2 (q_tn n tx (q_lo1 c) (q_mo c) e rq.2.1 rq.2.2.2.2.1).2.2.1 (q_tn n tx (q_lo1 c) (q_mo c) e rq.2.1 rq.2.2.2.2.1).2.2.2).2.2.2), rq.2.2.2.2.2.2 ||| 2 ^ c) := e3.trans (if_neg c202)
                  exact mv_iret dX12_takeClause_214 rfl rfl ⟨(by rw [e9]), fr, (by rw [e9]; exact HX), (by rw [e9]; exact X55)⟩
              · have c191 : ¬ (q_tn n tx 0 27 e2 (q_tn n tx (q_lo1 c) (q_mo c) e rq.2.1 rq.2.2.2.2.1).2.2.1 (q_tn n tx (q_lo1 c) (q_mo c) e rq.2.1 rq.2.2.2.2.1).2.2.2).1 = 0 := fun q => c191 (by rw [q]; decide)
                refine mv_iload_n dX12_takeClause_194 rfl ?_
                have e9 : q_tc n tx rq = ((q_tn n tx 0 27 e2 (q_tn n tx (q_lo1 c) (q_mo c) e rq.2.1 rq.2.2.2.2.1).2.2.1 (q_tn n tx (q_lo1 c) (q_mo c) e rq.2.1 rq.2.2.2.2.1).2.2.2).1, (q_tn n tx 0 27 e2 (q_tn n tx (q_lo1 c) (q_mo c) e rq.2.1 rq.2.2.2.2.1).2.2.1 (q_tn n tx (q_lo1 c) (q_mo c) e rq.2.1 rq.2.2.2.2.1).2.2.2).2.1, (q_tn n tx 0 27 e2 (q_tn n tx (q_lo1 c) (q_mo c) e rq.2.1 rq.2.2.2.2.1).2.2.1 (q_tn n tx (q_lo1 c) (q_mo c) e rq.2.1 rq.2.2.2.2.1).2.2.2).2.2.1, q_wv tx s2 (e2 - s2), e2, (q_tn n tx 0 27 e2 (q_tn n tx (q_lo1 c) (q_mo c) e rq.2.1 rq.2.2.2.2.1).2.2.1 (q_tn n tx (q_lo1 c) (q_mo c) e rq.2.1 rq.2.2.2.2.1).2.2.2).2.2.2, (upd (upd rq.2.2.2.2.2.1 c (q_tn n tx (q_lo1 c) (q_mo c) e rq.2.1 rq.2.2.2.2.1).2.2.2) 6 (q_tn n tx 0 27 e2 (q_tn n tx (q_lo1 c) (q_mo c) e rq.2.1 rq.2.2.2.2.1).2.2.1 (q_tn n tx (q_lo1 c) (q_mo c) e rq.2.1 rq.2.2.2.2.1).2.2.2).2.2.2), rq.2.2.2.2.2.2 ||| 2 ^ c) := e4.trans (if_neg c191)
                exact mv_iret dX12_takeClause_195 rfl rfl ⟨(by rw [e9]), fr, (by rw [e9]; exact HX), (by rw [e9]; exact X55)⟩
      · have c80 : c = 3 := (nI_eq (by omega) (by omega)).mp c80
        refine mv_iconst (v := nI 1) dX12_takeClause_83 (by decide) ?_
        refine mv_goto (tgt := 88) dX12_takeClause_84 (by decide) ?_
        have el : q_lo1 c = 1 := (by unfold q_lo1; first | exact if_pos (by omega) | exact if_neg (by omega))
        rw [show nI 1 = nI (q_lo1 c) from congrArg nI el.symm]
        refine mv_iload_n dX12_takeClause_88 rfl ?_
        refine mv_cS1 dX12_takeClause_89 lk_X12_takeClause_189 (Nat.le_of_ble_eq_true rfl) (Nat.le_of_ble_eq_true rfl) (k_X12_mostOf (ev := ev) c1 c6) ?_
        obtain ⟨h59, K60, f61, y62⟩ := (k_X12_takeNumber (ev := ev) (xg := xg) (xc := xc) (xw := xw) (b := b) (t := t) (n := n) (tx := tx) (rq := (e, rq.2.1, q_wv tx s (e - s), e, rq.2.2.2.2.1, rq.2.2.2.2.2.1, rq.2.2.2.2.2.2 ||| 2 ^ c)) (lo := (q_lo1 c)) (hi := (q_mo c)) HX X54 hn htx he1.2 (by omega) (by omega))
        refine mv_cV2 (ci := 12) dX12_takeClause_92 lk_X12_takeClause_193 HX rfl (Nat.le_of_ble_eq_true rfl) (Nat.le_of_ble_eq_true rfl) K60 ?_
        have HX : h59[52]? = some (.inr (12, [.ref 53, .ref 54, .int (nI n), .int ((q_tn n tx (q_lo1 c) (q_mo c) e rq.2.1 rq.2.2.2.2.1).2.2.1), .int (nI (q_tn n tx (q_lo1 c) (q_mo c) e rq.2.1 rq.2.2.2.2.1).2.1), .long (lN (q_wv tx s (e - s))), .int (nI e), .int ((q_tn n tx (q_lo1 c) (q_mo c) e rq.2.1 rq.2.2.2.2.1).2.2.2), .ref 55, .int (nI (rq.2.2.2.2.2.2 ||| 2 ^ c)), .int (nI b.1), .ref 56, .ref 57, .ref 58, .int (nI t), .int (nI b.2.1), .ref 59, .ref 60, .ref 61, .ref 62, .int xg, .ref 63, .ref 64, .ref 65, .ref 66, .ref 67, .ref 68, .ref 69, .int xc, .ref 70, .ref 71, .ref 72, .ref 73, .ref 74, .ref 75, .int xw, .ref 76, .ref 77, .ref 78, .ref 79, .ref 80])) := y62
        have X54 := f61.get (by decide) X54
        have X55 := f61.get (by decide) X55
        have fr := fr.trans f61 (by decide)
        refine mv_topI (y := nI (q_tn n tx (q_lo1 c) (q_mo c) e rq.2.1 rq.2.2.2.2.1).1) rfl ?_
        refine mv_istore_n dX12_takeClause_95 (by decide) ?_
        refine mv_aload_n dX12_takeClause_96 rfl ?_
        refine mv_getf (ci := 12) (f := 8) dX12_takeClause_97 HX rfl (by decide) wd_1207 rfl ?_
        refine mv_iload_n dX12_takeClause_100 rfl ?_
        refine mv_aload_n dX12_takeClause_101 rfl ?_
        refine mv_getf (ci := 12) (f := 7) dX12_takeClause_102 HX rfl (by decide) wd_1206 rfl ?_
        refine mv_iastN (j := c) dX12_takeClause_105 X55 rfl (by decide) (by omega) (fun h63 e64 => ?_)
        have HX := mv_ne e64 (by decide) HX
        have X54 := mv_ne e64 (by decide) X54
        have X55 : h63[55]? = some (.inl (0, 8, .inl (upd rq.2.2.2.2.2.1 c (q_tn n tx (q_lo1 c) (q_mo c) e rq.2.1 rq.2.2.2.2.1).2.2.2))) := mv_eq e64 X55
        have fr := fr.set e64 (by decide)
        clear e64
        refine mv_iload_n dX12_takeClause_106 rfl ?_
        refine mv_if_ne (tgt := 190) dX12_takeClause_107 (by decide) (fun c107 => ?_) (fun c107 => ?_)
        · have c107 : ¬ ((q_tn n tx (q_lo1 c) (q_mo c) e rq.2.1 rq.2.2.2.2.1).1 = 0) := fun z => c107 ((nI_eq (b := 0) (by omega) (by omega)).mpr z)
          refine mv_iload_n dX12_takeClause_190 rfl ?_
          refine mv_if_le (tgt := 196) dX12_takeClause_191 (by decide) (fun z => absurd z ((fun q => c107 (by have q2 := (nI_leI (b := 0) (by omega) (by omega)).mp q; omega)))) (fun c191 => ?_)
          refine mv_iload_n dX12_takeClause_194 rfl ?_
          have e9 : q_tc n tx rq = ((q_tn n tx (q_lo1 c) (q_mo c) e rq.2.1 rq.2.2.2.2.1).1, (q_tn n tx (q_lo1 c) (q_mo c) e rq.2.1 rq.2.2.2.2.1).2.1, (q_tn n tx (q_lo1 c) (q_mo c) e rq.2.1 rq.2.2.2.2.1).2.2.1, q_wv tx s (e - s), e, (q_tn n tx (q_lo1 c) (q_mo c) e rq.2.1 rq.2.2.2.2.1).2.2.2, (upd rq.2.2.2.2.2.1 c (q_tn n tx (q_lo1 c) (q_mo c) e rq.2.1 rq.2.2.2.2.1).2.2.2), rq.2.2.2.2.2.2 ||| 2 ^ c) := e6.trans (if_neg c107)
          exact mv_iret dX12_takeClause_195 rfl rfl ⟨(by rw [e9]), fr, (by rw [e9]; exact HX), (by rw [e9]; exact X55)⟩
        · have c107 : (q_tn n tx (q_lo1 c) (q_mo c) e rq.2.1 rq.2.2.2.2.1).1 = 0 := (nI_eq (b := 0) (by omega) (by omega)).mp c107
          refine mv_iload_n dX12_takeClause_110 rfl ?_
          refine mv_iconst (v := nI 5) dX12_takeClause_111 (by decide) ?_
          refine mv_icmp_ne (tgt := 190) dX12_takeClause_112 (by decide) (fun c112 => ?_) (fun c112 => ?_)
          · have c112 : ¬ (c = 5) := fun z => c112 ((nI_eq (by omega) (by omega)).mpr z)
            refine mv_iload_n dX12_takeClause_190 rfl ?_
            refine mv_if_le (tgt := 196) dX12_takeClause_191 (by decide) (fun c191 => ?_) (fun z => absurd ((by rw [c107]; decide)) z)
            have e3 : q_tc n tx rq = q_ts n tx ((q_tn n tx (q_lo1 c) (q_mo c) e rq.2.1 rq.2.2.2.2.1).2.1, (q_tn n tx (q_lo1 c) (q_mo c) e rq.2.1 rq.2.2.2.2.1).2.2.1, q_wv tx s (e - s), e, (q_tn n tx (q_lo1 c) (q_mo c) e rq.2.1 rq.2.2.2.2.1).2.2.2, (upd rq.2.2.2.2.2.1 c (q_tn n tx (q_lo1 c) (q_mo c) e rq.2.1 rq.2.2.2.2.1).2.2.2), rq.2.2.2.2.2.2 ||| 2 ^ c) := e6.trans ((if_pos c107).trans (if_neg c112))
            refine mv_aload_n dX12_takeClause_196 rfl ?_
            obtain ⟨h65, K66, f67, y68⟩ := (k_X12_here (ev := ev) (xg := xg) (xc := xc) (xw := xw) (b := b) (t := t) (n := n) (tx := tx) (rq := ((q_tn n tx (q_lo1 c) (q_mo c) e rq.2.1 rq.2.2.2.2.1).2.1, (q_tn n tx (q_lo1 c) (q_mo c) e rq.2.1 rq.2.2.2.2.1).2.2.1, q_wv tx s (e - s), e, (q_tn n tx (q_lo1 c) (q_mo c) e rq.2.1 rq.2.2.2.2.1).2.2.2, (upd rq.2.2.2.2.2.1 c (q_tn n tx (q_lo1 c) (q_mo c) e rq.2.1 rq.2.2.2.2.1).2.2.2), rq.2.2.2.2.2.2 ||| 2 ^ c)) HX X54 hn htx (by first | exact m2.1.2 | exact m1.1.2))
            refine mv_cV0 (ci := 12) dX12_takeClause_197 lk_X12_takeClause_141 HX rfl (Nat.le_of_ble_eq_true rfl) (Nat.le_of_ble_eq_true rfl) K66 ?_
            have HX : h65[52]? = some (.inr (12, [.ref 53, .ref 54, .int (nI n), .int (q_tn n tx (q_lo1 c) (q_mo c) e rq.2.1 rq.2.2.2.2.1).2.2.1, .int (nI (q_sk n tx (n - (q_tn n tx (q_lo1 c) (q_mo c) e rq.2.1 rq.2.2.2.2.1).2.1) (q_tn n tx (q_lo1 c) (q_mo c) e rq.2.1 rq.2.2.2.2.1).2.1)), .long (lN (q_wv tx s (e - s))), .int (nI e), .int (q_tn n tx (q_lo1 c) (q_mo c) e rq.2.1 rq.2.2.2.2.1).2.2.2, .ref 55, .int (nI (rq.2.2.2.2.2.2 ||| 2 ^ c)), .int (nI b.1), .ref 56, .ref 57, .ref 58, .int (nI t), .int (nI b.2.1), .ref 59, .ref 60, .ref 61, .ref 62, .int xg, .ref 63, .ref 64, .ref 65, .ref 66, .ref 67, .ref 68, .ref 69, .int xc, .ref 70, .ref 71, .ref 72, .ref 73, .ref 74, .ref 75, .int xw, .ref 76, .ref 77, .ref 78, .ref 79, .ref 80])) := y68
            have X54 := f67.get (by decide) X54
            have X55 := f67.get (by decide) X55
            have fr := fr.trans f67 (by decide)
            refine mv_bipush (v := nI 59) dX12_takeClause_200 (by decide) ?_
            refine mv_icmp_eq (tgt := 215) dX12_takeClause_202 (by decide) (fun c202 => ?_) (fun c202 => ?_)
            · have c202 : (q_sk n tx (n - (q_tn n tx (q_lo1 c) (q_mo c) e rq.2.1 rq.2.2.2.2.1).2.1) (q_tn n tx (q_lo1 c) (q_mo c) e rq.2.1 rq.2.2.2.2.1).2.1) < n ∧ tx (q_sk n tx (n - (q_tn n tx (q_lo1 c) (q_mo c) e rq.2.1 rq.2.2.2.2.1).2.1) (q_tn n tx (q_lo1 c) (q_mo c) e rq.2.1 rq.2.2.2.2.1).2.1) = 59 := (q_by_59 htx _).mp c202
              refine mv_aload_n dX12_takeClause_215 rfl ?_
              refine mv_dup dX12_takeClause_216 rfl ?_
              refine mv_getf (ci := 12) (f := 4) dX12_takeClause_217 HX rfl (by decide) wd_1203 rfl ?_
              refine mv_iconst (v := nI 1) dX12_takeClause_220 (by decide) ?_
              refine mv_iadd dX12_takeClause_221 ?_
              refine mv_topI (y := nI ((q_sk n tx (n - (q_tn n tx (q_lo1 c) (q_mo c) e rq.2.1 rq.2.2.2.2.1).2.1) (q_tn n tx (q_lo1 c) (q_mo c) e rq.2.1 rq.2.2.2.2.1).2.1) + 1)) (nI_add _ _) ?_
              refine mv_putf (ci := 12) (f := 4) dX12_takeClause_222 HX rfl (by decide) wd_1203 rfl rfl (fun _ => ⟨rfl, rfl⟩) (Nat.le_of_ble_eq_true rfl) ?_
              refine mv_topH (fun h69 e70 => ?_)
              have HX : h69[52]? = some (.inr (12, [.ref 53, .ref 54, .int (nI n), .int (q_tn n tx (q_lo1 c) (q_mo c) e rq.2.1 rq.2.2.2.2.1).2.2.1, .int (nI ((q_sk n tx (n - (q_tn n tx (q_lo1 c) (q_mo c) e rq.2.1 rq.2.2.2.2.1).2.1) (q_tn n tx (q_lo1 c) (q_mo c) e rq.2.1 rq.2.2.2.2.1).2.1) + 1)), .long (lN (q_wv tx s (e - s))), .int (nI e), .int (q_tn n tx (q_lo1 c) (q_mo c) e rq.2.1 rq.2.2.2.2.1).2.2.2, .ref 55, .int (nI (rq.2.2.2.2.2.2 ||| 2 ^ c)), .int (nI b.1), .ref 56, .ref 57, .ref 58, .int (nI t), .int (nI b.2.1), .ref 59, .ref 60, .ref 61, .ref 62, .int xg, .ref 63, .ref 64, .ref 65, .ref 66, .ref 67, .ref 68, .ref 69, .int xc, .ref 70, .ref 71, .ref 72, .ref 73, .ref 74, .ref 75, .int xw, .ref 76, .ref 77, .ref 78, .ref 79, .ref 80])) := mv_eq e70 HX
              have X54 := mv_ne e70 (by decide) X54
              have X55 := mv_ne e70 (by decide) X55
              have fr := fr.set e70 (by decide)
              clear e70
              refine mv_iconst (v := nI 0) dX12_takeClause_225 (by decide) ?_
              have e9 : q_tc n tx rq = (0, (q_sk n tx (n - (q_tn n tx (q_lo1 c) (q_mo c) e rq.2.1 rq.2.2.2.2.1).2.1) (q_tn n tx (q_lo1 c) (q_mo c) e rq.2.1 rq.2.2.2.2.1).2.1) + 1, (q_tn n tx (q_lo1 c) (q_mo c) e rq.2.1 rq.2.2.2.2.1).2.2.1, q_wv tx s (e - s), e, (q_tn n tx (q_lo1 c) (q_mo c) e rq.2.1 rq.2.2.2.2.1).2.2.2, (upd rq.2.2.2.2.2.1 c (q_tn n tx (q_lo1 c) (q_mo c) e rq.2.1 rq.2.2.2.2.1).2.2.2), rq.2.2.2.2.2.2 ||| 2 ^ c) := e3.trans (if_pos c202)
              exact mv_iret dX12_takeClause_226 rfl rfl ⟨(by rw [e9]), fr, (by rw [e9]; exact HX), (by rw [e9]; exact X55)⟩
            · have c202 : ¬ ((q_sk n tx (n - (q_tn n tx (q_lo1 c) (q_mo c) e rq.2.1 rq.2.2.2.2.1).2.1) (q_tn n tx (q_lo1 c) (q_mo c) e rq.2.1 rq.2.2.2.2.1).2.1) < n ∧ tx (q_sk n tx (n - (q_tn n tx (q_lo1 c) (q_mo c) e rq.2.1 rq.2.2.2.2.1).2.1) (q_tn n tx (q_lo1 c) (q_mo c) e rq.2.1 rq.2.2.2.2.1).2.1) = 59) := fun q => c202 ((q_by_59 htx _).mpr q)
              refine mv_aload_n dX12_takeClause_205 rfl ?_
              refine mv_iconst (v := nI 1) dX12_takeClause_206 (by decide) ?_
              refine mv_aload_n dX12_takeClause_207 rfl ?_
              refine mv_getf (ci := 12) (f := 4) dX12_takeClause_208 HX rfl (by decide) wd_1203 rfl ?_
              obtain ⟨h71, K72, f73, y74⟩ := (k_X12_fails (ev := ev) (xg := xg) (xc := xc) (xw := xw) (b := b) (t := t) (n := n) (rq := (q_sk n tx (n - (q_tn n tx (q_lo1 c) (q_mo c) e rq.2.1 rq.2.2.2.2.1).2.1) (q_tn n tx (q_lo1 c) (q_mo c) e rq.2.1 rq.2.2.2.2.1).2.1, (q_tn n tx (q_lo1 c) (q_mo c) e rq.2.1 rq.2.2.2.2.1).2.2.1, q_wv tx s (e - s), e, (q_tn n tx (q_lo1 c) (q_mo c) e rq.2.1 rq.2.2.2.2.1).2.2.2, (upd rq.2.2.2.2.2.1 c (q_tn n tx (q_lo1 c) (q_mo c) e rq.2.1 rq.2.2.2.2.1).2.2.2), rq.2.2.2.2.2.2 ||| 2 ^ c)) (f := (nI 1)) (p := (q_sk n tx (n - (q_tn n tx (q_lo1 c) (q_mo c) e rq.2.1 rq.2.2.2.2.1).2.1) (q_tn n tx (q_lo1 c) (q_mo c) e rq.2.1 rq.2.2.2.2.1).2.1)) HX)
              refine mv_cV2 (ci := 12) dX12_takeClause_211 lk_X12_takeClause_174 HX rfl (Nat.le_of_ble_eq_true rfl) (Nat.le_of_ble_eq_true rfl) K72 ?_
              have HX : h71[52]? = some (.inr (12, [.ref 53, .ref 54, .int (nI n), .int (nI (q_sk n tx (n - (q_tn n tx (q_lo1 c) (q_mo c) e rq.2.1 rq.2.2.2.2.1).2.1) (q_tn n tx (q_lo1 c) (q_mo c) e rq.2.1 rq.2.2.2.2.1).2.1)), .int (nI (q_sk n tx (n - (q_tn n tx (q_lo1 c) (q_mo c) e rq.2.1 rq.2.2.2.2.1).2.1) (q_tn n tx (q_lo1 c) (q_mo c) e rq.2.1 rq.2.2.2.2.1).2.1)), .long (lN (q_wv tx s (e - s))), .int (nI e), .int (q_tn n tx (q_lo1 c) (q_mo c) e rq.2.1 rq.2.2.2.2.1).2.2.2, .ref 55, .int (nI (rq.2.2.2.2.2.2 ||| 2 ^ c)), .int (nI b.1), .ref 56, .ref 57, .ref 58, .int (nI t), .int (nI b.2.1), .ref 59, .ref 60, .ref 61, .ref 62, .int xg, .ref 63, .ref 64, .ref 65, .ref 66, .ref 67, .ref 68, .ref 69, .int xc, .ref 70, .ref 71, .ref 72, .ref 73, .ref 74, .ref 75, .int xw, .ref 76, .ref 77, .ref 78, .ref 79, .ref 80])) := y74
              have X54 := f73.get (by decide) X54
              have X55 := f73.get (by decide) X55
              have fr := fr.trans f73 (by decide)
              have e9 : q_tc n tx rq = (1, q_sk n tx (n - (q_tn n tx (q_lo1 c) (q_mo c) e rq.2.1 rq.2.2.2.2.1).2.1) (q_tn n tx (q_lo1 c) (q_mo c) e rq.2.1 rq.2.2.2.2.1).2.1, nI (q_sk n tx (n - (q_tn n tx (q_lo1 c) (q_mo c) e rq.2.1 rq.2.2.2.2.1).2.1) (q_tn n tx (q_lo1 c) (q_mo c) e rq.2.1 rq.2.2.2.2.1).2.1), q_wv tx s (e - s), e, (q_tn n tx (q_lo1 c) (q_mo c) e rq.2.1 rq.2.2.2.2.1).2.2.2, (upd rq.2.2.2.2.2.1 c (q_tn n tx (q_lo1 c) (q_mo c) e rq.2.1 rq.2.2.2.2.1).2.2.2), rq.2.2.2.2.2.2 ||| 2 ^ c) := e3.trans (if_neg c202)
              exact mv_iret dX12_takeClause_214 rfl rfl ⟨(by rw [e9]), fr, (by rw [e9]; exact HX), (by rw [e9]; exact X55)⟩
          · have c112 : c = 5 := (nI_eq (by omega) (by omega)).mp c112
            refine mv_aload_n dX12_takeClause_115 rfl ?_
            obtain ⟨h75, K76, f77, y78⟩ := (k_X12_readWord (ev := ev) (xg := xg) (xc := xc) (xw := xw) (b := b) (t := t) (n := n) (tx := tx) (rq := ((q_tn n tx (q_lo1 c) (q_mo c) e rq.2.1 rq.2.2.2.2.1).2.1, (q_tn n tx (q_lo1 c) (q_mo c) e rq.2.1 rq.2.2.2.2.1).2.2.1, q_wv tx s (e - s), e, (q_tn n tx (q_lo1 c) (q_mo c) e rq.2.1 rq.2.2.2.2.1).2.2.2, (upd rq.2.2.2.2.2.1 c (q_tn n tx (q_lo1 c) (q_mo c) e rq.2.1 rq.2.2.2.2.1).2.2.2), rq.2.2.2.2.2.2 ||| 2 ^ c)) HX X54 hn htx m1.1.2)
            refine mv_cV0 (ci := 12) dX12_takeClause_116 lk_X12_takeClause_183 HX rfl (Nat.le_of_ble_eq_true rfl) (Nat.le_of_ble_eq_true rfl) K76 ?_
            have HX : h75[52]? = some (.inr (12, [.ref 53, .ref 54, .int (nI n), .int (q_tn n tx (q_lo1 c) (q_mo c) e rq.2.1 rq.2.2.2.2.1).2.2.1, .int (nI (q_sk n tx (n - (q_tn n tx (q_lo1 c) (q_mo c) e rq.2.1 rq.2.2.2.2.1).2.1) (q_tn n tx (q_lo1 c) (q_mo c) e rq.2.1 rq.2.2.2.2.1).2.1)), .long (lN (q_wv tx (q_sk n tx (n - (q_tn n tx (q_lo1 c) (q_mo c) e rq.2.1 rq.2.2.2.2.1).2.1) (q_tn n tx (q_lo1 c) (q_mo c) e rq.2.1 rq.2.2.2.2.1).2.1) ((q_ew n tx (n - (q_sk n tx (n - (q_tn n tx (q_lo1 c) (q_mo c) e rq.2.1 rq.2.2.2.2.1).2.1) (q_tn n tx (q_lo1 c) (q_mo c) e rq.2.1 rq.2.2.2.2.1).2.1)) (q_sk n tx (n - (q_tn n tx (q_lo1 c) (q_mo c) e rq.2.1 rq.2.2.2.2.1).2.1) (q_tn n tx (q_lo1 c) (q_mo c) e rq.2.1 rq.2.2.2.2.1).2.1)) - (q_sk n tx (n - (q_tn n tx (q_lo1 c) (q_mo c) e rq.2.1 rq.2.2.2.2.1).2.1) (q_tn n tx (q_lo1 c) (q_mo c) e rq.2.1 rq.2.2.2.2.1).2.1)))), .int (nI (q_ew n tx (n - (q_sk n tx (n - (q_tn n tx (q_lo1 c) (q_mo c) e rq.2.1 rq.2.2.2.2.1).2.1) (q_tn n tx (q_lo1 c) (q_mo c) e rq.2.1 rq.2.2.2.2.1).2.1)) (q_sk n tx (n - (q_tn n tx (q_lo1 c) (q_mo c) e rq.2.1 rq.2.2.2.2.1).2.1) (q_tn n tx (q_lo1 c) (q_mo c) e rq.2.1 rq.2.2.2.2.1).2.1))), .int (q_tn n tx (q_lo1 c) (q_mo c) e rq.2.1 rq.2.2.2.2.1).2.2.2, .ref 55, .int (nI (rq.2.2.2.2.2.2 ||| 2 ^ c)), .int (nI b.1), .ref 56, .ref 57, .ref 58, .int (nI t), .int (nI b.2.1), .ref 59, .ref 60, .ref 61, .ref 62, .int xg, .ref 63, .ref 64, .ref 65, .ref 66, .ref 67, .ref 68, .ref 69, .int xc, .ref 70, .ref 71, .ref 72, .ref 73, .ref 74, .ref 75, .int xw, .ref 76, .ref 77, .ref 78, .ref 79, .ref 80])) := y78
            have X54 := f77.get (by decide) X54
            have X55 := f77.get (by decide) X55
            have fr := fr.trans f77 (by decide)
            obtain ⟨s2, es2⟩ : ∃ s2, s2 = (q_sk n tx (n - (q_tn n tx (q_lo1 c) (q_mo c) e rq.2.1 rq.2.2.2.2.1).2.1) (q_tn n tx (q_lo1 c) (q_mo c) e rq.2.1 rq.2.2.2.2.1).2.1) := ⟨_, rfl⟩
            obtain ⟨e2, ee2⟩ : ∃ e2, e2 = q_ew n tx (n - s2) s2 := ⟨_, rfl⟩
            have hs2 : s2 ≤ n := (by rw [es2]; exact (q_sk_in _ _ m1.1.2).2)
            have he2 : s2 ≤ e2 ∧ e2 ≤ n := (by rw [ee2]; exact q_ew_in _ _ hs2)
            rw [← es2, ← ee2] at HX
            have hl2 : ∀ j, s2 ≤ j → j < e2 → 97 ≤ tx j ∧ tx j ≤ 122 := (by rw [ee2]; exact q_ew_l _ _)
            have hwb2 := q_wv_le htx s2 (e2 - s2)
            have i9 := q_wkTo he2.1 hl2
            have e5 : q_tc n tx rq = q_tw5 n tx ((q_tn n tx (q_lo1 c) (q_mo c) e rq.2.1 rq.2.2.2.2.1).2.1, (q_tn n tx (q_lo1 c) (q_mo c) e rq.2.1 rq.2.2.2.2.1).2.2.1, q_wv tx s (e - s), e, (q_tn n tx (q_lo1 c) (q_mo c) e rq.2.1 rq.2.2.2.2.1).2.2.2, upd rq.2.2.2.2.2.1 c (q_tn n tx (q_lo1 c) (q_mo c) e rq.2.1 rq.2.2.2.2.1).2.2.2, rq.2.2.2.2.2.2 ||| 2 ^ c) s2 e2 := e6.trans ((if_pos c107).trans ((if_pos c112).trans (by rw [← es2, ← ee2])))
            refine mv_aload_n dX12_takeClause_119 rfl ?_
            refine mv_getf (ci := 12) (f := 5) dX12_takeClause_120 HX rfl (by decide) wd_1204 rfl ?_
            refine mv_ldc2 (v := lN 555) dX12_takeClause_123 wd_1393 ?_
            refine mv_lcmp dX12_takeClause_126 ?_
            refine mv_if_ne (tgt := 134) dX12_takeClause_127 (by decide) (fun c127 => ?_) (fun c127 => ?_)
            · have c127 : ¬ q_wTo tx s2 e2 := fun q => c127 ((lg_cmp_eq _ _).mpr ((lN_eqB (by omega) (by omega)).mpr (i9.mpr q)))
              refine mv_aload_n dX12_takeClause_134 rfl ?_
              refine mv_iconst (v := nI 1) dX12_takeClause_135 (by decide) ?_
              refine mv_aload_n dX12_takeClause_136 rfl ?_
              refine mv_getf (ci := 12) (f := 4) dX12_takeClause_137 HX rfl (by decide) wd_1203 rfl ?_
              obtain ⟨h79, K80, f81, y82⟩ := (k_X12_fails (ev := ev) (xg := xg) (xc := xc) (xw := xw) (b := b) (t := t) (n := n) (rq := (s2, (q_tn n tx (q_lo1 c) (q_mo c) e rq.2.1 rq.2.2.2.2.1).2.2.1, q_wv tx s2 (e2 - s2), e2, (q_tn n tx (q_lo1 c) (q_mo c) e rq.2.1 rq.2.2.2.2.1).2.2.2, (upd rq.2.2.2.2.2.1 c (q_tn n tx (q_lo1 c) (q_mo c) e rq.2.1 rq.2.2.2.2.1).2.2.2), rq.2.2.2.2.2.2 ||| 2 ^ c)) (f := (nI 1)) (p := s2) HX)
              refine mv_cV2 (ci := 12) dX12_takeClause_140 lk_X12_takeClause_174 HX rfl (Nat.le_of_ble_eq_true rfl) (Nat.le_of_ble_eq_true rfl) K80 ?_
              have HX : h79[52]? = some (.inr (12, [.ref 53, .ref 54, .int (nI n), .int (nI s2), .int (nI s2), .long (lN (q_wv tx s2 (e2 - s2))), .int (nI e2), .int (q_tn n tx (q_lo1 c) (q_mo c) e rq.2.1 rq.2.2.2.2.1).2.2.2, .ref 55, .int (nI (rq.2.2.2.2.2.2 ||| 2 ^ c)), .int (nI b.1), .ref 56, .ref 57, .ref 58, .int (nI t), .int (nI b.2.1), .ref 59, .ref 60, .ref 61, .ref 62, .int xg, .ref 63, .ref 64, .ref 65, .ref 66, .ref 67, .ref 68, .ref 69, .int xc, .ref 70, .ref 71, .ref 72, .ref 73, .ref 74, .ref 75, .int xw, .ref 76, .ref 77, .ref 78, .ref 79, .ref 80])) := y82
              have X54 := f81.get (by decide) X54
              have X55 := f81.get (by decide) X55
              have fr := fr.trans f81 (by decide)
              refine mv_istore_n dX12_takeClause_143 (by decide) ?_
              refine mv_aload_n dX12_takeClause_144 rfl ?_
              refine mv_iload_n dX12_takeClause_145 rfl ?_
              refine mv_if_le (tgt := 156) dX12_takeClause_146 (by decide) (fun z => absurd z ((by decide))) (fun c146 => ?_)
              refine mv_aload_n dX12_takeClause_149 rfl ?_
              refine mv_getf (ci := 12) (f := 4) dX12_takeClause_150 HX rfl (by decide) wd_1203 rfl ?_
              refine mv_goto (tgt := 160) dX12_takeClause_153 (by decide) ?_
              refine mv_putf (ci := 12) (f := 4) dX12_takeClause_160 HX rfl (by decide) wd_1203 rfl rfl (fun _ => ⟨rfl, rfl⟩) (Nat.le_of_ble_eq_true rfl) ?_
              refine mv_topH (fun h83 e84 => ?_)
              have HX : h83[52]? = some (.inr (12, [.ref 53, .ref 54, .int (nI n), .int (nI s2), .int (nI s2), .long (lN (q_wv tx s2 (e2 - s2))), .int (nI e2), .int (q_tn n tx (q_lo1 c) (q_mo c) e rq.2.1 rq.2.2.2.2.1).2.2.2, .ref 55, .int (nI (rq.2.2.2.2.2.2 ||| 2 ^ c)), .int (nI b.1), .ref 56, .ref 57, .ref 58, .int (nI t), .int (nI b.2.1), .ref 59, .ref 60, .ref 61, .ref 62, .int xg, .ref 63, .ref 64, .ref 65, .ref 66, .ref 67, .ref 68, .ref 69, .int xc, .ref 70, .ref 71, .ref 72, .ref 73, .ref 74, .ref 75, .int xw, .ref 76, .ref 77, .ref 78, .ref 79, .ref 80])) := mv_eq e84 HX
              have X54 := mv_ne e84 (by decide) X54
              have X55 := mv_ne e84 (by decide) X55
              have fr := fr.set e84 (by decide)
              clear e84
              refine mv_iload_n dX12_takeClause_163 rfl ?_
              refine mv_if_le (tgt := 171) dX12_takeClause_164 (by decide) (fun z => absurd z ((by decide))) (fun c164 => ?_)
              refine mv_iload_n dX12_takeClause_167 rfl ?_
              refine mv_goto (tgt := 178) dX12_takeClause_168 (by decide) ?_
              refine mv_istore_n dX12_takeClause_178 (by decide) ?_
              refine mv_aload_n dX12_takeClause_179 rfl ?_
              refine mv_getf (ci := 12) (f := 8) dX12_takeClause_180 HX rfl (by decide) wd_1207 rfl ?_
              refine mv_bipush (v := nI 6) dX12_takeClause_183 (by decide) ?_
              refine mv_aload_n dX12_takeClause_185 rfl ?_
              refine mv_getf (ci := 12) (f := 7) dX12_takeClause_186 HX rfl (by decide) wd_1206 rfl ?_
              refine mv_iastN (j := 6) dX12_takeClause_189 X55 rfl (by decide) (by omega) (fun h85 e86 => ?_)
              have HX := mv_ne e86 (by decide) HX
              have X54 := mv_ne e86 (by decide) X54
              have X55 : h85[55]? = some (.inl (0, 8, .inl (upd (upd rq.2.2.2.2.2.1 c (q_tn n tx (q_lo1 c) (q_mo c) e rq.2.1 rq.2.2.2.2.1).2.2.2) 6 (q_tn n tx (q_lo1 c) (q_mo c) e rq.2.1 rq.2.2.2.2.1).2.2.2))) := mv_eq e86 X55
              have fr := fr.set e86 (by decide)
              clear e86
              refine mv_iload_n dX12_takeClause_190 rfl ?_
              refine mv_if_le (tgt := 196) dX12_takeClause_191 (by decide) (fun z => absurd z ((by decide))) (fun c191 => ?_)
              refine mv_iload_n dX12_takeClause_194 rfl ?_
              have e9 : q_tc n tx rq = (1, s2, nI s2, q_wv tx s2 (e2 - s2), e2, (q_tn n tx (q_lo1 c) (q_mo c) e rq.2.1 rq.2.2.2.2.1).2.2.2, (upd (upd rq.2.2.2.2.2.1 c (q_tn n tx (q_lo1 c) (q_mo c) e rq.2.1 rq.2.2.2.2.1).2.2.2) 6 (q_tn n tx (q_lo1 c) (q_mo c) e rq.2.1 rq.2.2.2.2.1).2.2.2), rq.2.2.2.2.2.2 ||| 2 ^ c) := e5.trans (if_neg c127)
              exact mv_iret dX12_takeClause_195 rfl rfl ⟨(by rw [e9]), fr, (by rw [e9]; exact HX), (by rw [e9]; exact X55)⟩
            · have c127 : q_wTo tx s2 e2 := i9.mp ((lN_eqB (by omega) (by omega)).mp ((lg_cmp_eq _ _).mp c127))
              refine mv_iconst (v := nI 0) dX12_takeClause_130 (by decide) ?_
              refine mv_goto (tgt := 143) dX12_takeClause_131 (by decide) ?_
              refine mv_istore_n dX12_takeClause_143 (by decide) ?_
              refine mv_aload_n dX12_takeClause_144 rfl ?_
              refine mv_iload_n dX12_takeClause_145 rfl ?_
              refine mv_if_le (tgt := 156) dX12_takeClause_146 (by decide) (fun c146 => ?_) (fun z => absurd ((by decide)) z)
              refine mv_aload_n dX12_takeClause_156 rfl ?_
              refine mv_getf (ci := 12) (f := 6) dX12_takeClause_157 HX rfl (by decide) wd_1205 rfl ?_
              refine mv_putf (ci := 12) (f := 4) dX12_takeClause_160 HX rfl (by decide) wd_1203 rfl rfl (fun _ => ⟨rfl, rfl⟩) (Nat.le_of_ble_eq_true rfl) ?_
              refine mv_topH (fun h87 e88 => ?_)
              have HX : h87[52]? = some (.inr (12, [.ref 53, .ref 54, .int (nI n), .int (q_tn n tx (q_lo1 c) (q_mo c) e rq.2.1 rq.2.2.2.2.1).2.2.1, .int (nI e2), .long (lN (q_wv tx s2 (e2 - s2))), .int (nI e2), .int (q_tn n tx (q_lo1 c) (q_mo c) e rq.2.1 rq.2.2.2.2.1).2.2.2, .ref 55, .int (nI (rq.2.2.2.2.2.2 ||| 2 ^ c)), .int (nI b.1), .ref 56, .ref 57, .ref 58, .int (nI t), .int (nI b.2.1), .ref 59, .ref 60, .ref 61, .ref 62, .int xg, .ref 63, .ref 64, .ref 65, .ref 66, .ref 67, .ref 68, .ref 69, .int xc, .ref 70, .ref 71, .ref 72, .ref 73, .ref 74, .ref 75, .int xw, .ref 76, .ref 77, .ref 78, .ref 79, .ref 80])) := mv_eq e88 HX
              have X54 := mv_ne e88 (by decide) X54
              have X55 := mv_ne e88 (by decide) X55
              have fr := fr.set e88 (by decide)
              clear e88
              refine mv_iload_n dX12_takeClause_163 rfl ?_
              refine mv_if_le (tgt := 171) dX12_takeClause_164 (by decide) (fun c164 => ?_) (fun z => absurd ((by decide)) z)
              have m2 := q_tn_ok (n := n) (tx := tx) (lo := 0) (hi := 27) (a := e2) (fp := (q_tn n tx (q_lo1 c) (q_mo c) e rq.2.1 rq.2.2.2.2.1).2.2.1) (nu := (q_tn n tx (q_lo1 c) (q_mo c) e rq.2.1 rq.2.2.2.2.1).2.2.2) he2.2
              have e4 : q_tc n tx rq = q_tm n tx (e2, ((q_tn n tx (q_lo1 c) (q_mo c) e rq.2.1 rq.2.2.2.2.1).2.1, (q_tn n tx (q_lo1 c) (q_mo c) e rq.2.1 rq.2.2.2.2.1).2.2.1, q_wv tx s (e - s), e, (q_tn n tx (q_lo1 c) (q_mo c) e rq.2.1 rq.2.2.2.2.1).2.2.2, upd rq.2.2.2.2.2.1 c (q_tn n tx (q_lo1 c) (q_mo c) e rq.2.1 rq.2.2.2.2.1).2.2.2, rq.2.2.2.2.2.2 ||| 2 ^ c).2.1, q_wv tx s2 (e2 - s2), e2, ((q_tn n tx (q_lo1 c) (q_mo c) e rq.2.1 rq.2.2.2.2.1).2.1, (q_tn n tx (q_lo1 c) (q_mo c) e rq.2.1 rq.2.2.2.2.1).2.2.1, q_wv tx s (e - s), e, (q_tn n tx (q_lo1 c) (q_mo c) e rq.2.1 rq.2.2.2.2.1).2.2.2, upd rq.2.2.2.2.2.1 c (q_tn n tx (q_lo1 c) (q_mo c) e rq.2.1 rq.2.2.2.2.1).2.2.2, rq.2.2.2.2.2.2 ||| 2 ^ c).2.2.2.2) (q_tn n tx 0 27 e2 (q_tn n tx (q_lo1 c) (q_mo c) e rq.2.1 rq.2.2.2.2.1).2.2.1 (q_tn n tx (q_lo1 c) (q_mo c) e rq.2.1 rq.2.2.2.2.1).2.2.2) := e5.trans (if_pos c127)
              refine mv_aload_n dX12_takeClause_171 rfl ?_
              refine mv_iconst (v := nI 0) dX12_takeClause_172 (by decide) ?_
              refine mv_bipush (v := nI 27) dX12_takeClause_173 (by decide) ?_
              obtain ⟨h89, K90, f91, y92⟩ := (k_X12_takeNumber (ev := ev) (xg := xg) (xc := xc) (xw := xw) (b := b) (t := t) (n := n) (tx := tx) (rq := (e2, (q_tn n tx (q_lo1 c) (q_mo c) e rq.2.1 rq.2.2.2.2.1).2.2.1, q_wv tx s2 (e2 - s2), e2, (q_tn n tx (q_lo1 c) (q_mo c) e rq.2.1 rq.2.2.2.2.1).2.2.2, (upd rq.2.2.2.2.2.1 c (q_tn n tx (q_lo1 c) (q_mo c) e rq.2.1 rq.2.2.2.2.1).2.2.2), rq.2.2.2.2.2.2 ||| 2 ^ c)) (lo := 0) (hi := 27) HX X54 hn htx he2.2 (by decide) (by decide))
              refine mv_cV2 (ci := 12) dX12_takeClause_175 lk_X12_takeClause_193 HX rfl (Nat.le_of_ble_eq_true rfl) (Nat.le_of_ble_eq_true rfl) K90 ?_
              have HX : h89[52]? = some (.inr (12, [.ref 53, .ref 54, .int (nI n), .int ((q_tn n tx 0 27 e2 (q_tn n tx (q_lo1 c) (q_mo c) e rq.2.1 rq.2.2.2.2.1).2.2.1 (q_tn n tx (q_lo1 c) (q_mo c) e rq.2.1 rq.2.2.2.2.1).2.2.2).2.2.1), .int (nI (q_tn n tx 0 27 e2 (q_tn n tx (q_lo1 c) (q_mo c) e rq.2.1 rq.2.2.2.2.1).2.2.1 (q_tn n tx (q_lo1 c) (q_mo c) e rq.2.1 rq.2.2.2.2.1).2.2.2).2.1), .long (lN (q_wv tx s2 (e2 - s2))), .int (nI e2), .int ((q_tn n tx 0 27 e2 (q_tn n tx (q_lo1 c) (q_mo c) e rq.2.1 rq.2.2.2.2.1).2.2.1 (q_tn n tx (q_lo1 c) (q_mo c) e rq.2.1 rq.2.2.2.2.1).2.2.2).2.2.2), .ref 55, .int (nI (rq.2.2.2.2.2.2 ||| 2 ^ c)), .int (nI b.1), .ref 56, .ref 57, .ref 58, .int (nI t), .int (nI b.2.1), .ref 59, .ref 60, .ref 61, .ref 62, .int xg, .ref 63, .ref 64, .ref 65, .ref 66, .ref 67, .ref 68, .ref 69, .int xc, .ref 70, .ref 71, .ref 72, .ref 73, .ref 74, .ref 75, .int xw, .ref 76, .ref 77, .ref 78, .ref 79, .ref 80])) := y92
              have X54 := f91.get (by decide) X54
              have X55 := f91.get (by decide) X55
              have fr := fr.trans f91 (by decide)
              refine mv_topI (y := nI (q_tn n tx 0 27 e2 (q_tn n tx (q_lo1 c) (q_mo c) e rq.2.1 rq.2.2.2.2.1).2.2.1 (q_tn n tx (q_lo1 c) (q_mo c) e rq.2.1 rq.2.2.2.2.1).2.2.2).1) rfl ?_
              refine mv_istore_n dX12_takeClause_178 (by decide) ?_
              refine mv_aload_n dX12_takeClause_179 rfl ?_
              refine mv_getf (ci := 12) (f := 8) dX12_takeClause_180 HX rfl (by decide) wd_1207 rfl ?_
              refine mv_bipush (v := nI 6) dX12_takeClause_183 (by decide) ?_
              refine mv_aload_n dX12_takeClause_185 rfl ?_
              refine mv_getf (ci := 12) (f := 7) dX12_takeClause_186 HX rfl (by decide) wd_1206 rfl ?_
              refine mv_iastN (j := 6) dX12_takeClause_189 X55 rfl (by decide) (by omega) (fun h93 e94 => ?_)
              have HX := mv_ne e94 (by decide) HX
              have X54 := mv_ne e94 (by decide) X54
              have X55 : h93[55]? = some (.inl (0, 8, .inl (upd (upd rq.2.2.2.2.2.1 c (q_tn n tx (q_lo1 c) (q_mo c) e rq.2.1 rq.2.2.2.2.1).2.2.2) 6 (q_tn n tx 0 27 e2 (q_tn n tx (q_lo1 c) (q_mo c) e rq.2.1 rq.2.2.2.2.1).2.2.1 (q_tn n tx (q_lo1 c) (q_mo c) e rq.2.1 rq.2.2.2.2.1).2.2.2).2.2.2))) := mv_eq e94 X55
              have fr := fr.set e94 (by decide)
              clear e94
              refine mv_iload_n dX12_takeClause_190 rfl ?_
              refine mv_if_le (tgt := 196) dX12_takeClause_191 (by decide) (fun c191 => ?_) (fun c191 => ?_)
              · have c191 : (q_tn n tx 0 27 e2 (q_tn n tx (q_lo1 c) (q_mo c) e rq.2.1 rq.2.2.2.2.1).2.2.1 (q_tn n tx (q_lo1 c) (q_mo c) e rq.2.1 rq.2.2.2.2.1).2.2.2).1 = 0 := (by have q := (nI_leI (b := 0) (by omega) (by omega)).mp c191; omega)
                have e3 : q_tc n tx rq = q_ts n tx ((q_tn n tx 0 27 e2 (q_tn n tx (q_lo1 c) (q_mo c) e rq.2.1 rq.2.2.2.2.1).2.2.1 (q_tn n tx (q_lo1 c) (q_mo c) e rq.2.1 rq.2.2.2.2.1).2.2.2).2.1, (q_tn n tx 0 27 e2 (q_tn n tx (q_lo1 c) (q_mo c) e rq.2.1 rq.2.2.2.2.1).2.2.1 (q_tn n tx (q_lo1 c) (q_mo c) e rq.2.1 rq.2.2.2.2.1).2.2.2).2.2.1, q_wv tx s2 (e2 - s2), e2, (q_tn n tx 0 27 e2 (q_tn n tx (q_lo1 c) (q_mo c) e rq.2.1 rq.2.2.2.2.1).2.2.1 (q_tn n tx (q_lo1 c) (q_mo c) e rq.2.1 rq.2.2.2.2.1).2.2.2).2.2.2, (upd (upd rq.2.2.2.2.2.1 c (q_tn n tx (q_lo1 c) (q_mo c) e rq.2.1 rq.2.2.2.2.1).2.2.2) 6 (q_tn n tx 0 27 e2 (q_tn n tx (q_lo1 c) (q_mo c) e rq.2.1 rq.2.2.2.2.1).2.2.1 (q_tn n tx (q_lo1 c) (q_mo c) e rq.2.1 rq.2.2.2.2.1).2.2.2).2.2.2), rq.2.2.2.2.2.2 ||| 2 ^ c) := e4.trans (if_pos c191)
                refine mv_aload_n dX12_takeClause_196 rfl ?_
                obtain ⟨h95, K96, f97, y98⟩ := (k_X12_here (ev := ev) (xg := xg) (xc := xc) (xw := xw) (b := b) (t := t) (n := n) (tx := tx) (rq := ((q_tn n tx 0 27 e2 (q_tn n tx (q_lo1 c) (q_mo c) e rq.2.1 rq.2.2.2.2.1).2.2.1 (q_tn n tx (q_lo1 c) (q_mo c) e rq.2.1 rq.2.2.2.2.1).2.2.2).2.1, (q_tn n tx 0 27 e2 (q_tn n tx (q_lo1 c) (q_mo c) e rq.2.1 rq.2.2.2.2.1).2.2.1 (q_tn n tx (q_lo1 c) (q_mo c) e rq.2.1 rq.2.2.2.2.1).2.2.2).2.2.1, q_wv tx s2 (e2 - s2), e2, (q_tn n tx 0 27 e2 (q_tn n tx (q_lo1 c) (q_mo c) e rq.2.1 rq.2.2.2.2.1).2.2.1 (q_tn n tx (q_lo1 c) (q_mo c) e rq.2.1 rq.2.2.2.2.1).2.2.2).2.2.2, (upd (upd rq.2.2.2.2.2.1 c (q_tn n tx (q_lo1 c) (q_mo c) e rq.2.1 rq.2.2.2.2.1).2.2.2) 6 (q_tn n tx 0 27 e2 (q_tn n tx (q_lo1 c) (q_mo c) e rq.2.1 rq.2.2.2.2.1).2.2.1 (q_tn n tx (q_lo1 c) (q_mo c) e rq.2.1 rq.2.2.2.2.1).2.2.2).2.2.2), rq.2.2.2.2.2.2 ||| 2 ^ c)) HX X54 hn htx (by first | exact m2.1.2 | exact m1.1.2))
                refine mv_cV0 (ci := 12) dX12_takeClause_197 lk_X12_takeClause_141 HX rfl (Nat.le_of_ble_eq_true rfl) (Nat.le_of_ble_eq_true rfl) K96 ?_
                have HX : h95[52]? = some (.inr (12, [.ref 53, .ref 54, .int (nI n), .int (q_tn n tx 0 27 e2 (q_tn n tx (q_lo1 c) (q_mo c) e rq.2.1 rq.2.2.2.2.1).2.2.1 (q_tn n tx (q_lo1 c) (q_mo c) e rq.2.1 rq.2.2.2.2.1).2.2.2).2.2.1, .int (nI (q_sk n tx (n - (q_tn n tx 0 27 e2 (q_tn n tx (q_lo1 c) (q_mo c) e rq.2.1 rq.2.2.2.2.1).2.2.1 (q_tn n tx (q_lo1 c) (q_mo c) e rq.2.1 rq.2.2.2.2.1).2.2.2).2.1) (q_tn n tx 0 27 e2 (q_tn n tx (q_lo1 c) (q_mo c) e rq.2.1 rq.2.2.2.2.1).2.2.1 (q_tn n tx (q_lo1 c) (q_mo c) e rq.2.1 rq.2.2.2.2.1).2.2.2).2.1)), .long (lN (q_wv tx s2 (e2 - s2))), .int (nI e2), .int (q_tn n tx 0 27 e2 (q_tn n tx (q_lo1 c) (q_mo c) e rq.2.1 rq.2.2.2.2.1).2.2.1 (q_tn n tx (q_lo1 c) (q_mo c) e rq.2.1 rq.2.2.2.2.1).2.2.2).2.2.2, .ref 55, .int (nI (rq.2.2.2.2.2.2 ||| 2 ^ c)), .int (nI b.1), .ref 56, .ref 57, .ref 58, .int (nI t), .int (nI b.2.1), .ref 59, .ref 60, .ref 61, .ref 62, .int xg, .ref 63, .ref 64, .ref 65, .ref 66, .ref 67, .ref 68, .ref 69, .int xc, .ref 70, .ref 71, .ref 72, .ref 73, .ref 74, .ref 75, .int xw, .ref 76, .ref 77, .ref 78, .ref 79, .ref 80])) := y98
                have X54 := f97.get (by decide) X54
                have X55 := f97.get (by decide) X55
                have fr := fr.trans f97 (by decide)
                refine mv_bipush (v := nI 59) dX12_takeClause_200 (by decide) ?_
                refine mv_icmp_eq (tgt := 215) dX12_takeClause_202 (by decide) (fun c202 => ?_) (fun c202 => ?_)
                · have c202 : (q_sk n tx (n - (q_tn n tx 0 27 e2 (q_tn n tx (q_lo1 c) (q_mo c) e rq.2.1 rq.2.2.2.2.1).2.2.1 (q_tn n tx (q_lo1 c) (q_mo c) e rq.2.1 rq.2.2.2.2.1).2.2.2).2.1) (q_tn n tx 0 27 e2 (q_tn n tx (q_lo1 c) (q_mo c) e rq.2.1 rq.2.2.2.2.1).2.2.1 (q_tn n tx (q_lo1 c) (q_mo c) e rq.2.1 rq.2.2.2.2.1).2.2.2).2.1) < n ∧ tx (q_sk n tx (n - (q_tn n tx 0 27 e2 (q_tn n tx (q_lo1 c) (q_mo c) e rq.2.1 rq.2.2.2.2.1).2.2.1 (q_tn n tx (q_lo1 c) (q_mo c) e rq.2.1 rq.2.2.2.2.1).2.2.2).2.1) (q_tn n tx 0 27 e2 (q_tn n tx (q_lo1 c) (q_mo c) e rq.2.1 rq.2.2.2.2.1).2.2.1 (q_tn n tx (q_lo1 c) (q_mo c) e rq.2.1 rq.2.2.2.2.1).2.2.2).2.1) = 59 := (q_by_59 htx _).mp c202
                  refine mv_aload_n dX12_takeClause_215 rfl ?_
                  refine mv_dup dX12_takeClause_216 rfl ?_
                  refine mv_getf (ci := 12) (f := 4) dX12_takeClause_217 HX rfl (by decide) wd_1203 rfl ?_
                  refine mv_iconst (v := nI 1) dX12_takeClause_220 (by decide) ?_
                  refine mv_iadd dX12_takeClause_221 ?_
                  refine mv_topI (y := nI ((q_sk n tx (n - (q_tn n tx 0 27 e2 (q_tn n tx (q_lo1 c) (q_mo c) e rq.2.1 rq.2.2.2.2.1).2.2.1 (q_tn n tx (q_lo1 c) (q_mo c) e rq.2.1 rq.2.2.2.2.1).2.2.2).2.1) (q_tn n tx 0 27 e2 (q_tn n tx (q_lo1 c) (q_mo c) e rq.2.1 rq.2.2.2.2.1).2.2.1 (q_tn n tx (q_lo1 c) (q_mo c) e rq.2.1 rq.2.2.2.2.1).2.2.2).2.1) + 1)) (nI_add _ _) ?_
                  refine mv_putf (ci := 12) (f := 4) dX12_takeClause_222 HX rfl (by decide) wd_1203 rfl rfl (fun _ => ⟨rfl, rfl⟩) (Nat.le_of_ble_eq_true rfl) ?_
                  refine mv_topH (fun h99 e100 => ?_)
                  have HX : h99[52]? = some (.inr (12, [.ref 53, .ref 54, .int (nI n), .int (q_tn n tx 0 27 e2 (q_tn n tx (q_lo1 c) (q_mo c) e rq.2.1 rq.2.2.2.2.1).2.2.1 (q_tn n tx (q_lo1 c) (q_mo c) e rq.2.1 rq.2.2.2.2.1).2.2.2).2.2.1, .int (nI ((q_sk n tx (n - (q_tn n tx 0 27 e2 (q_tn n tx (q_lo1 c) (q_mo c) e rq.2.1 rq.2.2.2.2.1).2.2.1 (q_tn n tx (q_lo1 c) (q_mo c) e rq.2.1 rq.2.2.2.2.1).2.2.2).2.1) (q_tn n tx 0 27 e2 (q_tn n tx (q_lo1 c) (q_mo c) e rq.2.1 rq.2.2.2.2.1).2.2.1 (q_tn n tx (q_lo1 c) (q_mo c) e rq.2.1 rq.2.2.2.2.1).2.2.2).2.1) + 1)), .long (lN (q_wv tx s2 (e2 - s2))), .int (nI e2), .int (q_tn n tx 0 27 e2 (q_tn n tx (q_lo1 c) (q_mo c) e rq.2.1 rq.2.2.2.2.1).2.2.1 (q_tn n tx (q_lo1 c) (q_mo c) e rq.2.1 rq.2.2.2.2.1).2.2.2).2.2.2, .ref 55, .int (nI (rq.2.2.2.2.2.2 ||| 2 ^ c)), .int (nI b.1), .ref 56, .ref 57, .ref 58, .int (nI t), .int (nI b.2.1), .ref 59, .ref 60, .ref 61, .ref 62, .int xg, .ref 63, .ref 64, .ref 65, .ref 66, .ref 67, .ref 68, .ref 69, .int xc, .ref 70, .ref 71, .ref 72, .ref 73, .ref 74, .ref 75, .int xw, .ref 76, .ref 77, .ref 78, .ref 79, .ref 80])) := mv_eq e100 HX
                  have X54 := mv_ne e100 (by decide) X54
                  have X55 := mv_ne e100 (by decide) X55
                  have fr := fr.set e100 (by decide)
                  clear e100
                  refine mv_iconst (v := nI 0) dX12_takeClause_225 (by decide) ?_
                  have e9 : q_tc n tx rq = (0, (q_sk n tx (n - (q_tn n tx 0 27 e2 (q_tn n tx (q_lo1 c) (q_mo c) e rq.2.1 rq.2.2.2.2.1).2.2.1 (q_tn n tx (q_lo1 c) (q_mo c) e rq.2.1 rq.2.2.2.2.1).2.2.2).2.1) (q_tn n tx 0 27 e2 (q_tn n tx (q_lo1 c) (q_mo c) e rq.2.1 rq.2.2.2.2.1).2.2.1 (q_tn n tx (q_lo1 c) (q_mo c) e rq.2.1 rq.2.2.2.2.1).2.2.2).2.1) + 1, (q_tn n tx 0 27 e2 (q_tn n tx (q_lo1 c) (q_mo c) e rq.2.1 rq.2.2.2.2.1).2.2.1 (q_tn n tx (q_lo1 c) (q_mo c) e rq.2.1 rq.2.2.2.2.1).2.2.2).2.2.1, q_wv tx s2 (e2 - s2), e2, (q_tn n tx 0 27 e2 (q_tn n tx (q_lo1 c) (q_mo c) e rq.2.1 rq.2.2.2.2.1).2.2.1 (q_tn n tx (q_lo1 c) (q_mo c) e rq.2.1 rq.2.2.2.2.1).2.2.2).2.2.2, (upd (upd rq.2.2.2.2.2.1 c (q_tn n tx (q_lo1 c) (q_mo c) e rq.2.1 rq.2.2.2.2.1).2.2.2) 6 (q_tn n tx 0 27 e2 (q_tn n tx (q_lo1 c) (q_mo c) e rq.2.1 rq.2.2.2.2.1).2.2.1 (q_tn n tx (q_lo1 c) (q_mo c) e rq.2.1 rq.2.2.2.2.1).2.2.2).2.2.2), rq.2.2.2.2.2.2 ||| 2 ^ c) := e3.trans (if_pos c202)
                  exact mv_iret dX12_takeClause_226 rfl rfl ⟨(by rw [e9]), fr, (by rw [e9]; exact HX), (by rw [e9]; exact X55)⟩
                · have c202 : ¬ ((q_sk n tx (n - (q_tn n tx 0 27 e2 (q_tn n tx (q_lo1 c) (q_mo c) e rq.2.1 rq.2.2.2.2.1).2.2.1 (q_tn n tx (q_lo1 c) (q_mo c) e rq.2.1 rq.2.2.2.2.1).2.2.2).2.1) (q_tn n tx 0 27 e2 (q_tn n tx (q_lo1 c) (q_mo c) e rq.2.1 rq.2.2.2.2.1).2.2.1 (q_tn n tx (q_lo1 c) (q_mo c) e rq.2.1 rq.2.2.2.2.1).2.2.2).2.1) < n ∧ tx (q_sk n tx (n - (q_tn n tx 0 27 e2 (q_tn n tx (q_lo1 c) (q_mo c) e rq.2.1 rq.2.2.2.2.1).2.2.1 (q_tn n tx (q_lo1 c) (q_mo c) e rq.2.1 rq.2.2.2.2.1).2.2.2).2.1) (q_tn n tx 0 27 e2 (q_tn n tx (q_lo1 c) (q_mo c) e rq.2.1 rq.2.2.2.2.1).2.2.1 (q_tn n tx (q_lo1 c) (q_mo c) e rq.2.1 rq.2.2.2.2.1).2.2.2).2.1) = 59) := fun q => c202 ((q_by_59 htx _).mpr q)
                  refine mv_aload_n dX12_takeClause_205 rfl ?_
                  refine mv_iconst (v := nI 1) dX12_takeClause_206 (by decide) ?_
                  refine mv_aload_n dX12_takeClause_207 rfl ?_
                  refine mv_getf (ci := 12) (f := 4) dX12_takeClause_208 HX rfl (by decide) wd_1203 rfl ?_
                  obtain ⟨h101, K102, f103, y104⟩ := (k_X12_fails (ev := ev) (xg := xg) (xc := xc) (xw := xw) (b := b) (t := t) (n := n) (rq := (q_sk n tx (n - (q_tn n tx 0 27 e2 (q_tn n tx (q_lo1 c) (q_mo c) e rq.2.1 rq.2.2.2.2.1).2.2.1 (q_tn n tx (q_lo1 c) (q_mo c) e rq.2.1 rq.2.2.2.2.1).2.2.2).2.1) (q_tn n tx 0 27 e2 (q_tn n tx (q_lo1 c) (q_mo c) e rq.2.1 rq.2.2.2.2.1).2.2.1 (q_tn n tx (q_lo1 c) (q_mo c) e rq.2.1 rq.2.2.2.2.1).2.2.2).2.1, (q_tn n tx 0 27 e2 (q_tn n tx (q_lo1 c) (q_mo c) e rq.2.1 rq.2.2.2.2.1).2.2.1 (q_tn n tx (q_lo1 c) (q_mo c) e rq.2.1 rq.2.2.2.2.1).2.2.2).2.2.1, q_wv tx s2 (e2 - s2), e2, (q_tn n tx 0 27 e2 (q_tn n tx (q_lo1 c) (q_mo c) e rq.2.1 rq.2.2.2.2.1).2.2.1 (q_tn n tx (q_lo1 c) (q_mo c) e rq.2.1 rq.2.2.2.2.1).2.2.2).2.2.2, (upd (upd rq.2.2.2.2.2.1 c (q_tn n tx (q_lo1 c) (q_mo c) e rq.2.1 rq.2.2.2.2.1).2.2.2) 6 (q_tn n tx 0 27 e2 (q_tn n tx (q_lo1 c) (q_mo c) e rq.2.1 rq.2.2.2.2.1).2.2.1 (q_tn n tx (q_lo1 c) (q_mo c) e rq.2.1 rq.2.2.2.2.1).2.2.2).2.2.2), rq.2.2.2.2.2.2 ||| 2 ^ c)) (f := (nI 1)) (p := (q_sk n tx (n - (q_tn n tx 0 27 e2 (q_tn n tx (q_lo1 c) (q_mo c) e rq.2.1 rq.2.2.2.2.1).2.2.1 (q_tn n tx (q_lo1 c) (q_mo c) e rq.2.1 rq.2.2.2.2.1).2.2.2).2.1) (q_tn n tx 0 27 e2 (q_tn n tx (q_lo1 c) (q_mo c) e rq.2.1 rq.2.2.2.2.1).2.2.1 (q_tn n tx (q_lo1 c) (q_mo c) e rq.2.1 rq.2.2.2.2.1).2.2.2).2.1)) HX)
                  refine mv_cV2 (ci := 12) dX12_takeClause_211 lk_X12_takeClause_174 HX rfl (Nat.le_of_ble_eq_true rfl) (Nat.le_of_ble_eq_true rfl) K102 ?_
                  have HX : h101[52]? = some (.inr (12, [.ref 53, .ref 54, .int (nI n), .int (nI (q_sk n tx (n - (q_tn n tx 0 27 e2 (q_tn n tx (q_lo1 c) (q_mo c) e rq.2.1 rq.2.2.2.2.1).2.2.1 (q_tn n tx (q_lo1 c) (q_mo c) e rq.2.1 rq.2.2.2.2.1).2.2.2).2.1) (q_tn n tx 0 27 e2 (q_tn n tx (q_lo1 c) (q_mo c) e rq.2.1 rq.2.2.2.2.1).2.2.1 (q_tn n tx (q_lo1 c) (q_mo c) e rq.2.1 rq.2.2.2.2.1).2.2.2).2.1)), .int (nI (q_sk n tx (n - (q_tn n tx 0 27 e2 (q_tn n tx (q_lo1 c) (q_mo c) e rq.2.1 rq.2.2.2.2.1).2.2.1 (q_tn n tx (q_lo1 c) (q_mo c) e rq.2.1 rq.2.2.2.2.1).2.2.2).2.1) (q_tn n tx 0 27 e2 (q_tn n tx (q_lo1 c) (q_mo c) e rq.2.1 rq.2.2.2.2.1).2.2.1 (q_tn n tx (q_lo1 c) (q_mo c) e rq.2.1 rq.2.2.2.2.1).2.2.2).2.1)), .long (lN (q_wv tx s2 (e2 - s2))), .int (nI e2), .int (q_tn n tx 0 27 e2 (q_tn n tx (q_lo1 c) (q_mo c) e rq.2.1 rq.2.2.2.2.1).2.2.1 (q_tn n tx (q_lo1 c) (q_mo c) e rq.2.1 rq.2.2.2.2.1).2.2.2).2.2.2, .ref 55, .int (nI (rq.2.2.2.2.2.2 ||| 2 ^ c)), .int (nI b.1), .ref 56, .ref 57, .ref 58, .int (nI t), .int (nI b.2.1), .ref 59, .ref 60, .ref 61, .ref 62, .int xg, .ref 63, .ref 64, .ref 65, .ref 66, .ref 67, .ref 68, .ref 69, .int xc, .ref 70, .ref 71, .ref 72, .ref 73, .ref 74, .ref 75, .int xw, .ref 76, .ref 77, .ref 78, .ref 79, .ref 80])) := y104
                  have X54 := f103.get (by decide) X54
                  have X55 := f103.get (by decide) X55
                  have fr := fr.trans f103 (by decide)
                  have e9 : q_tc n tx rq = (1, q_sk n tx (n - (q_tn n tx 0 27 e2 (q_tn n tx (q_lo1 c) (q_mo c) e rq.2.1 rq.2.2.2.2.1).2.2.1 (q_tn n tx (q_lo1 c) (q_mo c) e rq.2.1 rq.2.2.2.2.1).2.2.2).2.1) (q_tn n tx 0 27 e2 (q_tn n tx (q_lo1 c) (q_mo c) e rq.2.1 rq.2.2.2.2.1).2.2.1 (q_tn n tx (q_lo1 c) (q_mo c) e rq.2.1 rq.2.2.2.2.1).2.2.2).2.1, nI (q_sk n tx (n - (q_tn n tx 0 27 e2 (q_tn n tx (q_lo1 c) (q_mo c) e rq.2.1 rq.2.2.2.2.1).2.2.1 (q_tn n tx (q_lo1 c) (q_mo c) e rq.2.1 rq.2.2.2.2.1).2.2.2).2.1) (q_tn n tx 0 27 e2 (q_tn n tx (q_lo1 c) (q_mo c) e rq.2.1 rq.2.2.2.2.1).2.2.1 (q_tn n tx (q_lo1 c) (q_mo c) e rq.2.1 rq.2.2.2.2.1).2.2.2).2.1), q_wv tx s2 (e2 - s2), e2, (q_tn n tx 0 27 e2 (q_tn n tx (q_lo1 c) (q_mo c) e rq.2.1 rq.2.2.2.2.1).2.2.1 (q_tn n tx (q_lo1 c) (q_mo c) e rq.2.1 rq.2.2.2.2.1).2.2.2).2.2.2, (upd (upd rq.2.2.2.2.2.1 c (q_tn n tx (q_lo1 c) (q_mo c) e rq.2.1 rq.2.2.2.2.1).2.2.2) 6 (q_tn n tx 0 27 e2 (q_tn n tx (q_lo1 c) (q_mo c) e rq.2.1 rq.2.2.2.2.1).2.2.1 (q_tn n tx (q_lo1 c) (q_mo c) e rq.2.1 rq.2.2.2.2.1).2.2.2).2.2.2), rq.2.2.2.2.2.2 ||| 2 ^ c) := e3.trans (if_neg c202)
                  exact mv_iret dX12_takeClause_214 rfl rfl ⟨(by rw [e9]), fr, (by rw [e9]; exact HX), (by rw [e9]; exact X55)⟩
              · have c191 : ¬ (q_tn n tx 0 27 e2 (q_tn n tx (q_lo1 c) (q_mo c) e rq.2.1 rq.2.2.2.2.1).2.2.1 (q_tn n tx (q_lo1 c) (q_mo c) e rq.2.1 rq.2.2.2.2.1).2.2.2).1 = 0 := fun q => c191 (by rw [q]; decide)
                refine mv_iload_n dX12_takeClause_194 rfl ?_
                have e9 : q_tc n tx rq = ((q_tn n tx 0 27 e2 (q_tn n tx (q_lo1 c) (q_mo c) e rq.2.1 rq.2.2.2.2.1).2.2.1 (q_tn n tx (q_lo1 c) (q_mo c) e rq.2.1 rq.2.2.2.2.1).2.2.2).1, (q_tn n tx 0 27 e2 (q_tn n tx (q_lo1 c) (q_mo c) e rq.2.1 rq.2.2.2.2.1).2.2.1 (q_tn n tx (q_lo1 c) (q_mo c) e rq.2.1 rq.2.2.2.2.1).2.2.2).2.1, (q_tn n tx 0 27 e2 (q_tn n tx (q_lo1 c) (q_mo c) e rq.2.1 rq.2.2.2.2.1).2.2.1 (q_tn n tx (q_lo1 c) (q_mo c) e rq.2.1 rq.2.2.2.2.1).2.2.2).2.2.1, q_wv tx s2 (e2 - s2), e2, (q_tn n tx 0 27 e2 (q_tn n tx (q_lo1 c) (q_mo c) e rq.2.1 rq.2.2.2.2.1).2.2.1 (q_tn n tx (q_lo1 c) (q_mo c) e rq.2.1 rq.2.2.2.2.1).2.2.2).2.2.2, (upd (upd rq.2.2.2.2.2.1 c (q_tn n tx (q_lo1 c) (q_mo c) e rq.2.1 rq.2.2.2.2.1).2.2.2) 6 (q_tn n tx 0 27 e2 (q_tn n tx (q_lo1 c) (q_mo c) e rq.2.1 rq.2.2.2.2.1).2.2.1 (q_tn n tx (q_lo1 c) (q_mo c) e rq.2.1 rq.2.2.2.2.1).2.2.2).2.2.2), rq.2.2.2.2.2.2 ||| 2 ^ c) := e4.trans (if_neg c191)
                exact mv_iret dX12_takeClause_195 rfl rfl ⟨(by rw [e9]), fr, (by rw [e9]; exact HX), (by rw [e9]; exact X55)⟩
    · have c22 : q_bt rq.2.2.2.2.2.2 c = 1 := (nI_eq (by omega) (by omega)).mp c22
      refine mv_iconst (v := nI 1) dX12_takeClause_25 (by decide) ?_
      refine mv_goto (tgt := 30) dX12_takeClause_26 (by decide) ?_
      refine mv_istore_n dX12_takeClause_30 (by decide) ?_
      refine mv_iload_n dX12_takeClause_31 rfl ?_
      refine mv_if_lt (tgt := 39) dX12_takeClause_32 (by decide) (fun z => absurd z ((nI_pos (by omega)))) (fun c32 => ?_)
      refine mv_iload_n dX12_takeClause_35 rfl ?_
      refine mv_if_eq (tgt := 57) dX12_takeClause_36 (by decide) (fun z => absurd z ((by decide))) (fun c36 => ?_)
      refine mv_aload_n dX12_takeClause_39 rfl ?_
      refine mv_iload_n dX12_takeClause_40 rfl ?_
      refine mv_if_ge (tgt := 48) dX12_takeClause_41 (by decide) (fun c41 => ?_) (fun z => absurd ((Int32.not_lt.mp (nI_pos (by omega)))) z)
      refine mv_iconst (v := nI 3) dX12_takeClause_48 (by decide) ?_
      refine mv_aload_n dX12_takeClause_49 rfl ?_
      refine mv_getf (ci := 12) (f := 4) dX12_takeClause_50 HX rfl (by decide) wd_1203 rfl ?_
      obtain ⟨h105, K106, f107, y108⟩ := (k_X12_fails (ev := ev) (xg := xg) (xc := xc) (xw := xw) (b := b) (t := t) (n := n) (rq := (s, rq.2.1, q_wv tx s (e - s), e, rq.2.2.2.2.1, rq.2.2.2.2.2.1, rq.2.2.2.2.2.2)) (f := (nI 3)) (p := s) HX)
      refine mv_cV2 (ci := 12) dX12_takeClause_53 lk_X12_takeClause_174 HX rfl (Nat.le_of_ble_eq_true rfl) (Nat.le_of_ble_eq_true rfl) K106 ?_
      have HX : h105[52]? = some (.inr (12, [.ref 53, .ref 54, .int (nI n), .int (nI s), .int (nI s), .long (lN (q_wv tx s (e - s))), .int (nI e), .int rq.2.2.2.2.1, .ref 55, .int (nI rq.2.2.2.2.2.2), .int (nI b.1), .ref 56, .ref 57, .ref 58, .int (nI t), .int (nI b.2.1), .ref 59, .ref 60, .ref 61, .ref 62, .int xg, .ref 63, .ref 64, .ref 65, .ref 66, .ref 67, .ref 68, .ref 69, .int xc, .ref 70, .ref 71, .ref 72, .ref 73, .ref 74, .ref 75, .int xw, .ref 76, .ref 77, .ref 78, .ref 79, .ref 80])) := y108
      have X54 := f107.get (by decide) X54
      have X55 := f107.get (by decide) X55
      have fr := fr.trans f107 (by decide)
      have e9 : q_tc n tx rq = (3, s, nI s, q_wv tx s (e - s), e, rq.2.2.2.2) := e7.trans ((if_neg c10).trans (if_pos (by rw [qc]; omega)))
      exact mv_iret dX12_takeClause_56 rfl rfl ⟨(by rw [e9]), fr, (by rw [e9]; exact HX), (by rw [e9]; exact X55)⟩
