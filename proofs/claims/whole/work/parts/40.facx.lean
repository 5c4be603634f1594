theorem q_ina {d a : Int32} (h : nI 0 ≤ d ∧ d ≤ nI 399) : ((d + nI 1).toInt64 ≤ a.toInt64 ∧ a.toInt64 ≤ lN 399) ↔ (d < a ∧ a ≤ nI 399) := by
  obtain ⟨n, _, n2, rfl⟩ := mv_in_n (by decide) h (by decide)
  rw [nI_add, mv_l_le, mv_lR (by decide), Int32.le_iff_toInt_le, Int32.lt_iff_toInt_lt, nI_toInt (by omega), nI_toInt (by omega)]
  constructor
  · intro ⟨h1, h2⟩
    exact ⟨by omega, h2⟩
  · intro ⟨h1, h2⟩
    exact ⟨by omega, h2⟩
theorem q_s63s : ∀ i, i < 8 → ((nI (8 * i)).toInt64 &&& 63).toBitVec.smod 64 = BitVec.ofNat 64 (8 * i) := by decide
theorem q_b255l : ∀ j, j < 32 → (255#64).getLsbD j = decide (j < 8) := by decide
theorem q_byt_s (b : Int64) {i : Nat} (hi : i < 8) : ((b >>> ((nI (8 * i)).toInt64 &&& 63)) &&& lN 255).toInt32 = nI (q_byt b i) := by
  have h0 : ((b >>> ((nI (8 * i)).toInt64 &&& 63)) &&& lN 255).toInt32 = Int32.ofBitVec (((b >>> ((nI (8 * i)).toInt64 &&& 63)) &&& lN 255).toInt32).toBitVec := rfl
  rw [h0]
  apply q_byt_b
  intro j hj
  have e2 : (BitVec.ofNat 64 (8 * i)).toNat = 8 * i := by rw [BitVec.toNat_ofNat]; omega
  rw [Int64.toBitVec_toInt32, Int64.toBitVec_and, show (lN 255).toBitVec = 255#64 from rfl, BitVec.getLsbD_signExtend, if_pos (show j < 64 by omega), BitVec.getLsbD_and, q_b255l j hj, Int64.toBitVec_shiftRight, q_s63s i hi]
  by_cases c : j < 8
  · rw [BitVec.sshiftRight_eq', e2, BitVec.getLsbD_sshiftRight, if_pos (show 8 * i + j < 64 by omega)]
    have h3 : ¬ 64 ≤ j := by omega
    rw [decide_eq_true hj, decide_eq_true c, decide_eq_false h3]
    simp only [Bool.true_and, Bool.and_true, Bool.not_false]
  · rw [decide_eq_false c, Bool.and_false, Bool.and_false, Bool.false_and]
set_option maxRecDepth 100000 in
theorem k_X12_feed_R1 {ev : mv_E} {h : mv_H} {m : Int32} {bb : Int64}  (hno : ¬ ((nI 1 ≤ m ∧ m ≤ nI 8))) : mv_K ev mX12_feed [.ref 52, .int m, .long bb] h (some (.int (-1002))) h := by
  refine mv_Kof ?_
  show mv_g ev mX12_feed 0 [.ref 52, .int m, .long bb, .null, .null] [] h _
  refine mv_iload_n dX12_feed_0 rfl ?_
  refine mv_i2l dX12_feed_1 ?_
  refine mv_lconst (v := lN 1) dX12_feed_2 rfl ?_
  refine mv_ldc2 (v := lN 8) dX12_feed_3 wd_1348 ?_
  refine mv_cS3 dX12_feed_6 lk_X12_feed_107 (Nat.le_of_ble_eq_true rfl) (Nat.le_of_ble_eq_true rfl) (k_X12_in (ev := ev)) ?_
  refine mv_if_ne (tgt := 16) dX12_feed_9 (by decide) (fun c9 => ?_) (fun c9 => ?_)
  · have c9 : nI 1 ≤ m ∧ m ≤ nI 8 := (and_congr (mv_lL (by decide)) (mv_lR (by decide))).mp (mv_b_ne c9)
    exact absurd (by assumption) hno
  · have c9 : ¬ (nI 1 ≤ m ∧ m ≤ nI 8) := fun z => (mv_b_0 _).mp c9 ((and_congr (mv_lL (by decide)) (mv_lR (by decide))).mpr z)
    refine mv_sipush (v := (-1002)) dX12_feed_12 (by decide) ?_
    exact mv_iret dX12_feed_15 rfl rfl ⟨rfl, rfl⟩
set_option maxRecDepth 100000 in
theorem k_X12_feed_R2 {ev : mv_E} {h : mv_H} {xf : Int32} {xa : Int32} {xo : Int64} {xe : Int32} {xu : Int32} {xs : Int32} {xg : Int32} {xc : Int32} {xw : Int32} {b : t_B} {t : Nat} {n : Nat} {k : Nat} {bb : Int64} (HX : h[52]? = some (.inr (12, [.ref 53, .ref 54, .int (nI n), .int xf, .int xa, .long xo, .int xe, .int xu, .ref 55, .int xs, .int (nI b.1), .ref 56, .ref 57, .ref 58, .int (nI t), .int (nI b.2.1), .ref 59, .ref 60, .ref 61, .ref 62, .int xg, .ref 63, .ref 64, .ref 65, .ref 66, .ref 67, .ref 68, .ref 69, .int xc, .ref 70, .ref 71, .ref 72, .ref 73, .ref 74, .ref 75, .int xw, .ref 76, .ref 77, .ref 78, .ref 79, .ref 80]))) (hn : n ≤ 160) (hk1 : 1 ≤ k) (hk8 : k ≤ 8) (hno : ¬ (k + n ≤ 160)) : mv_K ev mX12_feed [.ref 52, .int (nI k), .long bb] h (some (.int (-1004))) h := by
  refine mv_Kof ?_
  show mv_g ev mX12_feed 0 [.ref 52, .int (nI k), .long bb, .null, .null] [] h _
  refine mv_iload_n dX12_feed_0 rfl ?_
  refine mv_i2l dX12_feed_1 ?_
  refine mv_topL (y := lN k) (nI_l (by omega)) ?_
  refine mv_lconst (v := lN 1) dX12_feed_2 rfl ?_
  refine mv_ldc2 (v := lN 8) dX12_feed_3 wd_1348 ?_
  refine mv_cS3 dX12_feed_6 lk_X12_feed_107 (Nat.le_of_ble_eq_true rfl) (Nat.le_of_ble_eq_true rfl) (k_X12_in (ev := ev)) ?_
  refine mv_if_ne (tgt := 16) dX12_feed_9 (by decide) (fun c9 => ?_) (fun z => absurd z ((fun z => (mv_b_0 _).mp z ((and_congr (lN_leB (by omega) (by omega)) (lN_leB (by omega) (by omega))).mpr ⟨by omega, by omega⟩))))
  refine mv_aload_n dX12_feed_16 rfl ?_
  refine mv_getf (ci := 12) (f := 2) dX12_feed_17 HX rfl (by decide) wd_1201 rfl ?_
  refine mv_iload_n dX12_feed_20 rfl ?_
  refine mv_iadd dX12_feed_21 ?_
  refine mv_topI (y := nI (n + k)) (nI_add _ _) ?_
  refine mv_sipush (v := nI 160) dX12_feed_22 (by decide) ?_
  refine mv_icmp_le (tgt := 32) dX12_feed_25 (by decide) (fun c25 => ?_) (fun c25 => ?_)
  · have c25 : n + k ≤ 160 := (nI_leI (by omega) (by omega)).mp c25
    exact absurd (by omega) hno
  · have c25 : ¬ (n + k ≤ 160) := fun z => c25 ((nI_leI (by omega) (by omega)).mpr z)
    refine mv_sipush (v := (-1004)) dX12_feed_28 (by decide) ?_
    exact mv_iret dX12_feed_31 rfl rfl ⟨rfl, rfl⟩
set_option maxRecDepth 100000 in
theorem l_X12_feed {ev : mv_E} {h : mv_H} {xf : Int32} {xa : Int32} {xo : Int64} {xe : Int32} {xu : Int32} {xs : Int32} {xg : Int32} {xc : Int32} {xw : Int32} {b : t_B} {t : Nat} {n : Nat} {tx : Nat → Nat} {k : Nat} {bb : Int64}  (hn : n ≤ 160) (hk1 : 1 ≤ k) (hk8 : k ≤ 8) (hkn : k + n ≤ 160) : ∀ (fu : Nat) (y : Nat) (m : Nat) (f : Nat → Nat), ∀ (g : mv_H), y < 0 + fu → mv_fra [52, 54] h g → g[52]? = some (.inr (12, [.ref 53, .ref 54, .int (nI m), .int xf, .int xa, .long xo, .int xe, .int xu, .ref 55, .int xs, .int (nI b.1), .ref 56, .ref 57, .ref 58, .int (nI t), .int (nI b.2.1), .ref 59, .ref 60, .ref 61, .ref 62, .int xg, .ref 63, .ref 64, .ref 65, .ref 66, .ref 67, .ref 68, .ref 69, .int xc, .ref 70, .ref 71, .ref 72, .ref 73, .ref 74, .ref 75, .int xw, .ref 76, .ref 77, .ref 78, .ref 79, .ref 80])) → g[54]? = some (.inl (0, 160, .inl (fun j => nI (f j)))) → (y ≤ k) → (m + y = n + k) → (q_ap bb y m f = q_ap bb k n tx) → mv_g ev mX12_feed 37 [.ref 52, .int (nI k), .long bb, .null, .int (nI y - nI 1)] [] g (fun r g => r = some (.int (nI (n + k))) ∧ mv_fra [52, 54] h g ∧ g[52]? = some (.inr (12, [.ref 53, .ref 54, .int (nI (n + k)), .int xf, .int xa, .long xo, .int xe, .int xu, .ref 55, .int xs, .int (nI b.1), .ref 56, .ref 57, .ref 58, .int (nI t), .int (nI b.2.1), .ref 59, .ref 60, .ref 61, .ref 62, .int xg, .ref 63, .ref 64, .ref 65, .ref 66, .ref 67, .ref 68, .ref 69, .int xc, .ref 70, .ref 71, .ref 72, .ref 73, .ref 74, .ref 75, .int xw, .ref 76, .ref 77, .ref 78, .ref 79, .ref 80])) ∧ g[54]? = some (.inl (0, 160, .inl (fun j => nI (q_ap bb k n tx j))))) := by
  intro fu
  induction fu with
  | zero => intro y m f g hm fr HX X54 hy hm hq; exact absurd hm (by omega)
  | succ fu ih =>
    intro y m f g hm fr HX X54 hy hm hq
    refine mv_iload dX12_feed_37 rfl ?_
    refine mv_if_lt (tgt := 79) dX12_feed_39 (by decide) (fun c39 => ?_) (fun c39 => ?_)
    · have cy := (q_lt0 (by omega)).mp c39
      refine mv_aload_n dX12_feed_79 rfl ?_
      refine mv_getf (ci := 12) (f := 2) dX12_feed_80 HX rfl (by decide) wd_1201 rfl ?_
      have e9 : q_ap bb k n tx = f := (by rw [← hq, show y = 0 by omega]; rfl)
      have en : m = n + k := (by omega)
      exact mv_iret dX12_feed_83 rfl rfl ⟨(by rw [en]), fr, (by rw [← en]; exact HX), (by rw [e9]; exact X54)⟩
    · have cy : 1 ≤ y := (by have c0 : ¬ y = 0 := fun z => c39 ((q_lt0 (by omega)).mpr z); omega)
      rw [show nI y - nI 1 = nI (y - 1) from pk_sub cy]
      have h256 := q_byt_lt bb (y - 1)
      refine mv_aload_n dX12_feed_42 rfl ?_
      refine mv_getf (ci := 12) (f := 1) dX12_feed_43 HX rfl (by decide) wd_1200 rfl ?_
      refine mv_aload_n dX12_feed_46 rfl ?_
      refine mv_getf (ci := 12) (f := 2) dX12_feed_47 HX rfl (by decide) wd_1201 rfl ?_
      refine mv_lload_n dX12_feed_50 rfl ?_
      refine mv_bipush (v := nI 8) dX12_feed_51 (by decide) ?_
      refine mv_iload dX12_feed_53 rfl ?_
      refine mv_imul dX12_feed_55 ?_
      refine mv_topI (y := nI (8 * (y - 1))) (pk_mul _ _) ?_
      refine mv_lshr dX12_feed_56 ?_
      refine mv_ldc2 (v := lN 255) dX12_feed_57 wd_1349 ?_
      refine mv_land dX12_feed_60 ?_
      refine mv_l2i dX12_feed_61 ?_
      refine mv_topI (y := nI (q_byt bb (y - 1))) (q_byt_s bb (by omega)) ?_
      refine mv_iastN (j := m) dX12_feed_62 X54 rfl (by decide) (by omega) (fun h1 e2 => ?_)
      rw [upd_nI] at e2
      have HX := mv_ne e2 (by decide) HX
      have X54 : h1[54]? = some (.inl (0, 160, .inl (fun j => nI (t_up f m (q_byt bb (y - 1)) j)))) := mv_eq e2 X54
      have fr := fr.set e2 (by decide)
      clear e2
      refine mv_aload_n dX12_feed_63 rfl ?_
      refine mv_dup dX12_feed_64 rfl ?_
      refine mv_getf (ci := 12) (f := 2) dX12_feed_65 HX rfl (by decide) wd_1201 rfl ?_
      refine mv_iconst (v := nI 1) dX12_feed_68 (by decide) ?_
      refine mv_iadd dX12_feed_69 ?_
      refine mv_topI (y := nI (m + 1)) (nI_add _ _) ?_
      refine mv_putf (ci := 12) (f := 2) dX12_feed_70 HX rfl (by decide) wd_1201 rfl rfl (fun _ => ⟨rfl, rfl⟩) (Nat.le_of_ble_eq_true rfl) ?_
      refine mv_topH (fun h3 e4 => ?_)
      have HX : h3[52]? = some (.inr (12, [.ref 53, .ref 54, .int (nI (m + 1)), .int xf, .int xa, .long xo, .int xe, .int xu, .ref 55, .int xs, .int (nI b.1), .ref 56, .ref 57, .ref 58, .int (nI t), .int (nI b.2.1), .ref 59, .ref 60, .ref 61, .ref 62, .int xg, .ref 63, .ref 64, .ref 65, .ref 66, .ref 67, .ref 68, .ref 69, .int xc, .ref 70, .ref 71, .ref 72, .ref 73, .ref 74, .ref 75, .int xw, .ref 76, .ref 77, .ref 78, .ref 79, .ref 80])) := mv_eq e4 HX
      have X54 := mv_ne e4 (by decide) X54
      have fr := fr.set e4 (by decide)
      clear e4
      refine mv_iinc (v := nI (y - 1) - nI 1) dX12_feed_73 rfl (q_dc _) (by decide) ?_
      refine mv_goto (tgt := 37) dX12_feed_76 (by decide) ?_
      exact ih (y - 1) (m + 1) (t_up f m (q_byt bb (y - 1))) h3 (by omega) fr HX X54 (by omega) (by omega) (by rw [← hq]; exact (q_ap_s cy).symm)
set_option maxRecDepth 100000 in
theorem k_X12_feed_G {ev : mv_E} {h : mv_H} {xf : Int32} {xa : Int32} {xo : Int64} {xe : Int32} {xu : Int32} {xs : Int32} {xg : Int32} {xc : Int32} {xw : Int32} {b : t_B} {t : Nat} {n : Nat} {tx : Nat → Nat} {k : Nat} {bb : Int64} (HX : h[52]? = some (.inr (12, [.ref 53, .ref 54, .int (nI n), .int xf, .int xa, .long xo, .int xe, .int xu, .ref 55, .int xs, .int (nI b.1), .ref 56, .ref 57, .ref 58, .int (nI t), .int (nI b.2.1), .ref 59, .ref 60, .ref 61, .ref 62, .int xg, .ref 63, .ref 64, .ref 65, .ref 66, .ref 67, .ref 68, .ref 69, .int xc, .ref 70, .ref 71, .ref 72, .ref 73, .ref 74, .ref 75, .int xw, .ref 76, .ref 77, .ref 78, .ref 79, .ref 80]))) (X54 : h[54]? = some (.inl (0, 160, .inl (fun j => nI (tx j))))) (hn : n ≤ 160) (hk1 : 1 ≤ k) (hk8 : k ≤ 8) (hkn : k + n ≤ 160) : ∃ h2, mv_K ev mX12_feed [.ref 52, .int (nI k), .long bb] h (some (.int (nI (n + k)))) h2 ∧ mv_fra [52, 54] h h2 ∧ h2[52]? = some (.inr (12, [.ref 53, .ref 54, .int (nI (n + k)), .int xf, .int xa, .long xo, .int xe, .int xu, .ref 55, .int xs, .int (nI b.1), .ref 56, .ref 57, .ref 58, .int (nI t), .int (nI b.2.1), .ref 59, .ref 60, .ref 61, .ref 62, .int xg, .ref 63, .ref 64, .ref 65, .ref 66, .ref 67, .ref 68, .ref 69, .int xc, .ref 70, .ref 71, .ref 72, .ref 73, .ref 74, .ref 75, .int xw, .ref 76, .ref 77, .ref 78, .ref 79, .ref 80])) ∧ h2[54]? = some (.inl (0, 160, .inl (fun j => nI (q_ap bb k n tx j)))) := by
  suffices g0 : mv_g ev mX12_feed 0 (mv_ent [.ref 52, .int (nI k), .long bb] (mv_ml mX12_feed)) [] h (fun r g => r = some (.int (nI (n + k))) ∧ mv_fra [52, 54] h g ∧ g[52]? = some (.inr (12, [.ref 53, .ref 54, .int (nI (n + k)), .int xf, .int xa, .long xo, .int xe, .int xu, .ref 55, .int xs, .int (nI b.1), .ref 56, .ref 57, .ref 58, .int (nI t), .int (nI b.2.1), .ref 59, .ref 60, .ref 61, .ref 62, .int xg, .ref 63, .ref 64, .ref 65, .ref 66, .ref 67, .ref 68, .ref 69, .int xc, .ref 70, .ref 71, .ref 72, .ref 73, .ref 74, .ref 75, .int xw, .ref 76, .ref 77, .ref 78, .ref 79, .ref 80])) ∧ g[54]? = some (.inl (0, 160, .inl (fun j => nI (q_ap bb k n tx j))))) from (by obtain ⟨r0, h0, K0, q0, Q0⟩ := mv_Kex g0; subst q0; exact ⟨h0, K0, Q0⟩)
  show mv_g ev mX12_feed 0 [.ref 52, .int (nI k), .long bb, .null, .null] [] h _
  have fr : mv_fra [52, 54] h h := mv_fra.rf
  refine mv_iload_n dX12_feed_0 rfl ?_
  refine mv_i2l dX12_feed_1 ?_
  refine mv_topL (y := lN k) (nI_l (by omega)) ?_
  refine mv_lconst (v := lN 1) dX12_feed_2 rfl ?_
  refine mv_ldc2 (v := lN 8) dX12_feed_3 wd_1348 ?_
  refine mv_cS3 dX12_feed_6 lk_X12_feed_107 (Nat.le_of_ble_eq_true rfl) (Nat.le_of_ble_eq_true rfl) (k_X12_in (ev := ev)) ?_
  refine mv_if_ne (tgt := 16) dX12_feed_9 (by decide) (fun c9 => ?_) (fun z => absurd z ((fun z => (mv_b_0 _).mp z ((and_congr (lN_leB (by omega) (by omega)) (lN_leB (by omega) (by omega))).mpr ⟨by omega, by omega⟩))))
  refine mv_aload_n dX12_feed_16 rfl ?_
  refine mv_getf (ci := 12) (f := 2) dX12_feed_17 HX rfl (by decide) wd_1201 rfl ?_
  refine mv_iload_n dX12_feed_20 rfl ?_
  refine mv_iadd dX12_feed_21 ?_
  refine mv_topI (y := nI (n + k)) (nI_add _ _) ?_
  refine mv_sipush (v := nI 160) dX12_feed_22 (by decide) ?_
  refine mv_icmp_le (tgt := 32) dX12_feed_25 (by decide) (fun c25 => ?_) (fun z => absurd (((nI_leI (by omega) (by omega)).mpr (by omega))) z)
  refine mv_iload_n dX12_feed_32 rfl ?_
  refine mv_iconst (v := nI 1) dX12_feed_33 (by decide) ?_
  refine mv_isub dX12_feed_34 ?_
  refine mv_topI (y := nI k - nI 1) rfl ?_
  refine mv_istore dX12_feed_35 (by decide) ?_
  exact l_X12_feed hn hk1 hk8 hkn (k + 1) k n tx h (by omega) fr HX X54 (Nat.le_refl _) rfl rfl
set_option maxRecDepth 100000 in
theorem k_X12_fault_G {ev : mv_E} {h : mv_H} {xt : Int32} {xf : Int32} {xa : Int32} {xo : Int64} {xe : Int32} {xu : Int32} {xs : Int32} {xg : Int32} {xc : Int32} {xw : Int32} {b : t_B} {t : Nat} (HX : h[52]? = some (.inr (12, [.ref 53, .ref 54, .int xt, .int xf, .int xa, .long xo, .int xe, .int xu, .ref 55, .int xs, .int (nI b.1), .ref 56, .ref 57, .ref 58, .int (nI t), .int (nI b.2.1), .ref 59, .ref 60, .ref 61, .ref 62, .int xg, .ref 63, .ref 64, .ref 65, .ref 66, .ref 67, .ref 68, .ref 69, .int xc, .ref 70, .ref 71, .ref 72, .ref 73, .ref 74, .ref 75, .int xw, .ref 76, .ref 77, .ref 78, .ref 79, .ref 80])))  : mv_K ev mX12_fault [.ref 52] h (some (.int xf)) h := by
  refine mv_Kof ?_
  show mv_g ev mX12_fault 0 [.ref 52] [] h _
  refine mv_aload_n dX12_fault_0 rfl ?_
  refine mv_getf (ci := 12) (f := 3) dX12_fault_1 HX rfl (by decide) wd_1202 rfl ?_
  exact mv_iret dX12_fault_4 rfl rfl ⟨rfl, rfl⟩
set_option maxRecDepth 100000 in
theorem k_X12_told_R1 {ev : mv_E} {h : mv_H} {m : Int32}  (hno : ¬ ((nI 0 ≤ m ∧ m ≤ nI 7))) : mv_K ev mX12_told [.ref 52, .int m] h (some (.int (-1002))) h := by
  refine mv_Kof ?_
  show mv_g ev mX12_told 0 [.ref 52, .int m] [] h _
  refine mv_iload_n dX12_told_0 rfl ?_
  refine mv_i2l dX12_told_1 ?_
  refine mv_lconst (v := lN 0) dX12_told_2 rfl ?_
  refine mv_ldc2 (v := lN 7) dX12_told_3 wd_1337 ?_
  refine mv_cS3 dX12_told_6 lk_X12_told_107 (Nat.le_of_ble_eq_true rfl) (Nat.le_of_ble_eq_true rfl) (k_X12_in (ev := ev)) ?_
  refine mv_if_eq (tgt := 21) dX12_told_9 (by decide) (fun c9 => ?_) (fun c9 => ?_)
  · have c9 : ¬ (nI 0 ≤ m ∧ m ≤ nI 7) := fun z => (mv_b_0 _).mp c9 ((and_congr (mv_lL (by decide)) (mv_lR (by decide))).mpr z)
    refine mv_sipush (v := (-1002)) dX12_told_21 (by decide) ?_
    exact mv_iret dX12_told_24 rfl rfl ⟨rfl, rfl⟩
  · have c9 : nI 0 ≤ m ∧ m ≤ nI 7 := (and_congr (mv_lL (by decide)) (mv_lR (by decide))).mp (mv_b_ne c9)
    exact absurd (by assumption) hno
set_option maxRecDepth 100000 in
theorem k_X12_told_G {ev : mv_E} {h : mv_H} {xt : Int32} {xf : Int32} {xa : Int32} {xo : Int64} {xe : Int32} {xu : Int32} {xs : Int32} {xg : Int32} {xc : Int32} {xw : Int32} {b : t_B} {t : Nat} {lw : Nat → Int32} {k : Nat} (HX : h[52]? = some (.inr (12, [.ref 53, .ref 54, .int xt, .int xf, .int xa, .long xo, .int xe, .int xu, .ref 55, .int xs, .int (nI b.1), .ref 56, .ref 57, .ref 58, .int (nI t), .int (nI b.2.1), .ref 59, .ref 60, .ref 61, .ref 62, .int xg, .ref 63, .ref 64, .ref 65, .ref 66, .ref 67, .ref 68, .ref 69, .int xc, .ref 70, .ref 71, .ref 72, .ref 73, .ref 74, .ref 75, .int xw, .ref 76, .ref 77, .ref 78, .ref 79, .ref 80]))) (X53 : h[53]? = some (.inl (0, 8, .inl lw))) (hk : k < 8) : mv_K ev mX12_told [.ref 52, .int (nI k)] h (some (.int (lw k))) h := by
  refine mv_Kof ?_
  show mv_g ev mX12_told 0 [.ref 52, .int (nI k)] [] h _
  refine mv_iload_n dX12_told_0 rfl ?_
  refine mv_i2l dX12_told_1 ?_
  refine mv_topL (y := lN k) (nI_l (by omega)) ?_
  refine mv_lconst (v := lN 0) dX12_told_2 rfl ?_
  refine mv_ldc2 (v := lN 7) dX12_told_3 wd_1337 ?_
  refine mv_cS3 dX12_told_6 lk_X12_told_107 (Nat.le_of_ble_eq_true rfl) (Nat.le_of_ble_eq_true rfl) (k_X12_in (ev := ev)) ?_
  refine mv_if_eq (tgt := 21) dX12_told_9 (by decide) (fun z => absurd z ((fun z => (mv_b_0 _).mp z ((and_congr (lN_leB (by omega) (by omega)) (lN_leB (by omega) (by omega))).mpr ⟨by omega, by omega⟩)))) (fun c9 => ?_)
  refine mv_aload_n dX12_told_12 rfl ?_
  refine mv_getf (ci := 12) (f := 0) dX12_told_13 HX rfl (by decide) wd_1199 rfl ?_
  refine mv_iload_n dX12_told_16 rfl ?_
  refine mv_iaN (j := k) (x := lw k) dX12_told_17 X53 rfl (by decide) (by omega) rfl ?_
  refine mv_goto (tgt := 24) dX12_told_18 (by decide) ?_
  exact mv_iret dX12_told_24 rfl rfl ⟨rfl, rfl⟩
set_option maxRecDepth 100000 in
theorem k_X12_cells_R1 {ev : mv_E} {h : mv_H} {p : Int32} {m : Int32}  (hno : ¬ ((nI 0 ≤ p ∧ p ≤ nI 63))) : mv_K ev mX12_cells [.ref 52, .int p, .int m] h (some (.int (-1001))) h := by
  refine mv_Kof ?_
  show mv_g ev mX12_cells 0 [.ref 52, .int p, .int m] [] h _
  refine mv_iload_n dX12_cells_0 rfl ?_
  refine mv_cS1 dX12_cells_1 lk_X12_cells_121 (Nat.le_of_ble_eq_true rfl) (Nat.le_of_ble_eq_true rfl) (k_X12_isPlace (ev := ev)) ?_
  refine mv_if_ne (tgt := 11) dX12_cells_4 (by decide) (fun c4 => ?_) (fun c4 => ?_)
  · have c4 : nI 0 ≤ p ∧ p ≤ nI 63 := Classical.byContradiction (fun z => c4 ((mv_b_0 _).mpr z))
    exact absurd (by assumption) hno
  · have c4 : ¬ (nI 0 ≤ p ∧ p ≤ nI 63) := (mv_b_0 _).mp c4
    refine mv_sipush (v := (-1001)) dX12_cells_7 (by decide) ?_
    exact mv_iret dX12_cells_10 rfl rfl ⟨rfl, rfl⟩
set_option maxRecDepth 100000 in
theorem k_X12_cells_R2 {ev : mv_E} {h : mv_H} {p : Nat} {m : Int32}  (hp : p < 64) (hno : ¬ ((nI 0 ≤ m ∧ m ≤ nI 7))) : mv_K ev mX12_cells [.ref 52, .int (nI p), .int m] h (some (.int (-1002))) h := by
  refine mv_Kof ?_
  show mv_g ev mX12_cells 0 [.ref 52, .int (nI p), .int m] [] h _
  refine mv_iload_n dX12_cells_0 rfl ?_
  refine mv_cS1 dX12_cells_1 lk_X12_cells_121 (Nat.le_of_ble_eq_true rfl) (Nat.le_of_ble_eq_true rfl) (k_X12_isPlace (ev := ev)) ?_
  refine mv_if_ne (tgt := 11) dX12_cells_4 (by decide) (fun c4 => ?_) (fun z => absurd z ((fun z => (mv_b_0 _).mp z (mv_in_i (by omega) (by omega) (by omega)))))
  refine mv_iload_n dX12_cells_11 rfl ?_
  refine mv_cS1 dX12_cells_12 lk_X12_cells_125 (Nat.le_of_ble_eq_true rfl) (Nat.le_of_ble_eq_true rfl) (k_X12_isNear (ev := ev)) ?_
  refine mv_if_eq (tgt := 26) dX12_cells_15 (by decide) (fun c15 => ?_) (fun c15 => ?_)
  · have c15 : ¬ (nI 0 ≤ m ∧ m ≤ nI 7) := (mv_b_0 _).mp c15
    refine mv_sipush (v := (-1002)) dX12_cells_26 (by decide) ?_
    exact mv_iret dX12_cells_29 rfl rfl ⟨rfl, rfl⟩
  · have c15 : nI 0 ≤ m ∧ m ≤ nI 7 := Classical.byContradiction (fun z => c15 ((mv_b_0 _).mpr z))
    exact absurd (by assumption) hno
set_option maxRecDepth 100000 in
theorem k_X12_cells_G {ev : mv_E} {h : mv_H} {p : Nat} {m : Nat}  (hp : p < 64) (hm0 : m < 8) : mv_K ev mX12_cells [.ref 52, .int (nI p), .int (nI m)] h (some (.int (nI (t_near p m)))) h := by
  refine mv_Kof ?_
  show mv_g ev mX12_cells 0 [.ref 52, .int (nI p), .int (nI m)] [] h _
  refine mv_iload_n dX12_cells_0 rfl ?_
  refine mv_cS1 dX12_cells_1 lk_X12_cells_121 (Nat.le_of_ble_eq_true rfl) (Nat.le_of_ble_eq_true rfl) (k_X12_isPlace (ev := ev)) ?_
  refine mv_if_ne (tgt := 11) dX12_cells_4 (by decide) (fun c4 => ?_) (fun z => absurd z ((fun z => (mv_b_0 _).mp z (mv_in_i (by omega) (by omega) (by omega)))))
  refine mv_iload_n dX12_cells_11 rfl ?_
  refine mv_cS1 dX12_cells_12 lk_X12_cells_125 (Nat.le_of_ble_eq_true rfl) (Nat.le_of_ble_eq_true rfl) (k_X12_isNear (ev := ev)) ?_
  refine mv_if_eq (tgt := 26) dX12_cells_15 (by decide) (fun z => absurd z ((fun z => (mv_b_0 _).mp z (mv_in_i (by omega) (by omega) (by omega))))) (fun c15 => ?_)
  refine mv_iload_n dX12_cells_18 rfl ?_
  refine mv_iload_n dX12_cells_19 rfl ?_
  refine mv_cS2 dX12_cells_20 lk_X12_cells_128 (Nat.le_of_ble_eq_true rfl) (Nat.le_of_ble_eq_true rfl) (k_X12_cellsOf (ev := ev) (by omega) (by omega)) ?_
  refine mv_topI (y := nI (t_near p m)) (congrArg nI (q_cN _ _ hp hm0)) ?_
  refine mv_goto (tgt := 29) dX12_cells_23 (by decide) ?_
  exact mv_iret dX12_cells_29 rfl rfl ⟨rfl, rfl⟩
set_option maxRecDepth 100000 in
theorem k_X12_greater_R1 {ev : mv_E} {h : mv_H} {x : Int32}  (hno : ¬ ((nI 1 ≤ x ∧ x ≤ nI 9))) : mv_K ev mX12_greater [.ref 52, .int x] h (some (.int (-1002))) h := by
  refine mv_Kof ?_
  show mv_g ev mX12_greater 0 [.ref 52, .int x] [] h _
  refine mv_iload_n dX12_greater_0 rfl ?_
  refine mv_cS1 dX12_greater_1 lk_X12_greater_204 (Nat.le_of_ble_eq_true rfl) (Nat.le_of_ble_eq_true rfl) (k_X12_isSize (ev := ev)) ?_
  refine mv_if_eq (tgt := 15) dX12_greater_4 (by decide) (fun c4 => ?_) (fun c4 => ?_)
  · have c4 : ¬ (nI 1 ≤ x ∧ x ≤ nI 9) := (mv_b_0 _).mp c4
    refine mv_sipush (v := (-1002)) dX12_greater_15 (by decide) ?_
    exact mv_iret dX12_greater_18 rfl rfl ⟨rfl, rfl⟩
  · have c4 : nI 1 ≤ x ∧ x ≤ nI 9 := Classical.byContradiction (fun z => c4 ((mv_b_0 _).mpr z))
    exact absurd (by assumption) hno
set_option maxRecDepth 100000 in
theorem k_X12_greater_G {ev : mv_E} {h : mv_H} {xt : Int32} {xf : Int32} {xa : Int32} {xo : Int64} {xe : Int32} {xu : Int32} {xs : Int32} {xg : Int32} {xc : Int32} {xw : Int32} {b : t_B} {t : Nat} {lw : Nat → Int32} {G : Nat} {x : Nat} (HX : h[52]? = some (.inr (12, [.ref 53, .ref 54, .int xt, .int xf, .int xa, .long xo, .int xe, .int xu, .ref 55, .int xs, .int (nI b.1), .ref 56, .ref 57, .ref 58, .int (nI t), .int (nI b.2.1), .ref 59, .ref 60, .ref 61, .ref 62, .int xg, .ref 63, .ref 64, .ref 65, .ref 66, .ref 67, .ref 68, .ref 69, .int xc, .ref 70, .ref 71, .ref 72, .ref 73, .ref 74, .ref 75, .int xw, .ref 76, .ref 77, .ref 78, .ref 79, .ref 80]))) (X53 : h[53]? = some (.inl (0, 8, .inl lw))) (hG : lw 1 = nI G) (hGb : G ≤ 99) (hz1 : 1 ≤ x) (hz9 : x ≤ 9) : mv_K ev mX12_greater [.ref 52, .int (nI x)] h (some (.int (nI (t_gr G (x - 1))))) h := by
  refine mv_Kof ?_
  show mv_g ev mX12_greater 0 [.ref 52, .int (nI x)] [] h _
  refine mv_iload_n dX12_greater_0 rfl ?_
  refine mv_cS1 dX12_greater_1 lk_X12_greater_204 (Nat.le_of_ble_eq_true rfl) (Nat.le_of_ble_eq_true rfl) (k_X12_isSize (ev := ev)) ?_
  refine mv_if_eq (tgt := 15) dX12_greater_4 (by decide) (fun z => absurd z ((fun z => (mv_b_0 _).mp z (mv_in_i (by omega) (by omega) (by omega))))) (fun c4 => ?_)
  refine mv_aload_n dX12_greater_7 rfl ?_
  refine mv_iload_n dX12_greater_8 rfl ?_
  refine mv_cV1 (ci := 12) dX12_greater_9 lk_X12_greater_207 HX rfl (Nat.le_of_ble_eq_true rfl) (Nat.le_of_ble_eq_true rfl) (k_X12_greaterOf (ev := ev) HX X53 hG hGb hz1 hz9) ?_
  refine mv_goto (tgt := 18) dX12_greater_12 (by decide) ?_
  exact mv_iret dX12_greater_18 rfl rfl ⟨rfl, rfl⟩
set_option maxRecDepth 100000 in
theorem k_X12_shake_R1 {ev : mv_E} {h : mv_H} {d : Int32} {p : Int32} {x : Int32}  (hno : ¬ ((nI 0 ≤ p ∧ p ≤ nI 63))) : mv_K ev mX12_shake [.ref 52, .int d, .int p, .int x] h (some (.int (-1001))) h := by
  refine mv_Kof ?_
  show mv_g ev mX12_shake 0 [.ref 52, .int d, .int p, .int x] [] h _
  refine mv_iload_n dX12_shake_0 rfl ?_
  refine mv_cS1 dX12_shake_1 lk_X12_shake_121 (Nat.le_of_ble_eq_true rfl) (Nat.le_of_ble_eq_true rfl) (k_X12_isPlace (ev := ev)) ?_
  refine mv_if_ne (tgt := 11) dX12_shake_4 (by decide) (fun c4 => ?_) (fun c4 => ?_)
  · have c4 : nI 0 ≤ p ∧ p ≤ nI 63 := Classical.byContradiction (fun z => c4 ((mv_b_0 _).mpr z))
    exact absurd (by assumption) hno
  · have c4 : ¬ (nI 0 ≤ p ∧ p ≤ nI 63) := (mv_b_0 _).mp c4
    refine mv_sipush (v := (-1001)) dX12_shake_7 (by decide) ?_
    exact mv_iret dX12_shake_10 rfl rfl ⟨rfl, rfl⟩
set_option maxRecDepth 100000 in
theorem k_X12_shake_R2 {ev : mv_E} {h : mv_H} {d : Int32} {x : Int32} {p : Nat}  (hp : p < 64) (hno : ¬ ((nI 0 ≤ d ∧ d ≤ nI 399) ∧ (nI 1 ≤ x ∧ x ≤ nI 9))) : mv_K ev mX12_shake [.ref 52, .int d, .int (nI p), .int x] h (some (.int (-1002))) h := by
  refine mv_Kof ?_
  show mv_g ev mX12_shake 0 [.ref 52, .int d, .int (nI p), .int x] [] h _
  refine mv_iload_n dX12_shake_0 rfl ?_
  refine mv_cS1 dX12_shake_1 lk_X12_shake_121 (Nat.le_of_ble_eq_true rfl) (Nat.le_of_ble_eq_true rfl) (k_X12_isPlace (ev := ev)) ?_
  refine mv_if_ne (tgt := 11) dX12_shake_4 (by decide) (fun c4 => ?_) (fun z => absurd z ((fun z => (mv_b_0 _).mp z (mv_in_i (by omega) (by omega) (by omega)))))
  refine mv_iload_n dX12_shake_11 rfl ?_
  refine mv_cS1 dX12_shake_12 lk_X12_shake_213 (Nat.le_of_ble_eq_true rfl) (Nat.le_of_ble_eq_true rfl) (k_X12_isDay (ev := ev)) ?_
  refine mv_if_eq (tgt := 25) dX12_shake_15 (by decide) (fun c15 => ?_) (fun c15 => ?_)
  · have c15 : ¬ (nI 0 ≤ d ∧ d ≤ nI 399) := (mv_b_0 _).mp c15
    refine mv_sipush (v := (-1002)) dX12_shake_25 (by decide) ?_
    exact mv_iret dX12_shake_28 rfl rfl ⟨rfl, rfl⟩
  · have c15 : nI 0 ≤ d ∧ d ≤ nI 399 := Classical.byContradiction (fun z => c15 ((mv_b_0 _).mpr z))
    refine mv_iload_n dX12_shake_18 rfl ?_
    refine mv_cS1 dX12_shake_19 lk_X12_shake_204 (Nat.le_of_ble_eq_true rfl) (Nat.le_of_ble_eq_true rfl) (k_X12_isSize (ev := ev)) ?_
    refine mv_if_ne (tgt := 29) dX12_shake_22 (by decide) (fun c22 => ?_) (fun c22 => ?_)
    · have c22 : nI 1 ≤ x ∧ x ≤ nI 9 := Classical.byContradiction (fun z => c22 ((mv_b_0 _).mpr z))
      exact absurd (by refine ⟨?_, ?_⟩ <;> assumption) hno
    · have c22 : ¬ (nI 1 ≤ x ∧ x ≤ nI 9) := (mv_b_0 _).mp c22
      refine mv_sipush (v := (-1002)) dX12_shake_25 (by decide) ?_
      exact mv_iret dX12_shake_28 rfl rfl ⟨rfl, rfl⟩
set_option maxRecDepth 100000 in
theorem k_X12_shake_R3 {ev : mv_E} {h : mv_H} {xt : Int32} {xf : Int32} {xa : Int32} {xo : Int64} {xe : Int32} {xu : Int32} {xs : Int32} {xg : Int32} {xc : Int32} {xw : Int32} {b : t_B} {t : Nat} {d : Nat} {p : Nat} {x : Nat} (HX : h[52]? = some (.inr (12, [.ref 53, .ref 54, .int xt, .int xf, .int xa, .long xo, .int xe, .int xu, .ref 55, .int xs, .int (nI b.1), .ref 56, .ref 57, .ref 58, .int (nI t), .int (nI b.2.1), .ref 59, .ref 60, .ref 61, .ref 62, .int xg, .ref 63, .ref 64, .ref 65, .ref 66, .ref 67, .ref 68, .ref 69, .int xc, .ref 70, .ref 71, .ref 72, .ref 73, .ref 74, .ref 75, .int xw, .ref 76, .ref 77, .ref 78, .ref 79, .ref 80]))) (hp : p < 64) (hd : d ≤ 399) (hz1 : 1 ≤ x) (hz9 : x ≤ 9) (ht : t ≤ 399) (hno : ¬ (t ≤ d)) : mv_K ev mX12_shake [.ref 52, .int (nI d), .int (nI p), .int (nI x)] h (some (.int (-1003))) h := by
  refine mv_Kof ?_
  show mv_g ev mX12_shake 0 [.ref 52, .int (nI d), .int (nI p), .int (nI x)] [] h _
  refine mv_iload_n dX12_shake_0 rfl ?_
  refine mv_cS1 dX12_shake_1 lk_X12_shake_121 (Nat.le_of_ble_eq_true rfl) (Nat.le_of_ble_eq_true rfl) (k_X12_isPlace (ev := ev)) ?_
  refine mv_if_ne (tgt := 11) dX12_shake_4 (by decide) (fun c4 => ?_) (fun z => absurd z ((fun z => (mv_b_0 _).mp z (mv_in_i (by omega) (by omega) (by omega)))))
  refine mv_iload_n dX12_shake_11 rfl ?_
  refine mv_cS1 dX12_shake_12 lk_X12_shake_213 (Nat.le_of_ble_eq_true rfl) (Nat.le_of_ble_eq_true rfl) (k_X12_isDay (ev := ev)) ?_
  refine mv_if_eq (tgt := 25) dX12_shake_15 (by decide) (fun z => absurd z ((fun z => (mv_b_0 _).mp z (mv_in_i (by omega) (by omega) (by omega))))) (fun c15 => ?_)
  refine mv_iload_n dX12_shake_18 rfl ?_
  refine mv_cS1 dX12_shake_19 lk_X12_shake_204 (Nat.le_of_ble_eq_true rfl) (Nat.le_of_ble_eq_true rfl) (k_X12_isSize (ev := ev)) ?_
  refine mv_if_ne (tgt := 29) dX12_shake_22 (by decide) (fun c22 => ?_) (fun z => absurd z ((fun z => (mv_b_0 _).mp z (mv_in_i (by omega) (by omega) (by omega)))))
  refine mv_aload_n dX12_shake_29 rfl ?_
  refine mv_getf (ci := 12) (f := 14) dX12_shake_30 HX rfl (by decide) wd_1213 rfl ?_
  refine mv_iload_n dX12_shake_33 rfl ?_
  refine mv_icmp_le (tgt := 41) dX12_shake_34 (by decide) (fun c34 => ?_) (fun c34 => ?_)
  · have c34 : t ≤ d := (nI_leI (by omega) (by omega)).mp c34
    exact absurd (by assumption) hno
  · have c34 : ¬ (t ≤ d) := fun z => c34 ((nI_leI (by omega) (by omega)).mpr z)
    refine mv_sipush (v := (-1003)) dX12_shake_37 (by decide) ?_
    exact mv_iret dX12_shake_40 rfl rfl ⟨rfl, rfl⟩
set_option maxRecDepth 100000 in
theorem k_X12_shake_R4 {ev : mv_E} {h : mv_H} {xt : Int32} {xf : Int32} {xa : Int32} {xo : Int64} {xe : Int32} {xu : Int32} {xs : Int32} {xg : Int32} {xc : Int32} {xw : Int32} {b : t_B} {t : Nat} {d : Nat} {p : Nat} {x : Nat} (HX : h[52]? = some (.inr (12, [.ref 53, .ref 54, .int xt, .int xf, .int xa, .long xo, .int xe, .int xu, .ref 55, .int xs, .int (nI b.1), .ref 56, .ref 57, .ref 58, .int (nI t), .int (nI b.2.1), .ref 59, .ref 60, .ref 61, .ref 62, .int xg, .ref 63, .ref 64, .ref 65, .ref 66, .ref 67, .ref 68, .ref 69, .int xc, .ref 70, .ref 71, .ref 72, .ref 73, .ref 74, .ref 75, .int xw, .ref 76, .ref 77, .ref 78, .ref 79, .ref 80]))) (hp : p < 64) (hd : d ≤ 399) (hz1 : 1 ≤ x) (hz9 : x ≤ 9) (htd : t ≤ d) (hn : b.1 ≤ 60) (hno : ¬ (b.1 < 60)) : mv_K ev mX12_shake [.ref 52, .int (nI d), .int (nI p), .int (nI x)] h (some (.int (-1004))) h := by
  refine mv_Kof ?_
  show mv_g ev mX12_shake 0 [.ref 52, .int (nI d), .int (nI p), .int (nI x)] [] h _
  refine mv_iload_n dX12_shake_0 rfl ?_
  refine mv_cS1 dX12_shake_1 lk_X12_shake_121 (Nat.le_of_ble_eq_true rfl) (Nat.le_of_ble_eq_true rfl) (k_X12_isPlace (ev := ev)) ?_
  refine mv_if_ne (tgt := 11) dX12_shake_4 (by decide) (fun c4 => ?_) (fun z => absurd z ((fun z => (mv_b_0 _).mp z (mv_in_i (by omega) (by omega) (by omega)))))
  refine mv_iload_n dX12_shake_11 rfl ?_
  refine mv_cS1 dX12_shake_12 lk_X12_shake_213 (Nat.le_of_ble_eq_true rfl) (Nat.le_of_ble_eq_true rfl) (k_X12_isDay (ev := ev)) ?_
  refine mv_if_eq (tgt := 25) dX12_shake_15 (by decide) (fun z => absurd z ((fun z => (mv_b_0 _).mp z (mv_in_i (by omega) (by omega) (by omega))))) (fun c15 => ?_)
  refine mv_iload_n dX12_shake_18 rfl ?_
  refine mv_cS1 dX12_shake_19 lk_X12_shake_204 (Nat.le_of_ble_eq_true rfl) (Nat.le_of_ble_eq_true rfl) (k_X12_isSize (ev := ev)) ?_
  refine mv_if_ne (tgt := 29) dX12_shake_22 (by decide) (fun c22 => ?_) (fun z => absurd z ((fun z => (mv_b_0 _).mp z (mv_in_i (by omega) (by omega) (by omega)))))
  refine mv_aload_n dX12_shake_29 rfl ?_
  refine mv_getf (ci := 12) (f := 14) dX12_shake_30 HX rfl (by decide) wd_1213 rfl ?_
  refine mv_iload_n dX12_shake_33 rfl ?_
  refine mv_icmp_le (tgt := 41) dX12_shake_34 (by decide) (fun c34 => ?_) (fun z => absurd (((nI_leI (by omega) (by omega)).mpr htd)) z)
  refine mv_aload_n dX12_shake_41 rfl ?_
  refine mv_getf (ci := 12) (f := 10) dX12_shake_42 HX rfl (by decide) wd_1209 rfl ?_
  refine mv_bipush (v := nI 60) dX12_shake_45 (by decide) ?_
  refine mv_icmp_ne (tgt := 54) dX12_shake_47 (by decide) (fun c47 => ?_) (fun c47 => ?_)
  · have c47 : ¬ (b.1 = 60) := fun z => c47 ((nI_eq (by omega) (by omega)).mpr z)
    exact absurd (by omega) hno
  · have c47 : b.1 = 60 := (nI_eq (by omega) (by omega)).mp c47
    refine mv_sipush (v := (-1004)) dX12_shake_50 (by decide) ?_
    exact mv_iret dX12_shake_53 rfl rfl ⟨rfl, rfl⟩
set_option maxRecDepth 100000 in
theorem k_X12_shake_G {ev : mv_E} {h : mv_H} {xt : Int32} {xf : Int32} {xa : Int32} {xo : Int64} {xe : Int32} {xu : Int32} {xs : Int32} {xg : Int32} {xc : Int32} {xw : Int32} {b : t_B} {t : Nat} {d : Nat} {p : Nat} {x : Nat} (HX : h[52]? = some (.inr (12, [.ref 53, .ref 54, .int xt, .int xf, .int xa, .long xo, .int xe, .int xu, .ref 55, .int xs, .int (nI b.1), .ref 56, .ref 57, .ref 58, .int (nI t), .int (nI b.2.1), .ref 59, .ref 60, .ref 61, .ref 62, .int xg, .ref 63, .ref 64, .ref 65, .ref 66, .ref 67, .ref 68, .ref 69, .int xc, .ref 70, .ref 71, .ref 72, .ref 73, .ref 74, .ref 75, .int xw, .ref 76, .ref 77, .ref 78, .ref 79, .ref 80]))) (X56 : h[56]? = some (.inl (0, 60, .inl (fun j => nI (b.2.2.1 j))))) (X57 : h[57]? = some (.inl (0, 60, .inl (fun j => nI (b.2.2.2.1 j))))) (X58 : h[58]? = some (.inl (0, 60, .inl (fun j => nI (b.2.2.2.2 j))))) (hp : p < 64) (hd : d ≤ 399) (hz1 : 1 ≤ x) (hz9 : x ≤ 9) (htd : t ≤ d) (hn : b.1 < 60) : ∃ h2, mv_K ev mX12_shake [.ref 52, .int (nI d), .int (nI p), .int (nI x)] h (some (.int (nI b.1))) h2 ∧ mv_fra [52, 56, 57, 58] h h2 ∧ h2[52]? = some (.inr (12, [.ref 53, .ref 54, .int xt, .int xf, .int xa, .long xo, .int xe, .int xu, .ref 55, .int xs, .int (nI (q_wr b d p x).1), .ref 56, .ref 57, .ref 58, .int (nI d), .int (nI (q_wr b d p x).2.1), .ref 59, .ref 60, .ref 61, .ref 62, .int xg, .ref 63, .ref 64, .ref 65, .ref 66, .ref 67, .ref 68, .ref 69, .int xc, .ref 70, .ref 71, .ref 72, .ref 73, .ref 74, .ref 75, .int xw, .ref 76, .ref 77, .ref 78, .ref 79, .ref 80])) ∧ h2[56]? = some (.inl (0, 60, .inl (fun j => nI ((q_wr b d p x).2.2.1 j)))) ∧ h2[57]? = some (.inl (0, 60, .inl (fun j => nI ((q_wr b d p x).2.2.2.1 j)))) ∧ h2[58]? = some (.inl (0, 60, .inl (fun j => nI ((q_wr b d p x).2.2.2.2 j)))) := by
  suffices g0 : mv_g ev mX12_shake 0 (mv_ent [.ref 52, .int (nI d), .int (nI p), .int (nI x)] (mv_ml mX12_shake)) [] h (fun r g => r = some (.int (nI b.1)) ∧ mv_fra [52, 56, 57, 58] h g ∧ g[52]? = some (.inr (12, [.ref 53, .ref 54, .int xt, .int xf, .int xa, .long xo, .int xe, .int xu, .ref 55, .int xs, .int (nI (q_wr b d p x).1), .ref 56, .ref 57, .ref 58, .int (nI d), .int (nI (q_wr b d p x).2.1), .ref 59, .ref 60, .ref 61, .ref 62, .int xg, .ref 63, .ref 64, .ref 65, .ref 66, .ref 67, .ref 68, .ref 69, .int xc, .ref 70, .ref 71, .ref 72, .ref 73, .ref 74, .ref 75, .int xw, .ref 76, .ref 77, .ref 78, .ref 79, .ref 80])) ∧ g[56]? = some (.inl (0, 60, .inl (fun j => nI ((q_wr b d p x).2.2.1 j)))) ∧ g[57]? = some (.inl (0, 60, .inl (fun j => nI ((q_wr b d p x).2.2.2.1 j)))) ∧ g[58]? = some (.inl (0, 60, .inl (fun j => nI ((q_wr b d p x).2.2.2.2 j))))) from (by obtain ⟨r0, h0, K0, q0, Q0⟩ := mv_Kex g0; subst q0; exact ⟨h0, K0, Q0⟩)
  show mv_g ev mX12_shake 0 [.ref 52, .int (nI d), .int (nI p), .int (nI x)] [] h _
  have fr : mv_fra [52, 56, 57, 58] h h := mv_fra.rf
  refine mv_iload_n dX12_shake_0 rfl ?_
  refine mv_cS1 dX12_shake_1 lk_X12_shake_121 (Nat.le_of_ble_eq_true rfl) (Nat.le_of_ble_eq_true rfl) (k_X12_isPlace (ev := ev)) ?_
  refine mv_if_ne (tgt := 11) dX12_shake_4 (by decide) (fun c4 => ?_) (fun z => absurd z ((fun z => (mv_b_0 _).mp z (mv_in_i (by omega) (by omega) (by omega)))))
  refine mv_iload_n dX12_shake_11 rfl ?_
  refine mv_cS1 dX12_shake_12 lk_X12_shake_213 (Nat.le_of_ble_eq_true rfl) (Nat.le_of_ble_eq_true rfl) (k_X12_isDay (ev := ev)) ?_
  refine mv_if_eq (tgt := 25) dX12_shake_15 (by decide) (fun z => absurd z ((fun z => (mv_b_0 _).mp z (mv_in_i (by omega) (by omega) (by omega))))) (fun c15 => ?_)
  refine mv_iload_n dX12_shake_18 rfl ?_
  refine mv_cS1 dX12_shake_19 lk_X12_shake_204 (Nat.le_of_ble_eq_true rfl) (Nat.le_of_ble_eq_true rfl) (k_X12_isSize (ev := ev)) ?_
  refine mv_if_ne (tgt := 29) dX12_shake_22 (by decide) (fun c22 => ?_) (fun z => absurd z ((fun z => (mv_b_0 _).mp z (mv_in_i (by omega) (by omega) (by omega)))))
  refine mv_aload_n dX12_shake_29 rfl ?_
  refine mv_getf (ci := 12) (f := 14) dX12_shake_30 HX rfl (by decide) wd_1213 rfl ?_
  refine mv_iload_n dX12_shake_33 rfl ?_
  refine mv_icmp_le (tgt := 41) dX12_shake_34 (by decide) (fun c34 => ?_) (fun z => absurd (((nI_leI (by omega) (by omega)).mpr htd)) z)
  refine mv_aload_n dX12_shake_41 rfl ?_
  refine mv_getf (ci := 12) (f := 10) dX12_shake_42 HX rfl (by decide) wd_1209 rfl ?_
  refine mv_bipush (v := nI 60) dX12_shake_45 (by decide) ?_
  refine mv_icmp_ne (tgt := 54) dX12_shake_47 (by decide) (fun c47 => ?_) (fun z => absurd z ((fun q => absurd ((nI_eq (by omega) (by omega)).mp q) (by omega))))
  refine mv_aload_n dX12_shake_54 rfl ?_
  refine mv_iload_n dX12_shake_55 rfl ?_
  refine mv_iload_n dX12_shake_56 rfl ?_
  refine mv_iload_n dX12_shake_57 rfl ?_
  obtain ⟨h1, K2, f3, y4, y5, y6, y7⟩ := (k_X12_addShake (ev := ev) (xt := xt) (xf := xf) (xa := xa) (xo := xo) (xe := xe) (xu := xu) (xs := xs) (xg := xg) (xc := xc) (xw := xw) (b := b) (t := t) (d := d) (p := p) (x := x) HX X56 X57 X58 hn)
  refine mv_cV3 (ci := 12) dX12_shake_58 lk_X12_shake_219 HX rfl (Nat.le_of_ble_eq_true rfl) (Nat.le_of_ble_eq_true rfl) K2 ?_
  have HX : h1[52]? = some (.inr (12, [.ref 53, .ref 54, .int xt, .int xf, .int xa, .long xo, .int xe, .int xu, .ref 55, .int xs, .int (nI (q_wr b d p x).1), .ref 56, .ref 57, .ref 58, .int (nI t), .int (nI (q_wr b d p x).2.1), .ref 59, .ref 60, .ref 61, .ref 62, .int xg, .ref 63, .ref 64, .ref 65, .ref 66, .ref 67, .ref 68, .ref 69, .int xc, .ref 70, .ref 71, .ref 72, .ref 73, .ref 74, .ref 75, .int xw, .ref 76, .ref 77, .ref 78, .ref 79, .ref 80])) := y4
  have X56 : h1[56]? = some (.inl (0, 60, .inl (fun j => nI ((q_wr b d p x).2.2.1 j)))) := y5
  have X57 : h1[57]? = some (.inl (0, 60, .inl (fun j => nI ((q_wr b d p x).2.2.2.1 j)))) := y6
  have X58 : h1[58]? = some (.inl (0, 60, .inl (fun j => nI ((q_wr b d p x).2.2.2.2 j)))) := y7
  have fr := fr.trans f3 (by decide)
  refine mv_aload_n dX12_shake_61 rfl ?_
  refine mv_iload_n dX12_shake_62 rfl ?_
  refine mv_putf (ci := 12) (f := 14) dX12_shake_63 HX rfl (by decide) wd_1213 rfl rfl (fun _ => ⟨rfl, rfl⟩) (Nat.le_of_ble_eq_true rfl) ?_
  refine mv_topH (fun h8 e9 => ?_)
  have HX : h8[52]? = some (.inr (12, [.ref 53, .ref 54, .int xt, .int xf, .int xa, .long xo, .int xe, .int xu, .ref 55, .int xs, .int (nI (q_wr b d p x).1), .ref 56, .ref 57, .ref 58, .int (nI d), .int (nI (q_wr b d p x).2.1), .ref 59, .ref 60, .ref 61, .ref 62, .int xg, .ref 63, .ref 64, .ref 65, .ref 66, .ref 67, .ref 68, .ref 69, .int xc, .ref 70, .ref 71, .ref 72, .ref 73, .ref 74, .ref 75, .int xw, .ref 76, .ref 77, .ref 78, .ref 79, .ref 80])) := mv_eq e9 HX
  have X56 := mv_ne e9 (by decide) X56
  have X57 := mv_ne e9 (by decide) X57
  have X58 := mv_ne e9 (by decide) X58
  have fr := fr.set e9 (by decide)
  clear e9
  refine mv_aload_n dX12_shake_66 rfl ?_
  refine mv_getf (ci := 12) (f := 10) dX12_shake_67 HX rfl (by decide) wd_1209 rfl ?_
  refine mv_iconst (v := nI 1) dX12_shake_70 (by decide) ?_
  refine mv_isub dX12_shake_71 ?_
  refine mv_topI (y := nI b.1) (by show nI (b.1 + 1) - nI 1 = _; rw [pk_sub (by omega)]; exact congrArg nI (by omega)) ?_
  exact mv_iret dX12_shake_72 rfl rfl ⟨rfl, fr, HX, X56, X57, X58⟩
set_option maxRecDepth 100000 in
theorem k_X12_seed_R1 {ev : mv_E} {h : mv_H} {v : Int32}  (hno : ¬ (0 ≤ v)) : mv_K ev mX12_seed [.ref 52, .int v] h (some (.int (-1002))) h := by
  refine mv_Kof ?_
  show mv_g ev mX12_seed 0 [.ref 52, .int v, .null] [] h _
  refine mv_iload_n dX12_seed_0 rfl ?_
  refine mv_if_ge (tgt := 8) dX12_seed_1 (by decide) (fun c1 => ?_) (fun c1 => ?_)
  · skip
    exact absurd (by assumption) hno
  · skip
    refine mv_sipush (v := (-1002)) dX12_seed_4 (by decide) ?_
    exact mv_iret dX12_seed_7 rfl rfl ⟨rfl, rfl⟩
set_option maxRecDepth 100000 in
theorem k_X12_seed_G {ev : mv_E} {h : mv_H} {xt : Int32} {xf : Int32} {xa : Int32} {xo : Int64} {xe : Int32} {xu : Int32} {xs : Int32} {xg : Int32} {xc : Int32} {xw : Int32} {b : t_B} {t : Nat} {v : Nat} (HX : h[52]? = some (.inr (12, [.ref 53, .ref 54, .int xt, .int xf, .int xa, .long xo, .int xe, .int xu, .ref 55, .int xs, .int (nI b.1), .ref 56, .ref 57, .ref 58, .int (nI t), .int (nI b.2.1), .ref 59, .ref 60, .ref 61, .ref 62, .int xg, .ref 63, .ref 64, .ref 65, .ref 66, .ref 67, .ref 68, .ref 69, .int xc, .ref 70, .ref 71, .ref 72, .ref 73, .ref 74, .ref 75, .int xw, .ref 76, .ref 77, .ref 78, .ref 79, .ref 80]))) (hv : v < 2147483648) : ∃ h2, mv_K ev mX12_seed [.ref 52, .int (nI v)] h (some (.int (nI b.2.1))) h2 ∧ mv_fra [52] h h2 ∧ h2[52]? = some (.inr (12, [.ref 53, .ref 54, .int xt, .int xf, .int xa, .long xo, .int xe, .int xu, .ref 55, .int xs, .int (nI (b.1, v, b.2.2).1), .ref 56, .ref 57, .ref 58, .int (nI t), .int (nI (b.1, v, b.2.2).2.1), .ref 59, .ref 60, .ref 61, .ref 62, .int xg, .ref 63, .ref 64, .ref 65, .ref 66, .ref 67, .ref 68, .ref 69, .int xc, .ref 70, .ref 71, .ref 72, .ref 73, .ref 74, .ref 75, .int xw, .ref 76, .ref 77, .ref 78, .ref 79, .ref 80])) := by
  suffices g0 : mv_g ev mX12_seed 0 (mv_ent [.ref 52, .int (nI v)] (mv_ml mX12_seed)) [] h (fun r g => r = some (.int (nI b.2.1)) ∧ mv_fra [52] h g ∧ g[52]? = some (.inr (12, [.ref 53, .ref 54, .int xt, .int xf, .int xa, .long xo, .int xe, .int xu, .ref 55, .int xs, .int (nI (b.1, v, b.2.2).1), .ref 56, .ref 57, .ref 58, .int (nI t), .int (nI (b.1, v, b.2.2).2.1), .ref 59, .ref 60, .ref 61, .ref 62, .int xg, .ref 63, .ref 64, .ref 65, .ref 66, .ref 67, .ref 68, .ref 69, .int xc, .ref 70, .ref 71, .ref 72, .ref 73, .ref 74, .ref 75, .int xw, .ref 76, .ref 77, .ref 78, .ref 79, .ref 80]))) from (by obtain ⟨r0, h0, K0, q0, Q0⟩ := mv_Kex g0; subst q0; exact ⟨h0, K0, Q0⟩)
  show mv_g ev mX12_seed 0 [.ref 52, .int (nI v), .null] [] h _
  have fr : mv_fra [52] h h := mv_fra.rf
  refine mv_iload_n dX12_seed_0 rfl ?_
  refine mv_if_ge (tgt := 8) dX12_seed_1 (by decide) (fun c1 => ?_) (fun z => absurd ((Int32.not_lt.mp (nI_pos (by omega)))) z)
  refine mv_aload_n dX12_seed_8 rfl ?_
  refine mv_getf (ci := 12) (f := 15) dX12_seed_9 HX rfl (by decide) wd_1214 rfl ?_
  refine mv_istore_n dX12_seed_12 (by decide) ?_
  refine mv_aload_n dX12_seed_13 rfl ?_
  refine mv_iload_n dX12_seed_14 rfl ?_
  refine mv_putf (ci := 12) (f := 15) dX12_seed_15 HX rfl (by decide) wd_1214 rfl rfl (fun _ => ⟨rfl, rfl⟩) (Nat.le_of_ble_eq_true rfl) ?_
  refine mv_topH (fun h1 e2 => ?_)
  have HX : h1[52]? = some (.inr (12, [.ref 53, .ref 54, .int xt, .int xf, .int xa, .long xo, .int xe, .int xu, .ref 55, .int xs, .int (nI b.1), .ref 56, .ref 57, .ref 58, .int (nI t), .int (nI v), .ref 59, .ref 60, .ref 61, .ref 62, .int xg, .ref 63, .ref 64, .ref 65, .ref 66, .ref 67, .ref 68, .ref 69, .int xc, .ref 70, .ref 71, .ref 72, .ref 73, .ref 74, .ref 75, .int xw, .ref 76, .ref 77, .ref 78, .ref 79, .ref 80])) := mv_eq e2 HX
  have fr := fr.set e2 (by decide)
  clear e2
  refine mv_iload_n dX12_seed_18 rfl ?_
  exact mv_iret dX12_seed_19 rfl rfl ⟨rfl, fr, HX⟩
set_option maxRecDepth 100000 in
theorem k_X12_run_R1 {ev : mv_E} {h : mv_H} {m : Int32}  (hno : ¬ ((nI 1 ≤ m ∧ m ≤ nI 399))) : mv_K ev mX12_run [.ref 52, .int m] h (some (.int (-1002))) h := by
  refine mv_Kof ?_
  show mv_g ev mX12_run 0 [.ref 52, .int m, .null, .null] [] h _
  refine mv_iload_n dX12_run_0 rfl ?_
  refine mv_i2l dX12_run_1 ?_
  refine mv_lconst (v := lN 1) dX12_run_2 rfl ?_
  refine mv_ldc2 (v := lN 399) dX12_run_3 wd_1423 ?_
  refine mv_cS3 dX12_run_6 lk_X12_run_107 (Nat.le_of_ble_eq_true rfl) (Nat.le_of_ble_eq_true rfl) (k_X12_in (ev := ev)) ?_
  refine mv_if_ne (tgt := 16) dX12_run_9 (by decide) (fun c9 => ?_) (fun c9 => ?_)
  · have c9 : nI 1 ≤ m ∧ m ≤ nI 399 := (and_congr (mv_lL (by decide)) (mv_lR (by decide))).mp (mv_b_ne c9)
    exact absurd (by assumption) hno
  · have c9 : ¬ (nI 1 ≤ m ∧ m ≤ nI 399) := fun z => (mv_b_0 _).mp c9 ((and_congr (mv_lL (by decide)) (mv_lR (by decide))).mpr z)
    refine mv_sipush (v := (-1002)) dX12_run_12 (by decide) ?_
    exact mv_iret dX12_run_15 rfl rfl ⟨rfl, rfl⟩
set_option maxRecDepth 100000 in
theorem k_X12_run_R2 {ev : mv_E} {h : mv_H} {xt : Int32} {xf : Int32} {xa : Int32} {xo : Int64} {xe : Int32} {xu : Int32} {xs : Int32} {xg : Int32} {xc : Int32} {xw : Int32} {b : t_B} {t : Nat} {n : Nat} (HX : h[52]? = some (.inr (12, [.ref 53, .ref 54, .int xt, .int xf, .int xa, .long xo, .int xe, .int xu, .ref 55, .int xs, .int (nI b.1), .ref 56, .ref 57, .ref 58, .int (nI t), .int (nI b.2.1), .ref 59, .ref 60, .ref 61, .ref 62, .int xg, .ref 63, .ref 64, .ref 65, .ref 66, .ref 67, .ref 68, .ref 69, .int xc, .ref 70, .ref 71, .ref 72, .ref 73, .ref 74, .ref 75, .int xw, .ref 76, .ref 77, .ref 78, .ref 79, .ref 80]))) (hn1 : 1 ≤ n) (hn : n ≤ 399) (hb60 : b.1 ≤ 60) (hno : ¬ (b.1 < 60)) : mv_K ev mX12_run [.ref 52, .int (nI n)] h (some (.int (-1004))) h := by
  refine mv_Kof ?_
  show mv_g ev mX12_run 0 [.ref 52, .int (nI n), .null, .null] [] h _
  refine mv_iload_n dX12_run_0 rfl ?_
  refine mv_i2l dX12_run_1 ?_
  refine mv_topL (y := lN n) (nI_l (by omega)) ?_
  refine mv_lconst (v := lN 1) dX12_run_2 rfl ?_
  refine mv_ldc2 (v := lN 399) dX12_run_3 wd_1423 ?_
  refine mv_cS3 dX12_run_6 lk_X12_run_107 (Nat.le_of_ble_eq_true rfl) (Nat.le_of_ble_eq_true rfl) (k_X12_in (ev := ev)) ?_
  refine mv_if_ne (tgt := 16) dX12_run_9 (by decide) (fun c9 => ?_) (fun z => absurd z ((fun z => (mv_b_0 _).mp z ((and_congr (lN_leB (by omega) (by omega)) (lN_leB (by omega) (by omega))).mpr ⟨by omega, by omega⟩))))
  refine mv_aload_n dX12_run_16 rfl ?_
  refine mv_getf (ci := 12) (f := 10) dX12_run_17 HX rfl (by decide) wd_1209 rfl ?_
  refine mv_bipush (v := nI 60) dX12_run_20 (by decide) ?_
  refine mv_icmp_ne (tgt := 29) dX12_run_22 (by decide) (fun c22 => ?_) (fun c22 => ?_)
  · have c22 : ¬ (b.1 = 60) := fun z => c22 ((nI_eq (by omega) (by omega)).mpr z)
    exact absurd (by omega) hno
  · have c22 : b.1 = 60 := (nI_eq (by omega) (by omega)).mp c22
    refine mv_sipush (v := (-1004)) dX12_run_25 (by decide) ?_
    exact mv_iret dX12_run_28 rfl rfl ⟨rfl, rfl⟩
set_option maxRecDepth 100000 in
theorem l_X12_run {ev : mv_E} {h : mv_H} {xt : Int32} {xf : Int32} {xa : Int32} {xo : Int64} {xe : Int32} {xu : Int32} {xs : Int32} {xg : Int32} {xc : Int32} {xw : Int32} {b : t_B} {t : Nat} {lw : Nat → Int32} {ln : Nat → Nat} {n : Nat}  (hb : q_BI t b) (ht : t ≤ 399) (hn1 : 1 ≤ n) (hn : n ≤ 399) (hw : q_LW lw ln) (hb60 : b.1 < 60) : ∀ (fu : Nat) (y : Nat) (q : Nat) (b2 : t_B), ∀ (g : mv_H), n < y + fu → mv_fra [52, 56, 57, 58] h g → g[52]? = some (.inr (12, [.ref 53, .ref 54, .int xt, .int xf, .int xa, .long xo, .int xe, .int xu, .ref 55, .int xs, .int (nI b2.1), .ref 56, .ref 57, .ref 58, .int (nI q), .int (nI b2.2.1), .ref 59, .ref 60, .ref 61, .ref 62, .int xg, .ref 63, .ref 64, .ref 65, .ref 66, .ref 67, .ref 68, .ref 69, .int xc, .ref 70, .ref 71, .ref 72, .ref 73, .ref 74, .ref 75, .int xw, .ref 76, .ref 77, .ref 78, .ref 79, .ref 80])) → g[56]? = some (.inl (0, 60, .inl (fun j => nI (b2.2.2.1 j)))) → g[57]? = some (.inl (0, 60, .inl (fun j => nI (b2.2.2.2.1 j)))) → g[58]? = some (.inl (0, 60, .inl (fun j => nI (b2.2.2.2.2 j)))) → g[53]? = some (.inl (0, 8, .inl lw)) → (y ≤ n) → (q = t + y) → (q ≤ 399) → (q_BI q b2) → (b.1 ≤ b2.1) → (q_rn (ln 0) (ln 1) (ln 2) (ln 3) (ln 4) (min 399 (t + n) - q) q b2 = (q_rn (ln 0) (ln 1) (ln 2) (ln 3) (ln 4) (min 399 (t + n) - t) t b)) → mv_g ev mX12_run 36 [.ref 52, .int (nI n), .int (nI b.1), .int (nI y)] [] g (fun r g => r = some (.int (nI ((q_rn (ln 0) (ln 1) (ln 2) (ln 3) (ln 4) (min 399 (t + n) - t) t b).2.1 - b.1))) ∧ mv_fra [52, 56, 57, 58] h g ∧ g[52]? = some (.inr (12, [.ref 53, .ref 54, .int xt, .int xf, .int xa, .long xo, .int xe, .int xu, .ref 55, .int xs, .int (nI (q_rn (ln 0) (ln 1) (ln 2) (ln 3) (ln 4) (min 399 (t + n) - t) t b).2.1), .ref 56, .ref 57, .ref 58, .int (nI (q_rn (ln 0) (ln 1) (ln 2) (ln 3) (ln 4) (min 399 (t + n) - t) t b).1), .int (nI (q_rn (ln 0) (ln 1) (ln 2) (ln 3) (ln 4) (min 399 (t + n) - t) t b).2.2.1), .ref 59, .ref 60, .ref 61, .ref 62, .int xg, .ref 63, .ref 64, .ref 65, .ref 66, .ref 67, .ref 68, .ref 69, .int xc, .ref 70, .ref 71, .ref 72, .ref 73, .ref 74, .ref 75, .int xw, .ref 76, .ref 77, .ref 78, .ref 79, .ref 80])) ∧ g[56]? = some (.inl (0, 60, .inl (fun j => nI ((q_rn (ln 0) (ln 1) (ln 2) (ln 3) (ln 4) (min 399 (t + n) - t) t b).2.2.2.1 j)))) ∧ g[57]? = some (.inl (0, 60, .inl (fun j => nI ((q_rn (ln 0) (ln 1) (ln 2) (ln 3) (ln 4) (min 399 (t + n) - t) t b).2.2.2.2.1 j)))) ∧ g[58]? = some (.inl (0, 60, .inl (fun j => nI ((q_rn (ln 0) (ln 1) (ln 2) (ln 3) (ln 4) (min 399 (t + n) - t) t b).2.2.2.2.2 j))))) := by
  intro fu
  induction fu with
  | zero => intro y q b2 g hm fr HX X56 X57 X58 X53 hy hqy hq3 hb2 he hq; exact absurd hm (by omega)
  | succ fu ih =>
    intro y q b2 g hm fr HX X56 X57 X58 X53 hy hqy hq3 hb2 he hq
    have hwv := hw.1
    obtain ⟨g0, g1, g2, g3, g3b, g4, g7, gmo⟩ := hw.2
    have n2 := hb2.1
    refine mv_iload_n dX12_run_36 rfl ?_
    refine mv_iload_n dX12_run_37 rfl ?_
    refine mv_icmp_ge (tgt := 84) dX12_run_38 (by decide) (fun c38 => ?_) (fun c38 => ?_)
    · have c38 : n ≤ y := (nI_leI (by omega) (by omega)).mp c38
      refine mv_aload_n dX12_run_84 rfl ?_
      refine mv_getf (ci := 12) (f := 10) dX12_run_85 HX rfl (by decide) wd_1209 rfl ?_
      refine mv_iload_n dX12_run_88 rfl ?_
      refine mv_isub dX12_run_89 ?_
      refine mv_topI (y := nI (b2.1 - b.1)) (pk_sub he) ?_
      have e9 : (q_rn (ln 0) (ln 1) (ln 2) (ln 3) (ln 4) (min 399 (t + n) - t) t b) = (q, b2) := (by rw [← hq]; exact q_rn_x (by omega))
      exact mv_iret dX12_run_90 rfl rfl ⟨(by rw [e9]), fr, (by rw [e9]; exact HX), (by rw [e9]; exact X56), (by rw [e9]; exact X57), (by rw [e9]; exact X58)⟩
    · have c38 : ¬ (n ≤ y) := fun z => c38 ((nI_leI (by omega) (by omega)).mpr z)
      refine mv_aload_n dX12_run_41 rfl ?_
      refine mv_getf (ci := 12) (f := 14) dX12_run_42 HX rfl (by decide) wd_1213 rfl ?_
      refine mv_sipush (v := nI 399) dX12_run_45 (by decide) ?_
      refine mv_icmp_ge (tgt := 84) dX12_run_48 (by decide) (fun c48 => ?_) (fun c48 => ?_)
      · have c48 : 399 ≤ q := (nI_leI (by omega) (by omega)).mp c48
        refine mv_aload_n dX12_run_84 rfl ?_
        refine mv_getf (ci := 12) (f := 10) dX12_run_85 HX rfl (by decide) wd_1209 rfl ?_
        refine mv_iload_n dX12_run_88 rfl ?_
        refine mv_isub dX12_run_89 ?_
        refine mv_topI (y := nI (b2.1 - b.1)) (pk_sub he) ?_
        have e9 : (q_rn (ln 0) (ln 1) (ln 2) (ln 3) (ln 4) (min 399 (t + n) - t) t b) = (q, b2) := (by rw [← hq]; exact q_rn_x (by omega))
        exact mv_iret dX12_run_90 rfl rfl ⟨(by rw [e9]), fr, (by rw [e9]; exact HX), (by rw [e9]; exact X56), (by rw [e9]; exact X57), (by rw [e9]; exact X58)⟩
      · have c48 : ¬ (399 ≤ q) := fun z => c48 ((nI_leI (by omega) (by omega)).mpr z)
        refine mv_aload_n dX12_run_51 rfl ?_
        refine mv_getf (ci := 12) (f := 10) dX12_run_52 HX rfl (by decide) wd_1209 rfl ?_
        refine mv_bipush (v := nI 60) dX12_run_55 (by decide) ?_
        refine mv_icmp_ge (tgt := 84) dX12_run_57 (by decide) (fun c57 => ?_) (fun c57 => ?_)
        · have c57 : 60 ≤ b2.1 := (nI_leI (by omega) (by omega)).mp c57
          refine mv_aload_n dX12_run_84 rfl ?_
          refine mv_getf (ci := 12) (f := 10) dX12_run_85 HX rfl (by decide) wd_1209 rfl ?_
          refine mv_iload_n dX12_run_88 rfl ?_
          refine mv_isub dX12_run_89 ?_
          refine mv_topI (y := nI (b2.1 - b.1)) (pk_sub he) ?_
          have e9 : (q_rn (ln 0) (ln 1) (ln 2) (ln 3) (ln 4) (min 399 (t + n) - t) t b) = (q, b2) := (by rw [← hq]; exact q_rn_x (by omega))
          exact mv_iret dX12_run_90 rfl rfl ⟨(by rw [e9]), fr, (by rw [e9]; exact HX), (by rw [e9]; exact X56), (by rw [e9]; exact X57), (by rw [e9]; exact X58)⟩
        · have c57 : ¬ (60 ≤ b2.1) := fun z => c57 ((nI_leI (by omega) (by omega)).mpr z)
          have xq := q_day_BI (R := ln 0) (G := ln 1) (A := ln 2) (D := ln 3) (N := ln 4) (q_BI_le (e := q + 1) hb2 (by omega)) (by omega) (by omega) (by omega)
          refine mv_aload_n dX12_run_60 rfl ?_
          refine mv_dup dX12_run_61 rfl ?_
          refine mv_getf (ci := 12) (f := 14) dX12_run_62 HX rfl (by decide) wd_1213 rfl ?_
          refine mv_iconst (v := nI 1) dX12_run_65 (by decide) ?_
          refine mv_iadd dX12_run_66 ?_
          refine mv_topI (y := nI (q + 1)) (nI_add _ _) ?_
          refine mv_putf (ci := 12) (f := 14) dX12_run_67 HX rfl (by decide) wd_1213 rfl rfl (fun _ => ⟨rfl, rfl⟩) (Nat.le_of_ble_eq_true rfl) ?_
          refine mv_topH (fun h1 e2 => ?_)
          have HX : h1[52]? = some (.inr (12, [.ref 53, .ref 54, .int xt, .int xf, .int xa, .long xo, .int xe, .int xu, .ref 55, .int xs, .int (nI b2.1), .ref 56, .ref 57, .ref 58, .int (nI (q + 1)), .int (nI b2.2.1), .ref 59, .ref 60, .ref 61, .ref 62, .int xg, .ref 63, .ref 64, .ref 65, .ref 66, .ref 67, .ref 68, .ref 69, .int xc, .ref 70, .ref 71, .ref 72, .ref 73, .ref 74, .ref 75, .int xw, .ref 76, .ref 77, .ref 78, .ref 79, .ref 80])) := mv_eq e2 HX
          have X56 := mv_ne e2 (by decide) X56
          have X57 := mv_ne e2 (by decide) X57
          have X58 := mv_ne e2 (by decide) X58
          have X53 := mv_ne e2 (by decide) X53
          have fr := fr.set e2 (by decide)
          clear e2
          refine mv_aload_n dX12_run_70 rfl ?_
          refine mv_aload_n dX12_run_71 rfl ?_
          refine mv_getf (ci := 12) (f := 14) dX12_run_72 HX rfl (by decide) wd_1213 rfl ?_
          obtain ⟨h3, K4, f5, y6, y7, y8, y9⟩ := (k_X12_runDay (ev := ev) (xt := xt) (xf := xf) (xa := xa) (xo := xo) (xe := xe) (xu := xu) (xs := xs) (xg := xg) (xc := xc) (xw := xw) (b := b2) (t := (q + 1)) (lw := lw) (ln := ln) (d := q + 1) HX X56 X57 X58 X53 (q_BI_le (e := q + 1) hb2 (by omega)) (by omega) (fun i hi => Nat.lt_succ_of_le (hb2.2.2.2.2.2.1 i hi)) (by omega) hw)
          refine mv_cV1 (ci := 12) dX12_run_75 lk_X12_run_242 HX rfl (Nat.le_of_ble_eq_true rfl) (Nat.le_of_ble_eq_true rfl) K4 ?_
          have HX : h3[52]? = some (.inr (12, [.ref 53, .ref 54, .int xt, .int xf, .int xa, .long xo, .int xe, .int xu, .ref 55, .int xs, .int (nI (q_day (ln 0) (ln 1) (ln 2) (ln 3) (ln 4) (q + 1) b2).1), .ref 56, .ref 57, .ref 58, .int (nI (q + 1)), .int (nI (q_day (ln 0) (ln 1) (ln 2) (ln 3) (ln 4) (q + 1) b2).2.1), .ref 59, .ref 60, .ref 61, .ref 62, .int xg, .ref 63, .ref 64, .ref 65, .ref 66, .ref 67, .ref 68, .ref 69, .int xc, .ref 70, .ref 71, .ref 72, .ref 73, .ref 74, .ref 75, .int xw, .ref 76, .ref 77, .ref 78, .ref 79, .ref 80])) := y6
          have X56 : h3[56]? = some (.inl (0, 60, .inl (fun j => nI ((q_day (ln 0) (ln 1) (ln 2) (ln 3) (ln 4) (q + 1) b2).2.2.1 j)))) := y7
          have X57 : h3[57]? = some (.inl (0, 60, .inl (fun j => nI ((q_day (ln 0) (ln 1) (ln 2) (ln 3) (ln 4) (q + 1) b2).2.2.2.1 j)))) := y8
          have X58 : h3[58]? = some (.inl (0, 60, .inl (fun j => nI ((q_day (ln 0) (ln 1) (ln 2) (ln 3) (ln 4) (q + 1) b2).2.2.2.2 j)))) := y9
          have X53 := f5.get (by decide) X53
          have fr := fr.trans f5 (by decide)
          refine mv_iinc (v := nI (y + 1)) dX12_run_78 rfl (mv_inc y 1) (by decide) ?_
          refine mv_goto (tgt := 36) dX12_run_81 (by decide) ?_
          exact ih (y + 1) (q + 1) (q_day (ln 0) (ln 1) (ln 2) (ln 3) (ln 4) (q + 1) b2) h3 (by omega) fr HX X56 X57 X58 X53 (by omega) (by omega) (by omega) xq.1 (Nat.le_trans he xq.2) (by rw [← hq, q_rn_s (f := min 399 (t + n) - q) (by omega) (by omega), Nat.sub_sub])
set_option maxRecDepth 100000 in
theorem k_X12_run_G {ev : mv_E} {h : mv_H} {xt : Int32} {xf : Int32} {xa : Int32} {xo : Int64} {xe : Int32} {xu : Int32} {xs : Int32} {xg : Int32} {xc : Int32} {xw : Int32} {b : t_B} {t : Nat} {lw : Nat → Int32} {ln : Nat → Nat} {n : Nat} (HX : h[52]? = some (.inr (12, [.ref 53, .ref 54, .int xt, .int xf, .int xa, .long xo, .int xe, .int xu, .ref 55, .int xs, .int (nI b.1), .ref 56, .ref 57, .ref 58, .int (nI t), .int (nI b.2.1), .ref 59, .ref 60, .ref 61, .ref 62, .int xg, .ref 63, .ref 64, .ref 65, .ref 66, .ref 67, .ref 68, .ref 69, .int xc, .ref 70, .ref 71, .ref 72, .ref 73, .ref 74, .ref 75, .int xw, .ref 76, .ref 77, .ref 78, .ref 79, .ref 80]))) (X56 : h[56]? = some (.inl (0, 60, .inl (fun j => nI (b.2.2.1 j))))) (X57 : h[57]? = some (.inl (0, 60, .inl (fun j => nI (b.2.2.2.1 j))))) (X58 : h[58]? = some (.inl (0, 60, .inl (fun j => nI (b.2.2.2.2 j))))) (X53 : h[53]? = some (.inl (0, 8, .inl lw))) (hb : q_BI t b) (ht : t ≤ 399) (hn1 : 1 ≤ n) (hn : n ≤ 399) (hw : q_LW lw ln) (hb60 : b.1 < 60) : ∃ h2, mv_K ev mX12_run [.ref 52, .int (nI n)] h (some (.int (nI ((q_rn (ln 0) (ln 1) (ln 2) (ln 3) (ln 4) (min 399 (t + n) - t) t b).2.1 - b.1)))) h2 ∧ mv_fra [52, 56, 57, 58] h h2 ∧ h2[52]? = some (.inr (12, [.ref 53, .ref 54, .int xt, .int xf, .int xa, .long xo, .int xe, .int xu, .ref 55, .int xs, .int (nI (q_rn (ln 0) (ln 1) (ln 2) (ln 3) (ln 4) (min 399 (t + n) - t) t b).2.1), .ref 56, .ref 57, .ref 58, .int (nI (q_rn (ln 0) (ln 1) (ln 2) (ln 3) (ln 4) (min 399 (t + n) - t) t b).1), .int (nI (q_rn (ln 0) (ln 1) (ln 2) (ln 3) (ln 4) (min 399 (t + n) - t) t b).2.2.1), .ref 59, .ref 60, .ref 61, .ref 62, .int xg, .ref 63, .ref 64, .ref 65, .ref 66, .ref 67, .ref 68, .ref 69, .int xc, .ref 70, .ref 71, .ref 72, .ref 73, .ref 74, .ref 75, .int xw, .ref 76, .ref 77, .ref 78, .ref 79, .ref 80])) ∧ h2[56]? = some (.inl (0, 60, .inl (fun j => nI ((q_rn (ln 0) (ln 1) (ln 2) (ln 3) (ln 4) (min 399 (t + n) - t) t b).2.2.2.1 j)))) ∧ h2[57]? = some (.inl (0, 60, .inl (fun j => nI ((q_rn (ln 0) (ln 1) (ln 2) (ln 3) (ln 4) (min 399 (t + n) - t) t b).2.2.2.2.1 j)))) ∧ h2[58]? = some (.inl (0, 60, .inl (fun j => nI ((q_rn (ln 0) (ln 1) (ln 2) (ln 3) (ln 4) (min 399 (t + n) - t) t b).2.2.2.2.2 j)))) := by
  suffices g0 : mv_g ev mX12_run 0 (mv_ent [.ref 52, .int (nI n)] (mv_ml mX12_run)) [] h (fun r g => r = some (.int (nI ((q_rn (ln 0) (ln 1) (ln 2) (ln 3) (ln 4) (min 399 (t + n) - t) t b).2.1 - b.1))) ∧ mv_fra [52, 56, 57, 58] h g ∧ g[52]? = some (.inr (12, [.ref 53, .ref 54, .int xt, .int xf, .int xa, .long xo, .int xe, .int xu, .ref 55, .int xs, .int (nI (q_rn (ln 0) (ln 1) (ln 2) (ln 3) (ln 4) (min 399 (t + n) - t) t b).2.1), .ref 56, .ref 57, .ref 58, .int (nI (q_rn (ln 0) (ln 1) (ln 2) (ln 3) (ln 4) (min 399 (t + n) - t) t b).1), .int (nI (q_rn (ln 0) (ln 1) (ln 2) (ln 3) (ln 4) (min 399 (t + n) - t) t b).2.2.1), .ref 59, .ref 60, .ref 61, .ref 62, .int xg, .ref 63, .ref 64, .ref 65, .ref 66, .ref 67, .ref 68, .ref 69, .int xc, .ref 70, .ref 71, .ref 72, .ref 73, .ref 74, .ref 75, .int xw, .ref 76, .ref 77, .ref 78, .ref 79, .ref 80])) ∧ g[56]? = some (.inl (0, 60, .inl (fun j => nI ((q_rn (ln 0) (ln 1) (ln 2) (ln 3) (ln 4) (min 399 (t + n) - t) t b).2.2.2.1 j)))) ∧ g[57]? = some (.inl (0, 60, .inl (fun j => nI ((q_rn (ln 0) (ln 1) (ln 2) (ln 3) (ln 4) (min 399 (t + n) - t) t b).2.2.2.2.1 j)))) ∧ g[58]? = some (.inl (0, 60, .inl (fun j => nI ((q_rn (ln 0) (ln 1) (ln 2) (ln 3) (ln 4) (min 399 (t + n) - t) t b).2.2.2.2.2 j))))) from (by obtain ⟨r0, h0, K0, q0, Q0⟩ := mv_Kex g0; subst q0; exact ⟨h0, K0, Q0⟩)
  show mv_g ev mX12_run 0 [.ref 52, .int (nI n), .null, .null] [] h _
  have fr : mv_fra [52, 56, 57, 58] h h := mv_fra.rf
  have hwv := hw.1
  obtain ⟨g0, g1, g2, g3, g3b, g4, g7, gmo⟩ := hw.2
  refine mv_iload_n dX12_run_0 rfl ?_
  refine mv_i2l dX12_run_1 ?_
  refine mv_topL (y := lN n) (nI_l (by omega)) ?_
  refine mv_lconst (v := lN 1) dX12_run_2 rfl ?_
  refine mv_ldc2 (v := lN 399) dX12_run_3 wd_1423 ?_
  refine mv_cS3 dX12_run_6 lk_X12_run_107 (Nat.le_of_ble_eq_true rfl) (Nat.le_of_ble_eq_true rfl) (k_X12_in (ev := ev)) ?_
  refine mv_if_ne (tgt := 16) dX12_run_9 (by decide) (fun c9 => ?_) (fun z => absurd z ((fun z => (mv_b_0 _).mp z ((and_congr (lN_leB (by omega) (by omega)) (lN_leB (by omega) (by omega))).mpr ⟨by omega, by omega⟩))))
  refine mv_aload_n dX12_run_16 rfl ?_
  refine mv_getf (ci := 12) (f := 10) dX12_run_17 HX rfl (by decide) wd_1209 rfl ?_
  refine mv_bipush (v := nI 60) dX12_run_20 (by decide) ?_
  refine mv_icmp_ne (tgt := 29) dX12_run_22 (by decide) (fun c22 => ?_) (fun z => absurd z ((fun q => absurd ((nI_eq (by omega) (by omega)).mp q) (by omega))))
  refine mv_aload_n dX12_run_29 rfl ?_
  refine mv_getf (ci := 12) (f := 10) dX12_run_30 HX rfl (by decide) wd_1209 rfl ?_
  refine mv_istore_n dX12_run_33 (by decide) ?_
  refine mv_iconst (v := nI 0) dX12_run_34 (by decide) ?_
  refine mv_istore_n dX12_run_35 (by decide) ?_
  exact l_X12_run hb ht hn1 hn hw hb60 (n + 1) 0 t b h (by omega) fr HX X56 X57 X58 X53 (Nat.zero_le _) rfl ht hb (Nat.le_refl _) rfl
set_option maxRecDepth 100000 in
theorem k_X12_about_R1 {ev : mv_E} {h : mv_H} {xt : Int32} {xf : Int32} {xa : Int32} {xo : Int64} {xe : Int32} {xu : Int32} {xs : Int32} {xg : Int32} {xc : Int32} {xw : Int32} {b : t_B} {t : Nat} {k : Int32} {w : Int32} (HX : h[52]? = some (.inr (12, [.ref 53, .ref 54, .int xt, .int xf, .int xa, .long xo, .int xe, .int xu, .ref 55, .int xs, .int (nI b.1), .ref 56, .ref 57, .ref 58, .int (nI t), .int (nI b.2.1), .ref 59, .ref 60, .ref 61, .ref 62, .int xg, .ref 63, .ref 64, .ref 65, .ref 66, .ref 67, .ref 68, .ref 69, .int xc, .ref 70, .ref 71, .ref 72, .ref 73, .ref 74, .ref 75, .int xw, .ref 76, .ref 77, .ref 78, .ref 79, .ref 80]))) (hn : b.1 ≤ 60) (hno : ¬ ((0 ≤ k ∧ k < nI b.1 ∧ k < nI 60))) : mv_K ev mX12_about [.ref 52, .int k, .int w] h (some (.int (-1001))) h := by
  refine mv_Kof ?_
  show mv_g ev mX12_about 0 [.ref 52, .int k, .int w] [] h _
  refine mv_aload_n dX12_about_0 rfl ?_
  refine mv_iload_n dX12_about_1 rfl ?_
  refine mv_cV1 (ci := 12) dX12_about_2 lk_X12_about_246 HX rfl (Nat.le_of_ble_eq_true rfl) (Nat.le_of_ble_eq_true rfl) (k_X12_isShake (ev := ev) HX hn) ?_
  refine mv_if_ne (tgt := 12) dX12_about_5 (by decide) (fun c5 => ?_) (fun c5 => ?_)
  · have c5 : 0 ≤ k ∧ k < nI b.1 ∧ k < nI 60 := Classical.byContradiction (fun z => c5 ((mv_b_0 _).mpr z))
    exact absurd (by assumption) hno
  · have c5 : ¬ (0 ≤ k ∧ k < nI b.1 ∧ k < nI 60) := (mv_b_0 _).mp c5
    refine mv_sipush (v := (-1001)) dX12_about_8 (by decide) ?_
    exact mv_iret dX12_about_11 rfl rfl ⟨rfl, rfl⟩
set_option maxRecDepth 100000 in
theorem k_X12_about_G {ev : mv_E} {h : mv_H} {xt : Int32} {xf : Int32} {xa : Int32} {xo : Int64} {xe : Int32} {xu : Int32} {xs : Int32} {xg : Int32} {xc : Int32} {xw : Int32} {b : t_B} {t : Nat} {k : Nat} {w : Int32} (HX : h[52]? = some (.inr (12, [.ref 53, .ref 54, .int xt, .int xf, .int xa, .long xo, .int xe, .int xu, .ref 55, .int xs, .int (nI b.1), .ref 56, .ref 57, .ref 58, .int (nI t), .int (nI b.2.1), .ref 59, .ref 60, .ref 61, .ref 62, .int xg, .ref 63, .ref 64, .ref 65, .ref 66, .ref 67, .ref 68, .ref 69, .int xc, .ref 70, .ref 71, .ref 72, .ref 73, .ref 74, .ref 75, .int xw, .ref 76, .ref 77, .ref 78, .ref 79, .ref 80]))) (X56 : h[56]? = some (.inl (0, 60, .inl (fun j => nI (b.2.2.1 j))))) (X57 : h[57]? = some (.inl (0, 60, .inl (fun j => nI (b.2.2.2.1 j))))) (X58 : h[58]? = some (.inl (0, 60, .inl (fun j => nI (b.2.2.2.2 j))))) (hk : k < b.1) (hn : b.1 ≤ 60) : mv_K ev mX12_about [.ref 52, .int (nI k), .int w] h (some (.int (q_abA b k w))) h := by
  refine mv_Kof ?_
  show mv_g ev mX12_about 0 [.ref 52, .int (nI k), .int w] [] h _
  refine mv_aload_n dX12_about_0 rfl ?_
  refine mv_iload_n dX12_about_1 rfl ?_
  refine mv_cV1 (ci := 12) dX12_about_2 lk_X12_about_246 HX rfl (Nat.le_of_ble_eq_true rfl) (Nat.le_of_ble_eq_true rfl) (k_X12_isShake (ev := ev) HX hn) ?_
  refine mv_if_ne (tgt := 12) dX12_about_5 (by decide) (fun c5 => ?_) (fun z => absurd z ((fun z => (mv_b_0 _).mp z ⟨Int32.not_lt.mp (nI_pos (by omega)), (nI_ltI (by omega) (by omega)).mpr (by omega), (nI_ltI (by omega) (by omega)).mpr (by omega)⟩)))
  refine mv_iload_n dX12_about_12 rfl ?_
  refine mv_if_ne (tgt := 25) dX12_about_13 (by decide) (fun c13 => ?_) (fun c13 => ?_)
  · skip
    refine mv_iload_n dX12_about_25 rfl ?_
    refine mv_iconst (v := nI 1) dX12_about_26 (by decide) ?_
    refine mv_icmp_ne (tgt := 39) dX12_about_27 (by decide) (fun c27 => ?_) (fun c27 => ?_)
    · skip
      refine mv_iload_n dX12_about_39 rfl ?_
      refine mv_iconst (v := nI 2) dX12_about_40 (by decide) ?_
      refine mv_icmp_ne (tgt := 53) dX12_about_41 (by decide) (fun c41 => ?_) (fun c41 => ?_)
      · skip
        refine mv_sipush (v := (-1002)) dX12_about_53 (by decide) ?_
        have e9 : q_abA b k w = -1002 := ((if_neg c13).trans ((if_neg c27).trans (if_neg c41)))
        exact mv_iret dX12_about_56 rfl rfl ⟨(by rw [e9]), rfl⟩
      · skip
        refine mv_aload_n dX12_about_44 rfl ?_
        refine mv_getf (ci := 12) (f := 13) dX12_about_45 HX rfl (by decide) wd_1212 rfl ?_
        refine mv_iload_n dX12_about_48 rfl ?_
        refine mv_iaN (j := k) (x := nI (b.2.2.2.2 k)) dX12_about_49 X58 rfl (by decide) (by omega) rfl ?_
        refine mv_goto (tgt := 56) dX12_about_50 (by decide) ?_
        have e9 : q_abA b k w = nI (b.2.2.2.2 k) := ((if_neg c13).trans ((if_neg c27).trans (if_pos c41)))
        exact mv_iret dX12_about_56 rfl rfl ⟨(by rw [e9]), rfl⟩
    · skip
      refine mv_aload_n dX12_about_30 rfl ?_
      refine mv_getf (ci := 12) (f := 12) dX12_about_31 HX rfl (by decide) wd_1211 rfl ?_
      refine mv_iload_n dX12_about_34 rfl ?_
      refine mv_iaN (j := k) (x := nI (b.2.2.2.1 k)) dX12_about_35 X57 rfl (by decide) (by omega) rfl ?_
      refine mv_goto (tgt := 56) dX12_about_36 (by decide) ?_
      have e9 : q_abA b k w = nI (b.2.2.2.1 k) := ((if_neg c13).trans (if_pos c27))
      exact mv_iret dX12_about_56 rfl rfl ⟨(by rw [e9]), rfl⟩
  · skip
    refine mv_aload_n dX12_about_16 rfl ?_
    refine mv_getf (ci := 12) (f := 11) dX12_about_17 HX rfl (by decide) wd_1210 rfl ?_
    refine mv_iload_n dX12_about_20 rfl ?_
    refine mv_iaN (j := k) (x := nI (b.2.2.1 k)) dX12_about_21 X56 rfl (by decide) (by omega) rfl ?_
    refine mv_goto (tgt := 56) dX12_about_22 (by decide) ?_
    have e9 : q_abA b k w = nI (b.2.2.1 k) := (if_pos c13)
    exact mv_iret dX12_about_56 rfl rfl ⟨(by rw [e9]), rfl⟩
set_option maxRecDepth 100000 in
theorem l_X12_count {ev : mv_E} {h : mv_H} {xf : Int32} {xa : Int32} {xo : Int64} {xe : Int32} {xu : Int32} {xs : Int32} {b : t_B} {t : Nat} {n : Nat} {s : q_S} {c : q_C} {wo : q_W} {rr : Nat → Nat} {w : Int32} (HX : h[52]? = some (.inr (12, [.ref 53, .ref 54, .int (nI n), .int xf, .int xa, .long xo, .int xe, .int xu, .ref 55, .int xs, .int (nI b.1), .ref 56, .ref 57, .ref 58, .int (nI t), .int (nI b.2.1), .ref 59, .ref 60, .ref 61, .ref 62, .int (nI s.1), .ref 63, .ref 64, .ref 65, .ref 66, .ref 67, .ref 68, .ref 69, .int (nI c.1), .ref 70, .ref 71, .ref 72, .ref 73, .ref 74, .ref 75, .int (nI wo.1), .ref 76, .ref 77, .ref 78, .ref 79, .ref 80]))) (X62 : h[62]? = some (.inl (2, 400, .inl (fun j => nI (rr j))))) (hr : ∀ d, rr d ≤ 1) : ∀ (fu : Nat) (v : Nat) (y : Nat), 400 < y + fu → (y ≤ 400) → (v = q_cr rr y) → mv_g ev mX12_count 4 [.ref 52, .int w, .int (nI v), .int (nI y)] [] h (fun r g => r = some (.int (q_coA b.1 s.1 c.1 wo.1 t n (q_cr rr 400) w)) ∧ g = h) := by
  intro fu
  induction fu with
  | zero => intro v y hm hy hv; exact absurd hm (by omega)
  | succ fu ih =>
    intro v y hm hy hv
    have n1 := hr y
    have n2 := q_cr_le hr y
    refine mv_iload_n dX12_count_4 rfl ?_
    refine mv_sipush (v := nI 399) dX12_count_5 (by decide) ?_
    refine mv_icmp_gt (tgt := 34) dX12_count_8 (by decide) (fun c8 => ?_) (fun c8 => ?_)
    · have c8 : 399 < y := (nI_ltI (by omega) (by omega)).mp c8
      refine mv_iload_n dX12_count_34 rfl ?_
      by_cases z35_0 : w = nI 0
      · subst z35_0
        refine mv_tswIn (tgt := 76) dX12_count_35 (by decide) (by decide) rfl (by decide) ?_
        refine mv_aload_n dX12_count_76 rfl ?_
        refine mv_getf (ci := 12) (f := 10) dX12_count_77 HX rfl (by decide) wd_1209 rfl ?_
        have e9 : q_coA b.1 s.1 c.1 wo.1 t n (q_cr rr 400) (nI 0) = nI b.1 := (if_pos rfl)
        exact mv_iret dX12_count_80 rfl rfl ⟨(by rw [e9]), rfl⟩
      · skip
        by_cases z35_1 : w = nI 1
        · subst z35_1
          refine mv_tswIn (tgt := 81) dX12_count_35 (by decide) (by decide) rfl (by decide) ?_
          refine mv_aload_n dX12_count_81 rfl ?_
          refine mv_getf (ci := 12) (f := 20) dX12_count_82 HX rfl (by decide) wd_1219 rfl ?_
          have e9 : q_coA b.1 s.1 c.1 wo.1 t n (q_cr rr 400) (nI 1) = nI s.1 := ((if_neg (show ¬ (nI 1) = nI 0 by decide)).trans (if_pos rfl))
          exact mv_iret dX12_count_85 rfl rfl ⟨(by rw [e9]), rfl⟩
        · skip
          by_cases z35_2 : w = nI 2
          · subst z35_2
            refine mv_tswIn (tgt := 86) dX12_count_35 (by decide) (by decide) rfl (by decide) ?_
            refine mv_aload_n dX12_count_86 rfl ?_
            refine mv_getf (ci := 12) (f := 28) dX12_count_87 HX rfl (by decide) wd_1227 rfl ?_
            have e9 : q_coA b.1 s.1 c.1 wo.1 t n (q_cr rr 400) (nI 2) = nI c.1 := ((if_neg (show ¬ (nI 2) = nI 0 by decide)).trans ((if_neg (show ¬ (nI 2) = nI 1 by decide)).trans (if_pos rfl)))
            exact mv_iret dX12_count_90 rfl rfl ⟨(by rw [e9]), rfl⟩
          · skip
            by_cases z35_3 : w = nI 3
            · subst z35_3
              refine mv_tswIn (tgt := 91) dX12_count_35 (by decide) (by decide) rfl (by decide) ?_
              refine mv_aload_n dX12_count_91 rfl ?_
              refine mv_getf (ci := 12) (f := 35) dX12_count_92 HX rfl (by decide) wd_1234 rfl ?_
              have e9 : q_coA b.1 s.1 c.1 wo.1 t n (q_cr rr 400) (nI 3) = nI wo.1 := ((if_neg (show ¬ (nI 3) = nI 0 by decide)).trans ((if_neg (show ¬ (nI 3) = nI 1 by decide)).trans ((if_neg (show ¬ (nI 3) = nI 2 by decide)).trans (if_pos rfl))))
              exact mv_iret dX12_count_95 rfl rfl ⟨(by rw [e9]), rfl⟩
            · skip
              by_cases z35_4 : w = nI 4
              · subst z35_4
                refine mv_tswIn (tgt := 96) dX12_count_35 (by decide) (by decide) rfl (by decide) ?_
                refine mv_aload_n dX12_count_96 rfl ?_
                refine mv_getf (ci := 12) (f := 14) dX12_count_97 HX rfl (by decide) wd_1213 rfl ?_
                have e9 : q_coA b.1 s.1 c.1 wo.1 t n (q_cr rr 400) (nI 4) = nI t := ((if_neg (show ¬ (nI 4) = nI 0 by decide)).trans ((if_neg (show ¬ (nI 4) = nI 1 by decide)).trans ((if_neg (show ¬ (nI 4) = nI 2 by decide)).trans ((if_neg (show ¬ (nI 4) = nI 3 by decide)).trans (if_pos rfl)))))
                exact mv_iret dX12_count_100 rfl rfl ⟨(by rw [e9]), rfl⟩
              · skip
                by_cases z35_5 : w = nI 5
                · subst z35_5
                  refine mv_tswIn (tgt := 101) dX12_count_35 (by decide) (by decide) rfl (by decide) ?_
                  refine mv_aload_n dX12_count_101 rfl ?_
                  refine mv_getf (ci := 12) (f := 2) dX12_count_102 HX rfl (by decide) wd_1201 rfl ?_
                  have e9 : q_coA b.1 s.1 c.1 wo.1 t n (q_cr rr 400) (nI 5) = nI n := ((if_neg (show ¬ (nI 5) = nI 0 by decide)).trans ((if_neg (show ¬ (nI 5) = nI 1 by decide)).trans ((if_neg (show ¬ (nI 5) = nI 2 by decide)).trans ((if_neg (show ¬ (nI 5) = nI 3 by decide)).trans ((if_neg (show ¬ (nI 5) = nI 4 by decide)).trans (if_pos rfl))))))
                  exact mv_iret dX12_count_105 rfl rfl ⟨(by rw [e9]), rfl⟩
                · skip
                  by_cases z35_6 : w = nI 6
                  · subst z35_6
                    refine mv_tswIn (tgt := 106) dX12_count_35 (by decide) (by decide) rfl (by decide) ?_
                    refine mv_iload_n dX12_count_106 rfl ?_
                    have ey : y = 400 := (by omega)
                    have ev : v = q_cr rr 400 := (by rw [hv, ey])
                    rw [ev]
                    have e9 : q_coA b.1 s.1 c.1 wo.1 t n (q_cr rr 400) (nI 6) = nI (q_cr rr 400) := ((if_neg (show ¬ (nI 6) = nI 0 by decide)).trans ((if_neg (show ¬ (nI 6) = nI 1 by decide)).trans ((if_neg (show ¬ (nI 6) = nI 2 by decide)).trans ((if_neg (show ¬ (nI 6) = nI 3 by decide)).trans ((if_neg (show ¬ (nI 6) = nI 4 by decide)).trans ((if_neg (show ¬ (nI 6) = nI 5 by decide)).trans (if_pos rfl)))))))
                    exact mv_iret dX12_count_107 rfl rfl ⟨(by rw [e9]), rfl⟩
                  · skip
                    refine mv_tswOut (tgt := 108) dX12_count_35 (by have t0 := mv_tn z35_0 (by decide); have t1 := mv_tn z35_1 (by decide); have t2 := mv_tn z35_2 (by decide); have t3 := mv_tn z35_3 (by decide); have t4 := mv_tn z35_4 (by decide); have t5 := mv_tn z35_5 (by decide); have t6 := mv_tn z35_6 (by decide); omega) (by decide) ?_
                    refine mv_sipush (v := (-1002)) dX12_count_108 (by decide) ?_
                    have e9 : q_coA b.1 s.1 c.1 wo.1 t n (q_cr rr 400) w = -1002 := ((if_neg (show ¬ w = nI 0 by assumption)).trans ((if_neg (show ¬ w = nI 1 by assumption)).trans ((if_neg (show ¬ w = nI 2 by assumption)).trans ((if_neg (show ¬ w = nI 3 by assumption)).trans ((if_neg (show ¬ w = nI 4 by assumption)).trans ((if_neg (show ¬ w = nI 5 by assumption)).trans (if_neg (show ¬ w = nI 6 by assumption))))))))
                    exact mv_iret dX12_count_111 rfl rfl ⟨(by rw [e9]), rfl⟩
    · have c8 : ¬ (399 < y) := fun z => c8 ((nI_ltI (by omega) (by omega)).mpr z)
      refine mv_iload_n dX12_count_11 rfl ?_
      refine mv_aload_n dX12_count_12 rfl ?_
      refine mv_getf (ci := 12) (f := 19) dX12_count_13 HX rfl (by decide) wd_1218 rfl ?_
      refine mv_iload_n dX12_count_16 rfl ?_
      refine mv_zaN (j := y) (x := nI (rr y)) dX12_count_17 X62 rfl (by decide) (by omega) rfl ?_
      refine mv_if_eq (tgt := 25) dX12_count_18 (by decide) (fun c18 => ?_) (fun c18 => ?_)
      · have c18 : rr y = 0 := (nI_eq (b := 0) (by omega) (by omega)).mp c18
        refine mv_iconst (v := nI 0) dX12_count_25 (by decide) ?_
        refine mv_iadd dX12_count_26 ?_
        refine mv_topI (y := nI (v + 0)) (nI_add _ _) ?_
        refine mv_istore_n dX12_count_27 (by decide) ?_
        refine mv_iinc (v := nI (y + 1)) dX12_count_28 rfl (mv_inc y 1) (by decide) ?_
        refine mv_goto (tgt := 4) dX12_count_31 (by decide) ?_
        exact ih (v + 0) (y + 1) (by omega) (by omega) (by show _ = q_cr rr y + rr y; omega)
      · have c18 : ¬ (rr y = 0) := fun z => c18 ((nI_eq (b := 0) (by omega) (by omega)).mpr z)
        refine mv_iconst (v := nI 1) dX12_count_21 (by decide) ?_
        refine mv_goto (tgt := 26) dX12_count_22 (by decide) ?_
        refine mv_iadd dX12_count_26 ?_
        refine mv_topI (y := nI (v + 1)) (nI_add _ _) ?_
        refine mv_istore_n dX12_count_27 (by decide) ?_
        refine mv_iinc (v := nI (y + 1)) dX12_count_28 rfl (mv_inc y 1) (by decide) ?_
        refine mv_goto (tgt := 4) dX12_count_31 (by decide) ?_
        exact ih (v + 1) (y + 1) (by omega) (by omega) (by show _ = q_cr rr y + rr y; omega)
set_option maxRecDepth 100000 in
theorem k_X12_count_G {ev : mv_E} {h : mv_H} {xf : Int32} {xa : Int32} {xo : Int64} {xe : Int32} {xu : Int32} {xs : Int32} {b : t_B} {t : Nat} {n : Nat} {s : q_S} {c : q_C} {wo : q_W} {rr : Nat → Nat} {w : Int32} (HX : h[52]? = some (.inr (12, [.ref 53, .ref 54, .int (nI n), .int xf, .int xa, .long xo, .int xe, .int xu, .ref 55, .int xs, .int (nI b.1), .ref 56, .ref 57, .ref 58, .int (nI t), .int (nI b.2.1), .ref 59, .ref 60, .ref 61, .ref 62, .int (nI s.1), .ref 63, .ref 64, .ref 65, .ref 66, .ref 67, .ref 68, .ref 69, .int (nI c.1), .ref 70, .ref 71, .ref 72, .ref 73, .ref 74, .ref 75, .int (nI wo.1), .ref 76, .ref 77, .ref 78, .ref 79, .ref 80]))) (X62 : h[62]? = some (.inl (2, 400, .inl (fun j => nI (rr j))))) (hr : ∀ d, rr d ≤ 1) : mv_K ev mX12_count [.ref 52, .int w] h (some (.int (q_coA b.1 s.1 c.1 wo.1 t n (q_cr rr 400) w))) h := by
  refine mv_Kof ?_
  show mv_g ev mX12_count 0 [.ref 52, .int w, .null, .null] [] h _
  refine mv_iconst (v := nI 0) dX12_count_0 (by decide) ?_
  refine mv_istore_n dX12_count_1 (by decide) ?_
  refine mv_iconst (v := nI 0) dX12_count_2 (by decide) ?_
  refine mv_istore_n dX12_count_3 (by decide) ?_
  exact l_X12_count HX X62 hr 401 0 0 (by omega) (Nat.zero_le _) rfl
set_option maxRecDepth 100000 in
theorem k_X12_odds_R1 {ev : mv_E} {h : mv_H} {d : Int32} {p : Int32} {m : Int32} {x : Int32} {a : Int32} {e : Int32}  (hno : ¬ ((nI 0 ≤ p ∧ p ≤ nI 63))) : mv_K ev mX12_odds [.ref 52, .int d, .int p, .int m, .int x, .int a, .int e] h (some (.int (-1001))) h := by
  refine mv_Kof ?_
  show mv_g ev mX12_odds 0 [.ref 52, .int d, .int p, .int m, .int x, .int a, .int e] [] h _
  refine mv_iload_n dX12_odds_0 rfl ?_
  refine mv_cS1 dX12_odds_1 lk_X12_odds_121 (Nat.le_of_ble_eq_true rfl) (Nat.le_of_ble_eq_true rfl) (k_X12_isPlace (ev := ev)) ?_
  refine mv_if_ne (tgt := 11) dX12_odds_4 (by decide) (fun c4 => ?_) (fun c4 => ?_)
  · have c4 : nI 0 ≤ p ∧ p ≤ nI 63 := Classical.byContradiction (fun z => c4 ((mv_b_0 _).mpr z))
    exact absurd (by assumption) hno
  · have c4 : ¬ (nI 0 ≤ p ∧ p ≤ nI 63) := (mv_b_0 _).mp c4
    refine mv_sipush (v := (-1001)) dX12_odds_7 (by decide) ?_
    exact mv_iret dX12_odds_10 rfl rfl ⟨rfl, rfl⟩
set_option maxRecDepth 100000 in
theorem k_X12_odds_R2 {ev : mv_E} {h : mv_H} {d : Int32} {m : Int32} {x : Int32} {a : Int32} {e : Int32} {p : Nat}  (hp : p < 64) (hno : ¬ ((nI 0 ≤ d ∧ d ≤ nI 399) ∧ (nI 0 ≤ m ∧ m ≤ nI 7) ∧ (nI 1 ≤ x ∧ x ≤ nI 9) ∧ (d < a ∧ a ≤ nI 399) ∧ (a ≤ e ∧ e ≤ nI 399))) : mv_K ev mX12_odds [.ref 52, .int d, .int (nI p), .int m, .int x, .int a, .int e] h (some (.int (-1002))) h := by
  refine mv_Kof ?_
  show mv_g ev mX12_odds 0 [.ref 52, .int d, .int (nI p), .int m, .int x, .int a, .int e] [] h _
  refine mv_iload_n dX12_odds_0 rfl ?_
  refine mv_cS1 dX12_odds_1 lk_X12_odds_121 (Nat.le_of_ble_eq_true rfl) (Nat.le_of_ble_eq_true rfl) (k_X12_isPlace (ev := ev)) ?_
  refine mv_if_ne (tgt := 11) dX12_odds_4 (by decide) (fun c4 => ?_) (fun z => absurd z ((fun z => (mv_b_0 _).mp z (mv_in_i (by omega) (by omega) (by omega)))))
  refine mv_iload_n dX12_odds_11 rfl ?_
  refine mv_cS1 dX12_odds_12 lk_X12_odds_213 (Nat.le_of_ble_eq_true rfl) (Nat.le_of_ble_eq_true rfl) (k_X12_isDay (ev := ev)) ?_
  refine mv_if_eq (tgt := 64) dX12_odds_15 (by decide) (fun c15 => ?_) (fun c15 => ?_)
  · have c15 : ¬ (nI 0 ≤ d ∧ d ≤ nI 399) := (mv_b_0 _).mp c15
    refine mv_sipush (v := (-1002)) dX12_odds_64 (by decide) ?_
    exact mv_iret dX12_odds_67 rfl rfl ⟨rfl, rfl⟩
  · have c15 : nI 0 ≤ d ∧ d ≤ nI 399 := Classical.byContradiction (fun z => c15 ((mv_b_0 _).mpr z))
    refine mv_iload_n dX12_odds_18 rfl ?_
    refine mv_cS1 dX12_odds_19 lk_X12_odds_125 (Nat.le_of_ble_eq_true rfl) (Nat.le_of_ble_eq_true rfl) (k_X12_isNear (ev := ev)) ?_
    refine mv_if_eq (tgt := 64) dX12_odds_22 (by decide) (fun c22 => ?_) (fun c22 => ?_)
    · have c22 : ¬ (nI 0 ≤ m ∧ m ≤ nI 7) := (mv_b_0 _).mp c22
      refine mv_sipush (v := (-1002)) dX12_odds_64 (by decide) ?_
      exact mv_iret dX12_odds_67 rfl rfl ⟨rfl, rfl⟩
    · have c22 : nI 0 ≤ m ∧ m ≤ nI 7 := Classical.byContradiction (fun z => c22 ((mv_b_0 _).mpr z))
      refine mv_iload dX12_odds_25 rfl ?_
      refine mv_cS1 dX12_odds_27 lk_X12_odds_204 (Nat.le_of_ble_eq_true rfl) (Nat.le_of_ble_eq_true rfl) (k_X12_isSize (ev := ev)) ?_
      refine mv_if_eq (tgt := 64) dX12_odds_30 (by decide) (fun c30 => ?_) (fun c30 => ?_)
      · have c30 : ¬ (nI 1 ≤ x ∧ x ≤ nI 9) := (mv_b_0 _).mp c30
        refine mv_sipush (v := (-1002)) dX12_odds_64 (by decide) ?_
        exact mv_iret dX12_odds_67 rfl rfl ⟨rfl, rfl⟩
      · have c30 : nI 1 ≤ x ∧ x ≤ nI 9 := Classical.byContradiction (fun z => c30 ((mv_b_0 _).mpr z))
        refine mv_iload dX12_odds_33 rfl ?_
        refine mv_i2l dX12_odds_35 ?_
        refine mv_iload_n dX12_odds_36 rfl ?_
        refine mv_iconst (v := nI 1) dX12_odds_37 (by decide) ?_
        refine mv_iadd dX12_odds_38 ?_
        refine mv_i2l dX12_odds_39 ?_
        refine mv_ldc2 (v := lN 399) dX12_odds_40 wd_1423 ?_
        refine mv_cS3 dX12_odds_43 lk_X12_odds_107 (Nat.le_of_ble_eq_true rfl) (Nat.le_of_ble_eq_true rfl) (k_X12_in (ev := ev)) ?_
        refine mv_if_eq (tgt := 64) dX12_odds_46 (by decide) (fun c46 => ?_) (fun c46 => ?_)
        · have c46 : ¬ (d < a ∧ a ≤ nI 399) := fun z => (mv_b_0 _).mp c46 ((q_ina c15).mpr z)
          refine mv_sipush (v := (-1002)) dX12_odds_64 (by decide) ?_
          exact mv_iret dX12_odds_67 rfl rfl ⟨rfl, rfl⟩
        · have c46 : (d < a ∧ a ≤ nI 399) := (q_ina c15).mp (mv_b_ne c46)
          refine mv_iload dX12_odds_49 rfl ?_
          refine mv_i2l dX12_odds_51 ?_
          refine mv_iload dX12_odds_52 rfl ?_
          refine mv_i2l dX12_odds_54 ?_
          refine mv_ldc2 (v := lN 399) dX12_odds_55 wd_1423 ?_
          refine mv_cS3 dX12_odds_58 lk_X12_odds_107 (Nat.le_of_ble_eq_true rfl) (Nat.le_of_ble_eq_true rfl) (k_X12_in (ev := ev)) ?_
          refine mv_if_ne (tgt := 68) dX12_odds_61 (by decide) (fun c61 => ?_) (fun c61 => ?_)
          · have c61 : (a ≤ e ∧ e ≤ nI 399) := (and_congr (mv_l_le _ _) (mv_lR (by decide))).mp (mv_b_ne c61)
            exact absurd (by refine ⟨?_, ?_, ?_, ?_, ?_⟩ <;> assumption) hno
          · have c61 : ¬ (a ≤ e ∧ e ≤ nI 399) := fun z => (mv_b_0 _).mp c61 ((and_congr (mv_l_le _ _) (mv_lR (by decide))).mpr z)
            refine mv_sipush (v := (-1002)) dX12_odds_64 (by decide) ?_
            exact mv_iret dX12_odds_67 rfl rfl ⟨rfl, rfl⟩
set_option maxRecDepth 100000 in
theorem k_X12_odds_G {ev : mv_E} {h : mv_H} {xt : Int32} {xf : Int32} {xa : Int32} {xo : Int64} {xe : Int32} {xu : Int32} {xs : Int32} {xg : Int32} {xc : Int32} {xw : Int32} {b : t_B} {t : Nat} {lw : Nat → Int32} {ln : Nat → Nat} {d : Nat} {p : Nat} {m : Nat} {x : Nat} {a : Nat} {e : Nat} {dd : Nat} (HX : h[52]? = some (.inr (12, [.ref 53, .ref 54, .int xt, .int xf, .int xa, .long xo, .int xe, .int xu, .ref 55, .int xs, .int (nI b.1), .ref 56, .ref 57, .ref 58, .int (nI t), .int (nI b.2.1), .ref 59, .ref 60, .ref 61, .ref 62, .int xg, .ref 63, .ref 64, .ref 65, .ref 66, .ref 67, .ref 68, .ref 69, .int xc, .ref 70, .ref 71, .ref 72, .ref 73, .ref 74, .ref 75, .int xw, .ref 76, .ref 77, .ref 78, .ref 79, .ref 80]))) (X56 : h[56]? = some (.inl (0, 60, .inl (fun j => nI (b.2.2.1 j))))) (X57 : h[57]? = some (.inl (0, 60, .inl (fun j => nI (b.2.2.2.1 j))))) (X58 : h[58]? = some (.inl (0, 60, .inl (fun j => nI (b.2.2.2.2 j))))) (X53 : h[53]? = some (.inl (0, 8, .inl lw))) (hw : q_LW lw ln) (hb : q_BI dd b) (hp : p < 64) (hm0 : m < 8) (hz1 : 1 ≤ x) (hz9 : x ≤ 9) (hda : d < a) (hae : a ≤ e) (he : e ≤ 399) : mv_K ev mX12_odds [.ref 52, .int (nI d), .int (nI p), .int (nI m), .int (nI x), .int (nI a), .int (nI e)] h (some (.int (nI (q_od ln b p m x a e (q_ut b (nI d)))))) h := by
  refine mv_Kof ?_
  show mv_g ev mX12_odds 0 [.ref 52, .int (nI d), .int (nI p), .int (nI m), .int (nI x), .int (nI a), .int (nI e)] [] h _
  have n9 := hb.1
  refine mv_iload_n dX12_odds_0 rfl ?_
  refine mv_cS1 dX12_odds_1 lk_X12_odds_121 (Nat.le_of_ble_eq_true rfl) (Nat.le_of_ble_eq_true rfl) (k_X12_isPlace (ev := ev)) ?_
  refine mv_if_ne (tgt := 11) dX12_odds_4 (by decide) (fun c4 => ?_) (fun z => absurd z ((fun z => (mv_b_0 _).mp z (mv_in_i (by omega) (by omega) (by omega)))))
  refine mv_iload_n dX12_odds_11 rfl ?_
  refine mv_cS1 dX12_odds_12 lk_X12_odds_213 (Nat.le_of_ble_eq_true rfl) (Nat.le_of_ble_eq_true rfl) (k_X12_isDay (ev := ev)) ?_
  refine mv_if_eq (tgt := 64) dX12_odds_15 (by decide) (fun z => absurd z ((fun z => (mv_b_0 _).mp z (mv_in_i (by omega) (by omega) (by omega))))) (fun c15 => ?_)
  refine mv_iload_n dX12_odds_18 rfl ?_
  refine mv_cS1 dX12_odds_19 lk_X12_odds_125 (Nat.le_of_ble_eq_true rfl) (Nat.le_of_ble_eq_true rfl) (k_X12_isNear (ev := ev)) ?_
  refine mv_if_eq (tgt := 64) dX12_odds_22 (by decide) (fun z => absurd z ((fun z => (mv_b_0 _).mp z (mv_in_i (by omega) (by omega) (by omega))))) (fun c22 => ?_)
  refine mv_iload dX12_odds_25 rfl ?_
  refine mv_cS1 dX12_odds_27 lk_X12_odds_204 (Nat.le_of_ble_eq_true rfl) (Nat.le_of_ble_eq_true rfl) (k_X12_isSize (ev := ev)) ?_
  refine mv_if_eq (tgt := 64) dX12_odds_30 (by decide) (fun z => absurd z ((fun z => (mv_b_0 _).mp z (mv_in_i (by omega) (by omega) (by omega))))) (fun c30 => ?_)
  refine mv_iload dX12_odds_33 rfl ?_
  refine mv_i2l dX12_odds_35 ?_
  refine mv_topL (y := lN a) (nI_l (by omega)) ?_
  refine mv_iload_n dX12_odds_36 rfl ?_
  refine mv_iconst (v := nI 1) dX12_odds_37 (by decide) ?_
  refine mv_iadd dX12_odds_38 ?_
  refine mv_topI (y := nI (d + 1)) (nI_add _ _) ?_
  refine mv_i2l dX12_odds_39 ?_
  refine mv_topL (y := lN (d + 1)) (nI_l (by omega)) ?_
  refine mv_ldc2 (v := lN 399) dX12_odds_40 wd_1423 ?_
  refine mv_cS3 dX12_odds_43 lk_X12_odds_107 (Nat.le_of_ble_eq_true rfl) (Nat.le_of_ble_eq_true rfl) (k_X12_in (ev := ev)) ?_
  refine mv_if_eq (tgt := 64) dX12_odds_46 (by decide) (fun z => absurd z ((fun z => (mv_b_0 _).mp z ((and_congr (lN_leB (by omega) (by omega)) (lN_leB (by omega) (by omega))).mpr ⟨by omega, by omega⟩)))) (fun c46 => ?_)
  refine mv_iload dX12_odds_49 rfl ?_
  refine mv_i2l dX12_odds_51 ?_
  refine mv_topL (y := lN e) (nI_l (by omega)) ?_
  refine mv_iload dX12_odds_52 rfl ?_
  refine mv_i2l dX12_odds_54 ?_
  refine mv_topL (y := lN a) (nI_l (by omega)) ?_
  refine mv_ldc2 (v := lN 399) dX12_odds_55 wd_1423 ?_
  refine mv_cS3 dX12_odds_58 lk_X12_odds_107 (Nat.le_of_ble_eq_true rfl) (Nat.le_of_ble_eq_true rfl) (k_X12_in (ev := ev)) ?_
  refine mv_if_ne (tgt := 68) dX12_odds_61 (by decide) (fun c61 => ?_) (fun z => absurd z ((fun z => (mv_b_0 _).mp z ((and_congr (lN_leB (by omega) (by omega)) (lN_leB (by omega) (by omega))).mpr ⟨by omega, by omega⟩))))
  refine mv_aload_n dX12_odds_68 rfl ?_
  refine mv_aload_n dX12_odds_69 rfl ?_
  refine mv_iload_n dX12_odds_70 rfl ?_
  refine mv_cV1 (ci := 12) dX12_odds_71 lk_X12_odds_275 HX rfl (Nat.le_of_ble_eq_true rfl) (Nat.le_of_ble_eq_true rfl) (k_X12_upTo (ev := ev) HX X56 n9) ?_
  refine mv_iload_n dX12_odds_74 rfl ?_
  refine mv_iload_n dX12_odds_75 rfl ?_
  refine mv_iload dX12_odds_76 rfl ?_
  refine mv_iload dX12_odds_78 rfl ?_
  refine mv_iload dX12_odds_80 rfl ?_
  refine mv_cV6 (ci := 12) dX12_odds_82 lk_X12_odds_278 HX rfl (Nat.le_of_ble_eq_true rfl) (Nat.le_of_ble_eq_true rfl) (k_X12_oddsOf (ev := ev) HX X56 X57 X58 X53 hw hp hm0 hz1 hz9 hb he hae (q_ut_le _ _) (q_ut_a hb (by omega) ((nI_ltI (by omega) (by omega)).mpr hda))) ?_
  exact mv_iret dX12_odds_85 rfl rfl ⟨rfl, rfl⟩
set_option maxRecDepth 100000 in
theorem k_X12_watch_R1 {ev : mv_E} {h : mv_H} {k : Int32} {p : Int32} {a : Int32} {e : Int32}  (hno : ¬ ((nI 0 ≤ k ∧ k ≤ nI 7) ∧ (nI 0 ≤ p ∧ p ≤ nI 63))) : mv_K ev mX12_watch [.ref 52, .int k, .int p, .int a, .int e] h (some (.int (-1001))) h := by
  refine mv_Kof ?_
  show mv_g ev mX12_watch 0 [.ref 52, .int k, .int p, .int a, .int e, .null] [] h _
  refine mv_iload_n dX12_watch_0 rfl ?_
  refine mv_cS1 dX12_watch_1 lk_X12_watch_282 (Nat.le_of_ble_eq_true rfl) (Nat.le_of_ble_eq_true rfl) (k_X12_isKind (ev := ev)) ?_
  refine mv_if_eq (tgt := 14) dX12_watch_4 (by decide) (fun c4 => ?_) (fun c4 => ?_)
  · have c4 : ¬ (nI 0 ≤ k ∧ k ≤ nI 7) := (mv_b_0 _).mp c4
    refine mv_sipush (v := (-1001)) dX12_watch_14 (by decide) ?_
    exact mv_iret dX12_watch_17 rfl rfl ⟨rfl, rfl⟩
  · have c4 : nI 0 ≤ k ∧ k ≤ nI 7 := Classical.byContradiction (fun z => c4 ((mv_b_0 _).mpr z))
    refine mv_iload_n dX12_watch_7 rfl ?_
    refine mv_cS1 dX12_watch_8 lk_X12_watch_121 (Nat.le_of_ble_eq_true rfl) (Nat.le_of_ble_eq_true rfl) (k_X12_isPlace (ev := ev)) ?_
    refine mv_if_ne (tgt := 18) dX12_watch_11 (by decide) (fun c11 => ?_) (fun c11 => ?_)
    · have c11 : nI 0 ≤ p ∧ p ≤ nI 63 := Classical.byContradiction (fun z => c11 ((mv_b_0 _).mpr z))
      exact absurd (by refine ⟨?_, ?_⟩ <;> assumption) hno
    · have c11 : ¬ (nI 0 ≤ p ∧ p ≤ nI 63) := (mv_b_0 _).mp c11
      refine mv_sipush (v := (-1001)) dX12_watch_14 (by decide) ?_
      exact mv_iret dX12_watch_17 rfl rfl ⟨rfl, rfl⟩
set_option maxRecDepth 100000 in
theorem k_X12_watch_R2 {ev : mv_E} {h : mv_H} {k : Nat} {p : Nat} {a : Int32} {e : Int32}  (hk : k < 8) (hp : p < 64) (hno : ¬ (a = -1 ∨ (nI 0 ≤ a ∧ a ≤ nI 399) ∧ (a ≤ e ∧ e ≤ nI 399))) : mv_K ev mX12_watch [.ref 52, .int (nI k), .int (nI p), .int a, .int e] h (some (.int (-1002))) h := by
  refine mv_Kof ?_
  show mv_g ev mX12_watch 0 [.ref 52, .int (nI k), .int (nI p), .int a, .int e, .null] [] h _
  refine mv_iload_n dX12_watch_0 rfl ?_
  refine mv_cS1 dX12_watch_1 lk_X12_watch_282 (Nat.le_of_ble_eq_true rfl) (Nat.le_of_ble_eq_true rfl) (k_X12_isKind (ev := ev)) ?_
  refine mv_if_eq (tgt := 14) dX12_watch_4 (by decide) (fun z => absurd z ((fun z => (mv_b_0 _).mp z (mv_in_i (by omega) (by omega) (by omega))))) (fun c4 => ?_)
  refine mv_iload_n dX12_watch_7 rfl ?_
  refine mv_cS1 dX12_watch_8 lk_X12_watch_121 (Nat.le_of_ble_eq_true rfl) (Nat.le_of_ble_eq_true rfl) (k_X12_isPlace (ev := ev)) ?_
  refine mv_if_ne (tgt := 18) dX12_watch_11 (by decide) (fun c11 => ?_) (fun z => absurd z ((fun z => (mv_b_0 _).mp z (mv_in_i (by omega) (by omega) (by omega)))))
  refine mv_iload_n dX12_watch_18 rfl ?_
  refine mv_iconst (v := (-1)) dX12_watch_19 (by decide) ?_
  refine mv_icmp_eq (tgt := 48) dX12_watch_20 (by decide) (fun c20 => ?_) (fun c20 => ?_)
  · skip
    exact absurd (by first | exact Or.inl c20 | exact Or.inr ⟨c27, c41⟩) hno
  · skip
    refine mv_iload_n dX12_watch_23 rfl ?_
    refine mv_cS1 dX12_watch_24 lk_X12_watch_213 (Nat.le_of_ble_eq_true rfl) (Nat.le_of_ble_eq_true rfl) (k_X12_isDay (ev := ev)) ?_
    refine mv_if_eq (tgt := 44) dX12_watch_27 (by decide) (fun c27 => ?_) (fun c27 => ?_)
    · have c27 : ¬ (nI 0 ≤ a ∧ a ≤ nI 399) := (mv_b_0 _).mp c27
      refine mv_sipush (v := (-1002)) dX12_watch_44 (by decide) ?_
      exact mv_iret dX12_watch_47 rfl rfl ⟨rfl, rfl⟩
    · have c27 : nI 0 ≤ a ∧ a ≤ nI 399 := Classical.byContradiction (fun z => c27 ((mv_b_0 _).mpr z))
      refine mv_iload dX12_watch_30 rfl ?_
      refine mv_i2l dX12_watch_32 ?_
      refine mv_iload_n dX12_watch_33 rfl ?_
      refine mv_i2l dX12_watch_34 ?_
      refine mv_ldc2 (v := lN 399) dX12_watch_35 wd_1423 ?_
      refine mv_cS3 dX12_watch_38 lk_X12_watch_107 (Nat.le_of_ble_eq_true rfl) (Nat.le_of_ble_eq_true rfl) (k_X12_in (ev := ev)) ?_
      refine mv_if_ne (tgt := 48) dX12_watch_41 (by decide) (fun c41 => ?_) (fun c41 => ?_)
      · have c41 : (a ≤ e ∧ e ≤ nI 399) := (and_congr (mv_l_le _ _) (mv_lR (by decide))).mp (mv_b_ne c41)
        exact absurd (by first | exact Or.inl c20 | exact Or.inr ⟨c27, c41⟩) hno
      · have c41 : ¬ (a ≤ e ∧ e ≤ nI 399) := fun z => (mv_b_0 _).mp c41 ((and_congr (mv_l_le _ _) (mv_lR (by decide))).mpr z)
        refine mv_sipush (v := (-1002)) dX12_watch_44 (by decide) ?_
        exact mv_iret dX12_watch_47 rfl rfl ⟨rfl, rfl⟩
set_option maxRecDepth 100000 in
theorem k_X12_watch_G {ev : mv_E} {h : mv_H} {xt : Int32} {xf : Int32} {xa : Int32} {xo : Int64} {xe : Int32} {xu : Int32} {xs : Int32} {xc : Int32} {xw : Int32} {b : t_B} {t : Nat} {s : q_S} {wa : Nat → Nat} {cf : Nat → Int32} {ct : Nat → Int32} {k : Nat} {p : Nat} {a : Int32} {e : Int32} (HX : h[52]? = some (.inr (12, [.ref 53, .ref 54, .int xt, .int xf, .int xa, .long xo, .int xe, .int xu, .ref 55, .int xs, .int (nI b.1), .ref 56, .ref 57, .ref 58, .int (nI t), .int (nI b.2.1), .ref 59, .ref 60, .ref 61, .ref 62, .int (nI s.1), .ref 63, .ref 64, .ref 65, .ref 66, .ref 67, .ref 68, .ref 69, .int xc, .ref 70, .ref 71, .ref 72, .ref 73, .ref 74, .ref 75, .int xw, .ref 76, .ref 77, .ref 78, .ref 79, .ref 80]))) (X59 : h[59]? = some (.inl (0, 8, .inl (fun j => nI (wa j))))) (X60 : h[60]? = some (.inl (0, 8, .inl cf))) (X61 : h[61]? = some (.inl (0, 8, .inl ct))) (hk : k < 8) (hp : p < 64) (hwi : q_WI wa cf ct) (hab : (a = -1 ∨ (nI 0 ≤ a ∧ a ≤ nI 399) ∧ (a ≤ e ∧ e ≤ nI 399))) : ∃ h2, mv_K ev mX12_watch [.ref 52, .int (nI k), .int (nI p), .int a, .int e] h (some (.int (nI (q_cd cf ct k)))) h2 ∧ mv_fra [59, 60, 61] h h2 ∧ h2[59]? = some (.inl (0, 8, .inl (fun j => nI (t_up wa k p j)))) ∧ h2[60]? = some (.inl (0, 8, .inl (upd cf k a))) ∧ h2[61]? = some (.inl (0, 8, .inl (upd ct k e))) := by
  suffices g0 : mv_g ev mX12_watch 0 (mv_ent [.ref 52, .int (nI k), .int (nI p), .int a, .int e] (mv_ml mX12_watch)) [] h (fun r g => r = some (.int (nI (q_cd cf ct k))) ∧ mv_fra [59, 60, 61] h g ∧ g[59]? = some (.inl (0, 8, .inl (fun j => nI (t_up wa k p j)))) ∧ g[60]? = some (.inl (0, 8, .inl (upd cf k a))) ∧ g[61]? = some (.inl (0, 8, .inl (upd ct k e)))) from (by obtain ⟨r0, h0, K0, q0, Q0⟩ := mv_Kex g0; subst q0; exact ⟨h0, K0, Q0⟩)
  show mv_g ev mX12_watch 0 [.ref 52, .int (nI k), .int (nI p), .int a, .int e, .null] [] h _
  have fr : mv_fra [59, 60, 61] h h := mv_fra.rf
  refine mv_iload_n dX12_watch_0 rfl ?_
  refine mv_cS1 dX12_watch_1 lk_X12_watch_282 (Nat.le_of_ble_eq_true rfl) (Nat.le_of_ble_eq_true rfl) (k_X12_isKind (ev := ev)) ?_
  refine mv_if_eq (tgt := 14) dX12_watch_4 (by decide) (fun z => absurd z ((fun z => (mv_b_0 _).mp z (mv_in_i (by omega) (by omega) (by omega))))) (fun c4 => ?_)
  refine mv_iload_n dX12_watch_7 rfl ?_
  refine mv_cS1 dX12_watch_8 lk_X12_watch_121 (Nat.le_of_ble_eq_true rfl) (Nat.le_of_ble_eq_true rfl) (k_X12_isPlace (ev := ev)) ?_
  refine mv_if_ne (tgt := 18) dX12_watch_11 (by decide) (fun c11 => ?_) (fun z => absurd z ((fun z => (mv_b_0 _).mp z (mv_in_i (by omega) (by omega) (by omega)))))
  refine mv_iload_n dX12_watch_18 rfl ?_
  refine mv_iconst (v := (-1)) dX12_watch_19 (by decide) ?_
  refine mv_icmp_eq (tgt := 48) dX12_watch_20 (by decide) (fun c20 => ?_) (fun c20 => ?_)
  · skip
    refine mv_aload_n dX12_watch_48 rfl ?_
    refine mv_iload_n dX12_watch_49 rfl ?_
    refine mv_cV1 (ci := 12) dX12_watch_50 lk_X12_watch_285 HX rfl (Nat.le_of_ble_eq_true rfl) (Nat.le_of_ble_eq_true rfl) (k_X12_counted (ev := ev) HX X60 X61 hk hwi) ?_
    refine mv_istore dX12_watch_53 (by decide) ?_
    refine mv_aload_n dX12_watch_55 rfl ?_
    refine mv_getf (ci := 12) (f := 16) dX12_watch_56 HX rfl (by decide) wd_1215 rfl ?_
    refine mv_iload_n dX12_watch_59 rfl ?_
    refine mv_iload_n dX12_watch_60 rfl ?_
    refine mv_iastN (j := k) dX12_watch_61 X59 rfl (by decide) (by omega) (fun h1 e2 => ?_)
    rw [upd_nI] at e2
    have HX := mv_ne e2 (by decide) HX
    have X59 : h1[59]? = some (.inl (0, 8, .inl (fun j => nI (t_up wa k p j)))) := mv_eq e2 X59
    have X60 := mv_ne e2 (by decide) X60
    have X61 := mv_ne e2 (by decide) X61
    have fr := fr.set e2 (by decide)
    clear e2
    refine mv_aload_n dX12_watch_62 rfl ?_
    refine mv_getf (ci := 12) (f := 17) dX12_watch_63 HX rfl (by decide) wd_1216 rfl ?_
    refine mv_iload_n dX12_watch_66 rfl ?_
    refine mv_iload_n dX12_watch_67 rfl ?_
    refine mv_iastN (j := k) dX12_watch_68 X60 rfl (by decide) (by omega) (fun h3 e4 => ?_)
    have HX := mv_ne e4 (by decide) HX
    have X59 := mv_ne e4 (by decide) X59
    have X60 : h3[60]? = some (.inl (0, 8, .inl (upd cf k a))) := mv_eq e4 X60
    have X61 := mv_ne e4 (by decide) X61
    have fr := fr.set e4 (by decide)
    clear e4
    refine mv_aload_n dX12_watch_69 rfl ?_
    refine mv_getf (ci := 12) (f := 18) dX12_watch_70 HX rfl (by decide) wd_1217 rfl ?_
    refine mv_iload_n dX12_watch_73 rfl ?_
    refine mv_iload dX12_watch_74 rfl ?_
    refine mv_iastN (j := k) dX12_watch_76 X61 rfl (by decide) (by omega) (fun h5 e6 => ?_)
    have HX := mv_ne e6 (by decide) HX
    have X59 := mv_ne e6 (by decide) X59
    have X60 := mv_ne e6 (by decide) X60
    have X61 : h5[61]? = some (.inl (0, 8, .inl (upd ct k e))) := mv_eq e6 X61
    have fr := fr.set e6 (by decide)
    clear e6
    refine mv_iload dX12_watch_77 rfl ?_
    exact mv_iret dX12_watch_79 rfl rfl ⟨rfl, fr, X59, X60, X61⟩
  · skip
    refine mv_iload_n dX12_watch_23 rfl ?_
    refine mv_cS1 dX12_watch_24 lk_X12_watch_213 (Nat.le_of_ble_eq_true rfl) (Nat.le_of_ble_eq_true rfl) (k_X12_isDay (ev := ev)) ?_
    refine mv_if_eq (tgt := 44) dX12_watch_27 (by decide) (fun z => absurd z ((fun z => (mv_b_0 _).mp z (hab.resolve_left c20).1))) (fun c27 => ?_)
    refine mv_iload dX12_watch_30 rfl ?_
    refine mv_i2l dX12_watch_32 ?_
    refine mv_iload_n dX12_watch_33 rfl ?_
    refine mv_i2l dX12_watch_34 ?_
    refine mv_ldc2 (v := lN 399) dX12_watch_35 wd_1423 ?_
    refine mv_cS3 dX12_watch_38 lk_X12_watch_107 (Nat.le_of_ble_eq_true rfl) (Nat.le_of_ble_eq_true rfl) (k_X12_in (ev := ev)) ?_
    refine mv_if_ne (tgt := 48) dX12_watch_41 (by decide) (fun c41 => ?_) (fun z => absurd z ((fun z => (mv_b_0 _).mp z ((and_congr (mv_l_le _ _) (mv_lR (by decide))).mpr (hab.resolve_left c20).2))))
    refine mv_aload_n dX12_watch_48 rfl ?_
    refine mv_iload_n dX12_watch_49 rfl ?_
    refine mv_cV1 (ci := 12) dX12_watch_50 lk_X12_watch_285 HX rfl (Nat.le_of_ble_eq_true rfl) (Nat.le_of_ble_eq_true rfl) (k_X12_counted (ev := ev) HX X60 X61 hk hwi) ?_
    refine mv_istore dX12_watch_53 (by decide) ?_
    refine mv_aload_n dX12_watch_55 rfl ?_
    refine mv_getf (ci := 12) (f := 16) dX12_watch_56 HX rfl (by decide) wd_1215 rfl ?_
    refine mv_iload_n dX12_watch_59 rfl ?_
    refine mv_iload_n dX12_watch_60 rfl ?_
    refine mv_iastN (j := k) dX12_watch_61 X59 rfl (by decide) (by omega) (fun h7 e8 => ?_)
    rw [upd_nI] at e8
    have HX := mv_ne e8 (by decide) HX
    have X59 : h7[59]? = some (.inl (0, 8, .inl (fun j => nI (t_up wa k p j)))) := mv_eq e8 X59
    have X60 := mv_ne e8 (by decide) X60
    have X61 := mv_ne e8 (by decide) X61
    have fr := fr.set e8 (by decide)
    clear e8
    refine mv_aload_n dX12_watch_62 rfl ?_
    refine mv_getf (ci := 12) (f := 17) dX12_watch_63 HX rfl (by decide) wd_1216 rfl ?_
    refine mv_iload_n dX12_watch_66 rfl ?_
    refine mv_iload_n dX12_watch_67 rfl ?_
    refine mv_iastN (j := k) dX12_watch_68 X60 rfl (by decide) (by omega) (fun h9 e10 => ?_)
    have HX := mv_ne e10 (by decide) HX
    have X59 := mv_ne e10 (by decide) X59
    have X60 : h9[60]? = some (.inl (0, 8, .inl (upd cf k a))) := mv_eq e10 X60
    have X61 := mv_ne e10 (by decide) X61
    have fr := fr.set e10 (by decide)
    clear e10
    refine mv_aload_n dX12_watch_69 rfl ?_
    refine mv_getf (ci := 12) (f := 18) dX12_watch_70 HX rfl (by decide) wd_1217 rfl ?_
    refine mv_iload_n dX12_watch_73 rfl ?_
    refine mv_iload dX12_watch_74 rfl ?_
    refine mv_iastN (j := k) dX12_watch_76 X61 rfl (by decide) (by omega) (fun h11 e12 => ?_)
    have HX := mv_ne e12 (by decide) HX
    have X59 := mv_ne e12 (by decide) X59
    have X60 := mv_ne e12 (by decide) X60
    have X61 : h11[61]? = some (.inl (0, 8, .inl (upd ct k e))) := mv_eq e12 X61
    have fr := fr.set e12 (by decide)
    clear e12
    refine mv_iload dX12_watch_77 rfl ?_
    exact mv_iret dX12_watch_79 rfl rfl ⟨rfl, fr, X59, X60, X61⟩
set_option maxRecDepth 100000 in
theorem k_X12_rain_R1 {ev : mv_E} {h : mv_H} {d : Int32} {y : Int32}  (hno : ¬ ((nI 0 ≤ d ∧ d ≤ nI 399))) : mv_K ev mX12_rain [.ref 52, .int d, .int y] h (some (.int (-1002))) h := by
  refine mv_Kof ?_
  show mv_g ev mX12_rain 0 [.ref 52, .int d, .int y, .null] [] h _
  refine mv_iload_n dX12_rain_0 rfl ?_
  refine mv_cS1 dX12_rain_1 lk_X12_rain_213 (Nat.le_of_ble_eq_true rfl) (Nat.le_of_ble_eq_true rfl) (k_X12_isDay (ev := ev)) ?_
  refine mv_if_ne (tgt := 11) dX12_rain_4 (by decide) (fun c4 => ?_) (fun c4 => ?_)
  · have c4 : nI 0 ≤ d ∧ d ≤ nI 399 := Classical.byContradiction (fun z => c4 ((mv_b_0 _).mpr z))
    exact absurd (by assumption) hno
  · have c4 : ¬ (nI 0 ≤ d ∧ d ≤ nI 399) := (mv_b_0 _).mp c4
    refine mv_sipush (v := (-1002)) dX12_rain_7 (by decide) ?_
    exact mv_iret dX12_rain_10 rfl rfl ⟨rfl, rfl⟩
set_option maxRecDepth 100000 in
theorem k_X12_rain_G {ev : mv_E} {h : mv_H} {xt : Int32} {xf : Int32} {xa : Int32} {xo : Int64} {xe : Int32} {xu : Int32} {xs : Int32} {xc : Int32} {xw : Int32} {b : t_B} {t : Nat} {s : q_S} {rr : Nat → Nat} {d : Nat} {v : Nat} (HX : h[52]? = some (.inr (12, [.ref 53, .ref 54, .int xt, .int xf, .int xa, .long xo, .int xe, .int xu, .ref 55, .int xs, .int (nI b.1), .ref 56, .ref 57, .ref 58, .int (nI t), .int (nI b.2.1), .ref 59, .ref 60, .ref 61, .ref 62, .int (nI s.1), .ref 63, .ref 64, .ref 65, .ref 66, .ref 67, .ref 68, .ref 69, .int xc, .ref 70, .ref 71, .ref 72, .ref 73, .ref 74, .ref 75, .int xw, .ref 76, .ref 77, .ref 78, .ref 79, .ref 80]))) (X62 : h[62]? = some (.inl (2, 400, .inl (fun j => nI (rr j))))) (hr : ∀ d, rr d ≤ 1) (hd : d ≤ 399) (hv : v ≤ 1) : ∃ h2, mv_K ev mX12_rain [.ref 52, .int (nI d), .int (nI v)] h (some (.int (nI (rr d)))) h2 ∧ mv_fra [62] h h2 ∧ h2[62]? = some (.inl (2, 400, .inl (fun j => nI (t_up rr d v j)))) := by
  suffices g0 : mv_g ev mX12_rain 0 (mv_ent [.ref 52, .int (nI d), .int (nI v)] (mv_ml mX12_rain)) [] h (fun r g => r = some (.int (nI (rr d))) ∧ mv_fra [62] h g ∧ g[62]? = some (.inl (2, 400, .inl (fun j => nI (t_up rr d v j))))) from (by obtain ⟨r0, h0, K0, q0, Q0⟩ := mv_Kex g0; subst q0; exact ⟨h0, K0, Q0⟩)
  show mv_g ev mX12_rain 0 [.ref 52, .int (nI d), .int (nI v), .null] [] h _
  have fr : mv_fra [62] h h := mv_fra.rf
  have n1 := hr d
  refine mv_iload_n dX12_rain_0 rfl ?_
  refine mv_cS1 dX12_rain_1 lk_X12_rain_213 (Nat.le_of_ble_eq_true rfl) (Nat.le_of_ble_eq_true rfl) (k_X12_isDay (ev := ev)) ?_
  refine mv_if_ne (tgt := 11) dX12_rain_4 (by decide) (fun c4 => ?_) (fun z => absurd z ((fun z => (mv_b_0 _).mp z (mv_in_i (by omega) (by omega) (by omega)))))
  refine mv_aload_n dX12_rain_11 rfl ?_
  refine mv_getf (ci := 12) (f := 19) dX12_rain_12 HX rfl (by decide) wd_1218 rfl ?_
  refine mv_iload_n dX12_rain_15 rfl ?_
  refine mv_zaN (j := d) (x := nI (rr d)) dX12_rain_16 X62 rfl (by decide) (by omega) rfl ?_
  refine mv_if_eq (tgt := 24) dX12_rain_17 (by decide) (fun c17 => ?_) (fun c17 => ?_)
  · have c17 : rr d = 0 := (nI_eq (b := 0) (by omega) (by omega)).mp c17
    refine mv_iconst (v := nI 0) dX12_rain_24 (by decide) ?_
    refine mv_istore_n dX12_rain_25 (by decide) ?_
    refine mv_aload_n dX12_rain_26 rfl ?_
    refine mv_getf (ci := 12) (f := 19) dX12_rain_27 HX rfl (by decide) wd_1218 rfl ?_
    refine mv_iload_n dX12_rain_30 rfl ?_
    refine mv_iload_n dX12_rain_31 rfl ?_
    refine mv_zastN (j := d) dX12_rain_32 X62 rfl (by decide) (by omega) (q_nar hv) (fun h1 e2 => ?_)
    rw [upd_nI] at e2
    have HX := mv_ne e2 (by decide) HX
    have X62 : h1[62]? = some (.inl (2, 400, .inl (fun j => nI (t_up rr d v j)))) := mv_eq e2 X62
    have fr := fr.set e2 (by decide)
    clear e2
    refine mv_iload_n dX12_rain_33 rfl ?_
    exact mv_iret dX12_rain_34 rfl rfl ⟨(congrArg (fun z => some (Value.int z)) (congrArg nI (by omega))), fr, X62⟩
  · have c17 : ¬ (rr d = 0) := fun z => c17 ((nI_eq (b := 0) (by omega) (by omega)).mpr z)
    refine mv_iconst (v := nI 1) dX12_rain_20 (by decide) ?_
    refine mv_goto (tgt := 25) dX12_rain_21 (by decide) ?_
    refine mv_istore_n dX12_rain_25 (by decide) ?_
    refine mv_aload_n dX12_rain_26 rfl ?_
    refine mv_getf (ci := 12) (f := 19) dX12_rain_27 HX rfl (by decide) wd_1218 rfl ?_
    refine mv_iload_n dX12_rain_30 rfl ?_
    refine mv_iload_n dX12_rain_31 rfl ?_
    refine mv_zastN (j := d) dX12_rain_32 X62 rfl (by decide) (by omega) (q_nar hv) (fun h3 e4 => ?_)
    rw [upd_nI] at e4
    have HX := mv_ne e4 (by decide) HX
    have X62 : h3[62]? = some (.inl (2, 400, .inl (fun j => nI (t_up rr d v j)))) := mv_eq e4 X62
    have fr := fr.set e4 (by decide)
    clear e4
    refine mv_iload_n dX12_rain_33 rfl ?_
    exact mv_iret dX12_rain_34 rfl rfl ⟨(congrArg (fun z => some (Value.int z)) (congrArg nI (by omega))), fr, X62⟩
set_option maxRecDepth 100000 in
theorem k_X12_sign_R1 {ev : mv_E} {h : mv_H} {k : Int32} {d : Int32} {p : Int32} {w : Int32}  (hno : ¬ ((nI 0 ≤ k ∧ k ≤ nI 7) ∧ (nI 0 ≤ p ∧ p ≤ nI 63))) : mv_K ev mX12_sign [.ref 52, .int k, .int d, .int p, .int w] h (some (.int (-1001))) h := by
  refine mv_Kof ?_
  show mv_g ev mX12_sign 0 [.ref 52, .int k, .int d, .int p, .int w] [] h _
  refine mv_iload_n dX12_sign_0 rfl ?_
  refine mv_cS1 dX12_sign_1 lk_X12_sign_282 (Nat.le_of_ble_eq_true rfl) (Nat.le_of_ble_eq_true rfl) (k_X12_isKind (ev := ev)) ?_
  refine mv_if_eq (tgt := 14) dX12_sign_4 (by decide) (fun c4 => ?_) (fun c4 => ?_)
  · have c4 : ¬ (nI 0 ≤ k ∧ k ≤ nI 7) := (mv_b_0 _).mp c4
    refine mv_sipush (v := (-1001)) dX12_sign_14 (by decide) ?_
    exact mv_iret dX12_sign_17 rfl rfl ⟨rfl, rfl⟩
  · have c4 : nI 0 ≤ k ∧ k ≤ nI 7 := Classical.byContradiction (fun z => c4 ((mv_b_0 _).mpr z))
    refine mv_iload_n dX12_sign_7 rfl ?_
    refine mv_cS1 dX12_sign_8 lk_X12_sign_121 (Nat.le_of_ble_eq_true rfl) (Nat.le_of_ble_eq_true rfl) (k_X12_isPlace (ev := ev)) ?_
    refine mv_if_ne (tgt := 18) dX12_sign_11 (by decide) (fun c11 => ?_) (fun c11 => ?_)
    · have c11 : nI 0 ≤ p ∧ p ≤ nI 63 := Classical.byContradiction (fun z => c11 ((mv_b_0 _).mpr z))
      exact absurd (by refine ⟨?_, ?_⟩ <;> assumption) hno
    · have c11 : ¬ (nI 0 ≤ p ∧ p ≤ nI 63) := (mv_b_0 _).mp c11
      refine mv_sipush (v := (-1001)) dX12_sign_14 (by decide) ?_
      exact mv_iret dX12_sign_17 rfl rfl ⟨rfl, rfl⟩
set_option maxRecDepth 100000 in
theorem k_X12_sign_R2 {ev : mv_E} {h : mv_H} {k : Nat} {p : Nat} {d : Int32} {w : Int32}  (hk : k < 8) (hp : p < 64) (hno : ¬ ((nI 0 ≤ d ∧ d ≤ nI 399) ∧ (d ≤ w ∧ w ≤ nI 399))) : mv_K ev mX12_sign [.ref 52, .int (nI k), .int d, .int (nI p), .int w] h (some (.int (-1002))) h := by
  refine mv_Kof ?_
  show mv_g ev mX12_sign 0 [.ref 52, .int (nI k), .int d, .int (nI p), .int w] [] h _
  refine mv_iload_n dX12_sign_0 rfl ?_
  refine mv_cS1 dX12_sign_1 lk_X12_sign_282 (Nat.le_of_ble_eq_true rfl) (Nat.le_of_ble_eq_true rfl) (k_X12_isKind (ev := ev)) ?_
  refine mv_if_eq (tgt := 14) dX12_sign_4 (by decide) (fun z => absurd z ((fun z => (mv_b_0 _).mp z (mv_in_i (by omega) (by omega) (by omega))))) (fun c4 => ?_)
  refine mv_iload_n dX12_sign_7 rfl ?_
  refine mv_cS1 dX12_sign_8 lk_X12_sign_121 (Nat.le_of_ble_eq_true rfl) (Nat.le_of_ble_eq_true rfl) (k_X12_isPlace (ev := ev)) ?_
  refine mv_if_ne (tgt := 18) dX12_sign_11 (by decide) (fun c11 => ?_) (fun z => absurd z ((fun z => (mv_b_0 _).mp z (mv_in_i (by omega) (by omega) (by omega)))))
  refine mv_iload_n dX12_sign_18 rfl ?_
  refine mv_cS1 dX12_sign_19 lk_X12_sign_213 (Nat.le_of_ble_eq_true rfl) (Nat.le_of_ble_eq_true rfl) (k_X12_isDay (ev := ev)) ?_
  refine mv_if_eq (tgt := 39) dX12_sign_22 (by decide) (fun c22 => ?_) (fun c22 => ?_)
  · have c22 : ¬ (nI 0 ≤ d ∧ d ≤ nI 399) := (mv_b_0 _).mp c22
    refine mv_sipush (v := (-1002)) dX12_sign_39 (by decide) ?_
    exact mv_iret dX12_sign_42 rfl rfl ⟨rfl, rfl⟩
  · have c22 : nI 0 ≤ d ∧ d ≤ nI 399 := Classical.byContradiction (fun z => c22 ((mv_b_0 _).mpr z))
    refine mv_iload dX12_sign_25 rfl ?_
    refine mv_i2l dX12_sign_27 ?_
    refine mv_iload_n dX12_sign_28 rfl ?_
    refine mv_i2l dX12_sign_29 ?_
    refine mv_ldc2 (v := lN 399) dX12_sign_30 wd_1423 ?_
    refine mv_cS3 dX12_sign_33 lk_X12_sign_107 (Nat.le_of_ble_eq_true rfl) (Nat.le_of_ble_eq_true rfl) (k_X12_in (ev := ev)) ?_
    refine mv_if_ne (tgt := 43) dX12_sign_36 (by decide) (fun c36 => ?_) (fun c36 => ?_)
    · have c36 : (d ≤ w ∧ w ≤ nI 399) := (and_congr (mv_l_le _ _) (mv_lR (by decide))).mp (mv_b_ne c36)
      exact absurd (by refine ⟨?_, ?_⟩ <;> assumption) hno
    · have c36 : ¬ (d ≤ w ∧ w ≤ nI 399) := fun z => (mv_b_0 _).mp c36 ((and_congr (mv_l_le _ _) (mv_lR (by decide))).mpr z)
      refine mv_sipush (v := (-1002)) dX12_sign_39 (by decide) ?_
      exact mv_iret dX12_sign_42 rfl rfl ⟨rfl, rfl⟩
set_option maxRecDepth 100000 in
theorem k_X12_sign_R3 {ev : mv_E} {h : mv_H} {xt : Int32} {xf : Int32} {xa : Int32} {xo : Int64} {xe : Int32} {xu : Int32} {xs : Int32} {xc : Int32} {xw : Int32} {b : t_B} {t : Nat} {s : q_S} {k : Nat} {d : Nat} {p : Nat} {w : Nat} (HX : h[52]? = some (.inr (12, [.ref 53, .ref 54, .int xt, .int xf, .int xa, .long xo, .int xe, .int xu, .ref 55, .int xs, .int (nI b.1), .ref 56, .ref 57, .ref 58, .int (nI t), .int (nI b.2.1), .ref 59, .ref 60, .ref 61, .ref 62, .int (nI s.1), .ref 63, .ref 64, .ref 65, .ref 66, .ref 67, .ref 68, .ref 69, .int xc, .ref 70, .ref 71, .ref 72, .ref 73, .ref 74, .ref 75, .int xw, .ref 76, .ref 77, .ref 78, .ref 79, .ref 80]))) (hk : k < 8) (hp : p < 64) (hdw : d ≤ w) (hw3 : w ≤ 399) (hn : s.1 ≤ 100) (hno : ¬ (s.1 < 100)) : mv_K ev mX12_sign [.ref 52, .int (nI k), .int (nI d), .int (nI p), .int (nI w)] h (some (.int (-1004))) h := by
  refine mv_Kof ?_
  show mv_g ev mX12_sign 0 [.ref 52, .int (nI k), .int (nI d), .int (nI p), .int (nI w)] [] h _
  refine mv_iload_n dX12_sign_0 rfl ?_
  refine mv_cS1 dX12_sign_1 lk_X12_sign_282 (Nat.le_of_ble_eq_true rfl) (Nat.le_of_ble_eq_true rfl) (k_X12_isKind (ev := ev)) ?_
  refine mv_if_eq (tgt := 14) dX12_sign_4 (by decide) (fun z => absurd z ((fun z => (mv_b_0 _).mp z (mv_in_i (by omega) (by omega) (by omega))))) (fun c4 => ?_)
  refine mv_iload_n dX12_sign_7 rfl ?_
  refine mv_cS1 dX12_sign_8 lk_X12_sign_121 (Nat.le_of_ble_eq_true rfl) (Nat.le_of_ble_eq_true rfl) (k_X12_isPlace (ev := ev)) ?_
  refine mv_if_ne (tgt := 18) dX12_sign_11 (by decide) (fun c11 => ?_) (fun z => absurd z ((fun z => (mv_b_0 _).mp z (mv_in_i (by omega) (by omega) (by omega)))))
  refine mv_iload_n dX12_sign_18 rfl ?_
  refine mv_cS1 dX12_sign_19 lk_X12_sign_213 (Nat.le_of_ble_eq_true rfl) (Nat.le_of_ble_eq_true rfl) (k_X12_isDay (ev := ev)) ?_
  refine mv_if_eq (tgt := 39) dX12_sign_22 (by decide) (fun z => absurd z ((fun z => (mv_b_0 _).mp z (mv_in_i (by omega) (by omega) (by omega))))) (fun c22 => ?_)
  refine mv_iload dX12_sign_25 rfl ?_
  refine mv_i2l dX12_sign_27 ?_
  refine mv_topL (y := lN w) (nI_l (by omega)) ?_
  refine mv_iload_n dX12_sign_28 rfl ?_
  refine mv_i2l dX12_sign_29 ?_
  refine mv_topL (y := lN d) (nI_l (by omega)) ?_
  refine mv_ldc2 (v := lN 399) dX12_sign_30 wd_1423 ?_
  refine mv_cS3 dX12_sign_33 lk_X12_sign_107 (Nat.le_of_ble_eq_true rfl) (Nat.le_of_ble_eq_true rfl) (k_X12_in (ev := ev)) ?_
  refine mv_if_ne (tgt := 43) dX12_sign_36 (by decide) (fun c36 => ?_) (fun z => absurd z ((fun z => (mv_b_0 _).mp z ((and_congr (lN_leB (by omega) (by omega)) (lN_leB (by omega) (by omega))).mpr ⟨by omega, by omega⟩))))
  refine mv_aload_n dX12_sign_43 rfl ?_
  refine mv_getf (ci := 12) (f := 20) dX12_sign_44 HX rfl (by decide) wd_1219 rfl ?_
  refine mv_bipush (v := nI 100) dX12_sign_47 (by decide) ?_
  refine mv_icmp_ne (tgt := 56) dX12_sign_49 (by decide) (fun c49 => ?_) (fun c49 => ?_)
  · have c49 : ¬ (s.1 = 100) := fun z => c49 ((nI_eq (by omega) (by omega)).mpr z)
    exact absurd (by omega) hno
  · have c49 : s.1 = 100 := (nI_eq (by omega) (by omega)).mp c49
    refine mv_sipush (v := (-1004)) dX12_sign_52 (by decide) ?_
    exact mv_iret dX12_sign_55 rfl rfl ⟨rfl, rfl⟩
set_option maxRecDepth 100000 in
theorem k_X12_sign_G {ev : mv_E} {h : mv_H} {xt : Int32} {xf : Int32} {xa : Int32} {xo : Int64} {xe : Int32} {xu : Int32} {xs : Int32} {xc : Int32} {xw : Int32} {b : t_B} {t : Nat} {s : q_S} {k : Nat} {d : Nat} {p : Nat} {w : Nat} (HX : h[52]? = some (.inr (12, [.ref 53, .ref 54, .int xt, .int xf, .int xa, .long xo, .int xe, .int xu, .ref 55, .int xs, .int (nI b.1), .ref 56, .ref 57, .ref 58, .int (nI t), .int (nI b.2.1), .ref 59, .ref 60, .ref 61, .ref 62, .int (nI s.1), .ref 63, .ref 64, .ref 65, .ref 66, .ref 67, .ref 68, .ref 69, .int xc, .ref 70, .ref 71, .ref 72, .ref 73, .ref 74, .ref 75, .int xw, .ref 76, .ref 77, .ref 78, .ref 79, .ref 80]))) (X63 : h[63]? = some (.inl (0, 100, .inl (fun j => nI (s.2.1 j))))) (X64 : h[64]? = some (.inl (0, 100, .inl (fun j => nI (s.2.2.1 j))))) (X65 : h[65]? = some (.inl (0, 100, .inl (fun j => nI (s.2.2.2.1 j))))) (X66 : h[66]? = some (.inl (0, 100, .inl (fun j => nI (s.2.2.2.2 j))))) (hk : k < 8) (hp : p < 64) (hdw : d ≤ w) (hw3 : w ≤ 399) (hn : s.1 < 100) : ∃ h2, mv_K ev mX12_sign [.ref 52, .int (nI k), .int (nI d), .int (nI p), .int (nI w)] h (some (.int (nI s.1))) h2 ∧ mv_fra [52, 63, 64, 65, 66] h h2 ∧ h2[52]? = some (.inr (12, [.ref 53, .ref 54, .int xt, .int xf, .int xa, .long xo, .int xe, .int xu, .ref 55, .int xs, .int (nI b.1), .ref 56, .ref 57, .ref 58, .int (nI t), .int (nI b.2.1), .ref 59, .ref 60, .ref 61, .ref 62, .int (nI (q_sw s k d p w).1), .ref 63, .ref 64, .ref 65, .ref 66, .ref 67, .ref 68, .ref 69, .int xc, .ref 70, .ref 71, .ref 72, .ref 73, .ref 74, .ref 75, .int xw, .ref 76, .ref 77, .ref 78, .ref 79, .ref 80])) ∧ h2[63]? = some (.inl (0, 100, .inl (fun j => nI ((q_sw s k d p w).2.1 j)))) ∧ h2[64]? = some (.inl (0, 100, .inl (fun j => nI ((q_sw s k d p w).2.2.1 j)))) ∧ h2[65]? = some (.inl (0, 100, .inl (fun j => nI ((q_sw s k d p w).2.2.2.1 j)))) ∧ h2[66]? = some (.inl (0, 100, .inl (fun j => nI ((q_sw s k d p w).2.2.2.2 j)))) := by
  suffices g0 : mv_g ev mX12_sign 0 (mv_ent [.ref 52, .int (nI k), .int (nI d), .int (nI p), .int (nI w)] (mv_ml mX12_sign)) [] h (fun r g => r = some (.int (nI s.1)) ∧ mv_fra [52, 63, 64, 65, 66] h g ∧ g[52]? = some (.inr (12, [.ref 53, .ref 54, .int xt, .int xf, .int xa, .long xo, .int xe, .int xu, .ref 55, .int xs, .int (nI b.1), .ref 56, .ref 57, .ref 58, .int (nI t), .int (nI b.2.1), .ref 59, .ref 60, .ref 61, .ref 62, .int (nI (q_sw s k d p w).1), .ref 63, .ref 64, .ref 65, .ref 66, .ref 67, .ref 68, .ref 69, .int xc, .ref 70, .ref 71, .ref 72, .ref 73, .ref 74, .ref 75, .int xw, .ref 76, .ref 77, .ref 78, .ref 79, .ref 80])) ∧ g[63]? = some (.inl (0, 100, .inl (fun j => nI ((q_sw s k d p w).2.1 j)))) ∧ g[64]? = some (.inl (0, 100, .inl (fun j => nI ((q_sw s k d p w).2.2.1 j)))) ∧ g[65]? = some (.inl (0, 100, .inl (fun j => nI ((q_sw s k d p w).2.2.2.1 j)))) ∧ g[66]? = some (.inl (0, 100, .inl (fun j => nI ((q_sw s k d p w).2.2.2.2 j))))) from (by obtain ⟨r0, h0, K0, q0, Q0⟩ := mv_Kex g0; subst q0; exact ⟨h0, K0, Q0⟩)
  show mv_g ev mX12_sign 0 [.ref 52, .int (nI k), .int (nI d), .int (nI p), .int (nI w)] [] h _
  have fr : mv_fra [52, 63, 64, 65, 66] h h := mv_fra.rf
  refine mv_iload_n dX12_sign_0 rfl ?_
  refine mv_cS1 dX12_sign_1 lk_X12_sign_282 (Nat.le_of_ble_eq_true rfl) (Nat.le_of_ble_eq_true rfl) (k_X12_isKind (ev := ev)) ?_
  refine mv_if_eq (tgt := 14) dX12_sign_4 (by decide) (fun z => absurd z ((fun z => (mv_b_0 _).mp z (mv_in_i (by omega) (by omega) (by omega))))) (fun c4 => ?_)
  refine mv_iload_n dX12_sign_7 rfl ?_
  refine mv_cS1 dX12_sign_8 lk_X12_sign_121 (Nat.le_of_ble_eq_true rfl) (Nat.le_of_ble_eq_true rfl) (k_X12_isPlace (ev := ev)) ?_
  refine mv_if_ne (tgt := 18) dX12_sign_11 (by decide) (fun c11 => ?_) (fun z => absurd z ((fun z => (mv_b_0 _).mp z (mv_in_i (by omega) (by omega) (by omega)))))
  refine mv_iload_n dX12_sign_18 rfl ?_
  refine mv_cS1 dX12_sign_19 lk_X12_sign_213 (Nat.le_of_ble_eq_true rfl) (Nat.le_of_ble_eq_true rfl) (k_X12_isDay (ev := ev)) ?_
  refine mv_if_eq (tgt := 39) dX12_sign_22 (by decide) (fun z => absurd z ((fun z => (mv_b_0 _).mp z (mv_in_i (by omega) (by omega) (by omega))))) (fun c22 => ?_)
  refine mv_iload dX12_sign_25 rfl ?_
  refine mv_i2l dX12_sign_27 ?_
  refine mv_topL (y := lN w) (nI_l (by omega)) ?_
  refine mv_iload_n dX12_sign_28 rfl ?_
  refine mv_i2l dX12_sign_29 ?_
  refine mv_topL (y := lN d) (nI_l (by omega)) ?_
  refine mv_ldc2 (v := lN 399) dX12_sign_30 wd_1423 ?_
  refine mv_cS3 dX12_sign_33 lk_X12_sign_107 (Nat.le_of_ble_eq_true rfl) (Nat.le_of_ble_eq_true rfl) (k_X12_in (ev := ev)) ?_
  refine mv_if_ne (tgt := 43) dX12_sign_36 (by decide) (fun c36 => ?_) (fun z => absurd z ((fun z => (mv_b_0 _).mp z ((and_congr (lN_leB (by omega) (by omega)) (lN_leB (by omega) (by omega))).mpr ⟨by omega, by omega⟩))))
  refine mv_aload_n dX12_sign_43 rfl ?_
  refine mv_getf (ci := 12) (f := 20) dX12_sign_44 HX rfl (by decide) wd_1219 rfl ?_
  refine mv_bipush (v := nI 100) dX12_sign_47 (by decide) ?_
  refine mv_icmp_ne (tgt := 56) dX12_sign_49 (by decide) (fun c49 => ?_) (fun z => absurd z ((fun q => absurd ((nI_eq (by omega) (by omega)).mp q) (by omega))))
  refine mv_aload_n dX12_sign_56 rfl ?_
  refine mv_getf (ci := 12) (f := 21) dX12_sign_57 HX rfl (by decide) wd_1220 rfl ?_
  refine mv_aload_n dX12_sign_60 rfl ?_
  refine mv_getf (ci := 12) (f := 20) dX12_sign_61 HX rfl (by decide) wd_1219 rfl ?_
  refine mv_iload_n dX12_sign_64 rfl ?_
  refine mv_iastN (j := s.1) dX12_sign_65 X63 rfl (by decide) (by omega) (fun h1 e2 => ?_)
  rw [upd_nI] at e2
  have HX := mv_ne e2 (by decide) HX
  have X63 : h1[63]? = some (.inl (0, 100, .inl (fun j => nI (t_up s.2.1 s.1 k j)))) := mv_eq e2 X63
  have X64 := mv_ne e2 (by decide) X64
  have X65 := mv_ne e2 (by decide) X65
  have X66 := mv_ne e2 (by decide) X66
  have fr := fr.set e2 (by decide)
  clear e2
  refine mv_aload_n dX12_sign_66 rfl ?_
  refine mv_getf (ci := 12) (f := 22) dX12_sign_67 HX rfl (by decide) wd_1221 rfl ?_
  refine mv_aload_n dX12_sign_70 rfl ?_
  refine mv_getf (ci := 12) (f := 20) dX12_sign_71 HX rfl (by decide) wd_1219 rfl ?_
  refine mv_iload_n dX12_sign_74 rfl ?_
  refine mv_iastN (j := s.1) dX12_sign_75 X64 rfl (by decide) (by omega) (fun h3 e4 => ?_)
  rw [upd_nI] at e4
  have HX := mv_ne e4 (by decide) HX
  have X63 := mv_ne e4 (by decide) X63
  have X64 : h3[64]? = some (.inl (0, 100, .inl (fun j => nI (t_up s.2.2.1 s.1 d j)))) := mv_eq e4 X64
  have X65 := mv_ne e4 (by decide) X65
  have X66 := mv_ne e4 (by decide) X66
  have fr := fr.set e4 (by decide)
  clear e4
  refine mv_aload_n dX12_sign_76 rfl ?_
  refine mv_getf (ci := 12) (f := 23) dX12_sign_77 HX rfl (by decide) wd_1222 rfl ?_
  refine mv_aload_n dX12_sign_80 rfl ?_
  refine mv_getf (ci := 12) (f := 20) dX12_sign_81 HX rfl (by decide) wd_1219 rfl ?_
  refine mv_iload_n dX12_sign_84 rfl ?_
  refine mv_iastN (j := s.1) dX12_sign_85 X65 rfl (by decide) (by omega) (fun h5 e6 => ?_)
  rw [upd_nI] at e6
  have HX := mv_ne e6 (by decide) HX
  have X63 := mv_ne e6 (by decide) X63
  have X64 := mv_ne e6 (by decide) X64
  have X65 : h5[65]? = some (.inl (0, 100, .inl (fun j => nI (t_up s.2.2.2.1 s.1 p j)))) := mv_eq e6 X65
  have X66 := mv_ne e6 (by decide) X66
  have fr := fr.set e6 (by decide)
  clear e6
  refine mv_aload_n dX12_sign_86 rfl ?_
  refine mv_getf (ci := 12) (f := 24) dX12_sign_87 HX rfl (by decide) wd_1223 rfl ?_
  refine mv_aload_n dX12_sign_90 rfl ?_
  refine mv_getf (ci := 12) (f := 20) dX12_sign_91 HX rfl (by decide) wd_1219 rfl ?_
  refine mv_iload dX12_sign_94 rfl ?_
  refine mv_iastN (j := s.1) dX12_sign_96 X66 rfl (by decide) (by omega) (fun h7 e8 => ?_)
  rw [upd_nI] at e8
  have HX := mv_ne e8 (by decide) HX
  have X63 := mv_ne e8 (by decide) X63
  have X64 := mv_ne e8 (by decide) X64
  have X65 := mv_ne e8 (by decide) X65
  have X66 : h7[66]? = some (.inl (0, 100, .inl (fun j => nI (t_up s.2.2.2.2 s.1 w j)))) := mv_eq e8 X66
  have fr := fr.set e8 (by decide)
  clear e8
  refine mv_aload_n dX12_sign_97 rfl ?_
  refine mv_dup dX12_sign_98 rfl ?_
  refine mv_getf (ci := 12) (f := 20) dX12_sign_99 HX rfl (by decide) wd_1219 rfl ?_
  refine mv_iconst (v := nI 1) dX12_sign_102 (by decide) ?_
  refine mv_iadd dX12_sign_103 ?_
  refine mv_topI (y := nI (s.1 + 1)) (nI_add _ _) ?_
  refine mv_putf (ci := 12) (f := 20) dX12_sign_104 HX rfl (by decide) wd_1219 rfl rfl (fun _ => ⟨rfl, rfl⟩) (Nat.le_of_ble_eq_true rfl) ?_
  refine mv_topH (fun h9 e10 => ?_)
  have HX : h9[52]? = some (.inr (12, [.ref 53, .ref 54, .int xt, .int xf, .int xa, .long xo, .int xe, .int xu, .ref 55, .int xs, .int (nI b.1), .ref 56, .ref 57, .ref 58, .int (nI t), .int (nI b.2.1), .ref 59, .ref 60, .ref 61, .ref 62, .int (nI (s.1 + 1)), .ref 63, .ref 64, .ref 65, .ref 66, .ref 67, .ref 68, .ref 69, .int xc, .ref 70, .ref 71, .ref 72, .ref 73, .ref 74, .ref 75, .int xw, .ref 76, .ref 77, .ref 78, .ref 79, .ref 80])) := mv_eq e10 HX
  have X63 := mv_ne e10 (by decide) X63
  have X64 := mv_ne e10 (by decide) X64
  have X65 := mv_ne e10 (by decide) X65
  have X66 := mv_ne e10 (by decide) X66
  have fr := fr.set e10 (by decide)
  clear e10
  refine mv_aload_n dX12_sign_107 rfl ?_
  refine mv_getf (ci := 12) (f := 20) dX12_sign_108 HX rfl (by decide) wd_1219 rfl ?_
  refine mv_iconst (v := nI 1) dX12_sign_111 (by decide) ?_
  refine mv_isub dX12_sign_112 ?_
  refine mv_topI (y := nI s.1) (by show nI (s.1 + 1) - nI 1 = _; rw [pk_sub (by omega)]; exact congrArg nI (by omega)) ?_
  exact mv_iret dX12_sign_113 rfl rfl ⟨rfl, fr, HX, X63, X64, X65, X66⟩
set_option maxRecDepth 100000 in
theorem k_X12_omen_R1 {ev : mv_E} {h : mv_H} {xt : Int32} {xf : Int32} {xa : Int32} {xo : Int64} {xe : Int32} {xu : Int32} {xs : Int32} {xc : Int32} {xw : Int32} {b : t_B} {t : Nat} {s : q_S} {k : Int32} {w : Int32} (HX : h[52]? = some (.inr (12, [.ref 53, .ref 54, .int xt, .int xf, .int xa, .long xo, .int xe, .int xu, .ref 55, .int xs, .int (nI b.1), .ref 56, .ref 57, .ref 58, .int (nI t), .int (nI b.2.1), .ref 59, .ref 60, .ref 61, .ref 62, .int (nI s.1), .ref 63, .ref 64, .ref 65, .ref 66, .ref 67, .ref 68, .ref 69, .int xc, .ref 70, .ref 71, .ref 72, .ref 73, .ref 74, .ref 75, .int xw, .ref 76, .ref 77, .ref 78, .ref 79, .ref 80]))) (hn : s.1 ≤ 100) (hno : ¬ ((0 ≤ k ∧ k < nI s.1 ∧ k < nI 100))) : mv_K ev mX12_omen [.ref 52, .int k, .int w] h (some (.int (-1001))) h := by
  refine mv_Kof ?_
  show mv_g ev mX12_omen 0 [.ref 52, .int k, .int w] [] h _
  refine mv_iload_n dX12_omen_0 rfl ?_
  refine mv_i2l dX12_omen_1 ?_
  refine mv_lconst (v := lN 0) dX12_omen_2 rfl ?_
  refine mv_aload_n dX12_omen_3 rfl ?_
  refine mv_getf (ci := 12) (f := 20) dX12_omen_4 HX rfl (by decide) wd_1219 rfl ?_
  refine mv_iconst (v := nI 1) dX12_omen_7 (by decide) ?_
  refine mv_isub dX12_omen_8 ?_
  refine mv_i2l dX12_omen_9 ?_
  refine mv_cS3 dX12_omen_10 lk_X12_omen_107 (Nat.le_of_ble_eq_true rfl) (Nat.le_of_ble_eq_true rfl) (k_X12_in (ev := ev)) ?_
  refine mv_if_ne (tgt := 20) dX12_omen_13 (by decide) (fun c13 => ?_) (fun c13 => ?_)
  · have c13 : (0 ≤ k ∧ k < nI s.1 ∧ k < nI 100) := (q_isk hn (by decide)).mp (mv_b_ne c13)
    exact absurd (by assumption) hno
  · have c13 : ¬ (0 ≤ k ∧ k < nI s.1 ∧ k < nI 100) := fun z => (mv_b_0 _).mp c13 ((q_isk hn (by decide)).mpr z)
    refine mv_sipush (v := (-1001)) dX12_omen_16 (by decide) ?_
    exact mv_iret dX12_omen_19 rfl rfl ⟨rfl, rfl⟩
set_option maxRecDepth 100000 in
theorem k_X12_omen_G {ev : mv_E} {h : mv_H} {xt : Int32} {xf : Int32} {xa : Int32} {xo : Int64} {xe : Int32} {xu : Int32} {xs : Int32} {xc : Int32} {xw : Int32} {b : t_B} {t : Nat} {s : q_S} {wa : Nat → Nat} {cf : Nat → Int32} {ct : Nat → Int32} {rr : Nat → Nat} {lw : Nat → Int32} {ln : Nat → Nat} {k : Nat} {w : Int32} (HX : h[52]? = some (.inr (12, [.ref 53, .ref 54, .int xt, .int xf, .int xa, .long xo, .int xe, .int xu, .ref 55, .int xs, .int (nI b.1), .ref 56, .ref 57, .ref 58, .int (nI t), .int (nI b.2.1), .ref 59, .ref 60, .ref 61, .ref 62, .int (nI s.1), .ref 63, .ref 64, .ref 65, .ref 66, .ref 67, .ref 68, .ref 69, .int xc, .ref 70, .ref 71, .ref 72, .ref 73, .ref 74, .ref 75, .int xw, .ref 76, .ref 77, .ref 78, .ref 79, .ref 80]))) (X59 : h[59]? = some (.inl (0, 8, .inl (fun j => nI (wa j))))) (X60 : h[60]? = some (.inl (0, 8, .inl cf))) (X61 : h[61]? = some (.inl (0, 8, .inl ct))) (X62 : h[62]? = some (.inl (2, 400, .inl (fun j => nI (rr j))))) (X63 : h[63]? = some (.inl (0, 100, .inl (fun j => nI (s.2.1 j))))) (X64 : h[64]? = some (.inl (0, 100, .inl (fun j => nI (s.2.2.1 j))))) (X65 : h[65]? = some (.inl (0, 100, .inl (fun j => nI (s.2.2.2.1 j))))) (X66 : h[66]? = some (.inl (0, 100, .inl (fun j => nI (s.2.2.2.2 j))))) (X53 : h[53]? = some (.inl (0, 8, .inl lw))) (hw : q_LW lw ln) (hsi : q_SI s) (hr : ∀ d, rr d ≤ 1) (hwi : q_WI wa cf ct) (hk : k < s.1) : mv_K ev mX12_omen [.ref 52, .int (nI k), .int w] h (some (.int (q_omA lw ln s wa cf ct rr k w))) h := by
  refine mv_Kof ?_
  show mv_g ev mX12_omen 0 [.ref 52, .int (nI k), .int w] [] h _
  have hn := hsi.1
  refine mv_iload_n dX12_omen_0 rfl ?_
  refine mv_i2l dX12_omen_1 ?_
  refine mv_lconst (v := lN 0) dX12_omen_2 rfl ?_
  refine mv_aload_n dX12_omen_3 rfl ?_
  refine mv_getf (ci := 12) (f := 20) dX12_omen_4 HX rfl (by decide) wd_1219 rfl ?_
  refine mv_iconst (v := nI 1) dX12_omen_7 (by decide) ?_
  refine mv_isub dX12_omen_8 ?_
  refine mv_i2l dX12_omen_9 ?_
  refine mv_cS3 dX12_omen_10 lk_X12_omen_107 (Nat.le_of_ble_eq_true rfl) (Nat.le_of_ble_eq_true rfl) (k_X12_in (ev := ev)) ?_
  refine mv_if_ne (tgt := 20) dX12_omen_13 (by decide) (fun c13 => ?_) (fun z => absurd z ((fun z => (mv_b_0 _).mp z ((q_isk (n := s.1) (N := 100) hn (by decide)).mpr ⟨Int32.not_lt.mp (nI_pos (by omega)), (nI_ltI (by omega) (by omega)).mpr (by omega), (nI_ltI (by omega) (by omega)).mpr (by omega)⟩))))
  refine mv_iload_n dX12_omen_20 rfl ?_
  by_cases z21_0 : w = nI 0
  · subst z21_0
    refine mv_tswIn (tgt := 60) dX12_omen_21 (by decide) (by decide) rfl (by decide) ?_
    refine mv_aload_n dX12_omen_60 rfl ?_
    refine mv_getf (ci := 12) (f := 21) dX12_omen_61 HX rfl (by decide) wd_1220 rfl ?_
    refine mv_iload_n dX12_omen_64 rfl ?_
    refine mv_iaN (j := k) (x := nI (s.2.1 k)) dX12_omen_65 X63 rfl (by decide) (by omega) rfl ?_
    have e9 : q_omA lw ln s wa cf ct rr k (nI 0) = nI (s.2.1 k) := (if_pos rfl)
    exact mv_iret dX12_omen_66 rfl rfl ⟨(by rw [e9]), rfl⟩
  · skip
    by_cases z21_1 : w = nI 1
    · subst z21_1
      refine mv_tswIn (tgt := 67) dX12_omen_21 (by decide) (by decide) rfl (by decide) ?_
      refine mv_aload_n dX12_omen_67 rfl ?_
      refine mv_getf (ci := 12) (f := 22) dX12_omen_68 HX rfl (by decide) wd_1221 rfl ?_
      refine mv_iload_n dX12_omen_71 rfl ?_
      refine mv_iaN (j := k) (x := nI (s.2.2.1 k)) dX12_omen_72 X64 rfl (by decide) (by omega) rfl ?_
      have e9 : q_omA lw ln s wa cf ct rr k (nI 1) = nI (s.2.2.1 k) := ((if_neg (show ¬ (nI 1) = nI 0 by decide)).trans (if_pos rfl))
      exact mv_iret dX12_omen_73 rfl rfl ⟨(by rw [e9]), rfl⟩
    · skip
      by_cases z21_2 : w = nI 2
      · subst z21_2
        refine mv_tswIn (tgt := 74) dX12_omen_21 (by decide) (by decide) rfl (by decide) ?_
        refine mv_aload_n dX12_omen_74 rfl ?_
        refine mv_getf (ci := 12) (f := 23) dX12_omen_75 HX rfl (by decide) wd_1222 rfl ?_
        refine mv_iload_n dX12_omen_78 rfl ?_
        refine mv_iaN (j := k) (x := nI (s.2.2.2.1 k)) dX12_omen_79 X65 rfl (by decide) (by omega) rfl ?_
        have e9 : q_omA lw ln s wa cf ct rr k (nI 2) = nI (s.2.2.2.1 k) := ((if_neg (show ¬ (nI 2) = nI 0 by decide)).trans ((if_neg (show ¬ (nI 2) = nI 1 by decide)).trans (if_pos rfl)))
        exact mv_iret dX12_omen_80 rfl rfl ⟨(by rw [e9]), rfl⟩
      · skip
        by_cases z21_3 : w = nI 3
        · subst z21_3
          refine mv_tswIn (tgt := 81) dX12_omen_21 (by decide) (by decide) rfl (by decide) ?_
          refine mv_aload_n dX12_omen_81 rfl ?_
          refine mv_getf (ci := 12) (f := 24) dX12_omen_82 HX rfl (by decide) wd_1223 rfl ?_
          refine mv_iload_n dX12_omen_85 rfl ?_
          refine mv_iaN (j := k) (x := nI (s.2.2.2.2 k)) dX12_omen_86 X66 rfl (by decide) (by omega) rfl ?_
          have e9 : q_omA lw ln s wa cf ct rr k (nI 3) = nI (s.2.2.2.2 k) := ((if_neg (show ¬ (nI 3) = nI 0 by decide)).trans ((if_neg (show ¬ (nI 3) = nI 1 by decide)).trans ((if_neg (show ¬ (nI 3) = nI 2 by decide)).trans (if_pos rfl))))
          exact mv_iret dX12_omen_87 rfl rfl ⟨(by rw [e9]), rfl⟩
        · skip
          by_cases z21_4 : w = nI 4
          · subst z21_4
            refine mv_tswIn (tgt := 88) dX12_omen_21 (by decide) (by decide) rfl (by decide) ?_
            refine mv_aload_n dX12_omen_88 rfl ?_
            refine mv_iload_n dX12_omen_89 rfl ?_
            refine mv_cV1 (ci := 12) dX12_omen_90 lk_X12_omen_292 HX rfl (Nat.le_of_ble_eq_true rfl) (Nat.le_of_ble_eq_true rfl) (k_X12_owedOf (ev := ev) HX X62 X64 X53 hw hsi hr hk) ?_
            have e9 : q_omA lw ln s wa cf ct rr k (nI 4) = nI (q_ow lw ln rr (s.2.2.1 k)) := ((if_neg (show ¬ (nI 4) = nI 0 by decide)).trans ((if_neg (show ¬ (nI 4) = nI 1 by decide)).trans ((if_neg (show ¬ (nI 4) = nI 2 by decide)).trans ((if_neg (show ¬ (nI 4) = nI 3 by decide)).trans (if_pos rfl)))))
            exact mv_iret dX12_omen_93 rfl rfl ⟨(by rw [e9]), rfl⟩
          · skip
            by_cases z21_5 : w = nI 5
            · subst z21_5
              refine mv_tswIn (tgt := 94) dX12_omen_21 (by decide) (by decide) rfl (by decide) ?_
              refine mv_aload_n dX12_omen_94 rfl ?_
              refine mv_iload_n dX12_omen_95 rfl ?_
              refine mv_cV1 (ci := 12) dX12_omen_96 lk_X12_omen_295 HX rfl (Nat.le_of_ble_eq_true rfl) (Nat.le_of_ble_eq_true rfl) (k_X12_isEven (ev := ev) HX X59 X60 X61 X62 X63 X64 X65 X66 X53 hw hsi hr hwi hk) ?_
              refine mv_if_eq (tgt := 106) dX12_omen_99 (by decide) (fun c99 => ?_) (fun c99 => ?_)
              · have c99 : ¬ (q_ev lw ln s wa cf ct rr k) := (mv_q_0 _).mp c99
                refine mv_iconst (v := nI 0) dX12_omen_106 (by decide) ?_
                have e9 : q_omA lw ln s wa cf ct rr k (nI 5) = mv_q (q_ev lw ln s wa cf ct rr k) := ((if_neg (show ¬ (nI 5) = nI 0 by decide)).trans ((if_neg (show ¬ (nI 5) = nI 1 by decide)).trans ((if_neg (show ¬ (nI 5) = nI 2 by decide)).trans ((if_neg (show ¬ (nI 5) = nI 3 by decide)).trans ((if_neg (show ¬ (nI 5) = nI 4 by decide)).trans (if_pos rfl))))))
                have e8 := mv_q_f c99
                exact mv_iret dX12_omen_107 rfl rfl ⟨(by rw [e9, e8]; rfl), rfl⟩
              · have c99 : q_ev lw ln s wa cf ct rr k := Classical.byContradiction (fun z => c99 ((mv_q_0 _).mpr z))
                refine mv_iconst (v := nI 1) dX12_omen_102 (by decide) ?_
                refine mv_goto (tgt := 107) dX12_omen_103 (by decide) ?_
                have e9 : q_omA lw ln s wa cf ct rr k (nI 5) = mv_q (q_ev lw ln s wa cf ct rr k) := ((if_neg (show ¬ (nI 5) = nI 0 by decide)).trans ((if_neg (show ¬ (nI 5) = nI 1 by decide)).trans ((if_neg (show ¬ (nI 5) = nI 2 by decide)).trans ((if_neg (show ¬ (nI 5) = nI 3 by decide)).trans ((if_neg (show ¬ (nI 5) = nI 4 by decide)).trans (if_pos rfl))))))
                have e8 := mv_q_t c99
                exact mv_iret dX12_omen_107 rfl rfl ⟨(by rw [e9, e8]; rfl), rfl⟩
            · skip
              refine mv_tswOut (tgt := 108) dX12_omen_21 (by have t0 := mv_tn z21_0 (by decide); have t1 := mv_tn z21_1 (by decide); have t2 := mv_tn z21_2 (by decide); have t3 := mv_tn z21_3 (by decide); have t4 := mv_tn z21_4 (by decide); have t5 := mv_tn z21_5 (by decide); omega) (by decide) ?_
              refine mv_sipush (v := (-1002)) dX12_omen_108 (by decide) ?_
              have e9 : q_omA lw ln s wa cf ct rr k w = -1002 := ((if_neg (show ¬ w = nI 0 by assumption)).trans ((if_neg (show ¬ w = nI 1 by assumption)).trans ((if_neg (show ¬ w = nI 2 by assumption)).trans ((if_neg (show ¬ w = nI 3 by assumption)).trans ((if_neg (show ¬ w = nI 4 by assumption)).trans (if_neg (show ¬ w = nI 5 by assumption)))))))
              exact mv_iret dX12_omen_111 rfl rfl ⟨(by rw [e9]), rfl⟩
set_option maxRecDepth 100000 in
theorem k_X12_rate_R1 {ev : mv_E} {h : mv_H} {k : Int32} {w : Int32}  (hno : ¬ ((nI 0 ≤ k ∧ k ≤ nI 7))) : mv_K ev mX12_rate [.ref 52, .int k, .int w] h (some (.int (-1001))) h := by
  refine mv_Kof ?_
  show mv_g ev mX12_rate 0 [.ref 52, .int k, .int w] [] h _
  refine mv_iload_n dX12_rate_0 rfl ?_
  refine mv_cS1 dX12_rate_1 lk_X12_rate_282 (Nat.le_of_ble_eq_true rfl) (Nat.le_of_ble_eq_true rfl) (k_X12_isKind (ev := ev)) ?_
  refine mv_if_ne (tgt := 11) dX12_rate_4 (by decide) (fun c4 => ?_) (fun c4 => ?_)
  · have c4 : nI 0 ≤ k ∧ k ≤ nI 7 := Classical.byContradiction (fun z => c4 ((mv_b_0 _).mpr z))
    exact absurd (by assumption) hno
  · have c4 : ¬ (nI 0 ≤ k ∧ k ≤ nI 7) := (mv_b_0 _).mp c4
    refine mv_sipush (v := (-1001)) dX12_rate_7 (by decide) ?_
    exact mv_iret dX12_rate_10 rfl rfl ⟨rfl, rfl⟩
set_option maxRecDepth 100000 in
theorem k_X12_rate_R2 {ev : mv_E} {h : mv_H} {k : Nat} {w : Int32}  (hk : k < 8) (hno : ¬ ((nI 0 ≤ w ∧ w ≤ nI 2))) : mv_K ev mX12_rate [.ref 52, .int (nI k), .int w] h (some (.int (-1002))) h := by
  refine mv_Kof ?_
  show mv_g ev mX12_rate 0 [.ref 52, .int (nI k), .int w] [] h _
  refine mv_iload_n dX12_rate_0 rfl ?_
  refine mv_cS1 dX12_rate_1 lk_X12_rate_282 (Nat.le_of_ble_eq_true rfl) (Nat.le_of_ble_eq_true rfl) (k_X12_isKind (ev := ev)) ?_
  refine mv_if_ne (tgt := 11) dX12_rate_4 (by decide) (fun c4 => ?_) (fun z => absurd z ((fun z => (mv_b_0 _).mp z (mv_in_i (by omega) (by omega) (by omega)))))
  refine mv_iload_n dX12_rate_11 rfl ?_
  refine mv_i2l dX12_rate_12 ?_
  refine mv_lconst (v := lN 0) dX12_rate_13 rfl ?_
  refine mv_ldc2 (v := lN 2) dX12_rate_14 wd_1534 ?_
  refine mv_cS3 dX12_rate_17 lk_X12_rate_107 (Nat.le_of_ble_eq_true rfl) (Nat.le_of_ble_eq_true rfl) (k_X12_in (ev := ev)) ?_
  refine mv_if_ne (tgt := 27) dX12_rate_20 (by decide) (fun c20 => ?_) (fun c20 => ?_)
  · have c20 : nI 0 ≤ w ∧ w ≤ nI 2 := (and_congr (mv_lL (by decide)) (mv_lR (by decide))).mp (mv_b_ne c20)
    exact absurd (by assumption) hno
  · have c20 : ¬ (nI 0 ≤ w ∧ w ≤ nI 2) := fun z => (mv_b_0 _).mp c20 ((and_congr (mv_lL (by decide)) (mv_lR (by decide))).mpr z)
    refine mv_sipush (v := (-1002)) dX12_rate_23 (by decide) ?_
    exact mv_iret dX12_rate_26 rfl rfl ⟨rfl, rfl⟩
set_option maxRecDepth 100000 in
theorem k_X12_rate_R3 {ev : mv_E} {h : mv_H} {xt : Int32} {xf : Int32} {xa : Int32} {xo : Int64} {xe : Int32} {xu : Int32} {xs : Int32} {xc : Int32} {xw : Int32} {b : t_B} {t : Nat} {s : q_S} {wa : Nat → Nat} {cf : Nat → Int32} {ct : Nat → Int32} {k : Nat} (HX : h[52]? = some (.inr (12, [.ref 53, .ref 54, .int xt, .int xf, .int xa, .long xo, .int xe, .int xu, .ref 55, .int xs, .int (nI b.1), .ref 56, .ref 57, .ref 58, .int (nI t), .int (nI b.2.1), .ref 59, .ref 60, .ref 61, .ref 62, .int (nI s.1), .ref 63, .ref 64, .ref 65, .ref 66, .ref 67, .ref 68, .ref 69, .int xc, .ref 70, .ref 71, .ref 72, .ref 73, .ref 74, .ref 75, .int xw, .ref 76, .ref 77, .ref 78, .ref 79, .ref 80]))) (X60 : h[60]? = some (.inl (0, 8, .inl cf))) (X61 : h[61]? = some (.inl (0, 8, .inl ct))) (hk : k < 8) (hwi : q_WI wa cf ct) (hno : ¬ (cf k ≠ -1)) : mv_K ev mX12_rate [.ref 52, .int (nI k), .int (nI 0)] h (some (.int (-1003))) h := by
  refine mv_Kof ?_
  show mv_g ev mX12_rate 0 [.ref 52, .int (nI k), .int (nI 0)] [] h _
  have n1 := q_cd_le hwi k
  refine mv_iload_n dX12_rate_0 rfl ?_
  refine mv_cS1 dX12_rate_1 lk_X12_rate_282 (Nat.le_of_ble_eq_true rfl) (Nat.le_of_ble_eq_true rfl) (k_X12_isKind (ev := ev)) ?_
  refine mv_if_ne (tgt := 11) dX12_rate_4 (by decide) (fun c4 => ?_) (fun z => absurd z ((fun z => (mv_b_0 _).mp z (mv_in_i (by omega) (by omega) (by omega)))))
  refine mv_iload_n dX12_rate_11 rfl ?_
  refine mv_i2l dX12_rate_12 ?_
  refine mv_topL (y := lN 0) (nI_l (by omega)) ?_
  refine mv_lconst (v := lN 0) dX12_rate_13 rfl ?_
  refine mv_ldc2 (v := lN 2) dX12_rate_14 wd_1534 ?_
  refine mv_cS3 dX12_rate_17 lk_X12_rate_107 (Nat.le_of_ble_eq_true rfl) (Nat.le_of_ble_eq_true rfl) (k_X12_in (ev := ev)) ?_
  refine mv_if_ne (tgt := 27) dX12_rate_20 (by decide) (fun c20 => ?_) (fun z => absurd z ((fun z => (mv_b_0 _).mp z ((and_congr (lN_leB (by omega) (by omega)) (lN_leB (by omega) (by omega))).mpr ⟨by omega, by omega⟩))))
  refine mv_iload_n dX12_rate_27 rfl ?_
  refine mv_if_ne (tgt := 43) dX12_rate_28 (by decide) (fun z => absurd ((by decide)) z) (fun c28 => ?_)
  refine mv_aload_n dX12_rate_31 rfl ?_
  refine mv_iload_n dX12_rate_32 rfl ?_
  refine mv_cV1 (ci := 12) dX12_rate_33 lk_X12_rate_285 HX rfl (Nat.le_of_ble_eq_true rfl) (Nat.le_of_ble_eq_true rfl) (k_X12_counted (ev := ev) HX X60 X61 hk hwi) ?_
  refine mv_if_ne (tgt := 43) dX12_rate_36 (by decide) (fun c36 => ?_) (fun c36 => ?_)
  · have c36 : ¬ (q_cd cf ct k = 0) := fun z => c36 ((nI_eq (b := 0) (by omega) (by omega)).mpr z)
    exact absurd (fun q => c36 (q_cd_0 q)) hno
  · have c36 : q_cd cf ct k = 0 := (nI_eq (b := 0) (by omega) (by omega)).mp c36
    refine mv_sipush (v := (-1003)) dX12_rate_39 (by decide) ?_
    exact mv_iret dX12_rate_42 rfl rfl ⟨rfl, rfl⟩
set_option maxRecDepth 100000 in
theorem k_X12_rate_G0 {ev : mv_E} {h : mv_H} {xt : Int32} {xf : Int32} {xa : Int32} {xo : Int64} {xe : Int32} {xu : Int32} {xs : Int32} {xc : Int32} {xw : Int32} {b : t_B} {t : Nat} {s : q_S} {wa : Nat → Nat} {cf : Nat → Int32} {ct : Nat → Int32} {rr : Nat → Nat} {lw : Nat → Int32} {ln : Nat → Nat} {k : Nat} {oa : Nat → Nat} (HX : h[52]? = some (.inr (12, [.ref 53, .ref 54, .int xt, .int xf, .int xa, .long xo, .int xe, .int xu, .ref 55, .int xs, .int (nI b.1), .ref 56, .ref 57, .ref 58, .int (nI t), .int (nI b.2.1), .ref 59, .ref 60, .ref 61, .ref 62, .int (nI s.1), .ref 63, .ref 64, .ref 65, .ref 66, .ref 67, .ref 68, .ref 69, .int xc, .ref 70, .ref 71, .ref 72, .ref 73, .ref 74, .ref 75, .int xw, .ref 76, .ref 77, .ref 78, .ref 79, .ref 80]))) (X59 : h[59]? = some (.inl (0, 8, .inl (fun j => nI (wa j))))) (X60 : h[60]? = some (.inl (0, 8, .inl cf))) (X61 : h[61]? = some (.inl (0, 8, .inl ct))) (X62 : h[62]? = some (.inl (2, 400, .inl (fun j => nI (rr j))))) (X63 : h[63]? = some (.inl (0, 100, .inl (fun j => nI (s.2.1 j))))) (X64 : h[64]? = some (.inl (0, 100, .inl (fun j => nI (s.2.2.1 j))))) (X65 : h[65]? = some (.inl (0, 100, .inl (fun j => nI (s.2.2.2.1 j))))) (X66 : h[66]? = some (.inl (0, 100, .inl (fun j => nI (s.2.2.2.2 j))))) (X53 : h[53]? = some (.inl (0, 8, .inl lw))) (XO : h[67]? = some (.inl (2, 400, .inl (fun j => nI (oa j))))) (hw : q_LW lw ln) (hsi : q_SI s) (hr : ∀ d, rr d ≤ 1) (hwi : q_WI wa cf ct) (ho : ∀ d, oa d ≤ 1) (hk : k < 8) (hc : cf k ≠ -1) : ∃ h2, mv_K ev mX12_rate [.ref 52, .int (nI k), .int (nI 0)] h (some (.int (nI (q_ra (q_oks lw ln s wa cf ct rr (fun _ => 0)) cf ct k)))) h2 ∧ mv_fra [67] h h2 ∧ h2[67]? = some (.inl (2, 400, .inl (fun j => nI (q_fd (q_ev lw ln s wa cf ct rr) s k (q_z oa 400) s.1 j)))) := by
  suffices g0 : mv_g ev mX12_rate 0 (mv_ent [.ref 52, .int (nI k), .int (nI 0)] (mv_ml mX12_rate)) [] h (fun r g => r = some (.int (nI (q_ra (q_oks lw ln s wa cf ct rr (fun _ => 0)) cf ct k))) ∧ mv_fra [67] h g ∧ g[67]? = some (.inl (2, 400, .inl (fun j => nI (q_fd (q_ev lw ln s wa cf ct rr) s k (q_z oa 400) s.1 j))))) from (by obtain ⟨r0, h0, K0, q0, Q0⟩ := mv_Kex g0; subst q0; exact ⟨h0, K0, Q0⟩)
  show mv_g ev mX12_rate 0 [.ref 52, .int (nI k), .int (nI 0)] [] h _
  have fr : mv_fra [67] h h := mv_fra.rf
  have n1 := q_cd_le hwi k
  have n3 := q_cd_1 hwi hc
  refine mv_iload_n dX12_rate_0 rfl ?_
  refine mv_cS1 dX12_rate_1 lk_X12_rate_282 (Nat.le_of_ble_eq_true rfl) (Nat.le_of_ble_eq_true rfl) (k_X12_isKind (ev := ev)) ?_
  refine mv_if_ne (tgt := 11) dX12_rate_4 (by decide) (fun c4 => ?_) (fun z => absurd z ((fun z => (mv_b_0 _).mp z (mv_in_i (by omega) (by omega) (by omega)))))
  refine mv_iload_n dX12_rate_11 rfl ?_
  refine mv_i2l dX12_rate_12 ?_
  refine mv_topL (y := lN 0) (nI_l (by omega)) ?_
  refine mv_lconst (v := lN 0) dX12_rate_13 rfl ?_
  refine mv_ldc2 (v := lN 2) dX12_rate_14 wd_1534 ?_
  refine mv_cS3 dX12_rate_17 lk_X12_rate_107 (Nat.le_of_ble_eq_true rfl) (Nat.le_of_ble_eq_true rfl) (k_X12_in (ev := ev)) ?_
  refine mv_if_ne (tgt := 27) dX12_rate_20 (by decide) (fun c20 => ?_) (fun z => absurd z ((fun z => (mv_b_0 _).mp z ((and_congr (lN_leB (by omega) (by omega)) (lN_leB (by omega) (by omega))).mpr ⟨by omega, by omega⟩))))
  refine mv_iload_n dX12_rate_27 rfl ?_
  refine mv_if_ne (tgt := 43) dX12_rate_28 (by decide) (fun z => absurd ((by decide)) z) (fun c28 => ?_)
  refine mv_aload_n dX12_rate_31 rfl ?_
  refine mv_iload_n dX12_rate_32 rfl ?_
  refine mv_cV1 (ci := 12) dX12_rate_33 lk_X12_rate_285 HX rfl (Nat.le_of_ble_eq_true rfl) (Nat.le_of_ble_eq_true rfl) (k_X12_counted (ev := ev) HX X60 X61 hk hwi) ?_
  refine mv_if_ne (tgt := 43) dX12_rate_36 (by decide) (fun c36 => ?_) (fun z => absurd z ((fun q => absurd ((nI_eq (b := 0) (by omega) (by omega)).mp q) (by omega))))
  refine mv_iload_n dX12_rate_43 rfl ?_
  refine mv_if_ne (tgt := 55) dX12_rate_44 (by decide) (fun z => absurd ((by decide)) z) (fun c44 => ?_)
  refine mv_aload_n dX12_rate_47 rfl ?_
  refine mv_iload_n dX12_rate_48 rfl ?_
  obtain ⟨h1, K2, f3, y4⟩ := (k_X12_rateOf (ev := ev) (xt := xt) (xf := xf) (xa := xa) (xo := xo) (xe := xe) (xu := xu) (xs := xs) (xc := xc) (xw := xw) (b := b) (t := t) (s := s) (wa := wa) (cf := cf) (ct := ct) (rr := rr) (lw := lw) (ln := ln) (k := k) (oa := oa) HX X59 X60 X61 X62 X63 X64 X65 X66 X53 XO hw hsi hr hwi ho hk hc)
  refine mv_cV1 (ci := 12) dX12_rate_49 lk_X12_rate_304 HX rfl (Nat.le_of_ble_eq_true rfl) (Nat.le_of_ble_eq_true rfl) K2 ?_
  have HX := f3.get (by decide) HX
  have X59 := f3.get (by decide) X59
  have X60 := f3.get (by decide) X60
  have X61 := f3.get (by decide) X61
  have X62 := f3.get (by decide) X62
  have X63 := f3.get (by decide) X63
  have X64 := f3.get (by decide) X64
  have X65 := f3.get (by decide) X65
  have X66 := f3.get (by decide) X66
  have X53 := f3.get (by decide) X53
  have XO : h1[67]? = some (.inl (2, 400, .inl (fun j => nI (q_fd (q_ev lw ln s wa cf ct rr) s k (q_z oa 400) s.1 j)))) := y4
  have fr := fr.trans f3 (by decide)
  refine mv_goto (tgt := 77) dX12_rate_52 (by decide) ?_
  exact mv_iret dX12_rate_77 rfl rfl ⟨rfl, fr, XO⟩
set_option maxRecDepth 100000 in
theorem k_X12_rate_G1 {ev : mv_E} {h : mv_H} {xt : Int32} {xf : Int32} {xa : Int32} {xo : Int64} {xe : Int32} {xu : Int32} {xs : Int32} {xc : Int32} {xw : Int32} {b : t_B} {t : Nat} {s : q_S} {wa : Nat → Nat} {cf : Nat → Int32} {ct : Nat → Int32} {rr : Nat → Nat} {lw : Nat → Int32} {ln : Nat → Nat} {k : Nat} {oa : Nat → Nat} (HX : h[52]? = some (.inr (12, [.ref 53, .ref 54, .int xt, .int xf, .int xa, .long xo, .int xe, .int xu, .ref 55, .int xs, .int (nI b.1), .ref 56, .ref 57, .ref 58, .int (nI t), .int (nI b.2.1), .ref 59, .ref 60, .ref 61, .ref 62, .int (nI s.1), .ref 63, .ref 64, .ref 65, .ref 66, .ref 67, .ref 68, .ref 69, .int xc, .ref 70, .ref 71, .ref 72, .ref 73, .ref 74, .ref 75, .int xw, .ref 76, .ref 77, .ref 78, .ref 79, .ref 80]))) (X59 : h[59]? = some (.inl (0, 8, .inl (fun j => nI (wa j))))) (X60 : h[60]? = some (.inl (0, 8, .inl cf))) (X61 : h[61]? = some (.inl (0, 8, .inl ct))) (X62 : h[62]? = some (.inl (2, 400, .inl (fun j => nI (rr j))))) (X63 : h[63]? = some (.inl (0, 100, .inl (fun j => nI (s.2.1 j))))) (X64 : h[64]? = some (.inl (0, 100, .inl (fun j => nI (s.2.2.1 j))))) (X65 : h[65]? = some (.inl (0, 100, .inl (fun j => nI (s.2.2.2.1 j))))) (X66 : h[66]? = some (.inl (0, 100, .inl (fun j => nI (s.2.2.2.2 j))))) (X53 : h[53]? = some (.inl (0, 8, .inl lw))) (XO : h[67]? = some (.inl (2, 400, .inl (fun j => nI (oa j))))) (hw : q_LW lw ln) (hsi : q_SI s) (hr : ∀ d, rr d ≤ 1) (hwi : q_WI wa cf ct) (ho : ∀ d, oa d ≤ 1) (hk : k < 8) : ∃ h2, mv_K ev mX12_rate [.ref 52, .int (nI k), .int (nI 1)] h (some (.int (nI (q_on (q_oks lw ln s wa cf ct rr (fun _ => 0)) k 400)))) h2 ∧ mv_fra [67] h h2 ∧ h2[67]? = some (.inl (2, 400, .inl (fun j => nI (q_fd (q_ev lw ln s wa cf ct rr) s k (q_z oa 400) s.1 j)))) := by
  suffices g0 : mv_g ev mX12_rate 0 (mv_ent [.ref 52, .int (nI k), .int (nI 1)] (mv_ml mX12_rate)) [] h (fun r g => r = some (.int (nI (q_on (q_oks lw ln s wa cf ct rr (fun _ => 0)) k 400))) ∧ mv_fra [67] h g ∧ g[67]? = some (.inl (2, 400, .inl (fun j => nI (q_fd (q_ev lw ln s wa cf ct rr) s k (q_z oa 400) s.1 j))))) from (by obtain ⟨r0, h0, K0, q0, Q0⟩ := mv_Kex g0; subst q0; exact ⟨h0, K0, Q0⟩)
  show mv_g ev mX12_rate 0 [.ref 52, .int (nI k), .int (nI 1)] [] h _
  have fr : mv_fra [67] h h := mv_fra.rf
  refine mv_iload_n dX12_rate_0 rfl ?_
  refine mv_cS1 dX12_rate_1 lk_X12_rate_282 (Nat.le_of_ble_eq_true rfl) (Nat.le_of_ble_eq_true rfl) (k_X12_isKind (ev := ev)) ?_
  refine mv_if_ne (tgt := 11) dX12_rate_4 (by decide) (fun c4 => ?_) (fun z => absurd z ((fun z => (mv_b_0 _).mp z (mv_in_i (by omega) (by omega) (by omega)))))
  refine mv_iload_n dX12_rate_11 rfl ?_
  refine mv_i2l dX12_rate_12 ?_
  refine mv_topL (y := lN 1) (nI_l (by omega)) ?_
  refine mv_lconst (v := lN 0) dX12_rate_13 rfl ?_
  refine mv_ldc2 (v := lN 2) dX12_rate_14 wd_1534 ?_
  refine mv_cS3 dX12_rate_17 lk_X12_rate_107 (Nat.le_of_ble_eq_true rfl) (Nat.le_of_ble_eq_true rfl) (k_X12_in (ev := ev)) ?_
  refine mv_if_ne (tgt := 27) dX12_rate_20 (by decide) (fun c20 => ?_) (fun z => absurd z ((fun z => (mv_b_0 _).mp z ((and_congr (lN_leB (by omega) (by omega)) (lN_leB (by omega) (by omega))).mpr ⟨by omega, by omega⟩))))
  refine mv_iload_n dX12_rate_27 rfl ?_
  refine mv_if_ne (tgt := 43) dX12_rate_28 (by decide) (fun c28 => ?_) (fun z => absurd z ((by decide)))
  refine mv_iload_n dX12_rate_43 rfl ?_
  refine mv_if_ne (tgt := 55) dX12_rate_44 (by decide) (fun c44 => ?_) (fun z => absurd z ((by decide)))
  refine mv_iload_n dX12_rate_55 rfl ?_
  refine mv_iconst (v := nI 1) dX12_rate_56 (by decide) ?_
  refine mv_icmp_ne (tgt := 72) dX12_rate_57 (by decide) (fun z => absurd ((by decide)) z) (fun c57 => ?_)
  refine mv_aload_n dX12_rate_60 rfl ?_
  refine mv_iload_n dX12_rate_61 rfl ?_
  refine mv_aload_n dX12_rate_62 rfl ?_
  refine mv_getf (ci := 12) (f := 25) dX12_rate_63 HX rfl (by decide) wd_1224 rfl ?_
  obtain ⟨h1, K2, f3, y4⟩ := (k_X12_findOdd67 (ev := ev) (xt := xt) (xf := xf) (xa := xa) (xo := xo) (xe := xe) (xu := xu) (xs := xs) (xc := xc) (xw := xw) (b := b) (t := t) (s := s) (wa := wa) (cf := cf) (ct := ct) (rr := rr) (lw := lw) (ln := ln) (k := k) (oa := oa) HX X59 X60 X61 X62 X63 X64 X65 X66 X53 XO hw hsi hr hwi ho hk)
  refine mv_cV2 (ci := 12) dX12_rate_66 lk_X12_rate_298 HX rfl (Nat.le_of_ble_eq_true rfl) (Nat.le_of_ble_eq_true rfl) K2 ?_
  have HX := f3.get (by decide) HX
  have X59 := f3.get (by decide) X59
  have X60 := f3.get (by decide) X60
  have X61 := f3.get (by decide) X61
  have X62 := f3.get (by decide) X62
  have X63 := f3.get (by decide) X63
  have X64 := f3.get (by decide) X64
  have X65 := f3.get (by decide) X65
  have X66 := f3.get (by decide) X66
  have X53 := f3.get (by decide) X53
  have XO : h1[67]? = some (.inl (2, 400, .inl (fun j => nI (q_fd (q_ev lw ln s wa cf ct rr) s k (q_z oa 400) s.1 j)))) := y4
  have fr := fr.trans f3 (by decide)
  refine mv_goto (tgt := 77) dX12_rate_69 (by decide) ?_
  exact mv_iret dX12_rate_77 rfl rfl ⟨rfl, fr, XO⟩
set_option maxRecDepth 100000 in
theorem k_X12_rate_G2 {ev : mv_E} {h : mv_H} {xt : Int32} {xf : Int32} {xa : Int32} {xo : Int64} {xe : Int32} {xu : Int32} {xs : Int32} {xc : Int32} {xw : Int32} {b : t_B} {t : Nat} {s : q_S} {wa : Nat → Nat} {cf : Nat → Int32} {ct : Nat → Int32} {k : Nat} (HX : h[52]? = some (.inr (12, [.ref 53, .ref 54, .int xt, .int xf, .int xa, .long xo, .int xe, .int xu, .ref 55, .int xs, .int (nI b.1), .ref 56, .ref 57, .ref 58, .int (nI t), .int (nI b.2.1), .ref 59, .ref 60, .ref 61, .ref 62, .int (nI s.1), .ref 63, .ref 64, .ref 65, .ref 66, .ref 67, .ref 68, .ref 69, .int xc, .ref 70, .ref 71, .ref 72, .ref 73, .ref 74, .ref 75, .int xw, .ref 76, .ref 77, .ref 78, .ref 79, .ref 80]))) (X60 : h[60]? = some (.inl (0, 8, .inl cf))) (X61 : h[61]? = some (.inl (0, 8, .inl ct))) (hk : k < 8) (hwi : q_WI wa cf ct) : mv_K ev mX12_rate [.ref 52, .int (nI k), .int (nI 2)] h (some (.int (nI (q_cd cf ct k)))) h := by
  refine mv_Kof ?_
  show mv_g ev mX12_rate 0 [.ref 52, .int (nI k), .int (nI 2)] [] h _
  refine mv_iload_n dX12_rate_0 rfl ?_
  refine mv_cS1 dX12_rate_1 lk_X12_rate_282 (Nat.le_of_ble_eq_true rfl) (Nat.le_of_ble_eq_true rfl) (k_X12_isKind (ev := ev)) ?_
  refine mv_if_ne (tgt := 11) dX12_rate_4 (by decide) (fun c4 => ?_) (fun z => absurd z ((fun z => (mv_b_0 _).mp z (mv_in_i (by omega) (by omega) (by omega)))))
  refine mv_iload_n dX12_rate_11 rfl ?_
  refine mv_i2l dX12_rate_12 ?_
  refine mv_topL (y := lN 2) (nI_l (by omega)) ?_
  refine mv_lconst (v := lN 0) dX12_rate_13 rfl ?_
  refine mv_ldc2 (v := lN 2) dX12_rate_14 wd_1534 ?_
  refine mv_cS3 dX12_rate_17 lk_X12_rate_107 (Nat.le_of_ble_eq_true rfl) (Nat.le_of_ble_eq_true rfl) (k_X12_in (ev := ev)) ?_
  refine mv_if_ne (tgt := 27) dX12_rate_20 (by decide) (fun c20 => ?_) (fun z => absurd z ((fun z => (mv_b_0 _).mp z ((and_congr (lN_leB (by omega) (by omega)) (lN_leB (by omega) (by omega))).mpr ⟨by omega, by omega⟩))))
  refine mv_iload_n dX12_rate_27 rfl ?_
  refine mv_if_ne (tgt := 43) dX12_rate_28 (by decide) (fun c28 => ?_) (fun z => absurd z ((by decide)))
  refine mv_iload_n dX12_rate_43 rfl ?_
  refine mv_if_ne (tgt := 55) dX12_rate_44 (by decide) (fun c44 => ?_) (fun z => absurd z ((by decide)))
  refine mv_iload_n dX12_rate_55 rfl ?_
  refine mv_iconst (v := nI 1) dX12_rate_56 (by decide) ?_
  refine mv_icmp_ne (tgt := 72) dX12_rate_57 (by decide) (fun c57 => ?_) (fun z => absurd z ((by decide)))
  refine mv_aload_n dX12_rate_72 rfl ?_
  refine mv_iload_n dX12_rate_73 rfl ?_
  refine mv_cV1 (ci := 12) dX12_rate_74 lk_X12_rate_285 HX rfl (Nat.le_of_ble_eq_true rfl) (Nat.le_of_ble_eq_true rfl) (k_X12_counted (ev := ev) HX X60 X61 hk hwi) ?_
  exact mv_iret dX12_rate_77 rfl rfl ⟨rfl, rfl⟩
