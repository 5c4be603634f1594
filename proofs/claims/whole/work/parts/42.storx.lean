set_option maxRecDepth 100000 in
theorem k_X12_story_R1 {ev : mv_E} {h : mv_H} {k1 : Int32} {k2 : Int32} {w : Int32}  (hno : ¬ ((nI 0 ≤ k1 ∧ k1 ≤ nI 7) ∧ (nI 0 ≤ k2 ∧ k2 ≤ nI 7))) : mv_K ev mX12_story [.ref 52, .int k1, .int k2, .int w] h (some (.int (-1001))) h := by
  refine mv_Kof ?_
  show mv_g ev mX12_story 0 [.ref 52, .int k1, .int k2, .int w, .null, .null, .null, .null, .null] [] h _
  refine mv_iload_n dX12_story_0 rfl ?_
  refine mv_cS1 dX12_story_1 lk_X12_story_282 (Nat.le_of_ble_eq_true rfl) (Nat.le_of_ble_eq_true rfl) (k_X12_isKind (ev := ev)) ?_
  refine mv_if_eq (tgt := 14) dX12_story_4 (by decide) (fun c4 => ?_) (fun c4 => ?_)
  · have c4 : ¬ (nI 0 ≤ k1 ∧ k1 ≤ nI 7) := (mv_b_0 _).mp c4
    refine mv_sipush (v := (-1001)) dX12_story_14 (by decide) ?_
    exact mv_iret dX12_story_17 rfl rfl ⟨rfl, rfl⟩
  · have c4 : nI 0 ≤ k1 ∧ k1 ≤ nI 7 := Classical.byContradiction (fun z => c4 ((mv_b_0 _).mpr z))
    refine mv_iload_n dX12_story_7 rfl ?_
    refine mv_cS1 dX12_story_8 lk_X12_story_282 (Nat.le_of_ble_eq_true rfl) (Nat.le_of_ble_eq_true rfl) (k_X12_isKind (ev := ev)) ?_
    refine mv_if_ne (tgt := 18) dX12_story_11 (by decide) (fun c11 => ?_) (fun c11 => ?_)
    · have c11 : nI 0 ≤ k2 ∧ k2 ≤ nI 7 := Classical.byContradiction (fun z => c11 ((mv_b_0 _).mpr z))
      exact absurd (by refine ⟨?_, ?_⟩ <;> assumption) hno
    · have c11 : ¬ (nI 0 ≤ k2 ∧ k2 ≤ nI 7) := (mv_b_0 _).mp c11
      refine mv_sipush (v := (-1001)) dX12_story_14 (by decide) ?_
      exact mv_iret dX12_story_17 rfl rfl ⟨rfl, rfl⟩
set_option maxRecDepth 100000 in
theorem k_X12_story_R2 {ev : mv_E} {h : mv_H} {k1 : Nat} {k2 : Nat} {w : Int32}  (hk1 : k1 < 8) (hk2 : k2 < 8) (hno : ¬ ((nI 0 ≤ w ∧ w ≤ nI 60))) : mv_K ev mX12_story [.ref 52, .int (nI k1), .int (nI k2), .int w] h (some (.int (-1002))) h := by
  refine mv_Kof ?_
  show mv_g ev mX12_story 0 [.ref 52, .int (nI k1), .int (nI k2), .int w, .null, .null, .null, .null, .null] [] h _
  refine mv_iload_n dX12_story_0 rfl ?_
  refine mv_cS1 dX12_story_1 lk_X12_story_282 (Nat.le_of_ble_eq_true rfl) (Nat.le_of_ble_eq_true rfl) (k_X12_isKind (ev := ev)) ?_
  refine mv_if_eq (tgt := 14) dX12_story_4 (by decide) (fun z => absurd z ((fun z => (mv_b_0 _).mp z (mv_in_i (by omega) (by omega) (by omega))))) (fun c4 => ?_)
  refine mv_iload_n dX12_story_7 rfl ?_
  refine mv_cS1 dX12_story_8 lk_X12_story_282 (Nat.le_of_ble_eq_true rfl) (Nat.le_of_ble_eq_true rfl) (k_X12_isKind (ev := ev)) ?_
  refine mv_if_ne (tgt := 18) dX12_story_11 (by decide) (fun c11 => ?_) (fun z => absurd z ((fun z => (mv_b_0 _).mp z (mv_in_i (by omega) (by omega) (by omega)))))
  refine mv_iload_n dX12_story_18 rfl ?_
  refine mv_i2l dX12_story_19 ?_
  refine mv_lconst (v := lN 0) dX12_story_20 rfl ?_
  refine mv_ldc2 (v := lN 60) dX12_story_21 wd_1550 ?_
  refine mv_cS3 dX12_story_24 lk_X12_story_107 (Nat.le_of_ble_eq_true rfl) (Nat.le_of_ble_eq_true rfl) (k_X12_in (ev := ev)) ?_
  refine mv_if_ne (tgt := 34) dX12_story_27 (by decide) (fun c27 => ?_) (fun c27 => ?_)
  · have c27 : nI 0 ≤ w ∧ w ≤ nI 60 := (and_congr (mv_lL (by decide)) (mv_lR (by decide))).mp (mv_b_ne c27)
    exact absurd (by assumption) hno
  · have c27 : ¬ (nI 0 ≤ w ∧ w ≤ nI 60) := fun z => (mv_b_0 _).mp c27 ((and_congr (mv_lL (by decide)) (mv_lR (by decide))).mpr z)
    refine mv_sipush (v := (-1002)) dX12_story_30 (by decide) ?_
    exact mv_iret dX12_story_33 rfl rfl ⟨rfl, rfl⟩
set_option maxRecDepth 100000 in
theorem k_X12_story_R3 {ev : mv_E} {h : mv_H} {xt : Int32} {xf : Int32} {xa : Int32} {xo : Int64} {xe : Int32} {xu : Int32} {xs : Int32} {xc : Int32} {xw : Int32} {b : t_B} {t : Nat} {s : q_S} {wa : Nat → Nat} {cf : Nat → Int32} {ct : Nat → Int32} {k1 : Nat} {k2 : Nat} {w : Nat} (HX : h[52]? = some (.inr (12, [.ref 53, .ref 54, .int xt, .int xf, .int xa, .long xo, .int xe, .int xu, .ref 55, .int xs, .int (nI b.1), .ref 56, .ref 57, .ref 58, .int (nI t), .int (nI b.2.1), .ref 59, .ref 60, .ref 61, .ref 62, .int (nI s.1), .ref 63, .ref 64, .ref 65, .ref 66, .ref 67, .ref 68, .ref 69, .int xc, .ref 70, .ref 71, .ref 72, .ref 73, .ref 74, .ref 75, .int xw, .ref 76, .ref 77, .ref 78, .ref 79, .ref 80]))) (X60 : h[60]? = some (.inl (0, 8, .inl cf))) (X61 : h[61]? = some (.inl (0, 8, .inl ct))) (hk1 : k1 < 8) (hk2 : k2 < 8) (hw6 : w ≤ 60) (hwi : q_WI wa cf ct) (hno : ¬ (cf k1 ≠ -1 ∧ cf k2 ≠ -1)) : mv_K ev mX12_story [.ref 52, .int (nI k1), .int (nI k2), .int (nI w)] h (some (.int (-1003))) h := by
  refine mv_Kof ?_
  show mv_g ev mX12_story 0 [.ref 52, .int (nI k1), .int (nI k2), .int (nI w), .null, .null, .null, .null, .null] [] h _
  have n1 := q_cd_le hwi k1
  have n2 := q_cd_le hwi k2
  refine mv_iload_n dX12_story_0 rfl ?_
  refine mv_cS1 dX12_story_1 lk_X12_story_282 (Nat.le_of_ble_eq_true rfl) (Nat.le_of_ble_eq_true rfl) (k_X12_isKind (ev := ev)) ?_
  refine mv_if_eq (tgt := 14) dX12_story_4 (by decide) (fun z => absurd z ((fun z => (mv_b_0 _).mp z (mv_in_i (by omega) (by omega) (by omega))))) (fun c4 => ?_)
  refine mv_iload_n dX12_story_7 rfl ?_
  refine mv_cS1 dX12_story_8 lk_X12_story_282 (Nat.le_of_ble_eq_true rfl) (Nat.le_of_ble_eq_true rfl) (k_X12_isKind (ev := ev)) ?_
  refine mv_if_ne (tgt := 18) dX12_story_11 (by decide) (fun c11 => ?_) (fun z => absurd z ((fun z => (mv_b_0 _).mp z (mv_in_i (by omega) (by omega) (by omega)))))
  refine mv_iload_n dX12_story_18 rfl ?_
  refine mv_i2l dX12_story_19 ?_
  refine mv_topL (y := lN w) (nI_l (by omega)) ?_
  refine mv_lconst (v := lN 0) dX12_story_20 rfl ?_
  refine mv_ldc2 (v := lN 60) dX12_story_21 wd_1550 ?_
  refine mv_cS3 dX12_story_24 lk_X12_story_107 (Nat.le_of_ble_eq_true rfl) (Nat.le_of_ble_eq_true rfl) (k_X12_in (ev := ev)) ?_
  refine mv_if_ne (tgt := 34) dX12_story_27 (by decide) (fun c27 => ?_) (fun z => absurd z ((fun z => (mv_b_0 _).mp z ((and_congr (lN_leB (by omega) (by omega)) (lN_leB (by omega) (by omega))).mpr ⟨by omega, by omega⟩))))
  refine mv_aload_n dX12_story_34 rfl ?_
  refine mv_iload_n dX12_story_35 rfl ?_
  refine mv_cV1 (ci := 12) dX12_story_36 lk_X12_story_285 HX rfl (Nat.le_of_ble_eq_true rfl) (Nat.le_of_ble_eq_true rfl) (k_X12_counted (ev := ev) HX X60 X61 hk1 hwi) ?_
  refine mv_if_eq (tgt := 50) dX12_story_39 (by decide) (fun c39 => ?_) (fun c39 => ?_)
  · have c39 : cf k1 = -1 := Classical.byContradiction (fun q => absurd (q_cd_1 hwi q) (by have q2 := (nI_eq (b := 0) (by omega) (by omega)).mp c39; omega))
    refine mv_sipush (v := (-1003)) dX12_story_50 (by decide) ?_
    exact mv_iret dX12_story_53 rfl rfl ⟨rfl, rfl⟩
  · have c39 : cf k1 ≠ -1 := fun q => c39 (by rw [q_cd_0 q]; rfl)
    refine mv_aload_n dX12_story_42 rfl ?_
    refine mv_iload_n dX12_story_43 rfl ?_
    refine mv_cV1 (ci := 12) dX12_story_44 lk_X12_story_285 HX rfl (Nat.le_of_ble_eq_true rfl) (Nat.le_of_ble_eq_true rfl) (k_X12_counted (ev := ev) HX X60 X61 hk2 hwi) ?_
    refine mv_if_ne (tgt := 54) dX12_story_47 (by decide) (fun c47 => ?_) (fun c47 => ?_)
    · have c47 : cf k2 ≠ -1 := fun q => c47 (by rw [q_cd_0 q]; rfl)
      exact absurd (by refine ⟨?_, ?_⟩ <;> assumption) hno
    · have c47 : cf k2 = -1 := Classical.byContradiction (fun q => absurd (q_cd_1 hwi q) (by have q2 := (nI_eq (b := 0) (by omega) (by omega)).mp c47; omega))
      refine mv_sipush (v := (-1003)) dX12_story_50 (by decide) ?_
      exact mv_iret dX12_story_53 rfl rfl ⟨rfl, rfl⟩
/-- up to x, k2 is counted and not odd -/
def q_pS (ok : Nat → Nat) (cf ct : Nat → Int32) (k1 k2 y x : Nat) : Prop := q_bt (ok y) k1 = 1 ∧ ∀ i, y ≤ i → i < x → (cf k2 ≠ -1 ∧ cf k2 ≤ nI i ∧ nI i ≤ ct k2) ∧ ¬ q_bt (ok i) k2 = 1
theorem q_pS_s {ok : Nat → Nat} {cf ct : Nat → Int32} {k1 k2 y x : Nat} (h : y ≤ x) : q_pS ok cf ct k1 k2 y (x + 1) ↔ q_pS ok cf ct k1 k2 y x ∧ ((cf k2 ≠ -1 ∧ cf k2 ≤ nI x ∧ nI x ≤ ct k2) ∧ ¬ q_bt (ok x) k2 = 1) := by
  constructor
  · intro ⟨h1, h2⟩
    exact ⟨⟨h1, fun i a b => h2 i a (by omega)⟩, h2 x h (by omega)⟩
  · intro ⟨⟨h1, h2⟩, h3⟩
    refine ⟨h1, fun i a b => ?_⟩
    by_cases e : i = x
    · rw [e]; exact h3
    · exact h2 i a (by omega)
/-- the same as the class counts -/
theorem q_pS_P {lw : Nat → Int32} {ln : Nat → Nat} {s : q_S} {wa : Nat → Nat} {cf ct : Nat → Int32} {rr ok : Nat → Nat} {k1 k2 w a1 c1 a2 c2 d : Nat} (hd : d ≤ 399) (hw : w ≤ 60) (e1 : cf k1 = nI a1) (f1 : ct k1 = nI c1) (e2 : cf k2 = nI a2) (f2 : ct k2 = nI c2) (hc1 : c1 ≤ 399) (hc2 : c2 ≤ 399) (ha1 : a1 ≤ 399) (ha2 : a2 ≤ 399) : q_pS (q_oks lw ln s wa cf ct rr ok) cf ct k1 k2 d (d + w + 1) ↔ q_sP (q_oks lw ln s wa cf ct rr ok) k1 k2 w a1 a2 c1 c2 d := by
  constructor
  · intro ⟨h1, h2⟩
    obtain ⟨i, i1, i2, i3, i4⟩ := (q_oks_b hd).mp h1
    have i5 := i2.1
    rw [i3, i4, e1, f1] at i5
    have j1 := (nI_leI (by omega) (by omega)).mp i5.2.1
    have j2 := (nI_leI (by omega) (by omega)).mp i5.2.2
    have g1 := (h2 d (Nat.le_refl _) (by omega)).1
    have g2 := (h2 (d + w) (by omega) (by omega)).1
    rw [e2, f2] at g1 g2
    have g3 := (nI_leI (by omega) (by omega)).mp g1.2.1
    have g4 := (nI_leI (by omega) (by omega)).mp g2.2.2
    exact ⟨h1, ⟨j1, g3, j2, g4⟩, fun x x1 x2 => (h2 x x1 (by omega)).2⟩
  · intro ⟨h1, ⟨h2, h3, h4, h5⟩, h6⟩
    refine ⟨h1, fun i a b => ⟨⟨by rw [e2]; exact nI_m1 (by omega), by rw [e2]; exact (nI_leI (by omega) (by omega)).mpr (by omega), by rw [f2]; exact (nI_leI (by omega) (by omega)).mpr (by omega)⟩, h6 i a (by omega)⟩⟩
set_option maxRecDepth 100000 in
theorem l_X12_storyI {ev : mv_E} {h : mv_H} {xt : Int32} {xf : Int32} {xa : Int32} {xo : Int64} {xe : Int32} {xu : Int32} {xs : Int32} {xc : Int32} {xw : Int32} {b : t_B} {t : Nat} {s : q_S} {wa : Nat → Nat} {cf : Nat → Int32} {ct : Nat → Int32} {rr : Nat → Nat} {lw : Nat → Int32} {ln : Nat → Nat} {oa : Nat → Nat} {ob : Nat → Nat} {ok : Nat → Nat} {k1 : Nat} {k2 : Nat} {w : Nat} {a1 : Nat} {c1 : Nat} {a2 : Nat} {c2 : Nat}  (hw : q_LW lw ln) (hsi : q_SI s) (hr : ∀ d, rr d ≤ 1) (hwi : q_WI wa cf ct) (hk1 : k1 < 8) (hk2 : k2 < 8) (ho : ∀ d, oa d ≤ 1) (hob : ∀ d, ob d ≤ 1) (hw6 : w ≤ 60) (e1 : cf k1 = nI a1) (f1 : ct k1 = nI c1) (e2 : cf k2 = nI a2) (f2 : ct k2 = nI c2) (hc1 : c1 ≤ 399) (hc2 : c2 ≤ 399) (ha1 : a1 ≤ 399) (ha2 : a2 ≤ 399) : ∀ (fu : Nat) (v : Nat) (y : Nat) (u : Int32) (x : Nat), ∀ (g : mv_H), y + w + 1 < x + fu → mv_fra [67, 68] h g → g[67]? = some (.inl (2, 400, .inl (fun j => nI (q_fd (q_ev lw ln s wa cf ct rr) s k1 (q_z oa 400) s.1 j)))) → g[68]? = some (.inl (2, 400, .inl (fun j => nI (q_fd (q_ev lw ln s wa cf ct rr) s k2 (q_z ob 400) s.1 j)))) → g[52]? = some (.inr (12, [.ref 53, .ref 54, .int xt, .int xf, .int xa, .long xo, .int xe, .int xu, .ref 55, .int xs, .int (nI b.1), .ref 56, .ref 57, .ref 58, .int (nI t), .int (nI b.2.1), .ref 59, .ref 60, .ref 61, .ref 62, .int (nI s.1), .ref 63, .ref 64, .ref 65, .ref 66, .ref 67, .ref 68, .ref 69, .int xc, .ref 70, .ref 71, .ref 72, .ref 73, .ref 74, .ref 75, .int xw, .ref 76, .ref 77, .ref 78, .ref 79, .ref 80])) → g[59]? = some (.inl (0, 8, .inl (fun j => nI (wa j)))) → g[60]? = some (.inl (0, 8, .inl cf)) → g[61]? = some (.inl (0, 8, .inl ct)) → g[62]? = some (.inl (2, 400, .inl (fun j => nI (rr j)))) → g[63]? = some (.inl (0, 100, .inl (fun j => nI (s.2.1 j)))) → g[64]? = some (.inl (0, 100, .inl (fun j => nI (s.2.2.1 j)))) → g[65]? = some (.inl (0, 100, .inl (fun j => nI (s.2.2.2.1 j)))) → g[66]? = some (.inl (0, 100, .inl (fun j => nI (s.2.2.2.2 j)))) → g[53]? = some (.inl (0, 8, .inl lw)) → (y < 400) → (v = q_cnt (q_sP (q_oks lw ln s wa cf ct rr ok) k1 k2 w a1 a2 c1 c2) y) → (v ≤ y) → (y ≤ x) → (x ≤ y + w + 1) → (u = mv_q (q_pS (q_oks lw ln s wa cf ct rr ok) cf ct k1 k2 y x)) → (∀ (gx : mv_H), mv_fra [67, 68] h gx → gx[67]? = some (.inl (2, 400, .inl (fun j => nI (q_fd (q_ev lw ln s wa cf ct rr) s k1 (q_z oa 400) s.1 j)))) → gx[68]? = some (.inl (2, 400, .inl (fun j => nI (q_fd (q_ev lw ln s wa cf ct rr) s k2 (q_z ob 400) s.1 j)))) → gx[52]? = some (.inr (12, [.ref 53, .ref 54, .int xt, .int xf, .int xa, .long xo, .int xe, .int xu, .ref 55, .int xs, .int (nI b.1), .ref 56, .ref 57, .ref 58, .int (nI t), .int (nI b.2.1), .ref 59, .ref 60, .ref 61, .ref 62, .int (nI s.1), .ref 63, .ref 64, .ref 65, .ref 66, .ref 67, .ref 68, .ref 69, .int xc, .ref 70, .ref 71, .ref 72, .ref 73, .ref 74, .ref 75, .int xw, .ref 76, .ref 77, .ref 78, .ref 79, .ref 80])) → gx[59]? = some (.inl (0, 8, .inl (fun j => nI (wa j)))) → gx[60]? = some (.inl (0, 8, .inl cf)) → gx[61]? = some (.inl (0, 8, .inl ct)) → gx[62]? = some (.inl (2, 400, .inl (fun j => nI (rr j)))) → gx[63]? = some (.inl (0, 100, .inl (fun j => nI (s.2.1 j)))) → gx[64]? = some (.inl (0, 100, .inl (fun j => nI (s.2.2.1 j)))) → gx[65]? = some (.inl (0, 100, .inl (fun j => nI (s.2.2.2.1 j)))) → gx[66]? = some (.inl (0, 100, .inl (fun j => nI (s.2.2.2.2 j)))) → gx[53]? = some (.inl (0, 8, .inl lw)) → mv_g ev mX12_story 154 [.ref 52, .int (nI k1), .int (nI k2), .int (nI w), .int (nI ((q_on (q_oks lw ln s wa cf ct rr (fun _ => 0)) k1 400) + (q_on (q_oks lw ln s wa cf ct rr (fun _ => 0)) k2 400))), .int (nI v), .int (nI y), .int (mv_q (q_pS (q_oks lw ln s wa cf ct rr ok) cf ct k1 k2 y (y + w + 1))), .null] [] gx (fun r g => r = some (.int (nI (q_cnt (q_sP (q_oks lw ln s wa cf ct rr ok) k1 k2 w a1 a2 c1 c2) 400))) ∧ mv_fra [67, 68] h g ∧ g[67]? = some (.inl (2, 400, .inl (fun j => nI (q_fd (q_ev lw ln s wa cf ct rr) s k1 (q_z oa 400) s.1 j)))) ∧ g[68]? = some (.inl (2, 400, .inl (fun j => nI (q_fd (q_ev lw ln s wa cf ct rr) s k2 (q_z ob 400) s.1 j)))))) → mv_g ev mX12_story 107 [.ref 52, .int (nI k1), .int (nI k2), .int (nI w), .int (nI ((q_on (q_oks lw ln s wa cf ct rr (fun _ => 0)) k1 400) + (q_on (q_oks lw ln s wa cf ct rr (fun _ => 0)) k2 400))), .int (nI v), .int (nI y), .int u, .int (nI x)] [] g (fun r g => r = some (.int (nI (q_cnt (q_sP (q_oks lw ln s wa cf ct rr ok) k1 k2 w a1 a2 c1 c2) 400))) ∧ mv_fra [67, 68] h g ∧ g[67]? = some (.inl (2, 400, .inl (fun j => nI (q_fd (q_ev lw ln s wa cf ct rr) s k1 (q_z oa 400) s.1 j)))) ∧ g[68]? = some (.inl (2, 400, .inl (fun j => nI (q_fd (q_ev lw ln s wa cf ct rr) s k2 (q_z ob 400) s.1 j))))) := by
  intro fu
  induction fu with
  | zero => intro v y u x g hm fr XO XO8 HX X59 X60 X61 X62 X63 X64 X65 X66 X53 hy hv hvb hx hx2 hu kx; exact absurd hm (by omega)
  | succ fu ih =>
    intro v y u x g hm fr XO XO8 HX X59 X60 X61 X62 X63 X64 X65 X66 X53 hy hv hvb hx hx2 hu kx
    have m1 : cf k1 ≠ -1 := (by rw [e1]; exact nI_m1 (by omega))
    have m2 : cf k2 ≠ -1 := (by rw [e2]; exact nI_m1 (by omega))
    have n1 := q_cd_le hwi k1
    have n2 := q_cd_le hwi k2
    have n3 := q_cd_1 hwi m1
    have n4 := q_cd_1 hwi m2
    have n5 := q_on_le (q_oks lw ln s wa cf ct rr (fun _ => 0)) k1 400
    have n6 := q_on_le (q_oks lw ln s wa cf ct rr (fun _ => 0)) k2 400
    refine mv_iload dX12_story_107 rfl ?_
    refine mv_iload dX12_story_109 rfl ?_
    refine mv_iload_n dX12_story_111 rfl ?_
    refine mv_iadd dX12_story_112 ?_
    refine mv_topI (y := nI (y + w)) (nI_add _ _) ?_
    refine mv_icmp_gt (tgt := 154) dX12_story_113 (by decide) (fun c113 => ?_) (fun c113 => ?_)
    · have c113 : y + w < x := (nI_ltI (by omega) (by omega)).mp c113
      have e9 : u = mv_q (q_pS (q_oks lw ln s wa cf ct rr ok) cf ct k1 k2 y (y + w + 1)) := (by first | (have ex : x = y + w + 1 := (by omega); rw [← ex]; exact hu) | exact hu.trans ((mv_q_f ((mv_q_0 _).mp (hu ▸ c118))).trans (mv_q_f (fun q => (mv_q_0 _).mp (hu ▸ c118) ⟨q.1, fun i a b => q.2 i a (by omega)⟩)).symm))
      rw [e9]
      refine mv_sub (lv' := [.ref 52, .int (nI k1), .int (nI k2), .int (nI w), .int (nI ((q_on (q_oks lw ln s wa cf ct rr (fun _ => 0)) k1 400) + (q_on (q_oks lw ln s wa cf ct rr (fun _ => 0)) k2 400))), .int (nI v), .int (nI y), .int (mv_q (q_pS (q_oks lw ln s wa cf ct rr ok) cf ct k1 k2 y (y + w + 1))), .null]) ⟨Or.inr rfl, Or.inr rfl, Or.inr rfl, Or.inr rfl, Or.inr rfl, Or.inr rfl, Or.inr rfl, Or.inr rfl, Or.inl rfl, trivial⟩ ?_
      exact kx g fr XO XO8 HX X59 X60 X61 X62 X63 X64 X65 X66 X53
    · have c113 : ¬ (y + w < x) := fun z => c113 ((nI_ltI (by omega) (by omega)).mpr z)
      refine mv_iload dX12_story_116 rfl ?_
      refine mv_if_eq (tgt := 154) dX12_story_118 (by decide) (fun c118 => ?_) (fun c118 => ?_)
      · skip
        have e9 : u = mv_q (q_pS (q_oks lw ln s wa cf ct rr ok) cf ct k1 k2 y (y + w + 1)) := (by first | (have ex : x = y + w + 1 := (by omega); rw [← ex]; exact hu) | exact hu.trans ((mv_q_f ((mv_q_0 _).mp (hu ▸ c118))).trans (mv_q_f (fun q => (mv_q_0 _).mp (hu ▸ c118) ⟨q.1, fun i a b => q.2 i a (by omega)⟩)).symm))
        rw [e9]
        refine mv_sub (lv' := [.ref 52, .int (nI k1), .int (nI k2), .int (nI w), .int (nI ((q_on (q_oks lw ln s wa cf ct rr (fun _ => 0)) k1 400) + (q_on (q_oks lw ln s wa cf ct rr (fun _ => 0)) k2 400))), .int (nI v), .int (nI y), .int (mv_q (q_pS (q_oks lw ln s wa cf ct rr ok) cf ct k1 k2 y (y + w + 1))), .null]) ⟨Or.inr rfl, Or.inr rfl, Or.inr rfl, Or.inr rfl, Or.inr rfl, Or.inr rfl, Or.inr rfl, Or.inr rfl, Or.inl rfl, trivial⟩ ?_
        exact kx g fr XO XO8 HX X59 X60 X61 X62 X63 X64 X65 X66 X53
      · skip
        refine mv_aload_n dX12_story_121 rfl ?_
        refine mv_iload_n dX12_story_122 rfl ?_
        refine mv_iload dX12_story_123 rfl ?_
        refine mv_cV2 (ci := 12) dX12_story_125 lk_X12_story_288 HX rfl (Nat.le_of_ble_eq_true rfl) (Nat.le_of_ble_eq_true rfl) (k_X12_isCounted (ev := ev) HX X60 X61 hk2 hwi (by omega)) ?_
        refine mv_if_eq (tgt := 145) dX12_story_128 (by decide) (fun c128 => ?_) (fun c128 => ?_)
        · have c128 : ¬ (cf k2 ≠ -1 ∧ cf k2 ≤ nI x ∧ nI x ≤ ct k2) := (mv_b_0 _).mp c128
          refine mv_iconst (v := nI 0) dX12_story_145 (by decide) ?_
          refine mv_istore dX12_story_146 (by decide) ?_
          refine mv_iinc (v := nI (x + 1)) dX12_story_148 rfl (mv_inc x 1) (by decide) ?_
          refine mv_goto (tgt := 107) dX12_story_151 (by decide) ?_
          exact ih v y (nI 0) (x + 1) g (by omega) fr XO XO8 HX X59 X60 X61 X62 X63 X64 X65 X66 X53 hy hv hvb (by omega) (by omega) ((mv_q_f (fun q => by have q2 := ((q_pS_s (by omega)).mp q).2; first | exact c128 q2.1 | exact q2.2 (by omega))).symm) kx
        · have c128 : cf k2 ≠ -1 ∧ cf k2 ≤ nI x ∧ nI x ≤ ct k2 := Classical.byContradiction (fun z => c128 ((mv_b_0 _).mpr z))
          refine mv_aload_n dX12_story_131 rfl ?_
          refine mv_getf (ci := 12) (f := 26) dX12_story_132 HX rfl (by decide) wd_1225 rfl ?_
          refine mv_iload dX12_story_135 rfl ?_
          refine mv_zaN (j := x) (x := nI (q_bt ((q_oks lw ln s wa cf ct rr ok) x) k2)) dX12_story_137 XO8 rfl (by decide) (by have q := c128.2.2; rw [f2] at q; have q2 := (nI_leI (by omega) (by omega)).mp q; omega) (congrArg nI (q_fd_b hob (by have q := c128.2.2; rw [f2] at q; have q2 := (nI_leI (by omega) (by omega)).mp q; omega))) ?_
          have n8 := q_bt_lt ((q_oks lw ln s wa cf ct rr ok) x) k2
          refine mv_if_ne (tgt := 145) dX12_story_138 (by decide) (fun c138 => ?_) (fun c138 => ?_)
          · have c138 : ¬ (q_bt ((q_oks lw ln s wa cf ct rr ok) x) k2 = 0) := fun z => c138 ((nI_eq (b := 0) (by omega) (by omega)).mpr z)
            refine mv_iconst (v := nI 0) dX12_story_145 (by decide) ?_
            refine mv_istore dX12_story_146 (by decide) ?_
            refine mv_iinc (v := nI (x + 1)) dX12_story_148 rfl (mv_inc x 1) (by decide) ?_
            refine mv_goto (tgt := 107) dX12_story_151 (by decide) ?_
            exact ih v y (nI 0) (x + 1) g (by omega) fr XO XO8 HX X59 X60 X61 X62 X63 X64 X65 X66 X53 hy hv hvb (by omega) (by omega) ((mv_q_f (fun q => by have q2 := ((q_pS_s (by omega)).mp q).2; first | exact c128 q2.1 | exact q2.2 (by omega))).symm) kx
          · have c138 : q_bt ((q_oks lw ln s wa cf ct rr ok) x) k2 = 0 := (nI_eq (b := 0) (by omega) (by omega)).mp c138
            refine mv_iconst (v := nI 1) dX12_story_141 (by decide) ?_
            refine mv_goto (tgt := 146) dX12_story_142 (by decide) ?_
            refine mv_istore dX12_story_146 (by decide) ?_
            refine mv_iinc (v := nI (x + 1)) dX12_story_148 rfl (mv_inc x 1) (by decide) ?_
            refine mv_goto (tgt := 107) dX12_story_151 (by decide) ?_
            exact ih v y (nI 1) (x + 1) g (by omega) fr XO XO8 HX X59 X60 X61 X62 X63 X64 X65 X66 X53 hy hv hvb (by omega) (by omega) ((mv_q_t ((q_pS_s (by omega)).mpr ⟨mv_q_ne (hu ▸ c118), c128, by omega⟩)).symm) kx
set_option maxRecDepth 100000 in
theorem l_X12_story {ev : mv_E} {h : mv_H} {xt : Int32} {xf : Int32} {xa : Int32} {xo : Int64} {xe : Int32} {xu : Int32} {xs : Int32} {xc : Int32} {xw : Int32} {b : t_B} {t : Nat} {s : q_S} {wa : Nat → Nat} {cf : Nat → Int32} {ct : Nat → Int32} {rr : Nat → Nat} {lw : Nat → Int32} {ln : Nat → Nat} {oa : Nat → Nat} {ob : Nat → Nat} {ok : Nat → Nat} {k1 : Nat} {k2 : Nat} {w : Nat} {a1 : Nat} {c1 : Nat} {a2 : Nat} {c2 : Nat}  (hw : q_LW lw ln) (hsi : q_SI s) (hr : ∀ d, rr d ≤ 1) (hwi : q_WI wa cf ct) (hk1 : k1 < 8) (hk2 : k2 < 8) (ho : ∀ d, oa d ≤ 1) (hob : ∀ d, ob d ≤ 1) (hw6 : w ≤ 60) (e1 : cf k1 = nI a1) (f1 : ct k1 = nI c1) (e2 : cf k2 = nI a2) (f2 : ct k2 = nI c2) (hc1 : c1 ≤ 399) (hc2 : c2 ≤ 399) (ha1 : a1 ≤ 399) (ha2 : a2 ≤ 399) : ∀ (fu : Nat) (v : Nat) (y : Nat), ∀ (g : mv_H), 400 < y + fu → mv_fra [67, 68] h g → g[67]? = some (.inl (2, 400, .inl (fun j => nI (q_fd (q_ev lw ln s wa cf ct rr) s k1 (q_z oa 400) s.1 j)))) → g[68]? = some (.inl (2, 400, .inl (fun j => nI (q_fd (q_ev lw ln s wa cf ct rr) s k2 (q_z ob 400) s.1 j)))) → g[52]? = some (.inr (12, [.ref 53, .ref 54, .int xt, .int xf, .int xa, .long xo, .int xe, .int xu, .ref 55, .int xs, .int (nI b.1), .ref 56, .ref 57, .ref 58, .int (nI t), .int (nI b.2.1), .ref 59, .ref 60, .ref 61, .ref 62, .int (nI s.1), .ref 63, .ref 64, .ref 65, .ref 66, .ref 67, .ref 68, .ref 69, .int xc, .ref 70, .ref 71, .ref 72, .ref 73, .ref 74, .ref 75, .int xw, .ref 76, .ref 77, .ref 78, .ref 79, .ref 80])) → g[59]? = some (.inl (0, 8, .inl (fun j => nI (wa j)))) → g[60]? = some (.inl (0, 8, .inl cf)) → g[61]? = some (.inl (0, 8, .inl ct)) → g[62]? = some (.inl (2, 400, .inl (fun j => nI (rr j)))) → g[63]? = some (.inl (0, 100, .inl (fun j => nI (s.2.1 j)))) → g[64]? = some (.inl (0, 100, .inl (fun j => nI (s.2.2.1 j)))) → g[65]? = some (.inl (0, 100, .inl (fun j => nI (s.2.2.2.1 j)))) → g[66]? = some (.inl (0, 100, .inl (fun j => nI (s.2.2.2.2 j)))) → g[53]? = some (.inl (0, 8, .inl lw)) → (y ≤ 400) → (v = q_cnt (q_sP (q_oks lw ln s wa cf ct rr ok) k1 k2 w a1 a2 c1 c2) y) → (v ≤ y) → mv_g ev mX12_story 81 [.ref 52, .int (nI k1), .int (nI k2), .int (nI w), .int (nI ((q_on (q_oks lw ln s wa cf ct rr (fun _ => 0)) k1 400) + (q_on (q_oks lw ln s wa cf ct rr (fun _ => 0)) k2 400))), .int (nI v), .int (nI y), .null, .null] [] g (fun r g => r = some (.int (nI (q_cnt (q_sP (q_oks lw ln s wa cf ct rr ok) k1 k2 w a1 a2 c1 c2) 400))) ∧ mv_fra [67, 68] h g ∧ g[67]? = some (.inl (2, 400, .inl (fun j => nI (q_fd (q_ev lw ln s wa cf ct rr) s k1 (q_z oa 400) s.1 j)))) ∧ g[68]? = some (.inl (2, 400, .inl (fun j => nI (q_fd (q_ev lw ln s wa cf ct rr) s k2 (q_z ob 400) s.1 j))))) := by
  intro fu
  induction fu with
  | zero => intro v y g hm fr XO XO8 HX X59 X60 X61 X62 X63 X64 X65 X66 X53 hy hv hvb; exact absurd hm (by omega)
  | succ fu ih =>
    intro v y g hm fr XO XO8 HX X59 X60 X61 X62 X63 X64 X65 X66 X53 hy hv hvb
    have m1 : cf k1 ≠ -1 := (by rw [e1]; exact nI_m1 (by omega))
    have m2 : cf k2 ≠ -1 := (by rw [e2]; exact nI_m1 (by omega))
    have n1 := q_cd_le hwi k1
    have n2 := q_cd_le hwi k2
    have n3 := q_cd_1 hwi m1
    have n4 := q_cd_1 hwi m2
    have n5 := q_on_le (q_oks lw ln s wa cf ct rr (fun _ => 0)) k1 400
    have n6 := q_on_le (q_oks lw ln s wa cf ct rr (fun _ => 0)) k2 400
    refine mv_iload dX12_story_81 rfl ?_
    refine mv_sipush (v := nI 399) dX12_story_83 (by decide) ?_
    refine mv_icmp_gt (tgt := 175) dX12_story_86 (by decide) (fun c86 => ?_) (fun c86 => ?_)
    · have c86 : 399 < y := (nI_ltI (by omega) (by omega)).mp c86
      refine mv_iload dX12_story_175 rfl ?_
      have e9 : v = q_cnt (q_sP (q_oks lw ln s wa cf ct rr ok) k1 k2 w a1 a2 c1 c2) 400 := (by by_cases ey : y = 400; rw [hv, ey]; exact hv.trans (q_cnt_same (P := (q_sP (q_oks lw ln s wa cf ct rr ok) k1 k2 w a1 a2 c1 c2)) 400 (by omega) (fun d h1 h2 q => q_on_0 400 ((q_on_o k1).trans (show q_on (q_oks lw ln s wa cf ct rr (fun _ => 0)) k1 400 = 0 by omega)) d h2 q.1)).symm)
      exact mv_iret dX12_story_177 rfl rfl ⟨(by rw [e9]), fr, XO, XO8⟩
    · have c86 : ¬ (399 < y) := fun z => c86 ((nI_ltI (by omega) (by omega)).mpr z)
      refine mv_iload dX12_story_89 rfl ?_
      refine mv_if_le (tgt := 175) dX12_story_91 (by decide) (fun c91 => ?_) (fun c91 => ?_)
      · have c91 : (q_on (q_oks lw ln s wa cf ct rr (fun _ => 0)) k1 400) + (q_on (q_oks lw ln s wa cf ct rr (fun _ => 0)) k2 400) ≤ 0 := (nI_leI (b := 0) (by omega) (by omega)).mp c91
        refine mv_iload dX12_story_175 rfl ?_
        have e9 : v = q_cnt (q_sP (q_oks lw ln s wa cf ct rr ok) k1 k2 w a1 a2 c1 c2) 400 := (by by_cases ey : y = 400; rw [hv, ey]; exact hv.trans (q_cnt_same (P := (q_sP (q_oks lw ln s wa cf ct rr ok) k1 k2 w a1 a2 c1 c2)) 400 (by omega) (fun d h1 h2 q => q_on_0 400 ((q_on_o k1).trans (show q_on (q_oks lw ln s wa cf ct rr (fun _ => 0)) k1 400 = 0 by omega)) d h2 q.1)).symm)
        exact mv_iret dX12_story_177 rfl rfl ⟨(by rw [e9]), fr, XO, XO8⟩
      · have c91 : ¬ ((q_on (q_oks lw ln s wa cf ct rr (fun _ => 0)) k1 400) + (q_on (q_oks lw ln s wa cf ct rr (fun _ => 0)) k2 400) ≤ 0) := fun z => c91 ((nI_leI (b := 0) (by omega) (by omega)).mpr z)
        refine mv_aload_n dX12_story_94 rfl ?_
        refine mv_getf (ci := 12) (f := 25) dX12_story_95 HX rfl (by decide) wd_1224 rfl ?_
        refine mv_iload dX12_story_98 rfl ?_
        refine mv_zaN (j := y) (x := nI (q_bt ((q_oks lw ln s wa cf ct rr ok) y) k1)) dX12_story_100 XO rfl (by decide) (by omega) (congrArg nI (q_fd_b ho (by omega))) ?_
        have n7 := q_bt_lt ((q_oks lw ln s wa cf ct rr ok) y) k1
        refine mv_istore dX12_story_101 (by decide) ?_
        refine mv_iload dX12_story_103 rfl ?_
        refine mv_istore dX12_story_105 (by decide) ?_
        refine l_X12_storyI hw hsi hr hwi hk1 hk2 ho hob hw6 e1 f1 e2 f2 hc1 hc2 ha1 ha2 (y + w + 2) v y (nI (q_bt ((q_oks lw ln s wa cf ct rr ok) y) k1)) y g (by omega) fr XO XO8 HX X59 X60 X61 X62 X63 X64 X65 X66 X53 (by omega) hv hvb (Nat.le_refl _) (by omega) (by by_cases q : q_bt ((q_oks lw ln s wa cf ct rr ok) y) k1 = 1; exact ((congrArg nI q).trans (mv_q_t ⟨q, fun i a b => absurd b (by omega)⟩).symm); exact ((congrArg nI (show q_bt ((q_oks lw ln s wa cf ct rr ok) y) k1 = 0 by omega)).trans (mv_q_f (fun q2 => q q2.1)).symm)) ?_
        intro gx1 fr XO XO8 HX X59 X60 X61 X62 X63 X64 X65 X66 X53
        refine mv_iload dX12_story_154 rfl ?_
        refine mv_iload dX12_story_156 rfl ?_
        refine mv_if_eq (tgt := 165) dX12_story_158 (by decide) (fun c158 => ?_) (fun c158 => ?_)
        · have c158 : ¬ (q_pS (q_oks lw ln s wa cf ct rr ok) cf ct k1 k2 y (y + w + 1)) := (mv_q_0 _).mp c158
          refine mv_iconst (v := nI 0) dX12_story_165 (by decide) ?_
          refine mv_iadd dX12_story_166 ?_
          refine mv_topI (y := nI (v + 0)) (nI_add _ _) ?_
          refine mv_istore dX12_story_167 (by decide) ?_
          refine mv_iinc (v := nI (y + 1)) dX12_story_169 rfl (mv_inc y 1) (by decide) ?_
          refine mv_goto (tgt := 81) dX12_story_172 (by decide) ?_
          refine mv_sub (lv' := [.ref 52, .int (nI k1), .int (nI k2), .int (nI w), .int (nI ((q_on (q_oks lw ln s wa cf ct rr (fun _ => 0)) k1 400) + (q_on (q_oks lw ln s wa cf ct rr (fun _ => 0)) k2 400))), .int (nI (v + 0)), .int (nI (y + 1)), .null, .null]) ⟨Or.inr rfl, Or.inr rfl, Or.inr rfl, Or.inr rfl, Or.inr rfl, Or.inr rfl, Or.inr rfl, Or.inl rfl, Or.inl rfl, trivial⟩ ?_
          exact ih (v + 0) (y + 1) gx1 (by omega) fr XO XO8 HX X59 X60 X61 X62 X63 X64 X65 X66 X53 (by omega) (by first | rw [q_cnt_y (P := (q_sP (q_oks lw ln s wa cf ct rr ok) k1 k2 w a1 a2 c1 c2)) ((q_pS_P (lw := lw) (ln := ln) (s := s) (wa := wa) (rr := rr) (ok := ok) (show y ≤ 399 by omega) hw6 e1 f1 e2 f2 hc1 hc2 ha1 ha2).mp c158), ← hv] | (rw [q_cnt_n (P := (q_sP (q_oks lw ln s wa cf ct rr ok) k1 k2 w a1 a2 c1 c2)) (fun q => c158 ((q_pS_P (lw := lw) (ln := ln) (s := s) (wa := wa) (rr := rr) (ok := ok) (show y ≤ 399 by omega) hw6 e1 f1 e2 f2 hc1 hc2 ha1 ha2).mpr q)), Nat.add_zero]; exact hv)) (by omega)
        · have c158 : q_pS (q_oks lw ln s wa cf ct rr ok) cf ct k1 k2 y (y + w + 1) := Classical.byContradiction (fun z => c158 ((mv_q_0 _).mpr z))
          refine mv_iconst (v := nI 1) dX12_story_161 (by decide) ?_
          refine mv_goto (tgt := 166) dX12_story_162 (by decide) ?_
          refine mv_iadd dX12_story_166 ?_
          refine mv_topI (y := nI (v + 1)) (nI_add _ _) ?_
          refine mv_istore dX12_story_167 (by decide) ?_
          refine mv_iinc (v := nI (y + 1)) dX12_story_169 rfl (mv_inc y 1) (by decide) ?_
          refine mv_goto (tgt := 81) dX12_story_172 (by decide) ?_
          refine mv_sub (lv' := [.ref 52, .int (nI k1), .int (nI k2), .int (nI w), .int (nI ((q_on (q_oks lw ln s wa cf ct rr (fun _ => 0)) k1 400) + (q_on (q_oks lw ln s wa cf ct rr (fun _ => 0)) k2 400))), .int (nI (v + 1)), .int (nI (y + 1)), .null, .null]) ⟨Or.inr rfl, Or.inr rfl, Or.inr rfl, Or.inr rfl, Or.inr rfl, Or.inr rfl, Or.inr rfl, Or.inl rfl, Or.inl rfl, trivial⟩ ?_
          exact ih (v + 1) (y + 1) gx1 (by omega) fr XO XO8 HX X59 X60 X61 X62 X63 X64 X65 X66 X53 (by omega) (by first | rw [q_cnt_y (P := (q_sP (q_oks lw ln s wa cf ct rr ok) k1 k2 w a1 a2 c1 c2)) ((q_pS_P (lw := lw) (ln := ln) (s := s) (wa := wa) (rr := rr) (ok := ok) (show y ≤ 399 by omega) hw6 e1 f1 e2 f2 hc1 hc2 ha1 ha2).mp c158), ← hv] | (rw [q_cnt_n (P := (q_sP (q_oks lw ln s wa cf ct rr ok) k1 k2 w a1 a2 c1 c2)) (fun q => c158 ((q_pS_P (lw := lw) (ln := ln) (s := s) (wa := wa) (rr := rr) (ok := ok) (show y ≤ 399 by omega) hw6 e1 f1 e2 f2 hc1 hc2 ha1 ha2).mpr q)), Nat.add_zero]; exact hv)) (by omega)
set_option maxRecDepth 100000 in
theorem k_X12_story_G {ev : mv_E} {h : mv_H} {xt : Int32} {xf : Int32} {xa : Int32} {xo : Int64} {xe : Int32} {xu : Int32} {xs : Int32} {xc : Int32} {xw : Int32} {b : t_B} {t : Nat} {s : q_S} {wa : Nat → Nat} {cf : Nat → Int32} {ct : Nat → Int32} {rr : Nat → Nat} {lw : Nat → Int32} {ln : Nat → Nat} {oa : Nat → Nat} {ob : Nat → Nat} {ok : Nat → Nat} {k1 : Nat} {k2 : Nat} {w : Nat} {a1 : Nat} {c1 : Nat} {a2 : Nat} {c2 : Nat} (HX : h[52]? = some (.inr (12, [.ref 53, .ref 54, .int xt, .int xf, .int xa, .long xo, .int xe, .int xu, .ref 55, .int xs, .int (nI b.1), .ref 56, .ref 57, .ref 58, .int (nI t), .int (nI b.2.1), .ref 59, .ref 60, .ref 61, .ref 62, .int (nI s.1), .ref 63, .ref 64, .ref 65, .ref 66, .ref 67, .ref 68, .ref 69, .int xc, .ref 70, .ref 71, .ref 72, .ref 73, .ref 74, .ref 75, .int xw, .ref 76, .ref 77, .ref 78, .ref 79, .ref 80]))) (X59 : h[59]? = some (.inl (0, 8, .inl (fun j => nI (wa j))))) (X60 : h[60]? = some (.inl (0, 8, .inl cf))) (X61 : h[61]? = some (.inl (0, 8, .inl ct))) (X62 : h[62]? = some (.inl (2, 400, .inl (fun j => nI (rr j))))) (X63 : h[63]? = some (.inl (0, 100, .inl (fun j => nI (s.2.1 j))))) (X64 : h[64]? = some (.inl (0, 100, .inl (fun j => nI (s.2.2.1 j))))) (X65 : h[65]? = some (.inl (0, 100, .inl (fun j => nI (s.2.2.2.1 j))))) (X66 : h[66]? = some (.inl (0, 100, .inl (fun j => nI (s.2.2.2.2 j))))) (X53 : h[53]? = some (.inl (0, 8, .inl lw))) (XO : h[67]? = some (.inl (2, 400, .inl (fun j => nI (oa j))))) (XO8 : h[68]? = some (.inl (2, 400, .inl (fun j => nI (ob j))))) (hw : q_LW lw ln) (hsi : q_SI s) (hr : ∀ d, rr d ≤ 1) (hwi : q_WI wa cf ct) (hk1 : k1 < 8) (hk2 : k2 < 8) (ho : ∀ d, oa d ≤ 1) (hob : ∀ d, ob d ≤ 1) (hw6 : w ≤ 60) (e1 : cf k1 = nI a1) (f1 : ct k1 = nI c1) (e2 : cf k2 = nI a2) (f2 : ct k2 = nI c2) (hc1 : c1 ≤ 399) (hc2 : c2 ≤ 399) (ha1 : a1 ≤ 399) (ha2 : a2 ≤ 399) : ∃ h2, mv_K ev mX12_story [.ref 52, .int (nI k1), .int (nI k2), .int (nI w)] h (some (.int (nI (q_cnt (q_sP (q_oks lw ln s wa cf ct rr ok) k1 k2 w a1 a2 c1 c2) 400)))) h2 ∧ mv_fra [67, 68] h h2 ∧ h2[67]? = some (.inl (2, 400, .inl (fun j => nI (q_fd (q_ev lw ln s wa cf ct rr) s k1 (q_z oa 400) s.1 j)))) ∧ h2[68]? = some (.inl (2, 400, .inl (fun j => nI (q_fd (q_ev lw ln s wa cf ct rr) s k2 (q_z ob 400) s.1 j)))) := by
  suffices g0 : mv_g ev mX12_story 0 (mv_ent [.ref 52, .int (nI k1), .int (nI k2), .int (nI w)] (mv_ml mX12_story)) [] h (fun r g => r = some (.int (nI (q_cnt (q_sP (q_oks lw ln s wa cf ct rr ok) k1 k2 w a1 a2 c1 c2) 400))) ∧ mv_fra [67, 68] h g ∧ g[67]? = some (.inl (2, 400, .inl (fun j => nI (q_fd (q_ev lw ln s wa cf ct rr) s k1 (q_z oa 400) s.1 j)))) ∧ g[68]? = some (.inl (2, 400, .inl (fun j => nI (q_fd (q_ev lw ln s wa cf ct rr) s k2 (q_z ob 400) s.1 j))))) from (by obtain ⟨r0, h0, K0, q0, Q0⟩ := mv_Kex g0; subst q0; exact ⟨h0, K0, Q0⟩)
  show mv_g ev mX12_story 0 [.ref 52, .int (nI k1), .int (nI k2), .int (nI w), .null, .null, .null, .null, .null] [] h _
  have fr : mv_fra [67, 68] h h := mv_fra.rf
  have m1 : cf k1 ≠ -1 := (by rw [e1]; exact nI_m1 (by omega))
  have m2 : cf k2 ≠ -1 := (by rw [e2]; exact nI_m1 (by omega))
  have n1 := q_cd_le hwi k1
  have n2 := q_cd_le hwi k2
  have n3 := q_cd_1 hwi m1
  have n4 := q_cd_1 hwi m2
  have n5 := q_on_le (q_oks lw ln s wa cf ct rr (fun _ => 0)) k1 400
  have n6 := q_on_le (q_oks lw ln s wa cf ct rr (fun _ => 0)) k2 400
  refine mv_iload_n dX12_story_0 rfl ?_
  refine mv_cS1 dX12_story_1 lk_X12_story_282 (Nat.le_of_ble_eq_true rfl) (Nat.le_of_ble_eq_true rfl) (k_X12_isKind (ev := ev)) ?_
  refine mv_if_eq (tgt := 14) dX12_story_4 (by decide) (fun z => absurd z ((fun z => (mv_b_0 _).mp z (mv_in_i (by omega) (by omega) (by omega))))) (fun c4 => ?_)
  refine mv_iload_n dX12_story_7 rfl ?_
  refine mv_cS1 dX12_story_8 lk_X12_story_282 (Nat.le_of_ble_eq_true rfl) (Nat.le_of_ble_eq_true rfl) (k_X12_isKind (ev := ev)) ?_
  refine mv_if_ne (tgt := 18) dX12_story_11 (by decide) (fun c11 => ?_) (fun z => absurd z ((fun z => (mv_b_0 _).mp z (mv_in_i (by omega) (by omega) (by omega)))))
  refine mv_iload_n dX12_story_18 rfl ?_
  refine mv_i2l dX12_story_19 ?_
  refine mv_topL (y := lN w) (nI_l (by omega)) ?_
  refine mv_lconst (v := lN 0) dX12_story_20 rfl ?_
  refine mv_ldc2 (v := lN 60) dX12_story_21 wd_1550 ?_
  refine mv_cS3 dX12_story_24 lk_X12_story_107 (Nat.le_of_ble_eq_true rfl) (Nat.le_of_ble_eq_true rfl) (k_X12_in (ev := ev)) ?_
  refine mv_if_ne (tgt := 34) dX12_story_27 (by decide) (fun c27 => ?_) (fun z => absurd z ((fun z => (mv_b_0 _).mp z ((and_congr (lN_leB (by omega) (by omega)) (lN_leB (by omega) (by omega))).mpr ⟨by omega, by omega⟩))))
  refine mv_aload_n dX12_story_34 rfl ?_
  refine mv_iload_n dX12_story_35 rfl ?_
  refine mv_cV1 (ci := 12) dX12_story_36 lk_X12_story_285 HX rfl (Nat.le_of_ble_eq_true rfl) (Nat.le_of_ble_eq_true rfl) (k_X12_counted (ev := ev) HX X60 X61 hk1 hwi) ?_
  refine mv_if_eq (tgt := 50) dX12_story_39 (by decide) (fun z => absurd z ((fun q => absurd ((nI_eq (b := 0) (by omega) (by omega)).mp q) (by omega)))) (fun c39 => ?_)
  refine mv_aload_n dX12_story_42 rfl ?_
  refine mv_iload_n dX12_story_43 rfl ?_
  refine mv_cV1 (ci := 12) dX12_story_44 lk_X12_story_285 HX rfl (Nat.le_of_ble_eq_true rfl) (Nat.le_of_ble_eq_true rfl) (k_X12_counted (ev := ev) HX X60 X61 hk2 hwi) ?_
  refine mv_if_ne (tgt := 54) dX12_story_47 (by decide) (fun c47 => ?_) (fun z => absurd z ((fun q => absurd ((nI_eq (b := 0) (by omega) (by omega)).mp q) (by omega))))
  refine mv_aload_n dX12_story_54 rfl ?_
  refine mv_iload_n dX12_story_55 rfl ?_
  refine mv_aload_n dX12_story_56 rfl ?_
  refine mv_getf (ci := 12) (f := 25) dX12_story_57 HX rfl (by decide) wd_1224 rfl ?_
  obtain ⟨h1, K2, f3, y4⟩ := (k_X12_findOdd67 (ev := ev) (xt := xt) (xf := xf) (xa := xa) (xo := xo) (xe := xe) (xu := xu) (xs := xs) (xc := xc) (xw := xw) (b := b) (t := t) (s := s) (wa := wa) (cf := cf) (ct := ct) (rr := rr) (lw := lw) (ln := ln) (k := k1) (oa := oa) HX X59 X60 X61 X62 X63 X64 X65 X66 X53 XO hw hsi hr hwi ho hk1)
  refine mv_cV2 (ci := 12) dX12_story_60 lk_X12_story_298 HX rfl (Nat.le_of_ble_eq_true rfl) (Nat.le_of_ble_eq_true rfl) K2 ?_
  have HX := f3.get (by decide) HX
  have X59 := f3.get (by decide) X59
  have X60 := f3.get (by decide) X60
  have X61 := f3.get (by decide) X61
  have X62 := f3.get (by decide) X62
  have X63 := f3.get (by decide) X63
  have X64 := f3.get (by decide) X64
  have X65 := f3.get (by decide) X65
  have X66 := f3.get (by decide) X66
  have X53 := f3.get (by decide) X53
  have XO : h1[67]? = some (.inl (2, 400, .inl (fun j => nI (q_fd (q_ev lw ln s wa cf ct rr) s k1 (q_z oa 400) s.1 j)))) := y4
  have XO8 := f3.get (by decide) XO8
  have fr := fr.trans f3 (by decide)
  refine mv_aload_n dX12_story_63 rfl ?_
  refine mv_iload_n dX12_story_64 rfl ?_
  refine mv_aload_n dX12_story_65 rfl ?_
  refine mv_getf (ci := 12) (f := 26) dX12_story_66 HX rfl (by decide) wd_1225 rfl ?_
  obtain ⟨h5, K6, f7, y8⟩ := (k_X12_findOdd68 (ev := ev) (xt := xt) (xf := xf) (xa := xa) (xo := xo) (xe := xe) (xu := xu) (xs := xs) (xc := xc) (xw := xw) (b := b) (t := t) (s := s) (wa := wa) (cf := cf) (ct := ct) (rr := rr) (lw := lw) (ln := ln) (k := k2) (oa := ob) HX X59 X60 X61 X62 X63 X64 X65 X66 X53 XO8 hw hsi hr hwi hob hk2)
  refine mv_cV2 (ci := 12) dX12_story_69 lk_X12_story_298 HX rfl (Nat.le_of_ble_eq_true rfl) (Nat.le_of_ble_eq_true rfl) K6 ?_
  have HX := f7.get (by decide) HX
  have X59 := f7.get (by decide) X59
  have X60 := f7.get (by decide) X60
  have X61 := f7.get (by decide) X61
  have X62 := f7.get (by decide) X62
  have X63 := f7.get (by decide) X63
  have X64 := f7.get (by decide) X64
  have X65 := f7.get (by decide) X65
  have X66 := f7.get (by decide) X66
  have X53 := f7.get (by decide) X53
  have XO := f7.get (by decide) XO
  have XO8 : h5[68]? = some (.inl (2, 400, .inl (fun j => nI (q_fd (q_ev lw ln s wa cf ct rr) s k2 (q_z ob 400) s.1 j)))) := y8
  have fr := fr.trans f7 (by decide)
  refine mv_iadd dX12_story_72 ?_
  refine mv_topI (y := nI ((q_on (q_oks lw ln s wa cf ct rr (fun _ => 0)) k1 400) + (q_on (q_oks lw ln s wa cf ct rr (fun _ => 0)) k2 400))) (nI_add _ _) ?_
  refine mv_istore dX12_story_73 (by decide) ?_
  refine mv_iconst (v := nI 0) dX12_story_75 (by decide) ?_
  refine mv_istore dX12_story_76 (by decide) ?_
  refine mv_iconst (v := nI 0) dX12_story_78 (by decide) ?_
  refine mv_istore dX12_story_79 (by decide) ?_
  exact l_X12_story hw hsi hr hwi hk1 hk2 ho hob hw6 e1 f1 e2 f2 hc1 hc2 ha1 ha2 401 0 0 h5 (by omega) fr XO XO8 HX X59 X60 X61 X62 X63 X64 X65 X66 X53 (Nat.zero_le _) rfl (Nat.zero_le _)
set_option maxRecDepth 100000 in
theorem k_X12_claim_R1 {ev : mv_E} {h : mv_H} {t : Int32} {p : Int32} {m : Int32} {x : Int32} {a : Int32} {e : Int32} {q : Int32}  (hno : ¬ ((nI 0 ≤ p ∧ p ≤ nI 63))) : mv_K ev mX12_claim [.ref 52, .int t, .int p, .int m, .int x, .int a, .int e, .int q] h (some (.int (-1001))) h := by
  refine mv_Kof ?_
  show mv_g ev mX12_claim 0 [.ref 52, .int t, .int p, .int m, .int x, .int a, .int e, .int q, .null] [] h _
  refine mv_iload_n dX12_claim_0 rfl ?_
  refine mv_cS1 dX12_claim_1 lk_X12_claim_121 (Nat.le_of_ble_eq_true rfl) (Nat.le_of_ble_eq_true rfl) (k_X12_isPlace (ev := ev)) ?_
  refine mv_if_ne (tgt := 11) dX12_claim_4 (by decide) (fun c4 => ?_) (fun c4 => ?_)
  · have c4 : nI 0 ≤ p ∧ p ≤ nI 63 := Classical.byContradiction (fun z => c4 ((mv_b_0 _).mpr z))
    exact absurd (by assumption) hno
  · have c4 : ¬ (nI 0 ≤ p ∧ p ≤ nI 63) := (mv_b_0 _).mp c4
    refine mv_sipush (v := (-1001)) dX12_claim_7 (by decide) ?_
    exact mv_iret dX12_claim_10 rfl rfl ⟨rfl, rfl⟩
set_option maxRecDepth 100000 in
theorem k_X12_claim_R2 {ev : mv_E} {h : mv_H} {t : Int32} {m : Int32} {x : Int32} {a : Int32} {e : Int32} {q : Int32} {p : Nat}  (hp : p < 64) (hno : ¬ ((nI 0 ≤ t ∧ t ≤ nI 399) ∧ (t < a ∧ a ≤ nI 399) ∧ (a ≤ e ∧ e ≤ nI 399) ∧ (nI 0 ≤ m ∧ m ≤ nI 7) ∧ (nI 1 ≤ x ∧ x ≤ nI 9) ∧ (nI 0 ≤ q ∧ q ≤ nI 100))) : mv_K ev mX12_claim [.ref 52, .int t, .int (nI p), .int m, .int x, .int a, .int e, .int q] h (some (.int (-1002))) h := by
  refine mv_Kof ?_
  show mv_g ev mX12_claim 0 [.ref 52, .int t, .int (nI p), .int m, .int x, .int a, .int e, .int q, .null] [] h _
  refine mv_iload_n dX12_claim_0 rfl ?_
  refine mv_cS1 dX12_claim_1 lk_X12_claim_121 (Nat.le_of_ble_eq_true rfl) (Nat.le_of_ble_eq_true rfl) (k_X12_isPlace (ev := ev)) ?_
  refine mv_if_ne (tgt := 11) dX12_claim_4 (by decide) (fun c4 => ?_) (fun z => absurd z ((fun z => (mv_b_0 _).mp z (mv_in_i (by omega) (by omega) (by omega)))))
  refine mv_iload_n dX12_claim_11 rfl ?_
  refine mv_cS1 dX12_claim_12 lk_X12_claim_213 (Nat.le_of_ble_eq_true rfl) (Nat.le_of_ble_eq_true rfl) (k_X12_isDay (ev := ev)) ?_
  refine mv_if_eq (tgt := 77) dX12_claim_15 (by decide) (fun c15 => ?_) (fun c15 => ?_)
  · have c15 : ¬ (nI 0 ≤ t ∧ t ≤ nI 399) := (mv_b_0 _).mp c15
    refine mv_sipush (v := (-1002)) dX12_claim_77 (by decide) ?_
    exact mv_iret dX12_claim_80 rfl rfl ⟨rfl, rfl⟩
  · have c15 : nI 0 ≤ t ∧ t ≤ nI 399 := Classical.byContradiction (fun z => c15 ((mv_b_0 _).mpr z))
    refine mv_iload dX12_claim_18 rfl ?_
    refine mv_i2l dX12_claim_20 ?_
    refine mv_iload_n dX12_claim_21 rfl ?_
    refine mv_iconst (v := nI 1) dX12_claim_22 (by decide) ?_
    refine mv_iadd dX12_claim_23 ?_
    refine mv_i2l dX12_claim_24 ?_
    refine mv_ldc2 (v := lN 399) dX12_claim_25 wd_1423 ?_
    refine mv_cS3 dX12_claim_28 lk_X12_claim_107 (Nat.le_of_ble_eq_true rfl) (Nat.le_of_ble_eq_true rfl) (k_X12_in (ev := ev)) ?_
    refine mv_if_eq (tgt := 77) dX12_claim_31 (by decide) (fun c31 => ?_) (fun c31 => ?_)
    · have c31 : ¬ (t < a ∧ a ≤ nI 399) := fun z => (mv_b_0 _).mp c31 ((q_ina c15).mpr z)
      refine mv_sipush (v := (-1002)) dX12_claim_77 (by decide) ?_
      exact mv_iret dX12_claim_80 rfl rfl ⟨rfl, rfl⟩
    · have c31 : (t < a ∧ a ≤ nI 399) := (q_ina c15).mp (mv_b_ne c31)
      refine mv_iload dX12_claim_34 rfl ?_
      refine mv_i2l dX12_claim_36 ?_
      refine mv_iload dX12_claim_37 rfl ?_
      refine mv_i2l dX12_claim_39 ?_
      refine mv_ldc2 (v := lN 399) dX12_claim_40 wd_1423 ?_
      refine mv_cS3 dX12_claim_43 lk_X12_claim_107 (Nat.le_of_ble_eq_true rfl) (Nat.le_of_ble_eq_true rfl) (k_X12_in (ev := ev)) ?_
      refine mv_if_eq (tgt := 77) dX12_claim_46 (by decide) (fun c46 => ?_) (fun c46 => ?_)
      · have c46 : ¬ (a ≤ e ∧ e ≤ nI 399) := fun z => (mv_b_0 _).mp c46 ((and_congr (mv_l_le _ _) (mv_lR (by decide))).mpr z)
        refine mv_sipush (v := (-1002)) dX12_claim_77 (by decide) ?_
        exact mv_iret dX12_claim_80 rfl rfl ⟨rfl, rfl⟩
      · have c46 : (a ≤ e ∧ e ≤ nI 399) := (and_congr (mv_l_le _ _) (mv_lR (by decide))).mp (mv_b_ne c46)
        refine mv_iload_n dX12_claim_49 rfl ?_
        refine mv_cS1 dX12_claim_50 lk_X12_claim_125 (Nat.le_of_ble_eq_true rfl) (Nat.le_of_ble_eq_true rfl) (k_X12_isNear (ev := ev)) ?_
        refine mv_if_eq (tgt := 77) dX12_claim_53 (by decide) (fun c53 => ?_) (fun c53 => ?_)
        · have c53 : ¬ (nI 0 ≤ m ∧ m ≤ nI 7) := (mv_b_0 _).mp c53
          refine mv_sipush (v := (-1002)) dX12_claim_77 (by decide) ?_
          exact mv_iret dX12_claim_80 rfl rfl ⟨rfl, rfl⟩
        · have c53 : nI 0 ≤ m ∧ m ≤ nI 7 := Classical.byContradiction (fun z => c53 ((mv_b_0 _).mpr z))
          refine mv_iload dX12_claim_56 rfl ?_
          refine mv_cS1 dX12_claim_58 lk_X12_claim_204 (Nat.le_of_ble_eq_true rfl) (Nat.le_of_ble_eq_true rfl) (k_X12_isSize (ev := ev)) ?_
          refine mv_if_eq (tgt := 77) dX12_claim_61 (by decide) (fun c61 => ?_) (fun c61 => ?_)
          · have c61 : ¬ (nI 1 ≤ x ∧ x ≤ nI 9) := (mv_b_0 _).mp c61
            refine mv_sipush (v := (-1002)) dX12_claim_77 (by decide) ?_
            exact mv_iret dX12_claim_80 rfl rfl ⟨rfl, rfl⟩
          · have c61 : nI 1 ≤ x ∧ x ≤ nI 9 := Classical.byContradiction (fun z => c61 ((mv_b_0 _).mpr z))
            refine mv_iload dX12_claim_64 rfl ?_
            refine mv_i2l dX12_claim_66 ?_
            refine mv_lconst (v := lN 0) dX12_claim_67 rfl ?_
            refine mv_ldc2 (v := lN 100) dX12_claim_68 wd_1415 ?_
            refine mv_cS3 dX12_claim_71 lk_X12_claim_107 (Nat.le_of_ble_eq_true rfl) (Nat.le_of_ble_eq_true rfl) (k_X12_in (ev := ev)) ?_
            refine mv_if_ne (tgt := 81) dX12_claim_74 (by decide) (fun c74 => ?_) (fun c74 => ?_)
            · have c74 : nI 0 ≤ q ∧ q ≤ nI 100 := (and_congr (mv_lL (by decide)) (mv_lR (by decide))).mp (mv_b_ne c74)
              exact absurd (by refine ⟨?_, ?_, ?_, ?_, ?_, ?_⟩ <;> assumption) hno
            · have c74 : ¬ (nI 0 ≤ q ∧ q ≤ nI 100) := fun z => (mv_b_0 _).mp c74 ((and_congr (mv_lL (by decide)) (mv_lR (by decide))).mpr z)
              refine mv_sipush (v := (-1002)) dX12_claim_77 (by decide) ?_
              exact mv_iret dX12_claim_80 rfl rfl ⟨rfl, rfl⟩
set_option maxRecDepth 100000 in
theorem k_X12_claim_R3 {ev : mv_E} {h : mv_H} {xt : Int32} {xf : Int32} {xa : Int32} {xo : Int64} {xe : Int32} {xu : Int32} {xs : Int32} {xg : Int32} {xw : Int32} {b : t_B} {t : Nat} {c : q_C} {t2 : Nat} {p : Nat} {m : Nat} {x : Nat} {a : Nat} {e : Nat} {q : Nat} (HX : h[52]? = some (.inr (12, [.ref 53, .ref 54, .int xt, .int xf, .int xa, .long xo, .int xe, .int xu, .ref 55, .int xs, .int (nI b.1), .ref 56, .ref 57, .ref 58, .int (nI t), .int (nI b.2.1), .ref 59, .ref 60, .ref 61, .ref 62, .int xg, .ref 63, .ref 64, .ref 65, .ref 66, .ref 67, .ref 68, .ref 69, .int (nI c.1), .ref 70, .ref 71, .ref 72, .ref 73, .ref 74, .ref 75, .int xw, .ref 76, .ref 77, .ref 78, .ref 79, .ref 80]))) (hp : p < 64) (hm0 : m < 8) (hz1 : 1 ≤ x) (hz9 : x ≤ 9) (hta : t2 < a) (hae : a ≤ e) (he : e ≤ 399) (hq : q ≤ 100) (hn : c.1 ≤ 12) (hno : ¬ (c.1 < 12)) : mv_K ev mX12_claim [.ref 52, .int (nI t2), .int (nI p), .int (nI m), .int (nI x), .int (nI a), .int (nI e), .int (nI q)] h (some (.int (-1004))) h := by
  refine mv_Kof ?_
  show mv_g ev mX12_claim 0 [.ref 52, .int (nI t2), .int (nI p), .int (nI m), .int (nI x), .int (nI a), .int (nI e), .int (nI q), .null] [] h _
  refine mv_iload_n dX12_claim_0 rfl ?_
  refine mv_cS1 dX12_claim_1 lk_X12_claim_121 (Nat.le_of_ble_eq_true rfl) (Nat.le_of_ble_eq_true rfl) (k_X12_isPlace (ev := ev)) ?_
  refine mv_if_ne (tgt := 11) dX12_claim_4 (by decide) (fun c4 => ?_) (fun z => absurd z ((fun z => (mv_b_0 _).mp z (mv_in_i (by omega) (by omega) (by omega)))))
  refine mv_iload_n dX12_claim_11 rfl ?_
  refine mv_cS1 dX12_claim_12 lk_X12_claim_213 (Nat.le_of_ble_eq_true rfl) (Nat.le_of_ble_eq_true rfl) (k_X12_isDay (ev := ev)) ?_
  refine mv_if_eq (tgt := 77) dX12_claim_15 (by decide) (fun z => absurd z ((fun z => (mv_b_0 _).mp z (mv_in_i (by omega) (by omega) (by omega))))) (fun c15 => ?_)
  refine mv_iload dX12_claim_18 rfl ?_
  refine mv_i2l dX12_claim_20 ?_
  refine mv_topL (y := lN a) (nI_l (by omega)) ?_
  refine mv_iload_n dX12_claim_21 rfl ?_
  refine mv_iconst (v := nI 1) dX12_claim_22 (by decide) ?_
  refine mv_iadd dX12_claim_23 ?_
  refine mv_topI (y := nI (t2 + 1)) (nI_add _ _) ?_
  refine mv_i2l dX12_claim_24 ?_
  refine mv_topL (y := lN (t2 + 1)) (nI_l (by omega)) ?_
  refine mv_ldc2 (v := lN 399) dX12_claim_25 wd_1423 ?_
  refine mv_cS3 dX12_claim_28 lk_X12_claim_107 (Nat.le_of_ble_eq_true rfl) (Nat.le_of_ble_eq_true rfl) (k_X12_in (ev := ev)) ?_
  refine mv_if_eq (tgt := 77) dX12_claim_31 (by decide) (fun z => absurd z ((fun z => (mv_b_0 _).mp z ((and_congr (lN_leB (by omega) (by omega)) (lN_leB (by omega) (by omega))).mpr ⟨by omega, by omega⟩)))) (fun c31 => ?_)
  refine mv_iload dX12_claim_34 rfl ?_
  refine mv_i2l dX12_claim_36 ?_
  refine mv_topL (y := lN e) (nI_l (by omega)) ?_
  refine mv_iload dX12_claim_37 rfl ?_
  refine mv_i2l dX12_claim_39 ?_
  refine mv_topL (y := lN a) (nI_l (by omega)) ?_
  refine mv_ldc2 (v := lN 399) dX12_claim_40 wd_1423 ?_
  refine mv_cS3 dX12_claim_43 lk_X12_claim_107 (Nat.le_of_ble_eq_true rfl) (Nat.le_of_ble_eq_true rfl) (k_X12_in (ev := ev)) ?_
  refine mv_if_eq (tgt := 77) dX12_claim_46 (by decide) (fun z => absurd z ((fun z => (mv_b_0 _).mp z ((and_congr (lN_leB (by omega) (by omega)) (lN_leB (by omega) (by omega))).mpr ⟨by omega, by omega⟩)))) (fun c46 => ?_)
  refine mv_iload_n dX12_claim_49 rfl ?_
  refine mv_cS1 dX12_claim_50 lk_X12_claim_125 (Nat.le_of_ble_eq_true rfl) (Nat.le_of_ble_eq_true rfl) (k_X12_isNear (ev := ev)) ?_
  refine mv_if_eq (tgt := 77) dX12_claim_53 (by decide) (fun z => absurd z ((fun z => (mv_b_0 _).mp z (mv_in_i (by omega) (by omega) (by omega))))) (fun c53 => ?_)
  refine mv_iload dX12_claim_56 rfl ?_
  refine mv_cS1 dX12_claim_58 lk_X12_claim_204 (Nat.le_of_ble_eq_true rfl) (Nat.le_of_ble_eq_true rfl) (k_X12_isSize (ev := ev)) ?_
  refine mv_if_eq (tgt := 77) dX12_claim_61 (by decide) (fun z => absurd z ((fun z => (mv_b_0 _).mp z (mv_in_i (by omega) (by omega) (by omega))))) (fun c61 => ?_)
  refine mv_iload dX12_claim_64 rfl ?_
  refine mv_i2l dX12_claim_66 ?_
  refine mv_topL (y := lN q) (nI_l (by omega)) ?_
  refine mv_lconst (v := lN 0) dX12_claim_67 rfl ?_
  refine mv_ldc2 (v := lN 100) dX12_claim_68 wd_1415 ?_
  refine mv_cS3 dX12_claim_71 lk_X12_claim_107 (Nat.le_of_ble_eq_true rfl) (Nat.le_of_ble_eq_true rfl) (k_X12_in (ev := ev)) ?_
  refine mv_if_ne (tgt := 81) dX12_claim_74 (by decide) (fun c74 => ?_) (fun z => absurd z ((fun z => (mv_b_0 _).mp z ((and_congr (lN_leB (by omega) (by omega)) (lN_leB (by omega) (by omega))).mpr ⟨by omega, by omega⟩))))
  refine mv_aload_n dX12_claim_81 rfl ?_
  refine mv_getf (ci := 12) (f := 28) dX12_claim_82 HX rfl (by decide) wd_1227 rfl ?_
  refine mv_bipush (v := nI 12) dX12_claim_85 (by decide) ?_
  refine mv_icmp_ne (tgt := 94) dX12_claim_87 (by decide) (fun c87 => ?_) (fun c87 => ?_)
  · have c87 : ¬ (c.1 = 12) := fun z => c87 ((nI_eq (by omega) (by omega)).mpr z)
    exact absurd (by omega) hno
  · have c87 : c.1 = 12 := (nI_eq (by omega) (by omega)).mp c87
    refine mv_sipush (v := (-1004)) dX12_claim_90 (by decide) ?_
    exact mv_iret dX12_claim_93 rfl rfl ⟨rfl, rfl⟩
theorem q_row_w (c : q_C) (t p m x a e q : Nat) : t_up (t_up (t_up (t_up (t_up (t_up (t_up (q_row c) (7 * c.1) t) (7 * c.1 + 1) p) (7 * c.1 + 2) m) (7 * c.1 + 3) x) (7 * c.1 + 4) a) (7 * c.1 + 5) e) (7 * c.1 + 6) q = q_row (q_cw c t p m x a e q) := by
  funext i
  have h7 : i % 7 = 0 ∨ i % 7 = 1 ∨ i % 7 = 2 ∨ i % 7 = 3 ∨ i % 7 = 4 ∨ i % 7 = 5 ∨ i % 7 = 6 := by omega
  by_cases c0 : i / 7 = c.1
  · rcases h7 with h | h | h | h | h | h | h
    · have e0 : i = 7 * (q_cw c t p m x a e q).1 - 7 := by show i = 7 * (c.1 + 1) - 7; omega
      have e1 : i = 7 * c.1 := by omega
      rw [e1, q_row_0]
      unfold t_up q_cw
      rw [if_neg (by omega), if_neg (by omega), if_neg (by omega), if_neg (by omega), if_neg (by omega), if_neg (by omega), if_pos rfl]
      exact (t_up_eq _ _ _).symm
    · have e1 : i = 7 * c.1 + 1 := by omega
      rw [e1, q_row_1]
      unfold t_up q_cw
      rw [if_neg (by omega), if_neg (by omega), if_neg (by omega), if_neg (by omega), if_neg (by omega), if_pos rfl]
      exact (t_up_eq _ _ _).symm
    · have e1 : i = 7 * c.1 + 2 := by omega
      rw [e1, q_row_2]
      unfold t_up q_cw
      rw [if_neg (by omega), if_neg (by omega), if_neg (by omega), if_neg (by omega), if_pos rfl]
      exact (t_up_eq _ _ _).symm
    · have e1 : i = 7 * c.1 + 3 := by omega
      rw [e1, q_row_3]
      unfold t_up q_cw
      rw [if_neg (by omega), if_neg (by omega), if_neg (by omega), if_pos rfl]
      exact (t_up_eq _ _ _).symm
    · have e1 : i = 7 * c.1 + 4 := by omega
      rw [e1, q_row_4]
      unfold t_up q_cw
      rw [if_neg (by omega), if_neg (by omega), if_pos rfl]
      exact (t_up_eq _ _ _).symm
    · have e1 : i = 7 * c.1 + 5 := by omega
      rw [e1, q_row_5]
      unfold t_up q_cw
      rw [if_neg (by omega), if_pos rfl]
      exact (t_up_eq _ _ _).symm
    · have e1 : i = 7 * c.1 + 6 := by omega
      rw [e1, q_row_6]
      unfold t_up q_cw
      rw [if_pos rfl]
      exact (t_up_eq _ _ _).symm
  · have l : t_up (t_up (t_up (t_up (t_up (t_up (t_up (q_row c) (7 * c.1) t) (7 * c.1 + 1) p) (7 * c.1 + 2) m) (7 * c.1 + 3) x) (7 * c.1 + 4) a) (7 * c.1 + 5) e) (7 * c.1 + 6) q i = q_row c i := by
      rw [t_up_ne _ _ (by omega), t_up_ne _ _ (by omega), t_up_ne _ _ (by omega), t_up_ne _ _ (by omega), t_up_ne _ _ (by omega), t_up_ne _ _ (by omega), t_up_ne _ _ (by omega)]
    rw [l]
    unfold q_row q_cw
    dsimp only
    simp only [t_up_ne _ _ c0]
set_option maxRecDepth 100000 in
theorem k_X12_claim_G {ev : mv_E} {h : mv_H} {xt : Int32} {xf : Int32} {xa : Int32} {xo : Int64} {xe : Int32} {xu : Int32} {xs : Int32} {xg : Int32} {xw : Int32} {b : t_B} {t : Nat} {c : q_C} {t2 : Nat} {p : Nat} {m : Nat} {x : Nat} {a : Nat} {e : Nat} {q : Nat} (HX : h[52]? = some (.inr (12, [.ref 53, .ref 54, .int xt, .int xf, .int xa, .long xo, .int xe, .int xu, .ref 55, .int xs, .int (nI b.1), .ref 56, .ref 57, .ref 58, .int (nI t), .int (nI b.2.1), .ref 59, .ref 60, .ref 61, .ref 62, .int xg, .ref 63, .ref 64, .ref 65, .ref 66, .ref 67, .ref 68, .ref 69, .int (nI c.1), .ref 70, .ref 71, .ref 72, .ref 73, .ref 74, .ref 75, .int xw, .ref 76, .ref 77, .ref 78, .ref 79, .ref 80]))) (XC : h[70]? = some (.inl (0, 84, .inl (fun j => nI (q_row c j))))) (hp : p < 64) (hm0 : m < 8) (hz1 : 1 ≤ x) (hz9 : x ≤ 9) (hta : t2 < a) (hae : a ≤ e) (he : e ≤ 399) (hq : q ≤ 100) (hn : c.1 < 12) : ∃ h2, mv_K ev mX12_claim [.ref 52, .int (nI t2), .int (nI p), .int (nI m), .int (nI x), .int (nI a), .int (nI e), .int (nI q)] h (some (.int (nI c.1))) h2 ∧ mv_fra [52, 70] h h2 ∧ h2[52]? = some (.inr (12, [.ref 53, .ref 54, .int xt, .int xf, .int xa, .long xo, .int xe, .int xu, .ref 55, .int xs, .int (nI b.1), .ref 56, .ref 57, .ref 58, .int (nI t), .int (nI b.2.1), .ref 59, .ref 60, .ref 61, .ref 62, .int xg, .ref 63, .ref 64, .ref 65, .ref 66, .ref 67, .ref 68, .ref 69, .int (nI (q_cw c t2 p m x a e q).1), .ref 70, .ref 71, .ref 72, .ref 73, .ref 74, .ref 75, .int xw, .ref 76, .ref 77, .ref 78, .ref 79, .ref 80])) ∧ h2[70]? = some (.inl (0, 84, .inl (fun j => nI (q_row (q_cw c t2 p m x a e q) j)))) := by
  suffices g0 : mv_g ev mX12_claim 0 (mv_ent [.ref 52, .int (nI t2), .int (nI p), .int (nI m), .int (nI x), .int (nI a), .int (nI e), .int (nI q)] (mv_ml mX12_claim)) [] h (fun r g => r = some (.int (nI c.1)) ∧ mv_fra [52, 70] h g ∧ g[52]? = some (.inr (12, [.ref 53, .ref 54, .int xt, .int xf, .int xa, .long xo, .int xe, .int xu, .ref 55, .int xs, .int (nI b.1), .ref 56, .ref 57, .ref 58, .int (nI t), .int (nI b.2.1), .ref 59, .ref 60, .ref 61, .ref 62, .int xg, .ref 63, .ref 64, .ref 65, .ref 66, .ref 67, .ref 68, .ref 69, .int (nI (q_cw c t2 p m x a e q).1), .ref 70, .ref 71, .ref 72, .ref 73, .ref 74, .ref 75, .int xw, .ref 76, .ref 77, .ref 78, .ref 79, .ref 80])) ∧ g[70]? = some (.inl (0, 84, .inl (fun j => nI (q_row (q_cw c t2 p m x a e q) j))))) from (by obtain ⟨r0, h0, K0, q0, Q0⟩ := mv_Kex g0; subst q0; exact ⟨h0, K0, Q0⟩)
  show mv_g ev mX12_claim 0 [.ref 52, .int (nI t2), .int (nI p), .int (nI m), .int (nI x), .int (nI a), .int (nI e), .int (nI q), .null] [] h _
  have fr : mv_fra [52, 70] h h := mv_fra.rf
  refine mv_iload_n dX12_claim_0 rfl ?_
  refine mv_cS1 dX12_claim_1 lk_X12_claim_121 (Nat.le_of_ble_eq_true rfl) (Nat.le_of_ble_eq_true rfl) (k_X12_isPlace (ev := ev)) ?_
  refine mv_if_ne (tgt := 11) dX12_claim_4 (by decide) (fun c4 => ?_) (fun z => absurd z ((fun z => (mv_b_0 _).mp z (mv_in_i (by omega) (by omega) (by omega)))))
  refine mv_iload_n dX12_claim_11 rfl ?_
  refine mv_cS1 dX12_claim_12 lk_X12_claim_213 (Nat.le_of_ble_eq_true rfl) (Nat.le_of_ble_eq_true rfl) (k_X12_isDay (ev := ev)) ?_
  refine mv_if_eq (tgt := 77) dX12_claim_15 (by decide) (fun z => absurd z ((fun z => (mv_b_0 _).mp z (mv_in_i (by omega) (by omega) (by omega))))) (fun c15 => ?_)
  refine mv_iload dX12_claim_18 rfl ?_
  refine mv_i2l dX12_claim_20 ?_
  refine mv_topL (y := lN a) (nI_l (by omega)) ?_
  refine mv_iload_n dX12_claim_21 rfl ?_
  refine mv_iconst (v := nI 1) dX12_claim_22 (by decide) ?_
  refine mv_iadd dX12_claim_23 ?_
  refine mv_topI (y := nI (t2 + 1)) (nI_add _ _) ?_
  refine mv_i2l dX12_claim_24 ?_
  refine mv_topL (y := lN (t2 + 1)) (nI_l (by omega)) ?_
  refine mv_ldc2 (v := lN 399) dX12_claim_25 wd_1423 ?_
  refine mv_cS3 dX12_claim_28 lk_X12_claim_107 (Nat.le_of_ble_eq_true rfl) (Nat.le_of_ble_eq_true rfl) (k_X12_in (ev := ev)) ?_
  refine mv_if_eq (tgt := 77) dX12_claim_31 (by decide) (fun z => absurd z ((fun z => (mv_b_0 _).mp z ((and_congr (lN_leB (by omega) (by omega)) (lN_leB (by omega) (by omega))).mpr ⟨by omega, by omega⟩)))) (fun c31 => ?_)
  refine mv_iload dX12_claim_34 rfl ?_
  refine mv_i2l dX12_claim_36 ?_
  refine mv_topL (y := lN e) (nI_l (by omega)) ?_
  refine mv_iload dX12_claim_37 rfl ?_
  refine mv_i2l dX12_claim_39 ?_
  refine mv_topL (y := lN a) (nI_l (by omega)) ?_
  refine mv_ldc2 (v := lN 399) dX12_claim_40 wd_1423 ?_
  refine mv_cS3 dX12_claim_43 lk_X12_claim_107 (Nat.le_of_ble_eq_true rfl) (Nat.le_of_ble_eq_true rfl) (k_X12_in (ev := ev)) ?_
  refine mv_if_eq (tgt := 77) dX12_claim_46 (by decide) (fun z => absurd z ((fun z => (mv_b_0 _).mp z ((and_congr (lN_leB (by omega) (by omega)) (lN_leB (by omega) (by omega))).mpr ⟨by omega, by omega⟩)))) (fun c46 => ?_)
  refine mv_iload_n dX12_claim_49 rfl ?_
  refine mv_cS1 dX12_claim_50 lk_X12_claim_125 (Nat.le_of_ble_eq_true rfl) (Nat.le_of_ble_eq_true rfl) (k_X12_isNear (ev := ev)) ?_
  refine mv_if_eq (tgt := 77) dX12_claim_53 (by decide) (fun z => absurd z ((fun z => (mv_b_0 _).mp z (mv_in_i (by omega) (by omega) (by omega))))) (fun c53 => ?_)
  refine mv_iload dX12_claim_56 rfl ?_
  refine mv_cS1 dX12_claim_58 lk_X12_claim_204 (Nat.le_of_ble_eq_true rfl) (Nat.le_of_ble_eq_true rfl) (k_X12_isSize (ev := ev)) ?_
  refine mv_if_eq (tgt := 77) dX12_claim_61 (by decide) (fun z => absurd z ((fun z => (mv_b_0 _).mp z (mv_in_i (by omega) (by omega) (by omega))))) (fun c61 => ?_)
  refine mv_iload dX12_claim_64 rfl ?_
  refine mv_i2l dX12_claim_66 ?_
  refine mv_topL (y := lN q) (nI_l (by omega)) ?_
  refine mv_lconst (v := lN 0) dX12_claim_67 rfl ?_
  refine mv_ldc2 (v := lN 100) dX12_claim_68 wd_1415 ?_
  refine mv_cS3 dX12_claim_71 lk_X12_claim_107 (Nat.le_of_ble_eq_true rfl) (Nat.le_of_ble_eq_true rfl) (k_X12_in (ev := ev)) ?_
  refine mv_if_ne (tgt := 81) dX12_claim_74 (by decide) (fun c74 => ?_) (fun z => absurd z ((fun z => (mv_b_0 _).mp z ((and_congr (lN_leB (by omega) (by omega)) (lN_leB (by omega) (by omega))).mpr ⟨by omega, by omega⟩))))
  refine mv_aload_n dX12_claim_81 rfl ?_
  refine mv_getf (ci := 12) (f := 28) dX12_claim_82 HX rfl (by decide) wd_1227 rfl ?_
  refine mv_bipush (v := nI 12) dX12_claim_85 (by decide) ?_
  refine mv_icmp_ne (tgt := 94) dX12_claim_87 (by decide) (fun c87 => ?_) (fun z => absurd z ((fun q => absurd ((nI_eq (by omega) (by omega)).mp q) (by omega))))
  refine mv_bipush (v := nI 7) dX12_claim_94 (by decide) ?_
  refine mv_aload_n dX12_claim_96 rfl ?_
  refine mv_getf (ci := 12) (f := 28) dX12_claim_97 HX rfl (by decide) wd_1227 rfl ?_
  refine mv_imul dX12_claim_100 ?_
  refine mv_topI (y := nI (7 * c.1)) (pk_mul _ _) ?_
  refine mv_istore dX12_claim_101 (by decide) ?_
  refine mv_aload_n dX12_claim_103 rfl ?_
  refine mv_getf (ci := 12) (f := 29) dX12_claim_104 HX rfl (by decide) wd_1228 rfl ?_
  refine mv_iload dX12_claim_107 rfl ?_
  refine mv_iload_n dX12_claim_109 rfl ?_
  refine mv_iastN (j := (7 * c.1)) dX12_claim_110 XC rfl (by decide) (by omega) (fun h1 e2 => ?_)
  rw [upd_nI] at e2
  have HX := mv_ne e2 (by decide) HX
  have XC : h1[70]? = some (.inl (0, 84, .inl (fun j => nI (t_up (q_row c) (7 * c.1) t2 j)))) := mv_eq e2 XC
  have fr := fr.set e2 (by decide)
  clear e2
  refine mv_aload_n dX12_claim_111 rfl ?_
  refine mv_getf (ci := 12) (f := 29) dX12_claim_112 HX rfl (by decide) wd_1228 rfl ?_
  refine mv_iload dX12_claim_115 rfl ?_
  refine mv_iconst (v := nI 1) dX12_claim_117 (by decide) ?_
  refine mv_iadd dX12_claim_118 ?_
  refine mv_topI (y := nI (7 * c.1 + 1)) (nI_add _ _) ?_
  refine mv_iload_n dX12_claim_119 rfl ?_
  refine mv_iastN (j := (7 * c.1 + 1)) dX12_claim_120 XC rfl (by decide) (by omega) (fun h3 e4 => ?_)
  rw [upd_nI] at e4
  have HX := mv_ne e4 (by decide) HX
  have XC : h3[70]? = some (.inl (0, 84, .inl (fun j => nI (t_up (t_up (q_row c) (7 * c.1) t2) (7 * c.1 + 1) p j)))) := mv_eq e4 XC
  have fr := fr.set e4 (by decide)
  clear e4
  refine mv_aload_n dX12_claim_121 rfl ?_
  refine mv_getf (ci := 12) (f := 29) dX12_claim_122 HX rfl (by decide) wd_1228 rfl ?_
  refine mv_iload dX12_claim_125 rfl ?_
  refine mv_iconst (v := nI 2) dX12_claim_127 (by decide) ?_
  refine mv_iadd dX12_claim_128 ?_
  refine mv_topI (y := nI (7 * c.1 + 2)) (nI_add _ _) ?_
  refine mv_iload_n dX12_claim_129 rfl ?_
  refine mv_iastN (j := (7 * c.1 + 2)) dX12_claim_130 XC rfl (by decide) (by omega) (fun h5 e6 => ?_)
  rw [upd_nI] at e6
  have HX := mv_ne e6 (by decide) HX
  have XC : h5[70]? = some (.inl (0, 84, .inl (fun j => nI (t_up (t_up (t_up (q_row c) (7 * c.1) t2) (7 * c.1 + 1) p) (7 * c.1 + 2) m j)))) := mv_eq e6 XC
  have fr := fr.set e6 (by decide)
  clear e6
  refine mv_aload_n dX12_claim_131 rfl ?_
  refine mv_getf (ci := 12) (f := 29) dX12_claim_132 HX rfl (by decide) wd_1228 rfl ?_
  refine mv_iload dX12_claim_135 rfl ?_
  refine mv_iconst (v := nI 3) dX12_claim_137 (by decide) ?_
  refine mv_iadd dX12_claim_138 ?_
  refine mv_topI (y := nI (7 * c.1 + 3)) (nI_add _ _) ?_
  refine mv_iload dX12_claim_139 rfl ?_
  refine mv_iastN (j := (7 * c.1 + 3)) dX12_claim_141 XC rfl (by decide) (by omega) (fun h7 e8 => ?_)
  rw [upd_nI] at e8
  have HX := mv_ne e8 (by decide) HX
  have XC : h7[70]? = some (.inl (0, 84, .inl (fun j => nI (t_up (t_up (t_up (t_up (q_row c) (7 * c.1) t2) (7 * c.1 + 1) p) (7 * c.1 + 2) m) (7 * c.1 + 3) x j)))) := mv_eq e8 XC
  have fr := fr.set e8 (by decide)
  clear e8
  refine mv_aload_n dX12_claim_142 rfl ?_
  refine mv_getf (ci := 12) (f := 29) dX12_claim_143 HX rfl (by decide) wd_1228 rfl ?_
  refine mv_iload dX12_claim_146 rfl ?_
  refine mv_iconst (v := nI 4) dX12_claim_148 (by decide) ?_
  refine mv_iadd dX12_claim_149 ?_
  refine mv_topI (y := nI (7 * c.1 + 4)) (nI_add _ _) ?_
  refine mv_iload dX12_claim_150 rfl ?_
  refine mv_iastN (j := (7 * c.1 + 4)) dX12_claim_152 XC rfl (by decide) (by omega) (fun h9 e10 => ?_)
  rw [upd_nI] at e10
  have HX := mv_ne e10 (by decide) HX
  have XC : h9[70]? = some (.inl (0, 84, .inl (fun j => nI (t_up (t_up (t_up (t_up (t_up (q_row c) (7 * c.1) t2) (7 * c.1 + 1) p) (7 * c.1 + 2) m) (7 * c.1 + 3) x) (7 * c.1 + 4) a j)))) := mv_eq e10 XC
  have fr := fr.set e10 (by decide)
  clear e10
  refine mv_aload_n dX12_claim_153 rfl ?_
  refine mv_getf (ci := 12) (f := 29) dX12_claim_154 HX rfl (by decide) wd_1228 rfl ?_
  refine mv_iload dX12_claim_157 rfl ?_
  refine mv_iconst (v := nI 5) dX12_claim_159 (by decide) ?_
  refine mv_iadd dX12_claim_160 ?_
  refine mv_topI (y := nI (7 * c.1 + 5)) (nI_add _ _) ?_
  refine mv_iload dX12_claim_161 rfl ?_
  refine mv_iastN (j := (7 * c.1 + 5)) dX12_claim_163 XC rfl (by decide) (by omega) (fun h11 e12 => ?_)
  rw [upd_nI] at e12
  have HX := mv_ne e12 (by decide) HX
  have XC : h11[70]? = some (.inl (0, 84, .inl (fun j => nI (t_up (t_up (t_up (t_up (t_up (t_up (q_row c) (7 * c.1) t2) (7 * c.1 + 1) p) (7 * c.1 + 2) m) (7 * c.1 + 3) x) (7 * c.1 + 4) a) (7 * c.1 + 5) e j)))) := mv_eq e12 XC
  have fr := fr.set e12 (by decide)
  clear e12
  refine mv_aload_n dX12_claim_164 rfl ?_
  refine mv_getf (ci := 12) (f := 29) dX12_claim_165 HX rfl (by decide) wd_1228 rfl ?_
  refine mv_iload dX12_claim_168 rfl ?_
  refine mv_bipush (v := nI 6) dX12_claim_170 (by decide) ?_
  refine mv_iadd dX12_claim_172 ?_
  refine mv_topI (y := nI (7 * c.1 + 6)) (nI_add _ _) ?_
  refine mv_iload dX12_claim_173 rfl ?_
  refine mv_iastN (j := (7 * c.1 + 6)) dX12_claim_175 XC rfl (by decide) (by omega) (fun h13 e14 => ?_)
  rw [upd_nI] at e14
  have HX := mv_ne e14 (by decide) HX
  have XC : h13[70]? = some (.inl (0, 84, .inl (fun j => nI (t_up (t_up (t_up (t_up (t_up (t_up (t_up (q_row c) (7 * c.1) t2) (7 * c.1 + 1) p) (7 * c.1 + 2) m) (7 * c.1 + 3) x) (7 * c.1 + 4) a) (7 * c.1 + 5) e) (7 * c.1 + 6) q j)))) := mv_eq e14 XC
  have fr := fr.set e14 (by decide)
  clear e14
  rw [q_row_w] at XC
  refine mv_aload_n dX12_claim_176 rfl ?_
  refine mv_dup dX12_claim_177 rfl ?_
  refine mv_getf (ci := 12) (f := 28) dX12_claim_178 HX rfl (by decide) wd_1227 rfl ?_
  refine mv_iconst (v := nI 1) dX12_claim_181 (by decide) ?_
  refine mv_iadd dX12_claim_182 ?_
  refine mv_topI (y := nI (c.1 + 1)) (nI_add _ _) ?_
  refine mv_putf (ci := 12) (f := 28) dX12_claim_183 HX rfl (by decide) wd_1227 rfl rfl (fun _ => ⟨rfl, rfl⟩) (Nat.le_of_ble_eq_true rfl) ?_
  refine mv_topH (fun h15 e16 => ?_)
  have HX : h15[52]? = some (.inr (12, [.ref 53, .ref 54, .int xt, .int xf, .int xa, .long xo, .int xe, .int xu, .ref 55, .int xs, .int (nI b.1), .ref 56, .ref 57, .ref 58, .int (nI t), .int (nI b.2.1), .ref 59, .ref 60, .ref 61, .ref 62, .int xg, .ref 63, .ref 64, .ref 65, .ref 66, .ref 67, .ref 68, .ref 69, .int (nI (c.1 + 1)), .ref 70, .ref 71, .ref 72, .ref 73, .ref 74, .ref 75, .int xw, .ref 76, .ref 77, .ref 78, .ref 79, .ref 80])) := mv_eq e16 HX
  have XC := mv_ne e16 (by decide) XC
  have fr := fr.set e16 (by decide)
  clear e16
  refine mv_aload_n dX12_claim_186 rfl ?_
  refine mv_getf (ci := 12) (f := 28) dX12_claim_187 HX rfl (by decide) wd_1227 rfl ?_
  refine mv_iconst (v := nI 1) dX12_claim_190 (by decide) ?_
  refine mv_isub dX12_claim_191 ?_
  refine mv_topI (y := nI c.1) (by show nI (c.1 + 1) - nI 1 = _; rw [pk_sub (by omega)]; exact congrArg nI (by omega)) ?_
  exact mv_iret dX12_claim_192 rfl rfl ⟨rfl, fr, HX, XC⟩
set_option maxRecDepth 100000 in
theorem k_X12_score_R1 {ev : mv_E} {h : mv_H} {xt : Int32} {xf : Int32} {xa : Int32} {xo : Int64} {xe : Int32} {xu : Int32} {xs : Int32} {xg : Int32} {xw : Int32} {b : t_B} {t : Nat} {c : q_C} {k : Int32} {w : Int32} (HX : h[52]? = some (.inr (12, [.ref 53, .ref 54, .int xt, .int xf, .int xa, .long xo, .int xe, .int xu, .ref 55, .int xs, .int (nI b.1), .ref 56, .ref 57, .ref 58, .int (nI t), .int (nI b.2.1), .ref 59, .ref 60, .ref 61, .ref 62, .int xg, .ref 63, .ref 64, .ref 65, .ref 66, .ref 67, .ref 68, .ref 69, .int (nI c.1), .ref 70, .ref 71, .ref 72, .ref 73, .ref 74, .ref 75, .int xw, .ref 76, .ref 77, .ref 78, .ref 79, .ref 80]))) (hn : c.1 ≤ 12) (hno : ¬ ((0 ≤ k ∧ k < nI c.1 ∧ k < nI 12))) : mv_K ev mX12_score [.ref 52, .int k, .int w] h (some (.int (-1001))) h := by
  refine mv_Kof ?_
  show mv_g ev mX12_score 0 [.ref 52, .int k, .int w] [] h _
  refine mv_iload_n dX12_score_0 rfl ?_
  refine mv_i2l dX12_score_1 ?_
  refine mv_lconst (v := lN 0) dX12_score_2 rfl ?_
  refine mv_aload_n dX12_score_3 rfl ?_
  refine mv_getf (ci := 12) (f := 28) dX12_score_4 HX rfl (by decide) wd_1227 rfl ?_
  refine mv_iconst (v := nI 1) dX12_score_7 (by decide) ?_
  refine mv_isub dX12_score_8 ?_
  refine mv_i2l dX12_score_9 ?_
  refine mv_cS3 dX12_score_10 lk_X12_score_107 (Nat.le_of_ble_eq_true rfl) (Nat.le_of_ble_eq_true rfl) (k_X12_in (ev := ev)) ?_
  refine mv_if_ne (tgt := 20) dX12_score_13 (by decide) (fun c13 => ?_) (fun c13 => ?_)
  · have c13 : (0 ≤ k ∧ k < nI c.1 ∧ k < nI 12) := (q_isk hn (by decide)).mp (mv_b_ne c13)
    exact absurd (by assumption) hno
  · have c13 : ¬ (0 ≤ k ∧ k < nI c.1 ∧ k < nI 12) := fun z => (mv_b_0 _).mp c13 ((q_isk hn (by decide)).mpr z)
    refine mv_sipush (v := (-1001)) dX12_score_16 (by decide) ?_
    exact mv_iret dX12_score_19 rfl rfl ⟨rfl, rfl⟩
set_option maxRecDepth 100000 in
theorem k_X12_score_G {ev : mv_E} {h : mv_H} {xt : Int32} {xf : Int32} {xa : Int32} {xo : Int64} {xe : Int32} {xu : Int32} {xs : Int32} {xg : Int32} {xw : Int32} {b : t_B} {t : Nat} {c : q_C} {lw : Nat → Int32} {ln : Nat → Nat} {k : Nat} {dd : Nat} {w : Int32} (HX : h[52]? = some (.inr (12, [.ref 53, .ref 54, .int xt, .int xf, .int xa, .long xo, .int xe, .int xu, .ref 55, .int xs, .int (nI b.1), .ref 56, .ref 57, .ref 58, .int (nI t), .int (nI b.2.1), .ref 59, .ref 60, .ref 61, .ref 62, .int xg, .ref 63, .ref 64, .ref 65, .ref 66, .ref 67, .ref 68, .ref 69, .int (nI c.1), .ref 70, .ref 71, .ref 72, .ref 73, .ref 74, .ref 75, .int xw, .ref 76, .ref 77, .ref 78, .ref 79, .ref 80]))) (X56 : h[56]? = some (.inl (0, 60, .inl (fun j => nI (b.2.2.1 j))))) (X57 : h[57]? = some (.inl (0, 60, .inl (fun j => nI (b.2.2.2.1 j))))) (X58 : h[58]? = some (.inl (0, 60, .inl (fun j => nI (b.2.2.2.2 j))))) (X53 : h[53]? = some (.inl (0, 8, .inl lw))) (XC : h[70]? = some (.inl (0, 84, .inl (fun j => nI (q_row c j))))) (hci : q_CI c) (hk : k < c.1) (hw : q_LW lw ln) (hb : q_BI dd b) : mv_K ev mX12_score [.ref 52, .int (nI k), .int w] h (some (.int (q_scA ln c b k w))) h := by
  refine mv_Kof ?_
  show mv_g ev mX12_score 0 [.ref 52, .int (nI k), .int w] [] h _
  have hn := hci.1
  refine mv_iload_n dX12_score_0 rfl ?_
  refine mv_i2l dX12_score_1 ?_
  refine mv_lconst (v := lN 0) dX12_score_2 rfl ?_
  refine mv_aload_n dX12_score_3 rfl ?_
  refine mv_getf (ci := 12) (f := 28) dX12_score_4 HX rfl (by decide) wd_1227 rfl ?_
  refine mv_iconst (v := nI 1) dX12_score_7 (by decide) ?_
  refine mv_isub dX12_score_8 ?_
  refine mv_i2l dX12_score_9 ?_
  refine mv_cS3 dX12_score_10 lk_X12_score_107 (Nat.le_of_ble_eq_true rfl) (Nat.le_of_ble_eq_true rfl) (k_X12_in (ev := ev)) ?_
  refine mv_if_ne (tgt := 20) dX12_score_13 (by decide) (fun c13 => ?_) (fun z => absurd z ((fun z => (mv_b_0 _).mp z ((q_isk (n := c.1) (N := 12) hn (by decide)).mpr ⟨Int32.not_lt.mp (nI_pos (by omega)), (nI_ltI (by omega) (by omega)).mpr (by omega), (nI_ltI (by omega) (by omega)).mpr (by omega)⟩))))
  refine mv_iload_n dX12_score_20 rfl ?_
  refine mv_if_ne (tgt := 32) dX12_score_21 (by decide) (fun c21 => ?_) (fun c21 => ?_)
  · skip
    refine mv_iload_n dX12_score_32 rfl ?_
    refine mv_iconst (v := nI 1) dX12_score_33 (by decide) ?_
    refine mv_icmp_ne (tgt := 45) dX12_score_34 (by decide) (fun c34 => ?_) (fun c34 => ?_)
    · skip
      refine mv_iload_n dX12_score_45 rfl ?_
      refine mv_iconst (v := nI 2) dX12_score_46 (by decide) ?_
      refine mv_icmp_ne (tgt := 58) dX12_score_47 (by decide) (fun c47 => ?_) (fun c47 => ?_)
      · skip
        refine mv_sipush (v := (-1002)) dX12_score_58 (by decide) ?_
        have e9 : q_scA ln c b k w = -1002 := ((if_neg c21).trans ((if_neg c34).trans (if_neg c47)))
        exact mv_iret dX12_score_61 rfl rfl ⟨(by rw [e9]), rfl⟩
      · skip
        refine mv_aload_n dX12_score_50 rfl ?_
        refine mv_iload_n dX12_score_51 rfl ?_
        refine mv_cV1 (ci := 12) dX12_score_52 lk_X12_score_324 HX rfl (Nat.le_of_ble_eq_true rfl) (Nat.le_of_ble_eq_true rfl) (k_X12_scoreOf (ev := ev) HX X56 X57 X58 X53 XC hci hk hw hb) ?_
        refine mv_goto (tgt := 61) dX12_score_55 (by decide) ?_
        have e9 : q_scA ln c b k w = q_sc ln c b k := ((if_neg c21).trans ((if_neg c34).trans (if_pos c47)))
        exact mv_iret dX12_score_61 rfl rfl ⟨(by rw [e9]), rfl⟩
    · skip
      refine mv_aload_n dX12_score_37 rfl ?_
      refine mv_iload_n dX12_score_38 rfl ?_
      refine mv_cV1 (ci := 12) dX12_score_39 lk_X12_score_321 HX rfl (Nat.le_of_ble_eq_true rfl) (Nat.le_of_ble_eq_true rfl) (k_X12_aloneOf (ev := ev) HX X56 X57 X58 X53 XC hci hk hw hb) ?_
      refine mv_goto (tgt := 61) dX12_score_42 (by decide) ?_
      have e9 : q_scA ln c b k w = nI (q_al ln c b k) := ((if_neg c21).trans (if_pos c34))
      exact mv_iret dX12_score_61 rfl rfl ⟨(by rw [e9]), rfl⟩
  · skip
    refine mv_aload_n dX12_score_24 rfl ?_
    refine mv_iload_n dX12_score_25 rfl ?_
    refine mv_cV1 (ci := 12) dX12_score_26 lk_X12_score_318 HX rfl (Nat.le_of_ble_eq_true rfl) (Nat.le_of_ble_eq_true rfl) (k_X12_hitOf (ev := ev) HX X56 X57 X58 XC hci hk hb) ?_
    refine mv_goto (tgt := 61) dX12_score_29 (by decide) ?_
    have e9 : q_scA ln c b k w = q_hit c b k := (if_pos c21)
    exact mv_iret dX12_score_61 rfl rfl ⟨(by rw [e9]), rfl⟩
set_option maxRecDepth 100000 in
theorem l_X12_scores {ev : mv_E} {h : mv_H} {xt : Int32} {xf : Int32} {xa : Int32} {xo : Int64} {xe : Int32} {xu : Int32} {xs : Int32} {xg : Int32} {xw : Int32} {b : t_B} {t : Nat} {c : q_C} {lw : Nat → Int32} {ln : Nat → Nat} {dd : Nat} (HX : h[52]? = some (.inr (12, [.ref 53, .ref 54, .int xt, .int xf, .int xa, .long xo, .int xe, .int xu, .ref 55, .int xs, .int (nI b.1), .ref 56, .ref 57, .ref 58, .int (nI t), .int (nI b.2.1), .ref 59, .ref 60, .ref 61, .ref 62, .int xg, .ref 63, .ref 64, .ref 65, .ref 66, .ref 67, .ref 68, .ref 69, .int (nI c.1), .ref 70, .ref 71, .ref 72, .ref 73, .ref 74, .ref 75, .int xw, .ref 76, .ref 77, .ref 78, .ref 79, .ref 80]))) (X56 : h[56]? = some (.inl (0, 60, .inl (fun j => nI (b.2.2.1 j))))) (X57 : h[57]? = some (.inl (0, 60, .inl (fun j => nI (b.2.2.2.1 j))))) (X58 : h[58]? = some (.inl (0, 60, .inl (fun j => nI (b.2.2.2.2 j))))) (X53 : h[53]? = some (.inl (0, 8, .inl lw))) (XC : h[70]? = some (.inl (0, 84, .inl (fun j => nI (q_row c j))))) (hci : q_CI c) (hw : q_LW lw ln) (hb : q_BI dd b) : ∀ (fu : Nat) (v : Int32) (y : Nat), c.1 < y + fu → (y ≤ c.1) → (v = q_ssm (q_sc ln c b) y) → mv_g ev mX12_scores 4 [.ref 52, .int v, .int (nI y)] [] h (fun r g => r = some (.int (q_ssm (q_sc ln c b) c.1)) ∧ g = h) := by
  intro fu
  induction fu with
  | zero => intro v y hm hy hv; exact absurd hm (by omega)
  | succ fu ih =>
    intro v y hm hy hv
    have n0 := hci.1
    refine mv_iload_n dX12_scores_4 rfl ?_
    refine mv_aload_n dX12_scores_5 rfl ?_
    refine mv_getf (ci := 12) (f := 28) dX12_scores_6 HX rfl (by decide) wd_1227 rfl ?_
    refine mv_icmp_ge (tgt := 26) dX12_scores_9 (by decide) (fun c9 => ?_) (fun c9 => ?_)
    · have c9 : c.1 ≤ y := (nI_leI (by omega) (by omega)).mp c9
      refine mv_iload_n dX12_scores_26 rfl ?_
      exact mv_iret dX12_scores_27 rfl rfl ⟨(congrArg (fun z => some (Value.int z)) (by have e : y = c.1 := (by omega); subst e; exact hv)), rfl⟩
    · have c9 : ¬ (c.1 ≤ y) := fun z => c9 ((nI_leI (by omega) (by omega)).mpr z)
      refine mv_iload_n dX12_scores_12 rfl ?_
      refine mv_aload_n dX12_scores_13 rfl ?_
      refine mv_iload_n dX12_scores_14 rfl ?_
      refine mv_cV1 (ci := 12) dX12_scores_15 lk_X12_scores_324 HX rfl (Nat.le_of_ble_eq_true rfl) (Nat.le_of_ble_eq_true rfl) (k_X12_scoreOf (ev := ev) HX X56 X57 X58 X53 XC hci (by omega) hw hb) ?_
      refine mv_iadd dX12_scores_18 ?_
      refine mv_istore_n dX12_scores_19 (by decide) ?_
      refine mv_iinc (v := nI (y + 1)) dX12_scores_20 rfl (mv_inc y 1) (by decide) ?_
      refine mv_goto (tgt := 4) dX12_scores_23 (by decide) ?_
      exact ih (v + (q_sc ln c b y)) (y + 1) (by omega) (by omega) (by rw [q_ssm_s, ← hv])
set_option maxRecDepth 100000 in
theorem k_X12_scores_G {ev : mv_E} {h : mv_H} {xt : Int32} {xf : Int32} {xa : Int32} {xo : Int64} {xe : Int32} {xu : Int32} {xs : Int32} {xg : Int32} {xw : Int32} {b : t_B} {t : Nat} {c : q_C} {lw : Nat → Int32} {ln : Nat → Nat} {dd : Nat} (HX : h[52]? = some (.inr (12, [.ref 53, .ref 54, .int xt, .int xf, .int xa, .long xo, .int xe, .int xu, .ref 55, .int xs, .int (nI b.1), .ref 56, .ref 57, .ref 58, .int (nI t), .int (nI b.2.1), .ref 59, .ref 60, .ref 61, .ref 62, .int xg, .ref 63, .ref 64, .ref 65, .ref 66, .ref 67, .ref 68, .ref 69, .int (nI c.1), .ref 70, .ref 71, .ref 72, .ref 73, .ref 74, .ref 75, .int xw, .ref 76, .ref 77, .ref 78, .ref 79, .ref 80]))) (X56 : h[56]? = some (.inl (0, 60, .inl (fun j => nI (b.2.2.1 j))))) (X57 : h[57]? = some (.inl (0, 60, .inl (fun j => nI (b.2.2.2.1 j))))) (X58 : h[58]? = some (.inl (0, 60, .inl (fun j => nI (b.2.2.2.2 j))))) (X53 : h[53]? = some (.inl (0, 8, .inl lw))) (XC : h[70]? = some (.inl (0, 84, .inl (fun j => nI (q_row c j))))) (hci : q_CI c) (hw : q_LW lw ln) (hb : q_BI dd b) : mv_K ev mX12_scores [.ref 52] h (some (.int (q_ssm (q_sc ln c b) c.1))) h := by
  refine mv_Kof ?_
  show mv_g ev mX12_scores 0 [.ref 52, .null, .null] [] h _
  have n0 := hci.1
  refine mv_iconst (v := nI 0) dX12_scores_0 (by decide) ?_
  refine mv_istore_n dX12_scores_1 (by decide) ?_
  refine mv_iconst (v := nI 0) dX12_scores_2 (by decide) ?_
  refine mv_istore_n dX12_scores_3 (by decide) ?_
  exact l_X12_scores HX X56 X57 X58 X53 XC hci hw hb (c.1 + 1) (nI 0) 0 (by omega) (Nat.zero_le _) rfl
set_option maxRecDepth 100000 in
theorem k_X12_isTown {ev : mv_E} {h : mv_H} {x : Int32} {lc : Int32} {sc : Int32} {a : Int32} {e : Int32}   : mv_K ev mX12_isTown [.int x, .int lc, .int sc, .int a, .int e] h (some (.int (mv_b ((nI 1 ≤ x ∧ x ≤ nI 9) ∧ (nI 1 ≤ lc ∧ lc ≤ nI 999) ∧ (nI 1 ≤ sc ∧ sc ≤ nI 9999) ∧ (nI 1 ≤ a ∧ a ≤ nI 399) ∧ (a ≤ e ∧ e ≤ nI 399))))) h := by
  refine mv_Kof ?_
  show mv_g ev mX12_isTown 0 [.int x, .int lc, .int sc, .int a, .int e] [] h _
  refine mv_iload_n dX12_isTown_0 rfl ?_
  refine mv_cS1 dX12_isTown_1 lk_X12_isTown_204 (Nat.le_of_ble_eq_true rfl) (Nat.le_of_ble_eq_true rfl) (k_X12_isSize (ev := ev)) ?_
  refine mv_if_eq (tgt := 61) dX12_isTown_4 (by decide) (fun c4 => ?_) (fun c4 => ?_)
  · have c4 : ¬ (nI 1 ≤ x ∧ x ≤ nI 9) := (mv_b_0 _).mp c4
    refine mv_iconst (v := nI 0) dX12_isTown_61 (by decide) ?_
    exact mv_iret dX12_isTown_62 rfl rfl ⟨(congrArg (fun z => some (Value.int z)) (by first | exact (mv_b_t ⟨c4, c16, c28, c40, c54⟩).symm | exact (mv_b_f (fun z => c4 z.1)).symm | exact (mv_b_f (fun z => c16 z.2.1)).symm | exact (mv_b_f (fun z => c28 z.2.2.1)).symm | exact (mv_b_f (fun z => c40 z.2.2.2.1)).symm | exact (mv_b_f (fun z => c54 z.2.2.2.2)).symm)), rfl⟩
  · have c4 : nI 1 ≤ x ∧ x ≤ nI 9 := Classical.byContradiction (fun z => c4 ((mv_b_0 _).mpr z))
    refine mv_iload_n dX12_isTown_7 rfl ?_
    refine mv_i2l dX12_isTown_8 ?_
    refine mv_lconst (v := lN 1) dX12_isTown_9 rfl ?_
    refine mv_ldc2 (v := lN 999) dX12_isTown_10 wd_1599 ?_
    refine mv_cS3 dX12_isTown_13 lk_X12_isTown_107 (Nat.le_of_ble_eq_true rfl) (Nat.le_of_ble_eq_true rfl) (k_X12_in (ev := ev)) ?_
    refine mv_if_eq (tgt := 61) dX12_isTown_16 (by decide) (fun c16 => ?_) (fun c16 => ?_)
    · have c16 : ¬ (nI 1 ≤ lc ∧ lc ≤ nI 999) := fun z => (mv_b_0 _).mp c16 ((and_congr (mv_lL (by decide)) (mv_lR (by decide))).mpr z)
      refine mv_iconst (v := nI 0) dX12_isTown_61 (by decide) ?_
      exact mv_iret dX12_isTown_62 rfl rfl ⟨(congrArg (fun z => some (Value.int z)) (by first | exact (mv_b_t ⟨c4, c16, c28, c40, c54⟩).symm | exact (mv_b_f (fun z => c4 z.1)).symm | exact (mv_b_f (fun z => c16 z.2.1)).symm | exact (mv_b_f (fun z => c28 z.2.2.1)).symm | exact (mv_b_f (fun z => c40 z.2.2.2.1)).symm | exact (mv_b_f (fun z => c54 z.2.2.2.2)).symm)), rfl⟩
    · have c16 : nI 1 ≤ lc ∧ lc ≤ nI 999 := (and_congr (mv_lL (by decide)) (mv_lR (by decide))).mp (mv_b_ne c16)
      refine mv_iload_n dX12_isTown_19 rfl ?_
      refine mv_i2l dX12_isTown_20 ?_
      refine mv_lconst (v := lN 1) dX12_isTown_21 rfl ?_
      refine mv_ldc2 (v := lN 9999) dX12_isTown_22 wd_1600 ?_
      refine mv_cS3 dX12_isTown_25 lk_X12_isTown_107 (Nat.le_of_ble_eq_true rfl) (Nat.le_of_ble_eq_true rfl) (k_X12_in (ev := ev)) ?_
      refine mv_if_eq (tgt := 61) dX12_isTown_28 (by decide) (fun c28 => ?_) (fun c28 => ?_)
      · have c28 : ¬ (nI 1 ≤ sc ∧ sc ≤ nI 9999) := fun z => (mv_b_0 _).mp c28 ((and_congr (mv_lL (by decide)) (mv_lR (by decide))).mpr z)
        refine mv_iconst (v := nI 0) dX12_isTown_61 (by decide) ?_
        exact mv_iret dX12_isTown_62 rfl rfl ⟨(congrArg (fun z => some (Value.int z)) (by first | exact (mv_b_t ⟨c4, c16, c28, c40, c54⟩).symm | exact (mv_b_f (fun z => c4 z.1)).symm | exact (mv_b_f (fun z => c16 z.2.1)).symm | exact (mv_b_f (fun z => c28 z.2.2.1)).symm | exact (mv_b_f (fun z => c40 z.2.2.2.1)).symm | exact (mv_b_f (fun z => c54 z.2.2.2.2)).symm)), rfl⟩
      · have c28 : nI 1 ≤ sc ∧ sc ≤ nI 9999 := (and_congr (mv_lL (by decide)) (mv_lR (by decide))).mp (mv_b_ne c28)
        refine mv_iload_n dX12_isTown_31 rfl ?_
        refine mv_i2l dX12_isTown_32 ?_
        refine mv_lconst (v := lN 1) dX12_isTown_33 rfl ?_
        refine mv_ldc2 (v := lN 399) dX12_isTown_34 wd_1423 ?_
        refine mv_cS3 dX12_isTown_37 lk_X12_isTown_107 (Nat.le_of_ble_eq_true rfl) (Nat.le_of_ble_eq_true rfl) (k_X12_in (ev := ev)) ?_
        refine mv_if_eq (tgt := 61) dX12_isTown_40 (by decide) (fun c40 => ?_) (fun c40 => ?_)
        · have c40 : ¬ (nI 1 ≤ a ∧ a ≤ nI 399) := fun z => (mv_b_0 _).mp c40 ((and_congr (mv_lL (by decide)) (mv_lR (by decide))).mpr z)
          refine mv_iconst (v := nI 0) dX12_isTown_61 (by decide) ?_
          exact mv_iret dX12_isTown_62 rfl rfl ⟨(congrArg (fun z => some (Value.int z)) (by first | exact (mv_b_t ⟨c4, c16, c28, c40, c54⟩).symm | exact (mv_b_f (fun z => c4 z.1)).symm | exact (mv_b_f (fun z => c16 z.2.1)).symm | exact (mv_b_f (fun z => c28 z.2.2.1)).symm | exact (mv_b_f (fun z => c40 z.2.2.2.1)).symm | exact (mv_b_f (fun z => c54 z.2.2.2.2)).symm)), rfl⟩
        · have c40 : nI 1 ≤ a ∧ a ≤ nI 399 := (and_congr (mv_lL (by decide)) (mv_lR (by decide))).mp (mv_b_ne c40)
          refine mv_iload dX12_isTown_43 rfl ?_
          refine mv_i2l dX12_isTown_45 ?_
          refine mv_iload_n dX12_isTown_46 rfl ?_
          refine mv_i2l dX12_isTown_47 ?_
          refine mv_ldc2 (v := lN 399) dX12_isTown_48 wd_1423 ?_
          refine mv_cS3 dX12_isTown_51 lk_X12_isTown_107 (Nat.le_of_ble_eq_true rfl) (Nat.le_of_ble_eq_true rfl) (k_X12_in (ev := ev)) ?_
          refine mv_if_eq (tgt := 61) dX12_isTown_54 (by decide) (fun c54 => ?_) (fun c54 => ?_)
          · have c54 : ¬ (a ≤ e ∧ e ≤ nI 399) := fun z => (mv_b_0 _).mp c54 ((and_congr (mv_l_le _ _) (mv_lR (by decide))).mpr z)
            refine mv_iconst (v := nI 0) dX12_isTown_61 (by decide) ?_
            exact mv_iret dX12_isTown_62 rfl rfl ⟨(congrArg (fun z => some (Value.int z)) (by first | exact (mv_b_t ⟨c4, c16, c28, c40, c54⟩).symm | exact (mv_b_f (fun z => c4 z.1)).symm | exact (mv_b_f (fun z => c16 z.2.1)).symm | exact (mv_b_f (fun z => c28 z.2.2.1)).symm | exact (mv_b_f (fun z => c40 z.2.2.2.1)).symm | exact (mv_b_f (fun z => c54 z.2.2.2.2)).symm)), rfl⟩
          · have c54 : (a ≤ e ∧ e ≤ nI 399) := (and_congr (mv_l_le _ _) (mv_lR (by decide))).mp (mv_b_ne c54)
            refine mv_iconst (v := nI 1) dX12_isTown_57 (by decide) ?_
            refine mv_goto (tgt := 62) dX12_isTown_58 (by decide) ?_
            exact mv_iret dX12_isTown_62 rfl rfl ⟨(congrArg (fun z => some (Value.int z)) (by first | exact (mv_b_t ⟨c4, c16, c28, c40, c54⟩).symm | exact (mv_b_f (fun z => c4 z.1)).symm | exact (mv_b_f (fun z => c16 z.2.1)).symm | exact (mv_b_f (fun z => c28 z.2.2.1)).symm | exact (mv_b_f (fun z => c40 z.2.2.2.1)).symm | exact (mv_b_f (fun z => c54 z.2.2.2.2)).symm)), rfl⟩
set_option maxRecDepth 100000 in
theorem k_X12_town_R1 {ev : mv_E} {h : mv_H} {p : Int32} {x : Int32} {lc : Int32} {sc : Int32} {li : Int32} {a : Int32} {e : Int32} {w : Int32}  (hno : ¬ ((nI 0 ≤ p ∧ p ≤ nI 63))) : mv_K ev mX12_town [.ref 52, .int p, .int x, .int lc, .int sc, .int li, .int a, .int e, .int w] h (some (.int (-1001))) h := by
  refine mv_Kof ?_
  show mv_g ev mX12_town 0 [.ref 52, .int p, .int x, .int lc, .int sc, .int li, .int a, .int e, .int w, .null] [] h _
  refine mv_iload_n dX12_town_0 rfl ?_
  refine mv_cS1 dX12_town_1 lk_X12_town_121 (Nat.le_of_ble_eq_true rfl) (Nat.le_of_ble_eq_true rfl) (k_X12_isPlace (ev := ev)) ?_
  refine mv_if_ne (tgt := 11) dX12_town_4 (by decide) (fun c4 => ?_) (fun c4 => ?_)
  · have c4 : nI 0 ≤ p ∧ p ≤ nI 63 := Classical.byContradiction (fun z => c4 ((mv_b_0 _).mpr z))
    exact absurd (by assumption) hno
  · have c4 : ¬ (nI 0 ≤ p ∧ p ≤ nI 63) := (mv_b_0 _).mp c4
    refine mv_sipush (v := (-1001)) dX12_town_7 (by decide) ?_
    exact mv_iret dX12_town_10 rfl rfl ⟨rfl, rfl⟩
set_option maxRecDepth 100000 in
theorem k_X12_town_R2 {ev : mv_E} {h : mv_H} {p : Nat} {x : Int32} {lc : Int32} {sc : Int32} {li : Int32} {a : Int32} {e : Int32} {w : Int32}  (hp : p < 64) (hno : ¬ ((nI 1 ≤ x ∧ x ≤ nI 9) ∧ (nI 1 ≤ lc ∧ lc ≤ nI 999) ∧ (nI 1 ≤ sc ∧ sc ≤ nI 9999) ∧ (nI 1 ≤ a ∧ a ≤ nI 399) ∧ (a ≤ e ∧ e ≤ nI 399) ∧ (nI 0 ≤ li ∧ li ≤ nI 1000001) ∧ (nI 0 ≤ w ∧ w ≤ nI 3))) : mv_K ev mX12_town [.ref 52, .int (nI p), .int x, .int lc, .int sc, .int li, .int a, .int e, .int w] h (some (.int (-1002))) h := by
  refine mv_Kof ?_
  show mv_g ev mX12_town 0 [.ref 52, .int (nI p), .int x, .int lc, .int sc, .int li, .int a, .int e, .int w, .null] [] h _
  refine mv_iload_n dX12_town_0 rfl ?_
  refine mv_cS1 dX12_town_1 lk_X12_town_121 (Nat.le_of_ble_eq_true rfl) (Nat.le_of_ble_eq_true rfl) (k_X12_isPlace (ev := ev)) ?_
  refine mv_if_ne (tgt := 11) dX12_town_4 (by decide) (fun c4 => ?_) (fun z => absurd z ((fun z => (mv_b_0 _).mp z (mv_in_i (by omega) (by omega) (by omega)))))
  refine mv_iload_n dX12_town_11 rfl ?_
  refine mv_iload_n dX12_town_12 rfl ?_
  refine mv_iload dX12_town_13 rfl ?_
  refine mv_iload dX12_town_15 rfl ?_
  refine mv_iload dX12_town_17 rfl ?_
  refine mv_cS5 dX12_town_19 lk_X12_town_331 (Nat.le_of_ble_eq_true rfl) (Nat.le_of_ble_eq_true rfl) (k_X12_isTown (ev := ev)) ?_
  refine mv_if_eq (tgt := 51) dX12_town_22 (by decide) (fun c22 => ?_) (fun c22 => ?_)
  · have c22 : ¬ ((nI 1 ≤ x ∧ x ≤ nI 9) ∧ (nI 1 ≤ lc ∧ lc ≤ nI 999) ∧ (nI 1 ≤ sc ∧ sc ≤ nI 9999) ∧ (nI 1 ≤ a ∧ a ≤ nI 399) ∧ (a ≤ e ∧ e ≤ nI 399)) := (mv_b_0 _).mp c22
    refine mv_sipush (v := (-1002)) dX12_town_51 (by decide) ?_
    exact mv_iret dX12_town_54 rfl rfl ⟨rfl, rfl⟩
  · have c22 : (nI 1 ≤ x ∧ x ≤ nI 9) ∧ (nI 1 ≤ lc ∧ lc ≤ nI 999) ∧ (nI 1 ≤ sc ∧ sc ≤ nI 9999) ∧ (nI 1 ≤ a ∧ a ≤ nI 399) ∧ (a ≤ e ∧ e ≤ nI 399) := Classical.byContradiction (fun z => c22 ((mv_b_0 _).mpr z))
    refine mv_iload dX12_town_25 rfl ?_
    refine mv_i2l dX12_town_27 ?_
    refine mv_lconst (v := lN 0) dX12_town_28 rfl ?_
    refine mv_ldc2 (v := lN 1000001) dX12_town_29 wd_1601 ?_
    refine mv_cS3 dX12_town_32 lk_X12_town_107 (Nat.le_of_ble_eq_true rfl) (Nat.le_of_ble_eq_true rfl) (k_X12_in (ev := ev)) ?_
    refine mv_if_eq (tgt := 51) dX12_town_35 (by decide) (fun c35 => ?_) (fun c35 => ?_)
    · have c35 : ¬ (nI 0 ≤ li ∧ li ≤ nI 1000001) := fun z => (mv_b_0 _).mp c35 ((and_congr (mv_lL (by decide)) (mv_lR (by decide))).mpr z)
      refine mv_sipush (v := (-1002)) dX12_town_51 (by decide) ?_
      exact mv_iret dX12_town_54 rfl rfl ⟨rfl, rfl⟩
    · have c35 : nI 0 ≤ li ∧ li ≤ nI 1000001 := (and_congr (mv_lL (by decide)) (mv_lR (by decide))).mp (mv_b_ne c35)
      refine mv_iload dX12_town_38 rfl ?_
      refine mv_i2l dX12_town_40 ?_
      refine mv_lconst (v := lN 0) dX12_town_41 rfl ?_
      refine mv_ldc2 (v := lN 3) dX12_town_42 wd_1602 ?_
      refine mv_cS3 dX12_town_45 lk_X12_town_107 (Nat.le_of_ble_eq_true rfl) (Nat.le_of_ble_eq_true rfl) (k_X12_in (ev := ev)) ?_
      refine mv_if_ne (tgt := 55) dX12_town_48 (by decide) (fun c48 => ?_) (fun c48 => ?_)
      · have c48 : nI 0 ≤ w ∧ w ≤ nI 3 := (and_congr (mv_lL (by decide)) (mv_lR (by decide))).mp (mv_b_ne c48)
        exact absurd ⟨c22.1, c22.2.1, c22.2.2.1, c22.2.2.2.1, c22.2.2.2.2, c35, c48⟩ hno
      · have c48 : ¬ (nI 0 ≤ w ∧ w ≤ nI 3) := fun z => (mv_b_0 _).mp c48 ((and_congr (mv_lL (by decide)) (mv_lR (by decide))).mpr z)
        refine mv_sipush (v := (-1002)) dX12_town_51 (by decide) ?_
        exact mv_iret dX12_town_54 rfl rfl ⟨rfl, rfl⟩
theorem q_hf_in {b : t_B} {p x a e : Nat} {sh : Nat → Nat} {d : Nat} (h1 : a ≤ d) (h2 : d ≤ e) : q_hf b p x a e sh b.1 d = q_tS b p x d := if_pos ⟨h1, by omega⟩
set_option maxRecDepth 100000 in
theorem k_X12_town_G {ev : mv_E} {h : mv_H} {xt : Int32} {xf : Int32} {xa : Int32} {xo : Int64} {xe : Int32} {xu : Int32} {xs : Int32} {xg : Int32} {xc : Int32} {xw : Int32} {b : t_B} {t : Nat} {lw : Nat → Int32} {ln : Nat → Nat} {od : Nat → Nat} {sh : Nat → Nat} {tw : Nat → Nat} {p : Nat} {x : Nat} {lc : Nat} {sc : Nat} {li : Nat} {a : Nat} {e : Nat} {w : Nat} {dd : Nat} (HX : h[52]? = some (.inr (12, [.ref 53, .ref 54, .int xt, .int xf, .int xa, .long xo, .int xe, .int xu, .ref 55, .int xs, .int (nI b.1), .ref 56, .ref 57, .ref 58, .int (nI t), .int (nI b.2.1), .ref 59, .ref 60, .ref 61, .ref 62, .int xg, .ref 63, .ref 64, .ref 65, .ref 66, .ref 67, .ref 68, .ref 69, .int xc, .ref 70, .ref 71, .ref 72, .ref 73, .ref 74, .ref 75, .int xw, .ref 76, .ref 77, .ref 78, .ref 79, .ref 80]))) (X56 : h[56]? = some (.inl (0, 60, .inl (fun j => nI (b.2.2.1 j))))) (X57 : h[57]? = some (.inl (0, 60, .inl (fun j => nI (b.2.2.2.1 j))))) (X58 : h[58]? = some (.inl (0, 60, .inl (fun j => nI (b.2.2.2.2 j))))) (X53 : h[53]? = some (.inl (0, 8, .inl lw))) (X71 : h[71]? = some (.inl (0, 400, .inl (fun j => nI (od j))))) (X72 : h[72]? = some (.inl (0, 400, .inl (fun j => nI (sh j))))) (X73 : h[73]? = some (.inl (0, 4, .inl (fun j => nI (tw j))))) (hw : q_LW lw ln) (hb : q_BI dd b) (hp : p < 64) (hz1 : 1 ≤ x) (hz9 : x ≤ 9) (hl1 : 1 ≤ lc) (hl : lc ≤ 999) (hs1 : 1 ≤ sc) (hsc : sc ≤ 9999) (ha : 1 ≤ a) (hae : a ≤ e) (he : e ≤ 399) (hli : li ≤ 1000001) (hw3 : w ≤ 3) : ∃ h2, mv_K ev mX12_town [.ref 52, .int (nI p), .int (nI x), .int (nI lc), .int (nI sc), .int (nI li), .int (nI a), .int (nI e), .int (nI w)] h (some (.int (nI (q_to (q_tw (q_fil (q_tO ln b p x) od a (e + 1)) (q_hf b p x a e sh b.1) li a (e + 1 - a)) (q_co (q_fil (q_tO ln b p x) od a (e + 1)) (q_hf b p x a e sh b.1) a e lc sc li) w)))) h2 ∧ mv_fra [71, 72, 73] h h2 ∧ h2[71]? = some (.inl (0, 400, .inl (fun j => nI ((q_fil (q_tO ln b p x) od a (e + 1)) j)))) ∧ h2[72]? = some (.inl (0, 400, .inl (fun j => nI ((q_hf b p x a e sh b.1) j)))) ∧ h2[73]? = some (.inl (0, 4, .inl (fun j => nI ((t_up (q_tf (q_tw (q_fil (q_tO ln b p x) od a (e + 1)) (q_hf b p x a e sh b.1) li a (e + 1 - a)) (q_z tw 4)) 3 (q_co (q_fil (q_tO ln b p x) od a (e + 1)) (q_hf b p x a e sh b.1) a e lc sc li)) j)))) := by
  suffices g0 : mv_g ev mX12_town 0 (mv_ent [.ref 52, .int (nI p), .int (nI x), .int (nI lc), .int (nI sc), .int (nI li), .int (nI a), .int (nI e), .int (nI w)] (mv_ml mX12_town)) [] h (fun r g => r = some (.int (nI (q_to (q_tw (q_fil (q_tO ln b p x) od a (e + 1)) (q_hf b p x a e sh b.1) li a (e + 1 - a)) (q_co (q_fil (q_tO ln b p x) od a (e + 1)) (q_hf b p x a e sh b.1) a e lc sc li) w))) ∧ mv_fra [71, 72, 73] h g ∧ g[71]? = some (.inl (0, 400, .inl (fun j => nI ((q_fil (q_tO ln b p x) od a (e + 1)) j)))) ∧ g[72]? = some (.inl (0, 400, .inl (fun j => nI ((q_hf b p x a e sh b.1) j)))) ∧ g[73]? = some (.inl (0, 4, .inl (fun j => nI ((t_up (q_tf (q_tw (q_fil (q_tO ln b p x) od a (e + 1)) (q_hf b p x a e sh b.1) li a (e + 1 - a)) (q_z tw 4)) 3 (q_co (q_fil (q_tO ln b p x) od a (e + 1)) (q_hf b p x a e sh b.1) a e lc sc li)) j))))) from (by obtain ⟨r0, h0, K0, q0, Q0⟩ := mv_Kex g0; subst q0; exact ⟨h0, K0, Q0⟩)
  show mv_g ev mX12_town 0 [.ref 52, .int (nI p), .int (nI x), .int (nI lc), .int (nI sc), .int (nI li), .int (nI a), .int (nI e), .int (nI w), .null] [] h _
  have fr : mv_fra [71, 72, 73] h h := mv_fra.rf
  have n0 := hb.1
  have ho2 : ∀ d, a ≤ d → d ≤ e → (q_fil (q_tO ln b p x) od a (e + 1)) d ≤ 1000000 := (fun d h1 h2 => by rw [q_fil_in ⟨h1, by omega⟩]; exact q_tO_le _ _ _ _ _)
  have hs2 : ∀ d, a ≤ d → d ≤ e → (q_hf b p x a e sh b.1) d ≤ 60 := (fun d h1 h2 => by rw [q_hf_in h1 h2]; exact Nat.le_trans (q_tS_le _ _ _ _) n0)
  refine mv_iload_n dX12_town_0 rfl ?_
  refine mv_cS1 dX12_town_1 lk_X12_town_121 (Nat.le_of_ble_eq_true rfl) (Nat.le_of_ble_eq_true rfl) (k_X12_isPlace (ev := ev)) ?_
  refine mv_if_ne (tgt := 11) dX12_town_4 (by decide) (fun c4 => ?_) (fun z => absurd z ((fun z => (mv_b_0 _).mp z (mv_in_i (by omega) (by omega) (by omega)))))
  refine mv_iload_n dX12_town_11 rfl ?_
  refine mv_iload_n dX12_town_12 rfl ?_
  refine mv_iload dX12_town_13 rfl ?_
  refine mv_iload dX12_town_15 rfl ?_
  refine mv_iload dX12_town_17 rfl ?_
  refine mv_cS5 dX12_town_19 lk_X12_town_331 (Nat.le_of_ble_eq_true rfl) (Nat.le_of_ble_eq_true rfl) (k_X12_isTown (ev := ev)) ?_
  refine mv_if_eq (tgt := 51) dX12_town_22 (by decide) (fun z => absurd z ((fun z => (mv_b_0 _).mp z ⟨mv_in_i hz1 hz9 (by decide), mv_in_i hl1 hl (by decide), mv_in_i hs1 hsc (by decide), mv_in_i ha (by omega) (by decide), (nI_leI (by omega) (by omega)).mpr hae, (nI_leI (by omega) (by decide)).mpr he⟩))) (fun c22 => ?_)
  refine mv_iload dX12_town_25 rfl ?_
  refine mv_i2l dX12_town_27 ?_
  refine mv_topL (y := lN li) (nI_l (by omega)) ?_
  refine mv_lconst (v := lN 0) dX12_town_28 rfl ?_
  refine mv_ldc2 (v := lN 1000001) dX12_town_29 wd_1601 ?_
  refine mv_cS3 dX12_town_32 lk_X12_town_107 (Nat.le_of_ble_eq_true rfl) (Nat.le_of_ble_eq_true rfl) (k_X12_in (ev := ev)) ?_
  refine mv_if_eq (tgt := 51) dX12_town_35 (by decide) (fun z => absurd z ((fun z => (mv_b_0 _).mp z ((and_congr (lN_leB (by omega) (by omega)) (lN_leB (by omega) (by omega))).mpr ⟨by omega, by omega⟩)))) (fun c35 => ?_)
  refine mv_iload dX12_town_38 rfl ?_
  refine mv_i2l dX12_town_40 ?_
  refine mv_topL (y := lN w) (nI_l (by omega)) ?_
  refine mv_lconst (v := lN 0) dX12_town_41 rfl ?_
  refine mv_ldc2 (v := lN 3) dX12_town_42 wd_1602 ?_
  refine mv_cS3 dX12_town_45 lk_X12_town_107 (Nat.le_of_ble_eq_true rfl) (Nat.le_of_ble_eq_true rfl) (k_X12_in (ev := ev)) ?_
  refine mv_if_ne (tgt := 55) dX12_town_48 (by decide) (fun c48 => ?_) (fun z => absurd z ((fun z => (mv_b_0 _).mp z ((and_congr (lN_leB (by omega) (by omega)) (lN_leB (by omega) (by omega))).mpr ⟨by omega, by omega⟩))))
  refine mv_aload_n dX12_town_55 rfl ?_
  refine mv_iload_n dX12_town_56 rfl ?_
  refine mv_iload_n dX12_town_57 rfl ?_
  refine mv_iload dX12_town_58 rfl ?_
  refine mv_iload dX12_town_60 rfl ?_
  obtain ⟨h1, K2, f3, y4, y5⟩ := (k_X12_findDays (ev := ev) (xt := xt) (xf := xf) (xa := xa) (xo := xo) (xe := xe) (xu := xu) (xs := xs) (xg := xg) (xc := xc) (xw := xw) (b := b) (t := t) (lw := lw) (ln := ln) (od := od) (sh := sh) (p := p) (x := x) (a := a) (e := e) (dd := dd) HX X56 X57 X58 X53 X71 X72 hw hb hp hz1 hz9 ha hae he)
  refine mv_cV4 (ci := 12) dX12_town_62 lk_X12_town_338 HX rfl (Nat.le_of_ble_eq_true rfl) (Nat.le_of_ble_eq_true rfl) K2 ?_
  have HX := f3.get (by decide) HX
  have X56 := f3.get (by decide) X56
  have X57 := f3.get (by decide) X57
  have X58 := f3.get (by decide) X58
  have X53 := f3.get (by decide) X53
  have X71 : h1[71]? = some (.inl (0, 400, .inl (fun j => nI (q_fil (q_tO ln b p x) od a (e + 1) j)))) := y4
  have X72 : h1[72]? = some (.inl (0, 400, .inl (fun j => nI (q_hf b p x a e sh b.1 j)))) := y5
  have X73 := f3.get (by decide) X73
  have fr := fr.trans f3 (by decide)
  refine mv_aload_n dX12_town_65 rfl ?_
  refine mv_iload_n dX12_town_66 rfl ?_
  refine mv_iload dX12_town_67 rfl ?_
  refine mv_iload dX12_town_69 rfl ?_
  refine mv_iload dX12_town_71 rfl ?_
  refine mv_iload dX12_town_73 rfl ?_
  obtain ⟨h6, K7, f8, y9⟩ := (k_X12_runTown (ev := ev) (xt := xt) (xf := xf) (xa := xa) (xo := xo) (xe := xe) (xu := xu) (xs := xs) (xg := xg) (xc := xc) (xw := xw) (b := b) (t := t) (od := q_fil (q_tO ln b p x) od a (e + 1)) (sh := q_hf b p x a e sh b.1) (tw := tw) (li := li) (lc := lc) (sc := sc) (a := a) (e := e) HX X71 X72 X73 ho2 hs2 hli hae he)
  refine mv_cV5 (ci := 12) dX12_town_75 lk_X12_town_342 HX rfl (Nat.le_of_ble_eq_true rfl) (Nat.le_of_ble_eq_true rfl) K7 ?_
  have HX := f8.get (by decide) HX
  have X56 := f8.get (by decide) X56
  have X57 := f8.get (by decide) X57
  have X58 := f8.get (by decide) X58
  have X53 := f8.get (by decide) X53
  have X71 := f8.get (by decide) X71
  have X72 := f8.get (by decide) X72
  have X73 : h6[73]? = some (.inl (0, 4, .inl (fun j => nI (t_up (q_tf (q_tw (q_fil (q_tO ln b p x) od a (e + 1)) (q_hf b p x a e sh b.1) li a (e + 1 - a)) (q_z tw 4)) 3 (q_co (q_fil (q_tO ln b p x) od a (e + 1)) (q_hf b p x a e sh b.1) a e lc sc li) j)))) := y9
  have fr := fr.trans f8 (by decide)
  refine mv_istore dX12_town_78 (by decide) ?_
  refine mv_iload dX12_town_80 rfl ?_
  refine mv_iconst (v := nI 3) dX12_town_82 (by decide) ?_
  refine mv_icmp_ne (tgt := 91) dX12_town_83 (by decide) (fun c83 => ?_) (fun c83 => ?_)
  · have c83 : ¬ (w = 3) := fun z => c83 ((nI_eq (by omega) (by omega)).mpr z)
    refine mv_aload_n dX12_town_91 rfl ?_
    refine mv_getf (ci := 12) (f := 32) dX12_town_92 HX rfl (by decide) wd_1231 rfl ?_
    refine mv_iload dX12_town_95 rfl ?_
    refine mv_iaN (j := w) (x := nI (t_up (q_tf (q_tw (q_fil (q_tO ln b p x) od a (e + 1)) (q_hf b p x a e sh b.1) li a (e + 1 - a)) (q_z tw 4)) 3 (q_co (q_fil (q_tO ln b p x) od a (e + 1)) (q_hf b p x a e sh b.1) a e lc sc li) w)) dX12_town_97 X73 rfl (by decide) (by omega) rfl ?_
    exact mv_iret dX12_town_98 rfl rfl ⟨(congrArg (fun z => some (Value.int z)) (congrArg nI (by unfold t_up q_tf q_to; have e : w = 0 ∨ w = 1 ∨ w = 2 := (by omega); rcases e with rfl | rfl | rfl <;> rfl))), fr, X71, X72, X73⟩
  · have c83 : w = 3 := (nI_eq (by omega) (by omega)).mp c83
    refine mv_iload dX12_town_86 rfl ?_
    refine mv_goto (tgt := 98) dX12_town_88 (by decide) ?_
    exact mv_iret dX12_town_98 rfl rfl ⟨(congrArg (fun z => some (Value.int z)) (congrArg nI (by unfold q_to; rw [if_neg (show ¬ w = 0 by omega), if_neg (show ¬ w = 1 by omega), if_neg (show ¬ w = 2 by omega)]))), fr, X71, X72, X73⟩
set_option maxRecDepth 100000 in
theorem k_X12_bestLine_R1 {ev : mv_E} {h : mv_H} {p : Int32} {x : Int32} {lc : Int32} {sc : Int32} {a : Int32} {e : Int32}  (hno : ¬ ((nI 0 ≤ p ∧ p ≤ nI 63))) : mv_K ev mX12_bestLine [.ref 52, .int p, .int x, .int lc, .int sc, .int a, .int e] h (some (.int (-1001))) h := by
  refine mv_Kof ?_
  show mv_g ev mX12_bestLine 0 [.ref 52, .int p, .int x, .int lc, .int sc, .int a, .int e, .null, .null, .null, .null, .null] [] h _
  refine mv_iload_n dX12_bestLine_0 rfl ?_
  refine mv_cS1 dX12_bestLine_1 lk_X12_bestLine_121 (Nat.le_of_ble_eq_true rfl) (Nat.le_of_ble_eq_true rfl) (k_X12_isPlace (ev := ev)) ?_
  refine mv_if_ne (tgt := 11) dX12_bestLine_4 (by decide) (fun c4 => ?_) (fun c4 => ?_)
  · have c4 : nI 0 ≤ p ∧ p ≤ nI 63 := Classical.byContradiction (fun z => c4 ((mv_b_0 _).mpr z))
    exact absurd (by assumption) hno
  · have c4 : ¬ (nI 0 ≤ p ∧ p ≤ nI 63) := (mv_b_0 _).mp c4
    refine mv_sipush (v := (-1001)) dX12_bestLine_7 (by decide) ?_
    exact mv_iret dX12_bestLine_10 rfl rfl ⟨rfl, rfl⟩
set_option maxRecDepth 100000 in
theorem k_X12_bestLine_R2 {ev : mv_E} {h : mv_H} {p : Nat} {x : Int32} {lc : Int32} {sc : Int32} {a : Int32} {e : Int32}  (hp : p < 64) (hno : ¬ ((nI 1 ≤ x ∧ x ≤ nI 9) ∧ (nI 1 ≤ lc ∧ lc ≤ nI 999) ∧ (nI 1 ≤ sc ∧ sc ≤ nI 9999) ∧ (nI 1 ≤ a ∧ a ≤ nI 399) ∧ (a ≤ e ∧ e ≤ nI 399))) : mv_K ev mX12_bestLine [.ref 52, .int (nI p), .int x, .int lc, .int sc, .int a, .int e] h (some (.int (-1002))) h := by
  refine mv_Kof ?_
  show mv_g ev mX12_bestLine 0 [.ref 52, .int (nI p), .int x, .int lc, .int sc, .int a, .int e, .null, .null, .null, .null, .null] [] h _
  refine mv_iload_n dX12_bestLine_0 rfl ?_
  refine mv_cS1 dX12_bestLine_1 lk_X12_bestLine_121 (Nat.le_of_ble_eq_true rfl) (Nat.le_of_ble_eq_true rfl) (k_X12_isPlace (ev := ev)) ?_
  refine mv_if_ne (tgt := 11) dX12_bestLine_4 (by decide) (fun c4 => ?_) (fun z => absurd z ((fun z => (mv_b_0 _).mp z (mv_in_i (by omega) (by omega) (by omega)))))
  refine mv_iload_n dX12_bestLine_11 rfl ?_
  refine mv_iload_n dX12_bestLine_12 rfl ?_
  refine mv_iload dX12_bestLine_13 rfl ?_
  refine mv_iload dX12_bestLine_15 rfl ?_
  refine mv_iload dX12_bestLine_17 rfl ?_
  refine mv_cS5 dX12_bestLine_19 lk_X12_bestLine_331 (Nat.le_of_ble_eq_true rfl) (Nat.le_of_ble_eq_true rfl) (k_X12_isTown (ev := ev)) ?_
  refine mv_if_ne (tgt := 29) dX12_bestLine_22 (by decide) (fun c22 => ?_) (fun c22 => ?_)
  · have c22 : (nI 1 ≤ x ∧ x ≤ nI 9) ∧ (nI 1 ≤ lc ∧ lc ≤ nI 999) ∧ (nI 1 ≤ sc ∧ sc ≤ nI 9999) ∧ (nI 1 ≤ a ∧ a ≤ nI 399) ∧ (a ≤ e ∧ e ≤ nI 399) := Classical.byContradiction (fun z => c22 ((mv_b_0 _).mpr z))
    exact absurd c22 hno
  · have c22 : ¬ ((nI 1 ≤ x ∧ x ≤ nI 9) ∧ (nI 1 ≤ lc ∧ lc ≤ nI 999) ∧ (nI 1 ≤ sc ∧ sc ≤ nI 9999) ∧ (nI 1 ≤ a ∧ a ≤ nI 399) ∧ (a ≤ e ∧ e ≤ nI 399)) := (mv_b_0 _).mp c22
    refine mv_sipush (v := (-1002)) dX12_bestLine_25 (by decide) ?_
    exact mv_iret dX12_bestLine_28 rfl rfl ⟨rfl, rfl⟩
def q_L (k : Nat) : Nat := if k = 51 then 1000001 else 1000 * k
/-- from the lowest line up -/
def q_bu (K : Nat → Nat) : Nat → Nat × Nat
  | 0 => (K 0, 0)
  | y + 1 => if K (q_L (y + 1)) < (q_bu K y).1 then (K (q_L (y + 1)), q_L (y + 1)) else q_bu K y
def q_fa (K : Nat → Nat) (lo hi : Nat) (r : Nat × Nat) : Prop := ∃ i, (lo ≤ i ∧ i ≤ hi) ∧ r = (K (q_L i), q_L i) ∧ (∀ m, lo ≤ m → m ≤ hi → K (q_L i) ≤ K (q_L m)) ∧ ∀ m, lo ≤ m → m < i → K (q_L i) < K (q_L m)
theorem q_bu_f (K : Nat → Nat) (n : Nat) : q_fa K 0 n (q_bu K n) := by
  induction n with
  | zero => exact ⟨0, ⟨Nat.le_refl _, Nat.le_refl _⟩, rfl, fun m _ h => by rw [show m = 0 by omega]; exact Nat.le_refl _, fun m _ h => absurd h (Nat.not_lt_zero _)⟩
  | succ n ih =>
    obtain ⟨i, ⟨h0, h1⟩, h2, h3, h4⟩ := ih
    have e : q_bu K (n + 1) = if K (q_L (n + 1)) < (q_bu K n).1 then (K (q_L (n + 1)), q_L (n + 1)) else q_bu K n := rfl
    rw [e]
    by_cases c : K (q_L (n + 1)) < (q_bu K n).1
    · rw [if_pos c]
      rw [h2] at c
      have c2 : K (q_L (n + 1)) < K (q_L i) := c
      refine ⟨n + 1, ⟨Nat.zero_le _, Nat.le_refl _⟩, rfl, fun m _ h => ?_, fun m _ h => ?_⟩
      · by_cases em : m = n + 1
        · rw [em]; exact Nat.le_refl _
        · exact Nat.le_trans (Nat.le_of_lt c2) (h3 m (Nat.zero_le _) (by omega))
      · exact Nat.lt_of_lt_of_le c2 (h3 m (Nat.zero_le _) (by omega))
    · rw [if_neg c]
      rw [h2] at c
      have c2 : ¬ K (q_L (n + 1)) < K (q_L i) := c
      refine ⟨i, ⟨Nat.zero_le _, by omega⟩, h2, fun m _ h => ?_, h4⟩
      by_cases em : m = n + 1
      · rw [em]; omega
      · exact h3 m (Nat.zero_le _) (by omega)
theorem q_bl_f (K : Nat → Nat) (y : Nat) : ∀ r, y ≤ 51 → q_fa K y 51 r → q_fa K 0 51 (q_bl K y r) := by
  induction y with
  | zero => intro r _ h; exact h
  | succ y ih =>
    intro r hy h
    obtain ⟨i, ⟨h0, h1⟩, h2, h3, h4⟩ := h
    have e : q_bl K (y + 1) r = q_bl K y (if K (1000 * y) ≤ r.1 then (K (1000 * y), 1000 * y) else r) := rfl
    have eL : q_L y = 1000 * y := if_neg (by omega)
    rw [e]
    refine ih _ (by omega) ?_
    by_cases c : K (1000 * y) ≤ r.1
    · rw [if_pos c]
      rw [h2] at c
      have c2 : K (q_L y) ≤ K (q_L i) := by rw [eL]; exact c
      refine ⟨y, ⟨Nat.le_refl _, by omega⟩, by rw [eL], fun m ha hb => ?_, fun m ha hb => absurd hb (by omega)⟩
      by_cases em : m = y
      · rw [em]; exact Nat.le_refl _
      · exact Nat.le_trans c2 (h3 m (by omega) hb)
    · rw [if_neg c]
      rw [h2] at c
      have c2 : ¬ K (q_L y) ≤ K (q_L i) := by rw [eL]; exact c
      refine ⟨i, ⟨by omega, h1⟩, h2, fun m ha hb => ?_, fun m ha hb => ?_⟩
      · by_cases em : m = y
        · rw [em]; omega
        · exact h3 m (by omega) hb
      · by_cases em : m = y
        · rw [em]; omega
        · exact h4 m (by omega) hb
theorem q_fa_1 {K : Nat → Nat} {n : Nat} {r r2 : Nat × Nat} (h : q_fa K 0 n r) (h' : q_fa K 0 n r2) : r = r2 := by
  obtain ⟨i, ⟨_, h1⟩, h2, h3, h4⟩ := h
  obtain ⟨i', ⟨_, h1'⟩, h2', h3', h4'⟩ := h'
  have e : i = i' := by
    by_cases c : i < i'
    · have q1 := h4' i (Nat.zero_le _) c
      have q2 := h3 i' (Nat.zero_le _) h1'
      omega
    · by_cases c2 : i' < i
      · have q1 := h4 i' (Nat.zero_le _) c2
        have q2 := h3' i (Nat.zero_le _) h1
        omega
      · omega
  rw [h2, h2', e]
/-- from above and from below the same line -/
theorem q_bl_bu (K : Nat → Nat) : q_bl K 51 (K 1000001, 1000001) = q_bu K 51 := by
  refine q_fa_1 (q_bl_f K 51 _ (Nat.le_refl _) ⟨51, ⟨Nat.le_refl _, Nat.le_refl _⟩, rfl, fun m h1 h2 => by rw [show m = 51 by omega]; exact Nat.le_refl _, fun m h1 h2 => absurd h2 (by omega)⟩) (q_bu_f K 51)
