theorem q_f1_le {fa f : Nat} (h : fa ≤ 3) (hf : f ≤ 3) : q_f1 fa f ≤ 3 := by
  unfold q_f1
  split
  · exact hf
  · exact h
theorem q_num_ok {n : Nat} {tx : Nat → Nat} {w : Nat} {u : q_U} (ha : u.1 ≤ n) (hf : u.2.1 ≤ 3) : (u.1 ≤ (q_num n tx w u).1 ∧ (q_num n tx w u).1 ≤ n) ∧ (q_num n tx w u).2.1 ≤ 3 := by
  have h1 := q_sk_in (tx := tx) (n - u.1) u.1 ha
  have h2 := q_fe_in (tx := tx) (n - q_sk n tx (n - u.1) u.1) _ h1.2
  unfold q_num q_nm2
  split
  · exact ⟨⟨Nat.le_trans h1.1 h2.1, h2.2⟩, q_f1_le hf (by decide)⟩
  · split
    · exact ⟨⟨Nat.le_trans h1.1 h2.1, h2.2⟩, hf⟩
    · exact ⟨⟨Nat.le_trans h1.1 h2.1, h2.2⟩, q_f1_le hf (by decide)⟩
theorem q_toS_ok {n : Nat} {tx : Nat → Nat} {u : q_U} (ha : u.1 ≤ n) (hf : u.2.1 ≤ 3) : (u.1 ≤ (q_toS n tx u).1 ∧ (q_toS n tx u).1 ≤ n) ∧ (q_toS n tx u).2.1 ≤ 3 := by
  have h1 := q_sk_in (tx := tx) (n - u.1) u.1 ha
  have h2 := q_ew_in (tx := tx) (n - q_sk n tx (n - u.1) u.1) _ h1.2
  unfold q_toS q_to2
  split
  · exact ⟨⟨Nat.le_trans h1.1 h2.1, h2.2⟩, hf⟩
  · exact ⟨h1, q_f1_le hf (by decide)⟩
theorem q_sem_ok {n : Nat} {tx : Nat → Nat} {u : q_U} (ha : u.1 ≤ n) (hf : u.2.1 ≤ 3) : (u.1 ≤ (q_sem n tx u).1 ∧ (q_sem n tx u).1 ≤ n) ∧ (q_sem n tx u).2.1 ≤ 3 := by
  have h1 := q_sk_in (tx := tx) (n - u.1) u.1 ha
  unfold q_sem q_se2
  split
  · rename_i c
    exact ⟨⟨Nat.le_succ_of_le h1.1, c.1⟩, hf⟩
  · exact ⟨h1, q_f1_le hf (by decide)⟩
theorem q_toS_d (n : Nat) (tx : Nat → Nat) (u : q_U) : (q_toS n tx u).2.2.2 = u.2.2.2 := by
  unfold q_toS q_to2
  split <;> rfl
theorem q_sem_d (n : Nat) (tx : Nat → Nat) (u : q_U) : (q_sem n tx u).2.2.2 = u.2.2.2 := by
  unfold q_sem q_se2
  split <;> rfl
/-- a clause's body -/
def q_bod (n : Nat) (tx : Nat → Nat) (c : Nat) (u : q_U) : q_U := if c = 5 then q_num n tx 6 (q_toS n tx (q_num n tx 5 u)) else q_num n tx (if c = 6 then 7 else c) u
theorem q_bod_ok {n : Nat} {tx : Nat → Nat} {c : Nat} {u : q_U} (ha : u.1 ≤ n) (hf : u.2.1 ≤ 3) : (u.1 ≤ (q_bod n tx c u).1 ∧ (q_bod n tx c u).1 ≤ n) ∧ (q_bod n tx c u).2.1 ≤ 3 := by
  unfold q_bod
  split
  · have h1 := q_num_ok (tx := tx) (w := 5) ha hf
    have h2 := q_toS_ok (tx := tx) h1.1.2 h1.2
    have h3 := q_num_ok (tx := tx) (w := 6) h2.1.2 h2.2
    exact ⟨⟨Nat.le_trans h1.1.1 (Nat.le_trans h2.1.1 h3.1.1), h3.1.2⟩, h3.2⟩
  · exact q_num_ok ha hf
/-- reading, how many clauses, which are told -/
abbrev q_V : Type := q_U × Nat × (Nat → Nat)
def q_cl2 (n : Nat) (tx : Nat → Nat) (u : q_U) (cl : Nat) (ti : Nat → Nat) (e : Nat) (c : Int32) : q_V := if c = -1 then (q_uf 1 u.1 u, cl, ti) else if ti (q_n c) = 0 then (q_sem n tx (q_bod n tx (q_n c) (e, u.2)), cl + 1, t_up ti (q_n c) 1) else (q_uf 3 u.1 u, cl, ti)
def q_cls (n : Nat) (tx : Nat → Nat) (u : q_U) (cl : Nat) (ti : Nat → Nat) : q_V := q_cl2 n tx u cl ti (q_ew n tx (n - u.1) u.1) (q_cn tx u.1 (q_ew n tx (n - u.1) u.1))
theorem q_cls_ok {n : Nat} {tx : Nat → Nat} {u : q_U} {cl : Nat} {ti : Nat → Nat} (ha : u.1 ≤ n) (hf : u.2.1 ≤ 3) (ht : ∀ i, ti i ≤ 1) : ((q_cls n tx u cl ti).1.1 ≤ n ∧ (q_cls n tx u cl ti).1.2.1 ≤ 3) ∧ (q_cls n tx u cl ti).2.1 ≤ cl + 1 ∧ ∀ i, (q_cls n tx u cl ti).2.2 i ≤ 1 := by
  have h2 := q_ew_in (tx := tx) (n - u.1) u.1 ha
  unfold q_cls q_cl2
  split
  · exact ⟨⟨ha, q_f1_le hf (by decide)⟩, Nat.le_succ _, ht⟩
  · split
    · have h3 := q_bod_ok (n := n) (tx := tx) (c := q_n (q_cn tx u.1 (q_ew n tx (n - u.1) u.1))) (u := (q_ew n tx (n - u.1) u.1, u.2)) h2.2 hf
      have h4 := q_sem_ok (tx := tx) h3.1.2 h3.2
      exact ⟨⟨h4.1.2, h4.2⟩, Nat.le_refl _, t_up_P (P := fun x => x ≤ 1) ht (Nat.le_refl _)⟩
    · exact ⟨⟨ha, q_f1_le hf (by decide)⟩, Nat.le_succ _, ht⟩
theorem q_cn_c (tx : Nat → Nat) (k e : Nat) : q_cn tx k e = -1 ∨ ∃ i, i ≤ 6 ∧ q_cn tx k e = nI i := by
  unfold q_cn
  split
  · exact Or.inr ⟨0, by decide, rfl⟩
  · split
    · exact Or.inr ⟨1, by decide, rfl⟩
    · split
      · exact Or.inr ⟨2, by decide, rfl⟩
      · split
        · exact Or.inr ⟨3, by decide, rfl⟩
        · split
          · exact Or.inr ⟨4, by decide, rfl⟩
          · split
            · exact Or.inr ⟨5, by decide, rfl⟩
            · split
              · exact Or.inr ⟨6, by decide, rfl⟩
              · exact Or.inl rfl
theorem q_cn_in (tx : Nat → Nat) (k e : Nat) : ¬ (nI 0 ≤ q_cn tx k e ∧ q_cn tx k e ≤ nI 6) → q_cn tx k e = -1 := by
  intro h
  rcases q_cn_c tx k e with c | ⟨i, h1, h2⟩
  · exact c
  · exact absurd (h2 ▸ mv_in_i (Nat.zero_le _) h1 (by decide)) h
def q_us (n : Nat) (tx : Nat → Nat) (v : q_V) : q_V := ((q_sk n tx (n - v.1.1) v.1.1, v.1.2), v.2)
/-- clause by clause, to the end or to a fault -/
def q_lp (n : Nat) (tx : Nat → Nat) : Nat → q_V → q_V
  | 0, v => v
  | f + 1, v => if v.1.1 < n ∧ v.1.2.1 = 0 then q_lp n tx f (q_us n tx (q_cls n tx v.1 v.2.1 v.2.2)) else v
theorem q_lp_y {n : Nat} {tx : Nat → Nat} {f : Nat} {v : q_V} (hf : 0 < f) (h : v.1.1 < n ∧ v.1.2.1 = 0) : q_lp n tx f v = q_lp n tx (f - 1) (q_us n tx (q_cls n tx v.1 v.2.1 v.2.2)) := by
  obtain ⟨g, rfl⟩ : ∃ g, f = g + 1 := ⟨f - 1, by omega⟩
  exact if_pos h
theorem q_lp_n {n : Nat} {tx : Nat → Nat} {f : Nat} {v : q_V} (h : f = 0 ∨ ¬ (v.1.1 < n ∧ v.1.2.1 = 0)) : q_lp n tx f v = v := by
  cases f with
  | zero => rfl
  | succ g => exact if_neg (h.resolve_left (by omega))
def q_v0 (n : Nat) (tx : Nat → Nat) (dr : Nat → Int32) (ti : Nat → Nat) : q_V := ((q_sk n tx n 0, 0, -1, q_cl (mv_at [20, 40, 100, 10, 1, -1, -1, 0]) dr), 0, q_z ti 7)
def q_pv (n : Nat) (tx : Nat → Nat) (dr : Nat → Int32) (ti : Nat → Nat) : q_V := q_lp n tx 160 (q_v0 n tx dr ti)
def q_pa (v : q_V) : Int32 := if v.1.2.1 = 0 then nI v.2.1 else -10 - nI v.1.2.1
def q_pl (v : q_V) (lw : Nat → Int32) : Nat → Int32 := if v.1.2.1 = 0 then q_cl v.1.2.2.2 lw else lw
/-- a long's byte -/
def q_byt (b : Int64) (i : Nat) : Nat := (b.toBitVec.extractLsb' (8 * i) 8).toNat
theorem q_byt_lt (b : Int64) (i : Nat) : q_byt b i < 256 := (b.toBitVec.extractLsb' (8 * i) 8).isLt
theorem q_byt_b (b : Int64) (i : Nat) (x : BitVec 32) (h : ∀ j, j < 32 → x.getLsbD j = (decide (j < 8) && b.toBitVec.getLsbD (8 * i + j))) : Int32.ofBitVec x = nI (q_byt b i) := by
  apply Int32.toBitVec_inj.mp
  show x = BitVec.ofNat 32 (b.toBitVec.extractLsb' (8 * i) 8).toNat
  apply BitVec.eq_of_getLsbD_eq
  intro j hj
  rw [h j hj, BitVec.getLsbD_ofNat]
  have e : (b.toBitVec.extractLsb' (8 * i) 8).toNat.testBit j = (b.toBitVec.extractLsb' (8 * i) 8).getLsbD j := rfl
  rw [e, BitVec.getLsbD_extractLsb']
  simp [hj]
theorem q_b255 : ∀ j, j < 32 → (255#32).getLsbD j = decide (j < 8) := by decide
theorem q_s63 : ∀ i, i < 8 → ((nI (8 * i)).toInt64.toUInt64 &&& Int64.toUInt64 63).toBitVec % 64 = BitVec.ofNat 64 (8 * i) := by decide
theorem q_byt_u (b : Int64) {i : Nat} (hi : i < 8) : (b.toUInt64 >>> ((nI (8 * i)).toInt64.toUInt64 &&& Int64.toUInt64 63)).toInt64.toInt32 &&& nI 255 = nI (q_byt b i) := by
  have h0 : ((b.toUInt64 >>> ((nI (8 * i)).toInt64.toUInt64 &&& Int64.toUInt64 63)).toInt64.toInt32 &&& nI 255) = Int32.ofBitVec (((b.toUInt64 >>> ((nI (8 * i)).toInt64.toUInt64 &&& Int64.toUInt64 63)).toInt64.toInt32 &&& nI 255).toBitVec) := rfl
  rw [h0]
  apply q_byt_b
  intro j hj
  rw [Int32.toBitVec_and, BitVec.getLsbD_and, show (nI 255).toBitVec = 255#32 from rfl, q_b255 j hj, Int64.toBitVec_toInt32]
  show (((b.toUInt64 >>> ((nI (8 * i)).toInt64.toUInt64 &&& Int64.toUInt64 63)).toBitVec.signExtend 32).getLsbD j && decide (j < 8)) = _
  rw [UInt64.toBitVec_shiftRight, q_s63 i hi]
  have e2 : (BitVec.ofNat 64 (8 * i)).toNat = 8 * i := by rw [BitVec.toNat_ofNat]; omega
  rw [BitVec.getLsbD_signExtend]
  by_cases c : j < 8
  · simp [c, hj, e2, BitVec.ushiftRight_eq', show j < 64 by omega]
  · simp [c]
def q_ap (b : Int64) : Nat → Nat → (Nat → Nat) → (Nat → Nat)
  | 0, _, tx => tx
  | y + 1, n, tx => q_ap b y (n + 1) (t_up tx n (q_byt b y))
theorem q_ap_s {b : Int64} {y n : Nat} {tx : Nat → Nat} (h : 1 ≤ y) : q_ap b y n tx = q_ap b (y - 1) (n + 1) (t_up tx n (q_byt b (y - 1))) := by
  obtain ⟨g, rfl⟩ : ∃ g, y = g + 1 := ⟨y - 1, by omega⟩
  rfl
set_option maxRecDepth 100000 in
theorem l_X6_begin {ev : mv_E} {h : mv_H} {n : Nat} {tx : Nat → Nat} {dr : Nat → Int32} {ti : Nat → Nat} {a0 : Nat} {cl : Nat} {fa : Nat} {fp : Int32}   : ∀ (fu : Nat) (y : Nat), ∀ (g : mv_H), 7 < y + fu → mv_fra [3, 5, 6] h g → g[3]? = some (.inr (6, [.ref 4, .ref 5, .ref 6, .int (nI n), .int (nI a0), .int (nI cl), .int (nI fa), .int fp])) → g[5]? = some (.inl (0, 8, .inl (q_cl (mv_at [20, 40, 100, 10, 1, -1, -1, 0]) dr))) → g[6]? = some (.inl (2, 7, .inl (fun j => nI (q_z ti y j)))) → g[4]? = some (.inl (0, 160, .inl (fun j => nI (tx j)))) → (y ≤ 7) → mv_g ev mX6_begin 26 [.ref 3, .int (nI y)] [] g (fun r g => r = none ∧ mv_fra [3, 5, 6] h g ∧ g[3]? = some (.inr (6, [.ref 4, .ref 5, .ref 6, .int (nI n), .int (nI 0), .int (nI 0), .int (nI 0), .int (-1)])) ∧ g[5]? = some (.inl (0, 8, .inl (q_cl (mv_at [20, 40, 100, 10, 1, -1, -1, 0]) dr))) ∧ g[6]? = some (.inl (2, 7, .inl (fun j => nI (q_z ti 7 j))))) := by
  intro fu
  induction fu with
  | zero => intro y g hm fr H3 H5 H6 H4 hy; exact absurd hm (by omega)
  | succ fu ih =>
    intro y g hm fr H3 H5 H6 H4 hy
    refine mv_iload_n dX6_begin_26 rfl ?_
    refine mv_aload_n dX6_begin_27 rfl ?_
    refine mv_getf (ci := 6) (f := 2) dX6_begin_28 H3 rfl (by decide) wd_118 rfl ?_
    refine mv_alen dX6_begin_31 H6 (by decide) ?_
    refine mv_icmp_ge (tgt := 48) dX6_begin_32 (by decide) (fun c32 => ?_) (fun c32 => ?_)
    · have c32 : 7 ≤ y := (nI_leI (by omega) (by omega)).mp c32
      have ey : y = 7 := (by omega)
      subst ey
      refine mv_aload_n dX6_begin_48 rfl ?_
      refine mv_iconst (v := nI 0) dX6_begin_49 (by decide) ?_
      refine mv_putf (ci := 6) (f := 4) dX6_begin_50 H3 rfl (by decide) wd_120 rfl rfl (fun _ => ⟨rfl, rfl⟩) (Nat.le_of_ble_eq_true rfl) ?_
      refine mv_topH (fun h1 e2 => ?_)
      have H3 : h1[3]? = some (.inr (6, [.ref 4, .ref 5, .ref 6, .int (nI n), .int (nI 0), .int (nI cl), .int (nI fa), .int fp])) := mv_eq e2 H3
      have H4 := mv_ne e2 (by decide) H4
      have H5 := mv_ne e2 (by decide) H5
      have H6 := mv_ne e2 (by decide) H6
      have fr := fr.set e2 (by decide)
      clear e2
      refine mv_aload_n dX6_begin_53 rfl ?_
      refine mv_iconst (v := nI 0) dX6_begin_54 (by decide) ?_
      refine mv_putf (ci := 6) (f := 5) dX6_begin_55 H3 rfl (by decide) wd_121 rfl rfl (fun _ => ⟨rfl, rfl⟩) (Nat.le_of_ble_eq_true rfl) ?_
      refine mv_topH (fun h3 e4 => ?_)
      have H3 : h3[3]? = some (.inr (6, [.ref 4, .ref 5, .ref 6, .int (nI n), .int (nI 0), .int (nI 0), .int (nI fa), .int fp])) := mv_eq e4 H3
      have H4 := mv_ne e4 (by decide) H4
      have H5 := mv_ne e4 (by decide) H5
      have H6 := mv_ne e4 (by decide) H6
      have fr := fr.set e4 (by decide)
      clear e4
      refine mv_aload_n dX6_begin_58 rfl ?_
      refine mv_iconst (v := nI 0) dX6_begin_59 (by decide) ?_
      refine mv_putf (ci := 6) (f := 6) dX6_begin_60 H3 rfl (by decide) wd_122 rfl rfl (fun _ => ⟨rfl, rfl⟩) (Nat.le_of_ble_eq_true rfl) ?_
      refine mv_topH (fun h5 e6 => ?_)
      have H3 : h5[3]? = some (.inr (6, [.ref 4, .ref 5, .ref 6, .int (nI n), .int (nI 0), .int (nI 0), .int (nI 0), .int fp])) := mv_eq e6 H3
      have H4 := mv_ne e6 (by decide) H4
      have H5 := mv_ne e6 (by decide) H5
      have H6 := mv_ne e6 (by decide) H6
      have fr := fr.set e6 (by decide)
      clear e6
      refine mv_aload_n dX6_begin_63 rfl ?_
      refine mv_iconst (v := (-1)) dX6_begin_64 (by decide) ?_
      refine mv_putf (ci := 6) (f := 7) dX6_begin_65 H3 rfl (by decide) wd_123 rfl rfl (fun _ => ⟨rfl, rfl⟩) (Nat.le_of_ble_eq_true rfl) ?_
      refine mv_topH (fun h7 e8 => ?_)
      have H3 : h7[3]? = some (.inr (6, [.ref 4, .ref 5, .ref 6, .int (nI n), .int (nI 0), .int (nI 0), .int (nI 0), .int (-1)])) := mv_eq e8 H3
      have H4 := mv_ne e8 (by decide) H4
      have H5 := mv_ne e8 (by decide) H5
      have H6 := mv_ne e8 (by decide) H6
      have fr := fr.set e8 (by decide)
      clear e8
      exact mv_vret dX6_begin_68 rfl ⟨rfl, fr, H3, H5, H6⟩
    · have c32 : ¬ (7 ≤ y) := fun z => c32 ((nI_leI (by omega) (by omega)).mpr z)
      refine mv_aload_n dX6_begin_35 rfl ?_
      refine mv_getf (ci := 6) (f := 2) dX6_begin_36 H3 rfl (by decide) wd_118 rfl ?_
      refine mv_iload_n dX6_begin_39 rfl ?_
      refine mv_iconst (v := nI 0) dX6_begin_40 (by decide) ?_
      refine mv_zastN (j := y) dX6_begin_41 H6 rfl (by decide) (by omega) rfl (fun h9 e10 => ?_)
      rw [upd_nI] at e10
      have H3 := mv_ne e10 (by decide) H3
      have H4 := mv_ne e10 (by decide) H4
      have H5 := mv_ne e10 (by decide) H5
      have H6 : h9[6]? = some (.inl (2, 7, .inl (fun j => nI (t_up (q_z ti y) y 0 j)))) := mv_eq e10 H6
      have fr := fr.set e10 (by decide)
      clear e10
      rw [q_z_s] at H6
      refine mv_iinc (v := nI (y + 1)) dX6_begin_42 rfl (mv_inc y 1) (by decide) ?_
      refine mv_goto (tgt := 26) dX6_begin_45 (by decide) ?_
      exact ih (y + 1) h9 (by omega) fr H3 H5 H6 H4 (by omega)
set_option maxRecDepth 100000 in
theorem k_X6_begin {ev : mv_E} {h : mv_H} {n : Nat} {tx : Nat → Nat} {dr : Nat → Int32} {ti : Nat → Nat} {a0 : Nat} {cl : Nat} {fa : Nat} {fp : Int32} (H3 : h[3]? = some (.inr (6, [.ref 4, .ref 5, .ref 6, .int (nI n), .int (nI a0), .int (nI cl), .int (nI fa), .int fp]))) (H4 : h[4]? = some (.inl (0, 160, .inl (fun j => nI (tx j))))) (H5 : h[5]? = some (.inl (0, 8, .inl dr))) (H6 : h[6]? = some (.inl (2, 7, .inl (fun j => nI (ti j)))))  : ∃ h2, mv_K ev mX6_begin [.ref 3] h (none) h2 ∧ mv_fra [3, 5, 6] h h2 ∧ h2[3]? = some (.inr (6, [.ref 4, .ref 5, .ref 6, .int (nI n), .int (nI 0), .int (nI 0), .int (nI 0), .int (-1)])) ∧ h2[5]? = some (.inl (0, 8, .inl (q_cl (mv_at [20, 40, 100, 10, 1, -1, -1, 0]) dr))) ∧ h2[6]? = some (.inl (2, 7, .inl (fun j => nI (q_z ti 7 j)))) := by
  suffices g0 : mv_g ev mX6_begin 0 (mv_ent [.ref 3] (mv_ml mX6_begin)) [] h (fun r g => r = none ∧ mv_fra [3, 5, 6] h g ∧ g[3]? = some (.inr (6, [.ref 4, .ref 5, .ref 6, .int (nI n), .int (nI 0), .int (nI 0), .int (nI 0), .int (-1)])) ∧ g[5]? = some (.inl (0, 8, .inl (q_cl (mv_at [20, 40, 100, 10, 1, -1, -1, 0]) dr))) ∧ g[6]? = some (.inl (2, 7, .inl (fun j => nI (q_z ti 7 j))))) from (by obtain ⟨r0, h0, K0, q0, Q0⟩ := mv_Kex g0; subst q0; exact ⟨h0, K0, Q0⟩)
  show mv_g ev mX6_begin 0 [.ref 3, .null] [] h _
  have fr : mv_fra [3, 5, 6] h h := mv_fra.rf
  refine mv_getsN (v := .ref 1000001) dX6_begin_0 (List.mem_of_getElem? (i := 0) rfl) mv_nest_437 ?_
  refine mv_iconst (v := nI 0) dX6_begin_3 (by decide) ?_
  refine mv_aload_n dX6_begin_4 rfl ?_
  refine mv_getf (ci := 6) (f := 1) dX6_begin_5 H3 rfl (by decide) wd_117 rfl ?_
  refine mv_iconst (v := nI 0) dX6_begin_8 (by decide) ?_
  refine mv_getsN (v := .ref 1000001) dX6_begin_9 (List.mem_of_getElem? (i := 0) rfl) mv_nest_437 ?_
  refine mv_rlen (a := 1000001) dX6_begin_12 (List.mem_of_getElem? (i := 1) rfl) ?_
  refine mv_aload_n dX6_begin_13 rfl ?_
  refine mv_getf (ci := 6) (f := 1) dX6_begin_14 H3 rfl (by decide) wd_117 rfl ?_
  refine mv_alen dX6_begin_17 H5 (by decide) ?_
  refine mv_mmin dX6_begin_18 wd_438 (by decide) (Nat.le_of_ble_eq_true rfl) ?_
  refine mv_topI (y := nI 8) (by split <;> rfl) ?_
  refine mv_acopyR dX6_begin_21 (List.mem_of_getElem? (i := 1) rfl) H5 wd_441 (by decide) (Nat.le_of_ble_eq_true rfl) (by decide) (by decide) (by decide) (by decide) (by decide) ?_
  refine mv_topH (fun h1 e2 => ?_)
  have e2c : va_cpy (mv_at [20, 40, 100, 10, 1, -1, -1, 0]) dr (nI 0).toNatClampNeg (nI 0).toNatClampNeg (nI 8).toNatClampNeg = (q_cl (mv_at [20, 40, 100, 10, 1, -1, -1, 0]) dr) := (q_cly _ _)
  rw [e2c] at e2
  have H3 := mv_ne e2 (by decide) H3
  have H4 := mv_ne e2 (by decide) H4
  have H5 : h1[5]? = some (.inl (0, 8, .inl (q_cl (mv_at [20, 40, 100, 10, 1, -1, -1, 0]) dr))) := mv_eq e2 H5
  have H6 := mv_ne e2 (by decide) H6
  have fr := fr.set e2 (by decide)
  clear e2
  rw [← q_z_0 ti] at H6
  refine mv_iconst (v := nI 0) dX6_begin_24 (by decide) ?_
  refine mv_istore_n dX6_begin_25 (by decide) ?_
  exact l_X6_begin (7 + 1) 0 h1 (by omega) fr H3 H5 H6 H4 (Nat.zero_le _)
set_option maxRecDepth 100000 in
theorem k_X6_readClause {ev : mv_E} {h : mv_H} {n : Nat} {tx : Nat → Nat} {u : q_U} {cl : Nat} {ti : Nat → Nat} (H3 : h[3]? = some (.inr (6, [.ref 4, .ref 5, .ref 6, .int (nI n), .int (nI u.1), .int (nI cl), .int (nI u.2.1), .int u.2.2.1]))) (H4 : h[4]? = some (.inl (0, 160, .inl (fun j => nI (tx j))))) (H5 : h[5]? = some (.inl (0, 8, .inl u.2.2.2))) (H6 : h[6]? = some (.inl (2, 7, .inl (fun j => nI (ti j))))) (hn : n ≤ 160) (htx : ∀ i, tx i < 256) (ha : u.1 ≤ n) (hfa : u.2.1 ≤ 3) (hcl : cl < 1000) (hti : ∀ i, ti i ≤ 1) (hE : q_E ev) : ∃ h2, mv_K ev mX6_readClause [.ref 3] h (none) h2 ∧ mv_fra [3, 5, 6] h h2 ∧ h2[3]? = some (.inr (6, [.ref 4, .ref 5, .ref 6, .int (nI n), .int (nI (q_cls n tx u cl ti).1.1), .int (nI (q_cls n tx u cl ti).2.1), .int (nI (q_cls n tx u cl ti).1.2.1), .int (q_cls n tx u cl ti).1.2.2.1])) ∧ h2[5]? = some (.inl (0, 8, .inl (q_cls n tx u cl ti).1.2.2.2)) ∧ h2[6]? = some (.inl (2, 7, .inl (fun j => nI ((q_cls n tx u cl ti).2.2 j)))) := by
  suffices g0 : mv_g ev mX6_readClause 0 (mv_ent [.ref 3] (mv_ml mX6_readClause)) [] h (fun r g => r = none ∧ mv_fra [3, 5, 6] h g ∧ g[3]? = some (.inr (6, [.ref 4, .ref 5, .ref 6, .int (nI n), .int (nI (q_cls n tx u cl ti).1.1), .int (nI (q_cls n tx u cl ti).2.1), .int (nI (q_cls n tx u cl ti).1.2.1), .int (q_cls n tx u cl ti).1.2.2.1])) ∧ g[5]? = some (.inl (0, 8, .inl (q_cls n tx u cl ti).1.2.2.2)) ∧ g[6]? = some (.inl (2, 7, .inl (fun j => nI ((q_cls n tx u cl ti).2.2 j))))) from (by obtain ⟨r0, h0, K0, q0, Q0⟩ := mv_Kex g0; subst q0; exact ⟨h0, K0, Q0⟩)
  show mv_g ev mX6_readClause 0 [.ref 3, .null, .null] [] h _
  have fr : mv_fra [3, 5, 6] h h := mv_fra.rf
  have m1 := q_ew_in (n := n) (tx := tx) (n - u.1) u.1 ha
  refine mv_aload_n dX6_readClause_0 rfl ?_
  refine mv_getf (ci := 6) (f := 4) dX6_readClause_1 H3 rfl (by decide) wd_120 rfl ?_
  refine mv_istore_n dX6_readClause_4 (by decide) ?_
  refine mv_aload_n dX6_readClause_5 rfl ?_
  refine mv_iload_n dX6_readClause_6 rfl ?_
  refine mv_aload_n dX6_readClause_7 rfl ?_
  refine mv_iload_n dX6_readClause_8 rfl ?_
  refine mv_cV1 (ci := 6) dX6_readClause_9 lk_X6_readClause_68 H3 rfl (Nat.le_of_ble_eq_true rfl) (Nat.le_of_ble_eq_true rfl) (k_X6_endOfWord (ev := ev) H3 H4 hn htx ha) ?_
  refine mv_cV2 (ci := 6) dX6_readClause_12 lk_X6_readClause_72 H3 rfl (Nat.le_of_ble_eq_true rfl) (Nat.le_of_ble_eq_true rfl) (k_X6_clauseNamed (ev := ev) H3 H4 hn htx hE m1.1 m1.2) ?_
  refine mv_istore_n dX6_readClause_15 (by decide) ?_
  refine mv_iload_n dX6_readClause_16 rfl ?_
  refine mv_iconst (v := nI 0) dX6_readClause_17 (by decide) ?_
  refine mv_aload_n dX6_readClause_18 rfl ?_
  refine mv_getf (ci := 6) (f := 2) dX6_readClause_19 H3 rfl (by decide) wd_118 rfl ?_
  refine mv_alen dX6_readClause_22 H6 (by decide) ?_
  refine mv_iconst (v := nI 1) dX6_readClause_23 (by decide) ?_
  refine mv_isub dX6_readClause_24 ?_
  refine mv_topI (y := nI 6) (pk_sub (a := 7) (b := 1) (by decide)) ?_
  refine mv_cSN3 dX6_readClause_25 lk_X6_readClause_75 (Nat.le_of_ble_eq_true rfl) (Nat.le_of_ble_eq_true rfl) (k_X11_within (ev := ev)) ?_
  refine mv_if_ne (tgt := 38) dX6_readClause_28 (by decide) (fun c28 => ?_) (fun c28 => ?_)
  · have c28 : (nI 0) ≤ (q_cn tx u.1 (q_ew n tx (n - u.1) u.1)) ∧ (q_cn tx u.1 (q_ew n tx (n - u.1) u.1)) ≤ (nI 6) := Classical.byContradiction (fun z => c28 ((mv_b_0 _).mpr z))
    obtain ⟨c, c1, c2, ec⟩ := mv_in_n (by decide) c28 (by decide)
    have hc1 : q_cn tx u.1 (q_ew n tx (n - u.1) u.1) ≠ -1 := (by rw [ec]; exact nI_m1 (by omega))
    rw [ec]
    have ht := hti c
    refine mv_aload_n dX6_readClause_38 rfl ?_
    refine mv_getf (ci := 6) (f := 2) dX6_readClause_39 H3 rfl (by decide) wd_118 rfl ?_
    refine mv_iload_n dX6_readClause_42 rfl ?_
    refine mv_zaN (j := c) (x := nI (ti c)) dX6_readClause_43 H6 rfl (by decide) (by omega) rfl ?_
    refine mv_if_eq (tgt := 54) dX6_readClause_44 (by decide) (fun c44 => ?_) (fun c44 => ?_)
    · have c44 : ti c = 0 := (nI_eq (b := 0) (by omega) (by omega)).mp c44
      refine mv_aload_n dX6_readClause_54 rfl ?_
      refine mv_getf (ci := 6) (f := 2) dX6_readClause_55 H3 rfl (by decide) wd_118 rfl ?_
      refine mv_iload_n dX6_readClause_58 rfl ?_
      refine mv_iconst (v := nI 1) dX6_readClause_59 (by decide) ?_
      refine mv_zastN (j := c) dX6_readClause_60 H6 rfl (by decide) (by omega) rfl (fun h1 e2 => ?_)
      rw [upd_nI] at e2
      have H3 := mv_ne e2 (by decide) H3
      have H4 := mv_ne e2 (by decide) H4
      have H5 := mv_ne e2 (by decide) H5
      have H6 : h1[6]? = some (.inl (2, 7, .inl (fun j => nI (t_up ti c 1 j)))) := mv_eq e2 H6
      have fr := fr.set e2 (by decide)
      clear e2
      refine mv_aload_n dX6_readClause_61 rfl ?_
      refine mv_dup dX6_readClause_62 rfl ?_
      refine mv_getf (ci := 6) (f := 5) dX6_readClause_63 H3 rfl (by decide) wd_121 rfl ?_
      refine mv_iconst (v := nI 1) dX6_readClause_66 (by decide) ?_
      refine mv_iadd dX6_readClause_67 ?_
      refine mv_topI (y := nI (cl + 1)) (nI_add _ _) ?_
      refine mv_putf (ci := 6) (f := 5) dX6_readClause_68 H3 rfl (by decide) wd_121 rfl rfl (fun _ => ⟨rfl, rfl⟩) (Nat.le_of_ble_eq_true rfl) ?_
      refine mv_topH (fun h3 e4 => ?_)
      have H3 : h3[3]? = some (.inr (6, [.ref 4, .ref 5, .ref 6, .int (nI n), .int (nI u.1), .int (nI (cl + 1)), .int (nI u.2.1), .int u.2.2.1])) := mv_eq e4 H3
      have H4 := mv_ne e4 (by decide) H4
      have H5 := mv_ne e4 (by decide) H5
      have H6 := mv_ne e4 (by decide) H6
      have fr := fr.set e4 (by decide)
      clear e4
      refine mv_aload_n dX6_readClause_71 rfl ?_
      refine mv_aload_n dX6_readClause_72 rfl ?_
      refine mv_iload_n dX6_readClause_73 rfl ?_
      refine mv_cV1 (ci := 6) dX6_readClause_74 lk_X6_readClause_68 H3 rfl (Nat.le_of_ble_eq_true rfl) (Nat.le_of_ble_eq_true rfl) (k_X6_endOfWord (ev := ev) H3 H4 hn htx ha) ?_
      refine mv_putf (ci := 6) (f := 4) dX6_readClause_77 H3 rfl (by decide) wd_120 rfl rfl (fun _ => ⟨rfl, rfl⟩) (Nat.le_of_ble_eq_true rfl) ?_
      refine mv_topH (fun h5 e6 => ?_)
      have H3 : h5[3]? = some (.inr (6, [.ref 4, .ref 5, .ref 6, .int (nI n), .int (nI (q_ew n tx (n - u.1) u.1)), .int (nI (cl + 1)), .int (nI u.2.1), .int u.2.2.1])) := mv_eq e6 H3
      have H4 := mv_ne e6 (by decide) H4
      have H5 := mv_ne e6 (by decide) H5
      have H6 := mv_ne e6 (by decide) H6
      have fr := fr.set e6 (by decide)
      clear e6
      refine mv_iload_n dX6_readClause_80 rfl ?_
      refine mv_iconst (v := nI 5) dX6_readClause_81 (by decide) ?_
      refine mv_icmp_ne (tgt := 103) dX6_readClause_82 (by decide) (fun c82 => ?_) (fun c82 => ?_)
      · have c82 : ¬ (c = 5) := fun z => c82 ((nI_eq (by omega) (by omega)).mpr z)
        refine mv_aload_n dX6_readClause_103 rfl ?_
        refine mv_iload_n dX6_readClause_104 rfl ?_
        refine mv_bipush (v := nI 6) dX6_readClause_105 (by decide) ?_
        refine mv_icmp_ne (tgt := 115) dX6_readClause_107 (by decide) (fun c107 => ?_) (fun c107 => ?_)
        · have c107 : ¬ (c = 6) := fun z => c107 ((nI_eq (by omega) (by omega)).mpr z)
          refine mv_iload_n dX6_readClause_115 rfl ?_
          obtain ⟨h7, K8, f9, y10, y11⟩ := (k_X6_readNumber (ev := ev) (n := n) (tx := tx) (u := ((q_ew n tx (n - u.1) u.1), u.2)) (cl := cl + 1) (ti := (t_up ti c 1)) (w := c) H3 H4 H5 H6 hn htx m1.2 hfa (by omega))
          refine mv_cV1 (ci := 6) dX6_readClause_116 lk_X6_readClause_83 H3 rfl (Nat.le_of_ble_eq_true rfl) (Nat.le_of_ble_eq_true rfl) K8 ?_
          have H3 : h7[3]? = some (.inr (6, [.ref 4, .ref 5, .ref 6, .int (nI n), .int (nI (q_num n tx c ((q_ew n tx (n - u.1) u.1), u.2)).1), .int (nI (cl + 1)), .int (nI (q_num n tx c ((q_ew n tx (n - u.1) u.1), u.2)).2.1), .int (q_num n tx c ((q_ew n tx (n - u.1) u.1), u.2)).2.2.1])) := y10
          have H4 := f9.get (by decide) H4
          have H5 : h7[5]? = some (.inl (0, 8, .inl (q_num n tx c ((q_ew n tx (n - u.1) u.1), u.2)).2.2.2)) := y11
          have H6 := f9.get (by decide) H6
          have fr := fr.trans f9 (by decide)
          refine mv_aload_n dX6_readClause_119 rfl ?_
          have mc := q_num_ok (n := n) (tx := tx) (w := c) (u := ((q_ew n tx (n - u.1) u.1), u.2)) m1.2 hfa
          obtain ⟨h12, K13, f14, y15⟩ := (k_X6_readSemicolon (ev := ev) (n := n) (tx := tx) (u := (q_num n tx c ((q_ew n tx (n - u.1) u.1), u.2))) (cl := cl + 1) (ti := (t_up ti c 1)) H3 H4 H5 H6 hn htx mc.1.2 mc.2)
          refine mv_cV0 (ci := 6) dX6_readClause_120 lk_X6_readClause_90 H3 rfl (Nat.le_of_ble_eq_true rfl) (Nat.le_of_ble_eq_true rfl) K13 ?_
          have H3 : h12[3]? = some (.inr (6, [.ref 4, .ref 5, .ref 6, .int (nI n), .int (nI (q_sem n tx (q_num n tx c ((q_ew n tx (n - u.1) u.1), u.2))).1), .int (nI (cl + 1)), .int (nI (q_sem n tx (q_num n tx c ((q_ew n tx (n - u.1) u.1), u.2))).2.1), .int (q_sem n tx (q_num n tx c ((q_ew n tx (n - u.1) u.1), u.2))).2.2.1])) := y15
          have H4 := f14.get (by decide) H4
          have H5 := f14.get (by decide) H5
          have H6 := f14.get (by decide) H6
          have fr := fr.trans f14 (by decide)
          have e8 : q_bod n tx c ((q_ew n tx (n - u.1) u.1), u.2) = (q_num n tx c ((q_ew n tx (n - u.1) u.1), u.2)) := (if_neg c82).trans (by rw [if_neg c107])
          have e9 : (q_cls n tx u cl ti) = (q_sem n tx (q_num n tx c ((q_ew n tx (n - u.1) u.1), u.2)), cl + 1, t_up ti c 1) := (if_neg hc1).trans ((if_pos (by rw [ec, q_n_n (by omega)]; exact c44)).trans (by rw [ec, q_n_n (by omega), e8]))
          have H5 : h12[5]? = some (.inl (0, 8, .inl (q_sem n tx (q_num n tx c ((q_ew n tx (n - u.1) u.1), u.2))).2.2.2)) := (by rw [q_sem_d]; exact H5)
          exact mv_vret dX6_readClause_123 rfl ⟨rfl, fr, (by rw [e9]; exact H3), (by rw [e9]; exact H5), (by rw [e9]; exact H6)⟩
        · have c107 : c = 6 := (nI_eq (by omega) (by omega)).mp c107
          refine mv_bipush (v := nI 7) dX6_readClause_110 (by decide) ?_
          refine mv_goto (tgt := 116) dX6_readClause_112 (by decide) ?_
          obtain ⟨h16, K17, f18, y19, y20⟩ := (k_X6_readNumber (ev := ev) (n := n) (tx := tx) (u := ((q_ew n tx (n - u.1) u.1), u.2)) (cl := cl + 1) (ti := (t_up ti c 1)) (w := 7) H3 H4 H5 H6 hn htx m1.2 hfa (by omega))
          refine mv_cV1 (ci := 6) dX6_readClause_116 lk_X6_readClause_83 H3 rfl (Nat.le_of_ble_eq_true rfl) (Nat.le_of_ble_eq_true rfl) K17 ?_
          have H3 : h16[3]? = some (.inr (6, [.ref 4, .ref 5, .ref 6, .int (nI n), .int (nI (q_num n tx 7 ((q_ew n tx (n - u.1) u.1), u.2)).1), .int (nI (cl + 1)), .int (nI (q_num n tx 7 ((q_ew n tx (n - u.1) u.1), u.2)).2.1), .int (q_num n tx 7 ((q_ew n tx (n - u.1) u.1), u.2)).2.2.1])) := y19
          have H4 := f18.get (by decide) H4
          have H5 : h16[5]? = some (.inl (0, 8, .inl (q_num n tx 7 ((q_ew n tx (n - u.1) u.1), u.2)).2.2.2)) := y20
          have H6 := f18.get (by decide) H6
          have fr := fr.trans f18 (by decide)
          refine mv_aload_n dX6_readClause_119 rfl ?_
          have m7 := q_num_ok (n := n) (tx := tx) (w := 7) (u := ((q_ew n tx (n - u.1) u.1), u.2)) m1.2 hfa
          obtain ⟨h21, K22, f23, y24⟩ := (k_X6_readSemicolon (ev := ev) (n := n) (tx := tx) (u := (q_num n tx 7 ((q_ew n tx (n - u.1) u.1), u.2))) (cl := cl + 1) (ti := (t_up ti c 1)) H3 H4 H5 H6 hn htx m7.1.2 m7.2)
          refine mv_cV0 (ci := 6) dX6_readClause_120 lk_X6_readClause_90 H3 rfl (Nat.le_of_ble_eq_true rfl) (Nat.le_of_ble_eq_true rfl) K22 ?_
          have H3 : h21[3]? = some (.inr (6, [.ref 4, .ref 5, .ref 6, .int (nI n), .int (nI (q_sem n tx (q_num n tx 7 ((q_ew n tx (n - u.1) u.1), u.2))).1), .int (nI (cl + 1)), .int (nI (q_sem n tx (q_num n tx 7 ((q_ew n tx (n - u.1) u.1), u.2))).2.1), .int (q_sem n tx (q_num n tx 7 ((q_ew n tx (n - u.1) u.1), u.2))).2.2.1])) := y24
          have H4 := f23.get (by decide) H4
          have H5 := f23.get (by decide) H5
          have H6 := f23.get (by decide) H6
          have fr := fr.trans f23 (by decide)
          have e8 : q_bod n tx c ((q_ew n tx (n - u.1) u.1), u.2) = (q_num n tx 7 ((q_ew n tx (n - u.1) u.1), u.2)) := (if_neg c82).trans (by rw [if_pos c107])
          have e9 : (q_cls n tx u cl ti) = (q_sem n tx (q_num n tx 7 ((q_ew n tx (n - u.1) u.1), u.2)), cl + 1, t_up ti c 1) := (if_neg hc1).trans ((if_pos (by rw [ec, q_n_n (by omega)]; exact c44)).trans (by rw [ec, q_n_n (by omega), e8]))
          have H5 : h21[5]? = some (.inl (0, 8, .inl (q_sem n tx (q_num n tx 7 ((q_ew n tx (n - u.1) u.1), u.2))).2.2.2)) := (by rw [q_sem_d]; exact H5)
          exact mv_vret dX6_readClause_123 rfl ⟨rfl, fr, (by rw [e9]; exact H3), (by rw [e9]; exact H5), (by rw [e9]; exact H6)⟩
      · have c82 : c = 5 := (nI_eq (by omega) (by omega)).mp c82
        refine mv_aload_n dX6_readClause_85 rfl ?_
        refine mv_iconst (v := nI 5) dX6_readClause_86 (by decide) ?_
        obtain ⟨h25, K26, f27, y28, y29⟩ := (k_X6_readNumber (ev := ev) (n := n) (tx := tx) (u := ((q_ew n tx (n - u.1) u.1), u.2)) (cl := cl + 1) (ti := (t_up ti c 1)) (w := 5) H3 H4 H5 H6 hn htx m1.2 hfa (by decide))
        refine mv_cV1 (ci := 6) dX6_readClause_87 lk_X6_readClause_83 H3 rfl (Nat.le_of_ble_eq_true rfl) (Nat.le_of_ble_eq_true rfl) K26 ?_
        have H3 : h25[3]? = some (.inr (6, [.ref 4, .ref 5, .ref 6, .int (nI n), .int (nI (q_num n tx 5 ((q_ew n tx (n - u.1) u.1), u.2)).1), .int (nI (cl + 1)), .int (nI (q_num n tx 5 ((q_ew n tx (n - u.1) u.1), u.2)).2.1), .int (q_num n tx 5 ((q_ew n tx (n - u.1) u.1), u.2)).2.2.1])) := y28
        have H4 := f27.get (by decide) H4
        have H5 : h25[5]? = some (.inl (0, 8, .inl (q_num n tx 5 ((q_ew n tx (n - u.1) u.1), u.2)).2.2.2)) := y29
        have H6 := f27.get (by decide) H6
        have fr := fr.trans f27 (by decide)
        have m5 := q_num_ok (n := n) (tx := tx) (w := 5) (u := ((q_ew n tx (n - u.1) u.1), u.2)) m1.2 hfa
        refine mv_aload_n dX6_readClause_90 rfl ?_
        obtain ⟨h30, K31, f32, y33⟩ := (k_X6_readTo (ev := ev) (n := n) (tx := tx) (u := (q_num n tx 5 ((q_ew n tx (n - u.1) u.1), u.2))) (cl := cl + 1) (ti := (t_up ti c 1)) H3 H4 H5 H6 hn htx m5.1.2 m5.2 hE)
        refine mv_cV0 (ci := 6) dX6_readClause_91 lk_X6_readClause_87 H3 rfl (Nat.le_of_ble_eq_true rfl) (Nat.le_of_ble_eq_true rfl) K31 ?_
        have H3 : h30[3]? = some (.inr (6, [.ref 4, .ref 5, .ref 6, .int (nI n), .int (nI (q_toS n tx (q_num n tx 5 ((q_ew n tx (n - u.1) u.1), u.2))).1), .int (nI (cl + 1)), .int (nI (q_toS n tx (q_num n tx 5 ((q_ew n tx (n - u.1) u.1), u.2))).2.1), .int (q_toS n tx (q_num n tx 5 ((q_ew n tx (n - u.1) u.1), u.2))).2.2.1])) := y33
        have H4 := f32.get (by decide) H4
        have H5 := f32.get (by decide) H5
        have H6 := f32.get (by decide) H6
        have fr := fr.trans f32 (by decide)
        have mt := q_toS_ok (n := n) (tx := tx) (u := (q_num n tx 5 ((q_ew n tx (n - u.1) u.1), u.2))) m5.1.2 m5.2
        have H5 : h30[5]? = some (.inl (0, 8, .inl (q_toS n tx (q_num n tx 5 ((q_ew n tx (n - u.1) u.1), u.2))).2.2.2)) := (by rw [q_toS_d]; exact H5)
        refine mv_aload_n dX6_readClause_94 rfl ?_
        refine mv_bipush (v := nI 6) dX6_readClause_95 (by decide) ?_
        obtain ⟨h34, K35, f36, y37, y38⟩ := (k_X6_readNumber (ev := ev) (n := n) (tx := tx) (u := (q_toS n tx (q_num n tx 5 ((q_ew n tx (n - u.1) u.1), u.2)))) (cl := cl + 1) (ti := (t_up ti c 1)) (w := 6) H3 H4 H5 H6 hn htx mt.1.2 mt.2 (by decide))
        refine mv_cV1 (ci := 6) dX6_readClause_97 lk_X6_readClause_83 H3 rfl (Nat.le_of_ble_eq_true rfl) (Nat.le_of_ble_eq_true rfl) K35 ?_
        have H3 : h34[3]? = some (.inr (6, [.ref 4, .ref 5, .ref 6, .int (nI n), .int (nI (q_num n tx 6 (q_toS n tx (q_num n tx 5 ((q_ew n tx (n - u.1) u.1), u.2)))).1), .int (nI (cl + 1)), .int (nI (q_num n tx 6 (q_toS n tx (q_num n tx 5 ((q_ew n tx (n - u.1) u.1), u.2)))).2.1), .int (q_num n tx 6 (q_toS n tx (q_num n tx 5 ((q_ew n tx (n - u.1) u.1), u.2)))).2.2.1])) := y37
        have H4 := f36.get (by decide) H4
        have H5 : h34[5]? = some (.inl (0, 8, .inl (q_num n tx 6 (q_toS n tx (q_num n tx 5 ((q_ew n tx (n - u.1) u.1), u.2)))).2.2.2)) := y38
        have H6 := f36.get (by decide) H6
        have fr := fr.trans f36 (by decide)
        have m6 := q_num_ok (n := n) (tx := tx) (w := 6) (u := (q_toS n tx (q_num n tx 5 ((q_ew n tx (n - u.1) u.1), u.2)))) mt.1.2 mt.2
        refine mv_goto (tgt := 119) dX6_readClause_100 (by decide) ?_
        refine mv_aload_n dX6_readClause_119 rfl ?_
        obtain ⟨h39, K40, f41, y42⟩ := (k_X6_readSemicolon (ev := ev) (n := n) (tx := tx) (u := (q_num n tx 6 (q_toS n tx (q_num n tx 5 ((q_ew n tx (n - u.1) u.1), u.2))))) (cl := cl + 1) (ti := (t_up ti c 1)) H3 H4 H5 H6 hn htx m6.1.2 m6.2)
        refine mv_cV0 (ci := 6) dX6_readClause_120 lk_X6_readClause_90 H3 rfl (Nat.le_of_ble_eq_true rfl) (Nat.le_of_ble_eq_true rfl) K40 ?_
        have H3 : h39[3]? = some (.inr (6, [.ref 4, .ref 5, .ref 6, .int (nI n), .int (nI (q_sem n tx (q_num n tx 6 (q_toS n tx (q_num n tx 5 ((q_ew n tx (n - u.1) u.1), u.2))))).1), .int (nI (cl + 1)), .int (nI (q_sem n tx (q_num n tx 6 (q_toS n tx (q_num n tx 5 ((q_ew n tx (n - u.1) u.1), u.2))))).2.1), .int (q_sem n tx (q_num n tx 6 (q_toS n tx (q_num n tx 5 ((q_ew n tx (n - u.1) u.1), u.2))))).2.2.1])) := y42
        have H4 := f41.get (by decide) H4
        have H5 := f41.get (by decide) H5
        have H6 := f41.get (by decide) H6
        have fr := fr.trans f41 (by decide)
        have e8 : q_bod n tx c ((q_ew n tx (n - u.1) u.1), u.2) = (q_num n tx 6 (q_toS n tx (q_num n tx 5 ((q_ew n tx (n - u.1) u.1), u.2)))) := if_pos c82
        have e9 : (q_cls n tx u cl ti) = (q_sem n tx (q_num n tx 6 (q_toS n tx (q_num n tx 5 ((q_ew n tx (n - u.1) u.1), u.2)))), cl + 1, t_up ti c 1) := (if_neg hc1).trans ((if_pos (by rw [ec, q_n_n (by omega)]; exact c44)).trans (by rw [ec, q_n_n (by omega), e8]))
        have H5 : h39[5]? = some (.inl (0, 8, .inl (q_sem n tx (q_num n tx 6 (q_toS n tx (q_num n tx 5 ((q_ew n tx (n - u.1) u.1), u.2))))).2.2.2)) := (by rw [q_sem_d]; exact H5)
        exact mv_vret dX6_readClause_123 rfl ⟨rfl, fr, (by rw [e9]; exact H3), (by rw [e9]; exact H5), (by rw [e9]; exact H6)⟩
    · have c44 : ¬ (ti c = 0) := fun z => c44 ((nI_eq (b := 0) (by omega) (by omega)).mpr z)
      refine mv_aload_n dX6_readClause_47 rfl ?_
      refine mv_iconst (v := nI 3) dX6_readClause_48 (by decide) ?_
      refine mv_iload_n dX6_readClause_49 rfl ?_
      obtain ⟨h43, K44, f45, y46⟩ := (k_X6_setFault (ev := ev) (n := n) (a0 := u.1) (cl := cl) (fa := u.2.1) (fp := u.2.2.1) (f := 3) (p := u.1) H3 (by omega))
      refine mv_cV2 (ci := 6) dX6_readClause_50 lk_X6_readClause_79 H3 rfl (Nat.le_of_ble_eq_true rfl) (Nat.le_of_ble_eq_true rfl) K44 ?_
      have H3 : h43[3]? = some (.inr (6, [.ref 4, .ref 5, .ref 6, .int (nI n), .int (nI u.1), .int (nI cl), .int (nI (q_f1 u.2.1 3)), .int (q_f2 u.2.1 u.1 u.2.2.1)])) := y46
      have H4 := f45.get (by decide) H4
      have H5 := f45.get (by decide) H5
      have H6 := f45.get (by decide) H6
      have fr := fr.trans f45 (by decide)
      have e9 : (q_cls n tx u cl ti) = (q_uf 3 u.1 u, cl, ti) := (if_neg hc1).trans (if_neg (by rw [ec, q_n_n (by omega)]; exact c44))
      exact mv_vret dX6_readClause_53 rfl ⟨rfl, fr, (by rw [e9]; exact H3), (by rw [e9]; exact H5), (by rw [e9]; exact H6)⟩
  · have c28 : ¬ ((nI 0) ≤ (q_cn tx u.1 (q_ew n tx (n - u.1) u.1)) ∧ (q_cn tx u.1 (q_ew n tx (n - u.1) u.1)) ≤ (nI 6)) := (mv_b_0 _).mp c28
    refine mv_aload_n dX6_readClause_31 rfl ?_
    refine mv_iconst (v := nI 1) dX6_readClause_32 (by decide) ?_
    refine mv_iload_n dX6_readClause_33 rfl ?_
    obtain ⟨h47, K48, f49, y50⟩ := (k_X6_setFault (ev := ev) (n := n) (a0 := u.1) (cl := cl) (fa := u.2.1) (fp := u.2.2.1) (f := 1) (p := u.1) H3 (by omega))
    refine mv_cV2 (ci := 6) dX6_readClause_34 lk_X6_readClause_79 H3 rfl (Nat.le_of_ble_eq_true rfl) (Nat.le_of_ble_eq_true rfl) K48 ?_
    have H3 : h47[3]? = some (.inr (6, [.ref 4, .ref 5, .ref 6, .int (nI n), .int (nI u.1), .int (nI cl), .int (nI (q_f1 u.2.1 1)), .int (q_f2 u.2.1 u.1 u.2.2.1)])) := y50
    have H4 := f49.get (by decide) H4
    have H5 := f49.get (by decide) H5
    have H6 := f49.get (by decide) H6
    have fr := fr.trans f49 (by decide)
    have e9 : (q_cls n tx u cl ti) = (q_uf 1 u.1 u, cl, ti) := if_pos (q_cn_in _ _ _ c28)
    exact mv_vret dX6_readClause_37 rfl ⟨rfl, fr, (by rw [e9]; exact H3), (by rw [e9]; exact H5), (by rw [e9]; exact H6)⟩
set_option maxRecDepth 100000 in
theorem l_X6_law {ev : mv_E} {h : mv_H} {n : Nat} {tx : Nat → Nat} {dr : Nat → Int32} {ti : Nat → Nat} {lw : Nat → Int32}  (hn : n ≤ 160) (htx : ∀ i, tx i < 256) (hti : ∀ i, ti i ≤ 1) (hE : q_E ev) : ∀ (fu : Nat) (k : Nat) (v : q_V), ∀ (g : mv_H), 160 < k + fu → mv_fra [3, 5, 6, 2] h g → g[3]? = some (.inr (6, [.ref 4, .ref 5, .ref 6, .int (nI n), .int (nI v.1.1), .int (nI v.2.1), .int (nI v.1.2.1), .int v.1.2.2.1])) → g[5]? = some (.inl (0, 8, .inl v.1.2.2.2)) → g[6]? = some (.inl (2, 7, .inl (fun j => nI (v.2.2 j)))) → g[4]? = some (.inl (0, 160, .inl (fun j => nI (tx j)))) → g[1]? = some (.inr (5, [.ref 2])) → g[2]? = some (.inl (0, 8, .inl lw)) → (k ≤ 160) → (v.1.1 ≤ n) → (v.1.2.1 ≤ 3) → (v.2.1 ≤ k) → (∀ i, v.2.2 i ≤ 1) → (q_lp n tx (160 - k) v = q_lp n tx 160 (q_v0 n tx dr ti)) → mv_g ev mX6_becomeLaw 10 [.ref 3, .ref 1, .int (nI k)] [] g (fun r g => r = some (.int (q_pa (q_pv n tx dr ti))) ∧ mv_fra [3, 5, 6, 2] h g ∧ g[3]? = some (.inr (6, [.ref 4, .ref 5, .ref 6, .int (nI 0), .int (nI (q_pv n tx dr ti).1.1), .int (nI (q_pv n tx dr ti).2.1), .int (nI (q_pv n tx dr ti).1.2.1), .int (q_pv n tx dr ti).1.2.2.1])) ∧ g[5]? = some (.inl (0, 8, .inl (q_pv n tx dr ti).1.2.2.2)) ∧ g[6]? = some (.inl (2, 7, .inl (fun j => nI ((q_pv n tx dr ti).2.2 j)))) ∧ g[2]? = some (.inl (0, 8, .inl (q_pl (q_pv n tx dr ti) lw)))) := by
  intro fu
  induction fu with
  | zero => intro k v g hm fr H3 H5 H6 H4 HL HV hk hv1 hv2 hv3 hv4 hq; exact absurd hm (by omega)
  | succ fu ih =>
    intro k v g hm fr H3 H5 H6 H4 HL HV hk hv1 hv2 hv3 hv4 hq
    refine mv_iload_n dX6_becomeLaw_10 rfl ?_
    refine mv_sipush (v := nI 160) dX6_becomeLaw_11 (by decide) ?_
    refine mv_icmp_ge (tgt := 49) dX6_becomeLaw_14 (by decide) (fun c14 => ?_) (fun c14 => ?_)
    · have c14 : 160 ≤ k := (nI_leI (by omega) (by omega)).mp c14
      refine mv_aload_n dX6_becomeLaw_49 rfl ?_
      refine mv_iconst (v := nI 0) dX6_becomeLaw_50 (by decide) ?_
      refine mv_putf (ci := 6) (f := 3) dX6_becomeLaw_51 H3 rfl (by decide) wd_119 rfl rfl (fun _ => ⟨rfl, rfl⟩) (Nat.le_of_ble_eq_true rfl) ?_
      refine mv_topH (fun h1 e2 => ?_)
      have H3 : h1[3]? = some (.inr (6, [.ref 4, .ref 5, .ref 6, .int (nI 0), .int (nI v.1.1), .int (nI v.2.1), .int (nI v.1.2.1), .int v.1.2.2.1])) := mv_eq e2 H3
      have H4 := mv_ne e2 (by decide) H4
      have H5 := mv_ne e2 (by decide) H5
      have H6 := mv_ne e2 (by decide) H6
      have HL := mv_ne e2 (by decide) HL
      have HV := mv_ne e2 (by decide) HV
      have fr := fr.set e2 (by decide)
      clear e2
      refine mv_aload_n dX6_becomeLaw_54 rfl ?_
      refine mv_getf (ci := 6) (f := 6) dX6_becomeLaw_55 H3 rfl (by decide) wd_122 rfl ?_
      refine mv_if_eq (tgt := 69) dX6_becomeLaw_58 (by decide) (fun c58 => ?_) (fun c58 => ?_)
      · have c58 : v.1.2.1 = 0 := (nI_eq (b := 0) (by omega) (by omega)).mp c58
        refine mv_aload_n dX6_becomeLaw_69 rfl ?_
        refine mv_aload_n dX6_becomeLaw_70 rfl ?_
        refine mv_getf (ci := 6) (f := 1) dX6_becomeLaw_71 H3 rfl (by decide) wd_117 rfl ?_
        obtain ⟨h3, K4, f5, y6⟩ := (k_X5_become (ev := ev) (lw := lw) (dr := v.1.2.2.2) HL HV H5)
        refine mv_cV1 (ci := 5) dX6_becomeLaw_74 lk_X6_becomeLaw_47 HL rfl (Nat.le_of_ble_eq_true rfl) (Nat.le_of_ble_eq_true rfl) K4 ?_
        have H3 := f5.get (by decide) H3
        have H4 := f5.get (by decide) H4
        have H5 := f5.get (by decide) H5
        have H6 := f5.get (by decide) H6
        have HL := f5.get (by decide) HL
        have HV : h3[2]? = some (.inl (0, 8, .inl (q_cl v.1.2.2.2 lw))) := y6
        have fr := fr.trans f5 (by decide)
        refine mv_aload_n dX6_becomeLaw_77 rfl ?_
        refine mv_getf (ci := 6) (f := 5) dX6_becomeLaw_78 H3 rfl (by decide) wd_121 rfl ?_
        have e9 : (q_pv n tx dr ti) = v := (by unfold q_pv; rw [← hq]; exact q_lp_n (by omega))
        have ea : q_pa v = nI v.2.1 := if_pos c58
        have el : q_pl v lw = q_cl v.1.2.2.2 lw := if_pos c58
        exact mv_iret dX6_becomeLaw_81 rfl rfl ⟨(by rw [e9, ea]), fr, (by rw [e9]; exact H3), (by rw [e9]; exact H5), (by rw [e9]; exact H6), (by rw [e9, el]; exact HV)⟩
      · have c58 : ¬ (v.1.2.1 = 0) := fun z => c58 ((nI_eq (b := 0) (by omega) (by omega)).mpr z)
        refine mv_bipush (v := (-10)) dX6_becomeLaw_61 (by decide) ?_
        refine mv_aload_n dX6_becomeLaw_63 rfl ?_
        refine mv_getf (ci := 6) (f := 6) dX6_becomeLaw_64 H3 rfl (by decide) wd_122 rfl ?_
        refine mv_isub dX6_becomeLaw_67 ?_
        have e9 : (q_pv n tx dr ti) = v := (by unfold q_pv; rw [← hq]; exact q_lp_n (by omega))
        have ea : q_pa v = -10 - nI v.1.2.1 := if_neg c58
        have el : q_pl v lw = lw := if_neg c58
        exact mv_iret dX6_becomeLaw_68 rfl rfl ⟨(by rw [e9, ea]), fr, (by rw [e9]; exact H3), (by rw [e9]; exact H5), (by rw [e9]; exact H6), (by rw [e9, el]; exact HV)⟩
    · have c14 : ¬ (160 ≤ k) := fun z => c14 ((nI_leI (by omega) (by omega)).mpr z)
      refine mv_aload_n dX6_becomeLaw_17 rfl ?_
      refine mv_getf (ci := 6) (f := 4) dX6_becomeLaw_18 H3 rfl (by decide) wd_120 rfl ?_
      refine mv_aload_n dX6_becomeLaw_21 rfl ?_
      refine mv_getf (ci := 6) (f := 3) dX6_becomeLaw_22 H3 rfl (by decide) wd_119 rfl ?_
      refine mv_icmp_ge (tgt := 49) dX6_becomeLaw_25 (by decide) (fun c25 => ?_) (fun c25 => ?_)
      · have c25 : n ≤ v.1.1 := (nI_leI (by omega) (by omega)).mp c25
        refine mv_aload_n dX6_becomeLaw_49 rfl ?_
        refine mv_iconst (v := nI 0) dX6_becomeLaw_50 (by decide) ?_
        refine mv_putf (ci := 6) (f := 3) dX6_becomeLaw_51 H3 rfl (by decide) wd_119 rfl rfl (fun _ => ⟨rfl, rfl⟩) (Nat.le_of_ble_eq_true rfl) ?_
        refine mv_topH (fun h7 e8 => ?_)
        have H3 : h7[3]? = some (.inr (6, [.ref 4, .ref 5, .ref 6, .int (nI 0), .int (nI v.1.1), .int (nI v.2.1), .int (nI v.1.2.1), .int v.1.2.2.1])) := mv_eq e8 H3
        have H4 := mv_ne e8 (by decide) H4
        have H5 := mv_ne e8 (by decide) H5
        have H6 := mv_ne e8 (by decide) H6
        have HL := mv_ne e8 (by decide) HL
        have HV := mv_ne e8 (by decide) HV
        have fr := fr.set e8 (by decide)
        clear e8
        refine mv_aload_n dX6_becomeLaw_54 rfl ?_
        refine mv_getf (ci := 6) (f := 6) dX6_becomeLaw_55 H3 rfl (by decide) wd_122 rfl ?_
        refine mv_if_eq (tgt := 69) dX6_becomeLaw_58 (by decide) (fun c58 => ?_) (fun c58 => ?_)
        · have c58 : v.1.2.1 = 0 := (nI_eq (b := 0) (by omega) (by omega)).mp c58
          refine mv_aload_n dX6_becomeLaw_69 rfl ?_
          refine mv_aload_n dX6_becomeLaw_70 rfl ?_
          refine mv_getf (ci := 6) (f := 1) dX6_becomeLaw_71 H3 rfl (by decide) wd_117 rfl ?_
          obtain ⟨h9, K10, f11, y12⟩ := (k_X5_become (ev := ev) (lw := lw) (dr := v.1.2.2.2) HL HV H5)
          refine mv_cV1 (ci := 5) dX6_becomeLaw_74 lk_X6_becomeLaw_47 HL rfl (Nat.le_of_ble_eq_true rfl) (Nat.le_of_ble_eq_true rfl) K10 ?_
          have H3 := f11.get (by decide) H3
          have H4 := f11.get (by decide) H4
          have H5 := f11.get (by decide) H5
          have H6 := f11.get (by decide) H6
          have HL := f11.get (by decide) HL
          have HV : h9[2]? = some (.inl (0, 8, .inl (q_cl v.1.2.2.2 lw))) := y12
          have fr := fr.trans f11 (by decide)
          refine mv_aload_n dX6_becomeLaw_77 rfl ?_
          refine mv_getf (ci := 6) (f := 5) dX6_becomeLaw_78 H3 rfl (by decide) wd_121 rfl ?_
          have e9 : (q_pv n tx dr ti) = v := (by unfold q_pv; rw [← hq]; exact q_lp_n (by omega))
          have ea : q_pa v = nI v.2.1 := if_pos c58
          have el : q_pl v lw = q_cl v.1.2.2.2 lw := if_pos c58
          exact mv_iret dX6_becomeLaw_81 rfl rfl ⟨(by rw [e9, ea]), fr, (by rw [e9]; exact H3), (by rw [e9]; exact H5), (by rw [e9]; exact H6), (by rw [e9, el]; exact HV)⟩
        · have c58 : ¬ (v.1.2.1 = 0) := fun z => c58 ((nI_eq (b := 0) (by omega) (by omega)).mpr z)
          refine mv_bipush (v := (-10)) dX6_becomeLaw_61 (by decide) ?_
          refine mv_aload_n dX6_becomeLaw_63 rfl ?_
          refine mv_getf (ci := 6) (f := 6) dX6_becomeLaw_64 H3 rfl (by decide) wd_122 rfl ?_
          refine mv_isub dX6_becomeLaw_67 ?_
          have e9 : (q_pv n tx dr ti) = v := (by unfold q_pv; rw [← hq]; exact q_lp_n (by omega))
          have ea : q_pa v = -10 - nI v.1.2.1 := if_neg c58
          have el : q_pl v lw = lw := if_neg c58
          exact mv_iret dX6_becomeLaw_68 rfl rfl ⟨(by rw [e9, ea]), fr, (by rw [e9]; exact H3), (by rw [e9]; exact H5), (by rw [e9]; exact H6), (by rw [e9, el]; exact HV)⟩
      · have c25 : ¬ (n ≤ v.1.1) := fun z => c25 ((nI_leI (by omega) (by omega)).mpr z)
        refine mv_aload_n dX6_becomeLaw_28 rfl ?_
        refine mv_getf (ci := 6) (f := 6) dX6_becomeLaw_29 H3 rfl (by decide) wd_122 rfl ?_
        refine mv_if_ne (tgt := 49) dX6_becomeLaw_32 (by decide) (fun c32 => ?_) (fun c32 => ?_)
        · have c32 : ¬ (v.1.2.1 = 0) := fun z => c32 ((nI_eq (b := 0) (by omega) (by omega)).mpr z)
          refine mv_aload_n dX6_becomeLaw_49 rfl ?_
          refine mv_iconst (v := nI 0) dX6_becomeLaw_50 (by decide) ?_
          refine mv_putf (ci := 6) (f := 3) dX6_becomeLaw_51 H3 rfl (by decide) wd_119 rfl rfl (fun _ => ⟨rfl, rfl⟩) (Nat.le_of_ble_eq_true rfl) ?_
          refine mv_topH (fun h13 e14 => ?_)
          have H3 : h13[3]? = some (.inr (6, [.ref 4, .ref 5, .ref 6, .int (nI 0), .int (nI v.1.1), .int (nI v.2.1), .int (nI v.1.2.1), .int v.1.2.2.1])) := mv_eq e14 H3
          have H4 := mv_ne e14 (by decide) H4
          have H5 := mv_ne e14 (by decide) H5
          have H6 := mv_ne e14 (by decide) H6
          have HL := mv_ne e14 (by decide) HL
          have HV := mv_ne e14 (by decide) HV
          have fr := fr.set e14 (by decide)
          clear e14
          refine mv_aload_n dX6_becomeLaw_54 rfl ?_
          refine mv_getf (ci := 6) (f := 6) dX6_becomeLaw_55 H3 rfl (by decide) wd_122 rfl ?_
          refine mv_if_eq (tgt := 69) dX6_becomeLaw_58 (by decide) (fun c58 => ?_) (fun c58 => ?_)
          · have c58 : v.1.2.1 = 0 := (nI_eq (b := 0) (by omega) (by omega)).mp c58
            refine mv_aload_n dX6_becomeLaw_69 rfl ?_
            refine mv_aload_n dX6_becomeLaw_70 rfl ?_
            refine mv_getf (ci := 6) (f := 1) dX6_becomeLaw_71 H3 rfl (by decide) wd_117 rfl ?_
            obtain ⟨h15, K16, f17, y18⟩ := (k_X5_become (ev := ev) (lw := lw) (dr := v.1.2.2.2) HL HV H5)
            refine mv_cV1 (ci := 5) dX6_becomeLaw_74 lk_X6_becomeLaw_47 HL rfl (Nat.le_of_ble_eq_true rfl) (Nat.le_of_ble_eq_true rfl) K16 ?_
            have H3 := f17.get (by decide) H3
            have H4 := f17.get (by decide) H4
            have H5 := f17.get (by decide) H5
            have H6 := f17.get (by decide) H6
            have HL := f17.get (by decide) HL
            have HV : h15[2]? = some (.inl (0, 8, .inl (q_cl v.1.2.2.2 lw))) := y18
            have fr := fr.trans f17 (by decide)
            refine mv_aload_n dX6_becomeLaw_77 rfl ?_
            refine mv_getf (ci := 6) (f := 5) dX6_becomeLaw_78 H3 rfl (by decide) wd_121 rfl ?_
            have e9 : (q_pv n tx dr ti) = v := (by unfold q_pv; rw [← hq]; exact q_lp_n (by omega))
            have ea : q_pa v = nI v.2.1 := if_pos c58
            have el : q_pl v lw = q_cl v.1.2.2.2 lw := if_pos c58
            exact mv_iret dX6_becomeLaw_81 rfl rfl ⟨(by rw [e9, ea]), fr, (by rw [e9]; exact H3), (by rw [e9]; exact H5), (by rw [e9]; exact H6), (by rw [e9, el]; exact HV)⟩
          · have c58 : ¬ (v.1.2.1 = 0) := fun z => c58 ((nI_eq (b := 0) (by omega) (by omega)).mpr z)
            refine mv_bipush (v := (-10)) dX6_becomeLaw_61 (by decide) ?_
            refine mv_aload_n dX6_becomeLaw_63 rfl ?_
            refine mv_getf (ci := 6) (f := 6) dX6_becomeLaw_64 H3 rfl (by decide) wd_122 rfl ?_
            refine mv_isub dX6_becomeLaw_67 ?_
            have e9 : (q_pv n tx dr ti) = v := (by unfold q_pv; rw [← hq]; exact q_lp_n (by omega))
            have ea : q_pa v = -10 - nI v.1.2.1 := if_neg c58
            have el : q_pl v lw = lw := if_neg c58
            exact mv_iret dX6_becomeLaw_68 rfl rfl ⟨(by rw [e9, ea]), fr, (by rw [e9]; exact H3), (by rw [e9]; exact H5), (by rw [e9]; exact H6), (by rw [e9, el]; exact HV)⟩
        · have c32 : v.1.2.1 = 0 := (nI_eq (b := 0) (by omega) (by omega)).mp c32
          refine mv_aload_n dX6_becomeLaw_35 rfl ?_
          obtain ⟨h19, K20, f21, y22, y23, y24⟩ := (k_X6_readClause (ev := ev) (n := n) (tx := tx) (u := v.1) (cl := v.2.1) (ti := v.2.2) H3 H4 H5 H6 hn htx hv1 hv2 (by omega) hv4 hE)
          refine mv_cV0 (ci := 6) dX6_becomeLaw_36 lk_X6_becomeLaw_44 H3 rfl (Nat.le_of_ble_eq_true rfl) (Nat.le_of_ble_eq_true rfl) K20 ?_
          have H3 : h19[3]? = some (.inr (6, [.ref 4, .ref 5, .ref 6, .int (nI n), .int (nI (q_cls n tx v.1 v.2.1 v.2.2).1.1), .int (nI (q_cls n tx v.1 v.2.1 v.2.2).2.1), .int (nI (q_cls n tx v.1 v.2.1 v.2.2).1.2.1), .int (q_cls n tx v.1 v.2.1 v.2.2).1.2.2.1])) := y22
          have H4 := f21.get (by decide) H4
          have H5 : h19[5]? = some (.inl (0, 8, .inl (q_cls n tx v.1 v.2.1 v.2.2).1.2.2.2)) := y23
          have H6 : h19[6]? = some (.inl (2, 7, .inl (fun j => nI ((q_cls n tx v.1 v.2.1 v.2.2).2.2 j)))) := y24
          have HL := f21.get (by decide) HL
          have HV := f21.get (by decide) HV
          have fr := fr.trans f21 (by decide)
          have m2 := q_cls_ok (n := n) (tx := tx) (cl := v.2.1) hv1 hv2 hv4
          refine mv_aload_n dX6_becomeLaw_39 rfl ?_
          obtain ⟨h25, K26, f27, y28⟩ := (k_X6_skipBlanks (ev := ev) (n := n) (tx := tx) (a0 := (q_cls n tx v.1 v.2.1 v.2.2).1.1) (cl := (q_cls n tx v.1 v.2.1 v.2.2).2.1) (fa := (q_cls n tx v.1 v.2.1 v.2.2).1.2.1) (fp := (q_cls n tx v.1 v.2.1 v.2.2).1.2.2.1) H3 H4 hn htx m2.1.1)
          refine mv_cV0 (ci := 6) dX6_becomeLaw_40 lk_X6_becomeLaw_41 H3 rfl (Nat.le_of_ble_eq_true rfl) (Nat.le_of_ble_eq_true rfl) K26 ?_
          have H3 : h25[3]? = some (.inr (6, [.ref 4, .ref 5, .ref 6, .int (nI n), .int (nI (q_sk n tx (n - (q_cls n tx v.1 v.2.1 v.2.2).1.1) (q_cls n tx v.1 v.2.1 v.2.2).1.1)), .int (nI (q_cls n tx v.1 v.2.1 v.2.2).2.1), .int (nI (q_cls n tx v.1 v.2.1 v.2.2).1.2.1), .int (q_cls n tx v.1 v.2.1 v.2.2).1.2.2.1])) := y28
          have H4 := f27.get (by decide) H4
          have H5 := f27.get (by decide) H5
          have H6 := f27.get (by decide) H6
          have HL := f27.get (by decide) HL
          have HV := f27.get (by decide) HV
          have fr := fr.trans f27 (by decide)
          refine mv_iinc (v := nI (k + 1)) dX6_becomeLaw_43 rfl (mv_inc k 1) (by decide) ?_
          refine mv_goto (tgt := 10) dX6_becomeLaw_46 (by decide) ?_
          exact ih (k + 1) (q_us n tx (q_cls n tx v.1 v.2.1 v.2.2)) h25 (by omega) fr H3 H5 H6 H4 HL HV (by omega) (q_sk_in _ _ m2.1.1).2 m2.1.2 (Nat.le_trans m2.2.1 (Nat.succ_le_succ hv3)) m2.2.2 (by rw [← hq, q_lp_y (f := 160 - k) (by omega) (by omega), Nat.sub_sub])
set_option maxRecDepth 100000 in
theorem k_X6_becomeLaw {ev : mv_E} {h : mv_H} {n : Nat} {tx : Nat → Nat} {dr : Nat → Int32} {ti : Nat → Nat} {a0 : Nat} {cl : Nat} {fa : Nat} {fp : Int32} {lw : Nat → Int32} (H3 : h[3]? = some (.inr (6, [.ref 4, .ref 5, .ref 6, .int (nI n), .int (nI a0), .int (nI cl), .int (nI fa), .int fp]))) (H4 : h[4]? = some (.inl (0, 160, .inl (fun j => nI (tx j))))) (H5 : h[5]? = some (.inl (0, 8, .inl dr))) (H6 : h[6]? = some (.inl (2, 7, .inl (fun j => nI (ti j))))) (HL : h[1]? = some (.inr (5, [.ref 2]))) (HV : h[2]? = some (.inl (0, 8, .inl lw))) (hn : n ≤ 160) (htx : ∀ i, tx i < 256) (hti : ∀ i, ti i ≤ 1) (hE : q_E ev) : ∃ h2, mv_K ev mX6_becomeLaw [.ref 3, .ref 1] h (some (.int (q_pa (q_pv n tx dr ti)))) h2 ∧ mv_fra [3, 5, 6, 2] h h2 ∧ h2[3]? = some (.inr (6, [.ref 4, .ref 5, .ref 6, .int (nI 0), .int (nI (q_pv n tx dr ti).1.1), .int (nI (q_pv n tx dr ti).2.1), .int (nI (q_pv n tx dr ti).1.2.1), .int (q_pv n tx dr ti).1.2.2.1])) ∧ h2[5]? = some (.inl (0, 8, .inl (q_pv n tx dr ti).1.2.2.2)) ∧ h2[6]? = some (.inl (2, 7, .inl (fun j => nI ((q_pv n tx dr ti).2.2 j)))) ∧ h2[2]? = some (.inl (0, 8, .inl (q_pl (q_pv n tx dr ti) lw))) := by
  suffices g0 : mv_g ev mX6_becomeLaw 0 (mv_ent [.ref 3, .ref 1] (mv_ml mX6_becomeLaw)) [] h (fun r g => r = some (.int (q_pa (q_pv n tx dr ti))) ∧ mv_fra [3, 5, 6, 2] h g ∧ g[3]? = some (.inr (6, [.ref 4, .ref 5, .ref 6, .int (nI 0), .int (nI (q_pv n tx dr ti).1.1), .int (nI (q_pv n tx dr ti).2.1), .int (nI (q_pv n tx dr ti).1.2.1), .int (q_pv n tx dr ti).1.2.2.1])) ∧ g[5]? = some (.inl (0, 8, .inl (q_pv n tx dr ti).1.2.2.2)) ∧ g[6]? = some (.inl (2, 7, .inl (fun j => nI ((q_pv n tx dr ti).2.2 j)))) ∧ g[2]? = some (.inl (0, 8, .inl (q_pl (q_pv n tx dr ti) lw)))) from (by obtain ⟨r0, h0, K0, q0, Q0⟩ := mv_Kex g0; subst q0; exact ⟨h0, K0, Q0⟩)
  show mv_g ev mX6_becomeLaw 0 [.ref 3, .ref 1, .null] [] h _
  have fr : mv_fra [3, 5, 6, 2] h h := mv_fra.rf
  refine mv_aload_n dX6_becomeLaw_0 rfl ?_
  obtain ⟨h1, K2, f3, y4, y5, y6⟩ := (k_X6_begin (ev := ev) (n := n) (tx := tx) (dr := dr) (ti := ti) (a0 := a0) (cl := cl) (fa := fa) (fp := fp) H3 H4 H5 H6)
  refine mv_cV0 (ci := 6) dX6_becomeLaw_1 lk_X6_becomeLaw_38 H3 rfl (Nat.le_of_ble_eq_true rfl) (Nat.le_of_ble_eq_true rfl) K2 ?_
  have H3 : h1[3]? = some (.inr (6, [.ref 4, .ref 5, .ref 6, .int (nI n), .int (nI 0), .int (nI 0), .int (nI 0), .int (-1)])) := y4
  have H4 := f3.get (by decide) H4
  have H5 : h1[5]? = some (.inl (0, 8, .inl (q_cl (mv_at [20, 40, 100, 10, 1, -1, -1, 0]) dr))) := y5
  have H6 : h1[6]? = some (.inl (2, 7, .inl (fun j => nI (q_z ti 7 j)))) := y6
  have HL := f3.get (by decide) HL
  have HV := f3.get (by decide) HV
  have fr := fr.trans f3 (by decide)
  refine mv_aload_n dX6_becomeLaw_4 rfl ?_
  obtain ⟨h7, K8, f9, y10⟩ := (k_X6_skipBlanks (ev := ev) (n := n) (tx := tx) (a0 := 0) (cl := 0) (fa := 0) (fp := (-1)) H3 H4 hn htx (Nat.zero_le _))
  refine mv_cV0 (ci := 6) dX6_becomeLaw_5 lk_X6_becomeLaw_41 H3 rfl (Nat.le_of_ble_eq_true rfl) (Nat.le_of_ble_eq_true rfl) K8 ?_
  have H3 : h7[3]? = some (.inr (6, [.ref 4, .ref 5, .ref 6, .int (nI n), .int (nI (q_sk n tx (n - 0) 0)), .int (nI 0), .int (nI 0), .int (-1)])) := y10
  have H4 := f9.get (by decide) H4
  have H5 := f9.get (by decide) H5
  have H6 := f9.get (by decide) H6
  have HL := f9.get (by decide) HL
  have HV := f9.get (by decide) HV
  have fr := fr.trans f9 (by decide)
  refine mv_iconst (v := nI 0) dX6_becomeLaw_8 (by decide) ?_
  refine mv_istore_n dX6_becomeLaw_9 (by decide) ?_
  exact l_X6_law hn htx hti hE 161 0 (q_v0 n tx dr ti) h7 (by omega) fr H3 H5 H6 H4 HL HV (Nat.zero_le _) (q_sk_in _ _ (Nat.zero_le _)).2 (Nat.zero_le _) (Nat.le_refl _) (q_z_l1 hti 7) rfl
set_option maxRecDepth 100000 in
theorem l_X6_append {ev : mv_E} {h : mv_H} {n : Nat} {tx : Nat → Nat} {a0 : Nat} {cl : Nat} {fa : Nat} {fp : Int32} {k : Nat} {bb : Int64}  (hkn : k + n ≤ 160) (hk8 : k ≤ 8) : ∀ (fu : Nat) (y : Nat) (m : Nat) (f : Nat → Nat), ∀ (g : mv_H), y < 0 + fu → mv_fra [3, 4] h g → g[3]? = some (.inr (6, [.ref 4, .ref 5, .ref 6, .int (nI m), .int (nI a0), .int (nI cl), .int (nI fa), .int fp])) → g[4]? = some (.inl (0, 160, .inl (fun j => nI (f j)))) → (y ≤ k) → (m + y = n + k) → (q_ap bb y m f = q_ap bb k n tx) → mv_g ev mX6_append 5 [.ref 3, .int (nI k), .long bb, .null, .int (nI y - nI 1)] [] g (fun r g => r = some (.int (nI (n + k))) ∧ mv_fra [3, 4] h g ∧ g[3]? = some (.inr (6, [.ref 4, .ref 5, .ref 6, .int (nI (n + k)), .int (nI a0), .int (nI cl), .int (nI fa), .int fp])) ∧ g[4]? = some (.inl (0, 160, .inl (fun j => nI (q_ap bb k n tx j))))) := by
  intro fu
  induction fu with
  | zero => intro y m f g hm fr H3 H4 hy hm hq; exact absurd hm (by omega)
  | succ fu ih =>
    intro y m f g hm fr H3 H4 hy hm hq
    refine mv_iload dX6_append_5 rfl ?_
    refine mv_if_lt (tgt := 59) dX6_append_7 (by decide) (fun c7 => ?_) (fun c7 => ?_)
    · have cy := (q_lt0 (by omega)).mp c7
      refine mv_aload_n dX6_append_59 rfl ?_
      refine mv_getf (ci := 6) (f := 3) dX6_append_60 H3 rfl (by decide) wd_119 rfl ?_
      have e9 : q_ap bb k n tx = f := (by rw [← hq, show y = 0 by omega]; rfl)
      have en : m = n + k := (by omega)
      exact mv_iret dX6_append_63 rfl rfl ⟨(by rw [en]), fr, (by rw [← en]; exact H3), (by rw [e9]; exact H4)⟩
    · have cy : 1 ≤ y := (by have c0 : ¬ y = 0 := fun z => c7 ((q_lt0 (by omega)).mpr z); omega)
      rw [show nI y - nI 1 = nI (y - 1) from pk_sub cy]
      have h256 := q_byt_lt bb (y - 1)
      refine mv_aload_n dX6_append_10 rfl ?_
      refine mv_getf (ci := 6) (f := 3) dX6_append_11 H3 rfl (by decide) wd_119 rfl ?_
      refine mv_aload_n dX6_append_14 rfl ?_
      refine mv_getf (ci := 6) (f := 0) dX6_append_15 H3 rfl (by decide) wd_116 rfl ?_
      refine mv_alen dX6_append_18 H4 (by decide) ?_
      refine mv_icmp_ge (tgt := 59) dX6_append_19 (by decide) (fun c19 => ?_) (fun c19 => ?_)
      · have c19 : 160 ≤ m := (nI_leI (by omega) (by omega)).mp c19
        refine mv_aload_n dX6_append_59 rfl ?_
        refine mv_getf (ci := 6) (f := 3) dX6_append_60 H3 rfl (by decide) wd_119 rfl ?_
        have e9 : q_ap bb k n tx = f := (by rw [← hq, show y = 0 by omega]; rfl)
        have en : m = n + k := (by omega)
        exact mv_iret dX6_append_63 rfl rfl ⟨(by rw [en]), fr, (by rw [← en]; exact H3), (by rw [e9]; exact H4)⟩
      · have c19 : ¬ (160 ≤ m) := fun z => c19 ((nI_leI (by omega) (by omega)).mpr z)
        refine mv_aload_n dX6_append_22 rfl ?_
        refine mv_getf (ci := 6) (f := 0) dX6_append_23 H3 rfl (by decide) wd_116 rfl ?_
        refine mv_aload_n dX6_append_26 rfl ?_
        refine mv_getf (ci := 6) (f := 3) dX6_append_27 H3 rfl (by decide) wd_119 rfl ?_
        refine mv_lload_n dX6_append_30 rfl ?_
        refine mv_bipush (v := nI 8) dX6_append_31 (by decide) ?_
        refine mv_iload dX6_append_33 rfl ?_
        refine mv_imul dX6_append_35 ?_
        refine mv_topI (y := nI (8 * (y - 1))) (pk_mul _ _) ?_
        refine mv_lushr dX6_append_36 ?_
        refine mv_l2i dX6_append_37 ?_
        refine mv_sipush (v := nI 255) dX6_append_38 (by decide) ?_
        refine mv_iand dX6_append_41 ?_
        refine mv_topI (y := nI (q_byt bb (y - 1))) (q_byt_u bb (by omega)) ?_
        refine mv_iastN (j := m) dX6_append_42 H4 rfl (by decide) (by omega) (fun h1 e2 => ?_)
        rw [upd_nI] at e2
        have H3 := mv_ne e2 (by decide) H3
        have H4 : h1[4]? = some (.inl (0, 160, .inl (fun j => nI (t_up f m (q_byt bb (y - 1)) j)))) := mv_eq e2 H4
        have fr := fr.set e2 (by decide)
        clear e2
        refine mv_aload_n dX6_append_43 rfl ?_
        refine mv_dup dX6_append_44 rfl ?_
        refine mv_getf (ci := 6) (f := 3) dX6_append_45 H3 rfl (by decide) wd_119 rfl ?_
        refine mv_iconst (v := nI 1) dX6_append_48 (by decide) ?_
        refine mv_iadd dX6_append_49 ?_
        refine mv_topI (y := nI (m + 1)) (nI_add _ _) ?_
        refine mv_putf (ci := 6) (f := 3) dX6_append_50 H3 rfl (by decide) wd_119 rfl rfl (fun _ => ⟨rfl, rfl⟩) (Nat.le_of_ble_eq_true rfl) ?_
        refine mv_topH (fun h3 e4 => ?_)
        have H3 : h3[3]? = some (.inr (6, [.ref 4, .ref 5, .ref 6, .int (nI (m + 1)), .int (nI a0), .int (nI cl), .int (nI fa), .int fp])) := mv_eq e4 H3
        have H4 := mv_ne e4 (by decide) H4
        have fr := fr.set e4 (by decide)
        clear e4
        refine mv_iinc (v := nI (y - 1) - nI 1) dX6_append_53 rfl (q_dc _) (by decide) ?_
        refine mv_goto (tgt := 5) dX6_append_56 (by decide) ?_
        exact ih (y - 1) (m + 1) (t_up f m (q_byt bb (y - 1))) h3 (by omega) fr H3 H4 (by omega) (by omega) (by rw [← hq]; exact (q_ap_s cy).symm)
set_option maxRecDepth 100000 in
theorem k_X6_append {ev : mv_E} {h : mv_H} {n : Nat} {tx : Nat → Nat} {a0 : Nat} {cl : Nat} {fa : Nat} {fp : Int32} {k : Nat} {bb : Int64} (H3 : h[3]? = some (.inr (6, [.ref 4, .ref 5, .ref 6, .int (nI n), .int (nI a0), .int (nI cl), .int (nI fa), .int fp]))) (H4 : h[4]? = some (.inl (0, 160, .inl (fun j => nI (tx j))))) (hkn : k + n ≤ 160) (hk8 : k ≤ 8) : ∃ h2, mv_K ev mX6_append [.ref 3, .int (nI k), .long bb] h (some (.int (nI (n + k)))) h2 ∧ mv_fra [3, 4] h h2 ∧ h2[3]? = some (.inr (6, [.ref 4, .ref 5, .ref 6, .int (nI (n + k)), .int (nI a0), .int (nI cl), .int (nI fa), .int fp])) ∧ h2[4]? = some (.inl (0, 160, .inl (fun j => nI (q_ap bb k n tx j)))) := by
  suffices g0 : mv_g ev mX6_append 0 (mv_ent [.ref 3, .int (nI k), .long bb] (mv_ml mX6_append)) [] h (fun r g => r = some (.int (nI (n + k))) ∧ mv_fra [3, 4] h g ∧ g[3]? = some (.inr (6, [.ref 4, .ref 5, .ref 6, .int (nI (n + k)), .int (nI a0), .int (nI cl), .int (nI fa), .int fp])) ∧ g[4]? = some (.inl (0, 160, .inl (fun j => nI (q_ap bb k n tx j))))) from (by obtain ⟨r0, h0, K0, q0, Q0⟩ := mv_Kex g0; subst q0; exact ⟨h0, K0, Q0⟩)
  show mv_g ev mX6_append 0 [.ref 3, .int (nI k), .long bb, .null, .null] [] h _
  have fr : mv_fra [3, 4] h h := mv_fra.rf
  refine mv_iload_n dX6_append_0 rfl ?_
  refine mv_iconst (v := nI 1) dX6_append_1 (by decide) ?_
  refine mv_isub dX6_append_2 ?_
  refine mv_topI (y := nI k - nI 1) rfl ?_
  refine mv_istore dX6_append_3 (by decide) ?_
  exact l_X6_append hkn hk8 (k + 1) k n tx h (by omega) fr H3 H4 (Nat.le_refl _) rfl rfl
