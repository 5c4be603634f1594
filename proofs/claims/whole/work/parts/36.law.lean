theorem q_ts_ok {n : Nat} {tx : Nat → Nat} {r : q_R} (ha : r.1 ≤ n) : (r.1 ≤ (q_ts n tx r).2.1 ∧ (q_ts n tx r).2.1 ≤ n) ∧ (q_ts n tx r).1 ≤ 3 ∧ ((q_ts n tx r).1 = 0 → r.1 + 1 ≤ (q_ts n tx r).2.1) ∧ (q_ts n tx r).2.2.2.2.2.2.2 = r.2.2.2.2.2.2 := by
  have h1 := q_sk_in (tx := tx) (n - r.1) r.1 ha
  unfold q_ts
  split
  · rename_i c
    exact ⟨⟨Nat.le_succ_of_le h1.1, c.1⟩, Nat.zero_le _, fun _ => Nat.succ_le_succ h1.1, rfl⟩
  · exact ⟨h1, Nat.le_of_ble_eq_true rfl, fun z => q_no1 z, rfl⟩
theorem q_tm_ok {n : Nat} {tx : Nat → Nat} {r : q_R} {t : Nat × Nat × Int32 × Int32} {a : Nat} (h1 : a ≤ t.2.1) (h2 : t.2.1 ≤ n) (h3 : t.1 ≤ 2) : (a ≤ (q_tm n tx r t).2.1 ∧ (q_tm n tx r t).2.1 ≤ n) ∧ (q_tm n tx r t).1 ≤ 3 ∧ ((q_tm n tx r t).1 = 0 → a + 1 ≤ (q_tm n tx r t).2.1) ∧ (q_tm n tx r t).2.2.2.2.2.2.2 = r.2.2.2.2.2.2 := by
  unfold q_tm
  split
  · have h := q_ts_ok (n := n) (tx := tx) (r := (t.2.1, t.2.2.1, r.2.2.1, r.2.2.2.1, t.2.2.2, upd r.2.2.2.2.2.1 6 t.2.2.2, r.2.2.2.2.2.2)) h2
    exact ⟨⟨Nat.le_trans h1 h.1.1, h.1.2⟩, h.2.1, fun z => Nat.le_trans (Nat.succ_le_succ h1) (h.2.2.1 z), h.2.2.2⟩
  · rename_i c
    exact ⟨⟨h1, h2⟩, Nat.le_succ_of_le h3, fun z => absurd z c, rfl⟩
theorem q_tw5_ok {n : Nat} {tx : Nat → Nat} {r : q_R} {s e a : Nat} (h1 : a ≤ s) (h2 : s ≤ e) (h3 : e ≤ n) : (a ≤ (q_tw5 n tx r s e).2.1 ∧ (q_tw5 n tx r s e).2.1 ≤ n) ∧ (q_tw5 n tx r s e).1 ≤ 3 ∧ ((q_tw5 n tx r s e).1 = 0 → a + 1 ≤ (q_tw5 n tx r s e).2.1) ∧ (q_tw5 n tx r s e).2.2.2.2.2.2.2 = r.2.2.2.2.2.2 := by
  unfold q_tw5
  split
  · have h := q_tn_ok (n := n) (tx := tx) (lo := 0) (hi := 27) (a := e) (fp := r.2.1) (nu := r.2.2.2.2.1) h3
    exact q_tm_ok (r := (e, r.2.1, q_wv tx s (e - s), e, r.2.2.2.2)) (Nat.le_trans h1 (Nat.le_trans h2 h.1.1)) h.1.2 h.2
  · exact ⟨⟨h1, Nat.le_trans h2 h3⟩, Nat.le_of_ble_eq_true rfl, fun z => q_no1 z, rfl⟩
theorem q_t1_ok {n : Nat} {tx : Nat → Nat} {c : Nat} {r : q_R} {t : Nat × Nat × Int32 × Int32} {a : Nat} (h1 : a ≤ t.2.1) (h2 : t.2.1 ≤ n) (h3 : t.1 ≤ 2) : (a ≤ (q_t1 n tx c r t).2.1 ∧ (q_t1 n tx c r t).2.1 ≤ n) ∧ (q_t1 n tx c r t).1 ≤ 3 ∧ ((q_t1 n tx c r t).1 = 0 → a + 1 ≤ (q_t1 n tx c r t).2.1) ∧ (q_t1 n tx c r t).2.2.2.2.2.2.2 = r.2.2.2.2.2.2 := by
  have k1 := q_sk_in (tx := tx) (n - t.2.1) t.2.1 h2
  have k2 := q_ew_in (tx := tx) (n - q_sk n tx (n - t.2.1) t.2.1) _ k1.2
  unfold q_t1
  split
  · split
    · exact q_tw5_ok (r := (t.2.1, t.2.2.1, r.2.2.1, r.2.2.2.1, t.2.2.2, upd r.2.2.2.2.2.1 c t.2.2.2, r.2.2.2.2.2.2)) (Nat.le_trans h1 k1.1) k2.1 k2.2
    · have h := q_ts_ok (n := n) (tx := tx) (r := (t.2.1, t.2.2.1, r.2.2.1, r.2.2.2.1, t.2.2.2, upd r.2.2.2.2.2.1 c t.2.2.2, r.2.2.2.2.2.2)) h2
      exact ⟨⟨Nat.le_trans h1 h.1.1, h.1.2⟩, h.2.1, fun z => Nat.le_trans (Nat.succ_le_succ h1) (h.2.2.1 z), h.2.2.2⟩
  · rename_i c
    exact ⟨⟨h1, h2⟩, Nat.le_succ_of_le h3, fun z => absurd z c, rfl⟩
theorem q_crx_n {tx : Nat → Nat} {k e : Nat} : q_n (q_crx tx k e) ≤ 7 := by
  rcases q_crx_c tx k e with c | ⟨i, h1, _, h2⟩
  · rw [c]; decide
  · rw [h2, q_n_n (by omega)]; exact h1
theorem q_tc_ok {n : Nat} {tx : Nat → Nat} {r : q_R} (ha : r.1 ≤ n) (hts : r.2.2.2.2.2.2 < 256) : (r.1 ≤ (q_tc n tx r).2.1 ∧ (q_tc n tx r).2.1 ≤ n) ∧ (q_tc n tx r).1 ≤ 3 ∧ ((q_tc n tx r).1 = 0 → r.1 + 1 ≤ (q_tc n tx r).2.1) ∧ (q_tc n tx r).2.2.2.2.2.2.2 < 256 := by
  have k1 := q_sk_in (tx := tx) (n - r.1) r.1 ha
  have k2 := q_ew_in (tx := tx) (n - q_sk n tx (n - r.1) r.1) _ k1.2
  have k3 := q_or_lt hts (q_crx_n (tx := tx) (k := q_sk n tx (n - r.1) r.1) (e := q_ew n tx (n - q_sk n tx (n - r.1) r.1) (q_sk n tx (n - r.1) r.1)))
  unfold q_tc q_tc2
  split
  · exact ⟨k1, Nat.le_of_ble_eq_true rfl, fun z => q_no1 z, hts⟩
  · split
    · exact ⟨k1, Nat.le_of_ble_eq_true rfl, fun z => q_no3 z, hts⟩
    · have h := q_tn_ok (n := n) (tx := tx) (lo := q_lo1 (q_n (q_crx tx (q_sk n tx (n - r.1) r.1) (q_ew n tx (n - q_sk n tx (n - r.1) r.1) (q_sk n tx (n - r.1) r.1))))) (hi := q_mo (q_n (q_crx tx (q_sk n tx (n - r.1) r.1) (q_ew n tx (n - q_sk n tx (n - r.1) r.1) (q_sk n tx (n - r.1) r.1))))) (a := q_ew n tx (n - q_sk n tx (n - r.1) r.1) (q_sk n tx (n - r.1) r.1)) (fp := r.2.1) (nu := r.2.2.2.2.1) k2.2
      have h2 := q_t1_ok (n := n) (tx := tx) (c := q_n (q_crx tx (q_sk n tx (n - r.1) r.1) (q_ew n tx (n - q_sk n tx (n - r.1) r.1) (q_sk n tx (n - r.1) r.1)))) (r := (q_ew n tx (n - q_sk n tx (n - r.1) r.1) (q_sk n tx (n - r.1) r.1), r.2.1, q_wv tx (q_sk n tx (n - r.1) r.1) (q_ew n tx (n - q_sk n tx (n - r.1) r.1) (q_sk n tx (n - r.1) r.1) - q_sk n tx (n - r.1) r.1), q_ew n tx (n - q_sk n tx (n - r.1) r.1) (q_sk n tx (n - r.1) r.1), r.2.2.2.2.1, r.2.2.2.2.2.1, r.2.2.2.2.2.2 ||| 2 ^ q_n (q_crx tx (q_sk n tx (n - r.1) r.1) (q_ew n tx (n - q_sk n tx (n - r.1) r.1) (q_sk n tx (n - r.1) r.1))))) (Nat.le_trans k1.1 (Nat.le_trans k2.1 h.1.1)) h.1.2 h.2
      exact ⟨h2.1, h2.2.1, h2.2.2.1, by rw [h2.2.2.2]; exact k3⟩
/-- clause by clause: how many, the fault -/
noncomputable def q_xl (n : Nat) (tx : Nat → Nat) : Nat → Nat → Nat → q_R → Nat × Nat × q_R
  | 0, y, f, r => (y, f, r)
  | g + 1, y, f, r => if f = 0 then (if q_sk n tx (n - r.1) r.1 < n then q_xl n tx g (y + 1) (q_tc n tx (q_sk n tx (n - r.1) r.1, r.2)).1 (q_tc n tx (q_sk n tx (n - r.1) r.1, r.2)).2 else (y, f, (q_sk n tx (n - r.1) r.1, r.2))) else (y, f, r)
theorem q_xl_n {n : Nat} {tx : Nat → Nat} {g y f : Nat} {r : q_R} (h : ¬ f = 0) : q_xl n tx g y f r = (y, f, r) := by
  cases g with
  | zero => rfl
  | succ g => exact if_neg h
theorem q_xl_e {n : Nat} {tx : Nat → Nat} {g y f : Nat} {r : q_R} (hg : 0 < g) (h : f = 0) (h2 : ¬ q_sk n tx (n - r.1) r.1 < n) : q_xl n tx g y f r = (y, f, (q_sk n tx (n - r.1) r.1, r.2)) := by
  obtain ⟨k, rfl⟩ : ∃ k, g = k + 1 := ⟨g - 1, by omega⟩
  exact (if_pos h).trans (if_neg h2)
theorem q_xl_y {n : Nat} {tx : Nat → Nat} {g y f : Nat} {r : q_R} (hg : 0 < g) (h : f = 0) (h2 : q_sk n tx (n - r.1) r.1 < n) : q_xl n tx g y f r = q_xl n tx (g - 1) (y + 1) (q_tc n tx (q_sk n tx (n - r.1) r.1, r.2)).1 (q_tc n tx (q_sk n tx (n - r.1) r.1, r.2)).2 := by
  obtain ⟨k, rfl⟩ : ∃ k, g = k + 1 := ⟨g - 1, by omega⟩
  exact (if_pos h).trans (if_pos h2)
noncomputable def q_xv (n : Nat) (tx : Nat → Nat) (r : q_R) : Nat × Nat × q_R := q_xl n tx (n + 2) 0 0 (0, -1, r.2.2.1, r.2.2.2.1, r.2.2.2.2.1, q_cl (mv_at [20, 40, 100, 10, 1, -1, -1, 0]) r.2.2.2.2.2.1, 0)
def q_xa (t : Nat × Nat × q_R) : Int32 := if t.2.1 = 0 then nI t.1 else -10 - nI t.2.1
def q_xw (t : Nat × Nat × q_R) (lw : Nat → Int32) : Nat → Int32 := if t.2.1 = 0 then q_cl t.2.2.2.2.2.2.2.1 lw else lw
set_option maxRecDepth 100000 in
theorem l_X12_law {ev : mv_E} {h : mv_H} {xg : Int32} {xc : Int32} {xw : Int32} {b : t_B} {t : Nat} {n : Nat} {tx : Nat → Nat} {rq : q_R} {lw : Nat → Int32}  (hn : n ≤ 160) (htx : ∀ i, tx i < 256) : ∀ (fu : Nat) (y : Nat) (f : Nat) (r2 : q_R), ∀ (g : mv_H), n + 1 < y + fu → mv_fra [52, 55, 53] h g → g[52]? = some (.inr (12, [.ref 53, .ref 54, .int (nI n), .int r2.2.1, .int (nI r2.1), .long (lN r2.2.2.1), .int (nI r2.2.2.2.1), .int r2.2.2.2.2.1, .ref 55, .int (nI r2.2.2.2.2.2.2), .int (nI b.1), .ref 56, .ref 57, .ref 58, .int (nI t), .int (nI b.2.1), .ref 59, .ref 60, .ref 61, .ref 62, .int xg, .ref 63, .ref 64, .ref 65, .ref 66, .ref 67, .ref 68, .ref 69, .int xc, .ref 70, .ref 71, .ref 72, .ref 73, .ref 74, .ref 75, .int xw, .ref 76, .ref 77, .ref 78, .ref 79, .ref 80])) → g[55]? = some (.inl (0, 8, .inl r2.2.2.2.2.2.1)) → g[54]? = some (.inl (0, 160, .inl (fun j => nI (tx j)))) → g[53]? = some (.inl (0, 8, .inl lw)) → (r2.1 ≤ n) → (f ≤ 3) → ((f = 0 → y ≤ r2.1) ∧ y ≤ n + 1) → (r2.2.2.2.2.2.2 < 256) → (q_xl n tx (n + 2 - y) y f r2 = q_xl n tx (n + 2) 0 0 (0, -1, rq.2.2.1, rq.2.2.2.1, rq.2.2.2.2.1, q_cl (mv_at [20, 40, 100, 10, 1, -1, -1, 0]) rq.2.2.2.2.2.1, 0)) → mv_g ev mX12_law 18 [.ref 52, .int (nI y), .int (nI f)] [] g (fun r g => r = some (.int (q_xa (q_xv n tx rq))) ∧ mv_fra [52, 55, 53] h g ∧ g[52]? = some (.inr (12, [.ref 53, .ref 54, .int (nI 0), .int (q_xv n tx rq).2.2.2.1, .int (nI (q_xv n tx rq).2.2.1), .long (lN (q_xv n tx rq).2.2.2.2.1), .int (nI (q_xv n tx rq).2.2.2.2.2.1), .int (q_xv n tx rq).2.2.2.2.2.2.1, .ref 55, .int (nI (q_xv n tx rq).2.2.2.2.2.2.2.2), .int (nI b.1), .ref 56, .ref 57, .ref 58, .int (nI t), .int (nI b.2.1), .ref 59, .ref 60, .ref 61, .ref 62, .int xg, .ref 63, .ref 64, .ref 65, .ref 66, .ref 67, .ref 68, .ref 69, .int xc, .ref 70, .ref 71, .ref 72, .ref 73, .ref 74, .ref 75, .int xw, .ref 76, .ref 77, .ref 78, .ref 79, .ref 80])) ∧ g[55]? = some (.inl (0, 8, .inl (q_xv n tx rq).2.2.2.2.2.2.2.1)) ∧ g[53]? = some (.inl (0, 8, .inl (q_xw (q_xv n tx rq) lw)))) := by
  intro fu
  induction fu with
  | zero => intro y f r2 g hm fr HX X55 X54 X53 hr1 hf3 hy ht8 hq; exact absurd hm (by omega)
  | succ fu ih =>
    intro y f r2 g hm fr HX X55 X54 X53 hr1 hf3 hy ht8 hq
    refine mv_iload_n dX12_law_18 rfl ?_
    refine mv_if_ne (tgt := 40) dX12_law_19 (by decide) (fun c19 => ?_) (fun c19 => ?_)
    · have c19 : ¬ (f = 0) := fun z => c19 ((nI_eq (b := 0) (by omega) (by omega)).mpr z)
      refine mv_aload_n dX12_law_40 rfl ?_
      refine mv_iconst (v := nI 0) dX12_law_41 (by decide) ?_
      refine mv_putf (ci := 12) (f := 2) dX12_law_42 HX rfl (by decide) wd_1201 rfl rfl (fun _ => ⟨rfl, rfl⟩) (Nat.le_of_ble_eq_true rfl) ?_
      refine mv_topH (fun h1 e2 => ?_)
      have HX : h1[52]? = some (.inr (12, [.ref 53, .ref 54, .int (nI 0), .int r2.2.1, .int (nI r2.1), .long (lN r2.2.2.1), .int (nI r2.2.2.2.1), .int r2.2.2.2.2.1, .ref 55, .int (nI r2.2.2.2.2.2.2), .int (nI b.1), .ref 56, .ref 57, .ref 58, .int (nI t), .int (nI b.2.1), .ref 59, .ref 60, .ref 61, .ref 62, .int xg, .ref 63, .ref 64, .ref 65, .ref 66, .ref 67, .ref 68, .ref 69, .int xc, .ref 70, .ref 71, .ref 72, .ref 73, .ref 74, .ref 75, .int xw, .ref 76, .ref 77, .ref 78, .ref 79, .ref 80])) := mv_eq e2 HX
      have X54 := mv_ne e2 (by decide) X54
      have X55 := mv_ne e2 (by decide) X55
      have X53 := mv_ne e2 (by decide) X53
      have fr := fr.set e2 (by decide)
      clear e2
      refine mv_iload_n dX12_law_45 rfl ?_
      refine mv_if_le (tgt := 54) dX12_law_46 (by decide) (fun z => absurd z ((fun q => c19 (by have q2 := (nI_leI (b := 0) (by omega) (by omega)).mp q; omega)))) (fun c46 => ?_)
      refine mv_bipush (v := (-10)) dX12_law_49 (by decide) ?_
      refine mv_iload_n dX12_law_51 rfl ?_
      refine mv_isub dX12_law_52 ?_
      have e9 : (q_xv n tx rq) = (y, f, r2) := (by unfold q_xv; rw [← hq]; exact q_xl_n c19)
      have ea : q_xa (q_xv n tx rq) = -10 - nI f := (by rw [e9]; exact if_neg c19)
      have ew : q_xw (q_xv n tx rq) lw = lw := (by rw [e9]; exact if_neg c19)
      exact mv_iret dX12_law_53 rfl rfl ⟨(by rw [ea]), fr, (by rw [e9]; exact HX), (by rw [e9]; exact X55), (by rw [ew]; exact X53)⟩
    · have c19 : f = 0 := (nI_eq (b := 0) (by omega) (by omega)).mp c19
      refine mv_aload_n dX12_law_22 rfl ?_
      obtain ⟨h3, K4, f5, y6⟩ := (k_X12_here (ev := ev) (xg := xg) (xc := xc) (xw := xw) (b := b) (t := t) (n := n) (tx := tx) (rq := r2) HX X54 hn htx hr1)
      refine mv_cV0 (ci := 12) dX12_law_23 lk_X12_law_141 HX rfl (Nat.le_of_ble_eq_true rfl) (Nat.le_of_ble_eq_true rfl) K4 ?_
      have HX : h3[52]? = some (.inr (12, [.ref 53, .ref 54, .int (nI n), .int r2.2.1, .int (nI (q_sk n tx (n - r2.1) r2.1)), .long (lN r2.2.2.1), .int (nI r2.2.2.2.1), .int r2.2.2.2.2.1, .ref 55, .int (nI r2.2.2.2.2.2.2), .int (nI b.1), .ref 56, .ref 57, .ref 58, .int (nI t), .int (nI b.2.1), .ref 59, .ref 60, .ref 61, .ref 62, .int xg, .ref 63, .ref 64, .ref 65, .ref 66, .ref 67, .ref 68, .ref 69, .int xc, .ref 70, .ref 71, .ref 72, .ref 73, .ref 74, .ref 75, .int xw, .ref 76, .ref 77, .ref 78, .ref 79, .ref 80])) := y6
      have X54 := f5.get (by decide) X54
      have X55 := f5.get (by decide) X55
      have X53 := f5.get (by decide) X53
      have fr := fr.trans f5 (by decide)
      refine mv_if_lt (tgt := 40) dX12_law_26 (by decide) (fun c26 => ?_) (fun c26 => ?_)
      · have c26 : ¬ (q_sk n tx (n - r2.1) r2.1) < n := (q_by_neg htx _).mp c26
        refine mv_aload_n dX12_law_40 rfl ?_
        refine mv_iconst (v := nI 0) dX12_law_41 (by decide) ?_
        refine mv_putf (ci := 12) (f := 2) dX12_law_42 HX rfl (by decide) wd_1201 rfl rfl (fun _ => ⟨rfl, rfl⟩) (Nat.le_of_ble_eq_true rfl) ?_
        refine mv_topH (fun h7 e8 => ?_)
        have HX : h7[52]? = some (.inr (12, [.ref 53, .ref 54, .int (nI 0), .int r2.2.1, .int (nI (q_sk n tx (n - r2.1) r2.1)), .long (lN r2.2.2.1), .int (nI r2.2.2.2.1), .int r2.2.2.2.2.1, .ref 55, .int (nI r2.2.2.2.2.2.2), .int (nI b.1), .ref 56, .ref 57, .ref 58, .int (nI t), .int (nI b.2.1), .ref 59, .ref 60, .ref 61, .ref 62, .int xg, .ref 63, .ref 64, .ref 65, .ref 66, .ref 67, .ref 68, .ref 69, .int xc, .ref 70, .ref 71, .ref 72, .ref 73, .ref 74, .ref 75, .int xw, .ref 76, .ref 77, .ref 78, .ref 79, .ref 80])) := mv_eq e8 HX
        have X54 := mv_ne e8 (by decide) X54
        have X55 := mv_ne e8 (by decide) X55
        have X53 := mv_ne e8 (by decide) X53
        have fr := fr.set e8 (by decide)
        clear e8
        refine mv_iload_n dX12_law_45 rfl ?_
        refine mv_if_le (tgt := 54) dX12_law_46 (by decide) (fun c46 => ?_) (fun z => absurd ((by rw [c19]; decide)) z)
        refine mv_aload_n dX12_law_54 rfl ?_
        obtain ⟨h9, K10, f11, y12⟩ := (k_X12_keepLaw (ev := ev) (xt := (nI 0)) (xf := r2.2.1) (xa := (nI (q_sk n tx (n - r2.1) r2.1))) (xo := (lN r2.2.2.1)) (xe := (nI r2.2.2.2.1)) (xu := r2.2.2.2.2.1) (xs := (nI r2.2.2.2.2.2.2)) (xg := xg) (xc := xc) (xw := xw) (b := b) (t := t) (lw := lw) (rd := r2.2.2.2.2.2.1) HX X53 X55)
        refine mv_cV0 (ci := 12) dX12_law_55 lk_X12_law_102 HX rfl (Nat.le_of_ble_eq_true rfl) (Nat.le_of_ble_eq_true rfl) K10 ?_
        have HX := f11.get (by decide) HX
        have X54 := f11.get (by decide) X54
        have X55 := f11.get (by decide) X55
        have X53 : h9[53]? = some (.inl (0, 8, .inl (q_cl r2.2.2.2.2.2.1 lw))) := y12
        have fr := fr.trans f11 (by decide)
        refine mv_iload_n dX12_law_58 rfl ?_
        have e9 : (q_xv n tx rq) = (y, f, (q_sk n tx (n - r2.1) r2.1), r2.2) := (by unfold q_xv; rw [← hq]; exact q_xl_e (by omega) c19 c26)
        have ea : q_xa (q_xv n tx rq) = nI y := (by rw [e9]; exact if_pos c19)
        have ew : q_xw (q_xv n tx rq) lw = q_cl r2.2.2.2.2.2.1 lw := (by rw [e9]; exact if_pos c19)
        exact mv_iret dX12_law_59 rfl rfl ⟨(by rw [ea]), fr, (by rw [e9]; exact HX), (by rw [e9]; exact X55), (by rw [ew]; exact X53)⟩
      · have c26 : (q_sk n tx (n - r2.1) r2.1) < n := Classical.byContradiction (fun q => c26 ((q_by_neg htx _).mpr q))
        refine mv_aload_n dX12_law_29 rfl ?_
        obtain ⟨h13, K14, f15, y16, y17⟩ := (k_X12_takeClause (ev := ev) (xg := xg) (xc := xc) (xw := xw) (b := b) (t := t) (n := n) (tx := tx) (rq := ((q_sk n tx (n - r2.1) r2.1), r2.2)) HX X54 X55 hn htx (q_sk_in _ _ hr1).2 ht8)
        refine mv_cV0 (ci := 12) dX12_law_30 lk_X12_law_198 HX rfl (Nat.le_of_ble_eq_true rfl) (Nat.le_of_ble_eq_true rfl) K14 ?_
        have HX : h13[52]? = some (.inr (12, [.ref 53, .ref 54, .int (nI n), .int ((q_tc n tx ((q_sk n tx (n - r2.1) r2.1), r2.2)).2.2.1), .int (nI (q_tc n tx ((q_sk n tx (n - r2.1) r2.1), r2.2)).2.1), .long (lN (q_tc n tx ((q_sk n tx (n - r2.1) r2.1), r2.2)).2.2.2.1), .int (nI (q_tc n tx ((q_sk n tx (n - r2.1) r2.1), r2.2)).2.2.2.2.1), .int ((q_tc n tx ((q_sk n tx (n - r2.1) r2.1), r2.2)).2.2.2.2.2.1), .ref 55, .int (nI (q_tc n tx ((q_sk n tx (n - r2.1) r2.1), r2.2)).2.2.2.2.2.2.2), .int (nI b.1), .ref 56, .ref 57, .ref 58, .int (nI t), .int (nI b.2.1), .ref 59, .ref 60, .ref 61, .ref 62, .int xg, .ref 63, .ref 64, .ref 65, .ref 66, .ref 67, .ref 68, .ref 69, .int xc, .ref 70, .ref 71, .ref 72, .ref 73, .ref 74, .ref 75, .int xw, .ref 76, .ref 77, .ref 78, .ref 79, .ref 80])) := y16
        have X54 := f15.get (by decide) X54
        have X55 : h13[55]? = some (.inl (0, 8, .inl (q_tc n tx ((q_sk n tx (n - r2.1) r2.1), r2.2)).2.2.2.2.2.2.1)) := y17
        have X53 := f15.get (by decide) X53
        have fr := fr.trans f15 (by decide)
        have mk := q_sk_in (tx := tx) (n - r2.1) r2.1 hr1
        have m2 := q_tc_ok (n := n) (tx := tx) (r := ((q_sk n tx (n - r2.1) r2.1), r2.2)) mk.2 ht8
        have m3 : (q_sk n tx (n - r2.1) r2.1) + 1 ≤ (q_tc n tx ((q_sk n tx (n - r2.1) r2.1), r2.2)).2.1 ∨ ¬ (q_tc n tx ((q_sk n tx (n - r2.1) r2.1), r2.2)).1 = 0 := (by by_cases z : (q_tc n tx ((q_sk n tx (n - r2.1) r2.1), r2.2)).1 = 0; exact Or.inl (m2.2.2.1 z); exact Or.inr z)
        refine mv_istore_n dX12_law_33 (by decide) ?_
        refine mv_iinc (v := nI (y + 1)) dX12_law_34 rfl (mv_inc y 1) (by decide) ?_
        refine mv_goto (tgt := 18) dX12_law_37 (by decide) ?_
        exact ih (y + 1) (q_tc n tx ((q_sk n tx (n - r2.1) r2.1), r2.2)).1 (q_tc n tx ((q_sk n tx (n - r2.1) r2.1), r2.2)).2 h13 (by omega) fr HX X55 X54 X53 m2.1.2 m2.2.1 ⟨fun z => (by have m4 := m3.resolve_right (fun q => q z); have m5 := hy.1 c19; omega), (by have m5 := hy.1 c19; omega)⟩ m2.2.2.2 (by rw [← hq, q_xl_y (g := n + 2 - y) (by have m5 := hy.1 c19; omega) c19 c26, Nat.sub_sub])
set_option maxRecDepth 100000 in
theorem k_X12_law {ev : mv_E} {h : mv_H} {xg : Int32} {xc : Int32} {xw : Int32} {b : t_B} {t : Nat} {n : Nat} {tx : Nat → Nat} {rq : q_R} {lw : Nat → Int32} (HX : h[52]? = some (.inr (12, [.ref 53, .ref 54, .int (nI n), .int rq.2.1, .int (nI rq.1), .long (lN rq.2.2.1), .int (nI rq.2.2.2.1), .int rq.2.2.2.2.1, .ref 55, .int (nI rq.2.2.2.2.2.2), .int (nI b.1), .ref 56, .ref 57, .ref 58, .int (nI t), .int (nI b.2.1), .ref 59, .ref 60, .ref 61, .ref 62, .int xg, .ref 63, .ref 64, .ref 65, .ref 66, .ref 67, .ref 68, .ref 69, .int xc, .ref 70, .ref 71, .ref 72, .ref 73, .ref 74, .ref 75, .int xw, .ref 76, .ref 77, .ref 78, .ref 79, .ref 80]))) (X54 : h[54]? = some (.inl (0, 160, .inl (fun j => nI (tx j))))) (X55 : h[55]? = some (.inl (0, 8, .inl rq.2.2.2.2.2.1))) (X53 : h[53]? = some (.inl (0, 8, .inl lw))) (hn : n ≤ 160) (htx : ∀ i, tx i < 256) : ∃ h2, mv_K ev mX12_law [.ref 52] h (some (.int (q_xa (q_xv n tx rq)))) h2 ∧ mv_fra [52, 55, 53] h h2 ∧ h2[52]? = some (.inr (12, [.ref 53, .ref 54, .int (nI 0), .int (q_xv n tx rq).2.2.2.1, .int (nI (q_xv n tx rq).2.2.1), .long (lN (q_xv n tx rq).2.2.2.2.1), .int (nI (q_xv n tx rq).2.2.2.2.2.1), .int (q_xv n tx rq).2.2.2.2.2.2.1, .ref 55, .int (nI (q_xv n tx rq).2.2.2.2.2.2.2.2), .int (nI b.1), .ref 56, .ref 57, .ref 58, .int (nI t), .int (nI b.2.1), .ref 59, .ref 60, .ref 61, .ref 62, .int xg, .ref 63, .ref 64, .ref 65, .ref 66, .ref 67, .ref 68, .ref 69, .int xc, .ref 70, .ref 71, .ref 72, .ref 73, .ref 74, .ref 75, .int xw, .ref 76, .ref 77, .ref 78, .ref 79, .ref 80])) ∧ h2[55]? = some (.inl (0, 8, .inl (q_xv n tx rq).2.2.2.2.2.2.2.1)) ∧ h2[53]? = some (.inl (0, 8, .inl (q_xw (q_xv n tx rq) lw))) := by
  suffices g0 : mv_g ev mX12_law 0 (mv_ent [.ref 52] (mv_ml mX12_law)) [] h (fun r g => r = some (.int (q_xa (q_xv n tx rq))) ∧ mv_fra [52, 55, 53] h g ∧ g[52]? = some (.inr (12, [.ref 53, .ref 54, .int (nI 0), .int (q_xv n tx rq).2.2.2.1, .int (nI (q_xv n tx rq).2.2.1), .long (lN (q_xv n tx rq).2.2.2.2.1), .int (nI (q_xv n tx rq).2.2.2.2.2.1), .int (q_xv n tx rq).2.2.2.2.2.2.1, .ref 55, .int (nI (q_xv n tx rq).2.2.2.2.2.2.2.2), .int (nI b.1), .ref 56, .ref 57, .ref 58, .int (nI t), .int (nI b.2.1), .ref 59, .ref 60, .ref 61, .ref 62, .int xg, .ref 63, .ref 64, .ref 65, .ref 66, .ref 67, .ref 68, .ref 69, .int xc, .ref 70, .ref 71, .ref 72, .ref 73, .ref 74, .ref 75, .int xw, .ref 76, .ref 77, .ref 78, .ref 79, .ref 80])) ∧ g[55]? = some (.inl (0, 8, .inl (q_xv n tx rq).2.2.2.2.2.2.2.1)) ∧ g[53]? = some (.inl (0, 8, .inl (q_xw (q_xv n tx rq) lw)))) from (by obtain ⟨r0, h0, K0, q0, Q0⟩ := mv_Kex g0; subst q0; exact ⟨h0, K0, Q0⟩)
  show mv_g ev mX12_law 0 [.ref 52, .null, .null] [] h _
  have fr : mv_fra [52, 55, 53] h h := mv_fra.rf
  refine mv_aload_n dX12_law_0 rfl ?_
  refine mv_iconst (v := (-1)) dX12_law_1 (by decide) ?_
  refine mv_putf (ci := 12) (f := 3) dX12_law_2 HX rfl (by decide) wd_1202 rfl rfl (fun _ => ⟨rfl, rfl⟩) (Nat.le_of_ble_eq_true rfl) ?_
  refine mv_topH (fun h1 e2 => ?_)
  have HX : h1[52]? = some (.inr (12, [.ref 53, .ref 54, .int (nI n), .int (-1), .int (nI rq.1), .long (lN rq.2.2.1), .int (nI rq.2.2.2.1), .int rq.2.2.2.2.1, .ref 55, .int (nI rq.2.2.2.2.2.2), .int (nI b.1), .ref 56, .ref 57, .ref 58, .int (nI t), .int (nI b.2.1), .ref 59, .ref 60, .ref 61, .ref 62, .int xg, .ref 63, .ref 64, .ref 65, .ref 66, .ref 67, .ref 68, .ref 69, .int xc, .ref 70, .ref 71, .ref 72, .ref 73, .ref 74, .ref 75, .int xw, .ref 76, .ref 77, .ref 78, .ref 79, .ref 80])) := mv_eq e2 HX
  have X54 := mv_ne e2 (by decide) X54
  have X55 := mv_ne e2 (by decide) X55
  have X53 := mv_ne e2 (by decide) X53
  have fr := fr.set e2 (by decide)
  clear e2
  refine mv_aload_n dX12_law_5 rfl ?_
  refine mv_iconst (v := nI 0) dX12_law_6 (by decide) ?_
  refine mv_putf (ci := 12) (f := 4) dX12_law_7 HX rfl (by decide) wd_1203 rfl rfl (fun _ => ⟨rfl, rfl⟩) (Nat.le_of_ble_eq_true rfl) ?_
  refine mv_topH (fun h3 e4 => ?_)
  have HX : h3[52]? = some (.inr (12, [.ref 53, .ref 54, .int (nI n), .int (-1), .int (nI 0), .long (lN rq.2.2.1), .int (nI rq.2.2.2.1), .int rq.2.2.2.2.1, .ref 55, .int (nI rq.2.2.2.2.2.2), .int (nI b.1), .ref 56, .ref 57, .ref 58, .int (nI t), .int (nI b.2.1), .ref 59, .ref 60, .ref 61, .ref 62, .int xg, .ref 63, .ref 64, .ref 65, .ref 66, .ref 67, .ref 68, .ref 69, .int xc, .ref 70, .ref 71, .ref 72, .ref 73, .ref 74, .ref 75, .int xw, .ref 76, .ref 77, .ref 78, .ref 79, .ref 80])) := mv_eq e4 HX
  have X54 := mv_ne e4 (by decide) X54
  have X55 := mv_ne e4 (by decide) X55
  have X53 := mv_ne e4 (by decide) X53
  have fr := fr.set e4 (by decide)
  clear e4
  refine mv_aload_n dX12_law_10 rfl ?_
  obtain ⟨h5, K6, f7, y8, y9⟩ := (k_X12_bare (ev := ev) (xg := xg) (xc := xc) (xw := xw) (b := b) (t := t) (n := n) (rq := (0, -1, rq.2.2.1, rq.2.2.2.1, rq.2.2.2.2.1, rq.2.2.2.2.2.1, rq.2.2.2.2.2.2)) HX X55)
  refine mv_cV0 (ci := 12) dX12_law_11 lk_X12_law_99 HX rfl (Nat.le_of_ble_eq_true rfl) (Nat.le_of_ble_eq_true rfl) K6 ?_
  have HX : h5[52]? = some (.inr (12, [.ref 53, .ref 54, .int (nI n), .int (-1), .int (nI 0), .long (lN rq.2.2.1), .int (nI rq.2.2.2.1), .int rq.2.2.2.2.1, .ref 55, .int (nI 0), .int (nI b.1), .ref 56, .ref 57, .ref 58, .int (nI t), .int (nI b.2.1), .ref 59, .ref 60, .ref 61, .ref 62, .int xg, .ref 63, .ref 64, .ref 65, .ref 66, .ref 67, .ref 68, .ref 69, .int xc, .ref 70, .ref 71, .ref 72, .ref 73, .ref 74, .ref 75, .int xw, .ref 76, .ref 77, .ref 78, .ref 79, .ref 80])) := y8
  have X54 := f7.get (by decide) X54
  have X55 : h5[55]? = some (.inl (0, 8, .inl (q_cl (mv_at [20, 40, 100, 10, 1, -1, -1, 0]) rq.2.2.2.2.2.1))) := y9
  have X53 := f7.get (by decide) X53
  have fr := fr.trans f7 (by decide)
  refine mv_iconst (v := nI 0) dX12_law_14 (by decide) ?_
  refine mv_istore_n dX12_law_15 (by decide) ?_
  refine mv_iconst (v := nI 0) dX12_law_16 (by decide) ?_
  refine mv_istore_n dX12_law_17 (by decide) ?_
  exact l_X12_law hn htx (n + 2) 0 0 (0, -1, rq.2.2.1, rq.2.2.2.1, rq.2.2.2.2.1, q_cl (mv_at [20, 40, 100, 10, 1, -1, -1, 0]) rq.2.2.2.2.2.1, 0) h5 (by omega) fr HX X55 X54 X53 (Nat.zero_le _) (Nat.zero_le _) ⟨fun _ => Nat.le_refl _, Nat.zero_le _⟩ (show 0 < 256 by decide) rfl
