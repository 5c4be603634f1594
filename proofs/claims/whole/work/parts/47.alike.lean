theorem q_BI_wr {t d p x : Nat} {b : t_B} (h : q_BI t b) (htd : t ≤ d) (hn : b.1 < 60) (hd : d ≤ 399) (hp : p < 64) (hx : x ≤ 9) : q_BI d (q_wr b d p x) := q_BI_up (q_BI_le h htd) hn h.2.1 hd hp hx
theorem q_BI_sd {t v : Nat} {b : t_B} (h : q_BI t b) (hv : v < 2147483648) : q_BI t (b.1, v, b.2.2) := ⟨h.1, hv, h.2.2⟩
theorem q_SI_sw {s : q_S} {k d p w : Nat} (h : q_SI s) (hn : s.1 < 100) (hk : k < 8) (hd : d ≤ 399) (hp : p < 64) (hw : w ≤ 399) : q_SI (q_sw s k d p w) := ⟨hn, t_up_P (P := fun x => x < 8) h.2.1 hk, t_up_P (P := fun x => x ≤ 399) h.2.2.1 hd, t_up_P (P := fun x => x < 64) h.2.2.2.1 hp, t_up_P (P := fun x => x ≤ 399) h.2.2.2.2 hw⟩
theorem q_WI_u {wa : Nat → Nat} {cf ct : Nat → Int32} {k p : Nat} {a e : Int32} (h : q_WI wa cf ct) (hp : p < 64) (hab : a = -1 ∨ (nI 0 ≤ a ∧ a ≤ nI 399) ∧ (a ≤ e ∧ e ≤ nI 399)) : q_WI (t_up wa k p) (upd cf k a) (upd ct k e) := by
  refine ⟨t_up_P (P := fun x => x < 64) h.1 hp, fun i => ?_⟩
  unfold upd
  by_cases c : i = k
  · rw [if_pos c, if_pos c]
    rcases hab with e1 | ⟨h1, h2⟩
    · exact Or.inl e1
    · obtain ⟨x, _, x2, rfl⟩ := mv_in_n (by decide) h1 (by decide)
      obtain ⟨y, y1, y2, rfl⟩ := q_ton (by omega) h2
      exact Or.inr ⟨x, y, y1, y2, rfl, rfl⟩
  · rw [if_neg c, if_neg c]
    exact h.2 i
theorem q_CI_cw {c : q_C} {t p m x a e q : Nat} (h : q_CI c) (hn : c.1 < 12) (hta : t < a) (hae : a ≤ e) (he : e ≤ 399) (hp : p < 64) (hm : m < 8) (h1 : 1 ≤ x) (h9 : x ≤ 9) (hq : q ≤ 100) : q_CI (q_cw c t p m x a e q) := by
  refine ⟨hn, fun i hi => ?_⟩
  have hi2 : i < c.1 + 1 := hi
  by_cases ei : i = c.1
  · subst ei
    have e1 : (q_cw c t p m x a e q).2.1 c.1 = t := t_up_eq _ _ _
    have e2 : (q_cw c t p m x a e q).2.2.1 c.1 = p := t_up_eq _ _ _
    have e3 : (q_cw c t p m x a e q).2.2.2.1 c.1 = m := t_up_eq _ _ _
    have e4 : (q_cw c t p m x a e q).2.2.2.2.1 c.1 = x := t_up_eq _ _ _
    have e5 : (q_cw c t p m x a e q).2.2.2.2.2.1 c.1 = a := t_up_eq _ _ _
    have e6 : (q_cw c t p m x a e q).2.2.2.2.2.2.1 c.1 = e := t_up_eq _ _ _
    have e7 : (q_cw c t p m x a e q).2.2.2.2.2.2.2 c.1 = q := t_up_eq _ _ _
    rw [e1, e2, e3, e4, e5, e6, e7]
    exact ⟨⟨hta, hae, he⟩, hp, hm, ⟨h1, h9⟩, hq⟩
  · have e1 : (q_cw c t p m x a e q).2.1 i = c.2.1 i := t_up_ne _ _ ei
    have e2 : (q_cw c t p m x a e q).2.2.1 i = c.2.2.1 i := t_up_ne _ _ ei
    have e3 : (q_cw c t p m x a e q).2.2.2.1 i = c.2.2.2.1 i := t_up_ne _ _ ei
    have e4 : (q_cw c t p m x a e q).2.2.2.2.1 i = c.2.2.2.2.1 i := t_up_ne _ _ ei
    have e5 : (q_cw c t p m x a e q).2.2.2.2.2.1 i = c.2.2.2.2.2.1 i := t_up_ne _ _ ei
    have e6 : (q_cw c t p m x a e q).2.2.2.2.2.2.1 i = c.2.2.2.2.2.2.1 i := t_up_ne _ _ ei
    have e7 : (q_cw c t p m x a e q).2.2.2.2.2.2.2 i = c.2.2.2.2.2.2.2 i := t_up_ne _ _ ei
    rw [e1, e2, e3, e4, e5, e6, e7]
    exact h.2 i (by omega)
theorem q_WOI_ww {w : q_W} {d p x : Nat} (h : q_WOI w) (hn : w.1 < 12) (hd : d ≤ 398) (hp : p < 64) (hx : x ≤ 2) : q_WOI (q_ww w d p x) := ⟨hn, t_up_P (P := fun x => x ≤ 398) h.2.1 hd, t_up_P (P := fun x => x < 64) h.2.2.1 hp, t_up_P (P := fun x => x ≤ 2) h.2.2.2 hx⟩
theorem q_ap_lt (b : Int64) (y : Nat) : ∀ (n : Nat) (tx : Nat → Nat), (∀ i, tx i < 256) → ∀ i, q_ap b y n tx i < 256 := by
  induction y with
  | zero => intro n tx h; exact h
  | succ y ih => intro n tx h; exact ih _ _ (t_up_P (P := fun x => x < 256) h (q_byt_lt b y))
theorem q_lp_ti {n : Nat} {tx : Nat → Nat} (f : Nat) : ∀ v : q_V, v.1.1 ≤ n → v.1.2.1 ≤ 3 → (∀ i, v.2.2 i ≤ 1) → ∀ i, (q_lp n tx f v).2.2 i ≤ 1 := by
  induction f with
  | zero => intro v _ _ h; exact h
  | succ f ih =>
    intro v h1 h2 h3
    by_cases c : v.1.1 < n ∧ v.1.2.1 = 0
    · rw [q_lp_y (Nat.succ_pos f) c]
      have h := q_cls_ok (n := n) (tx := tx) (cl := v.2.1) h1 h2 h3
      exact ih _ (q_sk_in _ _ h.1.1).2 h.1.2 h.2.2
    · rw [q_lp_n (Or.inr c)]
      exact h3
set_option maxRecDepth 100000 in
theorem s_shake {ev : mv_E} {h : mv_H} (hI : q_I h) (d : Int32) (p : Int32) (x : Int32) : q_ans ev mX11_shake mX12_shake [.int d, .int p, .int x] h := by
  have hJ := hI
  obtain ⟨ln, lw, n, tx, fp, b, t, s, wa, cf, ct, rr, c, wo, o1, u1, o2, u2, kp, a0, cl, fa, dr, ti, ok, t4, hs, od, sh, t3, co, fo, f, gg, ra, wd, we, nu, rd, ts, oa, ob, f4, od2, sh2, tw, f7, bc, eh, ⟨hw, ⟨hn, htx⟩, ⟨hb, ht⟩, hsi, hwi, hr, hci, hwo, ⟨hb1, hu1⟩, ⟨hb2, hu2⟩, hkp, hti, hok, hh, hf, hg, ho, hob, hf7⟩⟩ := hI
  have hbn := hb.1
  have hsn := hsi.1
  have hcn := hci.1
  have hwn := hwo.1
  have hl1 := hw.2.2.1
  by_cases g1 : (nI 0 ≤ p ∧ p ≤ nI 63)
  rotate_left
  · exact q_same hJ (k_X11_shake_R1 (ev := ev) g1) (k_X12_shake_R1 (ev := ev) g1)
  have g1_0 := g1
  obtain ⟨p, p1, p2, rfl⟩ := mv_in_n (by decide) g1_0 (by decide)
  by_cases g2 : (nI 0 ≤ d ∧ d ≤ nI 399) ∧ (nI 1 ≤ x ∧ x ≤ nI 9)
  rotate_left
  · exact q_same hJ (k_X11_shake_R2 (ev := ev) (by omega) g2) (k_X12_shake_R2 (ev := ev) (by omega) g2)
  obtain ⟨g2_0, g2_1⟩ := g2
  obtain ⟨d, d1, d2, rfl⟩ := mv_in_n (by decide) g2_0 (by decide)
  obtain ⟨x, x1, x2, rfl⟩ := mv_in_n (by decide) g2_1 (by decide)
  by_cases g3 : t ≤ d
  rotate_left
  · exact q_same hJ (k_X11_shake_R3 (ev := ev) (q_c0 eh) (q_c7 eh) (by omega) (by omega) (by omega) (by omega) (by omega) g3) (k_X12_shake_R3 (ev := ev) (q_c52 eh) (by omega) (by omega) (by omega) (by omega) (by omega) g3)
  by_cases g4 : b.1 < 60
  rotate_left
  · exact q_same hJ (k_X11_shake_R4 (ev := ev) (q_c0 eh) (q_c7 eh) (by omega) (by omega) (by omega) (by omega) (by omega) (by omega) g4) (k_X12_shake_R4 (ev := ev) (q_c52 eh) (by omega) (by omega) (by omega) (by omega) (by omega) (by omega) g4)
  obtain ⟨h1, K1, fr1, y0, y1, y2, y3⟩ := (k_X11_shake_G (ev := ev) (d := d) (p := p) (x := x) (q_c0 eh) (q_c7 eh) (q_c8 eh) (q_c9 eh) (q_c10 eh) (by omega) (by omega) (by omega) (by omega) (by omega) (by omega))
  have e1 : h1 = q_hc lw n tx fp (q_wr b d p x) d s wa cf ct rr c wo o1 u1 o2 u2 kp a0 cl fa dr ti ok t4 hs od sh t3 co fo f gg ++ q_hr lw n tx fp b t s wa cf ct rr c wo o1 u1 o2 u2 kp ra wd we nu rd ts oa ob f4 od2 sh2 tw f7 bc := (q_up4 fr1 y0 y1 y2 y3).trans (by rw [eh]; rfl)
  obtain ⟨h2, K2, fr2, z0, z1, z2, z3⟩ := (k_X12_shake_G (ev := ev) (d := d) (p := p) (x := x) (q_c52 e1) (q_c56 e1) (q_c57 e1) (q_c58 e1) (by omega) (by omega) (by omega) (by omega) (by omega) (by omega))
  have e2 : h2 = q_hc lw n tx fp (q_wr b d p x) d s wa cf ct rr c wo o1 u1 o2 u2 kp a0 cl fa dr ti ok t4 hs od sh t3 co fo f gg ++ q_hr lw n tx fp (q_wr b d p x) d s wa cf ct rr c wo o1 u1 o2 u2 kp ra wd we nu rd ts oa ob f4 od2 sh2 tw f7 bc := (q_up4 fr2 z0 z1 z2 z3).trans (by rw [e1]; rfl)
  exact ⟨_, h1, h2, K1, K2, ⟨_, q_c52 e1⟩, ⟨ln, _, _, _, _, _, _, _, _, _, _, _, _, _, _, _, _, _, _, _, _, _, _, _, _, _, _, _, _, _, _, _, _, _, _, _, _, _, _, _, _, _, _, _, _, _, _, _, e2, ⟨hw, ⟨hn, htx⟩, ⟨(q_BI_wr hb g3 g4 (by omega) (by omega) (by omega)), (by omega)⟩, hsi, hwi, hr, hci, hwo, ⟨hb1, hu1⟩, ⟨hb2, hu2⟩, hkp, hti, hok, hh, hf, hg, ho, hob, hf7⟩⟩⟩
set_option maxRecDepth 100000 in
theorem s_seed {ev : mv_E} {h : mv_H} (hI : q_I h) (v : Int32) : q_ans ev mX11_seed mX12_seed [.int v] h := by
  have hJ := hI
  obtain ⟨ln, lw, n, tx, fp, b, t, s, wa, cf, ct, rr, c, wo, o1, u1, o2, u2, kp, a0, cl, fa, dr, ti, ok, t4, hs, od, sh, t3, co, fo, f, gg, ra, wd, we, nu, rd, ts, oa, ob, f4, od2, sh2, tw, f7, bc, eh, ⟨hw, ⟨hn, htx⟩, ⟨hb, ht⟩, hsi, hwi, hr, hci, hwo, ⟨hb1, hu1⟩, ⟨hb2, hu2⟩, hkp, hti, hok, hh, hf, hg, ho, hob, hf7⟩⟩ := hI
  have hbn := hb.1
  have hsn := hsi.1
  have hcn := hci.1
  have hwn := hwo.1
  have hl1 := hw.2.2.1
  by_cases g1 : 0 ≤ v
  rotate_left
  · exact q_same hJ (k_X11_seed_R1 (ev := ev) g1) (k_X12_seed_R1 (ev := ev) g1)
  have g1_0 := g1
  obtain ⟨v, v1, rfl⟩ := q_v31 g1_0
  obtain ⟨h1, K1, fr1, y0⟩ := (k_X11_seed_G (ev := ev) (q_c0 eh) (q_c7 eh) (by omega))
  have e1 : h1 = q_hc lw n tx fp (b.1, v, b.2.2) t s wa cf ct rr c wo o1 u1 o2 u2 kp a0 cl fa dr ti ok t4 hs od sh t3 co fo f gg ++ q_hr lw n tx fp b t s wa cf ct rr c wo o1 u1 o2 u2 kp ra wd we nu rd ts oa ob f4 od2 sh2 tw f7 bc := (q_up1 fr1 y0).trans (by rw [eh]; rfl)
  obtain ⟨h2, K2, fr2, z0⟩ := (k_X12_seed_G (ev := ev) (q_c52 e1) (by omega))
  have e2 : h2 = q_hc lw n tx fp (b.1, v, b.2.2) t s wa cf ct rr c wo o1 u1 o2 u2 kp a0 cl fa dr ti ok t4 hs od sh t3 co fo f gg ++ q_hr lw n tx fp (b.1, v, b.2.2) t s wa cf ct rr c wo o1 u1 o2 u2 kp ra wd we nu rd ts oa ob f4 od2 sh2 tw f7 bc := (q_up1 fr2 z0).trans (by rw [e1]; rfl)
  exact ⟨_, h1, h2, K1, K2, ⟨_, q_c52 e1⟩, ⟨ln, _, _, _, _, _, _, _, _, _, _, _, _, _, _, _, _, _, _, _, _, _, _, _, _, _, _, _, _, _, _, _, _, _, _, _, _, _, _, _, _, _, _, _, _, _, _, _, e2, ⟨hw, ⟨hn, htx⟩, ⟨(q_BI_sd hb v1), ht⟩, hsi, hwi, hr, hci, hwo, ⟨hb1, hu1⟩, ⟨hb2, hu2⟩, hkp, hti, hok, hh, hf, hg, ho, hob, hf7⟩⟩⟩
set_option maxRecDepth 100000 in
theorem s_run {ev : mv_E} {h : mv_H} (hI : q_I h) (q : Int32) : q_ans ev mX11_run mX12_run [.int q] h := by
  have hJ := hI
  obtain ⟨ln, lw, n, tx, fp, b, t, s, wa, cf, ct, rr, c, wo, o1, u1, o2, u2, kp, a0, cl, fa, dr, ti, ok, t4, hs, od, sh, t3, co, fo, f, gg, ra, wd, we, nu, rd, ts, oa, ob, f4, od2, sh2, tw, f7, bc, eh, ⟨hw, ⟨hn, htx⟩, ⟨hb, ht⟩, hsi, hwi, hr, hci, hwo, ⟨hb1, hu1⟩, ⟨hb2, hu2⟩, hkp, hti, hok, hh, hf, hg, ho, hob, hf7⟩⟩ := hI
  have hbn := hb.1
  have hsn := hsi.1
  have hcn := hci.1
  have hwn := hwo.1
  have hl1 := hw.2.2.1
  by_cases g1 : (nI 1 ≤ q ∧ q ≤ nI 399)
  rotate_left
  · exact q_same hJ (k_X11_run_R1 (ev := ev) g1) (k_X12_run_R1 (ev := ev) g1)
  have g1_0 := g1
  obtain ⟨q, q1, q2, rfl⟩ := mv_in_n (by decide) g1_0 (by decide)
  by_cases g2 : b.1 < 60
  rotate_left
  · exact q_same hJ (k_X11_run_R2 (ev := ev) (q_c0 eh) (q_c7 eh) (by omega) (by omega) (by omega) g2) (k_X12_run_R2 (ev := ev) (q_c52 eh) (by omega) (by omega) (by omega) g2)
  have hl4 : ln 4 < 8 := Nat.lt_succ_of_le hw.2.2.2.2.2.2.1
  have hrn := q_rn_BI (R := ln 0) (G := ln 1) (A := ln 2) (D := ln 3) hl4 (min 399 (t + q) - t) t b hb (by omega)
  obtain ⟨h1, K1, fr1, y0, y1, y2, y3⟩ := (k_X11_run_G (ev := ev) (q_c0 eh) (q_c7 eh) (q_c8 eh) (q_c9 eh) (q_c10 eh) (q_c1 eh) (q_c2 eh) hb (by omega) (by omega) (by omega) hw (by omega))
  have e1 : h1 = q_hc lw n tx fp (q_rn (ln 0) (ln 1) (ln 2) (ln 3) (ln 4) (min 399 (t + q) - t) t b).2 (q_rn (ln 0) (ln 1) (ln 2) (ln 3) (ln 4) (min 399 (t + q) - t) t b).1 s wa cf ct rr c wo o1 u1 o2 u2 kp a0 cl fa dr ti ok t4 hs od sh t3 co fo f gg ++ q_hr lw n tx fp b t s wa cf ct rr c wo o1 u1 o2 u2 kp ra wd we nu rd ts oa ob f4 od2 sh2 tw f7 bc := (q_up4 fr1 y0 y1 y2 y3).trans (by rw [eh]; rfl)
  obtain ⟨h2, K2, fr2, z0, z1, z2, z3⟩ := (k_X12_run_G (ev := ev) (q_c52 e1) (q_c56 e1) (q_c57 e1) (q_c58 e1) (q_c53 e1) hb (by omega) (by omega) (by omega) hw (by omega))
  have e2 : h2 = q_hc lw n tx fp (q_rn (ln 0) (ln 1) (ln 2) (ln 3) (ln 4) (min 399 (t + q) - t) t b).2 (q_rn (ln 0) (ln 1) (ln 2) (ln 3) (ln 4) (min 399 (t + q) - t) t b).1 s wa cf ct rr c wo o1 u1 o2 u2 kp a0 cl fa dr ti ok t4 hs od sh t3 co fo f gg ++ q_hr lw n tx fp (q_rn (ln 0) (ln 1) (ln 2) (ln 3) (ln 4) (min 399 (t + q) - t) t b).2 (q_rn (ln 0) (ln 1) (ln 2) (ln 3) (ln 4) (min 399 (t + q) - t) t b).1 s wa cf ct rr c wo o1 u1 o2 u2 kp ra wd we nu rd ts oa ob f4 od2 sh2 tw f7 bc := (q_up4 fr2 z0 z1 z2 z3).trans (by rw [e1]; rfl)
  exact ⟨_, h1, h2, K1, K2, ⟨_, q_c52 e1⟩, ⟨ln, _, _, _, _, _, _, _, _, _, _, _, _, _, _, _, _, _, _, _, _, _, _, _, _, _, _, _, _, _, _, _, _, _, _, _, _, _, _, _, _, _, _, _, _, _, _, _, e2, ⟨hw, ⟨hn, htx⟩, ⟨hrn.1, (by have q9 := hrn.2.2.1; omega)⟩, hsi, hwi, hr, hci, hwo, ⟨hb1, hu1⟩, ⟨hb2, hu2⟩, hkp, hti, hok, hh, hf, hg, ho, hob, hf7⟩⟩⟩
set_option maxRecDepth 100000 in
theorem s_watch {ev : mv_E} {h : mv_H} (hI : q_I h) (k : Int32) (p : Int32) (a : Int32) (e : Int32) : q_ans ev mX11_watch mX12_watch [.int k, .int p, .int a, .int e] h := by
  have hJ := hI
  obtain ⟨ln, lw, n, tx, fp, b, t, s, wa, cf, ct, rr, c, wo, o1, u1, o2, u2, kp, a0, cl, fa, dr, ti, ok, t4, hs, od, sh, t3, co, fo, f, gg, ra, wd, we, nu, rd, ts, oa, ob, f4, od2, sh2, tw, f7, bc, eh, ⟨hw, ⟨hn, htx⟩, ⟨hb, ht⟩, hsi, hwi, hr, hci, hwo, ⟨hb1, hu1⟩, ⟨hb2, hu2⟩, hkp, hti, hok, hh, hf, hg, ho, hob, hf7⟩⟩ := hI
  have hbn := hb.1
  have hsn := hsi.1
  have hcn := hci.1
  have hwn := hwo.1
  have hl1 := hw.2.2.1
  by_cases g1 : (nI 0 ≤ k ∧ k ≤ nI 7) ∧ (nI 0 ≤ p ∧ p ≤ nI 63)
  rotate_left
  · exact q_same hJ (k_X11_watch_R1 (ev := ev) g1) (k_X12_watch_R1 (ev := ev) g1)
  obtain ⟨g1_0, g1_1⟩ := g1
  obtain ⟨k, k1, k2, rfl⟩ := mv_in_n (by decide) g1_0 (by decide)
  obtain ⟨p, p1, p2, rfl⟩ := mv_in_n (by decide) g1_1 (by decide)
  by_cases g2 : a = -1 ∨ (nI 0 ≤ a ∧ a ≤ nI 399) ∧ (a ≤ e ∧ e ≤ nI 399)
  rotate_left
  · exact q_same hJ (k_X11_watch_R2 (ev := ev) (by omega) (by omega) g2) (k_X12_watch_R2 (ev := ev) (by omega) (by omega) g2)
  obtain ⟨h1, K1, fr1, y0, y1, y2⟩ := (k_X11_watch_G (ev := ev) (k := k) (p := p) (q_c0 eh) (q_c22 eh) (q_c27 eh) (q_c28 eh) (q_c29 eh) (by omega) (by omega) hwi g2)
  have e1 : h1 = q_hc lw n tx fp b t s (t_up wa k p) (upd cf k a) (upd ct k e) rr c wo o1 u1 o2 u2 kp a0 cl fa dr ti ok t4 hs od sh t3 co fo f gg ++ q_hr lw n tx fp b t s wa cf ct rr c wo o1 u1 o2 u2 kp ra wd we nu rd ts oa ob f4 od2 sh2 tw f7 bc := (q_up3 fr1 y0 y1 y2).trans (by rw [eh]; rfl)
  obtain ⟨h2, K2, fr2, z0, z1, z2⟩ := (k_X12_watch_G (ev := ev) (k := k) (p := p) (q_c52 e1) (q_c59 e1) (q_c60 e1) (q_c61 e1) (by omega) (by omega) hwi g2)
  have e2 : h2 = q_hc lw n tx fp b t s (t_up wa k p) (upd cf k a) (upd ct k e) rr c wo o1 u1 o2 u2 kp a0 cl fa dr ti ok t4 hs od sh t3 co fo f gg ++ q_hr lw n tx fp b t s (t_up wa k p) (upd cf k a) (upd ct k e) rr c wo o1 u1 o2 u2 kp ra wd we nu rd ts oa ob f4 od2 sh2 tw f7 bc := (q_up3 fr2 z0 z1 z2).trans (by rw [e1]; rfl)
  exact ⟨_, h1, h2, K1, K2, ⟨_, q_c52 e1⟩, ⟨ln, _, _, _, _, _, _, _, _, _, _, _, _, _, _, _, _, _, _, _, _, _, _, _, _, _, _, _, _, _, _, _, _, _, _, _, _, _, _, _, _, _, _, _, _, _, _, _, e2, ⟨hw, ⟨hn, htx⟩, ⟨hb, ht⟩, hsi, (q_WI_u hwi (by omega) g2), hr, hci, hwo, ⟨hb1, hu1⟩, ⟨hb2, hu2⟩, hkp, hti, hok, hh, hf, hg, ho, hob, hf7⟩⟩⟩
set_option maxRecDepth 100000 in
theorem s_rain {ev : mv_E} {h : mv_H} (hI : q_I h) (d : Int32) (v : Nat) (hv : v ≤ 1) : q_ans ev mX11_rain mX12_rain [.int d, .int (nI v)] h := by
  have hJ := hI
  obtain ⟨ln, lw, n, tx, fp, b, t, s, wa, cf, ct, rr, c, wo, o1, u1, o2, u2, kp, a0, cl, fa, dr, ti, ok, t4, hs, od, sh, t3, co, fo, f, gg, ra, wd, we, nu, rd, ts, oa, ob, f4, od2, sh2, tw, f7, bc, eh, ⟨hw, ⟨hn, htx⟩, ⟨hb, ht⟩, hsi, hwi, hr, hci, hwo, ⟨hb1, hu1⟩, ⟨hb2, hu2⟩, hkp, hti, hok, hh, hf, hg, ho, hob, hf7⟩⟩ := hI
  have hbn := hb.1
  have hsn := hsi.1
  have hcn := hci.1
  have hwn := hwo.1
  have hl1 := hw.2.2.1
  by_cases g1 : (nI 0 ≤ d ∧ d ≤ nI 399)
  rotate_left
  · exact q_same hJ (k_X11_rain_R1 (ev := ev) g1) (k_X12_rain_R1 (ev := ev) g1)
  have g1_0 := g1
  obtain ⟨d, d1, d2, rfl⟩ := mv_in_n (by decide) g1_0 (by decide)
  obtain ⟨h1, K1, fr1, y0, y1⟩ := (k_X11_rain_G (ev := ev) (q_c0 eh) (q_c22 eh) (q_c30 eh) hr (by omega) (by omega))
  have e1 : h1 = q_hc lw n tx fp b t s wa cf ct (t_up rr d v) c wo o1 u1 o2 u2 kp a0 cl fa dr ti ok t4 hs od sh t3 co fo f gg ++ q_hr lw n tx fp b t s wa cf ct rr c wo o1 u1 o2 u2 kp ra wd we nu rd ts oa ob f4 od2 sh2 tw f7 bc := (q_up2 fr1 y0 y1).trans (by rw [eh]; rfl)
  obtain ⟨h2, K2, fr2, z0⟩ := (k_X12_rain_G (ev := ev) (q_c52 e1) (q_c62 e1) hr (by omega) (by omega))
  have e2 : h2 = q_hc lw n tx fp b t s wa cf ct (t_up rr d v) c wo o1 u1 o2 u2 kp a0 cl fa dr ti ok t4 hs od sh t3 co fo f gg ++ q_hr lw n tx fp b t s wa cf ct (t_up rr d v) c wo o1 u1 o2 u2 kp ra wd we nu rd ts oa ob f4 od2 sh2 tw f7 bc := (q_up1 fr2 z0).trans (by rw [e1]; rfl)
  exact ⟨_, h1, h2, K1, K2, ⟨_, q_c52 e1⟩, ⟨ln, _, _, _, _, _, _, _, _, _, _, _, _, _, _, _, _, _, _, _, _, _, _, _, _, _, _, _, _, _, _, _, _, _, _, _, _, _, _, _, _, _, _, _, _, _, _, _, e2, ⟨hw, ⟨hn, htx⟩, ⟨hb, ht⟩, hsi, hwi, (t_up_P (P := fun x => x ≤ 1) hr hv), hci, hwo, ⟨hb1, hu1⟩, ⟨hb2, hu2⟩, hkp, hti, hok, hh, hf, hg, ho, hob, hf7⟩⟩⟩
set_option maxRecDepth 100000 in
theorem s_sign {ev : mv_E} {h : mv_H} (hI : q_I h) (k : Int32) (d : Int32) (p : Int32) (w : Int32) : q_ans ev mX11_sign mX12_sign [.int k, .int d, .int p, .int w] h := by
  have hJ := hI
  obtain ⟨ln, lw, n, tx, fp, b, t, s, wa, cf, ct, rr, c, wo, o1, u1, o2, u2, kp, a0, cl, fa, dr, ti, ok, t4, hs, od, sh, t3, co, fo, f, gg, ra, wd, we, nu, rd, ts, oa, ob, f4, od2, sh2, tw, f7, bc, eh, ⟨hw, ⟨hn, htx⟩, ⟨hb, ht⟩, hsi, hwi, hr, hci, hwo, ⟨hb1, hu1⟩, ⟨hb2, hu2⟩, hkp, hti, hok, hh, hf, hg, ho, hob, hf7⟩⟩ := hI
  have hbn := hb.1
  have hsn := hsi.1
  have hcn := hci.1
  have hwn := hwo.1
  have hl1 := hw.2.2.1
  by_cases g1 : (nI 0 ≤ k ∧ k ≤ nI 7) ∧ (nI 0 ≤ p ∧ p ≤ nI 63)
  rotate_left
  · exact q_same hJ (k_X11_sign_R1 (ev := ev) g1) (k_X12_sign_R1 (ev := ev) g1)
  obtain ⟨g1_0, g1_1⟩ := g1
  obtain ⟨k, k1, k2, rfl⟩ := mv_in_n (by decide) g1_0 (by decide)
  obtain ⟨p, p1, p2, rfl⟩ := mv_in_n (by decide) g1_1 (by decide)
  by_cases g2 : (nI 0 ≤ d ∧ d ≤ nI 399) ∧ (d ≤ w ∧ w ≤ nI 399)
  rotate_left
  · exact q_same hJ (k_X11_sign_R2 (ev := ev) (by omega) (by omega) g2) (k_X12_sign_R2 (ev := ev) (by omega) (by omega) g2)
  obtain ⟨g2_0, g2_1⟩ := g2
  obtain ⟨d, d1, d2, rfl⟩ := mv_in_n (by decide) g2_0 (by decide)
  obtain ⟨w, w1, w2, rfl⟩ := q_ton (by omega) g2_1
  by_cases g3 : s.1 < 100
  rotate_left
  · exact q_same hJ (k_X11_sign_R3 (ev := ev) (q_c0 eh) (q_c22 eh) (by omega) (by omega) (by omega) (by omega) (by omega) g3) (k_X12_sign_R3 (ev := ev) (q_c52 eh) (by omega) (by omega) (by omega) (by omega) (by omega) g3)
  obtain ⟨h1, K1, fr1, y0, y1, y2, y3, y4⟩ := (k_X11_sign_G (ev := ev) (k := k) (d := d) (p := p) (w := w) (q_c0 eh) (q_c22 eh) (q_c23 eh) (q_c24 eh) (q_c25 eh) (q_c26 eh) (by omega) (by omega) (by omega) (by omega) (by omega))
  have e1 : h1 = q_hc lw n tx fp b t (q_sw s k d p w) wa cf ct rr c wo o1 u1 o2 u2 kp a0 cl fa dr ti ok t4 hs od sh t3 co fo f gg ++ q_hr lw n tx fp b t s wa cf ct rr c wo o1 u1 o2 u2 kp ra wd we nu rd ts oa ob f4 od2 sh2 tw f7 bc := (q_up5 fr1 y0 y1 y2 y3 y4).trans (by rw [eh]; rfl)
  obtain ⟨h2, K2, fr2, z0, z1, z2, z3, z4⟩ := (k_X12_sign_G (ev := ev) (k := k) (d := d) (p := p) (w := w) (q_c52 e1) (q_c63 e1) (q_c64 e1) (q_c65 e1) (q_c66 e1) (by omega) (by omega) (by omega) (by omega) (by omega))
  have e2 : h2 = q_hc lw n tx fp b t (q_sw s k d p w) wa cf ct rr c wo o1 u1 o2 u2 kp a0 cl fa dr ti ok t4 hs od sh t3 co fo f gg ++ q_hr lw n tx fp b t (q_sw s k d p w) wa cf ct rr c wo o1 u1 o2 u2 kp ra wd we nu rd ts oa ob f4 od2 sh2 tw f7 bc := (q_up5 fr2 z0 z1 z2 z3 z4).trans (by rw [e1]; rfl)
  exact ⟨_, h1, h2, K1, K2, ⟨_, q_c52 e1⟩, ⟨ln, _, _, _, _, _, _, _, _, _, _, _, _, _, _, _, _, _, _, _, _, _, _, _, _, _, _, _, _, _, _, _, _, _, _, _, _, _, _, _, _, _, _, _, _, _, _, _, e2, ⟨hw, ⟨hn, htx⟩, ⟨hb, ht⟩, (q_SI_sw hsi g3 (by omega) (by omega) (by omega) (by omega)), hwi, hr, hci, hwo, ⟨hb1, hu1⟩, ⟨hb2, hu2⟩, hkp, hti, hok, hh, hf, hg, ho, hob, hf7⟩⟩⟩
set_option maxRecDepth 100000 in
theorem s_claim {ev : mv_E} {h : mv_H} (hI : q_I h) (t9 : Int32) (p : Int32) (m : Int32) (x : Int32) (a : Int32) (e : Int32) (q : Int32) : q_ans ev mX11_claim mX12_claim [.int t9, .int p, .int m, .int x, .int a, .int e, .int q] h := by
  have hJ := hI
  obtain ⟨ln, lw, n, tx, fp, b, t, s, wa, cf, ct, rr, c, wo, o1, u1, o2, u2, kp, a0, cl, fa, dr, ti, ok, t4, hs, od, sh, t3, co, fo, f, gg, ra, wd, we, nu, rd, ts, oa, ob, f4, od2, sh2, tw, f7, bc, eh, ⟨hw, ⟨hn, htx⟩, ⟨hb, ht⟩, hsi, hwi, hr, hci, hwo, ⟨hb1, hu1⟩, ⟨hb2, hu2⟩, hkp, hti, hok, hh, hf, hg, ho, hob, hf7⟩⟩ := hI
  have hbn := hb.1
  have hsn := hsi.1
  have hcn := hci.1
  have hwn := hwo.1
  have hl1 := hw.2.2.1
  by_cases g1 : (nI 0 ≤ p ∧ p ≤ nI 63)
  rotate_left
  · exact q_same hJ (k_X11_claim_R1 (ev := ev) g1) (k_X12_claim_R1 (ev := ev) g1)
  have g1_0 := g1
  obtain ⟨p, p1, p2, rfl⟩ := mv_in_n (by decide) g1_0 (by decide)
  by_cases g2 : (nI 0 ≤ t9 ∧ t9 ≤ nI 399) ∧ (t9 < a ∧ a ≤ nI 399) ∧ (a ≤ e ∧ e ≤ nI 399) ∧ (nI 0 ≤ m ∧ m ≤ nI 7) ∧ (nI 1 ≤ x ∧ x ≤ nI 9) ∧ (nI 0 ≤ q ∧ q ≤ nI 100)
  rotate_left
  · exact q_same hJ (k_X11_claim_R2 (ev := ev) (by omega) g2) (k_X12_claim_R2 (ev := ev) (by omega) g2)
  obtain ⟨g2_0, g2_1, g2_2, g2_3, g2_4, g2_5⟩ := g2
  obtain ⟨t9, t91, t92, rfl⟩ := mv_in_n (by decide) g2_0 (by decide)
  obtain ⟨a, a1, a2, rfl⟩ := q_afn (by omega) g2_1
  obtain ⟨e, e1, e2, rfl⟩ := q_ton (by omega) g2_2
  obtain ⟨m, m1, m2, rfl⟩ := mv_in_n (by decide) g2_3 (by decide)
  obtain ⟨x, x1, x2, rfl⟩ := mv_in_n (by decide) g2_4 (by decide)
  obtain ⟨q, q1, q2, rfl⟩ := mv_in_n (by decide) g2_5 (by decide)
  by_cases g3 : c.1 < 12
  rotate_left
  · exact q_same hJ (k_X11_claim_R3 (ev := ev) (q_c0 eh) (q_c34 eh) (by omega) (by omega) (by omega) (by omega) (by omega) (by omega) (by omega) (by omega) (by omega) g3) (k_X12_claim_R3 (ev := ev) (q_c52 eh) (by omega) (by omega) (by omega) (by omega) (by omega) (by omega) (by omega) (by omega) (by omega) g3)
  obtain ⟨h1, K1, fr1, y0, y1, y2, y3, y4, y5, y6, y7⟩ := (k_X11_claim_G (ev := ev) (t := t9) (p := p) (m := m) (x := x) (a := a) (e := e) (q := q) (q_c0 eh) (q_c34 eh) (q_c35 eh) (q_c36 eh) (q_c37 eh) (q_c38 eh) (q_c39 eh) (q_c40 eh) (q_c41 eh) (by omega) (by omega) (by omega) (by omega) (by omega) (by omega) (by omega) (by omega) (by omega))
  have e1 : h1 = q_hc lw n tx fp b t s wa cf ct rr (q_cw c t9 p m x a e q) wo o1 u1 o2 u2 kp a0 cl fa dr ti ok t4 hs od sh t3 co fo f gg ++ q_hr lw n tx fp b t s wa cf ct rr c wo o1 u1 o2 u2 kp ra wd we nu rd ts oa ob f4 od2 sh2 tw f7 bc := (q_up8 fr1 y0 y1 y2 y3 y4 y5 y6 y7).trans (by rw [eh]; rfl)
  obtain ⟨h2, K2, fr2, z0, z1⟩ := (k_X12_claim_G (ev := ev) (t2 := t9) (p := p) (m := m) (x := x) (a := a) (e := e) (q := q) (q_c52 e1) (q_c70 e1) (by omega) (by omega) (by omega) (by omega) (by omega) (by omega) (by omega) (by omega) (by omega))
  have e2 : h2 = q_hc lw n tx fp b t s wa cf ct rr (q_cw c t9 p m x a e q) wo o1 u1 o2 u2 kp a0 cl fa dr ti ok t4 hs od sh t3 co fo f gg ++ q_hr lw n tx fp b t s wa cf ct rr (q_cw c t9 p m x a e q) wo o1 u1 o2 u2 kp ra wd we nu rd ts oa ob f4 od2 sh2 tw f7 bc := (q_up2 fr2 z0 z1).trans (by rw [e1]; rfl)
  exact ⟨_, h1, h2, K1, K2, ⟨_, q_c52 e1⟩, ⟨ln, _, _, _, _, _, _, _, _, _, _, _, _, _, _, _, _, _, _, _, _, _, _, _, _, _, _, _, _, _, _, _, _, _, _, _, _, _, _, _, _, _, _, _, _, _, _, _, e2, ⟨hw, ⟨hn, htx⟩, ⟨hb, ht⟩, hsi, hwi, hr, (q_CI_cw hci g3 (by omega) (by omega) (by omega) (by omega) (by omega) (by omega) (by omega) (by omega)), hwo, ⟨hb1, hu1⟩, ⟨hb2, hu2⟩, hkp, hti, hok, hh, hf, hg, ho, hob, hf7⟩⟩⟩
set_option maxRecDepth 100000 in
theorem s_say {ev : mv_E} {h : mv_H} (hI : q_I h) (d : Int32) (p : Int32) (x : Int32) : q_ans ev mX11_say mX12_say [.int d, .int p, .int x] h := by
  have hJ := hI
  obtain ⟨ln, lw, n, tx, fp, b, t, s, wa, cf, ct, rr, c, wo, o1, u1, o2, u2, kp, a0, cl, fa, dr, ti, ok, t4, hs, od, sh, t3, co, fo, f, gg, ra, wd, we, nu, rd, ts, oa, ob, f4, od2, sh2, tw, f7, bc, eh, ⟨hw, ⟨hn, htx⟩, ⟨hb, ht⟩, hsi, hwi, hr, hci, hwo, ⟨hb1, hu1⟩, ⟨hb2, hu2⟩, hkp, hti, hok, hh, hf, hg, ho, hob, hf7⟩⟩ := hI
  have hbn := hb.1
  have hsn := hsi.1
  have hcn := hci.1
  have hwn := hwo.1
  have hl1 := hw.2.2.1
  by_cases g1 : (nI 0 ≤ p ∧ p ≤ nI 63)
  rotate_left
  · exact q_same hJ (k_X11_say_R1 (ev := ev) g1) (k_X12_say_R1 (ev := ev) g1)
  have g1_0 := g1
  obtain ⟨p, p1, p2, rfl⟩ := mv_in_n (by decide) g1_0 (by decide)
  by_cases g2 : (nI 0 ≤ d ∧ d ≤ nI 398) ∧ (nI 0 ≤ x ∧ x ≤ nI 2)
  rotate_left
  · exact q_same hJ (k_X11_say_R2 (ev := ev) (by omega) g2) (k_X12_say_R2 (ev := ev) (by omega) g2)
  obtain ⟨g2_0, g2_1⟩ := g2
  obtain ⟨d, d1, d2, rfl⟩ := mv_in_n (by decide) g2_0 (by decide)
  obtain ⟨x, x1, x2, rfl⟩ := mv_in_n (by decide) g2_1 (by decide)
  by_cases g3 : wo.1 < 12
  rotate_left
  · exact q_same hJ (k_X11_say_R3 (ev := ev) (q_c0 eh) (q_c48 eh) (by omega) (by omega) (by omega) (by omega) g3) (k_X12_say_R3 (ev := ev) (q_c52 eh) (by omega) (by omega) (by omega) (by omega) g3)
  obtain ⟨h1, K1, fr1, y0, y1, y2, y3⟩ := (k_X11_say_G (ev := ev) (d := d) (p := p) (x := x) (q_c0 eh) (q_c48 eh) (q_c49 eh) (q_c50 eh) (q_c51 eh) (by omega) (by omega) (by omega) (by omega))
  have e1 : h1 = q_hc lw n tx fp b t s wa cf ct rr c (q_ww wo d p x) o1 u1 o2 u2 kp a0 cl fa dr ti ok t4 hs od sh t3 co fo f gg ++ q_hr lw n tx fp b t s wa cf ct rr c wo o1 u1 o2 u2 kp ra wd we nu rd ts oa ob f4 od2 sh2 tw f7 bc := (q_up4 fr1 y0 y1 y2 y3).trans (by rw [eh]; rfl)
  obtain ⟨h2, K2, fr2, z0, z1, z2, z3⟩ := (k_X12_say_G (ev := ev) (d := d) (p := p) (x := x) (q_c52 e1) (q_c76 e1) (q_c77 e1) (q_c78 e1) (by omega) (by omega) (by omega) (by omega))
  have e2 : h2 = q_hc lw n tx fp b t s wa cf ct rr c (q_ww wo d p x) o1 u1 o2 u2 kp a0 cl fa dr ti ok t4 hs od sh t3 co fo f gg ++ q_hr lw n tx fp b t s wa cf ct rr c (q_ww wo d p x) o1 u1 o2 u2 kp ra wd we nu rd ts oa ob f4 od2 sh2 tw f7 bc := (q_up4 fr2 z0 z1 z2 z3).trans (by rw [e1]; rfl)
  exact ⟨_, h1, h2, K1, K2, ⟨_, q_c52 e1⟩, ⟨ln, _, _, _, _, _, _, _, _, _, _, _, _, _, _, _, _, _, _, _, _, _, _, _, _, _, _, _, _, _, _, _, _, _, _, _, _, _, _, _, _, _, _, _, _, _, _, _, e2, ⟨hw, ⟨hn, htx⟩, ⟨hb, ht⟩, hsi, hwi, hr, hci, (q_WOI_ww hwo g3 (by omega) (by omega) (by omega)), ⟨hb1, hu1⟩, ⟨hb2, hu2⟩, hkp, hti, hok, hh, hf, hg, ho, hob, hf7⟩⟩⟩
set_option maxRecDepth 100000 in
theorem s_judged {ev : mv_E} {h : mv_H} (hI : q_I h) (k : Int32) (x : Int32) (q : Int32) (w : Int32) : q_ans ev mX11_judged mX12_judged [.int k, .int x, .int q, .int w] h := by
  have hJ := hI
  obtain ⟨ln, lw, n, tx, fp, b, t, s, wa, cf, ct, rr, c, wo, o1, u1, o2, u2, kp, a0, cl, fa, dr, ti, ok, t4, hs, od, sh, t3, co, fo, f, gg, ra, wd, we, nu, rd, ts, oa, ob, f4, od2, sh2, tw, f7, bc, eh, ⟨hw, ⟨hn, htx⟩, ⟨hb, ht⟩, hsi, hwi, hr, hci, hwo, ⟨hb1, hu1⟩, ⟨hb2, hu2⟩, hkp, hti, hok, hh, hf, hg, ho, hob, hf7⟩⟩ := hI
  have hbn := hb.1
  have hsn := hsi.1
  have hcn := hci.1
  have hwn := hwo.1
  have hl1 := hw.2.2.1
  by_cases g1 : (0 ≤ k ∧ k < nI wo.1 ∧ k < nI 12)
  rotate_left
  · exact q_same hJ (k_X11_judged_R1 (ev := ev) (q_c0 eh) (q_c48 eh) g1) (k_X12_judged_R1 (ev := ev) (q_c52 eh) (q_c76 eh) (by omega) g1)
  have g1_0 := g1
  obtain ⟨k, k1, rfl⟩ := q_hsn (by omega) g1_0
  have hwd := hwo.2.1 k
  by_cases g2 : (nI 1 ≤ x ∧ x ≤ nI 9) ∧ (nI 1 ≤ q ∧ q ≤ nI 60) ∧ (nI 0 ≤ w ∧ w ≤ nI 1) ∧ nI (wo.2.1 k) + q ≤ nI 399
  rotate_left
  · exact q_same hJ (k_X11_judged_R2 (ev := ev) (q_c0 eh) (q_c48 eh) (q_c49 eh) (by omega) (by omega) g2) (k_X12_judged_R2 (ev := ev) (q_c52 eh) (q_c76 eh) (by omega) (by omega) g2)
  obtain ⟨g2_0, g2_1, g2_2, g2_3⟩ := g2
  obtain ⟨x, x1, x2, rfl⟩ := mv_in_n (by decide) g2_0 (by decide)
  obtain ⟨q, q1, q2, rfl⟩ := mv_in_n (by decide) g2_1 (by decide)
  obtain ⟨w, w1, w2, rfl⟩ := mv_in_n (by decide) g2_2 (by decide)
  have hdn : wo.2.1 k + q ≤ 399 := (nI_leI (by omega) (by omega)).mp (by rw [← nI_add]; exact g2_3)
  have ew : w = 0 ∨ w = 1 := by omega
  rcases ew with rfl | rfl
  · exact q_same hJ (k_X11_judged_G0 (ev := ev) (q_c0 eh) (q_c48 eh) (q_c49 eh) (q_c50 eh) (q_c51 eh) (q_c21 eh) (q_c1 eh) (q_c2 eh) (q_c7 eh) (q_c8 eh) (q_c9 eh) (q_c10 eh) hwo (by omega) hw hb (by omega) (by omega) (by omega) (by omega) (by omega)) (k_X12_judged_G0 (ev := ev) (q_c52 eh) (q_c76 eh) (q_c77 eh) (q_c78 eh) (q_c56 eh) (q_c57 eh) (q_c58 eh) (q_c53 eh) hwo (by omega) hw hb (by omega) (by omega) (by omega) (by omega) (by omega))
  · exact q_same hJ (k_X11_judged_G1 (ev := ev) (q_c0 eh) (q_c48 eh) (q_c49 eh) (q_c50 eh) (q_c51 eh) (q_c21 eh) (q_c1 eh) (q_c2 eh) (q_c7 eh) (q_c8 eh) (q_c9 eh) (q_c10 eh) hwo (by omega) hw hb (by omega) (by omega) (by omega) (by omega) (by omega)) (k_X12_judged_G1 (ev := ev) (q_c52 eh) (q_c76 eh) (q_c77 eh) (q_c78 eh) (q_c56 eh) (q_c57 eh) (q_c58 eh) (q_c53 eh) hwo (by omega) hw hb (by omega) (by omega) (by omega) (by omega) (by omega))
theorem q_kp_u {kp : Nat → Nat} {k : Nat} (h : ∀ i, kp i ≤ 1) : ∀ i, t_up kp k 1 i ≤ 1 := t_up_P (P := fun x => x ≤ 1) h (Nat.le_refl _)
set_option maxRecDepth 100000 in
theorem s_keep {ev : mv_E} {h : mv_H} (hI : q_I h) (i : Int32) : q_ans ev mX11_keep mX12_keep [.int i] h := by
  have hJ := hI
  obtain ⟨ln, lw, n, tx, fp, b, t, s, wa, cf, ct, rr, c, wo, o1, u1, o2, u2, kp, a0, cl, fa, dr, ti, ok, t4, hs, od, sh, t3, co, fo, f, gg, ra, wd, we, nu, rd, ts, oa, ob, f4, od2, sh2, tw, f7, bc, eh, ⟨hw, ⟨hn, htx⟩, ⟨hb, ht⟩, hsi, hwi, hr, hci, hwo, ⟨hb1, hu1⟩, ⟨hb2, hu2⟩, hkp, hti, hok, hh, hf, hg, ho, hob, hf7⟩⟩ := hI
  have hbn := hb.1
  have hsn := hsi.1
  have hcn := hci.1
  have hwn := hwo.1
  have hl1 := hw.2.2.1
  by_cases g1 : (nI 0 ≤ i ∧ i ≤ nI 1)
  rotate_left
  · exact q_same hJ (k_X11_keep_R1 (ev := ev) (q_c0 eh) (q_c11 eh) (q_c20 eh) g1) (k_X12_keep_R1 (ev := ev) g1)
  have g1_0 := g1
  obtain ⟨i, i1, i2, rfl⟩ := mv_in_n (by decide) g1_0 (by decide)
  have ei : i = 0 ∨ i = 1 := by omega
  rcases ei with rfl | rfl
  · skip
    obtain ⟨h1, K1, fr1, y0, y1, y2, y3, y4⟩ := (k_X11_keep_G0 (ev := ev) (q_c0 eh) (q_c11 eh) (q_c20 eh) (q_c7 eh) (q_c8 eh) (q_c9 eh) (q_c10 eh) (q_c12 eh) (q_c13 eh) (q_c14 eh) (q_c15 eh))
    have e1 : h1 = q_hc lw n tx fp b t s wa cf ct rr c wo (q_cb o1 b) t o2 u2 (t_up kp 0 1) a0 cl fa dr ti ok t4 hs od sh t3 co fo f gg ++ q_hr lw n tx fp b t s wa cf ct rr c wo o1 u1 o2 u2 kp ra wd we nu rd ts oa ob f4 od2 sh2 tw f7 bc := (q_up5 fr1 y0 y1 y2 y3 y4).trans (by rw [eh]; rfl)
    obtain ⟨h2, K2, fr2, z0, z1⟩ := (k_X12_keep_G0 (ev := ev) (q_c52 e1) (q_c56 e1) (q_c57 e1) (q_c58 e1) (q_c79 e1) (q_c80 e1))
    have e2 : h2 = q_hc lw n tx fp b t s wa cf ct rr c wo (q_cb o1 b) t o2 u2 (t_up kp 0 1) a0 cl fa dr ti ok t4 hs od sh t3 co fo f gg ++ q_hr lw n tx fp b t s wa cf ct rr c wo (q_cb o1 b) t o2 u2 (t_up kp 0 1) ra wd we nu rd ts oa ob f4 od2 sh2 tw f7 bc := (q_up2 fr2 z0 z1).trans (by rw [e1]; rfl)
    exact ⟨_, h1, h2, K1, K2, ⟨_, q_c52 e1⟩, ⟨ln, _, _, _, _, _, _, _, _, _, _, _, _, _, _, _, _, _, _, _, _, _, _, _, _, _, _, _, _, _, _, _, _, _, _, _, _, _, _, _, _, _, _, _, _, _, _, _, e2, ⟨hw, ⟨hn, htx⟩, ⟨hb, ht⟩, hsi, hwi, hr, hci, hwo, ⟨(q_BI_cb hb1 hb), ht⟩, ⟨hb2, hu2⟩, (q_kp_u hkp), hti, hok, hh, hf, hg, ho, hob, hf7⟩⟩⟩
  · skip
    obtain ⟨h1, K1, fr1, y0, y1, y2, y3, y4⟩ := (k_X11_keep_G1 (ev := ev) (q_c0 eh) (q_c11 eh) (q_c20 eh) (q_c7 eh) (q_c8 eh) (q_c9 eh) (q_c10 eh) (q_c16 eh) (q_c17 eh) (q_c18 eh) (q_c19 eh))
    have e1 : h1 = q_hc lw n tx fp b t s wa cf ct rr c wo o1 u1 (q_cb o2 b) t (t_up kp 1 1) a0 cl fa dr ti ok t4 hs od sh t3 co fo f gg ++ q_hr lw n tx fp b t s wa cf ct rr c wo o1 u1 o2 u2 kp ra wd we nu rd ts oa ob f4 od2 sh2 tw f7 bc := (q_up5 fr1 y0 y1 y2 y3 y4).trans (by rw [eh]; rfl)
    obtain ⟨h2, K2, fr2, z0, z1⟩ := (k_X12_keep_G1 (ev := ev) (q_c52 e1) (q_c56 e1) (q_c57 e1) (q_c58 e1) (q_c79 e1) (q_c80 e1))
    have e2 : h2 = q_hc lw n tx fp b t s wa cf ct rr c wo o1 u1 (q_cb o2 b) t (t_up kp 1 1) a0 cl fa dr ti ok t4 hs od sh t3 co fo f gg ++ q_hr lw n tx fp b t s wa cf ct rr c wo o1 u1 (q_cb o2 b) t (t_up kp 1 1) ra wd we nu rd ts oa ob f4 od2 sh2 tw f7 bc := (q_up2 fr2 z0 z1).trans (by rw [e1]; rfl)
    exact ⟨_, h1, h2, K1, K2, ⟨_, q_c52 e1⟩, ⟨ln, _, _, _, _, _, _, _, _, _, _, _, _, _, _, _, _, _, _, _, _, _, _, _, _, _, _, _, _, _, _, _, _, _, _, _, _, _, _, _, _, _, _, _, _, _, _, _, e2, ⟨hw, ⟨hn, htx⟩, ⟨hb, ht⟩, hsi, hwi, hr, hci, hwo, ⟨hb1, hu1⟩, ⟨(q_BI_cb hb2 hb), ht⟩, (q_kp_u hkp), hti, hok, hh, hf, hg, ho, hob, hf7⟩⟩⟩
set_option maxRecDepth 100000 in
theorem s_goBack {ev : mv_E} {h : mv_H} (hI : q_I h) (i : Int32) : q_ans ev mX11_goBack mX12_goBack [.int i] h := by
  have hJ := hI
  obtain ⟨ln, lw, n, tx, fp, b, t, s, wa, cf, ct, rr, c, wo, o1, u1, o2, u2, kp, a0, cl, fa, dr, ti, ok, t4, hs, od, sh, t3, co, fo, f, gg, ra, wd, we, nu, rd, ts, oa, ob, f4, od2, sh2, tw, f7, bc, eh, ⟨hw, ⟨hn, htx⟩, ⟨hb, ht⟩, hsi, hwi, hr, hci, hwo, ⟨hb1, hu1⟩, ⟨hb2, hu2⟩, hkp, hti, hok, hh, hf, hg, ho, hob, hf7⟩⟩ := hI
  have hbn := hb.1
  have hsn := hsi.1
  have hcn := hci.1
  have hwn := hwo.1
  have hl1 := hw.2.2.1
  by_cases g1 : (nI 0 ≤ i ∧ i ≤ nI 1)
  rotate_left
  · exact q_same hJ (k_X11_goBack_R1 (ev := ev) (q_c0 eh) (q_c11 eh) (q_c20 eh) g1) (k_X12_goBack_R1 (ev := ev) g1)
  have g1_0 := g1
  obtain ⟨i, i1, i2, rfl⟩ := mv_in_n (by decide) g1_0 (by decide)
  by_cases g2 : kp i = 1
  rotate_left
  · exact q_same hJ (k_X11_goBack_R2 (ev := ev) (q_c0 eh) (q_c11 eh) (q_c20 eh) (by omega) hkp g2) (k_X12_goBack_R2 (ev := ev) (q_c52 eh) (q_c80 eh) (by omega) hkp g2)
  have ei : i = 0 ∨ i = 1 := by omega
  rcases ei with rfl | rfl
  · skip
    obtain ⟨h1, K1, fr1, y0, y1, y2, y3⟩ := (k_X11_goBack_G0 (ev := ev) (q_c0 eh) (q_c11 eh) (q_c20 eh) (q_c7 eh) (q_c8 eh) (q_c9 eh) (q_c10 eh) (q_c12 eh) (q_c13 eh) (q_c14 eh) (q_c15 eh) hkp g2)
    have e1 : h1 = q_hc lw n tx fp (q_cb b o1) u1 s wa cf ct rr c wo o1 u1 o2 u2 kp a0 cl fa dr ti ok t4 hs od sh t3 co fo f gg ++ q_hr lw n tx fp b t s wa cf ct rr c wo o1 u1 o2 u2 kp ra wd we nu rd ts oa ob f4 od2 sh2 tw f7 bc := (q_up4 fr1 y0 y1 y2 y3).trans (by rw [eh]; rfl)
    obtain ⟨h2, K2, fr2, z0, z1, z2, z3⟩ := (k_X12_goBack_G0 (ev := ev) (q_c52 e1) (q_c56 e1) (q_c57 e1) (q_c58 e1) (q_c79 e1) (q_c80 e1) hkp g2)
    have e2 : h2 = q_hc lw n tx fp (q_cb b o1) u1 s wa cf ct rr c wo o1 u1 o2 u2 kp a0 cl fa dr ti ok t4 hs od sh t3 co fo f gg ++ q_hr lw n tx fp (q_cb b o1) u1 s wa cf ct rr c wo o1 u1 o2 u2 kp ra wd we nu rd ts oa ob f4 od2 sh2 tw f7 bc := (q_up4 fr2 z0 z1 z2 z3).trans (by rw [e1]; rfl)
    exact ⟨_, h1, h2, K1, K2, ⟨_, q_c52 e1⟩, ⟨ln, _, _, _, _, _, _, _, _, _, _, _, _, _, _, _, _, _, _, _, _, _, _, _, _, _, _, _, _, _, _, _, _, _, _, _, _, _, _, _, _, _, _, _, _, _, _, _, e2, ⟨hw, ⟨hn, htx⟩, ⟨(q_BI_cb hb hb1), hu1⟩, hsi, hwi, hr, hci, hwo, ⟨hb1, hu1⟩, ⟨hb2, hu2⟩, hkp, hti, hok, hh, hf, hg, ho, hob, hf7⟩⟩⟩
  · skip
    obtain ⟨h1, K1, fr1, y0, y1, y2, y3⟩ := (k_X11_goBack_G1 (ev := ev) (q_c0 eh) (q_c11 eh) (q_c20 eh) (q_c7 eh) (q_c8 eh) (q_c9 eh) (q_c10 eh) (q_c16 eh) (q_c17 eh) (q_c18 eh) (q_c19 eh) hkp g2)
    have e1 : h1 = q_hc lw n tx fp (q_cb b o2) u2 s wa cf ct rr c wo o1 u1 o2 u2 kp a0 cl fa dr ti ok t4 hs od sh t3 co fo f gg ++ q_hr lw n tx fp b t s wa cf ct rr c wo o1 u1 o2 u2 kp ra wd we nu rd ts oa ob f4 od2 sh2 tw f7 bc := (q_up4 fr1 y0 y1 y2 y3).trans (by rw [eh]; rfl)
    obtain ⟨h2, K2, fr2, z0, z1, z2, z3⟩ := (k_X12_goBack_G1 (ev := ev) (q_c52 e1) (q_c56 e1) (q_c57 e1) (q_c58 e1) (q_c79 e1) (q_c80 e1) hkp g2)
    have e2 : h2 = q_hc lw n tx fp (q_cb b o2) u2 s wa cf ct rr c wo o1 u1 o2 u2 kp a0 cl fa dr ti ok t4 hs od sh t3 co fo f gg ++ q_hr lw n tx fp (q_cb b o2) u2 s wa cf ct rr c wo o1 u1 o2 u2 kp ra wd we nu rd ts oa ob f4 od2 sh2 tw f7 bc := (q_up4 fr2 z0 z1 z2 z3).trans (by rw [e1]; rfl)
    exact ⟨_, h1, h2, K1, K2, ⟨_, q_c52 e1⟩, ⟨ln, _, _, _, _, _, _, _, _, _, _, _, _, _, _, _, _, _, _, _, _, _, _, _, _, _, _, _, _, _, _, _, _, _, _, _, _, _, _, _, _, _, _, _, _, _, _, _, e2, ⟨hw, ⟨hn, htx⟩, ⟨(q_BI_cb hb hb2), hu2⟩, hsi, hwi, hr, hci, hwo, ⟨hb1, hu1⟩, ⟨hb2, hu2⟩, hkp, hti, hok, hh, hf, hg, ho, hob, hf7⟩⟩⟩
set_option maxRecDepth 100000 in
theorem s_feed {ev : mv_E} {h : mv_H} (hI : q_I h) (k : Int32) (bb : Int64) : q_ans ev mX11_feed mX12_feed [.int k, .long bb] h := by
  have hJ := hI
  obtain ⟨ln, lw, n, tx, fp, b, t, s, wa, cf, ct, rr, c, wo, o1, u1, o2, u2, kp, a0, cl, fa, dr, ti, ok, t4, hs, od, sh, t3, co, fo, f, gg, ra, wd, we, nu, rd, ts, oa, ob, f4, od2, sh2, tw, f7, bc, eh, ⟨hw, ⟨hn, htx⟩, ⟨hb, ht⟩, hsi, hwi, hr, hci, hwo, ⟨hb1, hu1⟩, ⟨hb2, hu2⟩, hkp, hti, hok, hh, hf, hg, ho, hob, hf7⟩⟩ := hI
  have hbn := hb.1
  have hsn := hsi.1
  have hcn := hci.1
  have hwn := hwo.1
  have hl1 := hw.2.2.1
  by_cases g1 : (nI 1 ≤ k ∧ k ≤ nI 8)
  rotate_left
  · exact q_same hJ (k_X11_feed_R1 (ev := ev) g1) (k_X12_feed_R1 (ev := ev) g1)
  have g1_0 := g1
  obtain ⟨k, k1, k2, rfl⟩ := mv_in_n (by decide) g1_0 (by decide)
  by_cases g2 : k + n ≤ 160
  rotate_left
  · exact q_same hJ (k_X11_feed_R2 (ev := ev) (q_c0 eh) (q_c3 eh) (by omega) (by omega) (by omega) g2) (k_X12_feed_R2 (ev := ev) (q_c52 eh) (by omega) (by omega) (by omega) g2)
  obtain ⟨h1, K1, fr1, y0, y1⟩ := (k_X11_feed_G (ev := ev) (q_c0 eh) (q_c3 eh) (q_c4 eh) (by omega) (by omega) (by omega) (by omega))
  have e1 : h1 = q_hc lw (n + k) (q_ap bb k n tx) fp b t s wa cf ct rr c wo o1 u1 o2 u2 kp a0 cl fa dr ti ok t4 hs od sh t3 co fo f gg ++ q_hr lw n tx fp b t s wa cf ct rr c wo o1 u1 o2 u2 kp ra wd we nu rd ts oa ob f4 od2 sh2 tw f7 bc := (q_up2 fr1 y0 y1).trans (by rw [eh]; rfl)
  obtain ⟨h2, K2, fr2, z0, z1⟩ := (k_X12_feed_G (ev := ev) (q_c52 e1) (q_c54 e1) (by omega) (by omega) (by omega) (by omega))
  have e2 : h2 = q_hc lw (n + k) (q_ap bb k n tx) fp b t s wa cf ct rr c wo o1 u1 o2 u2 kp a0 cl fa dr ti ok t4 hs od sh t3 co fo f gg ++ q_hr lw (n + k) (q_ap bb k n tx) fp b t s wa cf ct rr c wo o1 u1 o2 u2 kp ra wd we nu rd ts oa ob f4 od2 sh2 tw f7 bc := (q_up2 fr2 z0 z1).trans (by rw [e1]; rfl)
  exact ⟨_, h1, h2, K1, K2, ⟨_, q_c52 e1⟩, ⟨ln, _, _, _, _, _, _, _, _, _, _, _, _, _, _, _, _, _, _, _, _, _, _, _, _, _, _, _, _, _, _, _, _, _, _, _, _, _, _, _, _, _, _, _, _, _, _, _, e2, ⟨hw, ⟨(by omega), (q_ap_lt bb k n tx htx)⟩, ⟨hb, ht⟩, hsi, hwi, hr, hci, hwo, ⟨hb1, hu1⟩, ⟨hb2, hu2⟩, hkp, hti, hok, hh, hf, hg, ho, hob, hf7⟩⟩⟩
set_option maxRecDepth 100000 in
theorem s_law {ev : mv_E} {h : mv_H} (hE : q_E ev) (hI : q_I h) : q_ans ev mX11_law mX12_law [] h := by
  have hJ := hI
  obtain ⟨ln, lw, n, tx, fp, b, t, s, wa, cf, ct, rr, c, wo, o1, u1, o2, u2, kp, a0, cl, fa, dr, ti, ok, t4, hs, od, sh, t3, co, fo, f, gg, ra, wd, we, nu, rd, ts, oa, ob, f4, od2, sh2, tw, f7, bc, eh, ⟨hw, ⟨hn, htx⟩, ⟨hb, ht⟩, hsi, hwi, hr, hci, hwo, ⟨hb1, hu1⟩, ⟨hb2, hu2⟩, hkp, hti, hok, hh, hf, hg, ho, hob, hf7⟩⟩ := hI
  have hbn := hb.1
  have hsn := hsi.1
  have hcn := hci.1
  have hwn := hwo.1
  have hl1 := hw.2.2.1
  have hx := q_pxv hn dr ti (tx := tx) (ra, fp, wd, we, nu, rd, ts)
  obtain ⟨ln2, hw2⟩ := q_pxL hx hw
  have hti2 : ∀ i, (q_pv n tx dr ti).2.2 i ≤ 1 := q_lp_ti 160 _ (q_sk_in _ _ (Nat.zero_le _)).2 (Nat.zero_le _) (q_z_l1 hti 7)
  obtain ⟨h1, K1, fr1, y0, y1, y2, y3⟩ := (k_X11_law_G (ev := ev) (q_c0 eh) (q_c3 eh) (q_c4 eh) (q_c5 eh) (q_c6 eh) (q_c1 eh) (q_c2 eh) (by omega) htx hti hE)
  have e1 : h1 = q_hc (q_pl (q_pv n tx dr ti) lw) 0 tx (q_pv n tx dr ti).1.2.2.1 b t s wa cf ct rr c wo o1 u1 o2 u2 kp (q_pv n tx dr ti).1.1 (q_pv n tx dr ti).2.1 (q_pv n tx dr ti).1.2.1 (q_pv n tx dr ti).1.2.2.2 (q_pv n tx dr ti).2.2 ok t4 hs od sh t3 co fo f gg ++ q_hr lw n tx fp b t s wa cf ct rr c wo o1 u1 o2 u2 kp ra wd we nu rd ts oa ob f4 od2 sh2 tw f7 bc := (q_up4 fr1 y0 y1 y2 y3).trans (by rw [eh]; rfl)
  obtain ⟨h2, K2, fr2, z0, z1, z2⟩ := (k_X12_law (ev := ev) (rq := (ra, fp, wd, we, nu, rd, ts)) (q_c52 e1) (q_c54 e1) (q_c55 e1) (q_c53 e1) (by omega) htx)
  rw [← q_pxa hx] at K2
  rw [← q_pxf hx] at z0
  rw [← q_pxw hx lw] at z2
  have e2 : h2 = q_hc (q_pl (q_pv n tx dr ti) lw) 0 tx (q_pv n tx dr ti).1.2.2.1 b t s wa cf ct rr c wo o1 u1 o2 u2 kp (q_pv n tx dr ti).1.1 (q_pv n tx dr ti).2.1 (q_pv n tx dr ti).1.2.1 (q_pv n tx dr ti).1.2.2.2 (q_pv n tx dr ti).2.2 ok t4 hs od sh t3 co fo f gg ++ q_hr (q_pl (q_pv n tx dr ti) lw) 0 tx (q_pv n tx dr ti).1.2.2.1 b t s wa cf ct rr c wo o1 u1 o2 u2 kp (q_xv n tx (ra, fp, wd, we, nu, rd, ts)).2.2.1 (q_xv n tx (ra, fp, wd, we, nu, rd, ts)).2.2.2.2.1 (q_xv n tx (ra, fp, wd, we, nu, rd, ts)).2.2.2.2.2.1 (q_xv n tx (ra, fp, wd, we, nu, rd, ts)).2.2.2.2.2.2.1 (q_xv n tx (ra, fp, wd, we, nu, rd, ts)).2.2.2.2.2.2.2.1 (q_xv n tx (ra, fp, wd, we, nu, rd, ts)).2.2.2.2.2.2.2.2 oa ob f4 od2 sh2 tw f7 bc := (q_up3 fr2 z0 z1 z2).trans (by rw [e1]; rfl)
  exact ⟨_, h1, h2, K1, K2, ⟨_, q_c52 e1⟩, ⟨ln2, _, _, _, _, _, _, _, _, _, _, _, _, _, _, _, _, _, _, _, _, _, _, _, _, _, _, _, _, _, _, _, _, _, _, _, _, _, _, _, _, _, _, _, _, _, _, _, e2, ⟨hw2, ⟨(Nat.zero_le _), htx⟩, ⟨hb, ht⟩, hsi, hwi, hr, hci, hwo, ⟨hb1, hu1⟩, ⟨hb2, hu2⟩, hkp, hti2, hok, hh, hf, hg, ho, hob, hf7⟩⟩⟩
theorem q_tl_c {od sh od2 sh2 : Nat → Nat} {li d : Nat} {t : q_3} (h1 : od d = od2 d) (h2 : sh d = sh2 d) : q_tl od sh li d t = q_tl od2 sh2 li d t := by
  unfold q_tl
  rw [h1, h2]
theorem q_tw_c {od sh od2 sh2 : Nat → Nat} {li a : Nat} (n : Nat) (h : ∀ d, a ≤ d → d < a + n → od d = od2 d ∧ sh d = sh2 d) : q_tw od sh li a n = q_tw od2 sh2 li a n := by
  induction n with
  | zero => rfl
  | succ n ih =>
    have e1 : q_tw od sh li a (n + 1) = q_tl od sh li (a + n) (q_tw od sh li a n) := rfl
    have e2 : q_tw od2 sh2 li a (n + 1) = q_tl od2 sh2 li (a + n) (q_tw od2 sh2 li a n) := rfl
    have h3 := h (a + n) (by omega) (by omega)
    rw [e1, e2, ih (fun d a1 a2 => h d a1 (by omega)), q_tl_c h3.1 h3.2]
theorem q_tw_k {ln : Nat → Nat} {b : t_B} {p x a e : Nat} {od sh od2 sh2 : Nat → Nat} (li : Nat) : q_tw (q_fil (q_tO ln b p x) od a (e + 1)) (q_fil (q_tS b p x) sh a (e + 1)) li a (e + 1 - a) = q_tw (q_fil (q_tO ln b p x) od2 a (e + 1)) (q_hf b p x a e sh2 b.1) li a (e + 1 - a) := by
  refine q_tw_c _ (fun d h1 h2 => ⟨?_, ?_⟩)
  · rw [q_fil_in ⟨h1, by omega⟩, q_fil_in ⟨h1, by omega⟩]
  · rw [q_fil_in ⟨h1, by omega⟩, q_hf_in h1 (by omega)]
theorem q_co_k {ln : Nat → Nat} {b : t_B} {p x a e lc sc : Nat} {od sh od2 sh2 : Nat → Nat} : q_co (q_fil (q_tO ln b p x) od a (e + 1)) (q_fil (q_tS b p x) sh a (e + 1)) a e lc sc = q_co (q_fil (q_tO ln b p x) od2 a (e + 1)) (q_hf b p x a e sh2 b.1) a e lc sc := by
  funext li
  unfold q_co
  rw [q_tw_k (od2 := od2) (sh2 := sh2)]
/-- rows of committees of the same beginning -/
def q_sbb (f g : Nat → Nat) : Prop := ∀ i, i ≤ 200 → f i = g i
theorem q_bg_sb (f g : Nat → Nat) : q_sbb (q_bg f 201) (q_bg g 201) := by
  intro i hi
  have e1 : q_bg f 201 i = if i = 0 then 1000000 else 0 := if_pos (by omega)
  have e2 : q_bg g 201 i = if i = 0 then 1000000 else 0 := if_pos (by omega)
  rw [e1, e2]
theorem q_rows_sb {p : Nat} {f g : Nat → Nat} (h : q_sbb f g) (n : Nat) : q_sbb (q_rows p f n) (q_rows p g n) := by
  induction n with
  | zero => exact h
  | succ n ih =>
    intro i hi
    show q_ao (q_rows p f n) p (n + 1) 0 i = q_ao (q_rows p g n) p (n + 1) 0 i
    unfold q_ao q_nw
    rw [ih i hi, ih (i - 1) (by omega)]
theorem q_sm_sb {f g : Nat → Nat} (h : q_sbb f g) {k : Nat} (m : Nat) (hk : k + m ≤ 201) : q_sm f k m = q_sm g k m := by
  induction m with
  | zero => rfl
  | succ m ih =>
    have e1 : q_sm f k (m + 1) = q_sm f k m + f (k + m) := rfl
    have e2 : q_sm g k (m + 1) = q_sm g k m + g (k + m) := rfl
    rw [e1, e2, ih (by omega), h (k + m) (by omega)]
theorem q_lo_sb {d o d2 o2 : Nat → Nat} (h1 : q_sbb d d2) (h2 : q_sbb o o2) {n x y : Nat} (hn : n ≤ 60) (i : Nat) (hi : i ≤ n + 1) : q_lo d o n x y i = q_lo d2 o2 n x y i := by
  induction i with
  | zero => rfl
  | succ i ih =>
    have e1 : q_lo d o n x y (i + 1) = if q_sm d (n - i) (i + 1) ≤ x ∧ y ≤ q_sm o (n - i) (i + 1) then nI (n - i) else q_lo d o n x y i := rfl
    have e2 : q_lo d2 o2 n x y (i + 1) = if q_sm d2 (n - i) (i + 1) ≤ x ∧ y ≤ q_sm o2 (n - i) (i + 1) then nI (n - i) else q_lo d2 o2 n x y i := rfl
    rw [e1, e2, q_sm_sb h1 (i + 1) (by omega), q_sm_sb h2 (i + 1) (by omega), ih (by omega)]
theorem q_yn_in (P : Nat → Int32) (f : Nat) : ∀ n, n ≤ q_yn P f n ∧ q_yn P f n ≤ n + f := by
  induction f with
  | zero => intro n; exact ⟨Nat.le_refl _, Nat.le_refl _⟩
  | succ f ih =>
    intro n
    have e : q_yn P (f + 1) n = if P (n + 1) ≠ -1 then n + 1 else q_yn P f (n + 1) := rfl
    rw [e]
    split
    · omega
    · have := ih (n + 1)
      omega
theorem q_yn_c {P Q : Nat → Int32} (f : Nat) : ∀ n, (∀ i, n < i → i ≤ n + f → P i = Q i) → q_yn P f n = q_yn Q f n := by
  induction f with
  | zero => intro n _; rfl
  | succ f ih =>
    intro n h
    have e1 : q_yn P (f + 1) n = if P (n + 1) ≠ -1 then n + 1 else q_yn P f (n + 1) := rfl
    have e2 : q_yn Q (f + 1) n = if Q (n + 1) ≠ -1 then n + 1 else q_yn Q f (n + 1) := rfl
    rw [e1, e2, h (n + 1) (by omega) (by omega), ih (n + 1) (fun i a b => h i (by omega) (by omega))]
theorem q_lP_k {r t x y : Nat} (f g f2 g2 : Nat → Nat) : q_yn (q_lP r t x y (q_bg f 201) (q_bg g 201)) 60 0 = q_yn (q_lP r t x y (q_bg f2 201) (q_bg g2 201)) 60 0 ∧ q_lP r t x y (q_bg f 201) (q_bg g 201) (q_yn (q_lP r t x y (q_bg f 201) (q_bg g 201)) 60 0) = q_lP r t x y (q_bg f2 201) (q_bg g2 201) (q_yn (q_lP r t x y (q_bg f2 201) (q_bg g2 201)) 60 0) := by
  have hP : ∀ i, i ≤ 60 → q_lP r t x y (q_bg f 201) (q_bg g 201) i = q_lP r t x y (q_bg f2 201) (q_bg g2 201) i := fun i hi => q_lo_sb (q_rows_sb (q_bg_sb f f2) i) (q_rows_sb (q_bg_sb g g2) i) hi (i + 1) (Nat.le_refl _)
  have e := q_yn_c (P := q_lP r t x y (q_bg f 201) (q_bg g 201)) (Q := q_lP r t x y (q_bg f2 201) (q_bg g2 201)) 60 0 (fun i _ h => hP i (by omega))
  have hl := (q_yn_in (q_lP r t x y (q_bg f2 201) (q_bg g2 201)) 60 0).2
  refine ⟨e, ?_⟩
  rw [e]
  exact hP _ (by omega)
theorem q_yr_k {r t x y : Nat} (f g f2 g2 : Nat → Nat) : q_yr (q_lP r t x y (q_bg f 201) (q_bg g 201)) = q_yr (q_lP r t x y (q_bg f2 201) (q_bg g2 201)) := by
  have h := q_lP_k (r := r) (t := t) (x := x) (y := y) f g f2 g2
  unfold q_yr
  rw [h.2, h.1]
set_option maxRecDepth 100000 in
theorem s_town {ev : mv_E} {h : mv_H} (hI : q_I h) (p : Int32) (x : Int32) (lc : Int32) (sc : Int32) (li : Int32) (a : Int32) (e : Int32) (w : Int32) : q_ans ev mX11_town mX12_town [.int p, .int x, .int lc, .int sc, .int li, .int a, .int e, .int w] h := by
  have hJ := hI
  obtain ⟨ln, lw, n, tx, fp, b, t, s, wa, cf, ct, rr, c, wo, o1, u1, o2, u2, kp, a0, cl, fa, dr, ti, ok, t4, hs, od, sh, t3, co, fo, f, gg, ra, wd, we, nu, rd, ts, oa, ob, f4, od2, sh2, tw, f7, bc, eh, ⟨hw, ⟨hn, htx⟩, ⟨hb, ht⟩, hsi, hwi, hr, hci, hwo, ⟨hb1, hu1⟩, ⟨hb2, hu2⟩, hkp, hti, hok, hh, hf, hg, ho, hob, hf7⟩⟩ := hI
  have hbn := hb.1
  have hsn := hsi.1
  have hcn := hci.1
  have hwn := hwo.1
  have hl1 := hw.2.2.1
  by_cases g1 : (nI 0 ≤ p ∧ p ≤ nI 63)
  rotate_left
  · exact q_same hJ (k_X11_town_R1 (ev := ev) g1) (k_X12_town_R1 (ev := ev) g1)
  have g1_0 := g1
  obtain ⟨p, p1, p2, rfl⟩ := mv_in_n (by decide) g1_0 (by decide)
  by_cases g2 : (nI 1 ≤ x ∧ x ≤ nI 9) ∧ (nI 1 ≤ lc ∧ lc ≤ nI 999) ∧ (nI 1 ≤ sc ∧ sc ≤ nI 9999) ∧ (nI 1 ≤ a ∧ a ≤ nI 399) ∧ (a ≤ e ∧ e ≤ nI 399) ∧ (nI 0 ≤ li ∧ li ≤ nI 1000001) ∧ (nI 0 ≤ w ∧ w ≤ nI 3)
  rotate_left
  · exact q_same hJ (k_X11_town_R2 (ev := ev) (by omega) g2) (k_X12_town_R2 (ev := ev) (by omega) g2)
  obtain ⟨g2_0, g2_1, g2_2, g2_3, g2_4, g2_5, g2_6⟩ := g2
  obtain ⟨x, x1, x2, rfl⟩ := mv_in_n (by decide) g2_0 (by decide)
  obtain ⟨lc, lc1, lc2, rfl⟩ := mv_in_n (by decide) g2_1 (by decide)
  obtain ⟨sc, sc1, sc2, rfl⟩ := mv_in_n (by decide) g2_2 (by decide)
  obtain ⟨a, a1, a2, rfl⟩ := mv_in_n (by decide) g2_3 (by decide)
  obtain ⟨e, e1, e2, rfl⟩ := q_ton (by omega) g2_4
  obtain ⟨li, li1, li2, rfl⟩ := mv_in_n (by decide) g2_5 (by decide)
  obtain ⟨w, w1, w2, rfl⟩ := mv_in_n (by decide) g2_6 (by decide)
  obtain ⟨h1, K1, fr1, y0, y1, y2⟩ := (k_X11_town_G (ev := ev) (p := p) (x := x) (lc := lc) (sc := sc) (li := li) (a := a) (e := e) (w := w) (q_c0 eh) (q_c42 eh) (q_c43 eh) (q_c44 eh) (q_c21 eh) (q_c1 eh) (q_c2 eh) (q_c7 eh) (q_c8 eh) (q_c9 eh) (q_c10 eh) hw hb (by omega) (by omega) (by omega) (by omega) (by omega) (by omega) (by omega) (by omega) (by omega) (by omega) (by omega) (by omega))
  have e1 : h1 = q_hc lw n tx fp b t s wa cf ct rr c wo o1 u1 o2 u2 kp a0 cl fa dr ti ok t4 hs (q_fil (q_tO ln b p x) od a (e + 1)) (q_fil (q_tS b p x) sh a (e + 1)) (q_tw (q_fil (q_tO ln b p x) od a (e + 1)) (q_fil (q_tS b p x) sh a (e + 1)) li a (e + 1 - a)) (q_co (q_fil (q_tO ln b p x) od a (e + 1)) (q_fil (q_tS b p x) sh a (e + 1)) a e lc sc li) fo f gg ++ q_hr lw n tx fp b t s wa cf ct rr c wo o1 u1 o2 u2 kp ra wd we nu rd ts oa ob f4 od2 sh2 tw f7 bc := (q_up3 fr1 y0 y1 y2).trans (by rw [eh]; rfl)
  obtain ⟨h2, K2, fr2, z0, z1, z2⟩ := (k_X12_town_G (ev := ev) (p := p) (x := x) (lc := lc) (sc := sc) (li := li) (a := a) (e := e) (w := w) (q_c52 e1) (q_c56 e1) (q_c57 e1) (q_c58 e1) (q_c53 e1) (q_c71 e1) (q_c72 e1) (q_c73 e1) hw hb (by omega) (by omega) (by omega) (by omega) (by omega) (by omega) (by omega) (by omega) (by omega) (by omega) (by omega) (by omega))
  rw [← q_tw_k (od := od) (sh := sh), ← q_co_k (od := od) (sh := sh)] at K2
  have e2 : h2 = q_hc lw n tx fp b t s wa cf ct rr c wo o1 u1 o2 u2 kp a0 cl fa dr ti ok t4 hs (q_fil (q_tO ln b p x) od a (e + 1)) (q_fil (q_tS b p x) sh a (e + 1)) (q_tw (q_fil (q_tO ln b p x) od a (e + 1)) (q_fil (q_tS b p x) sh a (e + 1)) li a (e + 1 - a)) (q_co (q_fil (q_tO ln b p x) od a (e + 1)) (q_fil (q_tS b p x) sh a (e + 1)) a e lc sc li) fo f gg ++ q_hr lw n tx fp b t s wa cf ct rr c wo o1 u1 o2 u2 kp ra wd we nu rd ts oa ob f4 (q_fil (q_tO ln b p x) od2 a (e + 1)) (q_hf b p x a e sh2 b.1) (t_up (q_tf (q_tw (q_fil (q_tO ln b p x) od2 a (e + 1)) (q_hf b p x a e sh2 b.1) li a (e + 1 - a)) (q_z tw 4)) 3 (q_co (q_fil (q_tO ln b p x) od2 a (e + 1)) (q_hf b p x a e sh2 b.1) a e lc sc li)) f7 bc := (q_up3 fr2 z0 z1 z2).trans (by rw [e1]; rfl)
  exact ⟨_, h1, h2, K1, K2, ⟨_, q_c52 e1⟩, ⟨ln, _, _, _, _, _, _, _, _, _, _, _, _, _, _, _, _, _, _, _, _, _, _, _, _, _, _, _, _, _, _, _, _, _, _, _, _, _, _, _, _, _, _, _, _, _, _, _, e2, ⟨hw, ⟨hn, htx⟩, ⟨hb, ht⟩, hsi, hwi, hr, hci, hwo, ⟨hb1, hu1⟩, ⟨hb2, hu2⟩, hkp, hti, hok, hh, hf, hg, ho, hob, hf7⟩⟩⟩
set_option maxRecDepth 100000 in
theorem s_bestLine {ev : mv_E} {h : mv_H} (hI : q_I h) (p : Int32) (x : Int32) (lc : Int32) (sc : Int32) (a : Int32) (e : Int32) : q_ans ev mX11_bestLine mX12_bestLine [.int p, .int x, .int lc, .int sc, .int a, .int e] h := by
  have hJ := hI
  obtain ⟨ln, lw, n, tx, fp, b, t, s, wa, cf, ct, rr, c, wo, o1, u1, o2, u2, kp, a0, cl, fa, dr, ti, ok, t4, hs, od, sh, t3, co, fo, f, gg, ra, wd, we, nu, rd, ts, oa, ob, f4, od2, sh2, tw, f7, bc, eh, ⟨hw, ⟨hn, htx⟩, ⟨hb, ht⟩, hsi, hwi, hr, hci, hwo, ⟨hb1, hu1⟩, ⟨hb2, hu2⟩, hkp, hti, hok, hh, hf, hg, ho, hob, hf7⟩⟩ := hI
  have hbn := hb.1
  have hsn := hsi.1
  have hcn := hci.1
  have hwn := hwo.1
  have hl1 := hw.2.2.1
  by_cases g1 : (nI 0 ≤ p ∧ p ≤ nI 63)
  rotate_left
  · exact q_same hJ (k_X11_bestLine_R1 (ev := ev) g1) (k_X12_bestLine_R1 (ev := ev) g1)
  have g1_0 := g1
  obtain ⟨p, p1, p2, rfl⟩ := mv_in_n (by decide) g1_0 (by decide)
  by_cases g2 : (nI 1 ≤ x ∧ x ≤ nI 9) ∧ (nI 1 ≤ lc ∧ lc ≤ nI 999) ∧ (nI 1 ≤ sc ∧ sc ≤ nI 9999) ∧ (nI 1 ≤ a ∧ a ≤ nI 399) ∧ (a ≤ e ∧ e ≤ nI 399)
  rotate_left
  · exact q_same hJ (k_X11_bestLine_R2 (ev := ev) (by omega) g2) (k_X12_bestLine_R2 (ev := ev) (by omega) g2)
  obtain ⟨g2_0, g2_1, g2_2, g2_3, g2_4⟩ := g2
  obtain ⟨x, x1, x2, rfl⟩ := mv_in_n (by decide) g2_0 (by decide)
  obtain ⟨lc, lc1, lc2, rfl⟩ := mv_in_n (by decide) g2_1 (by decide)
  obtain ⟨sc, sc1, sc2, rfl⟩ := mv_in_n (by decide) g2_2 (by decide)
  obtain ⟨a, a1, a2, rfl⟩ := mv_in_n (by decide) g2_3 (by decide)
  obtain ⟨e, e1, e2, rfl⟩ := q_ton (by omega) g2_4
  obtain ⟨h1, K1, fr1, y0, y1, y2⟩ := (k_X11_bestLine_G (ev := ev) (p := p) (x := x) (lc := lc) (sc := sc) (a := a) (e := e) (q_c0 eh) (q_c42 eh) (q_c43 eh) (q_c44 eh) (q_c21 eh) (q_c1 eh) (q_c2 eh) (q_c7 eh) (q_c8 eh) (q_c9 eh) (q_c10 eh) hw hb (by omega) (by omega) (by omega) (by omega) (by omega) (by omega) (by omega) (by omega) (by omega) (by omega))
  have e1 : h1 = q_hc lw n tx fp b t s wa cf ct rr c wo o1 u1 o2 u2 kp a0 cl fa dr ti ok t4 hs (q_fil (q_tO ln b p x) od a (e + 1)) (q_fil (q_tS b p x) sh a (e + 1)) (q_tw (q_fil (q_tO ln b p x) od a (e + 1)) (q_fil (q_tS b p x) sh a (e + 1)) 0 a (e + 1 - a)) (q_co (q_fil (q_tO ln b p x) od a (e + 1)) (q_fil (q_tS b p x) sh a (e + 1)) a e lc sc 0) fo f gg ++ q_hr lw n tx fp b t s wa cf ct rr c wo o1 u1 o2 u2 kp ra wd we nu rd ts oa ob f4 od2 sh2 tw f7 bc := (q_up3 fr1 y0 y1 y2).trans (by rw [eh]; rfl)
  obtain ⟨h2, K2, fr2, z0, z1, z2⟩ := (k_X12_bestLine_G (ev := ev) (p := p) (x := x) (lc := lc) (sc := sc) (a := a) (e := e) (q_c52 e1) (q_c56 e1) (q_c57 e1) (q_c58 e1) (q_c53 e1) (q_c71 e1) (q_c72 e1) (q_c73 e1) hw hb (by omega) (by omega) (by omega) (by omega) (by omega) (by omega) (by omega) (by omega) (by omega) (by omega))
  rw [← q_bl_bu, ← q_co_k (od := od) (sh := sh)] at K2
  have e2 : h2 = q_hc lw n tx fp b t s wa cf ct rr c wo o1 u1 o2 u2 kp a0 cl fa dr ti ok t4 hs (q_fil (q_tO ln b p x) od a (e + 1)) (q_fil (q_tS b p x) sh a (e + 1)) (q_tw (q_fil (q_tO ln b p x) od a (e + 1)) (q_fil (q_tS b p x) sh a (e + 1)) 0 a (e + 1 - a)) (q_co (q_fil (q_tO ln b p x) od a (e + 1)) (q_fil (q_tS b p x) sh a (e + 1)) a e lc sc 0) fo f gg ++ q_hr lw n tx fp b t s wa cf ct rr c wo o1 u1 o2 u2 kp ra wd we nu rd ts oa ob f4 (q_fil (q_tO ln b p x) od2 a (e + 1)) (q_hf b p x a e sh2 b.1) (t_up (q_tf (q_tw (q_fil (q_tO ln b p x) od2 a (e + 1)) (q_hf b p x a e sh2 b.1) (q_L 51) a (e + 1 - a)) (q_z tw 4)) 3 (q_co (q_fil (q_tO ln b p x) od2 a (e + 1)) (q_hf b p x a e sh2 b.1) a e lc sc (q_L 51))) f7 bc := (q_up3 fr2 z0 z1 z2).trans (by rw [e1]; rfl)
  exact ⟨_, h1, h2, K1, K2, ⟨_, q_c52 e1⟩, ⟨ln, _, _, _, _, _, _, _, _, _, _, _, _, _, _, _, _, _, _, _, _, _, _, _, _, _, _, _, _, _, _, _, _, _, _, _, _, _, _, _, _, _, _, _, _, _, _, _, e2, ⟨hw, ⟨hn, htx⟩, ⟨hb, ht⟩, hsi, hwi, hr, hci, hwo, ⟨hb1, hu1⟩, ⟨hb2, hu2⟩, hkp, hti, hok, hh, hf, hg, ho, hob, hf7⟩⟩⟩
set_option maxRecDepth 100000 in
theorem s_luck {ev : mv_E} {h : mv_H} (hI : q_I h) (v : Int32) (p : Int32) (k : Int32) : q_ans ev mX11_luck mX12_luck [.int v, .int p, .int k] h := by
  have hJ := hI
  obtain ⟨ln, lw, n, tx, fp, b, t, s, wa, cf, ct, rr, c, wo, o1, u1, o2, u2, kp, a0, cl, fa, dr, ti, ok, t4, hs, od, sh, t3, co, fo, f, gg, ra, wd, we, nu, rd, ts, oa, ob, f4, od2, sh2, tw, f7, bc, eh, ⟨hw, ⟨hn, htx⟩, ⟨hb, ht⟩, hsi, hwi, hr, hci, hwo, ⟨hb1, hu1⟩, ⟨hb2, hu2⟩, hkp, hti, hok, hh, hf, hg, ho, hob, hf7⟩⟩ := hI
  have hbn := hb.1
  have hsn := hsi.1
  have hcn := hci.1
  have hwn := hwo.1
  have hl1 := hw.2.2.1
  by_cases g1 : (nI 1 ≤ v ∧ v ≤ nI 200) ∧ (nI 0 ≤ p ∧ p ≤ nI 1000) ∧ (nI 0 ≤ k ∧ k ≤ v)
  rotate_left
  · exact q_same hJ (k_X11_luck_R1 (ev := ev) g1) (k_X12_luck_R1 (ev := ev) g1)
  obtain ⟨g1_0, g1_1, g1_2⟩ := g1
  obtain ⟨v, v1, v2, rfl⟩ := mv_in_n (by decide) g1_0 (by decide)
  obtain ⟨p, p1, p2, rfl⟩ := mv_in_n (by decide) g1_1 (by decide)
  obtain ⟨k, k1, k2, rfl⟩ := mv_in_n (by omega) g1_2 (Nat.zero_le _)
  obtain ⟨h1, K1, fr1, y0⟩ := (k_X11_luck_G (ev := ev) (q_c0 eh) (q_c45 eh) (q_c46 eh) hf (by omega) (by omega) (by omega) (by omega))
  have e1 : h1 = q_hc lw n tx fp b t s wa cf ct rr c wo o1 u1 o2 u2 kp a0 cl fa dr ti ok t4 hs od sh t3 co fo (q_rows p (q_bg f 201) v) gg ++ q_hr lw n tx fp b t s wa cf ct rr c wo o1 u1 o2 u2 kp ra wd we nu rd ts oa ob f4 od2 sh2 tw f7 bc := (q_up1 fr1 y0).trans (by rw [eh]; rfl)
  obtain ⟨h2, K2, fr2, z0⟩ := (k_X12_luck_G (ev := ev) (q_c52 e1) (q_c74 e1) hf7 (by omega) (by omega) (by omega) (by omega))
  rw [q_sm_sb (q_rows_sb (q_bg_sb f7 f) v) (v + 1 - k) (by omega)] at K2
  have e2 : h2 = q_hc lw n tx fp b t s wa cf ct rr c wo o1 u1 o2 u2 kp a0 cl fa dr ti ok t4 hs od sh t3 co fo (q_rows p (q_bg f 201) v) gg ++ q_hr lw n tx fp b t s wa cf ct rr c wo o1 u1 o2 u2 kp ra wd we nu rd ts oa ob f4 od2 sh2 tw (q_rows p (q_bg f7 201) v) bc := (q_up1 fr2 z0).trans (by rw [e1]; rfl)
  exact ⟨_, h1, h2, K1, K2, ⟨_, q_c52 e1⟩, ⟨ln, _, _, _, _, _, _, _, _, _, _, _, _, _, _, _, _, _, _, _, _, _, _, _, _, _, _, _, _, _, _, _, _, _, _, _, _, _, _, _, _, _, _, _, _, _, _, _, e2, ⟨hw, ⟨hn, htx⟩, ⟨hb, ht⟩, hsi, hwi, hr, hci, hwo, ⟨hb1, hu1⟩, ⟨hb2, hu2⟩, hkp, hti, hok, hh, (q_rows_le (q_bg_le hf 201) p2 v), hg, ho, hob, (q_rows_le (q_bg_le hf7 201) p2 v)⟩⟩⟩
set_option maxRecDepth 100000 in
theorem s_lake {ev : mv_E} {h : mv_H} (hI : q_I h) (r1 : Int32) (t9 : Int32) (x : Int32) (y : Int32) (w : Int32) : q_ans ev mX11_lake mX12_lake [.int r1, .int t9, .int x, .int y, .int w] h := by
  have hJ := hI
  obtain ⟨ln, lw, n, tx, fp, b, t, s, wa, cf, ct, rr, c, wo, o1, u1, o2, u2, kp, a0, cl, fa, dr, ti, ok, t4, hs, od, sh, t3, co, fo, f, gg, ra, wd, we, nu, rd, ts, oa, ob, f4, od2, sh2, tw, f7, bc, eh, ⟨hw, ⟨hn, htx⟩, ⟨hb, ht⟩, hsi, hwi, hr, hci, hwo, ⟨hb1, hu1⟩, ⟨hb2, hu2⟩, hkp, hti, hok, hh, hf, hg, ho, hob, hf7⟩⟩ := hI
  have hbn := hb.1
  have hsn := hsi.1
  have hcn := hci.1
  have hwn := hwo.1
  have hl1 := hw.2.2.1
  by_cases g1 : (nI 0 ≤ r1 ∧ r1 ≤ nI 1000) ∧ (nI 0 ≤ t9 ∧ t9 ≤ nI 1000) ∧ (nI 0 ≤ x ∧ x ≤ nI 1000000) ∧ (nI 0 ≤ y ∧ y ≤ nI 1000000) ∧ (nI 0 ≤ w ∧ w ≤ nI 1)
  rotate_left
  · exact q_same hJ (k_X11_lake_R1 (ev := ev) g1) (k_X12_lake_R1 (ev := ev) g1)
  obtain ⟨g1_0, g1_1, g1_2, g1_3, g1_4⟩ := g1
  obtain ⟨r1, r11, r12, rfl⟩ := mv_in_n (by decide) g1_0 (by decide)
  obtain ⟨t9, t91, t92, rfl⟩ := mv_in_n (by decide) g1_1 (by decide)
  obtain ⟨x, x1, x2, rfl⟩ := mv_in_n (by decide) g1_2 (by decide)
  obtain ⟨y, y1, y2, rfl⟩ := mv_in_n (by decide) g1_3 (by decide)
  obtain ⟨w, w1, w2, rfl⟩ := mv_in_n (by decide) g1_4 (by decide)
  have ew : w = 0 ∨ w = 1 := by omega
  rcases ew with rfl | rfl
  · skip
    obtain ⟨h1, K1, fr1, y0, y1, y2⟩ := (k_X11_lake_G0 (ev := ev) (r1 := r1) (t := t9) (x := x) (y := y) (q_c0 eh) (q_c45 eh) (q_c46 eh) (q_c47 eh) hf hg (by omega) (by omega) (by omega) (by omega))
    have e1 : h1 = q_hc lw n tx fp b t s wa cf ct rr c wo o1 u1 o2 u2 kp a0 cl fa dr ti ok t4 hs od sh t3 co ((q_lP r1 t9 x y (q_bg f 201) (q_bg gg 201)) (q_yn (q_lP r1 t9 x y (q_bg f 201) (q_bg gg 201)) 60 0)) (q_rows r1 (q_bg f 201) (q_yn (q_lP r1 t9 x y (q_bg f 201) (q_bg gg 201)) 60 0)) (q_rows t9 (q_bg gg 201) (q_yn (q_lP r1 t9 x y (q_bg f 201) (q_bg gg 201)) 60 0)) ++ q_hr lw n tx fp b t s wa cf ct rr c wo o1 u1 o2 u2 kp ra wd we nu rd ts oa ob f4 od2 sh2 tw f7 bc := (q_up3 fr1 y0 y1 y2).trans (by rw [eh]; rfl)
    obtain ⟨h2, K2, fr2, z0, z1⟩ := (k_X12_lake_G0 (ev := ev) (r1 := r1) (t2 := t9) (x := x) (y := y) (q_c52 e1) (q_c74 e1) (q_c75 e1) hf7 (by omega) (by omega) (by omega) (by omega))
    rw [q_yr_k f7 (q_rows r1 (q_bg f7 201) 60) f gg] at K2
    have e2 : h2 = q_hc lw n tx fp b t s wa cf ct rr c wo o1 u1 o2 u2 kp a0 cl fa dr ti ok t4 hs od sh t3 co ((q_lP r1 t9 x y (q_bg f 201) (q_bg gg 201)) (q_yn (q_lP r1 t9 x y (q_bg f 201) (q_bg gg 201)) 60 0)) (q_rows r1 (q_bg f 201) (q_yn (q_lP r1 t9 x y (q_bg f 201) (q_bg gg 201)) 60 0)) (q_rows t9 (q_bg gg 201) (q_yn (q_lP r1 t9 x y (q_bg f 201) (q_bg gg 201)) 60 0)) ++ q_hr lw n tx fp b t s wa cf ct rr c wo o1 u1 o2 u2 kp ra wd we nu rd ts oa ob f4 od2 sh2 tw (q_rows t9 (q_bg (q_rows r1 (q_bg f7 201) 60) 201) (q_yn (q_lP r1 t9 x y (q_bg f7 201) (q_bg (q_rows r1 (q_bg f7 201) 60) 201)) 60 0)) (q_fc r1 (q_bg f7 201) bc 61 0) := (q_up2 fr2 z0 z1).trans (by rw [e1]; rfl)
    exact ⟨_, h1, h2, K1, K2, ⟨_, q_c52 e1⟩, ⟨ln, _, _, _, _, _, _, _, _, _, _, _, _, _, _, _, _, _, _, _, _, _, _, _, _, _, _, _, _, _, _, _, _, _, _, _, _, _, _, _, _, _, _, _, _, _, _, _, e2, ⟨hw, ⟨hn, htx⟩, ⟨hb, ht⟩, hsi, hwi, hr, hci, hwo, ⟨hb1, hu1⟩, ⟨hb2, hu2⟩, hkp, hti, hok, hh, (q_rows_le (q_bg_le hf 201) r12 _), (q_rows_le (q_bg_le hg 201) t92 _), ho, hob, (q_rows_le (q_bg_le (q_rows_le (q_bg_le hf7 201) r12 60) 201) t92 _)⟩⟩⟩
  · skip
    obtain ⟨h1, K1, fr1, y0, y1, y2⟩ := (k_X11_lake_G1 (ev := ev) (r1 := r1) (t := t9) (x := x) (y := y) (q_c0 eh) (q_c45 eh) (q_c46 eh) (q_c47 eh) hf hg (by omega) (by omega) (by omega) (by omega))
    have e1 : h1 = q_hc lw n tx fp b t s wa cf ct rr c wo o1 u1 o2 u2 kp a0 cl fa dr ti ok t4 hs od sh t3 co ((q_lP r1 t9 x y (q_bg f 201) (q_bg gg 201)) (q_yn (q_lP r1 t9 x y (q_bg f 201) (q_bg gg 201)) 60 0)) (q_rows r1 (q_bg f 201) (q_yn (q_lP r1 t9 x y (q_bg f 201) (q_bg gg 201)) 60 0)) (q_rows t9 (q_bg gg 201) (q_yn (q_lP r1 t9 x y (q_bg f 201) (q_bg gg 201)) 60 0)) ++ q_hr lw n tx fp b t s wa cf ct rr c wo o1 u1 o2 u2 kp ra wd we nu rd ts oa ob f4 od2 sh2 tw f7 bc := (q_up3 fr1 y0 y1 y2).trans (by rw [eh]; rfl)
    obtain ⟨h2, K2, fr2, z0, z1⟩ := (k_X12_lake_G1 (ev := ev) (r1 := r1) (t2 := t9) (x := x) (y := y) (q_c52 e1) (q_c74 e1) (q_c75 e1) hf7 (by omega) (by omega) (by omega) (by omega))
    rw [(q_lP_k f7 (q_rows r1 (q_bg f7 201) 60) f gg).2] at K2
    have e2 : h2 = q_hc lw n tx fp b t s wa cf ct rr c wo o1 u1 o2 u2 kp a0 cl fa dr ti ok t4 hs od sh t3 co ((q_lP r1 t9 x y (q_bg f 201) (q_bg gg 201)) (q_yn (q_lP r1 t9 x y (q_bg f 201) (q_bg gg 201)) 60 0)) (q_rows r1 (q_bg f 201) (q_yn (q_lP r1 t9 x y (q_bg f 201) (q_bg gg 201)) 60 0)) (q_rows t9 (q_bg gg 201) (q_yn (q_lP r1 t9 x y (q_bg f 201) (q_bg gg 201)) 60 0)) ++ q_hr lw n tx fp b t s wa cf ct rr c wo o1 u1 o2 u2 kp ra wd we nu rd ts oa ob f4 od2 sh2 tw (q_rows t9 (q_bg (q_rows r1 (q_bg f7 201) 60) 201) (q_yn (q_lP r1 t9 x y (q_bg f7 201) (q_bg (q_rows r1 (q_bg f7 201) 60) 201)) 60 0)) (q_fc r1 (q_bg f7 201) bc 61 0) := (q_up2 fr2 z0 z1).trans (by rw [e1]; rfl)
    exact ⟨_, h1, h2, K1, K2, ⟨_, q_c52 e1⟩, ⟨ln, _, _, _, _, _, _, _, _, _, _, _, _, _, _, _, _, _, _, _, _, _, _, _, _, _, _, _, _, _, _, _, _, _, _, _, _, _, _, _, _, _, _, _, _, _, _, _, e2, ⟨hw, ⟨hn, htx⟩, ⟨hb, ht⟩, hsi, hwi, hr, hci, hwo, ⟨hb1, hu1⟩, ⟨hb2, hu2⟩, hkp, hti, hok, hh, (q_rows_le (q_bg_le hf 201) r12 _), (q_rows_le (q_bg_le hg 201) t92 _), ho, hob, (q_rows_le (q_bg_le (q_rows_le (q_bg_le hf7 201) r12 60) 201) t92 _)⟩⟩⟩
