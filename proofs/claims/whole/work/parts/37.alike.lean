/-! class and reference read a text alike -/
theorem q_sk_st {n : Nat} {tx : Nat → Nat} (f : Nat) : ∀ k, n - k ≤ f → ¬ (q_sk n tx f k < n ∧ tx (q_sk n tx f k) = 32) := by
  induction f with
  | zero =>
    intro k h q
    have e : q_sk n tx 0 k = k := rfl
    rw [e] at q
    omega
  | succ f ih =>
    intro k h
    have e : q_sk n tx (f + 1) k = if k < n ∧ tx k = 32 then q_sk n tx f (k + 1) else k := rfl
    rw [e]
    by_cases c : k < n ∧ tx k = 32
    · rw [if_pos c]
      exact ih (k + 1) (by omega)
    · rw [if_neg c]
      exact c
theorem q_sk_2 {n : Nat} {tx : Nat → Nat} (k : Nat) : q_sk n tx (n - q_sk n tx (n - k) k) (q_sk n tx (n - k) k) = q_sk n tx (n - k) k := q_sk_n (q_sk_st _ k (Nat.le_refl _))
theorem q_fe_l {n : Nat} {tx : Nat → Nat} (f : Nat) : ∀ k, ∀ j, k ≤ j → j < q_fe n tx f k → 48 ≤ tx j ∧ tx j ≤ 57 := by
  induction f with
  | zero => intro k j h1 h2; exact absurd (Nat.lt_of_le_of_lt h1 h2) (Nat.lt_irrefl _)
  | succ f ih =>
    intro k j h1 h2
    have e : q_fe n tx (f + 1) k = if k < n ∧ 48 ≤ tx k ∧ tx k ≤ 57 then q_fe n tx f (k + 1) else k := rfl
    rw [e] at h2
    by_cases c : k < n ∧ 48 ≤ tx k ∧ tx k ≤ 57
    · rw [if_pos c] at h2
      by_cases e2 : j = k
      · rw [e2]; exact c.2
      · exact ih (k + 1) j (by omega) h2
    · rw [if_neg c] at h2
      omega
theorem q_nr {tx : Nat → Nat} {s L : Nat} (h3 : L ≤ 3) (hd : ∀ j, j < L → 48 ≤ tx (s + j) ∧ tx (s + j) ≤ 57) : q_nv tx s L = q_rv tx s L ∧ q_nv tx s L ≤ 999 := by
  have a0 : q_nv tx s 0 = 0 := rfl
  have b0 : q_rv tx s 0 = 0 := rfl
  have na : ∀ i, i < 3 → q_nv tx s (i + 1) = q_nv tx s i * 10 + (tx (s + i) - 48) := fun i hi => if_pos hi
  have nb : ∀ i, ¬ 10000 < q_rv tx s i → q_rv tx s (i + 1) = 10 * q_rv tx s i + (tx (s + i) - 48) := fun i hi => if_neg hi
  have c : L = 0 ∨ L = 1 ∨ L = 2 ∨ L = 3 := by omega
  rcases c with rfl | rfl | rfl | rfl
  · exact ⟨rfl, Nat.zero_le _⟩
  · have d0 := hd 0 (by decide)
    have a1 : q_nv tx s 1 = q_nv tx s 0 * 10 + (tx (s + 0) - 48) := na 0 (by decide)
    have b1 : q_rv tx s 1 = 10 * q_rv tx s 0 + (tx (s + 0) - 48) := nb 0 (by omega)
    omega
  · have d0 := hd 0 (by decide)
    have d1 := hd 1 (by decide)
    have a1 : q_nv tx s 1 = q_nv tx s 0 * 10 + (tx (s + 0) - 48) := na 0 (by decide)
    have b1 : q_rv tx s 1 = 10 * q_rv tx s 0 + (tx (s + 0) - 48) := nb 0 (by omega)
    have a2 : q_nv tx s 2 = q_nv tx s 1 * 10 + (tx (s + 1) - 48) := na 1 (by decide)
    have b2 : q_rv tx s 2 = 10 * q_rv tx s 1 + (tx (s + 1) - 48) := nb 1 (by omega)
    omega
  · have d0 := hd 0 (by decide)
    have d1 := hd 1 (by decide)
    have d2 := hd 2 (by decide)
    have a1 : q_nv tx s 1 = q_nv tx s 0 * 10 + (tx (s + 0) - 48) := na 0 (by decide)
    have b1 : q_rv tx s 1 = 10 * q_rv tx s 0 + (tx (s + 0) - 48) := nb 0 (by omega)
    have a2 : q_nv tx s 2 = q_nv tx s 1 * 10 + (tx (s + 1) - 48) := na 1 (by decide)
    have b2 : q_rv tx s 2 = 10 * q_rv tx s 1 + (tx (s + 1) - 48) := nb 1 (by omega)
    have a3 : q_nv tx s 3 = q_nv tx s 2 * 10 + (tx (s + 2) - 48) := na 2 (by decide)
    have b3 : q_rv tx s 3 = 10 * q_rv tx s 2 + (tx (s + 2) - 48) := nb 2 (by omega)
    omega
def q_bnd (w lo hi : Nat) : Prop := ∀ v, v ≤ 999 → (q_ib w v ↔ lo ≤ v ∧ v ≤ hi)
theorem q_nm {n : Nat} {tx : Nat → Nat} {w lo hi a : Nat} {dr : Nat → Int32} {nu : Int32} (ha : a ≤ n) (hib : q_bnd w lo hi) (T : Nat × Nat × Int32 × Int32) (hT : T = q_tn n tx lo hi a (-1) nu) : (T.1 = 0 → q_num n tx w (a, 0, -1, dr) = (T.2.1, 0, -1, upd dr w T.2.2.2) ∧ T.2.2.1 = -1 ∧ ∃ v, T.2.2.2 = nI v ∧ lo ≤ v ∧ v ≤ hi) ∧ (¬ T.1 = 0 → (q_num n tx w (a, 0, -1, dr)).2.1 = T.1 ∧ (q_num n tx w (a, 0, -1, dr)).2.2.1 = T.2.2.1) := by
  have h1 := q_sk_in (tx := tx) (n - a) a ha
  have h2 := q_fe_in (tx := tx) (n - q_sk n tx (n - a) a) _ h1.2
  have h3 := q_fe_l (n := n) (tx := tx) (n - q_sk n tx (n - a) a) (q_sk n tx (n - a) a)
  have eN : q_num n tx w (a, 0, -1, dr) = q_nm2 tx w (a, 0, -1, dr) (q_sk n tx (n - a) a) (q_fe n tx (n - q_sk n tx (n - a) a) (q_sk n tx (n - a) a)) := rfl
  have eT : q_tn n tx lo hi a (-1) nu = q_tn2 tx lo hi (q_sk n tx (n - a) a) (q_fe n tx (n - q_sk n tx (n - a) a) (q_sk n tx (n - a) a)) (-1) nu := rfl
  rw [eT] at hT
  rw [eN]
  clear eN eT
  generalize q_fe n tx (n - q_sk n tx (n - a) a) (q_sk n tx (n - a) a) = e at *
  generalize q_sk n tx (n - a) a = s at *
  by_cases c1 : e = s
  · have e1 : q_nm2 tx w (a, 0, -1, dr) s e = (e, 1, nI s, dr) := if_pos c1
    have e2 : q_tn2 tx lo hi s e (-1) nu = (1, s, nI s, nu) := if_pos c1
    rw [e1, hT, e2]
    exact ⟨fun z => q_no1 z, fun _ => ⟨rfl, rfl⟩⟩
  · have hr := fun h : e - s ≤ 3 => q_nr (tx := tx) (s := s) h (fun j hj => h3 (s + j) (by omega) (by omega))
    by_cases c2 : e - s ≤ 3 ∧ q_ib w (q_nv tx s (e - s))
    · have hr2 := hr c2.1
      have hb := (hib _ hr2.2).mp c2.2
      have e1 : q_nm2 tx w (a, 0, -1, dr) s e = (e, 0, -1, upd dr w (nI (q_nv tx s (e - s)))) := (if_neg c1).trans (if_pos c2)
      have e2 : q_tn2 tx lo hi s e (-1) nu = (0, e, -1, nI (q_rv tx s (e - s))) := (if_neg c1).trans (if_pos ⟨c2.1, by rw [← hr2.1]; exact hb⟩)
      rw [e1, hT, e2, hr2.1]
      exact ⟨fun _ => ⟨rfl, rfl, q_rv tx s (e - s), rfl, by rw [← hr2.1]; exact hb⟩, fun z => absurd rfl z⟩
    · have c3 : ¬ (e - s ≤ 3 ∧ lo ≤ q_rv tx s (e - s) ∧ q_rv tx s (e - s) ≤ hi) := by
        intro q
        have hr2 := hr q.1
        exact c2 ⟨q.1, (hib _ hr2.2).mpr (by rw [hr2.1]; exact q.2)⟩
      have e1 : q_nm2 tx w (a, 0, -1, dr) s e = (e, 2, nI s, dr) := (if_neg c1).trans (if_neg c2)
      have e2 : q_tn2 tx lo hi s e (-1) nu = (2, e, nI s, nI (q_rv tx s (e - s))) := (if_neg c1).trans (if_neg c3)
      rw [e1, hT, e2]
      exact ⟨fun z => q_no2 z, fun _ => ⟨rfl, rfl⟩⟩
/-- what has a fault keeps it -/
theorem q_num_st {n : Nat} {tx : Nat → Nat} {w : Nat} {u : q_U} (h : ¬ u.2.1 = 0) : (q_num n tx w u).2.1 = u.2.1 ∧ (q_num n tx w u).2.2.1 = u.2.2.1 := by
  unfold q_num q_nm2 q_f1 q_f2
  rw [if_neg h, if_neg h, if_neg h]
  split
  · exact ⟨rfl, rfl⟩
  · split
    · exact ⟨rfl, rfl⟩
    · exact ⟨rfl, rfl⟩
theorem q_toS_st {n : Nat} {tx : Nat → Nat} {u : q_U} (h : ¬ u.2.1 = 0) : (q_toS n tx u).2.1 = u.2.1 ∧ (q_toS n tx u).2.2.1 = u.2.2.1 := by
  unfold q_toS q_to2 q_f1 q_f2
  rw [if_neg h, if_neg h]
  split
  · exact ⟨rfl, rfl⟩
  · exact ⟨rfl, rfl⟩
theorem q_sem_st {n : Nat} {tx : Nat → Nat} {u : q_U} (h : ¬ u.2.1 = 0) : (q_sem n tx u).2.1 = u.2.1 ∧ (q_sem n tx u).2.2.1 = u.2.2.1 := by
  unfold q_sem q_se2 q_f1 q_f2
  rw [if_neg h, if_neg h]
  split
  · exact ⟨rfl, rfl⟩
  · exact ⟨rfl, rfl⟩
theorem q_se_ts {n : Nat} {tx : Nat → Nat} {a wd we ts : Nat} {dr rd : Nat → Int32} {nu : Int32} (X : Nat × q_R) (hX : X = q_ts n tx (a, -1, wd, we, nu, rd, ts)) : (X.1 = 0 → q_sem n tx (a, 0, -1, dr) = (X.2.1, 0, -1, dr) ∧ X.2.2.1 = -1) ∧ (¬ X.1 = 0 → (q_sem n tx (a, 0, -1, dr)).2.1 = X.1 ∧ (q_sem n tx (a, 0, -1, dr)).2.2.1 = X.2.2.1) ∧ X.2.2.2.2.2.2.1 = rd := by
  by_cases c : q_sk n tx (n - a) a < n ∧ tx (q_sk n tx (n - a) a) = 59
  · have e1 : q_sem n tx (a, 0, -1, dr) = (q_sk n tx (n - a) a + 1, 0, -1, dr) := if_pos c
    have e2 : q_ts n tx (a, -1, wd, we, nu, rd, ts) = (0, q_sk n tx (n - a) a + 1, -1, wd, we, nu, rd, ts) := if_pos c
    rw [hX, e1, e2]
    exact ⟨fun _ => ⟨rfl, rfl⟩, fun z => absurd rfl z, rfl⟩
  · have e1 : q_sem n tx (a, 0, -1, dr) = (q_sk n tx (n - a) a, 1, nI (q_sk n tx (n - a) a), dr) := if_neg c
    have e2 : q_ts n tx (a, -1, wd, we, nu, rd, ts) = (1, q_sk n tx (n - a) a, nI (q_sk n tx (n - a) a), wd, we, nu, rd, ts) := if_neg c
    rw [hX, e1, e2]
    exact ⟨fun z => q_no1 z, fun _ => ⟨rfl, rfl⟩, rfl⟩
/-- a draft within its bounds -/
def q_LD (dr : Nat → Int32) : Prop := (∀ k, k < 8 → k ≠ 5 → k ≠ 6 → ∃ x, dr k = nI x ∧ q_lo1 k ≤ x ∧ x ≤ q_mo k) ∧ ((dr 5 = -1 ∧ dr 6 = -1) ∨ ∃ a c, a ≤ 27 ∧ c ≤ 27 ∧ dr 5 = nI a ∧ dr 6 = nI c)
theorem q_LD_u {dr : Nat → Int32} {w v : Nat} (h : q_LD dr) (h5 : w ≠ 5) (h6 : w ≠ 6) (h1 : q_lo1 w ≤ v) (h2 : v ≤ q_mo w) : q_LD (upd dr w (nI v)) := by
  refine ⟨fun k hk k5 k6 => ?_, ?_⟩
  · unfold upd
    by_cases c : k = w
    · rw [if_pos c, c]
      exact ⟨v, rfl, h1, h2⟩
    · rw [if_neg c]
      exact h.1 k hk k5 k6
  · have e5 : upd dr w (nI v) 5 = dr 5 := if_neg (fun q => h5 q.symm)
    have e6 : upd dr w (nI v) 6 = dr 6 := if_neg (fun q => h6 q.symm)
    rw [e5, e6]
    exact h.2
theorem q_LD_m {dr : Nat → Int32} {a c : Nat} (h : q_LD dr) (ha : a ≤ 27) (hc : c ≤ 27) : q_LD (upd (upd dr 5 (nI a)) 6 (nI c)) := by
  refine ⟨fun k hk k5 k6 => ?_, Or.inr ⟨a, c, ha, hc, rfl, rfl⟩⟩
  have e : upd (upd dr 5 (nI a)) 6 (nI c) k = dr k := (if_neg k6).trans (if_neg k5)
  rw [e]
  exact h.1 k hk k5 k6
def q_cx (c : Nat) : Nat := if c = 6 then 7 else c
def q_8 (f g : Nat → Int32) : Prop := ∀ i, i < 8 → f i = g i
theorem q_8_u {f g : Nat → Int32} (h : q_8 f g) (w : Nat) (x : Int32) : q_8 (upd f w x) (upd g w x) := by
  intro i hi
  unfold upd
  by_cases c : i = w
  · rw [if_pos c, if_pos c]
  · rw [if_neg c, if_neg c]
    exact h i hi
/-- a clause's body, of both -/
theorem q_bX {n : Nat} {tx : Nat → Nat} {c e wd we ts : Nat} {dr rd : Nat → Int32} {nu : Int32} (hc : c ≤ 6) (he : e ≤ n) (hib : q_bnd (q_cx c) (q_lo1 (q_cx c)) (q_mo (q_cx c))) (hib6 : q_bnd 6 0 27) (h8 : q_8 dr rd) (hd : q_LD dr) (X : Nat × q_R) (hX : X = q_t1 n tx (q_cx c) (e, -1, wd, we, nu, rd, ts) (q_tn n tx (q_lo1 (q_cx c)) (q_mo (q_cx c)) e (-1) nu)) (C : q_U) (hC : C = q_sem n tx (q_bod n tx c (e, 0, -1, dr))) : (X.1 = 0 → ((C.1 = X.2.1 ∧ C.2.1 = 0 ∧ C.2.2.1 = -1) ∧ X.2.2.1 = -1) ∧ q_8 C.2.2.2 X.2.2.2.2.2.2.1 ∧ q_LD C.2.2.2) ∧ (¬ X.1 = 0 → C.2.1 = X.1 ∧ C.2.2.1 = X.2.2.1) := by
  obtain ⟨T, hT⟩ : ∃ T, T = q_tn n tx (q_lo1 (q_cx c)) (q_mo (q_cx c)) e (-1) nu := ⟨_, rfl⟩
  rw [← hT] at hX
  have hTn := q_tn_ok (n := n) (tx := tx) (lo := q_lo1 (q_cx c)) (hi := q_mo (q_cx c)) (a := e) (fp := -1) (nu := nu) he
  rw [← hT] at hTn
  have hN := q_nm (dr := dr) he hib T hT
  by_cases c5 : c = 5
  · have ex : q_cx c = 5 := by rw [c5]; rfl
    have eb : q_bod n tx c (e, 0, -1, dr) = q_num n tx 6 (q_toS n tx (q_num n tx 5 (e, 0, -1, dr))) := if_pos c5
    rw [eb] at hC
    rw [ex] at hX hN
    by_cases t0 : T.1 = 0
    · obtain ⟨n1, n2, v1, n3, n4, n5⟩ := hN.1 t0
      rw [n1] at hC
      have ex1 : q_t1 n tx 5 (e, -1, wd, we, nu, rd, ts) T = q_tw5 n tx (T.2.1, T.2.2.1, wd, we, T.2.2.2, upd rd 5 T.2.2.2, ts) (q_sk n tx (n - T.2.1) T.2.1) (q_ew n tx (n - q_sk n tx (n - T.2.1) T.2.1) (q_sk n tx (n - T.2.1) T.2.1)) := (if_pos t0).trans (if_pos rfl)
      rw [ex1, n2] at hX
      have k1 := q_sk_in (tx := tx) (n - T.2.1) T.2.1 hTn.1.2
      have k2 := q_ew_in (tx := tx) (n - q_sk n tx (n - T.2.1) T.2.1) _ k1.2
      have eS : q_toS n tx (T.2.1, 0, -1, upd dr 5 T.2.2.2) = q_to2 n tx (T.2.1, 0, -1, upd dr 5 T.2.2.2) (q_sk n tx (n - T.2.1) T.2.1) := rfl
      rw [eS] at hC
      generalize hs2 : q_sk n tx (n - T.2.1) T.2.1 = s2 at *
      by_cases w : q_wTo tx s2 (q_ew n tx (n - s2) s2)
      · have e1 : q_to2 n tx (T.2.1, 0, -1, upd dr 5 T.2.2.2) s2 = (q_ew n tx (n - s2) s2, 0, -1, upd dr 5 T.2.2.2) := if_pos w
        have e2 : q_tw5 n tx (T.2.1, -1, wd, we, T.2.2.2, upd rd 5 T.2.2.2, ts) s2 (q_ew n tx (n - s2) s2) = q_tm n tx (q_ew n tx (n - s2) s2, -1, q_wv tx s2 (q_ew n tx (n - s2) s2 - s2), q_ew n tx (n - s2) s2, T.2.2.2, upd rd 5 T.2.2.2, ts) (q_tn n tx 0 27 (q_ew n tx (n - s2) s2) (-1) T.2.2.2) := if_pos w
        rw [e1] at hC
        rw [e2] at hX
        generalize q_ew n tx (n - s2) s2 = g2 at *
        obtain ⟨U, hU⟩ : ∃ U, U = q_tn n tx 0 27 g2 (-1) T.2.2.2 := ⟨_, rfl⟩
        rw [← hU] at hX
        have hM := q_nm (dr := upd dr 5 T.2.2.2) k2.2 hib6 U hU
        by_cases u0 : U.1 = 0
        · obtain ⟨m1, m2, v2, m3, m4, m5⟩ := hM.1 u0
          have e3 : q_tm n tx (g2, -1, q_wv tx s2 (g2 - s2), g2, T.2.2.2, upd rd 5 T.2.2.2, ts) U = q_ts n tx (U.2.1, U.2.2.1, q_wv tx s2 (g2 - s2), g2, U.2.2.2, upd (upd rd 5 T.2.2.2) 6 U.2.2.2, ts) := if_pos u0
          rw [e3, m2] at hX
          rw [m1] at hC
          have hZ := q_se_ts (dr := upd (upd dr 5 T.2.2.2) 6 U.2.2.2) X hX
          refine ⟨fun z => ?_, fun z => by rw [hC]; exact hZ.2.1 z⟩
          have h9 := hZ.1 z
          rw [hC, h9.1, hZ.2.2]
          exact ⟨⟨⟨rfl, rfl, rfl⟩, h9.2⟩, q_8_u (q_8_u h8 5 _) 6 _, by rw [n3, m3]; exact q_LD_m hd n5 m5⟩
        · have hm := hM.2 u0
          have e3 : q_tm n tx (g2, -1, q_wv tx s2 (g2 - s2), g2, T.2.2.2, upd rd 5 T.2.2.2, ts) U = (U.1, U.2.1, U.2.2.1, q_wv tx s2 (g2 - s2), g2, U.2.2.2, upd (upd rd 5 T.2.2.2) 6 U.2.2.2, ts) := if_neg u0
          rw [e3] at hX
          have hs := q_sem_st (n := n) (tx := tx) (u := q_num n tx 6 (g2, 0, -1, upd dr 5 T.2.2.2)) (by rw [hm.1]; exact u0)
          rw [hX, hC]
          exact ⟨fun z => absurd z u0, fun _ => ⟨hs.1.trans hm.1, hs.2.trans hm.2⟩⟩
      · have e1 : q_to2 n tx (T.2.1, 0, -1, upd dr 5 T.2.2.2) s2 = (s2, 1, nI s2, upd dr 5 T.2.2.2) := if_neg w
        have e2 : q_tw5 n tx (T.2.1, -1, wd, we, T.2.2.2, upd rd 5 T.2.2.2, ts) s2 (q_ew n tx (n - s2) s2) = (1, s2, nI s2, q_wv tx s2 (q_ew n tx (n - s2) s2 - s2), q_ew n tx (n - s2) s2, T.2.2.2, upd (upd rd 5 T.2.2.2) 6 T.2.2.2, ts) := if_neg w
        rw [e1] at hC
        rw [e2] at hX
        have hm := q_num_st (n := n) (tx := tx) (w := 6) (u := (s2, 1, nI s2, upd dr 5 T.2.2.2)) (show ¬ (1 : Nat) = 0 by decide)
        have hs := q_sem_st (n := n) (tx := tx) (u := q_num n tx 6 (s2, 1, nI s2, upd dr 5 T.2.2.2)) (by rw [hm.1]; exact (show ¬ (1 : Nat) = 0 by decide))
        rw [hX, hC]
        exact ⟨fun z => q_no1 z, fun _ => ⟨hs.1.trans hm.1, hs.2.trans hm.2⟩⟩
    · have hn := hN.2 t0
      have ex1 : q_t1 n tx 5 (e, -1, wd, we, nu, rd, ts) T = (T.1, T.2.1, T.2.2.1, wd, we, T.2.2.2, upd rd 5 T.2.2.2, ts) := if_neg t0
      rw [ex1] at hX
      have h1 := q_toS_st (n := n) (tx := tx) (u := q_num n tx 5 (e, 0, -1, dr)) (by rw [hn.1]; exact t0)
      have h2 := q_num_st (n := n) (tx := tx) (w := 6) (u := q_toS n tx (q_num n tx 5 (e, 0, -1, dr))) (by rw [h1.1, hn.1]; exact t0)
      have h3 := q_sem_st (n := n) (tx := tx) (u := q_num n tx 6 (q_toS n tx (q_num n tx 5 (e, 0, -1, dr)))) (by rw [h2.1, h1.1, hn.1]; exact t0)
      rw [hX, hC]
      exact ⟨fun z => absurd z t0, fun _ => ⟨h3.1.trans (h2.1.trans (h1.1.trans hn.1)), h3.2.trans (h2.2.trans (h1.2.trans hn.2))⟩⟩
  · have eb : q_bod n tx c (e, 0, -1, dr) = q_num n tx (q_cx c) (e, 0, -1, dr) := if_neg c5
    have x5 : ¬ q_cx c = 5 := by unfold q_cx; split <;> omega
    have x6 : q_cx c ≠ 6 := by unfold q_cx; split <;> omega
    rw [eb] at hC
    generalize q_cx c = w at *
    by_cases t0 : T.1 = 0
    · obtain ⟨n1, n2, v1, n3, n4, n5⟩ := hN.1 t0
      rw [n1] at hC
      have ex1 : q_t1 n tx w (e, -1, wd, we, nu, rd, ts) T = q_ts n tx (T.2.1, T.2.2.1, wd, we, T.2.2.2, upd rd w T.2.2.2, ts) := (if_pos t0).trans (if_neg x5)
      rw [ex1, n2] at hX
      have hZ := q_se_ts (dr := upd dr w T.2.2.2) X hX
      refine ⟨fun z => ?_, fun z => by rw [hC]; exact hZ.2.1 z⟩
      have h9 := hZ.1 z
      rw [hC, h9.1, hZ.2.2]
      exact ⟨⟨⟨rfl, rfl, rfl⟩, h9.2⟩, q_8_u h8 w _, by rw [n3]; exact q_LD_u hd x5 x6 n4 n5⟩
    · have hn := hN.2 t0
      have ex1 : q_t1 n tx w (e, -1, wd, we, nu, rd, ts) T = (T.1, T.2.1, T.2.2.1, wd, we, T.2.2.2, upd rd w T.2.2.2, ts) := if_neg t0
      rw [ex1] at hX
      have h3 := q_sem_st (n := n) (tx := tx) (u := q_num n tx w (e, 0, -1, dr)) (by rw [hn.1]; exact t0)
      rw [hX, hC]
      exact ⟨fun z => absurd z t0, fun _ => ⟨h3.1.trans hn.1, h3.2.trans hn.2⟩⟩
theorem q_bnd_c {w : Nat} (hw : w ≤ 7) : q_bnd w (q_lo1 w) (if w = 6 then 27 else q_mo w) := by
  intro v hv
  have e : w = 0 ∨ w = 1 ∨ w = 2 ∨ w = 3 ∨ w = 4 ∨ w = 5 ∨ w = 6 ∨ w = 7 := by omega
  rcases e with rfl | rfl | rfl | rfl | rfl | rfl | rfl | rfl
  · exact and_congr (nI_leI (a := 0) (by omega) (by omega)) (nI_leI (b := 999) (by omega) (by omega))
  · exact and_congr (nI_leI (a := 0) (by omega) (by omega)) (nI_leI (b := 99) (by omega) (by omega))
  · exact and_congr (nI_leI (a := 0) (by omega) (by omega)) (nI_leI (b := 999) (by omega) (by omega))
  · exact and_congr (nI_leI (a := 1) (by omega) (by omega)) (nI_leI (b := 30) (by omega) (by omega))
  · exact and_congr (nI_leI (a := 0) (by omega) (by omega)) (nI_leI (b := 7) (by omega) (by omega))
  · exact and_congr (nI_leI (a := 0) (by omega) (by omega)) (nI_leI (b := 27) (by omega) (by omega))
  · exact and_congr (nI_leI (a := 0) (by omega) (by omega)) (nI_leI (b := 27) (by omega) (by omega))
  · exact and_congr (nI_leI (a := 0) (by omega) (by omega)) (nI_leI (b := 9) (by omega) (by omega))
theorem q_cnr (tx : Nat → Nat) (k e : Nat) : (q_cn tx k e = -1 ∧ q_crx tx k e = -1) ∨ ∃ c, c ≤ 6 ∧ q_cn tx k e = nI c ∧ q_crx tx k e = nI (q_cx c) := by
  by_cases w0 : q_kw0 tx k e
  · exact Or.inr ⟨0, by decide, if_pos w0, if_pos w0⟩
  · by_cases w1 : q_kw1 tx k e
    · exact Or.inr ⟨1, by decide, (if_neg w0).trans (if_pos w1), (if_neg w0).trans (if_pos w1)⟩
    · by_cases w2 : q_kw2 tx k e
      · exact Or.inr ⟨2, by decide, (if_neg w0).trans ((if_neg w1).trans (if_pos w2)), (if_neg w0).trans ((if_neg w1).trans (if_pos w2))⟩
      · by_cases w3 : q_kw3 tx k e
        · exact Or.inr ⟨3, by decide, (if_neg w0).trans ((if_neg w1).trans ((if_neg w2).trans (if_pos w3))), (if_neg w0).trans ((if_neg w1).trans ((if_neg w2).trans (if_pos w3)))⟩
        · by_cases w4 : q_kw4 tx k e
          · exact Or.inr ⟨4, by decide, (if_neg w0).trans ((if_neg w1).trans ((if_neg w2).trans ((if_neg w3).trans (if_pos w4)))), (if_neg w0).trans ((if_neg w1).trans ((if_neg w2).trans ((if_neg w3).trans (if_pos w4))))⟩
          · by_cases w5 : q_kw5 tx k e
            · exact Or.inr ⟨5, by decide, (if_neg w0).trans ((if_neg w1).trans ((if_neg w2).trans ((if_neg w3).trans ((if_neg w4).trans (if_pos w5))))), (if_neg w0).trans ((if_neg w1).trans ((if_neg w2).trans ((if_neg w3).trans ((if_neg w4).trans (if_pos w5)))))⟩
            · by_cases w6 : q_kw6 tx k e
              · exact Or.inr ⟨6, by decide, (if_neg w0).trans ((if_neg w1).trans ((if_neg w2).trans ((if_neg w3).trans ((if_neg w4).trans ((if_neg w5).trans (if_pos w6)))))), (if_neg w0).trans ((if_neg w1).trans ((if_neg w2).trans ((if_neg w3).trans ((if_neg w4).trans ((if_neg w5).trans (if_pos w6))))))⟩
              · exact Or.inl ⟨(if_neg w0).trans ((if_neg w1).trans ((if_neg w2).trans ((if_neg w3).trans ((if_neg w4).trans ((if_neg w5).trans (if_neg w6)))))), (if_neg w0).trans ((if_neg w1).trans ((if_neg w2).trans ((if_neg w3).trans ((if_neg w4).trans ((if_neg w5).trans (if_neg w6))))))⟩
/-- both at a clause's beginning -/
def q_rl (n : Nat) (tx : Nat → Nat) (v : q_V) (y : Nat) (r : q_R) : Prop := v.1.1 = q_sk n tx (n - r.1) r.1 ∧ (v.1.2.1 = 0 ∧ v.1.2.2.1 = -1 ∧ r.2.1 = -1) ∧ v.2.1 = y ∧ (q_8 v.1.2.2.2 r.2.2.2.2.2.1 ∧ q_LD v.1.2.2.2) ∧ (∀ c, c ≤ 6 → v.2.2 c = q_bt r.2.2.2.2.2.2 (q_cx c)) ∧ r.1 ≤ n ∧ r.2.2.2.2.2.2 < 256
theorem q_cx_i {a c : Nat} (ha : a ≤ 6) (hc : c ≤ 6) : q_cx a = q_cx c ↔ a = c := by
  unfold q_cx
  split <;> split <;> omega
theorem q_step {n : Nat} {tx : Nat → Nat} {v : q_V} {y : Nat} {r : q_R} (h : q_rl n tx v y r) (T : Nat × q_R) (hT : T = q_tc n tx (v.1.1, r.2)) (C : q_V) (hC : C = q_cls n tx v.1 v.2.1 v.2.2) : (T.1 = 0 → q_rl n tx (q_us n tx C) (y + 1) T.2 ∧ v.1.1 + 1 ≤ T.2.1) ∧ (¬ T.1 = 0 → C.1.2.1 = T.1 ∧ C.1.2.2.1 = T.2.2.1) := by
  obtain ⟨ha, ⟨hf, hp, hrp⟩, hy, ⟨h8, hLD⟩, hti, hr, hts⟩ := h
  have hs := q_sk_in (tx := tx) (n - r.1) r.1 hr
  have hidem : q_sk n tx (n - v.1.1) v.1.1 = v.1.1 := by rw [ha]; exact q_sk_2 _
  have hvn : v.1.1 ≤ n := by rw [ha]; exact hs.2
  have hok := q_tc_ok (n := n) (tx := tx) (r := (v.1.1, r.2)) hvn hts
  rw [← hT] at hok
  have eT : q_tc n tx (v.1.1, r.2) = q_tc2 n tx (v.1.1, r.2) (q_sk n tx (n - v.1.1) v.1.1) (q_ew n tx (n - q_sk n tx (n - v.1.1) v.1.1) (q_sk n tx (n - v.1.1) v.1.1)) (q_crx tx (q_sk n tx (n - v.1.1) v.1.1) (q_ew n tx (n - q_sk n tx (n - v.1.1) v.1.1) (q_sk n tx (n - v.1.1) v.1.1))) := rfl
  have eC : q_cls n tx v.1 v.2.1 v.2.2 = q_cl2 n tx v.1 v.2.1 v.2.2 (q_ew n tx (n - v.1.1) v.1.1) (q_cn tx v.1.1 (q_ew n tx (n - v.1.1) v.1.1)) := rfl
  rw [eT, hidem] at hT
  rw [eC] at hC
  have he := q_ew_in (tx := tx) (n - v.1.1) v.1.1 hvn
  obtain ⟨⟨a, f, p, dr⟩, cl, ti⟩ := v
  obtain ⟨r1, rp, wd, we, nu, rd, ts⟩ := r
  simp only at ha hf hp hrp hy h8 hLD hti hr hts hidem hvn hT hC he hok ⊢
  subst hf hp hrp hy
  generalize q_ew n tx (n - a) a = e at *
  rcases q_cnr tx a e with ⟨c1, c2⟩ | ⟨c, hc, c1, c2⟩
  · have e1 : q_cl2 n tx (a, 0, -1, dr) cl ti e (q_cn tx a e) = (q_uf 1 a (a, 0, -1, dr), cl, ti) := if_pos c1
    have e2 : q_tc2 n tx (a, -1, wd, we, nu, rd, ts) a e (q_crx tx a e) = (1, a, nI a, q_wv tx a (e - a), e, nu, rd, ts) := if_pos (by rw [c2]; decide)
    rw [hT, hC, e1, e2]
    exact ⟨fun z => q_no1 z, fun _ => ⟨rfl, rfl⟩⟩
  · have hx : q_cx c ≤ 7 := by unfold q_cx; split <;> omega
    have n1 : ¬ q_cn tx a e = -1 := by rw [c1]; exact nI_m1 (by omega)
    have n2 : ¬ q_crx tx a e < 0 := by rw [c2]; exact nI_pos (by omega)
    have q1 : q_n (q_cn tx a e) = c := by rw [c1]; exact q_n_n (by omega)
    have q2 : q_n (q_crx tx a e) = q_cx c := by rw [c2]; exact q_n_n (by omega)
    have ht := hti c hc
    have hb := q_bt_lt ts (q_cx c)
    by_cases t : q_bt ts (q_cx c) = 1
    · have e1 : q_cl2 n tx (a, 0, -1, dr) cl ti e (q_cn tx a e) = (q_uf 3 a (a, 0, -1, dr), cl, ti) := (if_neg n1).trans (if_neg (by rw [q1, ht, t]; decide))
      have e2 : q_tc2 n tx (a, -1, wd, we, nu, rd, ts) a e (q_crx tx a e) = (3, a, nI a, q_wv tx a (e - a), e, nu, rd, ts) := (if_neg n2).trans (if_pos (by rw [q2]; exact t))
      rw [hT, hC, e1, e2]
      exact ⟨fun z => q_no3 z, fun _ => ⟨rfl, rfl⟩⟩
    · have e1 : q_cl2 n tx (a, 0, -1, dr) cl ti e (q_cn tx a e) = (q_sem n tx (q_bod n tx c (e, 0, -1, dr)), cl + 1, t_up ti c 1) := (if_neg n1).trans ((if_pos (by rw [q1, ht]; omega)).trans (by rw [q1]))
      have e2 : q_tc2 n tx (a, -1, wd, we, nu, rd, ts) a e (q_crx tx a e) = q_t1 n tx (q_cx c) (e, -1, q_wv tx a (e - a), e, nu, rd, ts ||| 2 ^ q_cx c) (q_tn n tx (q_lo1 (q_cx c)) (q_mo (q_cx c)) e (-1) nu) := (if_neg n2).trans ((if_neg (by rw [q2]; exact t)).trans (by rw [q2]))
      rw [e2] at hT
      rw [e1] at hC
      have hib : q_bnd (q_cx c) (q_lo1 (q_cx c)) (q_mo (q_cx c)) := by
        have h := q_bnd_c hx
        rw [if_neg (show ¬ q_cx c = 6 by unfold q_cx; split <;> omega)] at h
        exact h
      have hB := q_bX (n := n) (tx := tx) hc he.2 hib (q_bnd_c (w := 6) (by decide)) h8 hLD T hT _ rfl
      rw [hC]
      refine ⟨fun z => ?_, fun z => hB.2 z⟩
      obtain ⟨⟨⟨b1, b2, b3⟩, b4⟩, b5, b6⟩ := hB.1 z
      have hts2 : T.2.2.2.2.2.2.2 = ts ||| 2 ^ q_cx c := by
        have hTn := q_tn_ok (n := n) (tx := tx) (lo := q_lo1 (q_cx c)) (hi := q_mo (q_cx c)) (a := e) (fp := -1) (nu := nu) he.2
        have h2 := q_t1_ok (n := n) (tx := tx) (c := q_cx c) (r := (e, -1, q_wv tx a (e - a), e, nu, rd, ts ||| 2 ^ q_cx c)) hTn.1.1 hTn.1.2 hTn.2
        rw [← hT] at h2
        exact h2.2.2.2
      refine ⟨⟨?_, ⟨b2, b3, b4⟩, rfl, ⟨b5, b6⟩, ?_, hok.1.2, hok.2.2.2⟩, hok.2.2.1 z⟩
      · show q_sk n tx (n - (q_sem n tx (q_bod n tx c (e, 0, -1, dr))).1) (q_sem n tx (q_bod n tx c (e, 0, -1, dr))).1 = _
        rw [b1]
      · intro c' hc'
        show t_up ti c 1 c' = _
        rw [hts2]
        have hlt := q_bt_lt (ts ||| 2 ^ q_cx c) (q_cx c')
        have hlt2 := q_bt_lt ts (q_cx c')
        have hor := q_bt_or ts (q_cx c) (q_cx c')
        have hti' := hti c' hc'
        by_cases ec : c' = c
        · rw [ec, t_up_eq]
          exact ((q_bt_or ts (q_cx c) (q_cx c)).mpr (Or.inr rfl)).symm
        · rw [t_up_ne _ _ ec, hti']
          have hne : ¬ q_cx c = q_cx c' := fun q => ec ((q_cx_i hc hc').mp q).symm
          by_cases b : q_bt ts (q_cx c') = 1
          · rw [b, hor.mpr (Or.inl b)]
          · have b2 : ¬ q_bt (ts ||| 2 ^ q_cx c) (q_cx c') = 1 := fun q => (hor.mp q).elim b hne
            omega
/-- both at the end -/
def q_out (V : q_V) (X : Nat × Nat × q_R) : Prop := (X.2.1 = 0 → (V.1.2.1 = 0 ∧ V.1.2.2.1 = -1 ∧ X.2.2.2.1 = -1) ∧ V.2.1 = X.1 ∧ q_8 V.1.2.2.2 X.2.2.2.2.2.2.2.1 ∧ q_LD V.1.2.2.2) ∧ (¬ X.2.1 = 0 → V.1.2.1 = X.2.1 ∧ V.1.2.2.1 = X.2.2.2.1)
theorem q_lpx {n : Nat} {tx : Nat → Nat} (m : Nat) : ∀ (v : q_V) (y : Nat) (r : q_R) (f g : Nat), q_rl n tx v y r → n - v.1.1 ≤ m → n - v.1.1 ≤ f → n - v.1.1 < g → q_out (q_lp n tx f v) (q_xl n tx g y 0 r) := by
  induction m with
  | zero =>
    intro v y r f g h hm hf hg
    have hn : ¬ v.1.1 < n := by omega
    rw [q_lp_n (Or.inr (fun q => hn q.1)), q_xl_e (by omega) rfl (by rw [← h.1]; exact hn)]
    exact ⟨fun _ => ⟨h.2.1, h.2.2.1, h.2.2.2.1⟩, fun z => absurd rfl z⟩
  | succ m ih =>
    intro v y r f g h hm hf hg
    by_cases hn : v.1.1 < n
    · have hS := q_step h _ rfl _ rfl
      rw [q_lp_y (by omega) ⟨hn, h.2.1.1⟩, q_xl_y (by omega) rfl (by rw [← h.1]; exact hn), ← h.1]
      by_cases z : (q_tc n tx (v.1.1, r.2)).1 = 0
      · have h2 := hS.1 z
        have h3 : v.1.1 + 1 ≤ (q_us n tx (q_cls n tx v.1 v.2.1 v.2.2)).1.1 := by
          rw [h2.1.1]
          exact Nat.le_trans h2.2 (q_sk_in _ _ h2.1.2.2.2.2.2.1).1
        rw [z]
        exact ih _ _ _ _ _ h2.1 (by omega) (by omega) (by omega)
      · have h2 := hS.2 z
        rw [q_xl_n z, q_lp_n (v := q_us n tx (q_cls n tx v.1 v.2.1 v.2.2)) (Or.inr (fun q => z (h2.1.symm.trans q.2)))]
        exact ⟨fun q => absurd q z, fun _ => h2⟩
    · rw [q_lp_n (Or.inr (fun q => hn q.1)), q_xl_e (by omega) rfl (by rw [← h.1]; exact hn)]
      exact ⟨fun _ => ⟨h.2.1, h.2.2.1, h.2.2.2.1⟩, fun z => absurd rfl z⟩
theorem q_LD_0 (dr : Nat → Int32) : q_LD (q_cl (mv_at [20, 40, 100, 10, 1, -1, -1, 0]) dr) := by
  refine ⟨fun k hk k5 k6 => ?_, Or.inl ⟨rfl, rfl⟩⟩
  have e : k = 0 ∨ k = 1 ∨ k = 2 ∨ k = 3 ∨ k = 4 ∨ k = 7 := by omega
  rcases e with rfl | rfl | rfl | rfl | rfl | rfl
  · exact ⟨20, rfl, by decide, by decide⟩
  · exact ⟨40, rfl, by decide, by decide⟩
  · exact ⟨100, rfl, by decide, by decide⟩
  · exact ⟨10, rfl, by decide, by decide⟩
  · exact ⟨1, rfl, by decide, by decide⟩
  · exact ⟨0, rfl, by decide, by decide⟩
theorem q_8_c {a b c d : Nat → Int32} (h : q_8 a b) : q_8 (q_cl a c) (q_cl b d) := by
  intro i hi
  unfold q_cl
  rw [if_pos hi, if_pos hi]
  exact h i hi
theorem q_8_e {a b c : Nat → Int32} (h : q_8 a b) : q_cl a c = q_cl b c := by
  funext i
  unfold q_cl
  by_cases hi : i < 8
  · rw [if_pos hi, if_pos hi]; exact h i hi
  · rw [if_neg hi, if_neg hi]
/-- a text read by both -/
theorem q_pxv {n : Nat} {tx : Nat → Nat} (hn : n ≤ 160) (dr : Nat → Int32) (ti : Nat → Nat) (r : q_R) : q_out (q_pv n tx dr ti) (q_xv n tx r) := by
  have hs := q_sk_in (n := n) (tx := tx) n 0 (Nat.zero_le _)
  refine q_lpx n _ _ _ _ _ ⟨?_, ⟨rfl, rfl, rfl⟩, rfl, ⟨?_, ?_⟩, ?_, Nat.zero_le _, ?_⟩ ?_ ?_ ?_
  · rfl
  · exact q_8_c (fun i _ => rfl)
  · exact q_LD_0 dr
  · intro c hc
    have e1 : q_z ti 7 c = 0 := if_pos (by omega)
    have e2 : q_bt 0 (q_cx c) = 0 := by unfold q_bt; rw [Nat.zero_div]
    exact e1.trans e2.symm
  · exact (show 0 < 256 by decide)
  · exact Nat.sub_le _ _
  · show n - q_sk n tx n 0 ≤ 160
    omega
  · show n - q_sk n tx n 0 < n + 2
    omega
theorem q_pxa {V : q_V} {X : Nat × Nat × q_R} (h : q_out V X) : q_pa V = q_xa X := by
  unfold q_pa q_xa
  by_cases c : X.2.1 = 0
  · obtain ⟨⟨h1, _, _⟩, h2, _⟩ := h.1 c
    rw [if_pos h1, if_pos c, h2]
  · have h1 := (h.2 c).1
    rw [if_neg (by rw [h1]; exact c), if_neg c, h1]
theorem q_pxf {V : q_V} {X : Nat × Nat × q_R} (h : q_out V X) : V.1.2.2.1 = X.2.2.2.1 := by
  by_cases c : X.2.1 = 0
  · obtain ⟨⟨_, h1, h3⟩, _⟩ := h.1 c
    rw [h1, h3]
  · exact (h.2 c).2
theorem q_pxw {V : q_V} {X : Nat × Nat × q_R} (h : q_out V X) (lw : Nat → Int32) : q_pl V lw = q_xw X lw := by
  unfold q_pl q_xw
  by_cases c : X.2.1 = 0
  · obtain ⟨⟨h1, _, _⟩, _, h3, _⟩ := h.1 c
    rw [if_pos h1, if_pos c]
    exact q_8_e h3
  · have h1 := (h.2 c).1
    rw [if_neg (by rw [h1]; exact c), if_neg c]
theorem q_pxL {V : q_V} {X : Nat × Nat × q_R} (h : q_out V X) {lw : Nat → Int32} {ln : Nat → Nat} (hw : q_LW lw ln) : ∃ ln2, q_LW (q_pl V lw) ln2 := by
  unfold q_pl
  by_cases c : X.2.1 = 0
  · obtain ⟨⟨h1, _, _⟩, _, _, h4⟩ := h.1 c
    rw [if_pos h1]
    have hk : ∀ k, k < 8 → k ≠ 5 → k ≠ 6 → V.1.2.2.2 k = nI (q_n (V.1.2.2.2 k)) ∧ q_lo1 k ≤ q_n (V.1.2.2.2 k) ∧ q_n (V.1.2.2.2 k) ≤ q_mo k := by
      intro k k8 k5 k6
      obtain ⟨x, e, x1, x2⟩ := h4.1 k k8 k5 k6
      have hm : q_mo k ≤ 999 := q_mo_le k
      rw [e, q_n_n (by omega)]
      exact ⟨rfl, x1, x2⟩
    refine ⟨fun k => if k < 8 then q_n (V.1.2.2.2 k) else ln k, fun k k5 k6 => ?_, (hk 0 (by decide) (by decide) (by decide)).2.2, (hk 1 (by decide) (by decide) (by decide)).2.2, (hk 2 (by decide) (by decide) (by decide)).2.2, (hk 3 (by decide) (by decide) (by decide)).2.1, (hk 3 (by decide) (by decide) (by decide)).2.2, (hk 4 (by decide) (by decide) (by decide)).2.2, (hk 7 (by decide) (by decide) (by decide)).2.2, h4.2⟩
    unfold q_cl
    by_cases k8 : k < 8
    · rw [if_pos k8]
      show _ = nI (if k < 8 then q_n (V.1.2.2.2 k) else ln k)
      rw [if_pos k8]
      exact (hk k k8 k5 k6).1
    · rw [if_neg k8]
      show _ = nI (if k < 8 then q_n (V.1.2.2.2 k) else ln k)
      rw [if_neg k8]
      exact hw.1 k k5 k6
  · have h1 := (h.2 c).1
    rw [if_neg (by rw [h1]; exact c)]
    exact ⟨ln, hw⟩
