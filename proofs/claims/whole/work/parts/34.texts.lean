/-- a word's number; chosen functions, so that nothing unfolds them by itself -/
theorem q_ws_ex : ∃ f : Nat → Nat → Nat, ∀ v c, f v c = if 1000000000000 < v then 2000000000000 else 27 * v + (c - 96) := ⟨_, fun _ _ => rfl⟩
noncomputable def q_ws : Nat → Nat → Nat := Classical.choose q_ws_ex
theorem q_ws_eq (v c : Nat) : q_ws v c = if 1000000000000 < v then 2000000000000 else 27 * v + (c - 96) := Classical.choose_spec q_ws_ex v c
noncomputable def q_wv (tx : Nat → Nat) (s : Nat) : Nat → Nat
  | 0 => 0
  | i + 1 => q_ws (q_wv tx s i) (tx (s + i))
theorem q_wv_s {tx : Nat → Nat} {s y : Nat} (h : s ≤ y) : q_wv tx s (y + 1 - s) = q_ws (q_wv tx s (y - s)) (tx y) := by
  have e : y + 1 - s = (y - s) + 1 := by omega
  have e2 : q_wv tx s ((y - s) + 1) = q_ws (q_wv tx s (y - s)) (tx (s + (y - s))) := rfl
  rw [e, e2, show s + (y - s) = y by omega]
theorem q_wv_1 {tx : Nat → Nat} {s y : Nat} (h : s ≤ y) (c : 1000000000000 < q_wv tx s (y - s)) : q_wv tx s (y + 1 - s) = 2000000000000 := by
  rw [q_wv_s h, q_ws_eq, if_pos c]
theorem q_wv_2 {tx : Nat → Nat} {s y : Nat} (h : s ≤ y) (c : ¬ 1000000000000 < q_wv tx s (y - s)) (h96 : 96 ≤ tx y) : q_wv tx s (y + 1 - s) = 27 * q_wv tx s (y - s) + tx y - 96 := by
  rw [q_wv_s h, q_ws_eq, if_neg c]
  omega
theorem q_wv_0 {tx : Nat → Nat} {s : Nat} (L : Nat) (hl : ∀ j, j < L → 97 ≤ tx (s + j) ∧ tx (s + j) ≤ 122) : q_wv tx s L = 0 ↔ L = 0 := by
  cases L with
  | zero => exact ⟨fun _ => rfl, fun _ => rfl⟩
  | succ L =>
    have e : q_wv tx s (L + 1) = q_ws (q_wv tx s L) (tx (s + L)) := rfl
    have h := hl L (by omega)
    rw [e, q_ws_eq]
    constructor
    · intro z
      split at z <;> omega
    · intro z
      exact absurd z (by omega)
theorem q_wv_c {tx : Nat → Nat} {s : Nat} (L c d : Nat) (hl : ∀ j, j < L → 97 ≤ tx (s + j) ∧ tx (s + j) ≤ 122) (hc : c < 100000000) (h1 : 1 ≤ d) (h2 : d ≤ 26) : q_wv tx s L = 27 * c + d ↔ 1 ≤ L ∧ q_wv tx s (L - 1) = c ∧ tx (s + (L - 1)) = d + 96 := by
  cases L with
  | zero =>
    have e : q_wv tx s 0 = 0 := rfl
    rw [e]
    omega
  | succ L =>
    have e : q_wv tx s (L + 1) = q_ws (q_wv tx s L) (tx (s + L)) := rfl
    have h := hl L (by omega)
    rw [e, q_ws_eq, Nat.add_sub_cancel]
    split
    · omega
    · omega
def q_rv (tx : Nat → Nat) (s : Nat) : Nat → Nat
  | 0 => 0
  | i + 1 => if 10000 < q_rv tx s i then q_rv tx s i else 10 * q_rv tx s i + (tx (s + i) - 48)
theorem q_rv_s (tx : Nat → Nat) (s i : Nat) : q_rv tx s (i + 1) = if 10000 < q_rv tx s i then q_rv tx s i else 10 * q_rv tx s i + (tx (s + i) - 48) := rfl
theorem q_rv_1 {tx : Nat → Nat} {s y : Nat} (h : s ≤ y) (c : 10000 < q_rv tx s (y - s)) : q_rv tx s (y + 1 - s) = q_rv tx s (y - s) := by
  rw [show y + 1 - s = (y - s) + 1 by omega, q_rv_s, if_pos c]
theorem q_rv_2 {tx : Nat → Nat} {s y : Nat} (h : s ≤ y) (c : ¬ 10000 < q_rv tx s (y - s)) (h48 : 48 ≤ tx y) : q_rv tx s (y + 1 - s) = 10 * q_rv tx s (y - s) + tx y - 48 := by
  rw [show y + 1 - s = (y - s) + 1 by omega, q_rv_s, if_neg c, show s + (y - s) = y by omega]
  omega
/-- reading of the reference: where, the fault's place, the word, its end, the number, what is read, what is told -/
abbrev q_R : Type := Nat × Int32 × Nat × Nat × Int32 × (Nat → Int32) × Nat
/-- a number is taken: the fault, where, its place, the number -/
def q_tn2 (tx : Nat → Nat) (lo hi s e : Nat) (fp nu : Int32) : Nat × Nat × Int32 × Int32 := if e = s then (1, s, nI s, nu) else if e - s ≤ 3 ∧ lo ≤ q_rv tx s (e - s) ∧ q_rv tx s (e - s) ≤ hi then (0, e, fp, nI (q_rv tx s (e - s))) else (2, e, nI s, nI (q_rv tx s (e - s)))
def q_tn (n : Nat) (tx : Nat → Nat) (lo hi a : Nat) (fp nu : Int32) : Nat × Nat × Int32 × Int32 := q_tn2 tx lo hi (q_sk n tx (n - a) a) (q_fe n tx (n - q_sk n tx (n - a) a) (q_sk n tx (n - a) a)) fp nu
def q_mo (c : Nat) : Nat := if c = 0 ∨ c = 2 then 999 else if c = 1 then 99 else if c = 3 then 30 else if c = 4 then 7 else if c = 5 then 27 else 9
def q_lo1 (c : Nat) : Nat := if c = 3 then 1 else 0
def q_ts (n : Nat) (tx : Nat → Nat) (r : q_R) : Nat × q_R := if q_sk n tx (n - r.1) r.1 < n ∧ tx (q_sk n tx (n - r.1) r.1) = 59 then (0, q_sk n tx (n - r.1) r.1 + 1, r.2) else (1, q_sk n tx (n - r.1) r.1, nI (q_sk n tx (n - r.1) r.1), r.2.2)
theorem q_by_in {n : Nat} {tx : Nat → Nat} (htx : ∀ i, tx i < 256) {lo hi : Nat} (h1 : lo < 256) (h2 : hi < 256) (s : Nat) : (lN lo ≤ (q_by n tx s).toInt64 ∧ (q_by n tx s).toInt64 ≤ lN hi) ↔ s < n ∧ lo ≤ tx s ∧ tx s ≤ hi := by
  have h := htx s
  rw [mv_lL (by omega), mv_lR (by omega)]
  unfold q_by
  by_cases c : s < n
  · rw [if_pos c, nI_leI (by omega) (by omega), nI_leI (by omega) (by omega)]
    exact ⟨fun q => ⟨c, q⟩, fun q => q.2⟩
  · rw [if_neg c]
    constructor
    · intro q
      have q1 := q.1
      rw [Int32.le_iff_toInt_le, nI_toInt (by omega), show (-1 : Int32).toInt = -1 by decide] at q1
      omega
    · intro q
      exact absurd q.1 c
theorem q_by_neg {n : Nat} {tx : Nat → Nat} (htx : ∀ i, tx i < 256) (s : Nat) : q_by n tx s < 0 ↔ ¬ s < n := by
  have h := htx s
  unfold q_by
  by_cases c : s < n
  · rw [if_pos c]
    exact ⟨fun q => absurd q (nI_pos (by omega)), fun q => absurd c q⟩
  · rw [if_neg c]
    exact ⟨fun _ => c, fun _ => by decide⟩
def q_crx (tx : Nat → Nat) (k e : Nat) : Int32 := if q_kw0 tx k e then nI 0 else if q_kw1 tx k e then nI 1 else if q_kw2 tx k e then nI 2 else if q_kw3 tx k e then nI 3 else if q_kw4 tx k e then nI 4 else if q_kw5 tx k e then nI 5 else if q_kw6 tx k e then nI 7 else -1
theorem q_wk0 {tx : Nat → Nat} {s e : Nat} (hse : s ≤ e) (hl : ∀ j, s ≤ j → j < e → 97 ≤ tx j ∧ tx j ≤ 122) : q_wv tx s (e - s) = 355568 ↔ q_kw0 tx s e := by
  have h0 : ∀ L, L ≤ e - s → ∀ j, j < L → 97 ≤ tx (s + j) ∧ tx (s + j) ≤ 122 := fun L hL j hj => hl (s + j) (by omega) (by omega)
  have g0 := q_wv_c (tx := tx) (s := s) (e - s) 13169 5 (h0 _ (by omega)) (by decide) (by decide) (by decide)
  have g1 := q_wv_c (tx := tx) (s := s) (e - s - 1) 487 20 (h0 _ (by omega)) (by decide) (by decide) (by decide)
  have g2 := q_wv_c (tx := tx) (s := s) (e - s - 2) 18 1 (h0 _ (by omega)) (by decide) (by decide) (by decide)
  have g3 := q_wv_c (tx := tx) (s := s) (e - s - 3) 0 18 (h0 _ (by omega)) (by decide) (by decide) (by decide)
  have gz := q_wv_0 (tx := tx) (s := s) (e - s - 4) (h0 _ (by omega))
  constructor
  · intro z
    have z0 := g0.mp z
    rw [show e - s - 1 = e - s - 1 by omega] at z0
    have z1 := g1.mp z0.2.1
    rw [show e - s - 1 - 1 = e - s - 2 by omega] at z1
    have z2 := g2.mp z1.2.1
    rw [show e - s - 2 - 1 = e - s - 3 by omega] at z2
    have z3 := g3.mp z2.2.1
    rw [show e - s - 3 - 1 = e - s - 4 by omega] at z3
    have zz := gz.mp z3.2.1
    have eL : e - s = 4 := (by omega)
    have y0 := z0.2.2
    rw [show s + (e - s - 1) = s + 3 by omega] at y0
    have y1 := z1.2.2
    rw [show s + (e - s - 2) = s + 2 by omega] at y1
    have y2 := z2.2.2
    rw [show s + (e - s - 3) = s + 1 by omega] at y2
    have y3 := z3.2.2
    rw [show s + (e - s - 4) = s + 0 by omega] at y3
    exact ⟨eL, y3, y2, y1, y0⟩
  · intro z
    obtain ⟨eL, y3, y2, y1, y0⟩ := z
    have zz := gz.mpr (by omega)
    have x3 := g3.mpr ⟨by omega, by rw [show e - s - 3 - 1 = e - s - 4 by omega]; exact zz, by rw [show e - s - 3 - 1 = 0 by omega]; exact y3⟩
    have x2 := g2.mpr ⟨by omega, by rw [show e - s - 2 - 1 = e - s - 3 by omega]; exact x3, by rw [show e - s - 2 - 1 = 1 by omega]; exact y2⟩
    have x1 := g1.mpr ⟨by omega, by rw [show e - s - 1 - 1 = e - s - 2 by omega]; exact x2, by rw [show e - s - 1 - 1 = 2 by omega]; exact y1⟩
    have x0 := g0.mpr ⟨by omega, by rw [show e - s - 1 = e - s - 1 by omega]; exact x1, by rw [show e - s - 1 = 3 by omega]; exact y0⟩
    exact x0
theorem q_wk1 {tx : Nat → Nat} {s e : Nat} (hse : s ≤ e) (hl : ∀ j, s ≤ j → j < e → 97 ≤ tx j ∧ tx j ≤ 122) : q_wv tx s (e - s) = 151331 ↔ q_kw1 tx s e := by
  have h0 : ∀ L, L ≤ e - s → ∀ j, j < L → 97 ≤ tx (s + j) ∧ tx (s + j) ≤ 122 := fun L hL j hj => hl (s + j) (by omega) (by omega)
  have g0 := q_wv_c (tx := tx) (s := s) (e - s) 5604 23 (h0 _ (by omega)) (by decide) (by decide) (by decide)
  have g1 := q_wv_c (tx := tx) (s := s) (e - s - 1) 207 15 (h0 _ (by omega)) (by decide) (by decide) (by decide)
  have g2 := q_wv_c (tx := tx) (s := s) (e - s - 2) 7 18 (h0 _ (by omega)) (by decide) (by decide) (by decide)
  have g3 := q_wv_c (tx := tx) (s := s) (e - s - 3) 0 7 (h0 _ (by omega)) (by decide) (by decide) (by decide)
  have gz := q_wv_0 (tx := tx) (s := s) (e - s - 4) (h0 _ (by omega))
  constructor
  · intro z
    have z0 := g0.mp z
    rw [show e - s - 1 = e - s - 1 by omega] at z0
    have z1 := g1.mp z0.2.1
    rw [show e - s - 1 - 1 = e - s - 2 by omega] at z1
    have z2 := g2.mp z1.2.1
    rw [show e - s - 2 - 1 = e - s - 3 by omega] at z2
    have z3 := g3.mp z2.2.1
    rw [show e - s - 3 - 1 = e - s - 4 by omega] at z3
    have zz := gz.mp z3.2.1
    have eL : e - s = 4 := (by omega)
    have y0 := z0.2.2
    rw [show s + (e - s - 1) = s + 3 by omega] at y0
    have y1 := z1.2.2
    rw [show s + (e - s - 2) = s + 2 by omega] at y1
    have y2 := z2.2.2
    rw [show s + (e - s - 3) = s + 1 by omega] at y2
    have y3 := z3.2.2
    rw [show s + (e - s - 4) = s + 0 by omega] at y3
    exact ⟨eL, y3, y2, y1, y0⟩
  · intro z
    obtain ⟨eL, y3, y2, y1, y0⟩ := z
    have zz := gz.mpr (by omega)
    have x3 := g3.mpr ⟨by omega, by rw [show e - s - 3 - 1 = e - s - 4 by omega]; exact zz, by rw [show e - s - 3 - 1 = 0 by omega]; exact y3⟩
    have x2 := g2.mpr ⟨by omega, by rw [show e - s - 2 - 1 = e - s - 3 by omega]; exact x3, by rw [show e - s - 2 - 1 = 1 by omega]; exact y2⟩
    have x1 := g1.mpr ⟨by omega, by rw [show e - s - 1 - 1 = e - s - 2 by omega]; exact x2, by rw [show e - s - 1 - 1 = 2 by omega]; exact y1⟩
    have x0 := g0.mpr ⟨by omega, by rw [show e - s - 1 = e - s - 1 by omega]; exact x1, by rw [show e - s - 1 = 3 by omega]; exact y0⟩
    exact x0
theorem q_wk2 {tx : Nat → Nat} {s e : Nat} (hse : s ≤ e) (hl : ∀ j, s ≤ j → j < e → 97 ≤ tx j ∧ tx j ≤ 122) : q_wv tx s (e - s) = 664272 ↔ q_kw2 tx s e := by
  have h0 : ∀ L, L ≤ e - s → ∀ j, j < L → 97 ≤ tx (s + j) ∧ tx (s + j) ≤ 122 := fun L hL j hj => hl (s + j) (by omega) (by omega)
  have g0 := q_wv_c (tx := tx) (s := s) (e - s) 24602 18 (h0 _ (by omega)) (by decide) (by decide) (by decide)
  have g1 := q_wv_c (tx := tx) (s := s) (e - s - 1) 911 5 (h0 _ (by omega)) (by decide) (by decide) (by decide)
  have g2 := q_wv_c (tx := tx) (s := s) (e - s - 2) 33 20 (h0 _ (by omega)) (by decide) (by decide) (by decide)
  have g3 := q_wv_c (tx := tx) (s := s) (e - s - 3) 1 6 (h0 _ (by omega)) (by decide) (by decide) (by decide)
  have g4 := q_wv_c (tx := tx) (s := s) (e - s - 4) 0 1 (h0 _ (by omega)) (by decide) (by decide) (by decide)
  have gz := q_wv_0 (tx := tx) (s := s) (e - s - 5) (h0 _ (by omega))
  constructor
  · intro z
    have z0 := g0.mp z
    rw [show e - s - 1 = e - s - 1 by omega] at z0
    have z1 := g1.mp z0.2.1
    rw [show e - s - 1 - 1 = e - s - 2 by omega] at z1
    have z2 := g2.mp z1.2.1
    rw [show e - s - 2 - 1 = e - s - 3 by omega] at z2
    have z3 := g3.mp z2.2.1
    rw [show e - s - 3 - 1 = e - s - 4 by omega] at z3
    have z4 := g4.mp z3.2.1
    rw [show e - s - 4 - 1 = e - s - 5 by omega] at z4
    have zz := gz.mp z4.2.1
    have eL : e - s = 5 := (by omega)
    have y0 := z0.2.2
    rw [show s + (e - s - 1) = s + 4 by omega] at y0
    have y1 := z1.2.2
    rw [show s + (e - s - 2) = s + 3 by omega] at y1
    have y2 := z2.2.2
    rw [show s + (e - s - 3) = s + 2 by omega] at y2
    have y3 := z3.2.2
    rw [show s + (e - s - 4) = s + 1 by omega] at y3
    have y4 := z4.2.2
    rw [show s + (e - s - 5) = s + 0 by omega] at y4
    exact ⟨eL, y4, y3, y2, y1, y0⟩
  · intro z
    obtain ⟨eL, y4, y3, y2, y1, y0⟩ := z
    have zz := gz.mpr (by omega)
    have x4 := g4.mpr ⟨by omega, by rw [show e - s - 4 - 1 = e - s - 5 by omega]; exact zz, by rw [show e - s - 4 - 1 = 0 by omega]; exact y4⟩
    have x3 := g3.mpr ⟨by omega, by rw [show e - s - 3 - 1 = e - s - 4 by omega]; exact x4, by rw [show e - s - 3 - 1 = 1 by omega]; exact y3⟩
    have x2 := g2.mpr ⟨by omega, by rw [show e - s - 2 - 1 = e - s - 3 by omega]; exact x3, by rw [show e - s - 2 - 1 = 2 by omega]; exact y2⟩
    have x1 := g1.mpr ⟨by omega, by rw [show e - s - 1 - 1 = e - s - 2 by omega]; exact x2, by rw [show e - s - 1 - 1 = 3 by omega]; exact y1⟩
    have x0 := g0.mpr ⟨by omega, by rw [show e - s - 1 = e - s - 1 by omega]; exact x1, by rw [show e - s - 1 = 4 by omega]; exact y0⟩
    exact x0
theorem q_wk3 {tx : Nat → Nat} {s e : Nat} (hse : s ≤ e) (hl : ∀ j, s ≤ j → j < e → 97 ≤ tx j ∧ tx j ≤ 122) : q_wv tx s (e - s) = 80155 ↔ q_kw3 tx s e := by
  have h0 : ∀ L, L ≤ e - s → ∀ j, j < L → 97 ≤ tx (s + j) ∧ tx (s + j) ≤ 122 := fun L hL j hj => hl (s + j) (by omega) (by omega)
  have g0 := q_wv_c (tx := tx) (s := s) (e - s) 2968 19 (h0 _ (by omega)) (by decide) (by decide) (by decide)
  have g1 := q_wv_c (tx := tx) (s := s) (e - s - 1) 109 25 (h0 _ (by omega)) (by decide) (by decide) (by decide)
  have g2 := q_wv_c (tx := tx) (s := s) (e - s - 2) 4 1 (h0 _ (by omega)) (by decide) (by decide) (by decide)
  have g3 := q_wv_c (tx := tx) (s := s) (e - s - 3) 0 4 (h0 _ (by omega)) (by decide) (by decide) (by decide)
  have gz := q_wv_0 (tx := tx) (s := s) (e - s - 4) (h0 _ (by omega))
  constructor
  · intro z
    have z0 := g0.mp z
    rw [show e - s - 1 = e - s - 1 by omega] at z0
    have z1 := g1.mp z0.2.1
    rw [show e - s - 1 - 1 = e - s - 2 by omega] at z1
    have z2 := g2.mp z1.2.1
    rw [show e - s - 2 - 1 = e - s - 3 by omega] at z2
    have z3 := g3.mp z2.2.1
    rw [show e - s - 3 - 1 = e - s - 4 by omega] at z3
    have zz := gz.mp z3.2.1
    have eL : e - s = 4 := (by omega)
    have y0 := z0.2.2
    rw [show s + (e - s - 1) = s + 3 by omega] at y0
    have y1 := z1.2.2
    rw [show s + (e - s - 2) = s + 2 by omega] at y1
    have y2 := z2.2.2
    rw [show s + (e - s - 3) = s + 1 by omega] at y2
    have y3 := z3.2.2
    rw [show s + (e - s - 4) = s + 0 by omega] at y3
    exact ⟨eL, y3, y2, y1, y0⟩
  · intro z
    obtain ⟨eL, y3, y2, y1, y0⟩ := z
    have zz := gz.mpr (by omega)
    have x3 := g3.mpr ⟨by omega, by rw [show e - s - 3 - 1 = e - s - 4 by omega]; exact zz, by rw [show e - s - 3 - 1 = 0 by omega]; exact y3⟩
    have x2 := g2.mpr ⟨by omega, by rw [show e - s - 2 - 1 = e - s - 3 by omega]; exact x3, by rw [show e - s - 2 - 1 = 1 by omega]; exact y2⟩
    have x1 := g1.mpr ⟨by omega, by rw [show e - s - 1 - 1 = e - s - 2 by omega]; exact x2, by rw [show e - s - 1 - 1 = 2 by omega]; exact y1⟩
    have x0 := g0.mpr ⟨by omega, by rw [show e - s - 1 = e - s - 1 by omega]; exact x1, by rw [show e - s - 1 = 3 by omega]; exact y0⟩
    exact x0
theorem q_wk4 {tx : Nat → Nat} {s e : Nat} (hse : s ≤ e) (hl : ∀ j, s ≤ j → j < e → 97 ≤ tx j ∧ tx j ≤ 122) : q_wv tx s (e - s) = 279252 ↔ q_kw4 tx s e := by
  have h0 : ∀ L, L ≤ e - s → ∀ j, j < L → 97 ≤ tx (s + j) ∧ tx (s + j) ≤ 122 := fun L hL j hj => hl (s + j) (by omega) (by omega)
  have g0 := q_wv_c (tx := tx) (s := s) (e - s) 10342 18 (h0 _ (by omega)) (by decide) (by decide) (by decide)
  have g1 := q_wv_c (tx := tx) (s := s) (e - s - 1) 383 1 (h0 _ (by omega)) (by decide) (by decide) (by decide)
  have g2 := q_wv_c (tx := tx) (s := s) (e - s - 2) 14 5 (h0 _ (by omega)) (by decide) (by decide) (by decide)
  have g3 := q_wv_c (tx := tx) (s := s) (e - s - 3) 0 14 (h0 _ (by omega)) (by decide) (by decide) (by decide)
  have gz := q_wv_0 (tx := tx) (s := s) (e - s - 4) (h0 _ (by omega))
  constructor
  · intro z
    have z0 := g0.mp z
    rw [show e - s - 1 = e - s - 1 by omega] at z0
    have z1 := g1.mp z0.2.1
    rw [show e - s - 1 - 1 = e - s - 2 by omega] at z1
    have z2 := g2.mp z1.2.1
    rw [show e - s - 2 - 1 = e - s - 3 by omega] at z2
    have z3 := g3.mp z2.2.1
    rw [show e - s - 3 - 1 = e - s - 4 by omega] at z3
    have zz := gz.mp z3.2.1
    have eL : e - s = 4 := (by omega)
    have y0 := z0.2.2
    rw [show s + (e - s - 1) = s + 3 by omega] at y0
    have y1 := z1.2.2
    rw [show s + (e - s - 2) = s + 2 by omega] at y1
    have y2 := z2.2.2
    rw [show s + (e - s - 3) = s + 1 by omega] at y2
    have y3 := z3.2.2
    rw [show s + (e - s - 4) = s + 0 by omega] at y3
    exact ⟨eL, y3, y2, y1, y0⟩
  · intro z
    obtain ⟨eL, y3, y2, y1, y0⟩ := z
    have zz := gz.mpr (by omega)
    have x3 := g3.mpr ⟨by omega, by rw [show e - s - 3 - 1 = e - s - 4 by omega]; exact zz, by rw [show e - s - 3 - 1 = 0 by omega]; exact y3⟩
    have x2 := g2.mpr ⟨by omega, by rw [show e - s - 2 - 1 = e - s - 3 by omega]; exact x3, by rw [show e - s - 2 - 1 = 1 by omega]; exact y2⟩
    have x1 := g1.mpr ⟨by omega, by rw [show e - s - 1 - 1 = e - s - 2 by omega]; exact x2, by rw [show e - s - 1 - 1 = 2 by omega]; exact y1⟩
    have x0 := g0.mpr ⟨by omega, by rw [show e - s - 1 = e - s - 1 by omega]; exact x1, by rw [show e - s - 1 = 3 by omega]; exact y0⟩
    exact x0
theorem q_wk5 {tx : Nat → Nat} {s e : Nat} (hse : s ≤ e) (hl : ∀ j, s ≤ j → j < e → 97 ≤ tx j ∧ tx j ≤ 122) : q_wv tx s (e - s) = 267233 ↔ q_kw5 tx s e := by
  have h0 : ∀ L, L ≤ e - s → ∀ j, j < L → 97 ≤ tx (s + j) ∧ tx (s + j) ≤ 122 := fun L hL j hj => hl (s + j) (by omega) (by omega)
  have g0 := q_wv_c (tx := tx) (s := s) (e - s) 9897 14 (h0 _ (by omega)) (by decide) (by decide) (by decide)
  have g1 := q_wv_c (tx := tx) (s := s) (e - s - 1) 366 15 (h0 _ (by omega)) (by decide) (by decide) (by decide)
  have g2 := q_wv_c (tx := tx) (s := s) (e - s - 2) 13 15 (h0 _ (by omega)) (by decide) (by decide) (by decide)
  have g3 := q_wv_c (tx := tx) (s := s) (e - s - 3) 0 13 (h0 _ (by omega)) (by decide) (by decide) (by decide)
  have gz := q_wv_0 (tx := tx) (s := s) (e - s - 4) (h0 _ (by omega))
  constructor
  · intro z
    have z0 := g0.mp z
    rw [show e - s - 1 = e - s - 1 by omega] at z0
    have z1 := g1.mp z0.2.1
    rw [show e - s - 1 - 1 = e - s - 2 by omega] at z1
    have z2 := g2.mp z1.2.1
    rw [show e - s - 2 - 1 = e - s - 3 by omega] at z2
    have z3 := g3.mp z2.2.1
    rw [show e - s - 3 - 1 = e - s - 4 by omega] at z3
    have zz := gz.mp z3.2.1
    have eL : e - s = 4 := (by omega)
    have y0 := z0.2.2
    rw [show s + (e - s - 1) = s + 3 by omega] at y0
    have y1 := z1.2.2
    rw [show s + (e - s - 2) = s + 2 by omega] at y1
    have y2 := z2.2.2
    rw [show s + (e - s - 3) = s + 1 by omega] at y2
    have y3 := z3.2.2
    rw [show s + (e - s - 4) = s + 0 by omega] at y3
    exact ⟨eL, y3, y2, y1, y0⟩
  · intro z
    obtain ⟨eL, y3, y2, y1, y0⟩ := z
    have zz := gz.mpr (by omega)
    have x3 := g3.mpr ⟨by omega, by rw [show e - s - 3 - 1 = e - s - 4 by omega]; exact zz, by rw [show e - s - 3 - 1 = 0 by omega]; exact y3⟩
    have x2 := g2.mpr ⟨by omega, by rw [show e - s - 2 - 1 = e - s - 3 by omega]; exact x3, by rw [show e - s - 2 - 1 = 1 by omega]; exact y2⟩
    have x1 := g1.mpr ⟨by omega, by rw [show e - s - 1 - 1 = e - s - 2 by omega]; exact x2, by rw [show e - s - 1 - 1 = 2 by omega]; exact y1⟩
    have x0 := g0.mpr ⟨by omega, by rw [show e - s - 1 = e - s - 1 by omega]; exact x1, by rw [show e - s - 1 = 3 by omega]; exact y0⟩
    exact x0
theorem q_wk6 {tx : Nat → Nat} {s e : Nat} (hse : s ≤ e) (hl : ∀ j, s ≤ j → j < e → 97 ≤ tx j ∧ tx j ≤ 122) : q_wv tx s (e - s) = 355280 ↔ q_kw6 tx s e := by
  have h0 : ∀ L, L ≤ e - s → ∀ j, j < L → 97 ≤ tx (s + j) ∧ tx (s + j) ≤ 122 := fun L hL j hj => hl (s + j) (by omega) (by omega)
  have g0 := q_wv_c (tx := tx) (s := s) (e - s) 13158 14 (h0 _ (by omega)) (by decide) (by decide) (by decide)
  have g1 := q_wv_c (tx := tx) (s := s) (e - s - 1) 487 9 (h0 _ (by omega)) (by decide) (by decide) (by decide)
  have g2 := q_wv_c (tx := tx) (s := s) (e - s - 2) 18 1 (h0 _ (by omega)) (by decide) (by decide) (by decide)
  have g3 := q_wv_c (tx := tx) (s := s) (e - s - 3) 0 18 (h0 _ (by omega)) (by decide) (by decide) (by decide)
  have gz := q_wv_0 (tx := tx) (s := s) (e - s - 4) (h0 _ (by omega))
  constructor
  · intro z
    have z0 := g0.mp z
    rw [show e - s - 1 = e - s - 1 by omega] at z0
    have z1 := g1.mp z0.2.1
    rw [show e - s - 1 - 1 = e - s - 2 by omega] at z1
    have z2 := g2.mp z1.2.1
    rw [show e - s - 2 - 1 = e - s - 3 by omega] at z2
    have z3 := g3.mp z2.2.1
    rw [show e - s - 3 - 1 = e - s - 4 by omega] at z3
    have zz := gz.mp z3.2.1
    have eL : e - s = 4 := (by omega)
    have y0 := z0.2.2
    rw [show s + (e - s - 1) = s + 3 by omega] at y0
    have y1 := z1.2.2
    rw [show s + (e - s - 2) = s + 2 by omega] at y1
    have y2 := z2.2.2
    rw [show s + (e - s - 3) = s + 1 by omega] at y2
    have y3 := z3.2.2
    rw [show s + (e - s - 4) = s + 0 by omega] at y3
    exact ⟨eL, y3, y2, y1, y0⟩
  · intro z
    obtain ⟨eL, y3, y2, y1, y0⟩ := z
    have zz := gz.mpr (by omega)
    have x3 := g3.mpr ⟨by omega, by rw [show e - s - 3 - 1 = e - s - 4 by omega]; exact zz, by rw [show e - s - 3 - 1 = 0 by omega]; exact y3⟩
    have x2 := g2.mpr ⟨by omega, by rw [show e - s - 2 - 1 = e - s - 3 by omega]; exact x3, by rw [show e - s - 2 - 1 = 1 by omega]; exact y2⟩
    have x1 := g1.mpr ⟨by omega, by rw [show e - s - 1 - 1 = e - s - 2 by omega]; exact x2, by rw [show e - s - 1 - 1 = 2 by omega]; exact y1⟩
    have x0 := g0.mpr ⟨by omega, by rw [show e - s - 1 = e - s - 1 by omega]; exact x1, by rw [show e - s - 1 = 3 by omega]; exact y0⟩
    exact x0
theorem q_wkTo {tx : Nat → Nat} {s e : Nat} (hse : s ≤ e) (hl : ∀ j, s ≤ j → j < e → 97 ≤ tx j ∧ tx j ≤ 122) : q_wv tx s (e - s) = 555 ↔ q_wTo tx s e := by
  have h0 : ∀ L, L ≤ e - s → ∀ j, j < L → 97 ≤ tx (s + j) ∧ tx (s + j) ≤ 122 := fun L hL j hj => hl (s + j) (by omega) (by omega)
  have g0 := q_wv_c (tx := tx) (s := s) (e - s) 20 15 (h0 _ (by omega)) (by decide) (by decide) (by decide)
  have g1 := q_wv_c (tx := tx) (s := s) (e - s - 1) 0 20 (h0 _ (by omega)) (by decide) (by decide) (by decide)
  have gz := q_wv_0 (tx := tx) (s := s) (e - s - 2) (h0 _ (by omega))
  constructor
  · intro z
    have z0 := g0.mp z
    rw [show e - s - 1 = e - s - 1 by omega] at z0
    have z1 := g1.mp z0.2.1
    rw [show e - s - 1 - 1 = e - s - 2 by omega] at z1
    have zz := gz.mp z1.2.1
    have eL : e - s = 2 := (by omega)
    have y0 := z0.2.2
    rw [show s + (e - s - 1) = s + 1 by omega] at y0
    have y1 := z1.2.2
    rw [show s + (e - s - 2) = s + 0 by omega] at y1
    exact ⟨eL, y1, y0⟩
  · intro z
    obtain ⟨eL, y1, y0⟩ := z
    have zz := gz.mpr (by omega)
    have x1 := g1.mpr ⟨by omega, by rw [show e - s - 1 - 1 = e - s - 2 by omega]; exact zz, by rw [show e - s - 1 - 1 = 0 by omega]; exact y1⟩
    have x0 := g0.mpr ⟨by omega, by rw [show e - s - 1 = e - s - 1 by omega]; exact x1, by rw [show e - s - 1 = 1 by omega]; exact y0⟩
    exact x0
set_option maxRecDepth 100000 in
theorem l_X12_here {ev : mv_E} {h : mv_H} {xg : Int32} {xc : Int32} {xw : Int32} {b : t_B} {t : Nat} {n : Nat} {tx : Nat → Nat} {rq : q_R}  (hn : n ≤ 160) (htx : ∀ i, tx i < 256) (ha : rq.1 ≤ n) : ∀ (fu : Nat) (k : Nat), ∀ (g : mv_H), n < k + fu → mv_fra [52] h g → g[52]? = some (.inr (12, [.ref 53, .ref 54, .int (nI n), .int rq.2.1, .int (nI k), .long (lN rq.2.2.1), .int (nI rq.2.2.2.1), .int rq.2.2.2.2.1, .ref 55, .int (nI rq.2.2.2.2.2.2), .int (nI b.1), .ref 56, .ref 57, .ref 58, .int (nI t), .int (nI b.2.1), .ref 59, .ref 60, .ref 61, .ref 62, .int xg, .ref 63, .ref 64, .ref 65, .ref 66, .ref 67, .ref 68, .ref 69, .int xc, .ref 70, .ref 71, .ref 72, .ref 73, .ref 74, .ref 75, .int xw, .ref 76, .ref 77, .ref 78, .ref 79, .ref 80])) → g[54]? = some (.inl (0, 160, .inl (fun j => nI (tx j)))) → (k ≤ n) → (q_sk n tx (n - k) k = (q_sk n tx (n - rq.1) rq.1)) → mv_g ev mX12_here 0 [.ref 52] [] g (fun r g => r = some (.int (q_by n tx (q_sk n tx (n - rq.1) rq.1))) ∧ mv_fra [52] h g ∧ g[52]? = some (.inr (12, [.ref 53, .ref 54, .int (nI n), .int rq.2.1, .int (nI (q_sk n tx (n - rq.1) rq.1)), .long (lN rq.2.2.1), .int (nI rq.2.2.2.1), .int rq.2.2.2.2.1, .ref 55, .int (nI rq.2.2.2.2.2.2), .int (nI b.1), .ref 56, .ref 57, .ref 58, .int (nI t), .int (nI b.2.1), .ref 59, .ref 60, .ref 61, .ref 62, .int xg, .ref 63, .ref 64, .ref 65, .ref 66, .ref 67, .ref 68, .ref 69, .int xc, .ref 70, .ref 71, .ref 72, .ref 73, .ref 74, .ref 75, .int xw, .ref 76, .ref 77, .ref 78, .ref 79, .ref 80]))) := by
  intro fu
  induction fu with
  | zero => intro k g hm fr HX X54 hk hq; exact absurd hm (by omega)
  | succ fu ih =>
    intro k g hm fr HX X54 hk hq
    have n1 := htx k
    refine mv_aload_n dX12_here_0 rfl ?_
    refine mv_getf (ci := 12) (f := 4) dX12_here_1 HX rfl (by decide) wd_1203 rfl ?_
    refine mv_aload_n dX12_here_4 rfl ?_
    refine mv_getf (ci := 12) (f := 2) dX12_here_5 HX rfl (by decide) wd_1201 rfl ?_
    refine mv_icmp_ge (tgt := 38) dX12_here_8 (by decide) (fun c8 => ?_) (fun c8 => ?_)
    · have c8 : n ≤ k := (nI_leI (by omega) (by omega)).mp c8
      refine mv_aload_n dX12_here_38 rfl ?_
      refine mv_getf (ci := 12) (f := 4) dX12_here_39 HX rfl (by decide) wd_1203 rfl ?_
      refine mv_aload_n dX12_here_42 rfl ?_
      refine mv_getf (ci := 12) (f := 2) dX12_here_43 HX rfl (by decide) wd_1201 rfl ?_
      refine mv_icmp_ge (tgt := 61) dX12_here_46 (by decide) (fun c46 => ?_) (fun c46 => ?_)
      · have c46 : n ≤ k := (nI_leI (by omega) (by omega)).mp c46
        refine mv_iconst (v := (-1)) dX12_here_61 (by decide) ?_
        have e9 : (q_sk n tx (n - rq.1) rq.1) = k := (by rw [← hq]; exact q_sk_n (by omega))
        exact mv_iret dX12_here_62 rfl rfl ⟨(congrArg (fun z => some (Value.int z)) (by rw [e9]; unfold q_by; first | exact (if_pos (by omega)).symm | exact (if_neg (by omega)).symm)), fr, (by rw [e9]; exact HX)⟩
      · have c46 : ¬ (n ≤ k) := fun z => c46 ((nI_leI (by omega) (by omega)).mpr z)
        refine mv_aload_n dX12_here_49 rfl ?_
        refine mv_getf (ci := 12) (f := 1) dX12_here_50 HX rfl (by decide) wd_1200 rfl ?_
        refine mv_aload_n dX12_here_53 rfl ?_
        refine mv_getf (ci := 12) (f := 4) dX12_here_54 HX rfl (by decide) wd_1203 rfl ?_
        refine mv_iaN (j := k) (x := nI (tx k)) dX12_here_57 X54 rfl (by decide) (by omega) rfl ?_
        refine mv_goto (tgt := 62) dX12_here_58 (by decide) ?_
        have e9 : (q_sk n tx (n - rq.1) rq.1) = k := (by rw [← hq]; exact q_sk_n (by omega))
        exact mv_iret dX12_here_62 rfl rfl ⟨(congrArg (fun z => some (Value.int z)) (by rw [e9]; unfold q_by; first | exact (if_pos (by omega)).symm | exact (if_neg (by omega)).symm)), fr, (by rw [e9]; exact HX)⟩
    · have c8 : ¬ (n ≤ k) := fun z => c8 ((nI_leI (by omega) (by omega)).mpr z)
      refine mv_aload_n dX12_here_11 rfl ?_
      refine mv_getf (ci := 12) (f := 1) dX12_here_12 HX rfl (by decide) wd_1200 rfl ?_
      refine mv_aload_n dX12_here_15 rfl ?_
      refine mv_getf (ci := 12) (f := 4) dX12_here_16 HX rfl (by decide) wd_1203 rfl ?_
      refine mv_iaN (j := k) (x := nI (tx k)) dX12_here_19 X54 rfl (by decide) (by omega) rfl ?_
      refine mv_bipush (v := nI 32) dX12_here_20 (by decide) ?_
      refine mv_icmp_ne (tgt := 38) dX12_here_22 (by decide) (fun c22 => ?_) (fun c22 => ?_)
      · have c22 : ¬ (tx k = 32) := fun z => c22 ((nI_eq (by omega) (by omega)).mpr z)
        refine mv_aload_n dX12_here_38 rfl ?_
        refine mv_getf (ci := 12) (f := 4) dX12_here_39 HX rfl (by decide) wd_1203 rfl ?_
        refine mv_aload_n dX12_here_42 rfl ?_
        refine mv_getf (ci := 12) (f := 2) dX12_here_43 HX rfl (by decide) wd_1201 rfl ?_
        refine mv_icmp_ge (tgt := 61) dX12_here_46 (by decide) (fun c46 => ?_) (fun c46 => ?_)
        · have c46 : n ≤ k := (nI_leI (by omega) (by omega)).mp c46
          refine mv_iconst (v := (-1)) dX12_here_61 (by decide) ?_
          have e9 : (q_sk n tx (n - rq.1) rq.1) = k := (by rw [← hq]; exact q_sk_n (by omega))
          exact mv_iret dX12_here_62 rfl rfl ⟨(congrArg (fun z => some (Value.int z)) (by rw [e9]; unfold q_by; first | exact (if_pos (by omega)).symm | exact (if_neg (by omega)).symm)), fr, (by rw [e9]; exact HX)⟩
        · have c46 : ¬ (n ≤ k) := fun z => c46 ((nI_leI (by omega) (by omega)).mpr z)
          refine mv_aload_n dX12_here_49 rfl ?_
          refine mv_getf (ci := 12) (f := 1) dX12_here_50 HX rfl (by decide) wd_1200 rfl ?_
          refine mv_aload_n dX12_here_53 rfl ?_
          refine mv_getf (ci := 12) (f := 4) dX12_here_54 HX rfl (by decide) wd_1203 rfl ?_
          refine mv_iaN (j := k) (x := nI (tx k)) dX12_here_57 X54 rfl (by decide) (by omega) rfl ?_
          refine mv_goto (tgt := 62) dX12_here_58 (by decide) ?_
          have e9 : (q_sk n tx (n - rq.1) rq.1) = k := (by rw [← hq]; exact q_sk_n (by omega))
          exact mv_iret dX12_here_62 rfl rfl ⟨(congrArg (fun z => some (Value.int z)) (by rw [e9]; unfold q_by; first | exact (if_pos (by omega)).symm | exact (if_neg (by omega)).symm)), fr, (by rw [e9]; exact HX)⟩
      · have c22 : tx k = 32 := (nI_eq (by omega) (by omega)).mp c22
        refine mv_aload_n dX12_here_25 rfl ?_
        refine mv_dup dX12_here_26 rfl ?_
        refine mv_getf (ci := 12) (f := 4) dX12_here_27 HX rfl (by decide) wd_1203 rfl ?_
        refine mv_iconst (v := nI 1) dX12_here_30 (by decide) ?_
        refine mv_iadd dX12_here_31 ?_
        refine mv_topI (y := nI (k + 1)) (nI_add _ _) ?_
        refine mv_putf (ci := 12) (f := 4) dX12_here_32 HX rfl (by decide) wd_1203 rfl rfl (fun _ => ⟨rfl, rfl⟩) (Nat.le_of_ble_eq_true rfl) ?_
        refine mv_topH (fun h1 e2 => ?_)
        have HX : h1[52]? = some (.inr (12, [.ref 53, .ref 54, .int (nI n), .int rq.2.1, .int (nI (k + 1)), .long (lN rq.2.2.1), .int (nI rq.2.2.2.1), .int rq.2.2.2.2.1, .ref 55, .int (nI rq.2.2.2.2.2.2), .int (nI b.1), .ref 56, .ref 57, .ref 58, .int (nI t), .int (nI b.2.1), .ref 59, .ref 60, .ref 61, .ref 62, .int xg, .ref 63, .ref 64, .ref 65, .ref 66, .ref 67, .ref 68, .ref 69, .int xc, .ref 70, .ref 71, .ref 72, .ref 73, .ref 74, .ref 75, .int xw, .ref 76, .ref 77, .ref 78, .ref 79, .ref 80])) := mv_eq e2 HX
        have X54 := mv_ne e2 (by decide) X54
        have fr := fr.set e2 (by decide)
        clear e2
        refine mv_goto (tgt := 0) dX12_here_35 (by decide) ?_
        exact ih (k + 1) h1 (by omega) fr HX X54 (by omega) (by rw [← hq]; exact (q_sk_y (by omega)).symm)
set_option maxRecDepth 100000 in
theorem k_X12_here {ev : mv_E} {h : mv_H} {xg : Int32} {xc : Int32} {xw : Int32} {b : t_B} {t : Nat} {n : Nat} {tx : Nat → Nat} {rq : q_R} (HX : h[52]? = some (.inr (12, [.ref 53, .ref 54, .int (nI n), .int rq.2.1, .int (nI rq.1), .long (lN rq.2.2.1), .int (nI rq.2.2.2.1), .int rq.2.2.2.2.1, .ref 55, .int (nI rq.2.2.2.2.2.2), .int (nI b.1), .ref 56, .ref 57, .ref 58, .int (nI t), .int (nI b.2.1), .ref 59, .ref 60, .ref 61, .ref 62, .int xg, .ref 63, .ref 64, .ref 65, .ref 66, .ref 67, .ref 68, .ref 69, .int xc, .ref 70, .ref 71, .ref 72, .ref 73, .ref 74, .ref 75, .int xw, .ref 76, .ref 77, .ref 78, .ref 79, .ref 80]))) (X54 : h[54]? = some (.inl (0, 160, .inl (fun j => nI (tx j))))) (hn : n ≤ 160) (htx : ∀ i, tx i < 256) (ha : rq.1 ≤ n) : ∃ h2, mv_K ev mX12_here [.ref 52] h (some (.int (q_by n tx (q_sk n tx (n - rq.1) rq.1)))) h2 ∧ mv_fra [52] h h2 ∧ h2[52]? = some (.inr (12, [.ref 53, .ref 54, .int (nI n), .int rq.2.1, .int (nI (q_sk n tx (n - rq.1) rq.1)), .long (lN rq.2.2.1), .int (nI rq.2.2.2.1), .int rq.2.2.2.2.1, .ref 55, .int (nI rq.2.2.2.2.2.2), .int (nI b.1), .ref 56, .ref 57, .ref 58, .int (nI t), .int (nI b.2.1), .ref 59, .ref 60, .ref 61, .ref 62, .int xg, .ref 63, .ref 64, .ref 65, .ref 66, .ref 67, .ref 68, .ref 69, .int xc, .ref 70, .ref 71, .ref 72, .ref 73, .ref 74, .ref 75, .int xw, .ref 76, .ref 77, .ref 78, .ref 79, .ref 80])) := by
  suffices g0 : mv_g ev mX12_here 0 (mv_ent [.ref 52] (mv_ml mX12_here)) [] h (fun r g => r = some (.int (q_by n tx (q_sk n tx (n - rq.1) rq.1))) ∧ mv_fra [52] h g ∧ g[52]? = some (.inr (12, [.ref 53, .ref 54, .int (nI n), .int rq.2.1, .int (nI (q_sk n tx (n - rq.1) rq.1)), .long (lN rq.2.2.1), .int (nI rq.2.2.2.1), .int rq.2.2.2.2.1, .ref 55, .int (nI rq.2.2.2.2.2.2), .int (nI b.1), .ref 56, .ref 57, .ref 58, .int (nI t), .int (nI b.2.1), .ref 59, .ref 60, .ref 61, .ref 62, .int xg, .ref 63, .ref 64, .ref 65, .ref 66, .ref 67, .ref 68, .ref 69, .int xc, .ref 70, .ref 71, .ref 72, .ref 73, .ref 74, .ref 75, .int xw, .ref 76, .ref 77, .ref 78, .ref 79, .ref 80]))) from (by obtain ⟨r0, h0, K0, q0, Q0⟩ := mv_Kex g0; subst q0; exact ⟨h0, K0, Q0⟩)
  show mv_g ev mX12_here 0 [.ref 52] [] h _
  have fr : mv_fra [52] h h := mv_fra.rf
  exact l_X12_here hn htx ha (n + 1) rq.1 h (by omega) fr HX X54 ha rfl
set_option maxRecDepth 100000 in
theorem k_X12_fails {ev : mv_E} {h : mv_H} {xg : Int32} {xc : Int32} {xw : Int32} {b : t_B} {t : Nat} {n : Nat} {rq : q_R} {f : Int32} {p : Nat} (HX : h[52]? = some (.inr (12, [.ref 53, .ref 54, .int (nI n), .int rq.2.1, .int (nI rq.1), .long (lN rq.2.2.1), .int (nI rq.2.2.2.1), .int rq.2.2.2.2.1, .ref 55, .int (nI rq.2.2.2.2.2.2), .int (nI b.1), .ref 56, .ref 57, .ref 58, .int (nI t), .int (nI b.2.1), .ref 59, .ref 60, .ref 61, .ref 62, .int xg, .ref 63, .ref 64, .ref 65, .ref 66, .ref 67, .ref 68, .ref 69, .int xc, .ref 70, .ref 71, .ref 72, .ref 73, .ref 74, .ref 75, .int xw, .ref 76, .ref 77, .ref 78, .ref 79, .ref 80])))  : ∃ h2, mv_K ev mX12_fails [.ref 52, .int f, .int (nI p)] h (some (.int f)) h2 ∧ mv_fra [52] h h2 ∧ h2[52]? = some (.inr (12, [.ref 53, .ref 54, .int (nI n), .int (nI p), .int (nI rq.1), .long (lN rq.2.2.1), .int (nI rq.2.2.2.1), .int rq.2.2.2.2.1, .ref 55, .int (nI rq.2.2.2.2.2.2), .int (nI b.1), .ref 56, .ref 57, .ref 58, .int (nI t), .int (nI b.2.1), .ref 59, .ref 60, .ref 61, .ref 62, .int xg, .ref 63, .ref 64, .ref 65, .ref 66, .ref 67, .ref 68, .ref 69, .int xc, .ref 70, .ref 71, .ref 72, .ref 73, .ref 74, .ref 75, .int xw, .ref 76, .ref 77, .ref 78, .ref 79, .ref 80])) := by
  suffices g0 : mv_g ev mX12_fails 0 (mv_ent [.ref 52, .int f, .int (nI p)] (mv_ml mX12_fails)) [] h (fun r g => r = some (.int f) ∧ mv_fra [52] h g ∧ g[52]? = some (.inr (12, [.ref 53, .ref 54, .int (nI n), .int (nI p), .int (nI rq.1), .long (lN rq.2.2.1), .int (nI rq.2.2.2.1), .int rq.2.2.2.2.1, .ref 55, .int (nI rq.2.2.2.2.2.2), .int (nI b.1), .ref 56, .ref 57, .ref 58, .int (nI t), .int (nI b.2.1), .ref 59, .ref 60, .ref 61, .ref 62, .int xg, .ref 63, .ref 64, .ref 65, .ref 66, .ref 67, .ref 68, .ref 69, .int xc, .ref 70, .ref 71, .ref 72, .ref 73, .ref 74, .ref 75, .int xw, .ref 76, .ref 77, .ref 78, .ref 79, .ref 80]))) from (by obtain ⟨r0, h0, K0, q0, Q0⟩ := mv_Kex g0; subst q0; exact ⟨h0, K0, Q0⟩)
  show mv_g ev mX12_fails 0 [.ref 52, .int f, .int (nI p)] [] h _
  have fr : mv_fra [52] h h := mv_fra.rf
  refine mv_aload_n dX12_fails_0 rfl ?_
  refine mv_iload_n dX12_fails_1 rfl ?_
  refine mv_putf (ci := 12) (f := 3) dX12_fails_2 HX rfl (by decide) wd_1202 rfl rfl (fun _ => ⟨rfl, rfl⟩) (Nat.le_of_ble_eq_true rfl) ?_
  refine mv_topH (fun h1 e2 => ?_)
  have HX : h1[52]? = some (.inr (12, [.ref 53, .ref 54, .int (nI n), .int (nI p), .int (nI rq.1), .long (lN rq.2.2.1), .int (nI rq.2.2.2.1), .int rq.2.2.2.2.1, .ref 55, .int (nI rq.2.2.2.2.2.2), .int (nI b.1), .ref 56, .ref 57, .ref 58, .int (nI t), .int (nI b.2.1), .ref 59, .ref 60, .ref 61, .ref 62, .int xg, .ref 63, .ref 64, .ref 65, .ref 66, .ref 67, .ref 68, .ref 69, .int xc, .ref 70, .ref 71, .ref 72, .ref 73, .ref 74, .ref 75, .int xw, .ref 76, .ref 77, .ref 78, .ref 79, .ref 80])) := mv_eq e2 HX
  have fr := fr.set e2 (by decide)
  clear e2
  refine mv_iload_n dX12_fails_5 rfl ?_
  exact mv_iret dX12_fails_6 rfl rfl ⟨rfl, fr, HX⟩
set_option maxRecDepth 100000 in
theorem l_X12_word {ev : mv_E} {h : mv_H} {xg : Int32} {xc : Int32} {xw : Int32} {b : t_B} {t : Nat} {n : Nat} {tx : Nat → Nat} {rq : q_R}  (hn : n ≤ 160) (htx : ∀ i, tx i < 256) (ha : rq.1 ≤ n) : ∀ (fu : Nat) (s : Nat) (v : Nat) (y : Nat), ∀ (g : mv_H), n < y + fu → mv_fra [52] h g → g[52]? = some (.inr (12, [.ref 53, .ref 54, .int (nI n), .int rq.2.1, .int (nI s), .long (lN v), .int (nI y), .int rq.2.2.2.2.1, .ref 55, .int (nI rq.2.2.2.2.2.2), .int (nI b.1), .ref 56, .ref 57, .ref 58, .int (nI t), .int (nI b.2.1), .ref 59, .ref 60, .ref 61, .ref 62, .int xg, .ref 63, .ref 64, .ref 65, .ref 66, .ref 67, .ref 68, .ref 69, .int xc, .ref 70, .ref 71, .ref 72, .ref 73, .ref 74, .ref 75, .int xw, .ref 76, .ref 77, .ref 78, .ref 79, .ref 80])) → g[54]? = some (.inl (0, 160, .inl (fun j => nI (tx j)))) → (s = (q_sk n tx (n - rq.1) rq.1)) → (s ≤ y) → (y ≤ n) → (q_ew n tx (n - y) y = q_ew n tx (n - s) s) → (v = q_wv tx s (y - s)) → (v ≤ 30000000000000) → mv_g ev mX12_readWord 18 [.ref 52, .null] [] g (fun r g => r = none ∧ mv_fra [52] h g ∧ g[52]? = some (.inr (12, [.ref 53, .ref 54, .int (nI n), .int rq.2.1, .int (nI (q_sk n tx (n - rq.1) rq.1)), .long (lN (q_wv tx (q_sk n tx (n - rq.1) rq.1) ((q_ew n tx (n - (q_sk n tx (n - rq.1) rq.1)) (q_sk n tx (n - rq.1) rq.1)) - (q_sk n tx (n - rq.1) rq.1)))), .int (nI (q_ew n tx (n - (q_sk n tx (n - rq.1) rq.1)) (q_sk n tx (n - rq.1) rq.1))), .int rq.2.2.2.2.1, .ref 55, .int (nI rq.2.2.2.2.2.2), .int (nI b.1), .ref 56, .ref 57, .ref 58, .int (nI t), .int (nI b.2.1), .ref 59, .ref 60, .ref 61, .ref 62, .int xg, .ref 63, .ref 64, .ref 65, .ref 66, .ref 67, .ref 68, .ref 69, .int xc, .ref 70, .ref 71, .ref 72, .ref 73, .ref 74, .ref 75, .int xw, .ref 76, .ref 77, .ref 78, .ref 79, .ref 80]))) := by
  intro fu
  induction fu with
  | zero => intro s v y g hm fr HX X54 es hs hy hq hv hvb; exact absurd hm (by omega)
  | succ fu ih =>
    intro s v y g hm fr HX X54 es hs hy hq hv hvb
    have n1 := htx y
    refine mv_aload_n dX12_readWord_18 rfl ?_
    refine mv_getf (ci := 12) (f := 6) dX12_readWord_19 HX rfl (by decide) wd_1205 rfl ?_
    refine mv_aload_n dX12_readWord_22 rfl ?_
    refine mv_getf (ci := 12) (f := 2) dX12_readWord_23 HX rfl (by decide) wd_1201 rfl ?_
    refine mv_icmp_ge (tgt := 108) dX12_readWord_26 (by decide) (fun c26 => ?_) (fun c26 => ?_)
    · have c26 : n ≤ y := (nI_leI (by omega) (by omega)).mp c26
      have e8 : (q_ew n tx (n - (q_sk n tx (n - rq.1) rq.1)) (q_sk n tx (n - rq.1) rq.1)) = y := (by rw [← es, ← hq]; exact q_ew_n (by omega))
      have e9 : (q_wv tx (q_sk n tx (n - rq.1) rq.1) ((q_ew n tx (n - (q_sk n tx (n - rq.1) rq.1)) (q_sk n tx (n - rq.1) rq.1)) - (q_sk n tx (n - rq.1) rq.1))) = v := (by rw [e8, ← es]; exact hv.symm)
      exact mv_vret dX12_readWord_108 rfl ⟨rfl, fr, (by rw [e9, e8, ← es]; exact HX)⟩
    · have c26 : ¬ (n ≤ y) := fun z => c26 ((nI_leI (by omega) (by omega)).mpr z)
      refine mv_aload_n dX12_readWord_29 rfl ?_
      refine mv_getf (ci := 12) (f := 1) dX12_readWord_30 HX rfl (by decide) wd_1200 rfl ?_
      refine mv_aload_n dX12_readWord_33 rfl ?_
      refine mv_getf (ci := 12) (f := 6) dX12_readWord_34 HX rfl (by decide) wd_1205 rfl ?_
      refine mv_iaN (j := y) (x := nI (tx y)) dX12_readWord_37 X54 rfl (by decide) (by omega) rfl ?_
      refine mv_i2l dX12_readWord_38 ?_
      refine mv_topL (y := lN (tx y)) (nI_l (by omega)) ?_
      refine mv_ldc2 (v := lN 97) dX12_readWord_39 wd_1366 ?_
      refine mv_ldc2 (v := lN 122) dX12_readWord_42 wd_1367 ?_
      refine mv_cS3 dX12_readWord_45 lk_X12_readWord_107 (Nat.le_of_ble_eq_true rfl) (Nat.le_of_ble_eq_true rfl) (k_X12_in (ev := ev)) ?_
      refine mv_if_eq (tgt := 108) dX12_readWord_48 (by decide) (fun c48 => ?_) (fun c48 => ?_)
      · have c48 : ¬ (97 ≤ tx y ∧ tx y ≤ 122) := fun q => (mv_b_0 _).mp c48 ((and_congr (lN_leB (by omega) (by omega)) (lN_leB (by omega) (by omega))).mpr q)
        have e8 : (q_ew n tx (n - (q_sk n tx (n - rq.1) rq.1)) (q_sk n tx (n - rq.1) rq.1)) = y := (by rw [← es, ← hq]; exact q_ew_n (by omega))
        have e9 : (q_wv tx (q_sk n tx (n - rq.1) rq.1) ((q_ew n tx (n - (q_sk n tx (n - rq.1) rq.1)) (q_sk n tx (n - rq.1) rq.1)) - (q_sk n tx (n - rq.1) rq.1))) = v := (by rw [e8, ← es]; exact hv.symm)
        exact mv_vret dX12_readWord_108 rfl ⟨rfl, fr, (by rw [e9, e8, ← es]; exact HX)⟩
      · have c48 : 97 ≤ tx y ∧ tx y ≤ 122 := (and_congr (lN_leB (by omega) (by omega)) (lN_leB (by omega) (by omega))).mp (mv_b_ne c48)
        refine mv_aload_n dX12_readWord_51 rfl ?_
        refine mv_aload_n dX12_readWord_52 rfl ?_
        refine mv_getf (ci := 12) (f := 5) dX12_readWord_53 HX rfl (by decide) wd_1204 rfl ?_
        refine mv_ldc2 (v := lN 1000000000000) dX12_readWord_56 wd_1368 ?_
        refine mv_lcmp dX12_readWord_59 ?_
        refine mv_if_le (tgt := 69) dX12_readWord_60 (by decide) (fun c60 => ?_) (fun c60 => ?_)
        · have c60 : v ≤ 1000000000000 := (lN_leB (by omega) (by omega)).mp ((lg_cmp_le _ _).mp c60)
          refine mv_ldc2 (v := lN 27) dX12_readWord_69 wd_1370 ?_
          refine mv_aload_n dX12_readWord_72 rfl ?_
          refine mv_getf (ci := 12) (f := 5) dX12_readWord_73 HX rfl (by decide) wd_1204 rfl ?_
          refine mv_lmul dX12_readWord_76 ?_
          refine mv_topL (y := lN (27 * v)) (lN_mul _ _) ?_
          refine mv_aload_n dX12_readWord_77 rfl ?_
          refine mv_getf (ci := 12) (f := 1) dX12_readWord_78 HX rfl (by decide) wd_1200 rfl ?_
          refine mv_aload_n dX12_readWord_81 rfl ?_
          refine mv_getf (ci := 12) (f := 6) dX12_readWord_82 HX rfl (by decide) wd_1205 rfl ?_
          refine mv_iaN (j := y) (x := nI (tx y)) dX12_readWord_85 X54 rfl (by decide) (by omega) rfl ?_
          refine mv_i2l dX12_readWord_86 ?_
          refine mv_topL (y := lN (tx y)) (nI_l (by omega)) ?_
          refine mv_ladd dX12_readWord_87 ?_
          refine mv_topL (y := lN (27 * v + (tx y))) (lN_add _ _) ?_
          refine mv_ldc2 (v := lN 96) dX12_readWord_88 wd_1371 ?_
          refine mv_lsub dX12_readWord_91 ?_
          refine mv_topL (y := lN ((27 * v + (tx y)) - 96)) (lN_sub (by omega)) ?_
          refine mv_putf (ci := 12) (f := 5) dX12_readWord_92 HX rfl (by decide) wd_1204 rfl rfl (fun _ => ⟨rfl, rfl⟩) (Nat.le_of_ble_eq_true rfl) ?_
          refine mv_topH (fun h1 e2 => ?_)
          have HX : h1[52]? = some (.inr (12, [.ref 53, .ref 54, .int (nI n), .int rq.2.1, .int (nI s), .long (lN ((27 * v + (tx y)) - 96)), .int (nI y), .int rq.2.2.2.2.1, .ref 55, .int (nI rq.2.2.2.2.2.2), .int (nI b.1), .ref 56, .ref 57, .ref 58, .int (nI t), .int (nI b.2.1), .ref 59, .ref 60, .ref 61, .ref 62, .int xg, .ref 63, .ref 64, .ref 65, .ref 66, .ref 67, .ref 68, .ref 69, .int xc, .ref 70, .ref 71, .ref 72, .ref 73, .ref 74, .ref 75, .int xw, .ref 76, .ref 77, .ref 78, .ref 79, .ref 80])) := mv_eq e2 HX
          have X54 := mv_ne e2 (by decide) X54
          have fr := fr.set e2 (by decide)
          clear e2
          refine mv_aload_n dX12_readWord_95 rfl ?_
          refine mv_dup dX12_readWord_96 rfl ?_
          refine mv_getf (ci := 12) (f := 6) dX12_readWord_97 HX rfl (by decide) wd_1205 rfl ?_
          refine mv_iconst (v := nI 1) dX12_readWord_100 (by decide) ?_
          refine mv_iadd dX12_readWord_101 ?_
          refine mv_topI (y := nI (y + 1)) (nI_add _ _) ?_
          refine mv_putf (ci := 12) (f := 6) dX12_readWord_102 HX rfl (by decide) wd_1205 rfl rfl (fun _ => ⟨rfl, rfl⟩) (Nat.le_of_ble_eq_true rfl) ?_
          refine mv_topH (fun h3 e4 => ?_)
          have HX : h3[52]? = some (.inr (12, [.ref 53, .ref 54, .int (nI n), .int rq.2.1, .int (nI s), .long (lN ((27 * v + (tx y)) - 96)), .int (nI (y + 1)), .int rq.2.2.2.2.1, .ref 55, .int (nI rq.2.2.2.2.2.2), .int (nI b.1), .ref 56, .ref 57, .ref 58, .int (nI t), .int (nI b.2.1), .ref 59, .ref 60, .ref 61, .ref 62, .int xg, .ref 63, .ref 64, .ref 65, .ref 66, .ref 67, .ref 68, .ref 69, .int xc, .ref 70, .ref 71, .ref 72, .ref 73, .ref 74, .ref 75, .int xw, .ref 76, .ref 77, .ref 78, .ref 79, .ref 80])) := mv_eq e4 HX
          have X54 := mv_ne e4 (by decide) X54
          have fr := fr.set e4 (by decide)
          clear e4
          refine mv_goto (tgt := 18) dX12_readWord_105 (by decide) ?_
          exact ih s ((27 * v + (tx y)) - 96) (y + 1) h3 (by omega) fr HX X54 es (by omega) (by omega) (by rw [← hq]; exact (q_ew_y (by omega)).symm) (by first | (rw [hv]; exact (q_wv_2 hs (by omega) (by omega)).symm) | exact (q_wv_1 hs (by omega)).symm) (by omega)
        · have c60 : ¬ (v ≤ 1000000000000) := fun z => c60 ((lg_cmp_le _ _).mpr ((lN_leB (by omega) (by omega)).mpr z))
          refine mv_ldc2 (v := lN 2000000000000) dX12_readWord_63 wd_1369 ?_
          refine mv_goto (tgt := 92) dX12_readWord_66 (by decide) ?_
          refine mv_putf (ci := 12) (f := 5) dX12_readWord_92 HX rfl (by decide) wd_1204 rfl rfl (fun _ => ⟨rfl, rfl⟩) (Nat.le_of_ble_eq_true rfl) ?_
          refine mv_topH (fun h5 e6 => ?_)
          have HX : h5[52]? = some (.inr (12, [.ref 53, .ref 54, .int (nI n), .int rq.2.1, .int (nI s), .long (lN 2000000000000), .int (nI y), .int rq.2.2.2.2.1, .ref 55, .int (nI rq.2.2.2.2.2.2), .int (nI b.1), .ref 56, .ref 57, .ref 58, .int (nI t), .int (nI b.2.1), .ref 59, .ref 60, .ref 61, .ref 62, .int xg, .ref 63, .ref 64, .ref 65, .ref 66, .ref 67, .ref 68, .ref 69, .int xc, .ref 70, .ref 71, .ref 72, .ref 73, .ref 74, .ref 75, .int xw, .ref 76, .ref 77, .ref 78, .ref 79, .ref 80])) := mv_eq e6 HX
          have X54 := mv_ne e6 (by decide) X54
          have fr := fr.set e6 (by decide)
          clear e6
          refine mv_aload_n dX12_readWord_95 rfl ?_
          refine mv_dup dX12_readWord_96 rfl ?_
          refine mv_getf (ci := 12) (f := 6) dX12_readWord_97 HX rfl (by decide) wd_1205 rfl ?_
          refine mv_iconst (v := nI 1) dX12_readWord_100 (by decide) ?_
          refine mv_iadd dX12_readWord_101 ?_
          refine mv_topI (y := nI (y + 1)) (nI_add _ _) ?_
          refine mv_putf (ci := 12) (f := 6) dX12_readWord_102 HX rfl (by decide) wd_1205 rfl rfl (fun _ => ⟨rfl, rfl⟩) (Nat.le_of_ble_eq_true rfl) ?_
          refine mv_topH (fun h7 e8 => ?_)
          have HX : h7[52]? = some (.inr (12, [.ref 53, .ref 54, .int (nI n), .int rq.2.1, .int (nI s), .long (lN 2000000000000), .int (nI (y + 1)), .int rq.2.2.2.2.1, .ref 55, .int (nI rq.2.2.2.2.2.2), .int (nI b.1), .ref 56, .ref 57, .ref 58, .int (nI t), .int (nI b.2.1), .ref 59, .ref 60, .ref 61, .ref 62, .int xg, .ref 63, .ref 64, .ref 65, .ref 66, .ref 67, .ref 68, .ref 69, .int xc, .ref 70, .ref 71, .ref 72, .ref 73, .ref 74, .ref 75, .int xw, .ref 76, .ref 77, .ref 78, .ref 79, .ref 80])) := mv_eq e8 HX
          have X54 := mv_ne e8 (by decide) X54
          have fr := fr.set e8 (by decide)
          clear e8
          refine mv_goto (tgt := 18) dX12_readWord_105 (by decide) ?_
          exact ih s 2000000000000 (y + 1) h7 (by omega) fr HX X54 es (by omega) (by omega) (by rw [← hq]; exact (q_ew_y (by omega)).symm) (by first | (rw [hv]; exact (q_wv_2 hs (by omega) (by omega)).symm) | exact (q_wv_1 hs (by omega)).symm) (by omega)
set_option maxRecDepth 100000 in
theorem k_X12_readWord {ev : mv_E} {h : mv_H} {xg : Int32} {xc : Int32} {xw : Int32} {b : t_B} {t : Nat} {n : Nat} {tx : Nat → Nat} {rq : q_R} (HX : h[52]? = some (.inr (12, [.ref 53, .ref 54, .int (nI n), .int rq.2.1, .int (nI rq.1), .long (lN rq.2.2.1), .int (nI rq.2.2.2.1), .int rq.2.2.2.2.1, .ref 55, .int (nI rq.2.2.2.2.2.2), .int (nI b.1), .ref 56, .ref 57, .ref 58, .int (nI t), .int (nI b.2.1), .ref 59, .ref 60, .ref 61, .ref 62, .int xg, .ref 63, .ref 64, .ref 65, .ref 66, .ref 67, .ref 68, .ref 69, .int xc, .ref 70, .ref 71, .ref 72, .ref 73, .ref 74, .ref 75, .int xw, .ref 76, .ref 77, .ref 78, .ref 79, .ref 80]))) (X54 : h[54]? = some (.inl (0, 160, .inl (fun j => nI (tx j))))) (hn : n ≤ 160) (htx : ∀ i, tx i < 256) (ha : rq.1 ≤ n) : ∃ h2, mv_K ev mX12_readWord [.ref 52] h (none) h2 ∧ mv_fra [52] h h2 ∧ h2[52]? = some (.inr (12, [.ref 53, .ref 54, .int (nI n), .int rq.2.1, .int (nI (q_sk n tx (n - rq.1) rq.1)), .long (lN (q_wv tx (q_sk n tx (n - rq.1) rq.1) ((q_ew n tx (n - (q_sk n tx (n - rq.1) rq.1)) (q_sk n tx (n - rq.1) rq.1)) - (q_sk n tx (n - rq.1) rq.1)))), .int (nI (q_ew n tx (n - (q_sk n tx (n - rq.1) rq.1)) (q_sk n tx (n - rq.1) rq.1))), .int rq.2.2.2.2.1, .ref 55, .int (nI rq.2.2.2.2.2.2), .int (nI b.1), .ref 56, .ref 57, .ref 58, .int (nI t), .int (nI b.2.1), .ref 59, .ref 60, .ref 61, .ref 62, .int xg, .ref 63, .ref 64, .ref 65, .ref 66, .ref 67, .ref 68, .ref 69, .int xc, .ref 70, .ref 71, .ref 72, .ref 73, .ref 74, .ref 75, .int xw, .ref 76, .ref 77, .ref 78, .ref 79, .ref 80])) := by
  suffices g0 : mv_g ev mX12_readWord 0 (mv_ent [.ref 52] (mv_ml mX12_readWord)) [] h (fun r g => r = none ∧ mv_fra [52] h g ∧ g[52]? = some (.inr (12, [.ref 53, .ref 54, .int (nI n), .int rq.2.1, .int (nI (q_sk n tx (n - rq.1) rq.1)), .long (lN (q_wv tx (q_sk n tx (n - rq.1) rq.1) ((q_ew n tx (n - (q_sk n tx (n - rq.1) rq.1)) (q_sk n tx (n - rq.1) rq.1)) - (q_sk n tx (n - rq.1) rq.1)))), .int (nI (q_ew n tx (n - (q_sk n tx (n - rq.1) rq.1)) (q_sk n tx (n - rq.1) rq.1))), .int rq.2.2.2.2.1, .ref 55, .int (nI rq.2.2.2.2.2.2), .int (nI b.1), .ref 56, .ref 57, .ref 58, .int (nI t), .int (nI b.2.1), .ref 59, .ref 60, .ref 61, .ref 62, .int xg, .ref 63, .ref 64, .ref 65, .ref 66, .ref 67, .ref 68, .ref 69, .int xc, .ref 70, .ref 71, .ref 72, .ref 73, .ref 74, .ref 75, .int xw, .ref 76, .ref 77, .ref 78, .ref 79, .ref 80]))) from (by obtain ⟨r0, h0, K0, q0, Q0⟩ := mv_Kex g0; subst q0; exact ⟨h0, K0, Q0⟩)
  show mv_g ev mX12_readWord 0 [.ref 52, .null] [] h _
  have fr : mv_fra [52] h h := mv_fra.rf
  refine mv_aload_n dX12_readWord_0 rfl ?_
  obtain ⟨h1, K2, f3, y4⟩ := (k_X12_here (ev := ev) (xg := xg) (xc := xc) (xw := xw) (b := b) (t := t) (n := n) (tx := tx) (rq := rq) HX X54 hn htx ha)
  refine mv_cV0 (ci := 12) dX12_readWord_1 lk_X12_readWord_141 HX rfl (Nat.le_of_ble_eq_true rfl) (Nat.le_of_ble_eq_true rfl) K2 ?_
  have HX : h1[52]? = some (.inr (12, [.ref 53, .ref 54, .int (nI n), .int rq.2.1, .int (nI (q_sk n tx (n - rq.1) rq.1)), .long (lN rq.2.2.1), .int (nI rq.2.2.2.1), .int rq.2.2.2.2.1, .ref 55, .int (nI rq.2.2.2.2.2.2), .int (nI b.1), .ref 56, .ref 57, .ref 58, .int (nI t), .int (nI b.2.1), .ref 59, .ref 60, .ref 61, .ref 62, .int xg, .ref 63, .ref 64, .ref 65, .ref 66, .ref 67, .ref 68, .ref 69, .int xc, .ref 70, .ref 71, .ref 72, .ref 73, .ref 74, .ref 75, .int xw, .ref 76, .ref 77, .ref 78, .ref 79, .ref 80])) := y4
  have X54 := f3.get (by decide) X54
  have fr := fr.trans f3 (by decide)
  refine mv_istore_n dX12_readWord_4 (by decide) ?_
  refine mv_aload_n dX12_readWord_5 rfl ?_
  refine mv_lconst (v := lN 0) dX12_readWord_6 rfl ?_
  refine mv_putf (ci := 12) (f := 5) dX12_readWord_7 HX rfl (by decide) wd_1204 rfl rfl (fun _ => ⟨rfl, rfl⟩) (Nat.le_of_ble_eq_true rfl) ?_
  refine mv_topH (fun h5 e6 => ?_)
  have HX : h5[52]? = some (.inr (12, [.ref 53, .ref 54, .int (nI n), .int rq.2.1, .int (nI (q_sk n tx (n - rq.1) rq.1)), .long (lN 0), .int (nI rq.2.2.2.1), .int rq.2.2.2.2.1, .ref 55, .int (nI rq.2.2.2.2.2.2), .int (nI b.1), .ref 56, .ref 57, .ref 58, .int (nI t), .int (nI b.2.1), .ref 59, .ref 60, .ref 61, .ref 62, .int xg, .ref 63, .ref 64, .ref 65, .ref 66, .ref 67, .ref 68, .ref 69, .int xc, .ref 70, .ref 71, .ref 72, .ref 73, .ref 74, .ref 75, .int xw, .ref 76, .ref 77, .ref 78, .ref 79, .ref 80])) := mv_eq e6 HX
  have X54 := mv_ne e6 (by decide) X54
  have fr := fr.set e6 (by decide)
  clear e6
  refine mv_aload_n dX12_readWord_10 rfl ?_
  refine mv_aload_n dX12_readWord_11 rfl ?_
  refine mv_getf (ci := 12) (f := 4) dX12_readWord_12 HX rfl (by decide) wd_1203 rfl ?_
  refine mv_putf (ci := 12) (f := 6) dX12_readWord_15 HX rfl (by decide) wd_1205 rfl rfl (fun _ => ⟨rfl, rfl⟩) (Nat.le_of_ble_eq_true rfl) ?_
  refine mv_topH (fun h7 e8 => ?_)
  have HX : h7[52]? = some (.inr (12, [.ref 53, .ref 54, .int (nI n), .int rq.2.1, .int (nI (q_sk n tx (n - rq.1) rq.1)), .long (lN 0), .int (nI (q_sk n tx (n - rq.1) rq.1)), .int rq.2.2.2.2.1, .ref 55, .int (nI rq.2.2.2.2.2.2), .int (nI b.1), .ref 56, .ref 57, .ref 58, .int (nI t), .int (nI b.2.1), .ref 59, .ref 60, .ref 61, .ref 62, .int xg, .ref 63, .ref 64, .ref 65, .ref 66, .ref 67, .ref 68, .ref 69, .int xc, .ref 70, .ref 71, .ref 72, .ref 73, .ref 74, .ref 75, .int xw, .ref 76, .ref 77, .ref 78, .ref 79, .ref 80])) := mv_eq e8 HX
  have X54 := mv_ne e8 (by decide) X54
  have fr := fr.set e8 (by decide)
  clear e8
  refine mv_sub (lv' := [.ref 52, .null]) ⟨Or.inr rfl, Or.inl rfl, trivial⟩ ?_
  exact l_X12_word hn htx ha (n + 1) (q_sk n tx (n - rq.1) rq.1) 0 (q_sk n tx (n - rq.1) rq.1) h7 (by omega) fr HX X54 rfl (Nat.le_refl _) (q_sk_in _ _ ha).2 rfl (by rw [Nat.sub_self]; rfl) (Nat.zero_le _)
set_option maxRecDepth 100000 in
theorem k_X12_code {ev : mv_E} {h : mv_H} {a : Nat} {b : Nat} {c : Nat} {d : Nat}  (ha : 97 ≤ a ∧ a ≤ 122) (hb : 97 ≤ b ∧ b ≤ 122) (hc : 97 ≤ c ∧ c ≤ 122) (hd : 97 ≤ d ∧ d ≤ 122) : mv_K ev mX12_code [.int (nI a), .int (nI b), .int (nI c), .int (nI d)] h (some (.long (lN (27 * (27 * (27 * (a - 96) + b - 96) + c - 96) + d - 96)))) h := by
  refine mv_Kof ?_
  show mv_g ev mX12_code 0 [.int (nI a), .int (nI b), .int (nI c), .int (nI d)] [] h _
  refine mv_ldc2 (v := lN 27) dX12_code_0 wd_1370 ?_
  refine mv_ldc2 (v := lN 27) dX12_code_3 wd_1370 ?_
  refine mv_ldc2 (v := lN 27) dX12_code_6 wd_1370 ?_
  refine mv_iload_n dX12_code_9 rfl ?_
  refine mv_i2l dX12_code_10 ?_
  refine mv_topL (y := lN a) (nI_l (by omega)) ?_
  refine mv_ldc2 (v := lN 96) dX12_code_11 wd_1371 ?_
  refine mv_lsub dX12_code_14 ?_
  refine mv_topL (y := lN (a - 96)) (lN_sub (by omega)) ?_
  refine mv_lmul dX12_code_15 ?_
  refine mv_topL (y := lN (27 * (a - 96))) (lN_mul _ _) ?_
  refine mv_iload_n dX12_code_16 rfl ?_
  refine mv_i2l dX12_code_17 ?_
  refine mv_topL (y := lN b) (nI_l (by omega)) ?_
  refine mv_ladd dX12_code_18 ?_
  refine mv_topL (y := lN ((27 * (a - 96)) + b)) (lN_add _ _) ?_
  refine mv_ldc2 (v := lN 96) dX12_code_19 wd_1371 ?_
  refine mv_lsub dX12_code_22 ?_
  refine mv_topL (y := lN (((27 * (a - 96)) + b) - 96)) (lN_sub (by omega)) ?_
  refine mv_lmul dX12_code_23 ?_
  refine mv_topL (y := lN (27 * (((27 * (a - 96)) + b) - 96))) (lN_mul _ _) ?_
  refine mv_iload_n dX12_code_24 rfl ?_
  refine mv_i2l dX12_code_25 ?_
  refine mv_topL (y := lN c) (nI_l (by omega)) ?_
  refine mv_ladd dX12_code_26 ?_
  refine mv_topL (y := lN ((27 * (((27 * (a - 96)) + b) - 96)) + c)) (lN_add _ _) ?_
  refine mv_ldc2 (v := lN 96) dX12_code_27 wd_1371 ?_
  refine mv_lsub dX12_code_30 ?_
  refine mv_topL (y := lN (((27 * (((27 * (a - 96)) + b) - 96)) + c) - 96)) (lN_sub (by omega)) ?_
  refine mv_lmul dX12_code_31 ?_
  refine mv_topL (y := lN (27 * (((27 * (((27 * (a - 96)) + b) - 96)) + c) - 96))) (lN_mul _ _) ?_
  refine mv_iload_n dX12_code_32 rfl ?_
  refine mv_i2l dX12_code_33 ?_
  refine mv_topL (y := lN d) (nI_l (by omega)) ?_
  refine mv_ladd dX12_code_34 ?_
  refine mv_topL (y := lN ((27 * (((27 * (((27 * (a - 96)) + b) - 96)) + c) - 96)) + d)) (lN_add _ _) ?_
  refine mv_ldc2 (v := lN 96) dX12_code_35 wd_1371 ?_
  refine mv_lsub dX12_code_38 ?_
  refine mv_topL (y := lN (((27 * (((27 * (((27 * (a - 96)) + b) - 96)) + c) - 96)) + d) - 96)) (lN_sub (by omega)) ?_
  exact mv_lret dX12_code_39 rfl ⟨rfl, rfl⟩
set_option maxRecDepth 100000 in
theorem k_X12_clauseOf {ev : mv_E} {h : mv_H} {xt : Int32} {xf : Int32} {xa : Int32} {xe : Int32} {xu : Int32} {xs : Int32} {xg : Int32} {xc : Int32} {xw : Int32} {b : t_B} {t : Nat} {wd : Nat} {tx : Nat → Nat} {s : Nat} {e : Nat} (HX : h[52]? = some (.inr (12, [.ref 53, .ref 54, .int xt, .int xf, .int xa, .long (lN wd), .int xe, .int xu, .ref 55, .int xs, .int (nI b.1), .ref 56, .ref 57, .ref 58, .int (nI t), .int (nI b.2.1), .ref 59, .ref 60, .ref 61, .ref 62, .int xg, .ref 63, .ref 64, .ref 65, .ref 66, .ref 67, .ref 68, .ref 69, .int xc, .ref 70, .ref 71, .ref 72, .ref 73, .ref 74, .ref 75, .int xw, .ref 76, .ref 77, .ref 78, .ref 79, .ref 80]))) (hw : wd = q_wv tx s (e - s)) (hwb : wd ≤ 30000000000000) (hse : s ≤ e) (hl : ∀ j, s ≤ j → j < e → 97 ≤ tx j ∧ tx j ≤ 122) : mv_K ev mX12_clauseOf [.ref 52] h (some (.int (q_crx tx s e))) h := by
  refine mv_Kof ?_
  show mv_g ev mX12_clauseOf 0 [.ref 52, .null, .null, .null, .null] [] h _
  have i0 := q_wk0 hse hl
  have i1 := q_wk1 hse hl
  have i2 := q_wk2 hse hl
  have i3 := q_wk3 hse hl
  have i4 := q_wk4 hse hl
  have i5 := q_wk5 hse hl
  have i6 := q_wk6 hse hl
  refine mv_ldc2 (v := lN 27) dX12_clauseOf_0 wd_1370 ?_
  refine mv_bipush (v := nI 97) dX12_clauseOf_3 (by decide) ?_
  refine mv_bipush (v := nI 102) dX12_clauseOf_5 (by decide) ?_
  refine mv_bipush (v := nI 116) dX12_clauseOf_7 (by decide) ?_
  refine mv_bipush (v := nI 101) dX12_clauseOf_9 (by decide) ?_
  refine mv_cS4 dX12_clauseOf_11 lk_X12_clauseOf_164 (Nat.le_of_ble_eq_true rfl) (Nat.le_of_ble_eq_true rfl) (k_X12_code (ev := ev) (by decide) (by decide) (by decide) (by decide)) ?_
  refine mv_topL (y := lN 24602) (congrArg lN (by rfl)) ?_
  refine mv_lmul dX12_clauseOf_14 ?_
  refine mv_topL (y := lN 664254) (lN_mul _ _) ?_
  refine mv_ldc2 (v := lN 114) dX12_clauseOf_15 wd_1379 ?_
  refine mv_ladd dX12_clauseOf_18 ?_
  refine mv_topL (y := lN 664368) (lN_add _ _) ?_
  refine mv_ldc2 (v := lN 96) dX12_clauseOf_19 wd_1371 ?_
  refine mv_lsub dX12_clauseOf_22 ?_
  refine mv_topL (y := lN 664272) ((lN_sub (by decide)).trans (congrArg lN (by rfl))) ?_
  refine mv_lstore_n dX12_clauseOf_23 (by decide) ?_
  refine mv_aload_n dX12_clauseOf_24 rfl ?_
  refine mv_getf (ci := 12) (f := 5) dX12_clauseOf_25 HX rfl (by decide) wd_1204 rfl ?_
  refine mv_bipush (v := nI 114) dX12_clauseOf_28 (by decide) ?_
  refine mv_bipush (v := nI 97) dX12_clauseOf_30 (by decide) ?_
  refine mv_bipush (v := nI 116) dX12_clauseOf_32 (by decide) ?_
  refine mv_bipush (v := nI 101) dX12_clauseOf_34 (by decide) ?_
  refine mv_cS4 dX12_clauseOf_36 lk_X12_clauseOf_164 (Nat.le_of_ble_eq_true rfl) (Nat.le_of_ble_eq_true rfl) (k_X12_code (ev := ev) (by decide) (by decide) (by decide) (by decide)) ?_
  refine mv_topL (y := lN 355568) (congrArg lN (by rfl)) ?_
  refine mv_lcmp dX12_clauseOf_39 ?_
  refine mv_if_ne (tgt := 47) dX12_clauseOf_40 (by decide) (fun c40 => ?_) (fun c40 => ?_)
  · have c40 : ¬ (q_kw0 tx s e) := fun q => c40 ((lg_cmp_eq _ _).mpr ((lN_eqB (by omega) (by omega)).mpr (hw.trans (i0.mpr q))))
    refine mv_aload_n dX12_clauseOf_47 rfl ?_
    refine mv_getf (ci := 12) (f := 5) dX12_clauseOf_48 HX rfl (by decide) wd_1204 rfl ?_
    refine mv_bipush (v := nI 103) dX12_clauseOf_51 (by decide) ?_
    refine mv_bipush (v := nI 114) dX12_clauseOf_53 (by decide) ?_
    refine mv_bipush (v := nI 111) dX12_clauseOf_55 (by decide) ?_
    refine mv_bipush (v := nI 119) dX12_clauseOf_57 (by decide) ?_
    refine mv_cS4 dX12_clauseOf_59 lk_X12_clauseOf_164 (Nat.le_of_ble_eq_true rfl) (Nat.le_of_ble_eq_true rfl) (k_X12_code (ev := ev) (by decide) (by decide) (by decide) (by decide)) ?_
    refine mv_topL (y := lN 151331) (congrArg lN (by rfl)) ?_
    refine mv_lcmp dX12_clauseOf_62 ?_
    refine mv_if_ne (tgt := 70) dX12_clauseOf_63 (by decide) (fun c63 => ?_) (fun c63 => ?_)
    · have c63 : ¬ (q_kw1 tx s e) := fun q => c63 ((lg_cmp_eq _ _).mpr ((lN_eqB (by omega) (by omega)).mpr (hw.trans (i1.mpr q))))
      refine mv_aload_n dX12_clauseOf_70 rfl ?_
      refine mv_getf (ci := 12) (f := 5) dX12_clauseOf_71 HX rfl (by decide) wd_1204 rfl ?_
      refine mv_lload_n dX12_clauseOf_74 rfl ?_
      refine mv_lcmp dX12_clauseOf_75 ?_
      refine mv_if_ne (tgt := 83) dX12_clauseOf_76 (by decide) (fun c76 => ?_) (fun c76 => ?_)
      · have c76 : ¬ (q_kw2 tx s e) := fun q => c76 ((lg_cmp_eq _ _).mpr ((lN_eqB (by omega) (by omega)).mpr (hw.trans (i2.mpr q))))
        refine mv_aload_n dX12_clauseOf_83 rfl ?_
        refine mv_getf (ci := 12) (f := 5) dX12_clauseOf_84 HX rfl (by decide) wd_1204 rfl ?_
        refine mv_bipush (v := nI 100) dX12_clauseOf_87 (by decide) ?_
        refine mv_bipush (v := nI 97) dX12_clauseOf_89 (by decide) ?_
        refine mv_bipush (v := nI 121) dX12_clauseOf_91 (by decide) ?_
        refine mv_bipush (v := nI 115) dX12_clauseOf_93 (by decide) ?_
        refine mv_cS4 dX12_clauseOf_95 lk_X12_clauseOf_164 (Nat.le_of_ble_eq_true rfl) (Nat.le_of_ble_eq_true rfl) (k_X12_code (ev := ev) (by decide) (by decide) (by decide) (by decide)) ?_
        refine mv_topL (y := lN 80155) (congrArg lN (by rfl)) ?_
        refine mv_lcmp dX12_clauseOf_98 ?_
        refine mv_if_ne (tgt := 106) dX12_clauseOf_99 (by decide) (fun c99 => ?_) (fun c99 => ?_)
        · have c99 : ¬ (q_kw3 tx s e) := fun q => c99 ((lg_cmp_eq _ _).mpr ((lN_eqB (by omega) (by omega)).mpr (hw.trans (i3.mpr q))))
          refine mv_iconst (v := (-1)) dX12_clauseOf_106 (by decide) ?_
          refine mv_istore_n dX12_clauseOf_107 (by decide) ?_
          refine mv_aload_n dX12_clauseOf_108 rfl ?_
          refine mv_getf (ci := 12) (f := 5) dX12_clauseOf_109 HX rfl (by decide) wd_1204 rfl ?_
          refine mv_bipush (v := nI 110) dX12_clauseOf_112 (by decide) ?_
          refine mv_bipush (v := nI 101) dX12_clauseOf_114 (by decide) ?_
          refine mv_bipush (v := nI 97) dX12_clauseOf_116 (by decide) ?_
          refine mv_bipush (v := nI 114) dX12_clauseOf_118 (by decide) ?_
          refine mv_cS4 dX12_clauseOf_120 lk_X12_clauseOf_164 (Nat.le_of_ble_eq_true rfl) (Nat.le_of_ble_eq_true rfl) (k_X12_code (ev := ev) (by decide) (by decide) (by decide) (by decide)) ?_
          refine mv_topL (y := lN 279252) (congrArg lN (by rfl)) ?_
          refine mv_lcmp dX12_clauseOf_123 ?_
          refine mv_if_ne (tgt := 131) dX12_clauseOf_124 (by decide) (fun c124 => ?_) (fun c124 => ?_)
          · have c124 : ¬ (q_kw4 tx s e) := fun q => c124 ((lg_cmp_eq _ _).mpr ((lN_eqB (by omega) (by omega)).mpr (hw.trans (i4.mpr q))))
            refine mv_aload_n dX12_clauseOf_131 rfl ?_
            refine mv_getf (ci := 12) (f := 5) dX12_clauseOf_132 HX rfl (by decide) wd_1204 rfl ?_
            refine mv_bipush (v := nI 109) dX12_clauseOf_135 (by decide) ?_
            refine mv_bipush (v := nI 111) dX12_clauseOf_137 (by decide) ?_
            refine mv_bipush (v := nI 111) dX12_clauseOf_139 (by decide) ?_
            refine mv_bipush (v := nI 110) dX12_clauseOf_141 (by decide) ?_
            refine mv_cS4 dX12_clauseOf_143 lk_X12_clauseOf_164 (Nat.le_of_ble_eq_true rfl) (Nat.le_of_ble_eq_true rfl) (k_X12_code (ev := ev) (by decide) (by decide) (by decide) (by decide)) ?_
            refine mv_topL (y := lN 267233) (congrArg lN (by rfl)) ?_
            refine mv_lcmp dX12_clauseOf_146 ?_
            refine mv_if_ne (tgt := 154) dX12_clauseOf_147 (by decide) (fun c147 => ?_) (fun c147 => ?_)
            · have c147 : ¬ (q_kw5 tx s e) := fun q => c147 ((lg_cmp_eq _ _).mpr ((lN_eqB (by omega) (by omega)).mpr (hw.trans (i5.mpr q))))
              refine mv_aload_n dX12_clauseOf_154 rfl ?_
              refine mv_getf (ci := 12) (f := 5) dX12_clauseOf_155 HX rfl (by decide) wd_1204 rfl ?_
              refine mv_bipush (v := nI 114) dX12_clauseOf_158 (by decide) ?_
              refine mv_bipush (v := nI 97) dX12_clauseOf_160 (by decide) ?_
              refine mv_bipush (v := nI 105) dX12_clauseOf_162 (by decide) ?_
              refine mv_bipush (v := nI 110) dX12_clauseOf_164 (by decide) ?_
              refine mv_cS4 dX12_clauseOf_166 lk_X12_clauseOf_164 (Nat.le_of_ble_eq_true rfl) (Nat.le_of_ble_eq_true rfl) (k_X12_code (ev := ev) (by decide) (by decide) (by decide) (by decide)) ?_
              refine mv_topL (y := lN 355280) (congrArg lN (by rfl)) ?_
              refine mv_lcmp dX12_clauseOf_169 ?_
              refine mv_if_ne (tgt := 178) dX12_clauseOf_170 (by decide) (fun c170 => ?_) (fun c170 => ?_)
              · have c170 : ¬ (q_kw6 tx s e) := fun q => c170 ((lg_cmp_eq _ _).mpr ((lN_eqB (by omega) (by omega)).mpr (hw.trans (i6.mpr q))))
                refine mv_iconst (v := (-1)) dX12_clauseOf_178 (by decide) ?_
                refine mv_istore dX12_clauseOf_179 (by decide) ?_
                refine mv_iload_n dX12_clauseOf_181 rfl ?_
                refine mv_if_lt (tgt := 189) dX12_clauseOf_182 (by decide) (fun c182 => ?_) (fun z => absurd ((by decide)) z)
                refine mv_iload dX12_clauseOf_189 rfl ?_
                exact mv_iret dX12_clauseOf_191 rfl rfl ⟨(congrArg (fun z => some (Value.int z)) (Eq.symm (by unfold q_crx; rw [if_neg c40, if_neg c63, if_neg c76, if_neg c99, if_neg c124, if_neg c147, if_neg c170]))), rfl⟩
              · have c170 : q_kw6 tx s e := i6.mp (hw.symm.trans ((lN_eqB (by omega) (by omega)).mp ((lg_cmp_eq _ _).mp c170)))
                refine mv_bipush (v := nI 7) dX12_clauseOf_173 (by decide) ?_
                refine mv_goto (tgt := 179) dX12_clauseOf_175 (by decide) ?_
                refine mv_istore dX12_clauseOf_179 (by decide) ?_
                refine mv_iload_n dX12_clauseOf_181 rfl ?_
                refine mv_if_lt (tgt := 189) dX12_clauseOf_182 (by decide) (fun c182 => ?_) (fun z => absurd ((by decide)) z)
                refine mv_iload dX12_clauseOf_189 rfl ?_
                exact mv_iret dX12_clauseOf_191 rfl rfl ⟨(congrArg (fun z => some (Value.int z)) (Eq.symm (by unfold q_crx; rw [if_neg c40, if_neg c63, if_neg c76, if_neg c99, if_neg c124, if_neg c147, if_pos c170]))), rfl⟩
            · have c147 : q_kw5 tx s e := i5.mp (hw.symm.trans ((lN_eqB (by omega) (by omega)).mp ((lg_cmp_eq _ _).mp c147)))
              refine mv_iconst (v := nI 5) dX12_clauseOf_150 (by decide) ?_
              refine mv_goto (tgt := 179) dX12_clauseOf_151 (by decide) ?_
              refine mv_istore dX12_clauseOf_179 (by decide) ?_
              refine mv_iload_n dX12_clauseOf_181 rfl ?_
              refine mv_if_lt (tgt := 189) dX12_clauseOf_182 (by decide) (fun c182 => ?_) (fun z => absurd ((by decide)) z)
              refine mv_iload dX12_clauseOf_189 rfl ?_
              exact mv_iret dX12_clauseOf_191 rfl rfl ⟨(congrArg (fun z => some (Value.int z)) (Eq.symm (by unfold q_crx; rw [if_neg c40, if_neg c63, if_neg c76, if_neg c99, if_neg c124, if_pos c147]))), rfl⟩
          · have c124 : q_kw4 tx s e := i4.mp (hw.symm.trans ((lN_eqB (by omega) (by omega)).mp ((lg_cmp_eq _ _).mp c124)))
            refine mv_iconst (v := nI 4) dX12_clauseOf_127 (by decide) ?_
            refine mv_goto (tgt := 179) dX12_clauseOf_128 (by decide) ?_
            refine mv_istore dX12_clauseOf_179 (by decide) ?_
            refine mv_iload_n dX12_clauseOf_181 rfl ?_
            refine mv_if_lt (tgt := 189) dX12_clauseOf_182 (by decide) (fun c182 => ?_) (fun z => absurd ((by decide)) z)
            refine mv_iload dX12_clauseOf_189 rfl ?_
            exact mv_iret dX12_clauseOf_191 rfl rfl ⟨(congrArg (fun z => some (Value.int z)) (Eq.symm (by unfold q_crx; rw [if_neg c40, if_neg c63, if_neg c76, if_neg c99, if_pos c124]))), rfl⟩
        · have c99 : q_kw3 tx s e := i3.mp (hw.symm.trans ((lN_eqB (by omega) (by omega)).mp ((lg_cmp_eq _ _).mp c99)))
          refine mv_iconst (v := nI 3) dX12_clauseOf_102 (by decide) ?_
          refine mv_goto (tgt := 107) dX12_clauseOf_103 (by decide) ?_
          refine mv_istore_n dX12_clauseOf_107 (by decide) ?_
          refine mv_aload_n dX12_clauseOf_108 rfl ?_
          refine mv_getf (ci := 12) (f := 5) dX12_clauseOf_109 HX rfl (by decide) wd_1204 rfl ?_
          refine mv_bipush (v := nI 110) dX12_clauseOf_112 (by decide) ?_
          refine mv_bipush (v := nI 101) dX12_clauseOf_114 (by decide) ?_
          refine mv_bipush (v := nI 97) dX12_clauseOf_116 (by decide) ?_
          refine mv_bipush (v := nI 114) dX12_clauseOf_118 (by decide) ?_
          refine mv_cS4 dX12_clauseOf_120 lk_X12_clauseOf_164 (Nat.le_of_ble_eq_true rfl) (Nat.le_of_ble_eq_true rfl) (k_X12_code (ev := ev) (by decide) (by decide) (by decide) (by decide)) ?_
          refine mv_topL (y := lN 279252) (congrArg lN (by rfl)) ?_
          refine mv_lcmp dX12_clauseOf_123 ?_
          refine mv_if_ne (tgt := 131) dX12_clauseOf_124 (by decide) (fun c124 => ?_) (fun c124 => ?_)
          · have c124 : ¬ (q_kw4 tx s e) := fun q => c124 ((lg_cmp_eq _ _).mpr ((lN_eqB (by omega) (by omega)).mpr (hw.trans (i4.mpr q))))
            refine mv_aload_n dX12_clauseOf_131 rfl ?_
            refine mv_getf (ci := 12) (f := 5) dX12_clauseOf_132 HX rfl (by decide) wd_1204 rfl ?_
            refine mv_bipush (v := nI 109) dX12_clauseOf_135 (by decide) ?_
            refine mv_bipush (v := nI 111) dX12_clauseOf_137 (by decide) ?_
            refine mv_bipush (v := nI 111) dX12_clauseOf_139 (by decide) ?_
            refine mv_bipush (v := nI 110) dX12_clauseOf_141 (by decide) ?_
            refine mv_cS4 dX12_clauseOf_143 lk_X12_clauseOf_164 (Nat.le_of_ble_eq_true rfl) (Nat.le_of_ble_eq_true rfl) (k_X12_code (ev := ev) (by decide) (by decide) (by decide) (by decide)) ?_
            refine mv_topL (y := lN 267233) (congrArg lN (by rfl)) ?_
            refine mv_lcmp dX12_clauseOf_146 ?_
            refine mv_if_ne (tgt := 154) dX12_clauseOf_147 (by decide) (fun c147 => ?_) (fun c147 => ?_)
            · have c147 : ¬ (q_kw5 tx s e) := fun q => c147 ((lg_cmp_eq _ _).mpr ((lN_eqB (by omega) (by omega)).mpr (hw.trans (i5.mpr q))))
              refine mv_aload_n dX12_clauseOf_154 rfl ?_
              refine mv_getf (ci := 12) (f := 5) dX12_clauseOf_155 HX rfl (by decide) wd_1204 rfl ?_
              refine mv_bipush (v := nI 114) dX12_clauseOf_158 (by decide) ?_
              refine mv_bipush (v := nI 97) dX12_clauseOf_160 (by decide) ?_
              refine mv_bipush (v := nI 105) dX12_clauseOf_162 (by decide) ?_
              refine mv_bipush (v := nI 110) dX12_clauseOf_164 (by decide) ?_
              refine mv_cS4 dX12_clauseOf_166 lk_X12_clauseOf_164 (Nat.le_of_ble_eq_true rfl) (Nat.le_of_ble_eq_true rfl) (k_X12_code (ev := ev) (by decide) (by decide) (by decide) (by decide)) ?_
              refine mv_topL (y := lN 355280) (congrArg lN (by rfl)) ?_
              refine mv_lcmp dX12_clauseOf_169 ?_
              refine mv_if_ne (tgt := 178) dX12_clauseOf_170 (by decide) (fun c170 => ?_) (fun c170 => ?_)
              · have c170 : ¬ (q_kw6 tx s e) := fun q => c170 ((lg_cmp_eq _ _).mpr ((lN_eqB (by omega) (by omega)).mpr (hw.trans (i6.mpr q))))
                refine mv_iconst (v := (-1)) dX12_clauseOf_178 (by decide) ?_
                refine mv_istore dX12_clauseOf_179 (by decide) ?_
                refine mv_iload_n dX12_clauseOf_181 rfl ?_
                refine mv_if_lt (tgt := 189) dX12_clauseOf_182 (by decide) (fun z => absurd z ((by decide))) (fun c182 => ?_)
                refine mv_iload_n dX12_clauseOf_185 rfl ?_
                refine mv_goto (tgt := 191) dX12_clauseOf_186 (by decide) ?_
                exact mv_iret dX12_clauseOf_191 rfl rfl ⟨(congrArg (fun z => some (Value.int z)) (Eq.symm (by unfold q_crx; rw [if_neg c40, if_neg c63, if_neg c76, if_pos c99]))), rfl⟩
              · have c170 : q_kw6 tx s e := i6.mp (hw.symm.trans ((lN_eqB (by omega) (by omega)).mp ((lg_cmp_eq _ _).mp c170)))
                refine mv_bipush (v := nI 7) dX12_clauseOf_173 (by decide) ?_
                refine mv_goto (tgt := 179) dX12_clauseOf_175 (by decide) ?_
                refine mv_istore dX12_clauseOf_179 (by decide) ?_
                refine mv_iload_n dX12_clauseOf_181 rfl ?_
                refine mv_if_lt (tgt := 189) dX12_clauseOf_182 (by decide) (fun z => absurd z ((by decide))) (fun c182 => ?_)
                refine mv_iload_n dX12_clauseOf_185 rfl ?_
                refine mv_goto (tgt := 191) dX12_clauseOf_186 (by decide) ?_
                exact mv_iret dX12_clauseOf_191 rfl rfl ⟨(congrArg (fun z => some (Value.int z)) (Eq.symm (by unfold q_crx; rw [if_neg c40, if_neg c63, if_neg c76, if_pos c99]))), rfl⟩
            · have c147 : q_kw5 tx s e := i5.mp (hw.symm.trans ((lN_eqB (by omega) (by omega)).mp ((lg_cmp_eq _ _).mp c147)))
              refine mv_iconst (v := nI 5) dX12_clauseOf_150 (by decide) ?_
              refine mv_goto (tgt := 179) dX12_clauseOf_151 (by decide) ?_
              refine mv_istore dX12_clauseOf_179 (by decide) ?_
              refine mv_iload_n dX12_clauseOf_181 rfl ?_
              refine mv_if_lt (tgt := 189) dX12_clauseOf_182 (by decide) (fun z => absurd z ((by decide))) (fun c182 => ?_)
              refine mv_iload_n dX12_clauseOf_185 rfl ?_
              refine mv_goto (tgt := 191) dX12_clauseOf_186 (by decide) ?_
              exact mv_iret dX12_clauseOf_191 rfl rfl ⟨(congrArg (fun z => some (Value.int z)) (Eq.symm (by unfold q_crx; rw [if_neg c40, if_neg c63, if_neg c76, if_pos c99]))), rfl⟩
          · have c124 : q_kw4 tx s e := i4.mp (hw.symm.trans ((lN_eqB (by omega) (by omega)).mp ((lg_cmp_eq _ _).mp c124)))
            refine mv_iconst (v := nI 4) dX12_clauseOf_127 (by decide) ?_
            refine mv_goto (tgt := 179) dX12_clauseOf_128 (by decide) ?_
            refine mv_istore dX12_clauseOf_179 (by decide) ?_
            refine mv_iload_n dX12_clauseOf_181 rfl ?_
            refine mv_if_lt (tgt := 189) dX12_clauseOf_182 (by decide) (fun z => absurd z ((by decide))) (fun c182 => ?_)
            refine mv_iload_n dX12_clauseOf_185 rfl ?_
            refine mv_goto (tgt := 191) dX12_clauseOf_186 (by decide) ?_
            exact mv_iret dX12_clauseOf_191 rfl rfl ⟨(congrArg (fun z => some (Value.int z)) (Eq.symm (by unfold q_crx; rw [if_neg c40, if_neg c63, if_neg c76, if_pos c99]))), rfl⟩
      · have c76 : q_kw2 tx s e := i2.mp (hw.symm.trans ((lN_eqB (by omega) (by omega)).mp ((lg_cmp_eq _ _).mp c76)))
        refine mv_iconst (v := nI 2) dX12_clauseOf_79 (by decide) ?_
        refine mv_goto (tgt := 107) dX12_clauseOf_80 (by decide) ?_
        refine mv_istore_n dX12_clauseOf_107 (by decide) ?_
        refine mv_aload_n dX12_clauseOf_108 rfl ?_
        refine mv_getf (ci := 12) (f := 5) dX12_clauseOf_109 HX rfl (by decide) wd_1204 rfl ?_
        refine mv_bipush (v := nI 110) dX12_clauseOf_112 (by decide) ?_
        refine mv_bipush (v := nI 101) dX12_clauseOf_114 (by decide) ?_
        refine mv_bipush (v := nI 97) dX12_clauseOf_116 (by decide) ?_
        refine mv_bipush (v := nI 114) dX12_clauseOf_118 (by decide) ?_
        refine mv_cS4 dX12_clauseOf_120 lk_X12_clauseOf_164 (Nat.le_of_ble_eq_true rfl) (Nat.le_of_ble_eq_true rfl) (k_X12_code (ev := ev) (by decide) (by decide) (by decide) (by decide)) ?_
        refine mv_topL (y := lN 279252) (congrArg lN (by rfl)) ?_
        refine mv_lcmp dX12_clauseOf_123 ?_
        refine mv_if_ne (tgt := 131) dX12_clauseOf_124 (by decide) (fun c124 => ?_) (fun c124 => ?_)
        · have c124 : ¬ (q_kw4 tx s e) := fun q => c124 ((lg_cmp_eq _ _).mpr ((lN_eqB (by omega) (by omega)).mpr (hw.trans (i4.mpr q))))
          refine mv_aload_n dX12_clauseOf_131 rfl ?_
          refine mv_getf (ci := 12) (f := 5) dX12_clauseOf_132 HX rfl (by decide) wd_1204 rfl ?_
          refine mv_bipush (v := nI 109) dX12_clauseOf_135 (by decide) ?_
          refine mv_bipush (v := nI 111) dX12_clauseOf_137 (by decide) ?_
          refine mv_bipush (v := nI 111) dX12_clauseOf_139 (by decide) ?_
          refine mv_bipush (v := nI 110) dX12_clauseOf_141 (by decide) ?_
          refine mv_cS4 dX12_clauseOf_143 lk_X12_clauseOf_164 (Nat.le_of_ble_eq_true rfl) (Nat.le_of_ble_eq_true rfl) (k_X12_code (ev := ev) (by decide) (by decide) (by decide) (by decide)) ?_
          refine mv_topL (y := lN 267233) (congrArg lN (by rfl)) ?_
          refine mv_lcmp dX12_clauseOf_146 ?_
          refine mv_if_ne (tgt := 154) dX12_clauseOf_147 (by decide) (fun c147 => ?_) (fun c147 => ?_)
          · have c147 : ¬ (q_kw5 tx s e) := fun q => c147 ((lg_cmp_eq _ _).mpr ((lN_eqB (by omega) (by omega)).mpr (hw.trans (i5.mpr q))))
            refine mv_aload_n dX12_clauseOf_154 rfl ?_
            refine mv_getf (ci := 12) (f := 5) dX12_clauseOf_155 HX rfl (by decide) wd_1204 rfl ?_
            refine mv_bipush (v := nI 114) dX12_clauseOf_158 (by decide) ?_
            refine mv_bipush (v := nI 97) dX12_clauseOf_160 (by decide) ?_
            refine mv_bipush (v := nI 105) dX12_clauseOf_162 (by decide) ?_
            refine mv_bipush (v := nI 110) dX12_clauseOf_164 (by decide) ?_
            refine mv_cS4 dX12_clauseOf_166 lk_X12_clauseOf_164 (Nat.le_of_ble_eq_true rfl) (Nat.le_of_ble_eq_true rfl) (k_X12_code (ev := ev) (by decide) (by decide) (by decide) (by decide)) ?_
            refine mv_topL (y := lN 355280) (congrArg lN (by rfl)) ?_
            refine mv_lcmp dX12_clauseOf_169 ?_
            refine mv_if_ne (tgt := 178) dX12_clauseOf_170 (by decide) (fun c170 => ?_) (fun c170 => ?_)
            · have c170 : ¬ (q_kw6 tx s e) := fun q => c170 ((lg_cmp_eq _ _).mpr ((lN_eqB (by omega) (by omega)).mpr (hw.trans (i6.mpr q))))
              refine mv_iconst (v := (-1)) dX12_clauseOf_178 (by decide) ?_
              refine mv_istore dX12_clauseOf_179 (by decide) ?_
              refine mv_iload_n dX12_clauseOf_181 rfl ?_
              refine mv_if_lt (tgt := 189) dX12_clauseOf_182 (by decide) (fun z => absurd z ((by decide))) (fun c182 => ?_)
              refine mv_iload_n dX12_clauseOf_185 rfl ?_
              refine mv_goto (tgt := 191) dX12_clauseOf_186 (by decide) ?_
              exact mv_iret dX12_clauseOf_191 rfl rfl ⟨(congrArg (fun z => some (Value.int z)) (Eq.symm (by unfold q_crx; rw [if_neg c40, if_neg c63, if_pos c76]))), rfl⟩
            · have c170 : q_kw6 tx s e := i6.mp (hw.symm.trans ((lN_eqB (by omega) (by omega)).mp ((lg_cmp_eq _ _).mp c170)))
              refine mv_bipush (v := nI 7) dX12_clauseOf_173 (by decide) ?_
              refine mv_goto (tgt := 179) dX12_clauseOf_175 (by decide) ?_
              refine mv_istore dX12_clauseOf_179 (by decide) ?_
              refine mv_iload_n dX12_clauseOf_181 rfl ?_
              refine mv_if_lt (tgt := 189) dX12_clauseOf_182 (by decide) (fun z => absurd z ((by decide))) (fun c182 => ?_)
              refine mv_iload_n dX12_clauseOf_185 rfl ?_
              refine mv_goto (tgt := 191) dX12_clauseOf_186 (by decide) ?_
              exact mv_iret dX12_clauseOf_191 rfl rfl ⟨(congrArg (fun z => some (Value.int z)) (Eq.symm (by unfold q_crx; rw [if_neg c40, if_neg c63, if_pos c76]))), rfl⟩
          · have c147 : q_kw5 tx s e := i5.mp (hw.symm.trans ((lN_eqB (by omega) (by omega)).mp ((lg_cmp_eq _ _).mp c147)))
            refine mv_iconst (v := nI 5) dX12_clauseOf_150 (by decide) ?_
            refine mv_goto (tgt := 179) dX12_clauseOf_151 (by decide) ?_
            refine mv_istore dX12_clauseOf_179 (by decide) ?_
            refine mv_iload_n dX12_clauseOf_181 rfl ?_
            refine mv_if_lt (tgt := 189) dX12_clauseOf_182 (by decide) (fun z => absurd z ((by decide))) (fun c182 => ?_)
            refine mv_iload_n dX12_clauseOf_185 rfl ?_
            refine mv_goto (tgt := 191) dX12_clauseOf_186 (by decide) ?_
            exact mv_iret dX12_clauseOf_191 rfl rfl ⟨(congrArg (fun z => some (Value.int z)) (Eq.symm (by unfold q_crx; rw [if_neg c40, if_neg c63, if_pos c76]))), rfl⟩
        · have c124 : q_kw4 tx s e := i4.mp (hw.symm.trans ((lN_eqB (by omega) (by omega)).mp ((lg_cmp_eq _ _).mp c124)))
          refine mv_iconst (v := nI 4) dX12_clauseOf_127 (by decide) ?_
          refine mv_goto (tgt := 179) dX12_clauseOf_128 (by decide) ?_
          refine mv_istore dX12_clauseOf_179 (by decide) ?_
          refine mv_iload_n dX12_clauseOf_181 rfl ?_
          refine mv_if_lt (tgt := 189) dX12_clauseOf_182 (by decide) (fun z => absurd z ((by decide))) (fun c182 => ?_)
          refine mv_iload_n dX12_clauseOf_185 rfl ?_
          refine mv_goto (tgt := 191) dX12_clauseOf_186 (by decide) ?_
          exact mv_iret dX12_clauseOf_191 rfl rfl ⟨(congrArg (fun z => some (Value.int z)) (Eq.symm (by unfold q_crx; rw [if_neg c40, if_neg c63, if_pos c76]))), rfl⟩
    · have c63 : q_kw1 tx s e := i1.mp (hw.symm.trans ((lN_eqB (by omega) (by omega)).mp ((lg_cmp_eq _ _).mp c63)))
      refine mv_iconst (v := nI 1) dX12_clauseOf_66 (by decide) ?_
      refine mv_goto (tgt := 107) dX12_clauseOf_67 (by decide) ?_
      refine mv_istore_n dX12_clauseOf_107 (by decide) ?_
      refine mv_aload_n dX12_clauseOf_108 rfl ?_
      refine mv_getf (ci := 12) (f := 5) dX12_clauseOf_109 HX rfl (by decide) wd_1204 rfl ?_
      refine mv_bipush (v := nI 110) dX12_clauseOf_112 (by decide) ?_
      refine mv_bipush (v := nI 101) dX12_clauseOf_114 (by decide) ?_
      refine mv_bipush (v := nI 97) dX12_clauseOf_116 (by decide) ?_
      refine mv_bipush (v := nI 114) dX12_clauseOf_118 (by decide) ?_
      refine mv_cS4 dX12_clauseOf_120 lk_X12_clauseOf_164 (Nat.le_of_ble_eq_true rfl) (Nat.le_of_ble_eq_true rfl) (k_X12_code (ev := ev) (by decide) (by decide) (by decide) (by decide)) ?_
      refine mv_topL (y := lN 279252) (congrArg lN (by rfl)) ?_
      refine mv_lcmp dX12_clauseOf_123 ?_
      refine mv_if_ne (tgt := 131) dX12_clauseOf_124 (by decide) (fun c124 => ?_) (fun c124 => ?_)
      · have c124 : ¬ (q_kw4 tx s e) := fun q => c124 ((lg_cmp_eq _ _).mpr ((lN_eqB (by omega) (by omega)).mpr (hw.trans (i4.mpr q))))
        refine mv_aload_n dX12_clauseOf_131 rfl ?_
        refine mv_getf (ci := 12) (f := 5) dX12_clauseOf_132 HX rfl (by decide) wd_1204 rfl ?_
        refine mv_bipush (v := nI 109) dX12_clauseOf_135 (by decide) ?_
        refine mv_bipush (v := nI 111) dX12_clauseOf_137 (by decide) ?_
        refine mv_bipush (v := nI 111) dX12_clauseOf_139 (by decide) ?_
        refine mv_bipush (v := nI 110) dX12_clauseOf_141 (by decide) ?_
        refine mv_cS4 dX12_clauseOf_143 lk_X12_clauseOf_164 (Nat.le_of_ble_eq_true rfl) (Nat.le_of_ble_eq_true rfl) (k_X12_code (ev := ev) (by decide) (by decide) (by decide) (by decide)) ?_
        refine mv_topL (y := lN 267233) (congrArg lN (by rfl)) ?_
        refine mv_lcmp dX12_clauseOf_146 ?_
        refine mv_if_ne (tgt := 154) dX12_clauseOf_147 (by decide) (fun c147 => ?_) (fun c147 => ?_)
        · have c147 : ¬ (q_kw5 tx s e) := fun q => c147 ((lg_cmp_eq _ _).mpr ((lN_eqB (by omega) (by omega)).mpr (hw.trans (i5.mpr q))))
          refine mv_aload_n dX12_clauseOf_154 rfl ?_
          refine mv_getf (ci := 12) (f := 5) dX12_clauseOf_155 HX rfl (by decide) wd_1204 rfl ?_
          refine mv_bipush (v := nI 114) dX12_clauseOf_158 (by decide) ?_
          refine mv_bipush (v := nI 97) dX12_clauseOf_160 (by decide) ?_
          refine mv_bipush (v := nI 105) dX12_clauseOf_162 (by decide) ?_
          refine mv_bipush (v := nI 110) dX12_clauseOf_164 (by decide) ?_
          refine mv_cS4 dX12_clauseOf_166 lk_X12_clauseOf_164 (Nat.le_of_ble_eq_true rfl) (Nat.le_of_ble_eq_true rfl) (k_X12_code (ev := ev) (by decide) (by decide) (by decide) (by decide)) ?_
          refine mv_topL (y := lN 355280) (congrArg lN (by rfl)) ?_
          refine mv_lcmp dX12_clauseOf_169 ?_
          refine mv_if_ne (tgt := 178) dX12_clauseOf_170 (by decide) (fun c170 => ?_) (fun c170 => ?_)
          · have c170 : ¬ (q_kw6 tx s e) := fun q => c170 ((lg_cmp_eq _ _).mpr ((lN_eqB (by omega) (by omega)).mpr (hw.trans (i6.mpr q))))
            refine mv_iconst (v := (-1)) dX12_clauseOf_178 (by decide) ?_
            refine mv_istore dX12_clauseOf_179 (by decide) ?_
            refine mv_iload_n dX12_clauseOf_181 rfl ?_
            refine mv_if_lt (tgt := 189) dX12_clauseOf_182 (by decide) (fun z => absurd z ((by decide))) (fun c182 => ?_)
            refine mv_iload_n dX12_clauseOf_185 rfl ?_
            refine mv_goto (tgt := 191) dX12_clauseOf_186 (by decide) ?_
            exact mv_iret dX12_clauseOf_191 rfl rfl ⟨(congrArg (fun z => some (Value.int z)) (Eq.symm (by unfold q_crx; rw [if_neg c40, if_pos c63]))), rfl⟩
          · have c170 : q_kw6 tx s e := i6.mp (hw.symm.trans ((lN_eqB (by omega) (by omega)).mp ((lg_cmp_eq _ _).mp c170)))
            refine mv_bipush (v := nI 7) dX12_clauseOf_173 (by decide) ?_
            refine mv_goto (tgt := 179) dX12_clauseOf_175 (by decide) ?_
            refine mv_istore dX12_clauseOf_179 (by decide) ?_
            refine mv_iload_n dX12_clauseOf_181 rfl ?_
            refine mv_if_lt (tgt := 189) dX12_clauseOf_182 (by decide) (fun z => absurd z ((by decide))) (fun c182 => ?_)
            refine mv_iload_n dX12_clauseOf_185 rfl ?_
            refine mv_goto (tgt := 191) dX12_clauseOf_186 (by decide) ?_
            exact mv_iret dX12_clauseOf_191 rfl rfl ⟨(congrArg (fun z => some (Value.int z)) (Eq.symm (by unfold q_crx; rw [if_neg c40, if_pos c63]))), rfl⟩
        · have c147 : q_kw5 tx s e := i5.mp (hw.symm.trans ((lN_eqB (by omega) (by omega)).mp ((lg_cmp_eq _ _).mp c147)))
          refine mv_iconst (v := nI 5) dX12_clauseOf_150 (by decide) ?_
          refine mv_goto (tgt := 179) dX12_clauseOf_151 (by decide) ?_
          refine mv_istore dX12_clauseOf_179 (by decide) ?_
          refine mv_iload_n dX12_clauseOf_181 rfl ?_
          refine mv_if_lt (tgt := 189) dX12_clauseOf_182 (by decide) (fun z => absurd z ((by decide))) (fun c182 => ?_)
          refine mv_iload_n dX12_clauseOf_185 rfl ?_
          refine mv_goto (tgt := 191) dX12_clauseOf_186 (by decide) ?_
          exact mv_iret dX12_clauseOf_191 rfl rfl ⟨(congrArg (fun z => some (Value.int z)) (Eq.symm (by unfold q_crx; rw [if_neg c40, if_pos c63]))), rfl⟩
      · have c124 : q_kw4 tx s e := i4.mp (hw.symm.trans ((lN_eqB (by omega) (by omega)).mp ((lg_cmp_eq _ _).mp c124)))
        refine mv_iconst (v := nI 4) dX12_clauseOf_127 (by decide) ?_
        refine mv_goto (tgt := 179) dX12_clauseOf_128 (by decide) ?_
        refine mv_istore dX12_clauseOf_179 (by decide) ?_
        refine mv_iload_n dX12_clauseOf_181 rfl ?_
        refine mv_if_lt (tgt := 189) dX12_clauseOf_182 (by decide) (fun z => absurd z ((by decide))) (fun c182 => ?_)
        refine mv_iload_n dX12_clauseOf_185 rfl ?_
        refine mv_goto (tgt := 191) dX12_clauseOf_186 (by decide) ?_
        exact mv_iret dX12_clauseOf_191 rfl rfl ⟨(congrArg (fun z => some (Value.int z)) (Eq.symm (by unfold q_crx; rw [if_neg c40, if_pos c63]))), rfl⟩
  · have c40 : q_kw0 tx s e := i0.mp (hw.symm.trans ((lN_eqB (by omega) (by omega)).mp ((lg_cmp_eq _ _).mp c40)))
    refine mv_iconst (v := nI 0) dX12_clauseOf_43 (by decide) ?_
    refine mv_goto (tgt := 107) dX12_clauseOf_44 (by decide) ?_
    refine mv_istore_n dX12_clauseOf_107 (by decide) ?_
    refine mv_aload_n dX12_clauseOf_108 rfl ?_
    refine mv_getf (ci := 12) (f := 5) dX12_clauseOf_109 HX rfl (by decide) wd_1204 rfl ?_
    refine mv_bipush (v := nI 110) dX12_clauseOf_112 (by decide) ?_
    refine mv_bipush (v := nI 101) dX12_clauseOf_114 (by decide) ?_
    refine mv_bipush (v := nI 97) dX12_clauseOf_116 (by decide) ?_
    refine mv_bipush (v := nI 114) dX12_clauseOf_118 (by decide) ?_
    refine mv_cS4 dX12_clauseOf_120 lk_X12_clauseOf_164 (Nat.le_of_ble_eq_true rfl) (Nat.le_of_ble_eq_true rfl) (k_X12_code (ev := ev) (by decide) (by decide) (by decide) (by decide)) ?_
    refine mv_topL (y := lN 279252) (congrArg lN (by rfl)) ?_
    refine mv_lcmp dX12_clauseOf_123 ?_
    refine mv_if_ne (tgt := 131) dX12_clauseOf_124 (by decide) (fun c124 => ?_) (fun c124 => ?_)
    · have c124 : ¬ (q_kw4 tx s e) := fun q => c124 ((lg_cmp_eq _ _).mpr ((lN_eqB (by omega) (by omega)).mpr (hw.trans (i4.mpr q))))
      refine mv_aload_n dX12_clauseOf_131 rfl ?_
      refine mv_getf (ci := 12) (f := 5) dX12_clauseOf_132 HX rfl (by decide) wd_1204 rfl ?_
      refine mv_bipush (v := nI 109) dX12_clauseOf_135 (by decide) ?_
      refine mv_bipush (v := nI 111) dX12_clauseOf_137 (by decide) ?_
      refine mv_bipush (v := nI 111) dX12_clauseOf_139 (by decide) ?_
      refine mv_bipush (v := nI 110) dX12_clauseOf_141 (by decide) ?_
      refine mv_cS4 dX12_clauseOf_143 lk_X12_clauseOf_164 (Nat.le_of_ble_eq_true rfl) (Nat.le_of_ble_eq_true rfl) (k_X12_code (ev := ev) (by decide) (by decide) (by decide) (by decide)) ?_
      refine mv_topL (y := lN 267233) (congrArg lN (by rfl)) ?_
      refine mv_lcmp dX12_clauseOf_146 ?_
      refine mv_if_ne (tgt := 154) dX12_clauseOf_147 (by decide) (fun c147 => ?_) (fun c147 => ?_)
      · have c147 : ¬ (q_kw5 tx s e) := fun q => c147 ((lg_cmp_eq _ _).mpr ((lN_eqB (by omega) (by omega)).mpr (hw.trans (i5.mpr q))))
        refine mv_aload_n dX12_clauseOf_154 rfl ?_
        refine mv_getf (ci := 12) (f := 5) dX12_clauseOf_155 HX rfl (by decide) wd_1204 rfl ?_
        refine mv_bipush (v := nI 114) dX12_clauseOf_158 (by decide) ?_
        refine mv_bipush (v := nI 97) dX12_clauseOf_160 (by decide) ?_
        refine mv_bipush (v := nI 105) dX12_clauseOf_162 (by decide) ?_
        refine mv_bipush (v := nI 110) dX12_clauseOf_164 (by decide) ?_
        refine mv_cS4 dX12_clauseOf_166 lk_X12_clauseOf_164 (Nat.le_of_ble_eq_true rfl) (Nat.le_of_ble_eq_true rfl) (k_X12_code (ev := ev) (by decide) (by decide) (by decide) (by decide)) ?_
        refine mv_topL (y := lN 355280) (congrArg lN (by rfl)) ?_
        refine mv_lcmp dX12_clauseOf_169 ?_
        refine mv_if_ne (tgt := 178) dX12_clauseOf_170 (by decide) (fun c170 => ?_) (fun c170 => ?_)
        · have c170 : ¬ (q_kw6 tx s e) := fun q => c170 ((lg_cmp_eq _ _).mpr ((lN_eqB (by omega) (by omega)).mpr (hw.trans (i6.mpr q))))
          refine mv_iconst (v := (-1)) dX12_clauseOf_178 (by decide) ?_
          refine mv_istore dX12_clauseOf_179 (by decide) ?_
          refine mv_iload_n dX12_clauseOf_181 rfl ?_
          refine mv_if_lt (tgt := 189) dX12_clauseOf_182 (by decide) (fun z => absurd z ((by decide))) (fun c182 => ?_)
          refine mv_iload_n dX12_clauseOf_185 rfl ?_
          refine mv_goto (tgt := 191) dX12_clauseOf_186 (by decide) ?_
          exact mv_iret dX12_clauseOf_191 rfl rfl ⟨(congrArg (fun z => some (Value.int z)) (Eq.symm (by unfold q_crx; rw [if_pos c40]))), rfl⟩
        · have c170 : q_kw6 tx s e := i6.mp (hw.symm.trans ((lN_eqB (by omega) (by omega)).mp ((lg_cmp_eq _ _).mp c170)))
          refine mv_bipush (v := nI 7) dX12_clauseOf_173 (by decide) ?_
          refine mv_goto (tgt := 179) dX12_clauseOf_175 (by decide) ?_
          refine mv_istore dX12_clauseOf_179 (by decide) ?_
          refine mv_iload_n dX12_clauseOf_181 rfl ?_
          refine mv_if_lt (tgt := 189) dX12_clauseOf_182 (by decide) (fun z => absurd z ((by decide))) (fun c182 => ?_)
          refine mv_iload_n dX12_clauseOf_185 rfl ?_
          refine mv_goto (tgt := 191) dX12_clauseOf_186 (by decide) ?_
          exact mv_iret dX12_clauseOf_191 rfl rfl ⟨(congrArg (fun z => some (Value.int z)) (Eq.symm (by unfold q_crx; rw [if_pos c40]))), rfl⟩
      · have c147 : q_kw5 tx s e := i5.mp (hw.symm.trans ((lN_eqB (by omega) (by omega)).mp ((lg_cmp_eq _ _).mp c147)))
        refine mv_iconst (v := nI 5) dX12_clauseOf_150 (by decide) ?_
        refine mv_goto (tgt := 179) dX12_clauseOf_151 (by decide) ?_
        refine mv_istore dX12_clauseOf_179 (by decide) ?_
        refine mv_iload_n dX12_clauseOf_181 rfl ?_
        refine mv_if_lt (tgt := 189) dX12_clauseOf_182 (by decide) (fun z => absurd z ((by decide))) (fun c182 => ?_)
        refine mv_iload_n dX12_clauseOf_185 rfl ?_
        refine mv_goto (tgt := 191) dX12_clauseOf_186 (by decide) ?_
        exact mv_iret dX12_clauseOf_191 rfl rfl ⟨(congrArg (fun z => some (Value.int z)) (Eq.symm (by unfold q_crx; rw [if_pos c40]))), rfl⟩
    · have c124 : q_kw4 tx s e := i4.mp (hw.symm.trans ((lN_eqB (by omega) (by omega)).mp ((lg_cmp_eq _ _).mp c124)))
      refine mv_iconst (v := nI 4) dX12_clauseOf_127 (by decide) ?_
      refine mv_goto (tgt := 179) dX12_clauseOf_128 (by decide) ?_
      refine mv_istore dX12_clauseOf_179 (by decide) ?_
      refine mv_iload_n dX12_clauseOf_181 rfl ?_
      refine mv_if_lt (tgt := 189) dX12_clauseOf_182 (by decide) (fun z => absurd z ((by decide))) (fun c182 => ?_)
      refine mv_iload_n dX12_clauseOf_185 rfl ?_
      refine mv_goto (tgt := 191) dX12_clauseOf_186 (by decide) ?_
      exact mv_iret dX12_clauseOf_191 rfl rfl ⟨(congrArg (fun z => some (Value.int z)) (Eq.symm (by unfold q_crx; rw [if_pos c40]))), rfl⟩
