/-! plain facts of ints and longs -/
theorem mv_tn {x : Int32} {n : Nat} (h : ¬ x = nI n) (hn : n < 2 ^ 31) : x.toInt ≠ (n : Int) := by
  intro z
  exact h (Int32.toInt_inj.mp (by rw [nI_toInt hn]; exact z))
theorem mv_dec (a c : Nat) (h : c ≤ a) : nI a + Int32.ofInt (-(c : Int)) = nI (a - c) := by
  have h1 : Int32.ofInt (-(c : Int)) = -nI c := by
    rw [Int32.ofInt_neg]
    rfl
  rw [h1, ← Int32.sub_eq_add_neg]
  exact pk_sub h
theorem mv_nmax {a b : Nat} (ha : a < 2 ^ 31) (hb : b < 2 ^ 31) : (if nI a < nI b then nI b else nI a) = nI (max a b) := by
  by_cases h : a < b
  · rw [if_pos ((nI_ltI ha hb).mpr h), Nat.max_eq_right (by omega)]
  · rw [if_neg (fun z => h ((nI_ltI ha hb).mp z)), Nat.max_eq_left (by omega)]
theorem mv_nmin {a b : Nat} (ha : a < 2 ^ 31) (hb : b < 2 ^ 31) : (if nI b < nI a then nI b else nI a) = nI (min a b) := by
  by_cases h : b < a
  · rw [if_pos ((nI_ltI hb ha).mpr h), Nat.min_eq_right (by omega)]
  · rw [if_neg (fun z => h ((nI_ltI hb ha).mp z)), Nat.min_eq_left (by omega)]
theorem lN_toI {n : Nat} (h : n < 2 ^ 63) : (lN n).toInt = (n : Int) := lg_ofNat_toInt h
theorem lN_div {a d : Nat} (ha : a < 2 ^ 62) (h0 : 0 < d) (hd : d < 2 ^ 62) : lN a / lN d = lN (a / d) := by
  apply Int64.toInt_inj.mp
  rw [lg_ldiv_nonneg (by rw [lN_toI (by omega)]; omega) (by rw [lN_toI (by omega)]; omega), lN_toI (by omega), lN_toI (by omega), lN_toI (by have := Nat.div_le_self a d; omega)]
  first | rfl | exact (Int.natCast_ediv _ _).symm
theorem lN_rem {a d : Nat} (ha : a < 2 ^ 62) (h0 : 0 < d) (hd : d < 2 ^ 62) : lN a - lN a / lN d * lN d = lN (a % d) := by
  rw [lN_div ha h0 hd, lN_mul, lN_sub (Nat.div_mul_le_self a d)]
  exact congrArg lN (by have := Nat.div_add_mod' a d; omega)
theorem lN_leB {a b : Nat} (ha : a < 2 ^ 62) (hb : b < 2 ^ 62) : lN a ≤ lN b ↔ a ≤ b := by
  rw [Int64.le_iff_toInt_le, lN_toI (by omega), lN_toI (by omega)]; omega
theorem lN_ltB {a b : Nat} (ha : a < 2 ^ 62) (hb : b < 2 ^ 62) : lN a < lN b ↔ a < b := by
  rw [Int64.lt_iff_toInt_lt, lN_toI (by omega), lN_toI (by omega)]; omega
theorem lN_eqB {a b : Nat} (ha : a < 2 ^ 62) (hb : b < 2 ^ 62) : lN a = lN b ↔ a = b := by
  rw [← Int64.toInt_inj, lN_toI (by omega), lN_toI (by omega)]; omega
/-- an int between two bounds -/
def mv_in (lo hi x : Int32) : Prop := lo ≤ x ∧ x ≤ hi
theorem mv_in_n {lo hi : Nat} {x : Int32} (hh : hi < 2 ^ 31) (h : nI lo ≤ x ∧ x ≤ nI hi) (hl : lo ≤ hi) : ∃ j : Nat, lo ≤ j ∧ j ≤ hi ∧ x = nI j := by
  have h1 : ¬ x < 0 := by
    rw [Int32.lt_iff_toInt_lt, show (0 : Int32).toInt = 0 from by decide]
    have h2 := h.1
    rw [Int32.le_iff_toInt_le, nI_toInt (by omega)] at h2
    omega
  obtain ⟨j, hj, rfl⟩ := nI_of h1
  exact ⟨j, (nI_leI (by omega) hj).mp h.1, (nI_leI hj hh).mp h.2, rfl⟩
theorem mv_in_i {lo hi j : Nat} (h1 : lo ≤ j) (h2 : j ≤ hi) (hh : hi < 2 ^ 31) : nI lo ≤ nI j ∧ nI j ≤ nI hi := ⟨(nI_leI (by omega) (by omega)).mpr h1, (nI_leI (by omega) hh).mpr h2⟩
theorem mv_l_le (a b : Int32) : a.toInt64 ≤ b.toInt64 ↔ a ≤ b := by
  rw [Int64.le_iff_toInt_le, Int32.toInt_toInt64, Int32.toInt_toInt64, Int32.le_iff_toInt_le]
/-- how far two places are, how many places are near -/
def t_ab (a b : Nat) : Nat := if a < b then b - a else a - b
def t_far (p q : Nat) : Nat := max (t_ab (p / 8) (q / 8)) (t_ab (p % 8) (q % 8))
def t_shl (x m y n : Nat) : Nat := min 7 (min (x + m) (y + n)) + 1 - max (x - m) (y - n)
def t_cells (p m : Nat) : Nat := ((List.range 64).filter (fun q => decide (t_far p q ≤ m))).length
def t_both (p m q n : Nat) : Nat := ((List.range 64).filter (fun k => decide (t_far p k ≤ m) && decide (t_far q k ≤ n))).length
theorem mv_absP {a b : Nat} (ha : a < 2 ^ 30) (hb : b < 2 ^ 30) (h : 0 ≤ nI a - nI b) : nI a - nI b = nI (t_ab a b) := by
  rw [Int32.le_iff_toInt_le, pk_sub_toInt ha hb, show (0 : Int32).toInt = 0 from by decide] at h
  have : b ≤ a := by omega
  rw [pk_sub this]
  unfold t_ab
  rw [if_neg (by omega)]
theorem mv_absN {a b : Nat} (ha : a < 2 ^ 30) (hb : b < 2 ^ 30) (h : ¬ 0 ≤ nI a - nI b) : -(nI a - nI b) = nI (t_ab a b) := by
  rw [Int32.le_iff_toInt_le, pk_sub_toInt ha hb, show (0 : Int32).toInt = 0 from by decide] at h
  have h1 : a < b := by omega
  unfold t_ab
  rw [if_pos h1, Int32.neg_sub, pk_sub (by omega)]
theorem mv_abs0 {a b : Nat} (ha : a < 2 ^ 30) (hb : b < 2 ^ 30) : (if 0 ≤ nI a - nI b then nI a - nI b else 0 - (nI a - nI b)) = nI (t_ab a b) := by
  by_cases h : 0 ≤ nI a - nI b
  · rw [if_pos h]; exact mv_absP ha hb h
  · rw [if_neg h, Int32.zero_sub]; exact mv_absN ha hb h
theorem t_ab_lt {a b n : Nat} (ha : a < n) (hb : b < n) : t_ab a b < n := by
  unfold t_ab
  split <;> omega
theorem t_far_lt {p q : Nat} (hp : p < 64) (hq : q < 64) : t_far p q < 8 := by
  unfold t_far
  have h1 := t_ab_lt (a := p / 8) (b := q / 8) (n := 8) (by omega) (by omega)
  have h2 := t_ab_lt (a := p % 8) (b := q % 8) (n := 8) (by omega) (by omega)
  exact Nat.max_lt.mpr ⟨h1, h2⟩
