def q_1c (x m y n : Nat) : Nat → Nat
  | 0 => 0
  | k + 1 => q_1c x m y n k + (if t_ab x k ≤ m ∧ t_ab y k ≤ n then 1 else 0)
theorem q_1c_s (x m y n k : Nat) : q_1c x m y n (k + 1) = q_1c x m y n k + (if t_ab x k ≤ m ∧ t_ab y k ≤ n then 1 else 0) := rfl
theorem q_1c_8 : ∀ x, x < 8 → ∀ m, m < 8 → ∀ y, y < 8 → ∀ n, n < 8 → q_1c x m y n 8 = t_shl x m y n := by decide +kernel
theorem q_1c_lo : ∀ x, x < 8 → ∀ m, m < 8 → ∀ r, r < 9 → x - m ≤ r → r ≤ min 7 (x + m) + 1 → q_1c x m x m r = r - (x - m) := by decide +kernel
theorem q_far_i {p r c m : Nat} (hc : c < 8) : t_far p (8 * r + c) ≤ m ↔ t_ab (p / 8) r ≤ m ∧ t_ab (p % 8) c ≤ m := by
  unfold t_far
  rw [show (8 * r + c) / 8 = r by omega, show (8 * r + c) % 8 = c by omega]
  omega
theorem q_bN_r (p m q n r : Nat) (c : Nat) : c ≤ 8 → t_bN p m q n (8 * r + c) = t_bN p m q n (8 * r) + (if t_ab (p / 8) r ≤ m ∧ t_ab (q / 8) r ≤ n then q_1c (p % 8) m (q % 8) n c else 0) := by
  induction c with
  | zero =>
    intro _
    have e : q_1c (p % 8) m (q % 8) n 0 = 0 := rfl
    rw [e]
    split <;> rfl
  | succ c ih =>
    intro hc
    have hc8 : c < 8 := by omega
    have i1 : t_far p (8 * r + c) ≤ m ↔ t_ab (p / 8) r ≤ m ∧ t_ab (p % 8) c ≤ m := q_far_i hc8
    have i2 : t_far q (8 * r + c) ≤ n ↔ t_ab (q / 8) r ≤ n ∧ t_ab (q % 8) c ≤ n := q_far_i hc8
    rw [← Nat.add_assoc, t_bN_s, ih (by omega), q_1c_s]
    by_cases h1 : t_ab (p / 8) r ≤ m ∧ t_ab (q / 8) r ≤ n
    · rw [if_pos h1, if_pos h1]
      by_cases h2 : t_ab (p % 8) c ≤ m ∧ t_ab (q % 8) c ≤ n
      · rw [if_pos h2, if_pos ⟨i1.mpr ⟨h1.1, h2.1⟩, i2.mpr ⟨h1.2, h2.2⟩⟩]
        omega
      · rw [if_neg h2, if_neg (fun z => h2 ⟨(i1.mp z.1).2, (i2.mp z.2).2⟩)]
        omega
    · rw [if_neg h1, if_neg h1, if_neg (fun z => h1 ⟨(i1.mp z.1).1, (i2.mp z.2).1⟩)]
theorem q_bN_8 (p m q n r : Nat) : t_bN p m q n (8 * r) = q_1c (p / 8) m (q / 8) n r * q_1c (p % 8) m (q % 8) n 8 := by
  induction r with
  | zero =>
    have e : q_1c (p / 8) m (q / 8) n 0 = 0 := rfl
    have e2 : t_bN p m q n (8 * 0) = 0 := rfl
    rw [e, e2, Nat.zero_mul]
  | succ r ih =>
    rw [show 8 * (r + 1) = 8 * r + 8 by omega, q_bN_r p m q n r 8 (Nat.le_refl _), ih, q_1c_s (p / 8) m (q / 8) n r]
    by_cases h1 : t_ab (p / 8) r ≤ m ∧ t_ab (q / 8) r ≤ n
    · rw [if_pos h1, if_pos h1, Nat.add_mul, Nat.one_mul]
    · rw [if_neg h1, if_neg h1, Nat.add_zero, Nat.add_zero]
theorem q_bN (p m q n : Nat) (hp : p < 64) (hm : m < 8) (hq : q < 64) (hn : n < 8) : t_bN p m q n 64 = t_nearB p m q n := by
  have h := q_bN_8 p m q n 8
  have e1 := q_1c_8 (p / 8) (by omega) m hm (q / 8) (by omega) n hn
  have e2 := q_1c_8 (p % 8) (by omega) m hm (q % 8) (by omega) n hn
  rw [e1, e2] at h
  exact h
theorem q_cb_N (p m k : Nat) : t_cN p m k = t_bN p m p m k := by
  induction k with
  | zero => rfl
  | succ k ih =>
    rw [t_cN_s, t_bN_s, ih]
    by_cases h : t_far p k ≤ m
    · rw [if_pos h, if_pos ⟨h, h⟩]
    · rw [if_neg h, if_neg (fun z => h z.1)]
theorem q_cN (p m : Nat) (hp : p < 64) (hm : m < 8) : t_cN p m 64 = t_near p m := by
  rw [q_cb_N, q_bN p m p m hp hm hp hm]
  rfl
theorem t_ab_sym (a b : Nat) : t_ab a b = t_ab b a := by
  unfold t_ab
  split <;> split <;> omega
theorem t_far_sym (p q : Nat) : t_far p q = t_far q p := by
  unfold t_far
  rw [t_ab_sym, t_ab_sym (p % 8)]
theorem t_nearB_sym (p m q n : Nat) : t_nearB p m q n = t_nearB q n p m := by
  unfold t_nearB
  have h : ∀ x y, t_shl x m y n = t_shl y n x m := by
    intro x y
    unfold t_shl
    omega
  rw [h, h (p % 8)]
theorem t_ab_le {x y n : Nat} (h1 : x - n ≤ y) (h2 : y ≤ x + n) : t_ab x y ≤ n := by
  unfold t_ab
  split <;> omega
/-- the i-th near place is near, and i near ones are before it -/
theorem q_plc {q n i : Nat} (hq : q < 64) (hn : n < 8) (hi : i < t_near q n) : t_far q (t_plc q n i) ≤ n ∧ t_cN q n (t_plc q n i) = i := by
  have w1 : t_shl (q % 8) n (q % 8) n = min 7 (q % 8 + n) + 1 - (q % 8 - n) := by unfold t_shl; omega
  have w2 : t_shl (q / 8) n (q / 8) n = min 7 (q / 8 + n) + 1 - (q / 8 - n) := by unfold t_shl; omega
  have w3 : 0 < t_shl (q % 8) n (q % 8) n := by omega
  have w4 : i / t_shl (q % 8) n (q % 8) n < t_shl (q / 8) n (q / 8) n := Nat.div_lt_of_lt_mul (by rw [Nat.mul_comm]; exact hi)
  have w5 : i % t_shl (q % 8) n (q % 8) n < t_shl (q % 8) n (q % 8) n := Nat.mod_lt _ w3
  have w6 := Nat.div_add_mod i (t_shl (q % 8) n (q % 8) n)
  obtain ⟨w, ew⟩ : ∃ w, w = t_shl (q % 8) n (q % 8) n := ⟨_, rfl⟩
  rw [← ew] at w1 w3 w4 w5 w6
  have ep0 : t_plc q n i = (q / 8 - n + i / w) * 8 + (q % 8 - n) + i % w := by
    unfold t_plc
    rw [← ew]
  obtain ⟨x1, ex1⟩ : ∃ x, x = i / w := ⟨_, rfl⟩
  obtain ⟨x2, ex2⟩ : ∃ x, x = i % w := ⟨_, rfl⟩
  rw [← ex1] at w4 w6 ep0
  rw [← ex2] at w5 w6 ep0
  rw [w2] at w4
  clear w2 ex1 ex2
  obtain ⟨r, er⟩ : ∃ r, r = q / 8 - n + x1 := ⟨_, rfl⟩
  obtain ⟨c, ec⟩ : ∃ c, c = q % 8 - n + x2 := ⟨_, rfl⟩
  have ep : t_plc q n i = 8 * r + c := by
    rw [ep0, er, ec]
    omega
  have hc : c < 8 := by omega
  have a1 : t_ab (q / 8) r ≤ n := t_ab_le (by omega) (by omega)
  have a2 : t_ab (q % 8) c ≤ n := t_ab_le (by omega) (by omega)
  rw [ep]
  refine ⟨(q_far_i hc).mpr ⟨a1, a2⟩, ?_⟩
  rw [q_cb_N, q_bN_r q n q n r c (by omega), q_bN_8, if_pos ⟨a1, a1⟩]
  have e1 := q_1c_lo (q / 8) (by omega) n hn r (by omega) (by omega) (by omega)
  have e2 := q_1c_8 (q % 8) (by omega) n hn (q % 8) (by omega) n hn
  have e3 := q_1c_lo (q % 8) (by omega) n hn c (by omega) (by omega) (by omega)
  rw [e1, e2, e3, ← ew, er, ec, Nat.add_sub_cancel_left, Nat.add_sub_cancel_left, Nat.mul_comm]
  exact w6
theorem q_cN_up {q n x : Nat} (h : t_far q x ≤ n) : ∀ y, x < y → t_cN q n x < t_cN q n y := by
  intro y
  induction y with
  | zero => intro z; exact absurd z (Nat.not_lt_zero _)
  | succ y ih =>
    intro hy
    rw [t_cN_s]
    by_cases e : x = y
    · rw [← e, if_pos h]
      omega
    · have := ih (by omega)
      omega
/-- and it is the only one -/
theorem q_plc_1 {q n i x : Nat} (hq : q < 64) (hn : n < 8) (hi : i < t_near q n) (h : t_far q x ≤ n) (hx : t_cN q n x = i) : x = t_plc q n i := by
  obtain ⟨h1, h2⟩ := q_plc hq hn hi
  by_cases c : x < t_plc q n i
  · have := q_cN_up h _ c
    omega
  · by_cases c2 : t_plc q n i < x
    · have := q_cN_up h1 _ c2
      omega
    · omega
