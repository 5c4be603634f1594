def mv_c (ad : Nat → Nat) (cy : Nat → ClassId) : va_E → va_E
  | .inl (t, x) => .inl (cy t, x)
  | .inr (c, fs) => .inr (c, fs.map (mv_v ad))
def mv_w (ad : Nat → Nat) (cy : Nat → ClassId) (h : mv_H) : va_W := h.mapIdx (fun i e => (ad i, mv_c ad cy e))
theorem mv_w_get (ad : Nat → Nat) (cy : Nat → ClassId) (h : mv_H) (i : Nat) : (mv_w ad cy h)[i]? = (h[i]?).map (fun e => (ad i, mv_c ad cy e)) := by
  simp [mv_w, List.getElem?_mapIdx]
theorem mv_w_getO {ad : Nat → Nat} {cy : Nat → ClassId} {h : mv_H} {a ci : Nat} {fs : List Value} (hh : h[a]? = some (.inr (ci, fs))) : (mv_w ad cy h)[a]? = some (ad a, .inr (ci, fs.map (mv_v ad))) := by
  rw [mv_w_get, hh]; rfl
theorem mv_w_getA {ad : Nat → Nat} {cy : Nat → ClassId} {h : mv_H} {a t : Nat} {x : vp_A} (hh : h[a]? = some (.inl (t, x))) : (mv_w ad cy h)[a]? = some (ad a, .inl (cy t, x)) := by
  rw [mv_w_get, hh]; rfl
theorem mv_w_set (ad : Nat → Nat) (cy : Nat → ClassId) (h : mv_H) (a : Nat) (e : va_E) : mv_w ad cy (h.set a e) = (mv_w ad cy h).set a (ad a, mv_c ad cy e) := by
  apply List.ext_getElem?
  intro i
  rw [mv_w_get, List.getElem?_set, List.getElem?_set, mv_w_get]
  have hl : (mv_w ad cy h).length = h.length := by simp [mv_w]
  by_cases hi : a = i
  · subst hi
    rw [if_pos rfl, if_pos rfl, hl]
    by_cases hk : a < h.length
    · rw [if_pos hk, if_pos hk]; rfl
    · rw [if_neg hk, if_neg hk]; rfl
  · rw [if_neg hi, if_neg hi]
theorem mv_w_app (ad : Nat → Nat) (cy : Nat → ClassId) (h : mv_H) (e : va_E) : mv_w ad cy (h ++ [e]) = mv_w ad cy h ++ [(ad h.length, mv_c ad cy e)] := by
  simp [mv_w, List.mapIdx_append]
theorem mv_w_setO {D : va_G} {ad : Nat → Nat} {cy : Nat → ClassId} {h : mv_H} {a ci f : Nat} {fs : List Value} {v : Value} {H : Heap} (hP : va_P D vwCl ((mv_w ad cy h).set a (ad a, .inr (ci, (fs.map (mv_v ad)).set f (mv_v ad v)))) H) : va_P D vwCl (mv_w ad cy (h.set a (.inr (ci, fs.set f v)))) H := by
  rw [mv_w_set]
  show va_P D vwCl ((mv_w ad cy h).set a (ad a, .inr (ci, (fs.set f v).map (mv_v ad)))) H
  rw [List.map_set]
  exact hP
theorem mv_w_setOD {A : Nat → Prop} {ad : Nat → Nat} {cy : Nat → ClassId} {h : mv_H} {a ci f : Nat} {fs : List Value} {v : Value} (hP : va_D A ((mv_w ad cy h).set a (ad a, .inr (ci, (fs.map (mv_v ad)).set f (mv_v ad v))))) : va_D A (mv_w ad cy (h.set a (.inr (ci, fs.set f v)))) := by
  rw [mv_w_set]
  show va_D A ((mv_w ad cy h).set a (ad a, .inr (ci, (fs.set f v).map (mv_v ad))))
  rw [List.map_set]
  exact hP
theorem mv_w_setA {D : va_G} {ad : Nat → Nat} {cy : Nat → ClassId} {h : mv_H} {a t : Nat} {x : vp_A} {H : Heap} (hP : va_P D vwCl ((mv_w ad cy h).set a (ad a, .inl (cy t, x))) H) : va_P D vwCl (mv_w ad cy (h.set a (.inl (t, x)))) H := by
  rw [mv_w_set]; exact hP
theorem mv_w_setAD {A : Nat → Prop} {ad : Nat → Nat} {cy : Nat → ClassId} {h : mv_H} {a t : Nat} {x : vp_A} (hP : va_D A ((mv_w ad cy h).set a (ad a, .inl (cy t, x)))) : va_D A (mv_w ad cy (h.set a (.inl (t, x)))) := by
  rw [mv_w_set]; exact hP
theorem mv_map_get {ad : Nat → Nat} {fs : List Value} {f : Nat} {v : Value} (h : fs[f]? = some v) : (fs.map (mv_v ad))[f]? = some (mv_v ad v) := by
  rw [List.getElem?_map, h]; rfl
def mv_tys (cy : Nat → ClassId) : List (ClassId × FieldType) := [(cy 0, .int), (cy 1, .long), (cy 2, .boolean)]
theorem mv_tys_get (cy : Nat → ClassId) {t : Nat} (h : t < 3) : ∃ ty : FieldType, (mv_tys cy)[t]? = some (cy t, ty) := by
  match t, h with
  | 0, _ => exact ⟨_, rfl⟩
  | 1, _ => exact ⟨_, rfl⟩
  | 2, _ => exact ⟨_, rfl⟩
theorem mv_cA0 {D : va_G} {cl : List vw_C} {cy : Nat → ClassId} {s : State} {cA : ClassId} (hK : va_K D cl (mv_tys cy) s) (hK1 : va_K D cl (mv_tys cy ++ [(cA, .int)]) s) : cA = cy 0 := by
  have h1 := va_nm_int (hK1.2 3 _ rfl).2
  have h2 := va_nm_int (hK.2 0 _ rfl).2
  exact Option.some.inj (h1.symm.trans h2)
theorem mv_cA1 {D : va_G} {cl : List vw_C} {cy : Nat → ClassId} {s : State} {cA : ClassId} (hK : va_K D cl (mv_tys cy) s) (hK1 : va_K D cl (mv_tys cy ++ [(cA, .long)]) s) : cA = cy 1 := by
  have h1 := va_nm_long (hK1.2 3 _ rfl).2
  have h2 := va_nm_long (hK.2 1 _ rfl).2
  exact Option.some.inj (h1.symm.trans h2)
theorem mv_cA2 {D : va_G} {cl : List vw_C} {cy : Nat → ClassId} {s : State} {cA : ClassId} (hK : va_K D cl (mv_tys cy) s) (hK1 : va_K D cl (mv_tys cy ++ [(cA, .boolean)]) s) : cA = cy 2 := by
  have h1 := va_nm_boolean (hK1.2 3 _ rfl).2
  have h2 := va_nm_boolean (hK.2 2 _ rfl).2
  exact Option.some.inj (h1.symm.trans h2)
/-- what the tables say of the classes -/
theorem mv_cl {ci : Nat} {C : String} {T : u_T} {N : Nat} (hc : vwCl[ci]? = some (C, T, N)) : (∀ w ∈ u_ws C T N, w ∈ mv_B) ∧ (∃ ty0 : Nat → FieldType, ∀ k, k < N → parseFieldDescriptor (T k).2.2.1 = some (ty0 k)) ∧ (∀ a, a < N → ∀ b, b < N → a ≠ b → (T a).2.1 ≠ (T b).2.1) := by
  match ci, hc with
  | 0, hc => cases hc; exact ⟨inB_X0, ⟨_, tyX0_ok⟩, nmX0⟩
  | 1, hc => cases hc; exact ⟨inB_X1, ⟨_, tyX1_ok⟩, nmX1⟩
  | 2, hc => cases hc; exact ⟨inB_X2, ⟨_, tyX2_ok⟩, nmX2⟩
  | 3, hc => cases hc; exact ⟨inB_X3, ⟨_, tyX3_ok⟩, nmX3⟩
  | 4, hc => cases hc; exact ⟨inB_X4, ⟨_, tyX4_ok⟩, nmX4⟩
  | 5, hc => cases hc; exact ⟨inB_X5, ⟨_, tyX5_ok⟩, nmX5⟩
  | 6, hc => cases hc; exact ⟨inB_X6, ⟨_, tyX6_ok⟩, nmX6⟩
  | 7, hc => cases hc; exact ⟨inB_X7, ⟨_, tyX7_ok⟩, nmX7⟩
  | 8, hc => cases hc; exact ⟨inB_X8, ⟨_, tyX8_ok⟩, nmX8⟩
  | 9, hc => cases hc; exact ⟨inB_X9, ⟨_, tyX9_ok⟩, nmX9⟩
  | 10, hc => cases hc; exact ⟨inB_X10, ⟨_, tyX10_ok⟩, nmX10⟩
  | 11, hc => cases hc; exact ⟨inB_X11, ⟨_, tyX11_ok⟩, nmX11⟩
  | 12, hc => cases hc; exact ⟨inB_X12, ⟨_, tyX12_ok⟩, nmX12⟩
  | n + 13, hc => simp [vwCl] at hc
/-! locals -/
def mv_L (ad : Nat → Nat) (ls : Array Slot) (n : Nat) (lv : List Value) : Prop := ls.size = n ∧ lv_wf ls ∧ ∀ (i : Nat) (v : Value), lv[i]? = some v → v ≠ .null → ls[i]? = some (.val (mv_v ad v))
theorem mv_L.get {ad : Nat → Nat} {ls : Array Slot} {n : Nat} {lv : List Value} (h : mv_L ad ls n lv) {i : Nat} {v : Value} (hl : lv[i]? = some v) (hv : v ≠ .null) : ls[i]? = some (.val (mv_v ad v)) := h.2.2 i v hl hv
def mv_pr (ad : Nat → Nat) (lv : List Value) (i : Nat) : Option (Nat × Value) := match lv[i]? with
  | some v => if v = .null then none else some (i, mv_v ad v)
  | none => none
def mv_prs (ad : Nat → Nat) (lv : List Value) : List (Nat × Value) := (List.range lv.length).filterMap (mv_pr ad lv)
theorem mv_prs_mem {ad : Nat → Nat} {lv : List Value} {i : Nat} {v : Value} (hl : lv[i]? = some v) (hv : v ≠ .null) : (i, mv_v ad v) ∈ mv_prs ad lv := by
  refine List.mem_filterMap.mpr ⟨i, List.mem_range.mpr (List.getElem?_eq_some_iff.mp hl).1, ?_⟩
  simp [mv_pr, hl, hv]
theorem mv_L.has {ad : Nat → Nat} {ls : Array Slot} {n : Nat} {lv : List Value} (h : mv_L ad ls n lv) : lv_has ls n (mv_prs ad lv) := by
  refine ⟨h.1, h.2.1, fun q hq => ?_⟩
  obtain ⟨i, -, hi⟩ := List.mem_filterMap.mp hq
  unfold mv_pr at hi
  split at hi
  · rename_i v hv
    by_cases hz : v = .null
    · rw [if_pos hz] at hi; cases hi
    · rw [if_neg hz] at hi; cases hi; exact h.2.2 i v hv hz
  · cases hi
theorem mv_L.place {ad : Nat → Nat} {ls : Array Slot} {n : Nat} {lv : List Value} (_ : mv_L ad ls n lv) {i : Nat} {v : Value} (hl : lv[i]? = some v) (hv : v ≠ .null) : ∃ q : Nat, (mv_prs ad lv)[q]? = some (i, mv_v ad v) := List.getElem?_of_mem (mv_prs_mem hl hv)
theorem mv_set_get {lv : List Value} {i j : Nat} {v w : Value} (h : (lv.set i v)[j]? = some w) : (j = i ∧ w = v) ∨ (j ≠ i ∧ lv[j]? = some w) := by
  rw [List.getElem?_set] at h
  by_cases hi : i = j
  · rw [if_pos hi] at h
    by_cases hk : i < lv.length
    · rw [if_pos hk] at h; cases h; exact Or.inl ⟨hi.symm, rfl⟩
    · rw [if_neg hk] at h; cases h
  · rw [if_neg hi] at h
    exact Or.inr ⟨fun e => hi e.symm, h⟩
theorem mv_set1_get {lv : List Value} {i j : Nat} {v w : Value} (h : (mv_set1 lv i v)[j]? = some w) (hw : w ≠ .null) : (j = i ∧ w = v) ∨ (j ≠ i ∧ lv[j]? = some w ∧ ¬ (j + 1 = i ∧ w.category = 2)) := by
  cases i with
  | zero =>
    rcases mv_set_get h with h | ⟨h1, h2⟩
    · exact Or.inl h
    · exact Or.inr ⟨h1, h2, fun q => by omega⟩
  | succ k =>
    have big : ∀ {x : Value}, lv[k]? = some x → ((lv.set k .null).set (k + 1) v)[j]? = some w → (j = k + 1 ∧ w = v) ∨ (j ≠ k + 1 ∧ lv[j]? = some w ∧ ¬ (j + 1 = k + 1 ∧ w.category = 2)) := by
      intro x hx h
      rcases mv_set_get h with h | ⟨h1, h2⟩
      · exact Or.inl h
      · rcases mv_set_get h2 with ⟨_, h3⟩ | ⟨h3, h4⟩
        · exact absurd h3 hw
        · exact Or.inr ⟨h1, h4, fun q => h3 (by omega)⟩
    simp only [mv_set1] at h
    split at h
    · rename_i x hx; exact big hx h
    · rename_i x hx; exact big hx h
    · rename_i n1 n2
      rcases mv_set_get h with h | ⟨h1, h2⟩
      · exact Or.inl h
      · refine Or.inr ⟨h1, h2, fun q => ?_⟩
        have hj : j = k := by omega
        subst hj
        cases w with
        | long x => exact n1 _ h2
        | double x => exact n2 _ h2
        | _ => exact absurd q.2 (by simp [Value.category])
theorem mv_L.put1 {ad : Nat → Nat} {ls ls' : Array Slot} {n i : Nat} {lv : List Value} {v : Value} (_ : mv_L ad ls n lv) (_ : v.category = 1) (hl : lv_has ls' n ((i, mv_v ad v) :: (mv_prs ad lv).filter (fun q => !(q.1 == i) && !(q.1 + 1 == i && q.2.category == 2)))) : mv_L ad ls' n (mv_set1 lv i v) := by
  refine ⟨hl.1, hl.2.1, fun j w hj hw => ?_⟩
  rcases mv_set1_get hj hw with ⟨rfl, rfl⟩ | ⟨h1, h2, h3⟩
  · exact hl.2.2 (j, mv_v ad w) List.mem_cons_self
  · refine hl.2.2 (j, mv_v ad w) (List.mem_cons_of_mem _ (List.mem_filter.mpr ⟨mv_prs_mem h2 hw, ?_⟩))
    have h4 : ¬ (j + 1 = i ∧ (mv_v ad w).category = 2) := by rw [mv_v_cat]; exact h3
    simp only [Bool.and_eq_true, Bool.not_eq_true', beq_eq_false_iff_ne, ne_eq, Bool.and_eq_false_iff]
    refine ⟨h1, ?_⟩
    by_cases h5 : j + 1 = i
    · exact Or.inr (fun h6 => h4 ⟨h5, h6⟩)
    · exact Or.inl h5
theorem mv_L.put2 {ad : Nat → Nat} {ls ls' : Array Slot} {n i : Nat} {lv : List Value} {v : Value} (_ : mv_L ad ls n lv) (_ : v.category = 2) (hl : lv_has ls' n ((i, mv_v ad v) :: (mv_prs ad lv).filter (fun q => !(q.1 == i) && (!(q.1 == i + 1) && !(q.1 + 1 == i && q.2.category == 2))))) : mv_L ad ls' n (mv_set2 lv i v) := by
  refine ⟨hl.1, hl.2.1, fun j w hj hw => ?_⟩
  rcases mv_set1_get hj hw with ⟨rfl, rfl⟩ | ⟨h1, h2, h3⟩
  · exact hl.2.2 (j, mv_v ad w) List.mem_cons_self
  · rcases mv_set_get h2 with ⟨-, h6⟩ | ⟨h6, h7⟩
    · exact absurd h6 hw
    · refine hl.2.2 (j, mv_v ad w) (List.mem_cons_of_mem _ (List.mem_filter.mpr ⟨mv_prs_mem h7 hw, ?_⟩))
      have h4 : ¬ (j + 1 = i ∧ (mv_v ad w).category = 2) := by rw [mv_v_cat]; exact h3
      simp only [Bool.and_eq_true, Bool.not_eq_true', beq_eq_false_iff_ne, ne_eq, Bool.and_eq_false_iff]
      refine ⟨h1, h6, ?_⟩
      by_cases h5 : j + 1 = i
      · exact Or.inr (fun h6 => h4 ⟨h5, h6⟩)
      · exact Or.inl h5
theorem mv_le_get : ∀ (l m : List Value), mv_le l m → ∀ (i : Nat) (v : Value), l[i]? = some v → v ≠ .null → m[i]? = some v
  | [], _, _, i, v, h, _ => by simp at h
  | a :: l, b :: m, hle, i, v, h, hv => by
    cases i with
    | zero =>
      simp only [List.getElem?_cons_zero] at h ⊢
      cases h
      rcases hle.1 with q | q
      · exact absurd q hv
      · rw [q]
    | succ i =>
      simp only [List.getElem?_cons_succ] at h ⊢
      exact mv_le_get l m hle.2 i v h hv
  | a :: l, [], hle, i, v, h, hv => by
    cases i with
    | zero =>
      simp only [List.getElem?_cons_zero] at h
      cases h
      exact absurd hle.1 hv
    | succ i =>
      simp only [List.getElem?_cons_succ] at h
      have := mv_le_get l [] hle.2 i v h hv
      simp at this
theorem mv_L.le {ad : Nat → Nat} {ls : Array Slot} {n : Nat} {lv lv' : List Value} (h : mv_L ad ls n lv) (hle : mv_le lv' lv) : mv_L ad ls n lv' := ⟨h.1, h.2.1, fun i v hi hv => h.2.2 i v (mv_le_get _ _ hle i v hi hv) hv⟩
theorem mv_flat_len (ad : Nat → Nat) : ∀ as : List Value, (lg_sl (as.map (mv_v ad))).length = (mv_flat as).length
  | [] => rfl
  | v :: l => by
    have e : ∀ (w : Value) (m : List Value), (lg_sl (w :: m)).length = (if w.category = 2 then 2 else 1) + (lg_sl m).length := by
      intro w m
      unfold lg_sl
      rw [List.flatMap_cons, List.length_append]
      split <;> rfl
    rw [List.map_cons, e, mv_flat_len ad l, mv_v_cat]
    cases v <;> simp [mv_flat, Value.category] <;> omega
theorem mv_flat_args (ad : Nat → Nat) : ∀ (as : List Value) (i0 i : Nat) (v : Value), (mv_flat as)[i]? = some v → v ≠ .null → (i0 + i, mv_v ad v) ∈ lv_args i0 (as.map (mv_v ad))
  | [], i0, i, v, h, _ => by simp [mv_flat] at h
  | a :: l, i0, i, v, h, hv => by
    have one : ∀ {b : Value}, ¬ b.category = 2 → (b :: mv_flat l)[i]? = some v → (i0 + i, mv_v ad v) ∈ (i0, mv_v ad b) :: lv_args (i0 + 1) (l.map (mv_v ad)) := by
      intro b hb h
      cases i with
      | zero => simp only [List.getElem?_cons_zero] at h; cases h; exact List.mem_cons_self
      | succ i =>
        simp only [List.getElem?_cons_succ] at h
        have := mv_flat_args ad l (i0 + 1) i v h hv
        exact List.mem_cons_of_mem _ (by rw [show i0 + (i + 1) = i0 + 1 + i by omega]; exact this)
    have two : ∀ {b : Value}, (b :: .null :: mv_flat l)[i]? = some v → (i0 + i, mv_v ad v) ∈ (i0, mv_v ad b) :: lv_args (i0 + 2) (l.map (mv_v ad)) := by
      intro b h
      cases i with
      | zero => simp only [List.getElem?_cons_zero] at h; cases h; exact List.mem_cons_self
      | succ i =>
        simp only [List.getElem?_cons_succ] at h
        cases i with
        | zero => simp only [List.getElem?_cons_zero] at h; cases h; exact absurd rfl hv
        | succ i =>
          simp only [List.getElem?_cons_succ] at h
          have := mv_flat_args ad l (i0 + 2) i v h hv
          exact List.mem_cons_of_mem _ (by rw [show i0 + (i + 1 + 1) = i0 + 2 + i by omega]; exact this)
    cases a <;> simp only [mv_flat] at h
    case long x => simpa [lv_args, mv_v, Value.category] using two h
    case double x => simpa [lv_args, mv_v, Value.category] using two h
    all_goals simpa [lv_args, mv_v, Value.category] using one (by simp [Value.category]) h
theorem mv_entry (ad : Nat → Nat) (as : List Value) {n : Nat} (h : (mv_flat as).length ≤ n) : mv_L ad ((lg_sl (as.map (mv_v ad)) ++ List.replicate (n - (lg_sl (as.map (mv_v ad))).length) Slot.unset).toArray) n (mv_ent as n) := by
  obtain ⟨h1, h2, h3⟩ := lv_entry (as.map (mv_v ad)) (n := n) (by rw [mv_flat_len]; exact h)
  refine ⟨h1, h2, fun i v hi hv => ?_⟩
  unfold mv_ent at hi
  by_cases hk : i < (mv_flat as).length
  · rw [List.getElem?_append_left hk] at hi
    have := mv_flat_args ad as 0 i v hi hv
    rw [Nat.zero_add] at this
    exact h3 _ this
  · rw [List.getElem?_append_right (by omega)] at hi
    exact absurd (List.eq_of_mem_replicate (List.mem_of_getElem? hi)) hv
