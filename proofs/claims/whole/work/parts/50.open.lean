def R_law : String := "ToadsBeforeLaw"
def lw_P (b : Addr) (xs : List Int32) (args : Array Value) (s : State) : Prop := args = #[.ref b] ∧ s.IntsAt b xs ∧ xs.length ≤ 4608 ∧ (Jvm.Cond.and given_1 narrow_1).before args s = true
def lw_Q (_ : Array Value) (s : State) (o : Outcome) (t : State) : Prop := o = .returned (some (.int 1)) ∧ Framed s o t [] 600000 7302250
def lw_Z (below : List Frame) (a : Array Value) (s : State) : State → Prop := fun t => ∃ o, t.status = .running ∧ Ended t below o ∧ lw_Q a s o t
/-- what holds at the law's entry: the machine, the code, the tables' words (any of lw_tbl by 'hts w (by decide +kernel)'), the script of L ints xs at the cell b, what the Statement gives of the start (any of its parts by flat_of_before) -/
def lw_At (p : Program) (s : State) (m : MethodId) (meth : Method) (c : Code) (b L : Nat) (xs : Nat → Int32) : Prop :=
  p.tables.exec = Jvm.exec ∧ c.code = code ∧ meth.sig.returnType = ret ∧ c.maxLocals = 4 ∧ s.vm.findClass R_law = some m.cls ∧ (∀ w ∈ lw_tbl, w.before #[Value.ref b] s = true) ∧ va_X b L xs s s.heap ∧ b < s.heap.size ∧ meth.locks = false ∧ (Jvm.Cond.and given_1 narrow_1).before #[Value.ref b] s = true
/-- the three static arrays have 8 places each ('their length is 8' speaks of the length as an int alone: of the number of places it says so much, and so many times 2^32 more) -/
def lw_sz (b : Nat) (s : State) : Prop := ∀ (n : String) (a : Nat) (cell : Cell), (n = "AT_FIRST" ∨ n = "LEAST" ∨ n = "MOST") → (Term.static "ToadsBefore" n "[I").eval #[Value.ref b] s none [] s = some (.ref a) → s.heap[a]? = some cell → cell.slots.size = 8
theorem lw_forget {s t : State} {Ls : List Loc} {k n k' n' : Nat} (h : s.sameButNew t Ls k n) (hf : ∀ q ∈ Ls, s.heap.size ≤ q.base) (hk : k ≤ k') (hn : n ≤ n') : s.sameButNew t [] k' n' := by
  obtain ⟨h1, h2, h3, h4, h5, h6⟩ := h
  refine ⟨h1, h2, Nat.le_trans h3 (Nat.add_le_add_left hk _), h4, Nat.le_trans h5 hn, fun a c hc => ?_⟩
  obtain ⟨c', g1, g2, g3, g4⟩ := h6 a c hc
  exact ⟨c', g1, g2, g3, fun i _ => g4 i (fun q => absurd (Array.getElem?_eq_some_iff.mp hc).1 (Nat.not_lt.mpr (hf _ q)))⟩
theorem lw_stat {args : Array Value} {s : State} {n : String} {f : Nat → Int32} {A : Nat → Prop} (harr : (Cond.arrayOf (.static "ToadsBefore" n "[I") .int).before args s = true) (hlen : (Cond.eq (.length (.static "ToadsBefore" n "[I")) (.int 8)).before args s = true)
    (hel : ∀ j : Nat, j < 8 → (Cond.eq (.elem (.static "ToadsBefore" n "[I") (.int (Int32.ofNat j))) (.int (f j))).before args s = true) (hA : ∀ a : Nat, a < s.heap.size → ¬ A a)
    (hz : ∀ (a : Nat) (cell : Cell), (Term.static "ToadsBefore" n "[I").eval args s none [] s = some (.ref a) → s.heap[a]? = some cell → cell.slots.size = 8) :
    ∃ t : Nat, (Term.static "ToadsBefore" n "[I").eval args s none [] s = some (.ref t) ∧ va_X t 8 f s s.heap ∧ t < s.heap.size ∧ ¬ A t := by
  obtain ⟨t, ht, cell, h1, h2, h3, h4, h5, h6, h7⟩ := va_Tof (f := fun j => .int (f j)) (N := 8) (by decide) harr (va_eqt hlen) (fun j hj => va_eqt (hel j hj)) hA
  exact ⟨t, ht, ⟨cell, h1, h2, h3, hz t cell ht h1, h6⟩, (Array.getElem?_eq_some_iff.mp h1).1, h7⟩
theorem lw_arrc {args : Array Value} {s : State} {ty : FieldType} (h : (Cond.arrayClass ty).before args s = true) : ∃ cA : ClassId, ArrOfT s cA ty ∧ s.vm.findClass ("[" ++ ty.toString) = some cA := by
  obtain ⟨c, k, comp, h1, h2, h3⟩ := Cond.arrayClass_spec h
  exact ⟨c, fun n z => ⟨fun k h => (by cases h), k, h2, comp, h3⟩, h1⟩
def lw_ad (b t1 t2 t3 vt : Nat) (adK adV : Nat → Nat) : Nat → Nat := fun i => if i < 1000020 then (if i = 1000000 then b else if i = 1000001 then t1 else if i = 1000002 then t2 else t3) else if i < 1000030 then adK (i - 1000020) else if i < 1000050 then adV (i - 1000030) else vt
theorem lw_words {b : Nat} {s : State} {A : Nat → Prop} (hg : (Jvm.Cond.and given_1 narrow_1).before #[Value.ref b] s = true) (hA : ∀ a : Nat, a < s.heap.size → ¬ A a) : ∃ adK adV : Nat → Nat, vk_S 8 [2, 4, 4, 5, 4, 4, 4, 4] [[116, 111], [114, 97, 116, 101], [103, 114, 111, 119], [97, 102, 116, 101, 114], [100, 97, 121, 115], [110, 101, 97, 114], [109, 111, 111, 110], [114, 97, 105, 110]] adK adV A s s.heap ∧ ∀ i : Nat, i < 8 → ((fun i => Term.string RX6 (([110, 129, 131, 133, 135, 137, 139, 141] : List Nat).getD i 0)) i).eval #[Value.ref b] s none [] s = some (.ref (adK i)) := by
  have hs := flat_of_before _ hg
  refine vk_Sof (N := 8) (tm := (fun i => Term.string RX6 (([110, 129, 131, 133, 135, 137, 139, 141] : List Nat).getD i 0))) (len := [2, 4, 4, 5, 4, 4, 4, 4]) (byt := [[116, 111], [114, 97, 116, 101], [103, 114, 111, 119], [97, 102, 116, 101, 114], [100, 97, 121, 115], [110, 101, 97, 114], [109, 111, 111, 110], [114, 97, 105, 110]]) (fun i hi => ?_) (fun i hi => ?_) (fun i hi => ?_) (fun i hi => ?_) (fun i hi => ?_) (fun i hi k hk => ?_) (fun i k hi hk hne => ?_) hA
  · rcases (show i = 0 ∨ i = 1 ∨ i = 2 ∨ i = 3 ∨ i = 4 ∨ i = 5 ∨ i = 6 ∨ i = 7 by omega) with rfl | rfl | rfl | rfl | rfl | rfl | rfl | rfl
    all_goals decide
  · rcases (show i = 0 ∨ i = 1 ∨ i = 2 ∨ i = 3 ∨ i = 4 ∨ i = 5 ∨ i = 6 ∨ i = 7 by omega) with rfl | rfl | rfl | rfl | rfl | rfl | rfl | rfl
    all_goals exact hs _ (by decide +kernel)
  · rcases (show i = 0 ∨ i = 1 ∨ i = 2 ∨ i = 3 ∨ i = 4 ∨ i = 5 ∨ i = 6 ∨ i = 7 by omega) with rfl | rfl | rfl | rfl | rfl | rfl | rfl | rfl
    all_goals exact hs _ (by decide +kernel)
  · rcases (show i = 0 ∨ i = 1 ∨ i = 2 ∨ i = 3 ∨ i = 4 ∨ i = 5 ∨ i = 6 ∨ i = 7 by omega) with rfl | rfl | rfl | rfl | rfl | rfl | rfl | rfl
    all_goals exact hs _ (by decide +kernel)
  · rcases (show i = 0 ∨ i = 1 ∨ i = 2 ∨ i = 3 ∨ i = 4 ∨ i = 5 ∨ i = 6 ∨ i = 7 by omega) with rfl | rfl | rfl | rfl | rfl | rfl | rfl | rfl
    all_goals exact hs _ (by decide +kernel)
  · rcases (show i = 0 ∨ i = 1 ∨ i = 2 ∨ i = 3 ∨ i = 4 ∨ i = 5 ∨ i = 6 ∨ i = 7 by omega) with rfl | rfl | rfl | rfl | rfl | rfl | rfl | rfl
    · have hk : k < 2 := hk
      rcases (show k = 0 ∨ k = 1 by omega) with rfl | rfl
      all_goals exact hs _ (by decide +kernel)
    · have hk : k < 4 := hk
      rcases (show k = 0 ∨ k = 1 ∨ k = 2 ∨ k = 3 by omega) with rfl | rfl | rfl | rfl
      all_goals exact hs _ (by decide +kernel)
    · have hk : k < 4 := hk
      rcases (show k = 0 ∨ k = 1 ∨ k = 2 ∨ k = 3 by omega) with rfl | rfl | rfl | rfl
      all_goals exact hs _ (by decide +kernel)
    · have hk : k < 5 := hk
      rcases (show k = 0 ∨ k = 1 ∨ k = 2 ∨ k = 3 ∨ k = 4 by omega) with rfl | rfl | rfl | rfl | rfl
      all_goals exact hs _ (by decide +kernel)
    · have hk : k < 4 := hk
      rcases (show k = 0 ∨ k = 1 ∨ k = 2 ∨ k = 3 by omega) with rfl | rfl | rfl | rfl
      all_goals exact hs _ (by decide +kernel)
    · have hk : k < 4 := hk
      rcases (show k = 0 ∨ k = 1 ∨ k = 2 ∨ k = 3 by omega) with rfl | rfl | rfl | rfl
      all_goals exact hs _ (by decide +kernel)
    · have hk : k < 4 := hk
      rcases (show k = 0 ∨ k = 1 ∨ k = 2 ∨ k = 3 by omega) with rfl | rfl | rfl | rfl
      all_goals exact hs _ (by decide +kernel)
    · have hk : k < 4 := hk
      rcases (show k = 0 ∨ k = 1 ∨ k = 2 ∨ k = 3 by omega) with rfl | rfl | rfl | rfl
      all_goals exact hs _ (by decide +kernel)
  · rcases (show i = 0 ∨ i = 1 ∨ i = 2 ∨ i = 3 ∨ i = 4 ∨ i = 5 ∨ i = 6 ∨ i = 7 by omega) with rfl | rfl | rfl | rfl | rfl | rfl | rfl | rfl
    · rcases (show k = 0 ∨ k = 1 ∨ k = 2 ∨ k = 3 ∨ k = 4 ∨ k = 5 ∨ k = 6 ∨ k = 7 by omega) with rfl | rfl | rfl | rfl | rfl | rfl | rfl | rfl
      · exact absurd rfl hne
      · exact Or.inr (hs _ (by decide +kernel))
      · exact Or.inr (hs _ (by decide +kernel))
      · exact Or.inr (hs _ (by decide +kernel))
      · exact Or.inr (hs _ (by decide +kernel))
      · exact Or.inr (hs _ (by decide +kernel))
      · exact Or.inr (hs _ (by decide +kernel))
      · exact Or.inr (hs _ (by decide +kernel))
    · rcases (show k = 0 ∨ k = 1 ∨ k = 2 ∨ k = 3 ∨ k = 4 ∨ k = 5 ∨ k = 6 ∨ k = 7 by omega) with rfl | rfl | rfl | rfl | rfl | rfl | rfl | rfl
      · exact Or.inl (hs _ (by decide +kernel))
      · exact absurd rfl hne
      · exact Or.inl (hs _ (by decide +kernel))
      · exact Or.inl (hs _ (by decide +kernel))
      · exact Or.inl (hs _ (by decide +kernel))
      · exact Or.inl (hs _ (by decide +kernel))
      · exact Or.inl (hs _ (by decide +kernel))
      · exact Or.inl (hs _ (by decide +kernel))
    · rcases (show k = 0 ∨ k = 1 ∨ k = 2 ∨ k = 3 ∨ k = 4 ∨ k = 5 ∨ k = 6 ∨ k = 7 by omega) with rfl | rfl | rfl | rfl | rfl | rfl | rfl | rfl
      · exact Or.inl (hs _ (by decide +kernel))
      · exact Or.inr (hs _ (by decide +kernel))
      · exact absurd rfl hne
      · exact Or.inl (hs _ (by decide +kernel))
      · exact Or.inl (hs _ (by decide +kernel))
      · exact Or.inl (hs _ (by decide +kernel))
      · exact Or.inl (hs _ (by decide +kernel))
      · exact Or.inl (hs _ (by decide +kernel))
    · rcases (show k = 0 ∨ k = 1 ∨ k = 2 ∨ k = 3 ∨ k = 4 ∨ k = 5 ∨ k = 6 ∨ k = 7 by omega) with rfl | rfl | rfl | rfl | rfl | rfl | rfl | rfl
      · exact Or.inl (hs _ (by decide +kernel))
      · exact Or.inr (hs _ (by decide +kernel))
      · exact Or.inr (hs _ (by decide +kernel))
      · exact absurd rfl hne
      · exact Or.inl (hs _ (by decide +kernel))
      · exact Or.inl (hs _ (by decide +kernel))
      · exact Or.inl (hs _ (by decide +kernel))
      · exact Or.inl (hs _ (by decide +kernel))
    · rcases (show k = 0 ∨ k = 1 ∨ k = 2 ∨ k = 3 ∨ k = 4 ∨ k = 5 ∨ k = 6 ∨ k = 7 by omega) with rfl | rfl | rfl | rfl | rfl | rfl | rfl | rfl
      · exact Or.inl (hs _ (by decide +kernel))
      · exact Or.inr (hs _ (by decide +kernel))
      · exact Or.inr (hs _ (by decide +kernel))
      · exact Or.inr (hs _ (by decide +kernel))
      · exact absurd rfl hne
      · exact Or.inl (hs _ (by decide +kernel))
      · exact Or.inl (hs _ (by decide +kernel))
      · exact Or.inl (hs _ (by decide +kernel))
    · rcases (show k = 0 ∨ k = 1 ∨ k = 2 ∨ k = 3 ∨ k = 4 ∨ k = 5 ∨ k = 6 ∨ k = 7 by omega) with rfl | rfl | rfl | rfl | rfl | rfl | rfl | rfl
      · exact Or.inl (hs _ (by decide +kernel))
      · exact Or.inr (hs _ (by decide +kernel))
      · exact Or.inr (hs _ (by decide +kernel))
      · exact Or.inr (hs _ (by decide +kernel))
      · exact Or.inr (hs _ (by decide +kernel))
      · exact absurd rfl hne
      · exact Or.inl (hs _ (by decide +kernel))
      · exact Or.inl (hs _ (by decide +kernel))
    · rcases (show k = 0 ∨ k = 1 ∨ k = 2 ∨ k = 3 ∨ k = 4 ∨ k = 5 ∨ k = 6 ∨ k = 7 by omega) with rfl | rfl | rfl | rfl | rfl | rfl | rfl | rfl
      · exact Or.inl (hs _ (by decide +kernel))
      · exact Or.inr (hs _ (by decide +kernel))
      · exact Or.inr (hs _ (by decide +kernel))
      · exact Or.inr (hs _ (by decide +kernel))
      · exact Or.inr (hs _ (by decide +kernel))
      · exact Or.inr (hs _ (by decide +kernel))
      · exact absurd rfl hne
      · exact Or.inl (hs _ (by decide +kernel))
    · rcases (show k = 0 ∨ k = 1 ∨ k = 2 ∨ k = 3 ∨ k = 4 ∨ k = 5 ∨ k = 6 ∨ k = 7 by omega) with rfl | rfl | rfl | rfl | rfl | rfl | rfl | rfl
      · exact Or.inl (hs _ (by decide +kernel))
      · exact Or.inr (hs _ (by decide +kernel))
      · exact Or.inr (hs _ (by decide +kernel))
      · exact Or.inr (hs _ (by decide +kernel))
      · exact Or.inr (hs _ (by decide +kernel))
      · exact Or.inr (hs _ (by decide +kernel))
      · exact Or.inr (hs _ (by decide +kernel))
      · exact absurd rfl hne
theorem lw_st_AT_FIRST {b : Nat} {s : State} {A : Nat → Prop} (hg : (Jvm.Cond.and given_1 narrow_1).before #[Value.ref b] s = true) (hA : ∀ a : Nat, a < s.heap.size → ¬ A a) (hz : lw_sz b s) : ∃ t : Nat, (Term.static "ToadsBefore" "AT_FIRST" "[I").eval #[Value.ref b] s none [] s = some (.ref t) ∧ va_X t 8 (mv_at [20, 40, 100, 10, 1, -1, -1, 0]) s s.heap ∧ t < s.heap.size ∧ ¬ A t := by
  have hs := flat_of_before _ hg
  refine lw_stat (hs _ (by decide +kernel)) (hs _ (by decide +kernel)) (fun j hj => ?_) hA (fun a cell h1 h2 => hz "AT_FIRST" a cell (by decide) h1 h2)
  rcases (show j = 0 ∨ j = 1 ∨ j = 2 ∨ j = 3 ∨ j = 4 ∨ j = 5 ∨ j = 6 ∨ j = 7 by omega) with rfl | rfl | rfl | rfl | rfl | rfl | rfl | rfl
  all_goals exact hs _ (by decide +kernel)
theorem lw_st_LEAST {b : Nat} {s : State} {A : Nat → Prop} (hg : (Jvm.Cond.and given_1 narrow_1).before #[Value.ref b] s = true) (hA : ∀ a : Nat, a < s.heap.size → ¬ A a) (hz : lw_sz b s) : ∃ t : Nat, (Term.static "ToadsBefore" "LEAST" "[I").eval #[Value.ref b] s none [] s = some (.ref t) ∧ va_X t 8 (mv_at [0, 0, 0, 1, 0, 0, 0, 0]) s s.heap ∧ t < s.heap.size ∧ ¬ A t := by
  have hs := flat_of_before _ hg
  refine lw_stat (hs _ (by decide +kernel)) (hs _ (by decide +kernel)) (fun j hj => ?_) hA (fun a cell h1 h2 => hz "LEAST" a cell (by decide) h1 h2)
  rcases (show j = 0 ∨ j = 1 ∨ j = 2 ∨ j = 3 ∨ j = 4 ∨ j = 5 ∨ j = 6 ∨ j = 7 by omega) with rfl | rfl | rfl | rfl | rfl | rfl | rfl | rfl
  all_goals exact hs _ (by decide +kernel)
theorem lw_st_MOST {b : Nat} {s : State} {A : Nat → Prop} (hg : (Jvm.Cond.and given_1 narrow_1).before #[Value.ref b] s = true) (hA : ∀ a : Nat, a < s.heap.size → ¬ A a) (hz : lw_sz b s) : ∃ t : Nat, (Term.static "ToadsBefore" "MOST" "[I").eval #[Value.ref b] s none [] s = some (.ref t) ∧ va_X t 8 (mv_at [999, 99, 999, 30, 7, 27, 27, 9]) s s.heap ∧ t < s.heap.size ∧ ¬ A t := by
  have hs := flat_of_before _ hg
  refine lw_stat (hs _ (by decide +kernel)) (hs _ (by decide +kernel)) (fun j hj => ?_) hA (fun a cell h1 h2 => hz "MOST" a cell (by decide) h1 h2)
  rcases (show j = 0 ∨ j = 1 ∨ j = 2 ∨ j = 3 ∨ j = 4 ∨ j = 5 ∨ j = 6 ∨ j = 7 by omega) with rfl | rfl | rfl | rfl | rfl | rfl | rfl | rfl
  all_goals exact hs _ (by decide +kernel)
theorem lw_classes {args : Array Value} {s : State} (hB : ∀ w ∈ mv_B, w.before args s = true) : ∃ (D : va_G) (cy : Nat → ClassId), va_K D vwCl (mv_tys cy) s := by
  obtain ⟨c0, i0, k0⟩ := u_known (C := RX0) (T := TX0) (N := 6) (n := 6) hB inB_X0 (hB _ wd_143)
  obtain ⟨c1, i1, k1⟩ := u_known (C := RX1) (T := TX1) (N := 10) (n := 10) hB inB_X1 (hB _ wd_270)
  obtain ⟨c2, i2, k2⟩ := u_known (C := RX2) (T := TX2) (N := 3) (n := 3) hB inB_X2 (hB _ wd_338)
  obtain ⟨c3, i3, k3⟩ := u_known (C := RX3) (T := TX3) (N := 2) (n := 2) hB inB_X3 (hB _ wd_186)
  obtain ⟨c4, i4, k4⟩ := u_known (C := RX4) (T := TX4) (N := 3) (n := 3) hB inB_X4 (hB _ wd_168)
  obtain ⟨c5, i5, k5⟩ := u_known (C := RX5) (T := TX5) (N := 1) (n := 1) hB inB_X5 (hB _ wd_91)
  obtain ⟨c6, i6, k6⟩ := u_known (C := RX6) (T := TX6) (N := 8) (n := 8) hB inB_X6 (hB _ wd_111)
  obtain ⟨c7, i7, k7⟩ := u_known (C := RX7) (T := TX7) (N := 12) (n := 12) hB inB_X7 (hB _ wd_199)
  obtain ⟨c8, i8, k8⟩ := u_known (C := RX8) (T := TX8) (N := 7) (n := 7) hB inB_X8 (hB _ wd_242)
  obtain ⟨c9, i9, k9⟩ := u_known (C := RX9) (T := TX9) (N := 8) (n := 8) hB inB_X9 (hB _ wd_307)
  obtain ⟨c10, i10, k10⟩ := u_known (C := RX10) (T := TX10) (N := 5) (n := 5) hB inB_X10 (hB _ wd_355)
  obtain ⟨c11, i11, k11⟩ := u_known (C := RX11) (T := TX11) (N := 11) (n := 11) hB inB_X11 (hB _ wd_83)
  obtain ⟨c12, i12, k12⟩ := u_known (C := RX12) (T := TX12) (N := 41) (n := 41) hB inB_X12 (hB _ wd_1186)
  obtain ⟨cI, a1, a2⟩ := lw_arrc (hB _ wd_109)
  obtain ⟨cJ, b1, b2⟩ := lw_arrc (hB _ wd_353)
  obtain ⟨cZ, d1, d2⟩ := lw_arrc (hB _ wd_141)
  refine ⟨(fun k => if k = 0 then c0 else if k = 1 then c1 else if k = 2 then c2 else if k = 3 then c3 else if k = 4 then c4 else if k = 5 then c5 else if k = 6 then c6 else if k = 7 then c7 else if k = 8 then c8 else if k = 9 then c9 else if k = 10 then c10 else if k = 11 then c11 else c12, fun k => if k = 0 then i0 else if k = 1 then i1 else if k = 2 then i2 else if k = 3 then i3 else if k = 4 then i4 else if k = 5 then i5 else if k = 6 then i6 else if k = 7 then i7 else if k = 8 then i8 else if k = 9 then i9 else if k = 10 then i10 else if k = 11 then i11 else i12), fun k => if k = 0 then cI else if k = 1 then cJ else cZ, ?_, ?_⟩
  · intro k q hq
    match k, hq with
    | 0, hq => cases hq; exact k0
    | 1, hq => cases hq; exact k1
    | 2, hq => cases hq; exact k2
    | 3, hq => cases hq; exact k3
    | 4, hq => cases hq; exact k4
    | 5, hq => cases hq; exact k5
    | 6, hq => cases hq; exact k6
    | 7, hq => cases hq; exact k7
    | 8, hq => cases hq; exact k8
    | 9, hq => cases hq; exact k9
    | 10, hq => cases hq; exact k10
    | 11, hq => cases hq; exact k11
    | 12, hq => cases hq; exact k12
    | k + 13, hq => simp [vwCl] at hq
  · intro k q hq
    match k, hq with
    | 0, hq => cases hq; exact ⟨a1, a2⟩
    | 1, hq => cases hq; exact ⟨b1, b2⟩
    | 2, hq => cases hq; exact ⟨d1, d2⟩
    | k + 3, hq => simp [mv_tys] at hq
set_option maxHeartbeats 4000000 in
set_option maxRecDepth 100000 in
theorem lw_read {b : Nat} {s : State} {A : Nat → Prop} (hg : (Jvm.Cond.and given_1 narrow_1).before #[Value.ref b] s = true) (hA : ∀ a : Nat, a < s.heap.size → ¬ A a) (hts : ∀ w ∈ lw_tbl, w.before #[Value.ref b] s = true) (hz : lw_sz b s) {L : Nat} {xs : Nat → Int32} (hX : va_X b L xs s s.heap) (hbl : b < s.heap.size) : ∃ (ad : Nat → Nat) (v : Value), ad 1000000 = b ∧ (v = .null ∨ ∃ x, v = .ref x) ∧ mv_Ro (L, xs, v) ad A s s.heap := by
  have hs := flat_of_before _ hg
  obtain ⟨t1, e1, x1, l1, n1⟩ := lw_st_AT_FIRST hg hA hz
  obtain ⟨t2, e2, x2, l2, n2⟩ := lw_st_LEAST hg hA hz
  obtain ⟨t3, e3, x3, l3, n3⟩ := lw_st_MOST hg hA hz
  obtain ⟨adK, adV, hw, he⟩ := lw_words hg hA
  have z1 : va_Z "ToadsBefore" "AT_FIRST" "[I" (.ref t1) A s s.heap := va_Zref (hts _ (List.mem_of_getElem? (i := 97) (by decide +kernel))) (hts _ (List.mem_of_getElem? (i := 62) (by decide +kernel))) e1 hA
  have z2 : va_Z "ToadsBefore" "LEAST" "[I" (.ref t2) A s s.heap := va_Zref (hts _ (List.mem_of_getElem? (i := 542) (by decide +kernel))) (hts _ (List.mem_of_getElem? (i := 62) (by decide +kernel))) e2 hA
  have z3 : va_Z "ToadsBefore" "MOST" "[I" (.ref t3) A s s.heap := va_Zref (hts _ (List.mem_of_getElem? (i := 544) (by decide +kernel))) (hts _ (List.mem_of_getElem? (i := 62) (by decide +kernel))) e3 hA
  have z4 : va_Z "java/lang/String" "COMPACT_STRINGS" "Z" (.int 1) A s s.heap := va_Zof (hts _ (List.mem_of_getElem? (i := 488) (by decide +kernel))) (hts _ (List.mem_of_getElem? (i := 77) (by decide +kernel))) (va_eqt (hs _ (by decide +kernel))) hA
  have z5 : va_Zq "jdk/internal/util/Preconditions" "SIOOBE_FORMATTER" "Ljava/util/function/BiFunction;" A s s.heap := va_Zqof (hts _ (List.mem_of_getElem? (i := 504) (by decide +kernel))) (hts _ (List.mem_of_getElem? (i := 79) (by decide +kernel))) (hs _ (by decide +kernel)) hA
  have o1 : va_O "[I" t1 A s s.heap := va_Oof (hs (Cond.exactly (.static "ToadsBefore" "AT_FIRST" "[I") "[I") (by decide +kernel)) e1 hA
  have hcc : mv_cc s := by
    obtain ⟨c, t, f1, f2, f3⟩ := Cond.castable_spec (hts (.castable "[I" "java/lang/Cloneable") (List.mem_of_getElem? (i := 103) (by decide +kernel)))
    exact ⟨c, t, f1, f2, f3⟩
  have key : ∀ (vt : Nat) (v : Value), mv_sc 0 v → va_Z "jdk/internal/util/Preconditions" "SIOOBE_FORMATTER" "Ljava/util/function/BiFunction;" (mv_v (lw_ad b t1 t2 t3 vt adK adV) v) A s s.heap → mv_Ro (L, xs, v) (lw_ad b t1 t2 t3 vt adK adV) A s s.heap := by
    intro vt v hv hz5
    refine ⟨fun i L1 f hi => ?_, fun i L1 f hi => ?_, fun i c hi => ?_, fun C n d w hi => ?_, fun own k i hi => ?_, fun w hw => ?_, hv, o1, hcc⟩
    · simp only [mv_ri, List.mem_cons, Prod.mk.injEq, List.not_mem_nil, or_false] at hi
      rcases hi with ⟨rfl, rfl, rfl⟩ | ⟨rfl, rfl, rfl⟩ | ⟨rfl, rfl, rfl⟩ | ⟨rfl, rfl, rfl⟩
      · exact ⟨hX, hbl, hA b hbl⟩
      · exact ⟨x1, l1, n1⟩
      · exact ⟨x2, l2, n2⟩
      · exact ⟨x3, l3, n3⟩
    · simp only [mv_rb, List.mem_cons, Prod.mk.injEq, List.not_mem_nil, or_false] at hi
      rcases hi with ⟨rfl, rfl, rfl⟩ | ⟨rfl, rfl, rfl⟩ | ⟨rfl, rfl, rfl⟩ | ⟨rfl, rfl, rfl⟩ | ⟨rfl, rfl, rfl⟩ | ⟨rfl, rfl, rfl⟩ | ⟨rfl, rfl, rfl⟩ | ⟨rfl, rfl, rfl⟩
      · exact (hw.1 0 (by decide)).2.2.2
      · exact (hw.1 1 (by decide)).2.2.2
      · exact (hw.1 2 (by decide)).2.2.2
      · exact (hw.1 3 (by decide)).2.2.2
      · exact (hw.1 4 (by decide)).2.2.2
      · exact (hw.1 5 (by decide)).2.2.2
      · exact (hw.1 6 (by decide)).2.2.2
      · exact (hw.1 7 (by decide)).2.2.2
    · simp only [mv_ro, List.mem_cons, Prod.mk.injEq, List.not_mem_nil, or_false] at hi
      rcases hi with ⟨rfl, rfl⟩ | ⟨rfl, rfl⟩ | ⟨rfl, rfl⟩ | ⟨rfl, rfl⟩ | ⟨rfl, rfl⟩ | ⟨rfl, rfl⟩ | ⟨rfl, rfl⟩ | ⟨rfl, rfl⟩
      · exact ⟨(hw.1 0 (by decide)).1, (hw.1 0 (by decide)).2.1, (hw.1 0 (by decide)).2.2.1⟩
      · exact ⟨(hw.1 1 (by decide)).1, (hw.1 1 (by decide)).2.1, (hw.1 1 (by decide)).2.2.1⟩
      · exact ⟨(hw.1 2 (by decide)).1, (hw.1 2 (by decide)).2.1, (hw.1 2 (by decide)).2.2.1⟩
      · exact ⟨(hw.1 3 (by decide)).1, (hw.1 3 (by decide)).2.1, (hw.1 3 (by decide)).2.2.1⟩
      · exact ⟨(hw.1 4 (by decide)).1, (hw.1 4 (by decide)).2.1, (hw.1 4 (by decide)).2.2.1⟩
      · exact ⟨(hw.1 5 (by decide)).1, (hw.1 5 (by decide)).2.1, (hw.1 5 (by decide)).2.2.1⟩
      · exact ⟨(hw.1 6 (by decide)).1, (hw.1 6 (by decide)).2.1, (hw.1 6 (by decide)).2.2.1⟩
      · exact ⟨(hw.1 7 (by decide)).1, (hw.1 7 (by decide)).2.1, (hw.1 7 (by decide)).2.2.1⟩
    · simp only [mv_rs, List.mem_cons, Prod.mk.injEq, List.not_mem_nil, or_false] at hi
      rcases hi with ⟨rfl, rfl, rfl, rfl⟩ | ⟨rfl, rfl, rfl, rfl⟩ | ⟨rfl, rfl, rfl, rfl⟩ | ⟨rfl, rfl, rfl, rfl⟩ | ⟨rfl, rfl, rfl, rfl⟩
      · exact z1
      · exact z2
      · exact z3
      · exact z4
      · exact hz5
    · simp only [mv_rl, List.mem_cons, Prod.mk.injEq, List.not_mem_nil, or_false] at hi
      rcases hi with ⟨rfl, rfl, rfl⟩ | ⟨rfl, rfl, rfl⟩ | ⟨rfl, rfl, rfl⟩ | ⟨rfl, rfl, rfl⟩ | ⟨rfl, rfl, rfl⟩ | ⟨rfl, rfl, rfl⟩ | ⟨rfl, rfl, rfl⟩ | ⟨rfl, rfl, rfl⟩
      · exact ⟨"to", vk_R.of (A := #[Value.ref b]) (hts _ (List.mem_of_getElem? (i := 549) (by decide +kernel))) (he 0 (by decide))⟩
      · exact ⟨"rate", vk_R.of (A := #[Value.ref b]) (hts _ (List.mem_of_getElem? (i := 468) (by decide +kernel))) (he 1 (by decide))⟩
      · exact ⟨"grow", vk_R.of (A := #[Value.ref b]) (hts _ (List.mem_of_getElem? (i := 469) (by decide +kernel))) (he 2 (by decide))⟩
      · exact ⟨"after", vk_R.of (A := #[Value.ref b]) (hts _ (List.mem_of_getElem? (i := 470) (by decide +kernel))) (he 3 (by decide))⟩
      · exact ⟨"days", vk_R.of (A := #[Value.ref b]) (hts _ (List.mem_of_getElem? (i := 471) (by decide +kernel))) (he 4 (by decide))⟩
      · exact ⟨"near", vk_R.of (A := #[Value.ref b]) (hts _ (List.mem_of_getElem? (i := 472) (by decide +kernel))) (he 5 (by decide))⟩
      · exact ⟨"moon", vk_R.of (A := #[Value.ref b]) (hts _ (List.mem_of_getElem? (i := 473) (by decide +kernel))) (he 6 (by decide))⟩
      · exact ⟨"rain", vk_R.of (A := #[Value.ref b]) (hts _ (List.mem_of_getElem? (i := 474) (by decide +kernel))) (he 7 (by decide))⟩
    · have h2 : mv_nest.all (fun w => w.onTables) = true := by decide +kernel
      exact va_Nw.of (List.all_eq_true.mp h2 w hw) (hts w (mv_nest_in w hw))
  rcases z5 with z5 | ⟨vt, z5⟩
  · exact ⟨lw_ad b t1 t2 t3 0 adK adV, .null, rfl, Or.inl rfl, key 0 .null trivial z5⟩
  · exact ⟨lw_ad b t1 t2 t3 vt adK adV, .ref 1000050, rfl, Or.inr ⟨_, rfl⟩, key vt (.ref 1000050) (Or.inr (by decide)) z5⟩
set_option maxHeartbeats 4000000 in
set_option maxRecDepth 100000 in
/-- the law from its entry, at every state of the start where the three static arrays have exactly 8 places: it ends with true, nothing old written, the room as stated -/
theorem whole_open {p : Program} {e : Env} {s : State} {m : MethodId} {below : List Frame} {meth : Method} {c : Code} (l : Launch) {b L : Nat} {xs : Nat → Int32} (hL : L ≤ 4608) (C0 : lw_At p s m meth c b L xs) (hz : lw_sz b s) : W p l e room_1 s m #[Value.ref b] below meth c s.heap [] 0 0 (lw_Z below #[Value.ref b] s) (entryFrame m ([Value.ref b] : List Value).toArray 4) := by
  obtain ⟨hx, hb, hr, hml, hown, hts, hX, hbl, hlocks, hgv⟩ := id C0
  have hB : ∀ w ∈ mv_B, w.before #[Value.ref b] s = true := fun w hw => hts w (List.mem_filter.mp hw).1
  obtain ⟨D, cy, hK⟩ := lw_classes hB
  obtain ⟨ad, v, had, hv, hRo⟩ := lw_read (A := fun q => s.heap.size ≤ q) hgv (fun a q => Nat.not_le.mpr q) hts hz hX hbl
  obtain ⟨r, h', g, hq⟩ := q_law (ev := (L, xs, v)) hv hL
  have hq : r = some (.int (nI 1)) := hq
  subst hq
  have hsl : ([Value.ref 1000000] : List Value).map (mv_v ad) = [Value.ref b] := by show [Value.ref (ad 1000000)] = _; rw [had]
  have hl := mv_entry ad [Value.ref 1000000] (n := 4) (Nat.le_of_ble_eq_true rfl)
  rw [hsl] at hl
  have P := (mv_sound l g).2 p e room_1 s m #[Value.ref b] below meth c D cy ad s.heap [] 0 0 (fun q => s.heap.size ≤ q) _ 0 ⟨hx, hb, hml, hr, hlocks, fun hn => absurd hn (by decide), hown, hB, ⟨Nat.le_of_ble_eq_true rfl, Nat.le_of_ble_eq_true rfl, Nat.le_of_ble_eq_true rfl, Nat.le_of_ble_eq_true rfl⟩, fun q hq => hq, hRo, hK, (fun k q h => by simp [mv_w] at h), ⟨fun i j p q h => by simp [mv_w] at h, fun k q h => by simp [mv_w] at h⟩, va_S.rf, hl, Nat.le_refl _⟩
  rw [lg_entry_eq]
  refine mv_W_mono (fun t ht => ?_) P
  obtain ⟨oc, h1, h2, ⟨ad', -, ho, -⟩, Ls, ⟨hv, hW, hsm⟩, hfree⟩ := ht
  exact ⟨oc, h1, h2, ho, hv, hW, lw_forget hsm hfree (Nat.le_of_ble_eq_true rfl) (Nat.le_of_ble_eq_true rfl)⟩
