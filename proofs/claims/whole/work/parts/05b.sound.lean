/-! what is only read -/
def mv_cc (U : State) : Prop := ∃ c t : ClassId, U.vm.findClass "[I" = some c ∧ U.vm.findClass "java/lang/Cloneable" = some t ∧ U.vm.assignable c t = true
theorem mv_cc.moved {u U : State} (hvm : u.vm.Alike U.vm) (h : mv_cc u) : mv_cc U := by
  obtain ⟨c, t, h1, h2, h3⟩ := h
  exact ⟨c, t, by rw [hvm.findClass]; exact h1, by rw [hvm.findClass]; exact h2, by rw [hvm.assignable]; exact h3⟩
def mv_Ro (ev : mv_E) (ad : Nat → Nat) (A : Nat → Prop) (U : State) (H : Heap) : Prop :=
  (∀ i L f, (i, L, f) ∈ mv_ri ev → va_X (ad i) L f U H ∧ ad i < H.size ∧ ¬ A (ad i)) ∧
  (∀ i L f, (i, L, f) ∈ mv_rb → va_T .byte (ad i) L (fun j => .int (f j)) A U H) ∧
  (∀ i b, (i, b) ∈ mv_ro → va_O "java/lang/String" (ad i) A U H ∧ va_OF "java/lang/String" "coder" "B" (.int 0) (ad i) A U H ∧ va_OF "java/lang/String" "value" "[B" (.ref (ad b)) (ad i) A U H) ∧
  (∀ C n d v, (C, n, d, v) ∈ mv_rs ev → va_Z C n d (mv_v ad v) A U H) ∧
  (∀ own k i, (own, k, i) ∈ mv_rl → ∃ tx, vk_R own k tx (ad i) U) ∧
  (∀ w ∈ mv_nest, va_Nw w U) ∧ mv_sc 0 ev.2.2 ∧ va_O "[I" (ad 1000001) A U H ∧ mv_cc U
theorem mv_nest_warm {s U : State} (hW : s.WarmedH U.vm) (h : ∀ w ∈ mv_nest, va_Nw w s) : ∀ w ∈ mv_nest, va_Nw w U := by
  intro w hw
  have h1 := h w hw
  have key : ∀ {w : Cond}, (∃ a i x ho, w = .methodLinkNest a i x ho) ∨ (∃ a i b n d ho, w = .fieldLinkNest a i b n d ho) → va_Nw w s → va_Nw w U := by
    rintro w (⟨a, i, x, ho, rfl⟩ | ⟨a, i, b, n, d, ho, rfl⟩) h
    · exact va_Nw.warmM hW h
    · exact va_Nw.warmF hW h
  refine key ?_ h1
  have h2 : mv_nest.all (fun w => match w with | .methodLinkNest _ _ _ _ => true | .fieldLinkNest _ _ _ _ _ _ => true | _ => false) = true := by decide +kernel
  have h3 := List.all_eq_true.mp h2 w hw
  split at h3
  · exact Or.inl ⟨_, _, _, _, rfl⟩
  · exact Or.inr ⟨_, _, _, _, _, _, rfl⟩
  · cases h3
theorem mv_nest_same {s U : State} (hv : s.vm = U.vm) (h : ∀ w ∈ mv_nest, va_Nw w s) : ∀ w ∈ mv_nest, va_Nw w U := by
  intro w hw
  have h2 : mv_nest.all (fun w => w.onTables) = true := by decide +kernel
  exact va_Nw.same (List.all_eq_true.mp h2 w hw) hv (h w hw)
theorem mv_Ro.pass {ev : mv_E} {ad : Nat → Nat} {A B : Nat → Prop} {s U : State} {H : Heap} {locs : List Loc} (h : mv_Ro ev ad A s s.heap) (hS : va_S A s.heap H locs) (hW : s.WarmedH U.vm) (hU : U.heap = H) (hBA : ∀ q, B q → A q) : mv_Ro ev ad B U U.heap := by
  subst hU
  have hal := hW.alike
  obtain ⟨h1, h2, h3, h4, h5, h6, h7, h8, h9⟩ := h
  refine ⟨fun i L f hi => ?_, fun i L f hi => ?_, fun i b hi => ?_, fun C n d v hi => ?_, fun own k i hi => ?_, mv_nest_warm hW h6, h7, ((va_O.moved hal h8).kept hS.2.1).narrow hBA, h9.moved hal⟩
  · obtain ⟨a1, a2, a3⟩ := h1 i L f hi
    exact ⟨va_X.moved hal (a1.kept (hS.2.1 _ a2 a3)), Nat.lt_of_lt_of_le a2 hS.1, fun q => a3 (hBA _ q)⟩
  · exact ((va_T.moved hal (h2 i L f hi)).kept hS.2.1).narrow hBA
  · obtain ⟨a1, a2, a3⟩ := h3 i b hi
    exact ⟨((va_O.moved hal a1).kept hS.2.1).narrow hBA, ((va_OF.moved hal a2).kept hS.2.1).narrow hBA, ((va_OF.moved hal a3).kept hS.2.1).narrow hBA⟩
  · exact ((va_Z.moved hal (h4 C n d v hi)).kept hS.2.1).narrow hBA
  · obtain ⟨tx, a1⟩ := h5 own k i hi
    exact ⟨tx, vk_R.warm hW a1⟩
theorem mv_Ro.call {ev : mv_E} {ad : Nat → Nat} {A : Nat → Prop} {U : State} (h : mv_Ro ev ad A U U.heap) (g : JFrame) (mk : MethodId) (a : Array Value) : mv_Ro ev ad A (U.calling g mk a) (U.calling g mk a).heap := by
  have hal : U.vm.Alike (U.calling g mk a).vm := Vm.Alike.refl U.vm
  obtain ⟨h1, h2, h3, h4, h5, h6, h7, h8, h9⟩ := h
  refine ⟨fun i L f hi => ⟨va_X.moved hal (h1 i L f hi).1, (h1 i L f hi).2⟩, fun i L f hi => va_T.moved hal (h2 i L f hi), fun i b hi => ⟨va_O.moved hal (h3 i b hi).1, va_OF.moved hal (h3 i b hi).2.1, va_OF.moved hal (h3 i b hi).2.2⟩, fun C n d v hi => va_Z.moved hal (h4 C n d v hi), fun own k i hi => ?_, mv_nest_same (s := U) rfl h6, h7, va_O.moved hal h8, h9.moved hal⟩
  obtain ⟨tx, a1⟩ := h5 own k i hi
  exact ⟨tx, vk_R.same (u := U) (U := U.calling g mk a) rfl a1⟩
theorem mv_ri_lt {ev : mv_E} {i L : Nat} {f : Nat → Int32} (h : (i, L, f) ∈ mv_ri ev) : 1000000 ≤ i := by
  simp only [mv_ri, List.mem_cons, Prod.mk.injEq, List.not_mem_nil, or_false] at h
  rcases h with h | h | h | h <;> omega
theorem mv_Ro.ext {ev : mv_E} {ad ad' : Nat → Nat} {A : Nat → Prop} {U : State} {H : Heap} (h : mv_Ro ev ad A U H) (he : ∀ i : Nat, 1000000 ≤ i → ad' i = ad i) : mv_Ro ev ad' A U H := by
  obtain ⟨h1, h2, h3, h4, h5, h6, h7, h8, h9⟩ := h
  have hv : ∀ {v : Value}, mv_sc 0 v → mv_v ad' v = mv_v ad v := by
    intro v hv
    cases v with
    | ref a =>
      rcases hv with hv | hv
      · exact absurd hv (Nat.not_lt_zero _)
      · show Value.ref (ad' a) = Value.ref (ad a)
        rw [he a hv]
    | _ => rfl
  refine ⟨fun i L f hi => ?_, fun i L f hi => ?_, fun i b hi => ?_, fun C n d v hi => ?_, fun own k i hi => ?_, h6, h7, by rw [he 1000001 (by decide)]; exact h8, h9⟩
  · rw [he i (mv_ri_lt hi)]; exact h1 i L f hi
  · have hl : 1000000 ≤ i := by
      simp only [mv_rb, List.mem_cons, Prod.mk.injEq, List.not_mem_nil, or_false] at hi
      rcases hi with h | h | h | h | h | h | h | h <;> omega
    rw [he i hl]; exact h2 i L f hi
  · have hl : 1000000 ≤ i ∧ 1000000 ≤ b := by
      simp only [mv_ro, List.mem_cons, Prod.mk.injEq, List.not_mem_nil, or_false] at hi
      rcases hi with h | h | h | h | h | h | h | h <;> omega
    rw [he i hl.1, he b hl.2]; exact h3 i b hi
  · have hl : mv_sc 0 v := by
      simp only [mv_rs, List.mem_cons, Prod.mk.injEq, List.not_mem_nil, or_false] at hi
      rcases hi with h | h | h | h | h <;> obtain ⟨-, -, -, rfl⟩ := h
      · exact Or.inr (by decide)
      · exact Or.inr (by decide)
      · exact Or.inr (by decide)
      · trivial
      · exact h7
    rw [hv hl]; exact h4 C n d v hi
  · have hl : 1000000 ≤ i := by
      simp only [mv_rl, List.mem_cons, Prod.mk.injEq, List.not_mem_nil, or_false] at hi
      rcases hi with h | h | h | h | h | h | h | h <;> omega
    rw [he i hl]; exact h5 own k i hi
/-! addresses of what is made -/
def mv_ext (ad ad' : Nat → Nat) (N k : Nat) : Prop := (∀ i : Nat, i < N ∨ 1000000 ≤ i → ad' i = ad i) ∧ (k = 0 → ad' = ad)
theorem mv_ext.rf {ad : Nat → Nat} {N k : Nat} : mv_ext ad ad N k := ⟨fun _ _ => rfl, fun _ => rfl⟩
theorem mv_sc_eq {ad ad' : Nat → Nat} {N : Nat} {v : Value} (h : mv_sc N v) (he : ∀ i : Nat, i < N ∨ 1000000 ≤ i → ad' i = ad i) : mv_v ad' v = mv_v ad v := by
  cases v with
  | ref a => show Value.ref (ad' a) = Value.ref (ad a); rw [he a h]
  | _ => rfl
theorem mv_scL_eq {ad ad' : Nat → Nat} {N : Nat} {l : List Value} (h : mv_scL N l) (he : ∀ i : Nat, i < N ∨ 1000000 ≤ i → ad' i = ad i) : l.map (mv_v ad') = l.map (mv_v ad) := List.map_congr_left (fun v hv => mv_sc_eq (h v hv) he)
theorem mv_L.ext {ad ad' : Nat → Nat} {N n : Nat} {ls : Array Slot} {lv : List Value} (h : mv_L ad ls n lv) (hs : mv_scL N lv) (he : ∀ i : Nat, i < N ∨ 1000000 ≤ i → ad' i = ad i) : mv_L ad' ls n lv := ⟨h.1, h.2.1, fun i v hi hv => by rw [mv_sc_eq (hs v (List.mem_of_getElem? hi)) he]; exact h.2.2 i v hi hv⟩
theorem mv_w_ext {ad ad' : Nat → Nat} {cy : Nat → ClassId} {h : mv_H} (hs : mv_scH h) (he : ∀ i : Nat, i < h.length ∨ 1000000 ≤ i → ad' i = ad i) : mv_w ad' cy h = mv_w ad cy h := by
  apply List.ext_getElem?
  intro i
  rw [mv_w_get, mv_w_get]
  cases hi : h[i]? with
  | none => rfl
  | some e =>
    have hl : i < h.length := (List.getElem?_eq_some_iff.mp hi).1
    have h1 : ad' i = ad i := he i (Or.inl hl)
    have h2 : mv_c ad' cy e = mv_c ad cy e := by
      cases e with
      | inl x => rfl
      | inr o =>
        obtain ⟨c, fs⟩ := o
        show (.inr (c, fs.map (mv_v ad')) : va_E) = .inr (c, fs.map (mv_v ad))
        rw [mv_scL_eq (hs.2 _ (List.mem_of_getElem? hi) c fs rfl) he]
    simp only [Option.map_some, h1, h2]
/-! the claim of each configuration over the big machine -/
def mv_Q (D : va_G) (cy : Nat → ClassId) (ad : Nat → Nat) (N : Nat) (r : Option Value) (h' : mv_H) (k : Nat) (A : Nat → Prop) : Array Value → State → Outcome → State → Prop := fun _ st oc t =>
  ∃ ad' : Nat → Nat, mv_ext ad ad' N k ∧ oc = .returned (r.map (mv_v ad')) ∧ va_P D vwCl (mv_w ad' cy h') t.heap ∧ va_D A (mv_w ad' cy h') ∧ va_F A st t
theorem mv_q_ret {D : va_G} {cy : Nat → ClassId} {ad : Nat → Nat} {N k : Nat} {v : Option Value} {h : mv_H} {A : Nat → Prop} {args : Array Value} {s t : State} {H : Heap} {locs : List Loc} (hP : va_P D vwCl (mv_w ad cy h) H) (hD : va_D A (mv_w ad cy h)) (hS : va_S A s.heap H locs) (ht : t.heap = H) : mv_Q D cy ad N v h k A args s (.returned (v.map (mv_v ad))) t := ⟨ad, mv_ext.rf, rfl, by rw [ht]; exact hP, hD, hS.F ht⟩
abbrev mv_X (ev : mv_E) (p : Program) (e : Env) (R : Room) (s : State) (m : MethodId) (args : Array Value) (below : List Frame) (meth : Method) (c : Code) (D : va_G) (cy : Nat → ClassId) (ad : Nat → Nat) (H : Heap) (locs : List Loc) (cells slots : Nat) (A : Nat → Prop) (ls : Array Slot) (N : Nat) (M : mv_M) (lv : List Value) (h : mv_H) (k n : Nat) : Prop :=
  p.tables.exec = Jvm.exec ∧ c.code = mv_by M ∧ c.maxLocals = mv_ml M ∧ meth.sig.returnType = mv_rt M ∧ meth.locks = false ∧ ((mv_y M).name = "<init>" → meth.name = "<init>") ∧ s.vm.findClass (mv_own M) = some m.cls ∧ (∀ w ∈ mv_B, w.before args s = true) ∧
  (mv_fr M ≤ R.frames ∧ mv_lo M ≤ R.locals ∧ cells + k ≤ R.cells ∧ slots + n ≤ R.slots) ∧ (∀ q, s.heap.size ≤ q → A q) ∧ mv_Ro ev ad A s s.heap ∧ va_K D vwCl (mv_tys cy) s ∧ va_P D vwCl (mv_w ad cy h) H ∧ va_D A (mv_w ad cy h) ∧ va_S A s.heap H locs ∧ mv_L ad ls (mv_ml M) lv ∧ N ≤ h.length
def mv_P (l : Launch) (ev : mv_E) : mv_T := fun M pc lv st h r h' k n => h'.length = h.length + k ∧
  ∀ (p : Program) (e : Env) (R : Room) (s : State) (m : MethodId) (args : Array Value) (below : List Frame) (meth : Method) (c : Code) (D : va_G) (cy : Nat → ClassId) (ad : Nat → Nat) (H : Heap) (locs : List Loc) (cells slots : Nat) (A : Nat → Prop) (ls : Array Slot) (N : Nat),
    mv_X ev p e R s m args below meth c D cy ad H locs cells slots A ls N M lv h k n → W p l e R s m args below meth c H locs cells slots (MQ below (mv_Q D cy ad N r h' k A) args s (cells + k) (slots + n) A) (F0 m pc ls (st.map (mv_v ad)))
theorem mv_W_mono {p : Program} {l : Launch} {e : Env} {R : Room} {s : State} {m : MethodId} {args : Array Value} {below : List Frame} {meth : Method} {c : Code} {H : Heap} {locs : List Loc} {cells slots : Nat} {Q Q' : State → Prop} {g : JFrame} (hq : ∀ t, Q t → Q' t) (h : W p l e R s m args below meth c H locs cells slots Q g) : W p l e R s m args below meth c H locs cells slots Q' g := fun T hT X => by
  obtain ⟨t, a, b⟩ := h T hT X
  exact ⟨t, a, hq t b⟩
theorem mv_MQ_mono {below : List Frame} {Qc Qc' : Array Value → State → Outcome → State → Prop} {a : Array Value} {s : State} {mc ms : Nat} {free : Addr → Prop} (hq : ∀ o t, Qc a s o t → Qc' a s o t) : ∀ t, MQ below Qc a s mc ms free t → MQ below Qc' a s mc ms free t := by
  rintro t ⟨o, h1, h2, h3, h4⟩
  exact ⟨o, h1, h2, hq o t h3, h4⟩
/-- what a method needs of its caller's side, as a contract -/
theorem mv_met {l : Launch} {ev : mv_E} {M : mv_M} {as : List Value} {h h1 : mv_H} {r1 : Option Value} {k1 n1 : Nat} (hcode : Cond.code (mv_y M) (mv_by M) (mv_ml M) (mv_rt M) ∈ mv_B) (hcls : (mv_y M).cls = mv_own M) (hpl : plainName (mv_own M) = true) (hlen : (mv_flat as).length ≤ mv_ml M)
    (hP : mv_P l ev M 0 (mv_ent as (mv_ml M)) [] h r1 h1 k1 n1) (D : va_G) (cy : Nat → ClassId) (ad : Nat → Nat) (sz : Nat) :
    Met l (mv_y M) (Cond.code (mv_y M) (mv_by M) (mv_ml M) (mv_rt M) :: mv_B) ({ frames := mv_fr M, cells := k1, slots := n1, locals := mv_lo M } : Room)
      (va_Pc (as.map (mv_v ad)) (fun U => U.heap.size = sz ∧ va_P D vwCl (mv_w ad cy h) U.heap ∧ va_K D vwCl (mv_tys cy) U ∧ va_D (fun _ => True) (mv_w ad cy h) ∧ mv_Ro ev ad (va_A (mv_w ad cy h) sz) U U.heap))
      (mv_Q D cy ad h.length r1 h1 k1 (va_A (mv_w ad cy h) sz)) k1 n1 (va_A (mv_w ad cy h) sz) := by
  refine Met.ofW (cc := mv_by M) (maxL := mv_ml M) (ret := mv_rt M) (by rw [hcls]; exact hpl) rfl ?_
  intro p e s m args below meth c s₁ B hml hv
  obtain ⟨rfl, hsz, hPw, hK, hD0, hRo⟩ := hv
  have hts0 := atoms_spec (ws := Cond.code (mv_y M) (mv_by M) (mv_ml M) (mv_rt M) :: mv_B) B.pre
  have hts : ∀ w ∈ mv_B, w.before (as.map (mv_v ad)).toArray s = true := fun w hw => hts0 w (List.mem_cons_of_mem _ hw)
  have hown : s.vm.findClass (mv_y M).cls = some m.cls := findClass_of_methodNamed B.named
  subst hsz
  have hD := hD0.self (sz := s.heap.size)
  rw [lg_entry_eq]
  have hW := hP.2 p e ({ frames := mv_fr M, cells := k1, slots := n1, locals := mv_lo M } : Room) s m (as.map (mv_v ad)).toArray below meth c D cy ad s.heap [] 0 0 (va_A (mv_w ad cy h) s.heap.size) _ h.length
    ⟨B.exec, B.bytes, hml, B.returns, B.notSynchronized, fun hn => (name_of_methodNamed B.named B.method).1.trans hn, by rw [← hcls]; exact hown, hts, ⟨Nat.le_refl _, Nat.le_refl _, by rw [Nat.zero_add]; exact Nat.le_refl _, by rw [Nat.zero_add]; exact Nat.le_refl _⟩, fun q hq => Or.inr hq, hRo, hK, hPw, hD, va_S.rf, mv_entry ad as hlen, Nat.le_refl _⟩
  rw [Nat.zero_add, Nat.zero_add] at hW
  exact hW
section MVC
variable {p : Program} {l : Launch} {e : Env} {R : Room} {s : State} {m : MethodId} {args : Array Value} {below : List Frame} {meth : Method} {c : Code} {H : Heap} {locs : List Loc} {cells slots : Nat} {Q : State → Prop}
variable {pc : Nat} {ls : Array Slot} {rest st0 : List Value} {a : Array Value} {A A1 : Nat → Prop} {free : Addr → Prop}
/-- behind a call -/
theorem mv_callW {D : va_G} {cy : Nat → ClassId} {ad : Nat → Nat} {N k1 n1 : Nat} {r1 : Option Value} {h1 : mv_H} (hr : va_Run p l e R s m args below meth c H locs cells slots k1 n1 (F0 m pc ls st0) rest (mv_Q D cy ad N r1 h1 k1 A1 a) free) (hS : va_S A s.heap H locs) (hA : ∀ q, A1 q → A q) (hf : ∀ q, free q → A q)
    (kk : ∀ (ad1 : Nat → Nat) (H1 : Heap) (locs1 : List Loc), mv_ext ad ad1 N k1 → va_P D vwCl (mv_w ad1 cy h1) H1 → va_D A (mv_w ad1 cy h1) → va_S A s.heap H1 locs1 → W p l e R s m args below meth c H1 locs1 (cells + k1) (slots + n1) Q (F0 m (pc + 3) ls ((r1.map (mv_v ad1)).toList ++ rest))) : W p l e R s m args below meth c H locs cells slots Q (F0 m pc ls st0) := by
  intro T hT X
  obtain ⟨v, st₀, t, T', L, h0, X', hL, e1, e2, ⟨ad1, hext, hv, hP1, hD1, hz, hk⟩, st⟩ := hr T hT X
  cases hv
  rw [h0] at hz hk
  obtain ⟨t2, a1, b1⟩ := kk ad1 T'.heap (locs ++ L) hext (by rw [e1]; exact hP1) (hD1.weaken (fun _ q _ h => hA q.1 h))
    ⟨Nat.le_trans hS.1 (by rw [e1]; exact hz), fun q h1 h2 => by rw [e1, hk q (Nat.lt_of_lt_of_le h1 hS.1) (fun z => h2 (hA q z))]; exact hS.2.1 q h1 h2, fun q hq => by
      rcases List.mem_append.mp hq with h | h
      · exact hS.2.2 q h
      · exact hf _ (hL q h)⟩ T' rfl X'
  exact ⟨t2, st t2 a1, b1⟩
end MVC
theorem mv_blind {ev : mv_E} {D : va_G} {cy : Nat → ClassId} {ad : Nat → Nat} {h : mv_H} {as : List Value} {sz : Nat} {A : Nat → Prop} : FrameBlind (va_Pc as (fun U => U.heap.size = sz ∧ va_P D vwCl (mv_w ad cy h) U.heap ∧ va_K D vwCl (mv_tys cy) U ∧ va_D (fun _ => True) (mv_w ad cy h) ∧ mv_Ro ev ad A U U.heap)) := by
  rintro a U g mk ⟨q0, q1, qP, qK, qD, qR⟩
  exact ⟨q0, q1, qP, va_K.moved (u := U) (U := U.calling g mk a) (Vm.Alike.refl U.vm) qK, qD, qR.call g mk a⟩
theorem mv_sub_A {A : Nat → Prop} {ws : va_W} {H0 H : Heap} {locs : List Loc} (hD : va_D A ws) (hS : va_S A H0 H locs) (hA : ∀ q, H0.size ≤ q → A q) : ∀ q, va_A ws H.size q → A q := by
  rintro q (⟨k, e, h⟩ | h)
  · exact hD.2 k (q, e) h
  · exact hA q (Nat.le_trans hS.1 h)
/-- a call's tail: what comes behind it -/
theorem mv_after {l : Launch} {ev : mv_E} {p : Program} {e : Env} {R : Room} {s : State} {m : MethodId} {args : Array Value} {below : List Frame} {meth : Method} {c : Code} {D : va_G} {cy : Nat → ClassId} {ad : Nat → Nat} {H : Heap} {locs : List Loc} {cells slots : Nat} {A : Nat → Prop} {ls : Array Slot} {N : Nat} {M : mv_M} {pc : Nat} {lv st : List Value} {h h1 h' : mv_H} {r r1 : Option Value} {k1 n1 k2 n2 : Nat}
    (C : mv_X ev p e R s m args below meth c D cy ad H locs cells slots A ls N M lv h (k1 + k2) (n1 + n2)) (hlen1 : h1.length = h.length + k1) (hs : k1 = 0 ∨ (mv_scL h.length lv ∧ mv_scL h.length st)) (kk1 : mv_P l ev M (pc + 3) lv (r1.toList ++ st) h1 r h' k2 n2) (ad1 : Nat → Nat) (H1 : Heap) (locs1 : List Loc) (hext : mv_ext ad ad1 h.length k1) (hP1 : va_P D vwCl (mv_w ad1 cy h1) H1) (hD1 : va_D A (mv_w ad1 cy h1)) (hS1 : va_S A s.heap H1 locs1) :
    W p l e R s m args below meth c H1 locs1 (cells + k1) (slots + n1) (MQ below (mv_Q D cy ad N r h' (k1 + k2) A) args s (cells + (k1 + k2)) (slots + (n1 + n2)) A) (F0 m (pc + 3) ls ((r1.map (mv_v ad1)).toList ++ st.map (mv_v ad))) := by
  obtain ⟨hx, hb, hml, hret, hlk0, hnm, hown, hts, ⟨hfr0, hlo0, hce, hsl⟩, hA, hRo, hK, hP, hD, hS, hL, hN⟩ := C
  have hst : st.map (mv_v ad1) = st.map (mv_v ad) := by
    rcases hs with hs | hs
    · rw [hext.2 hs]
    · exact mv_scL_eq hs.2 hext.1
  have hL1 : mv_L ad1 ls (mv_ml M) lv := by
    rcases hs with hs | hs
    · rw [hext.2 hs]; exact hL
    · exact hL.ext hs.1 hext.1
  have hr : (r1.map (mv_v ad1)).toList ++ st.map (mv_v ad) = (r1.toList ++ st).map (mv_v ad1) := by
    rw [List.map_append, hst]
    cases r1 <;> rfl
  rw [hr]
  have h2 := kk1.2 p e R s m args below meth c D cy ad1 H1 locs1 (cells + k1) (slots + n1) A ls N ⟨hx, hb, hml, hret, hlk0, hnm, hown, hts, ⟨hfr0, hlo0, by omega, by omega⟩, hA, hRo.ext (fun i hi => hext.1 i (Or.inr hi)), hK, hP1, hD1, hS1, hL1, by omega⟩
  rw [Nat.add_assoc, Nat.add_assoc] at h2
  refine mv_W_mono (mv_MQ_mono ?_) h2
  rintro o t ⟨ad2, h3, h4⟩
  refine ⟨ad2, ⟨fun i hi => ?_, fun hk => ?_⟩, h4⟩
  · rw [h3.1 i hi]
    exact hext.1 i (by omega)
  · rw [h3.2 (by omega), hext.2 (by omega)]
/-- what comes behind a making -/
theorem mv_made {l : Launch} {ev : mv_E} {p : Program} {e : Env} {R : Room} {s : State} {m : MethodId} {args : Array Value} {below : List Frame} {meth : Method} {c : Code} {D : va_G} {cy : Nat → ClassId} {ad : Nat → Nat} {H H1 : Heap} {locs : List Loc} {cells slots : Nat} {A : Nat → Prop} {ls : Array Slot} {N : Nat} {M : mv_M} {pc : Nat} {lv st : List Value} {h h' : mv_H} {r : Option Value} {k n n1 q : Nat} {e1 : va_E}
    (C : mv_X ev p e R s m args below meth c D cy ad H locs cells slots A ls N M lv h (1 + k) (n1 + n)) (hs : mv_scL h.length lv ∧ mv_scL h.length st ∧ mv_scH h) (he : ∀ ad1 : Nat → Nat, mv_c ad1 cy e1 = mv_c ad cy e1) (kk : mv_P l ev M pc lv (.ref h.length :: st) (h ++ [e1]) r h' k n) (hP1 : va_P D vwCl (mv_w ad cy h ++ [(q, mv_c ad cy e1)]) H1) (hD1 : va_D A (mv_w ad cy h ++ [(q, mv_c ad cy e1)])) (hS1 : va_S A s.heap H1 locs) :
    W p l e R s m args below meth c H1 locs (cells + 1) (slots + n1) (MQ below (mv_Q D cy ad N r h' (1 + k) A) args s (cells + (1 + k)) (slots + (n1 + n)) A) (F0 m pc ls (.ref q :: st.map (mv_v ad))) := by
  obtain ⟨hx, hb, hml, hret, hlk0, hnm, hown, hts, ⟨hfr0, hlo0, hce, hsl⟩, hA, hRo, hK, hP, hD, hS, hL, hN⟩ := C
  obtain ⟨ad1, had⟩ : ∃ ad1 : Nat → Nat, ad1 = fun i => if i = h.length then q else ad i := ⟨_, rfl⟩
  have hnew : ad1 h.length = q := by rw [had]; simp
  have hold : ∀ i : Nat, i < h.length ∨ 1000000 ≤ i → ad1 i = ad i := by
    intro i hi
    have hne : i ≠ h.length := by
      have := hs.2.2.1
      omega
    rw [had]
    simp [hne]
  have hw : mv_w ad cy h ++ [(q, mv_c ad cy e1)] = mv_w ad1 cy (h ++ [e1]) := by
    rw [mv_w_app, hnew, he ad1, mv_w_ext hs.2.2 hold]
  rw [hw] at hP1 hD1
  have hst : (.ref q : Value) :: st.map (mv_v ad) = ((.ref h.length : Value) :: st).map (mv_v ad1) := by
    show _ = Value.ref (ad1 h.length) :: st.map (mv_v ad1)
    rw [hnew, mv_scL_eq hs.2.1 hold]
  rw [hst]
  have h2 := kk.2 p e R s m args below meth c D cy ad1 H1 locs (cells + 1) (slots + n1) A ls N ⟨hx, hb, hml, hret, hlk0, hnm, hown, hts, ⟨hfr0, hlo0, by omega, by omega⟩, hA, hRo.ext (fun i hi => hold i (Or.inr hi)), hK, hP1, hD1, hS1, hL.ext hs.1 hold, by simp; omega⟩
  rw [Nat.add_assoc, Nat.add_assoc] at h2
  refine mv_W_mono (mv_MQ_mono ?_) h2
  rintro o t ⟨ad2, h3, h4⟩
  refine ⟨ad2, ⟨fun i hi => ?_, fun hk => by omega⟩, h4⟩
  rw [h3.1 i hi]
  exact hold i (by omega)
theorem mv_nat5 {st : List Value} {R : Nat} (h : (st.map fun v => v.category).sum ≤ 8) (hR : 26 ≤ R) : (st.map fun v => v.category).sum + (nativeFrameWords "java/lang/System" "arraycopy" 5 + 11) ≤ R := by
  have h1 : nativeFrameWords "java/lang/System" "arraycopy" 5 = 7 := by decide +kernel
  rw [h1]
  omega
theorem mv_pay {M' : mv_M} {s : State} {args : Array Value} (hts : ∀ w ∈ mv_B, w.before args s = true) (hc : Cond.code (mv_y M') (mv_by M') (mv_ml M') (mv_rt M') ∈ mv_B) : ∀ w ∈ Cond.code (mv_y M') (mv_by M') (mv_ml M') (mv_rt M') :: mv_B, ∀ (a' : Array Value) (U : State), s.WarmedH U.vm → w.before a' U = true :=
  pay_in hts (fun w hw => (List.mem_cons.mp hw).elim (fun e => by rw [e]; exact ⟨hc, mv_good _ hc⟩) (fun h => ⟨h, mv_good _ h⟩))
theorem mv_par {M' : mv_M} {n : Nat} (h : (parseMethodDescriptor (mv_y M').desc).map (fun d => d.parameters.length) = some n) : ∀ sig, parseMethodDescriptor (mv_y M').desc = some sig → n = sig.parameters.length := fun sig hs => by
  rw [hs] at h
  exact (Option.some.inj h).symm
theorem mv_cloneW {p : Program} {l : Launch} {e : Env} {R : Room} {s : State} {m : MethodId} {args : Array Value} {below : List Frame} {meth : Method} {c : Code} {H : Heap} {locs : List Loc} {cells slots : Nat} {Q : State → Prop}
    {cc : ByteArray} {pc : Nat} {ls : Array Slot} {rest : List Value} {D : va_G} {A : Nat → Prop} {a n0 : Nat} {f : Nat → Int32} {cy : Nat → ClassId} {ws : va_W} (hexec : p.tables.exec = Jvm.exec) (hb : c.code = cc) (hml : c.maxLocals = ls.size) {own : String} {index : Nat} (hown : s.vm.findClass own = some m.cls)
    (hts : ∀ w ∈ mv_B, w.before args s = true) (hw : Cond.methodLink own index ⟨"[I", "clone", "()Ljava/lang/Object;"⟩ ∈ mv_B) (hX : va_X a n0 f s s.heap) (hal : a < s.heap.size) (hnA : ¬ A a) (hO : va_O "[I" a A s s.heap) (hcc : mv_cc s)
    (hK : va_K D vwCl (mv_tys cy) s) (hP : va_P D vwCl ws H) (hD : va_D A ws) (hS : va_S A s.heap H locs) (hA : ∀ q, s.heap.size ≤ q → A q)
    (hframes : 1 ≤ R.frames) (hlocals : (rest.map fun v => v.category).sum + 14 ≤ R.locals) (hcells : cells + 1 ≤ R.cells) (hslots : slots + n0 ≤ R.slots) (hdg : decode cc pc = .ok (.invokevirtual index, 3))
    (kk : ∀ (q : Nat) (H1 : Heap), va_P D vwCl (ws ++ [(q, .inl (cy 0, n0, .inl f))]) H1 → va_D A (ws ++ [(q, .inl (cy 0, n0, .inl f))]) → va_S A s.heap H1 locs →
      W p l e R s m args below meth c H1 locs (cells + 1) (slots + n0) Q (F0 m (pc + 3) ls (.ref q :: rest))) : W p l e R s m args below meth c H locs cells slots Q (F0 m pc ls (.ref a :: rest)) := by
  obtain ⟨scr, s1, s2, s3, s4, s5⟩ := hX
  obtain ⟨scr', o1, o2, o3, -⟩ := hO
  cases s1.symm.trans o1
  have hscr : H[a]? = some scr := by rw [hS.2.1 a hal hnA]; exact s1
  have hnm : s.vm.findClass "[I" = some (cy 0) := va_nm_int (hK.2 0 _ rfl).2
  have hcl0 : scr.cls = cy 0 := Option.some.inj (o3.symm.trans hnm)
  obtain ⟨c0, t0', f1, f2, f3⟩ := hcc
  cases hnm.symm.trans f1
  have hcellE : ({ cls := scr.cls, slots := scr.slots } : Cell) = vp_cell (cy 0) (n0, .inl f) := by
    rw [hcl0, vp_cell_i]
    have hsl : scr.slots = (arrV (cy 0) n0 (fun j => .int (f j))).slots := by
      apply Array.ext_getElem?
      intro i
      by_cases hi : i < n0
      · rw [s5 i hi, arrV_read _ _ hi]
      · rw [Array.getElem?_eq_none (by omega), Array.getElem?_eq_none (by rw [arrV_size]; omega)]
    rw [hsl]
    rfl
  intro T hT X
  have hcellT : T.heap[a]? = some scr := by rw [hT]; exact hscr
  obtain ⟨-, kA, hkA, comp, hkind⟩ := State.isArrayOf_alike X.warmed.alike s2
  obtain ⟨-, kS, hkS, compS, hkindS⟩ := s2
  obtain ⟨vm', X', st⟩ := X.cloneArray hexec hown (hts _ hw) (hts _ wd_99) (hts _ wd_100) (hts _ wd_101) (hts _ wd_102) (a := a) (cell := scr) hcellT (fun k h => by rw [h] at o2; cases o2) s3 o3 f2 (by rw [hcl0]; exact f3)
    (fun i v hv => by
      have hk' : T.vm.classes[scr.cls]? = some kA := hkA
      have hi : i < n0 := by
        have := (Array.getElem?_eq_some_iff.mp hv).1
        omega
      have hvi : v = .int (f i) := Option.some.inj (hv.symm.trans (s5 i hi))
      subst hvi
      simp [State.fitsSlot, State.slotType?, hk', hkind, fits])
    (g := F0 m pc ls (.ref a :: rest)) rfl (by rw [hml]) rfl (by rw [hb]; exact hdg) hframes (by show 2 * 0 + _ + 14 ≤ _; omega) hcells (by rw [s4]; exact hslots) (hloader := Vm.clonesLoader_of_array hkS hkindS)
  rw [hcellE, s4] at X'
  generalize hH1 : H.push (vp_cell (cy 0) (n0, .inl f)) = H1
  have z1 : H1.size = H.size + 1 := by rw [← hH1, Array.size_push]
  have e1 : H1[H.size]? = some (vp_cell (cy 0) (n0, .inl f)) := by rw [← hH1, Array.getElem?_push_size]
  have q1 : ∀ q : Nat, q < H.size → H1[q]? = H[q]? := fun q hq => by rw [← hH1, Array.getElem?_push, if_neg (Nat.ne_of_lt hq)]
  have hk : ∀ (k : Nat) (y : Nat × va_E), ws[k]? = some y → H1[y.1]? = H[y.1]? := fun k y hy => q1 y.1 ((hP k y hy).lt)
  obtain ⟨t, b1, b2⟩ := kk H.size H1 ((hP.kept hk).app (fun k y hy => by
      have hz : k < 1 := (List.getElem?_eq_some_iff.mp hy).1
      rw [show k = 0 by omega] at hy
      cases hy
      exact e1)) (hD.push hP rfl (hA _ hS.1)) ⟨Nat.le_trans hS.1 (by omega), fun y h1 h2 => (q1 y (Nat.lt_of_lt_of_le h1 hS.1)).trans (hS.2.1 y h1 h2), hS.2.2⟩
    ((T.setVm vm').pushCell (vp_cell (cy 0) (n0, .inl f))) (by rw [← hH1, ← hT]; rfl) X'
  refine ⟨t, st t ?_, b2⟩
  rw [hcellE, hT]
  exact b1
theorem mv_ac1 : Cond.native arraycopyName ∈ mv_B := wd_443
theorem mv_ac2 : Cond.static arraycopyName ∈ mv_B := wd_442
theorem mv_ac3 : Cond.initialized "java/lang/System" ∈ mv_B := wd_76
theorem mv_oi1 : Cond.instanceMethod objectInit ∈ mv_B := wd_88
theorem mv_oi2 : Cond.code objectInit ⟨#[0xb1]⟩ 1 none ∈ mv_B := wd_89
theorem mv_m0 : Cond.initialized "java/lang/Math" ∈ mv_B := wd_75
theorem mv_mmax1 : Cond.static Lib.Math.max.name ∈ mv_B := wd_595
theorem mv_mmax2 : Cond.code Lib.Math.max.name Lib.Math.max.code 2 (some .int) ∈ mv_B := mv_inB 596 (by decide +kernel) rfl
theorem mv_mmin1 : Cond.static Lib.Math.min.name ∈ mv_B := wd_439
theorem mv_mmin2 : Cond.code Lib.Math.min.name Lib.Math.min.code 2 (some .int) ∈ mv_B := mv_inB 440 (by decide +kernel) rfl
theorem mv_mabs1 : Cond.static Lib.Math.abs.name ∈ mv_B := wd_903
theorem mv_mabs2 : Cond.code Lib.Math.abs.name Lib.Math.abs.code 1 (some .int) ∈ mv_B := mv_inB 904 (by decide +kernel) rfl

theorem ms_iconst (l : Launch) (ev : mv_E) : mv_r_iconst ev (mv_P l ev) := by
  intro M pc lv st h r h' k n n0 v d hv kk0
  refine ⟨kk0.1, ?_⟩
  rintro p e R s m args below meth c D cy ad H locs cells slots A ls N9 ⟨hx, hb, hml, hret, hlk0, hnm, hown, hts, ⟨hfr0, hlo0, hce, hsl⟩, hA, hRo, hK, hP, hD, hS, hL, hN⟩
  exact lv_iconst hx hb d hv (kk0.2 p e R s m args below meth c D cy ad H locs cells slots A ls N9 ⟨hx, hb, hml, hret, hlk0, hnm, hown, hts, ⟨hfr0, hlo0, hce, hsl⟩, hA, hRo, hK, hP, hD, hS, hL, hN⟩)
theorem ms_bipush (l : Launch) (ev : mv_E) : mv_r_bipush ev (mv_P l ev) := by
  intro M pc lv st h r h' k n n0 v d hv kk0
  refine ⟨kk0.1, ?_⟩
  rintro p e R s m args below meth c D cy ad H locs cells slots A ls N9 ⟨hx, hb, hml, hret, hlk0, hnm, hown, hts, ⟨hfr0, hlo0, hce, hsl⟩, hA, hRo, hK, hP, hD, hS, hL, hN⟩
  exact lv_bipush hx hb d hv (kk0.2 p e R s m args below meth c D cy ad H locs cells slots A ls N9 ⟨hx, hb, hml, hret, hlk0, hnm, hown, hts, ⟨hfr0, hlo0, hce, hsl⟩, hA, hRo, hK, hP, hD, hS, hL, hN⟩)
theorem ms_sipush (l : Launch) (ev : mv_E) : mv_r_sipush ev (mv_P l ev) := by
  intro M pc lv st h r h' k n n0 v d hv kk0
  refine ⟨kk0.1, ?_⟩
  rintro p e R s m args below meth c D cy ad H locs cells slots A ls N9 ⟨hx, hb, hml, hret, hlk0, hnm, hown, hts, ⟨hfr0, hlo0, hce, hsl⟩, hA, hRo, hK, hP, hD, hS, hL, hN⟩
  exact lv_sipush hx hb d hv (kk0.2 p e R s m args below meth c D cy ad H locs cells slots A ls N9 ⟨hx, hb, hml, hret, hlk0, hnm, hown, hts, ⟨hfr0, hlo0, hce, hsl⟩, hA, hRo, hK, hP, hD, hS, hL, hN⟩)
theorem ms_lconst (l : Launch) (ev : mv_E) : mv_r_lconst ev (mv_P l ev) := by
  intro M pc lv st h r h' k n n0 v d hv kk0
  refine ⟨kk0.1, ?_⟩
  rintro p e R s m args below meth c D cy ad H locs cells slots A ls N9 ⟨hx, hb, hml, hret, hlk0, hnm, hown, hts, ⟨hfr0, hlo0, hce, hsl⟩, hA, hRo, hK, hP, hD, hS, hL, hN⟩
  exact lv_lconst hx hb d hv (kk0.2 p e R s m args below meth c D cy ad H locs cells slots A ls N9 ⟨hx, hb, hml, hret, hlk0, hnm, hown, hts, ⟨hfr0, hlo0, hce, hsl⟩, hA, hRo, hK, hP, hD, hS, hL, hN⟩)
theorem ms_ldc (l : Launch) (ev : mv_E) : mv_r_ldc ev (mv_P l ev) := by
  intro M pc lv st h r h' k n idx v d hw kk0
  refine ⟨kk0.1, ?_⟩
  rintro p e R s m args below meth c D cy ad H locs cells slots A ls N9 ⟨hx, hb, hml, hret, hlk0, hnm, hown, hts, ⟨hfr0, hlo0, hce, hsl⟩, hA, hRo, hK, hP, hD, hS, hL, hN⟩
  exact lv_ldc hx hb hown (hts _ hw) d (kk0.2 p e R s m args below meth c D cy ad H locs cells slots A ls N9 ⟨hx, hb, hml, hret, hlk0, hnm, hown, hts, ⟨hfr0, hlo0, hce, hsl⟩, hA, hRo, hK, hP, hD, hS, hL, hN⟩)
theorem ms_ldcw (l : Launch) (ev : mv_E) : mv_r_ldcw ev (mv_P l ev) := by
  intro M pc lv st h r h' k n idx v d hw kk0
  refine ⟨kk0.1, ?_⟩
  rintro p e R s m args below meth c D cy ad H locs cells slots A ls N9 ⟨hx, hb, hml, hret, hlk0, hnm, hown, hts, ⟨hfr0, hlo0, hce, hsl⟩, hA, hRo, hK, hP, hD, hS, hL, hN⟩
  exact lv_ldcw hx hb hown (hts _ hw) d (kk0.2 p e R s m args below meth c D cy ad H locs cells slots A ls N9 ⟨hx, hb, hml, hret, hlk0, hnm, hown, hts, ⟨hfr0, hlo0, hce, hsl⟩, hA, hRo, hK, hP, hD, hS, hL, hN⟩)
theorem ms_ldc2 (l : Launch) (ev : mv_E) : mv_r_ldc2 ev (mv_P l ev) := by
  intro M pc lv st h r h' k n idx v d hw kk0
  refine ⟨kk0.1, ?_⟩
  rintro p e R s m args below meth c D cy ad H locs cells slots A ls N9 ⟨hx, hb, hml, hret, hlk0, hnm, hown, hts, ⟨hfr0, hlo0, hce, hsl⟩, hA, hRo, hK, hP, hD, hS, hL, hN⟩
  exact lv_ldc2 hx hb hown (hts _ hw) d (kk0.2 p e R s m args below meth c D cy ad H locs cells slots A ls N9 ⟨hx, hb, hml, hret, hlk0, hnm, hown, hts, ⟨hfr0, hlo0, hce, hsl⟩, hA, hRo, hK, hP, hD, hS, hL, hN⟩)
theorem ms_ldcs (l : Launch) (ev : mv_E) : mv_r_ldcs ev (mv_P l ev) := by
  intro M pc lv st h r h' k n idx i d hw kk0
  refine ⟨kk0.1, ?_⟩
  rintro p e R s m args below meth c D cy ad H locs cells slots A ls N9 ⟨hx, hb, hml, hret, hlk0, hnm, hown, hts, ⟨hfr0, hlo0, hce, hsl⟩, hA, hRo, hK, hP, hD, hS, hL, hN⟩
  exact (by obtain ⟨tx, hz⟩ := hRo.2.2.2.2.1 _ _ _ hw; exact va_ldcS hx hb hown hz d (kk0.2 p e R s m args below meth c D cy ad H locs cells slots A ls N9 ⟨hx, hb, hml, hret, hlk0, hnm, hown, hts, ⟨hfr0, hlo0, hce, hsl⟩, hA, hRo, hK, hP, hD, hS, hL, hN⟩))
theorem ms_iload_n (l : Launch) (ev : mv_E) : mv_r_iload_n ev (mv_P l ev) := by
  intro M pc lv st h r h' k n j x d hl kk0
  refine ⟨kk0.1, ?_⟩
  rintro p e R s m args below meth c D cy ad H locs cells slots A ls N9 ⟨hx, hb, hml, hret, hlk0, hnm, hown, hts, ⟨hfr0, hlo0, hce, hsl⟩, hA, hRo, hK, hP, hD, hS, hL, hN⟩
  exact lv_iload_n hx hb d rfl (hL.get hl (by simp)) (kk0.2 p e R s m args below meth c D cy ad H locs cells slots A ls N9 ⟨hx, hb, hml, hret, hlk0, hnm, hown, hts, ⟨hfr0, hlo0, hce, hsl⟩, hA, hRo, hK, hP, hD, hS, hL, hN⟩)
theorem ms_iload (l : Launch) (ev : mv_E) : mv_r_iload ev (mv_P l ev) := by
  intro M pc lv st h r h' k n j x d hl kk0
  refine ⟨kk0.1, ?_⟩
  rintro p e R s m args below meth c D cy ad H locs cells slots A ls N9 ⟨hx, hb, hml, hret, hlk0, hnm, hown, hts, ⟨hfr0, hlo0, hce, hsl⟩, hA, hRo, hK, hP, hD, hS, hL, hN⟩
  exact lv_iload hx hb d (hL.get hl (by simp)) (kk0.2 p e R s m args below meth c D cy ad H locs cells slots A ls N9 ⟨hx, hb, hml, hret, hlk0, hnm, hown, hts, ⟨hfr0, hlo0, hce, hsl⟩, hA, hRo, hK, hP, hD, hS, hL, hN⟩)
theorem ms_lload_n (l : Launch) (ev : mv_E) : mv_r_lload_n ev (mv_P l ev) := by
  intro M pc lv st h r h' k n j x d hl kk0
  refine ⟨kk0.1, ?_⟩
  rintro p e R s m args below meth c D cy ad H locs cells slots A ls N9 ⟨hx, hb, hml, hret, hlk0, hnm, hown, hts, ⟨hfr0, hlo0, hce, hsl⟩, hA, hRo, hK, hP, hD, hS, hL, hN⟩
  exact lv_lload_n hx hb d rfl (hL.get hl (by simp)) (kk0.2 p e R s m args below meth c D cy ad H locs cells slots A ls N9 ⟨hx, hb, hml, hret, hlk0, hnm, hown, hts, ⟨hfr0, hlo0, hce, hsl⟩, hA, hRo, hK, hP, hD, hS, hL, hN⟩)
theorem ms_lload (l : Launch) (ev : mv_E) : mv_r_lload ev (mv_P l ev) := by
  intro M pc lv st h r h' k n j x d hl kk0
  refine ⟨kk0.1, ?_⟩
  rintro p e R s m args below meth c D cy ad H locs cells slots A ls N9 ⟨hx, hb, hml, hret, hlk0, hnm, hown, hts, ⟨hfr0, hlo0, hce, hsl⟩, hA, hRo, hK, hP, hD, hS, hL, hN⟩
  exact lv_lload hx hb d (hL.get hl (by simp)) (kk0.2 p e R s m args below meth c D cy ad H locs cells slots A ls N9 ⟨hx, hb, hml, hret, hlk0, hnm, hown, hts, ⟨hfr0, hlo0, hce, hsl⟩, hA, hRo, hK, hP, hD, hS, hL, hN⟩)
theorem ms_aload_n (l : Launch) (ev : mv_E) : mv_r_aload_n ev (mv_P l ev) := by
  intro M pc lv st h r h' k n j x d hl kk0
  refine ⟨kk0.1, ?_⟩
  rintro p e R s m args below meth c D cy ad H locs cells slots A ls N9 ⟨hx, hb, hml, hret, hlk0, hnm, hown, hts, ⟨hfr0, hlo0, hce, hsl⟩, hA, hRo, hK, hP, hD, hS, hL, hN⟩
  exact lv_aload_n hx hb d rfl (hL.get hl (by simp)) (kk0.2 p e R s m args below meth c D cy ad H locs cells slots A ls N9 ⟨hx, hb, hml, hret, hlk0, hnm, hown, hts, ⟨hfr0, hlo0, hce, hsl⟩, hA, hRo, hK, hP, hD, hS, hL, hN⟩)
theorem ms_aload (l : Launch) (ev : mv_E) : mv_r_aload ev (mv_P l ev) := by
  intro M pc lv st h r h' k n j x d hl kk0
  refine ⟨kk0.1, ?_⟩
  rintro p e R s m args below meth c D cy ad H locs cells slots A ls N9 ⟨hx, hb, hml, hret, hlk0, hnm, hown, hts, ⟨hfr0, hlo0, hce, hsl⟩, hA, hRo, hK, hP, hD, hS, hL, hN⟩
  exact lv_aload hx hb d (hL.get hl (by simp)) (kk0.2 p e R s m args below meth c D cy ad H locs cells slots A ls N9 ⟨hx, hb, hml, hret, hlk0, hnm, hown, hts, ⟨hfr0, hlo0, hce, hsl⟩, hA, hRo, hK, hP, hD, hS, hL, hN⟩)
theorem ms_istore_n (l : Launch) (ev : mv_E) : mv_r_istore_n ev (mv_P l ev) := by
  intro M pc lv st h r h' k n j x d hj kk0
  refine ⟨kk0.1, ?_⟩
  rintro p e R s m args below meth c D cy ad H locs cells slots A ls N9 ⟨hx, hb, hml, hret, hlk0, hnm, hown, hts, ⟨hfr0, hlo0, hce, hsl⟩, hA, hRo, hK, hP, hD, hS, hL, hN⟩
  exact lv_istore_n hx hb d rfl hL.has hj rfl (fun ls hl => (kk0.2 p e R s m args below meth c D cy ad H locs cells slots A ls N9 ⟨hx, hb, hml, hret, hlk0, hnm, hown, hts, ⟨hfr0, hlo0, hce, hsl⟩, hA, hRo, hK, hP, hD, hS, ((hL.put1 (v := .int x) (by rfl) hl)), hN⟩))
theorem ms_istore (l : Launch) (ev : mv_E) : mv_r_istore ev (mv_P l ev) := by
  intro M pc lv st h r h' k n j x d hj kk0
  refine ⟨kk0.1, ?_⟩
  rintro p e R s m args below meth c D cy ad H locs cells slots A ls N9 ⟨hx, hb, hml, hret, hlk0, hnm, hown, hts, ⟨hfr0, hlo0, hce, hsl⟩, hA, hRo, hK, hP, hD, hS, hL, hN⟩
  exact lv_istore hx hb d hL.has hj rfl (fun ls hl => (kk0.2 p e R s m args below meth c D cy ad H locs cells slots A ls N9 ⟨hx, hb, hml, hret, hlk0, hnm, hown, hts, ⟨hfr0, hlo0, hce, hsl⟩, hA, hRo, hK, hP, hD, hS, ((hL.put1 (v := .int x) (by rfl) hl)), hN⟩))
theorem ms_lstore_n (l : Launch) (ev : mv_E) : mv_r_lstore_n ev (mv_P l ev) := by
  intro M pc lv st h r h' k n j x d hj kk0
  refine ⟨kk0.1, ?_⟩
  rintro p e R s m args below meth c D cy ad H locs cells slots A ls N9 ⟨hx, hb, hml, hret, hlk0, hnm, hown, hts, ⟨hfr0, hlo0, hce, hsl⟩, hA, hRo, hK, hP, hD, hS, hL, hN⟩
  exact lv_lstore_n hx hb d rfl hL.has hj rfl (fun ls hl => (kk0.2 p e R s m args below meth c D cy ad H locs cells slots A ls N9 ⟨hx, hb, hml, hret, hlk0, hnm, hown, hts, ⟨hfr0, hlo0, hce, hsl⟩, hA, hRo, hK, hP, hD, hS, ((hL.put2 (v := .long x) (by rfl) hl)), hN⟩))
theorem ms_lstore (l : Launch) (ev : mv_E) : mv_r_lstore ev (mv_P l ev) := by
  intro M pc lv st h r h' k n j x d hj kk0
  refine ⟨kk0.1, ?_⟩
  rintro p e R s m args below meth c D cy ad H locs cells slots A ls N9 ⟨hx, hb, hml, hret, hlk0, hnm, hown, hts, ⟨hfr0, hlo0, hce, hsl⟩, hA, hRo, hK, hP, hD, hS, hL, hN⟩
  exact lv_lstore hx hb d hL.has hj rfl (fun ls hl => (kk0.2 p e R s m args below meth c D cy ad H locs cells slots A ls N9 ⟨hx, hb, hml, hret, hlk0, hnm, hown, hts, ⟨hfr0, hlo0, hce, hsl⟩, hA, hRo, hK, hP, hD, hS, ((hL.put2 (v := .long x) (by rfl) hl)), hN⟩))
theorem ms_astore_n (l : Launch) (ev : mv_E) : mv_r_astore_n ev (mv_P l ev) := by
  intro M pc lv st h r h' k n j x d hj kk0
  refine ⟨kk0.1, ?_⟩
  rintro p e R s m args below meth c D cy ad H locs cells slots A ls N9 ⟨hx, hb, hml, hret, hlk0, hnm, hown, hts, ⟨hfr0, hlo0, hce, hsl⟩, hA, hRo, hK, hP, hD, hS, hL, hN⟩
  exact lv_astore_n hx hb d rfl hL.has hj rfl (fun ls hl => (kk0.2 p e R s m args below meth c D cy ad H locs cells slots A ls N9 ⟨hx, hb, hml, hret, hlk0, hnm, hown, hts, ⟨hfr0, hlo0, hce, hsl⟩, hA, hRo, hK, hP, hD, hS, ((hL.put1 (v := .ref x) (by rfl) hl)), hN⟩))
theorem ms_astore (l : Launch) (ev : mv_E) : mv_r_astore ev (mv_P l ev) := by
  intro M pc lv st h r h' k n j x d hj kk0
  refine ⟨kk0.1, ?_⟩
  rintro p e R s m args below meth c D cy ad H locs cells slots A ls N9 ⟨hx, hb, hml, hret, hlk0, hnm, hown, hts, ⟨hfr0, hlo0, hce, hsl⟩, hA, hRo, hK, hP, hD, hS, hL, hN⟩
  exact lv_astore hx hb d hL.has hj rfl (fun ls hl => (kk0.2 p e R s m args below meth c D cy ad H locs cells slots A ls N9 ⟨hx, hb, hml, hret, hlk0, hnm, hown, hts, ⟨hfr0, hlo0, hce, hsl⟩, hA, hRo, hK, hP, hD, hS, ((hL.put1 (v := .ref x) (by rfl) hl)), hN⟩))
theorem ms_iinc (l : Launch) (ev : mv_E) : mv_r_iinc ev (mv_P l ev) := by
  intro M pc lv st h r h' k n j c0 x v d hl hv hj kk0
  refine ⟨kk0.1, ?_⟩
  rintro p e R s m args below meth c D cy ad H locs cells slots A ls N9 ⟨hx, hb, hml, hret, hlk0, hnm, hown, hts, ⟨hfr0, hlo0, hce, hsl⟩, hA, hRo, hK, hP, hD, hS, hL, hN⟩
  exact (by obtain ⟨q, hq⟩ := hL.place hl (by simp); exact lv_iinc hx hb d hL.has hq hv hj rfl (fun ls hl => (kk0.2 p e R s m args below meth c D cy ad H locs cells slots A ls N9 ⟨hx, hb, hml, hret, hlk0, hnm, hown, hts, ⟨hfr0, hlo0, hce, hsl⟩, hA, hRo, hK, hP, hD, hS, ((hL.put1 (v := .int v) (by rfl) hl)), hN⟩)))
theorem ms_iincW (l : Launch) (ev : mv_E) : mv_r_iincW ev (mv_P l ev) := by
  intro M pc lv st h r h' k n j c0 x v d hl hv hj kk0
  refine ⟨kk0.1, ?_⟩
  rintro p e R s m args below meth c D cy ad H locs cells slots A ls N9 ⟨hx, hb, hml, hret, hlk0, hnm, hown, hts, ⟨hfr0, hlo0, hce, hsl⟩, hA, hRo, hK, hP, hD, hS, hL, hN⟩
  exact (by obtain ⟨q, hq⟩ := hL.place hl (by simp); exact lv_iincW hx hb d hL.has hq hv hj rfl (fun ls hl => (kk0.2 p e R s m args below meth c D cy ad H locs cells slots A ls N9 ⟨hx, hb, hml, hret, hlk0, hnm, hown, hts, ⟨hfr0, hlo0, hce, hsl⟩, hA, hRo, hK, hP, hD, hS, ((hL.put1 (v := .int v) (by rfl) hl)), hN⟩)))
theorem ms_iadd (l : Launch) (ev : mv_E) : mv_r_iadd ev (mv_P l ev) := by
  intro M pc lv st h r h' k n x y d kk0
  refine ⟨kk0.1, ?_⟩
  rintro p e R s m args below meth c D cy ad H locs cells slots A ls N9 ⟨hx, hb, hml, hret, hlk0, hnm, hown, hts, ⟨hfr0, hlo0, hce, hsl⟩, hA, hRo, hK, hP, hD, hS, hL, hN⟩
  exact lv_iadd hx hb d (kk0.2 p e R s m args below meth c D cy ad H locs cells slots A ls N9 ⟨hx, hb, hml, hret, hlk0, hnm, hown, hts, ⟨hfr0, hlo0, hce, hsl⟩, hA, hRo, hK, hP, hD, hS, hL, hN⟩)
theorem ms_isub (l : Launch) (ev : mv_E) : mv_r_isub ev (mv_P l ev) := by
  intro M pc lv st h r h' k n x y d kk0
  refine ⟨kk0.1, ?_⟩
  rintro p e R s m args below meth c D cy ad H locs cells slots A ls N9 ⟨hx, hb, hml, hret, hlk0, hnm, hown, hts, ⟨hfr0, hlo0, hce, hsl⟩, hA, hRo, hK, hP, hD, hS, hL, hN⟩
  exact lv_isub hx hb d (kk0.2 p e R s m args below meth c D cy ad H locs cells slots A ls N9 ⟨hx, hb, hml, hret, hlk0, hnm, hown, hts, ⟨hfr0, hlo0, hce, hsl⟩, hA, hRo, hK, hP, hD, hS, hL, hN⟩)
theorem ms_imul (l : Launch) (ev : mv_E) : mv_r_imul ev (mv_P l ev) := by
  intro M pc lv st h r h' k n x y d kk0
  refine ⟨kk0.1, ?_⟩
  rintro p e R s m args below meth c D cy ad H locs cells slots A ls N9 ⟨hx, hb, hml, hret, hlk0, hnm, hown, hts, ⟨hfr0, hlo0, hce, hsl⟩, hA, hRo, hK, hP, hD, hS, hL, hN⟩
  exact lv_imul hx hb d (kk0.2 p e R s m args below meth c D cy ad H locs cells slots A ls N9 ⟨hx, hb, hml, hret, hlk0, hnm, hown, hts, ⟨hfr0, hlo0, hce, hsl⟩, hA, hRo, hK, hP, hD, hS, hL, hN⟩)
theorem ms_iand (l : Launch) (ev : mv_E) : mv_r_iand ev (mv_P l ev) := by
  intro M pc lv st h r h' k n x y d kk0
  refine ⟨kk0.1, ?_⟩
  rintro p e R s m args below meth c D cy ad H locs cells slots A ls N9 ⟨hx, hb, hml, hret, hlk0, hnm, hown, hts, ⟨hfr0, hlo0, hce, hsl⟩, hA, hRo, hK, hP, hD, hS, hL, hN⟩
  exact lv_iand hx hb d (kk0.2 p e R s m args below meth c D cy ad H locs cells slots A ls N9 ⟨hx, hb, hml, hret, hlk0, hnm, hown, hts, ⟨hfr0, hlo0, hce, hsl⟩, hA, hRo, hK, hP, hD, hS, hL, hN⟩)
theorem ms_ior (l : Launch) (ev : mv_E) : mv_r_ior ev (mv_P l ev) := by
  intro M pc lv st h r h' k n x y d kk0
  refine ⟨kk0.1, ?_⟩
  rintro p e R s m args below meth c D cy ad H locs cells slots A ls N9 ⟨hx, hb, hml, hret, hlk0, hnm, hown, hts, ⟨hfr0, hlo0, hce, hsl⟩, hA, hRo, hK, hP, hD, hS, hL, hN⟩
  exact lv_ior hx hb d (kk0.2 p e R s m args below meth c D cy ad H locs cells slots A ls N9 ⟨hx, hb, hml, hret, hlk0, hnm, hown, hts, ⟨hfr0, hlo0, hce, hsl⟩, hA, hRo, hK, hP, hD, hS, hL, hN⟩)
theorem ms_ishl (l : Launch) (ev : mv_E) : mv_r_ishl ev (mv_P l ev) := by
  intro M pc lv st h r h' k n x y d kk0
  refine ⟨kk0.1, ?_⟩
  rintro p e R s m args below meth c D cy ad H locs cells slots A ls N9 ⟨hx, hb, hml, hret, hlk0, hnm, hown, hts, ⟨hfr0, hlo0, hce, hsl⟩, hA, hRo, hK, hP, hD, hS, hL, hN⟩
  exact lv_ishl hx hb d (kk0.2 p e R s m args below meth c D cy ad H locs cells slots A ls N9 ⟨hx, hb, hml, hret, hlk0, hnm, hown, hts, ⟨hfr0, hlo0, hce, hsl⟩, hA, hRo, hK, hP, hD, hS, hL, hN⟩)
theorem ms_ishr (l : Launch) (ev : mv_E) : mv_r_ishr ev (mv_P l ev) := by
  intro M pc lv st h r h' k n x y d kk0
  refine ⟨kk0.1, ?_⟩
  rintro p e R s m args below meth c D cy ad H locs cells slots A ls N9 ⟨hx, hb, hml, hret, hlk0, hnm, hown, hts, ⟨hfr0, hlo0, hce, hsl⟩, hA, hRo, hK, hP, hD, hS, hL, hN⟩
  exact lv_ishr hx hb d (kk0.2 p e R s m args below meth c D cy ad H locs cells slots A ls N9 ⟨hx, hb, hml, hret, hlk0, hnm, hown, hts, ⟨hfr0, hlo0, hce, hsl⟩, hA, hRo, hK, hP, hD, hS, hL, hN⟩)
theorem ms_idiv (l : Launch) (ev : mv_E) : mv_r_idiv ev (mv_P l ev) := by
  intro M pc lv st h r h' k n x y d hne kk0
  refine ⟨kk0.1, ?_⟩
  rintro p e R s m args below meth c D cy ad H locs cells slots A ls N9 ⟨hx, hb, hml, hret, hlk0, hnm, hown, hts, ⟨hfr0, hlo0, hce, hsl⟩, hA, hRo, hK, hP, hD, hS, hL, hN⟩
  exact lv_idiv hx hb d hne (kk0.2 p e R s m args below meth c D cy ad H locs cells slots A ls N9 ⟨hx, hb, hml, hret, hlk0, hnm, hown, hts, ⟨hfr0, hlo0, hce, hsl⟩, hA, hRo, hK, hP, hD, hS, hL, hN⟩)
theorem ms_irem (l : Launch) (ev : mv_E) : mv_r_irem ev (mv_P l ev) := by
  intro M pc lv st h r h' k n x y d hne kk0
  refine ⟨kk0.1, ?_⟩
  rintro p e R s m args below meth c D cy ad H locs cells slots A ls N9 ⟨hx, hb, hml, hret, hlk0, hnm, hown, hts, ⟨hfr0, hlo0, hce, hsl⟩, hA, hRo, hK, hP, hD, hS, hL, hN⟩
  exact lv_irem hx hb d hne (kk0.2 p e R s m args below meth c D cy ad H locs cells slots A ls N9 ⟨hx, hb, hml, hret, hlk0, hnm, hown, hts, ⟨hfr0, hlo0, hce, hsl⟩, hA, hRo, hK, hP, hD, hS, hL, hN⟩)
theorem ms_ladd (l : Launch) (ev : mv_E) : mv_r_ladd ev (mv_P l ev) := by
  intro M pc lv st h r h' k n x y d kk0
  refine ⟨kk0.1, ?_⟩
  rintro p e R s m args below meth c D cy ad H locs cells slots A ls N9 ⟨hx, hb, hml, hret, hlk0, hnm, hown, hts, ⟨hfr0, hlo0, hce, hsl⟩, hA, hRo, hK, hP, hD, hS, hL, hN⟩
  exact lv_ladd hx hb d (kk0.2 p e R s m args below meth c D cy ad H locs cells slots A ls N9 ⟨hx, hb, hml, hret, hlk0, hnm, hown, hts, ⟨hfr0, hlo0, hce, hsl⟩, hA, hRo, hK, hP, hD, hS, hL, hN⟩)
theorem ms_lsub (l : Launch) (ev : mv_E) : mv_r_lsub ev (mv_P l ev) := by
  intro M pc lv st h r h' k n x y d kk0
  refine ⟨kk0.1, ?_⟩
  rintro p e R s m args below meth c D cy ad H locs cells slots A ls N9 ⟨hx, hb, hml, hret, hlk0, hnm, hown, hts, ⟨hfr0, hlo0, hce, hsl⟩, hA, hRo, hK, hP, hD, hS, hL, hN⟩
  exact lv_lsub hx hb d (kk0.2 p e R s m args below meth c D cy ad H locs cells slots A ls N9 ⟨hx, hb, hml, hret, hlk0, hnm, hown, hts, ⟨hfr0, hlo0, hce, hsl⟩, hA, hRo, hK, hP, hD, hS, hL, hN⟩)
theorem ms_lmul (l : Launch) (ev : mv_E) : mv_r_lmul ev (mv_P l ev) := by
  intro M pc lv st h r h' k n x y d kk0
  refine ⟨kk0.1, ?_⟩
  rintro p e R s m args below meth c D cy ad H locs cells slots A ls N9 ⟨hx, hb, hml, hret, hlk0, hnm, hown, hts, ⟨hfr0, hlo0, hce, hsl⟩, hA, hRo, hK, hP, hD, hS, hL, hN⟩
  exact lv_lmul hx hb d (kk0.2 p e R s m args below meth c D cy ad H locs cells slots A ls N9 ⟨hx, hb, hml, hret, hlk0, hnm, hown, hts, ⟨hfr0, hlo0, hce, hsl⟩, hA, hRo, hK, hP, hD, hS, hL, hN⟩)
theorem ms_land (l : Launch) (ev : mv_E) : mv_r_land ev (mv_P l ev) := by
  intro M pc lv st h r h' k n x y d kk0
  refine ⟨kk0.1, ?_⟩
  rintro p e R s m args below meth c D cy ad H locs cells slots A ls N9 ⟨hx, hb, hml, hret, hlk0, hnm, hown, hts, ⟨hfr0, hlo0, hce, hsl⟩, hA, hRo, hK, hP, hD, hS, hL, hN⟩
  exact lv_land hx hb d (kk0.2 p e R s m args below meth c D cy ad H locs cells slots A ls N9 ⟨hx, hb, hml, hret, hlk0, hnm, hown, hts, ⟨hfr0, hlo0, hce, hsl⟩, hA, hRo, hK, hP, hD, hS, hL, hN⟩)
theorem ms_lor (l : Launch) (ev : mv_E) : mv_r_lor ev (mv_P l ev) := by
  intro M pc lv st h r h' k n x y d kk0
  refine ⟨kk0.1, ?_⟩
  rintro p e R s m args below meth c D cy ad H locs cells slots A ls N9 ⟨hx, hb, hml, hret, hlk0, hnm, hown, hts, ⟨hfr0, hlo0, hce, hsl⟩, hA, hRo, hK, hP, hD, hS, hL, hN⟩
  exact lv_lor hx hb d (kk0.2 p e R s m args below meth c D cy ad H locs cells slots A ls N9 ⟨hx, hb, hml, hret, hlk0, hnm, hown, hts, ⟨hfr0, hlo0, hce, hsl⟩, hA, hRo, hK, hP, hD, hS, hL, hN⟩)
theorem ms_ldiv (l : Launch) (ev : mv_E) : mv_r_ldiv ev (mv_P l ev) := by
  intro M pc lv st h r h' k n x y d hne kk0
  refine ⟨kk0.1, ?_⟩
  rintro p e R s m args below meth c D cy ad H locs cells slots A ls N9 ⟨hx, hb, hml, hret, hlk0, hnm, hown, hts, ⟨hfr0, hlo0, hce, hsl⟩, hA, hRo, hK, hP, hD, hS, hL, hN⟩
  exact lv_ldiv hx hb d hne (kk0.2 p e R s m args below meth c D cy ad H locs cells slots A ls N9 ⟨hx, hb, hml, hret, hlk0, hnm, hown, hts, ⟨hfr0, hlo0, hce, hsl⟩, hA, hRo, hK, hP, hD, hS, hL, hN⟩)
theorem ms_lrem (l : Launch) (ev : mv_E) : mv_r_lrem ev (mv_P l ev) := by
  intro M pc lv st h r h' k n x y d hne kk0
  refine ⟨kk0.1, ?_⟩
  rintro p e R s m args below meth c D cy ad H locs cells slots A ls N9 ⟨hx, hb, hml, hret, hlk0, hnm, hown, hts, ⟨hfr0, hlo0, hce, hsl⟩, hA, hRo, hK, hP, hD, hS, hL, hN⟩
  exact lv_lrem hx hb d hne (kk0.2 p e R s m args below meth c D cy ad H locs cells slots A ls N9 ⟨hx, hb, hml, hret, hlk0, hnm, hown, hts, ⟨hfr0, hlo0, hce, hsl⟩, hA, hRo, hK, hP, hD, hS, hL, hN⟩)
theorem ms_ineg (l : Launch) (ev : mv_E) : mv_r_ineg ev (mv_P l ev) := by
  intro M pc lv st h r h' k n x d kk0
  refine ⟨kk0.1, ?_⟩
  rintro p e R s m args below meth c D cy ad H locs cells slots A ls N9 ⟨hx, hb, hml, hret, hlk0, hnm, hown, hts, ⟨hfr0, hlo0, hce, hsl⟩, hA, hRo, hK, hP, hD, hS, hL, hN⟩
  exact lv_ineg hx hb d (kk0.2 p e R s m args below meth c D cy ad H locs cells slots A ls N9 ⟨hx, hb, hml, hret, hlk0, hnm, hown, hts, ⟨hfr0, hlo0, hce, hsl⟩, hA, hRo, hK, hP, hD, hS, hL, hN⟩)
theorem ms_lshl (l : Launch) (ev : mv_E) : mv_r_lshl ev (mv_P l ev) := by
  intro M pc lv st h r h' k n x y d kk0
  refine ⟨kk0.1, ?_⟩
  rintro p e R s m args below meth c D cy ad H locs cells slots A ls N9 ⟨hx, hb, hml, hret, hlk0, hnm, hown, hts, ⟨hfr0, hlo0, hce, hsl⟩, hA, hRo, hK, hP, hD, hS, hL, hN⟩
  exact lv_lshl hx hb d rfl (kk0.2 p e R s m args below meth c D cy ad H locs cells slots A ls N9 ⟨hx, hb, hml, hret, hlk0, hnm, hown, hts, ⟨hfr0, hlo0, hce, hsl⟩, hA, hRo, hK, hP, hD, hS, hL, hN⟩)
theorem ms_lshr (l : Launch) (ev : mv_E) : mv_r_lshr ev (mv_P l ev) := by
  intro M pc lv st h r h' k n x y d kk0
  refine ⟨kk0.1, ?_⟩
  rintro p e R s m args below meth c D cy ad H locs cells slots A ls N9 ⟨hx, hb, hml, hret, hlk0, hnm, hown, hts, ⟨hfr0, hlo0, hce, hsl⟩, hA, hRo, hK, hP, hD, hS, hL, hN⟩
  exact lv_lshr hx hb d rfl (kk0.2 p e R s m args below meth c D cy ad H locs cells slots A ls N9 ⟨hx, hb, hml, hret, hlk0, hnm, hown, hts, ⟨hfr0, hlo0, hce, hsl⟩, hA, hRo, hK, hP, hD, hS, hL, hN⟩)
theorem ms_lushr (l : Launch) (ev : mv_E) : mv_r_lushr ev (mv_P l ev) := by
  intro M pc lv st h r h' k n x y d kk0
  refine ⟨kk0.1, ?_⟩
  rintro p e R s m args below meth c D cy ad H locs cells slots A ls N9 ⟨hx, hb, hml, hret, hlk0, hnm, hown, hts, ⟨hfr0, hlo0, hce, hsl⟩, hA, hRo, hK, hP, hD, hS, hL, hN⟩
  exact lv_lushr hx hb d rfl (kk0.2 p e R s m args below meth c D cy ad H locs cells slots A ls N9 ⟨hx, hb, hml, hret, hlk0, hnm, hown, hts, ⟨hfr0, hlo0, hce, hsl⟩, hA, hRo, hK, hP, hD, hS, hL, hN⟩)
theorem ms_i2l (l : Launch) (ev : mv_E) : mv_r_i2l ev (mv_P l ev) := by
  intro M pc lv st h r h' k n x d kk0
  refine ⟨kk0.1, ?_⟩
  rintro p e R s m args below meth c D cy ad H locs cells slots A ls N9 ⟨hx, hb, hml, hret, hlk0, hnm, hown, hts, ⟨hfr0, hlo0, hce, hsl⟩, hA, hRo, hK, hP, hD, hS, hL, hN⟩
  exact lv_i2l hx hb d rfl (kk0.2 p e R s m args below meth c D cy ad H locs cells slots A ls N9 ⟨hx, hb, hml, hret, hlk0, hnm, hown, hts, ⟨hfr0, hlo0, hce, hsl⟩, hA, hRo, hK, hP, hD, hS, hL, hN⟩)
theorem ms_l2i (l : Launch) (ev : mv_E) : mv_r_l2i ev (mv_P l ev) := by
  intro M pc lv st h r h' k n x d kk0
  refine ⟨kk0.1, ?_⟩
  rintro p e R s m args below meth c D cy ad H locs cells slots A ls N9 ⟨hx, hb, hml, hret, hlk0, hnm, hown, hts, ⟨hfr0, hlo0, hce, hsl⟩, hA, hRo, hK, hP, hD, hS, hL, hN⟩
  exact lv_l2i hx hb d rfl (kk0.2 p e R s m args below meth c D cy ad H locs cells slots A ls N9 ⟨hx, hb, hml, hret, hlk0, hnm, hown, hts, ⟨hfr0, hlo0, hce, hsl⟩, hA, hRo, hK, hP, hD, hS, hL, hN⟩)
theorem ms_i2c (l : Launch) (ev : mv_E) : mv_r_i2c ev (mv_P l ev) := by
  intro M pc lv st h r h' k n x d kk0
  refine ⟨kk0.1, ?_⟩
  rintro p e R s m args below meth c D cy ad H locs cells slots A ls N9 ⟨hx, hb, hml, hret, hlk0, hnm, hown, hts, ⟨hfr0, hlo0, hce, hsl⟩, hA, hRo, hK, hP, hD, hS, hL, hN⟩
  exact lv_i2c hx hb d rfl (kk0.2 p e R s m args below meth c D cy ad H locs cells slots A ls N9 ⟨hx, hb, hml, hret, hlk0, hnm, hown, hts, ⟨hfr0, hlo0, hce, hsl⟩, hA, hRo, hK, hP, hD, hS, hL, hN⟩)
theorem ms_lcmp (l : Launch) (ev : mv_E) : mv_r_lcmp ev (mv_P l ev) := by
  intro M pc lv st h r h' k n x y d kk0
  refine ⟨kk0.1, ?_⟩
  rintro p e R s m args below meth c D cy ad H locs cells slots A ls N9 ⟨hx, hb, hml, hret, hlk0, hnm, hown, hts, ⟨hfr0, hlo0, hce, hsl⟩, hA, hRo, hK, hP, hD, hS, hL, hN⟩
  exact W.lcmp hx hb d (kk0.2 p e R s m args below meth c D cy ad H locs cells slots A ls N9 ⟨hx, hb, hml, hret, hlk0, hnm, hown, hts, ⟨hfr0, hlo0, hce, hsl⟩, hA, hRo, hK, hP, hD, hS, hL, hN⟩)
theorem ms_icmp_eq (l : Launch) (ev : mv_E) : mv_r_icmp_eq ev (mv_P l ev) := by
  intro M pc lv st h r h' k n x y off tgt d ht kk0 kk1
  refine ⟨(by rcases Classical.em (x = y) with z | z; exact (kk0 z).1; exact (kk1 z).1), ?_⟩
  rintro p e R s m args below meth c D cy ad H locs cells slots A ls N9 ⟨hx, hb, hml, hret, hlk0, hnm, hown, hts, ⟨hfr0, hlo0, hce, hsl⟩, hA, hRo, hK, hP, hD, hS, hL, hN⟩
  exact lv_icmp_eq hx hb d ht (fun q => (kk0 q).2 p e R s m args below meth c D cy ad H locs cells slots A ls N9 ⟨hx, hb, hml, hret, hlk0, hnm, hown, hts, ⟨hfr0, hlo0, hce, hsl⟩, hA, hRo, hK, hP, hD, hS, hL, hN⟩) (fun q => (kk1 q).2 p e R s m args below meth c D cy ad H locs cells slots A ls N9 ⟨hx, hb, hml, hret, hlk0, hnm, hown, hts, ⟨hfr0, hlo0, hce, hsl⟩, hA, hRo, hK, hP, hD, hS, hL, hN⟩)
theorem ms_icmp_ne (l : Launch) (ev : mv_E) : mv_r_icmp_ne ev (mv_P l ev) := by
  intro M pc lv st h r h' k n x y off tgt d ht kk0 kk1
  refine ⟨(by rcases Classical.em (¬ x = y) with z | z; exact (kk0 z).1; exact (kk1 (Classical.byContradiction z)).1), ?_⟩
  rintro p e R s m args below meth c D cy ad H locs cells slots A ls N9 ⟨hx, hb, hml, hret, hlk0, hnm, hown, hts, ⟨hfr0, hlo0, hce, hsl⟩, hA, hRo, hK, hP, hD, hS, hL, hN⟩
  exact lv_icmp_ne hx hb d ht (fun q => (kk0 q).2 p e R s m args below meth c D cy ad H locs cells slots A ls N9 ⟨hx, hb, hml, hret, hlk0, hnm, hown, hts, ⟨hfr0, hlo0, hce, hsl⟩, hA, hRo, hK, hP, hD, hS, hL, hN⟩) (fun q => (kk1 q).2 p e R s m args below meth c D cy ad H locs cells slots A ls N9 ⟨hx, hb, hml, hret, hlk0, hnm, hown, hts, ⟨hfr0, hlo0, hce, hsl⟩, hA, hRo, hK, hP, hD, hS, hL, hN⟩)
theorem ms_icmp_lt (l : Launch) (ev : mv_E) : mv_r_icmp_lt ev (mv_P l ev) := by
  intro M pc lv st h r h' k n x y off tgt d ht kk0 kk1
  refine ⟨(by rcases Classical.em (x < y) with z | z; exact (kk0 z).1; exact (kk1 z).1), ?_⟩
  rintro p e R s m args below meth c D cy ad H locs cells slots A ls N9 ⟨hx, hb, hml, hret, hlk0, hnm, hown, hts, ⟨hfr0, hlo0, hce, hsl⟩, hA, hRo, hK, hP, hD, hS, hL, hN⟩
  exact lv_icmp_lt hx hb d ht (fun q => (kk0 q).2 p e R s m args below meth c D cy ad H locs cells slots A ls N9 ⟨hx, hb, hml, hret, hlk0, hnm, hown, hts, ⟨hfr0, hlo0, hce, hsl⟩, hA, hRo, hK, hP, hD, hS, hL, hN⟩) (fun q => (kk1 q).2 p e R s m args below meth c D cy ad H locs cells slots A ls N9 ⟨hx, hb, hml, hret, hlk0, hnm, hown, hts, ⟨hfr0, hlo0, hce, hsl⟩, hA, hRo, hK, hP, hD, hS, hL, hN⟩)
theorem ms_icmp_ge (l : Launch) (ev : mv_E) : mv_r_icmp_ge ev (mv_P l ev) := by
  intro M pc lv st h r h' k n x y off tgt d ht kk0 kk1
  refine ⟨(by rcases Classical.em (y ≤ x) with z | z; exact (kk0 z).1; exact (kk1 z).1), ?_⟩
  rintro p e R s m args below meth c D cy ad H locs cells slots A ls N9 ⟨hx, hb, hml, hret, hlk0, hnm, hown, hts, ⟨hfr0, hlo0, hce, hsl⟩, hA, hRo, hK, hP, hD, hS, hL, hN⟩
  exact lv_icmp_ge hx hb d ht (fun q => (kk0 q).2 p e R s m args below meth c D cy ad H locs cells slots A ls N9 ⟨hx, hb, hml, hret, hlk0, hnm, hown, hts, ⟨hfr0, hlo0, hce, hsl⟩, hA, hRo, hK, hP, hD, hS, hL, hN⟩) (fun q => (kk1 q).2 p e R s m args below meth c D cy ad H locs cells slots A ls N9 ⟨hx, hb, hml, hret, hlk0, hnm, hown, hts, ⟨hfr0, hlo0, hce, hsl⟩, hA, hRo, hK, hP, hD, hS, hL, hN⟩)
theorem ms_icmp_gt (l : Launch) (ev : mv_E) : mv_r_icmp_gt ev (mv_P l ev) := by
  intro M pc lv st h r h' k n x y off tgt d ht kk0 kk1
  refine ⟨(by rcases Classical.em (y < x) with z | z; exact (kk0 z).1; exact (kk1 z).1), ?_⟩
  rintro p e R s m args below meth c D cy ad H locs cells slots A ls N9 ⟨hx, hb, hml, hret, hlk0, hnm, hown, hts, ⟨hfr0, hlo0, hce, hsl⟩, hA, hRo, hK, hP, hD, hS, hL, hN⟩
  exact lv_icmp_gt hx hb d ht (fun q => (kk0 q).2 p e R s m args below meth c D cy ad H locs cells slots A ls N9 ⟨hx, hb, hml, hret, hlk0, hnm, hown, hts, ⟨hfr0, hlo0, hce, hsl⟩, hA, hRo, hK, hP, hD, hS, hL, hN⟩) (fun q => (kk1 q).2 p e R s m args below meth c D cy ad H locs cells slots A ls N9 ⟨hx, hb, hml, hret, hlk0, hnm, hown, hts, ⟨hfr0, hlo0, hce, hsl⟩, hA, hRo, hK, hP, hD, hS, hL, hN⟩)
theorem ms_icmp_le (l : Launch) (ev : mv_E) : mv_r_icmp_le ev (mv_P l ev) := by
  intro M pc lv st h r h' k n x y off tgt d ht kk0 kk1
  refine ⟨(by rcases Classical.em (x ≤ y) with z | z; exact (kk0 z).1; exact (kk1 z).1), ?_⟩
  rintro p e R s m args below meth c D cy ad H locs cells slots A ls N9 ⟨hx, hb, hml, hret, hlk0, hnm, hown, hts, ⟨hfr0, hlo0, hce, hsl⟩, hA, hRo, hK, hP, hD, hS, hL, hN⟩
  exact lv_icmp_le hx hb d ht (fun q => (kk0 q).2 p e R s m args below meth c D cy ad H locs cells slots A ls N9 ⟨hx, hb, hml, hret, hlk0, hnm, hown, hts, ⟨hfr0, hlo0, hce, hsl⟩, hA, hRo, hK, hP, hD, hS, hL, hN⟩) (fun q => (kk1 q).2 p e R s m args below meth c D cy ad H locs cells slots A ls N9 ⟨hx, hb, hml, hret, hlk0, hnm, hown, hts, ⟨hfr0, hlo0, hce, hsl⟩, hA, hRo, hK, hP, hD, hS, hL, hN⟩)
theorem ms_if_eq (l : Launch) (ev : mv_E) : mv_r_if_eq ev (mv_P l ev) := by
  intro M pc lv st h r h' k n x off tgt d ht kk0 kk1
  refine ⟨(by rcases Classical.em (x = 0) with z | z; exact (kk0 z).1; exact (kk1 z).1), ?_⟩
  rintro p e R s m args below meth c D cy ad H locs cells slots A ls N9 ⟨hx, hb, hml, hret, hlk0, hnm, hown, hts, ⟨hfr0, hlo0, hce, hsl⟩, hA, hRo, hK, hP, hD, hS, hL, hN⟩
  exact lv_if_eq hx hb d ht (fun q => (kk0 q).2 p e R s m args below meth c D cy ad H locs cells slots A ls N9 ⟨hx, hb, hml, hret, hlk0, hnm, hown, hts, ⟨hfr0, hlo0, hce, hsl⟩, hA, hRo, hK, hP, hD, hS, hL, hN⟩) (fun q => (kk1 q).2 p e R s m args below meth c D cy ad H locs cells slots A ls N9 ⟨hx, hb, hml, hret, hlk0, hnm, hown, hts, ⟨hfr0, hlo0, hce, hsl⟩, hA, hRo, hK, hP, hD, hS, hL, hN⟩)
theorem ms_if_ne (l : Launch) (ev : mv_E) : mv_r_if_ne ev (mv_P l ev) := by
  intro M pc lv st h r h' k n x off tgt d ht kk0 kk1
  refine ⟨(by rcases Classical.em (¬ x = 0) with z | z; exact (kk0 z).1; exact (kk1 (Classical.byContradiction z)).1), ?_⟩
  rintro p e R s m args below meth c D cy ad H locs cells slots A ls N9 ⟨hx, hb, hml, hret, hlk0, hnm, hown, hts, ⟨hfr0, hlo0, hce, hsl⟩, hA, hRo, hK, hP, hD, hS, hL, hN⟩
  exact lv_if_ne hx hb d ht (fun q => (kk0 q).2 p e R s m args below meth c D cy ad H locs cells slots A ls N9 ⟨hx, hb, hml, hret, hlk0, hnm, hown, hts, ⟨hfr0, hlo0, hce, hsl⟩, hA, hRo, hK, hP, hD, hS, hL, hN⟩) (fun q => (kk1 q).2 p e R s m args below meth c D cy ad H locs cells slots A ls N9 ⟨hx, hb, hml, hret, hlk0, hnm, hown, hts, ⟨hfr0, hlo0, hce, hsl⟩, hA, hRo, hK, hP, hD, hS, hL, hN⟩)
theorem ms_if_lt (l : Launch) (ev : mv_E) : mv_r_if_lt ev (mv_P l ev) := by
  intro M pc lv st h r h' k n x off tgt d ht kk0 kk1
  refine ⟨(by rcases Classical.em (x < 0) with z | z; exact (kk0 z).1; exact (kk1 z).1), ?_⟩
  rintro p e R s m args below meth c D cy ad H locs cells slots A ls N9 ⟨hx, hb, hml, hret, hlk0, hnm, hown, hts, ⟨hfr0, hlo0, hce, hsl⟩, hA, hRo, hK, hP, hD, hS, hL, hN⟩
  exact lv_if_lt hx hb d ht (fun q => (kk0 q).2 p e R s m args below meth c D cy ad H locs cells slots A ls N9 ⟨hx, hb, hml, hret, hlk0, hnm, hown, hts, ⟨hfr0, hlo0, hce, hsl⟩, hA, hRo, hK, hP, hD, hS, hL, hN⟩) (fun q => (kk1 q).2 p e R s m args below meth c D cy ad H locs cells slots A ls N9 ⟨hx, hb, hml, hret, hlk0, hnm, hown, hts, ⟨hfr0, hlo0, hce, hsl⟩, hA, hRo, hK, hP, hD, hS, hL, hN⟩)
theorem ms_if_ge (l : Launch) (ev : mv_E) : mv_r_if_ge ev (mv_P l ev) := by
  intro M pc lv st h r h' k n x off tgt d ht kk0 kk1
  refine ⟨(by rcases Classical.em (0 ≤ x) with z | z; exact (kk0 z).1; exact (kk1 z).1), ?_⟩
  rintro p e R s m args below meth c D cy ad H locs cells slots A ls N9 ⟨hx, hb, hml, hret, hlk0, hnm, hown, hts, ⟨hfr0, hlo0, hce, hsl⟩, hA, hRo, hK, hP, hD, hS, hL, hN⟩
  exact lv_if_ge hx hb d ht (fun q => (kk0 q).2 p e R s m args below meth c D cy ad H locs cells slots A ls N9 ⟨hx, hb, hml, hret, hlk0, hnm, hown, hts, ⟨hfr0, hlo0, hce, hsl⟩, hA, hRo, hK, hP, hD, hS, hL, hN⟩) (fun q => (kk1 q).2 p e R s m args below meth c D cy ad H locs cells slots A ls N9 ⟨hx, hb, hml, hret, hlk0, hnm, hown, hts, ⟨hfr0, hlo0, hce, hsl⟩, hA, hRo, hK, hP, hD, hS, hL, hN⟩)
theorem ms_if_gt (l : Launch) (ev : mv_E) : mv_r_if_gt ev (mv_P l ev) := by
  intro M pc lv st h r h' k n x off tgt d ht kk0 kk1
  refine ⟨(by rcases Classical.em (0 < x) with z | z; exact (kk0 z).1; exact (kk1 z).1), ?_⟩
  rintro p e R s m args below meth c D cy ad H locs cells slots A ls N9 ⟨hx, hb, hml, hret, hlk0, hnm, hown, hts, ⟨hfr0, hlo0, hce, hsl⟩, hA, hRo, hK, hP, hD, hS, hL, hN⟩
  exact lv_if_gt hx hb d ht (fun q => (kk0 q).2 p e R s m args below meth c D cy ad H locs cells slots A ls N9 ⟨hx, hb, hml, hret, hlk0, hnm, hown, hts, ⟨hfr0, hlo0, hce, hsl⟩, hA, hRo, hK, hP, hD, hS, hL, hN⟩) (fun q => (kk1 q).2 p e R s m args below meth c D cy ad H locs cells slots A ls N9 ⟨hx, hb, hml, hret, hlk0, hnm, hown, hts, ⟨hfr0, hlo0, hce, hsl⟩, hA, hRo, hK, hP, hD, hS, hL, hN⟩)
theorem ms_if_le (l : Launch) (ev : mv_E) : mv_r_if_le ev (mv_P l ev) := by
  intro M pc lv st h r h' k n x off tgt d ht kk0 kk1
  refine ⟨(by rcases Classical.em (x ≤ 0) with z | z; exact (kk0 z).1; exact (kk1 z).1), ?_⟩
  rintro p e R s m args below meth c D cy ad H locs cells slots A ls N9 ⟨hx, hb, hml, hret, hlk0, hnm, hown, hts, ⟨hfr0, hlo0, hce, hsl⟩, hA, hRo, hK, hP, hD, hS, hL, hN⟩
  exact lv_if_le hx hb d ht (fun q => (kk0 q).2 p e R s m args below meth c D cy ad H locs cells slots A ls N9 ⟨hx, hb, hml, hret, hlk0, hnm, hown, hts, ⟨hfr0, hlo0, hce, hsl⟩, hA, hRo, hK, hP, hD, hS, hL, hN⟩) (fun q => (kk1 q).2 p e R s m args below meth c D cy ad H locs cells slots A ls N9 ⟨hx, hb, hml, hret, hlk0, hnm, hown, hts, ⟨hfr0, hlo0, hce, hsl⟩, hA, hRo, hK, hP, hD, hS, hL, hN⟩)
theorem ms_goto (l : Launch) (ev : mv_E) : mv_r_goto ev (mv_P l ev) := by
  intro M pc lv st h r h' k n off tgt d ht kk0
  refine ⟨kk0.1, ?_⟩
  rintro p e R s m args below meth c D cy ad H locs cells slots A ls N9 ⟨hx, hb, hml, hret, hlk0, hnm, hown, hts, ⟨hfr0, hlo0, hce, hsl⟩, hA, hRo, hK, hP, hD, hS, hL, hN⟩
  exact lv_goto hx hb d ht (kk0.2 p e R s m args below meth c D cy ad H locs cells slots A ls N9 ⟨hx, hb, hml, hret, hlk0, hnm, hown, hts, ⟨hfr0, hlo0, hce, hsl⟩, hA, hRo, hK, hP, hD, hS, hL, hN⟩)
theorem ms_dup (l : Launch) (ev : mv_E) : mv_r_dup ev (mv_P l ev) := by
  intro M pc lv st h r h' k n x d hc kk0
  refine ⟨kk0.1, ?_⟩
  rintro p e R s m args below meth c D cy ad H locs cells slots A ls N9 ⟨hx, hb, hml, hret, hlk0, hnm, hown, hts, ⟨hfr0, hlo0, hce, hsl⟩, hA, hRo, hK, hP, hD, hS, hL, hN⟩
  exact lv_dup hx hb d (by rw [mv_v_cat]; exact hc) (kk0.2 p e R s m args below meth c D cy ad H locs cells slots A ls N9 ⟨hx, hb, hml, hret, hlk0, hnm, hown, hts, ⟨hfr0, hlo0, hce, hsl⟩, hA, hRo, hK, hP, hD, hS, hL, hN⟩)
theorem ms_dup2 (l : Launch) (ev : mv_E) : mv_r_dup2 ev (mv_P l ev) := by
  intro M pc lv st h r h' k n x y d hc hc2 kk0
  refine ⟨kk0.1, ?_⟩
  rintro p e R s m args below meth c D cy ad H locs cells slots A ls N9 ⟨hx, hb, hml, hret, hlk0, hnm, hown, hts, ⟨hfr0, hlo0, hce, hsl⟩, hA, hRo, hK, hP, hD, hS, hL, hN⟩
  exact lv_dup2_11 hx hb d (by rw [mv_v_cat]; exact hc) (by rw [mv_v_cat]; exact hc2) (kk0.2 p e R s m args below meth c D cy ad H locs cells slots A ls N9 ⟨hx, hb, hml, hret, hlk0, hnm, hown, hts, ⟨hfr0, hlo0, hce, hsl⟩, hA, hRo, hK, hP, hD, hS, hL, hN⟩)
theorem ms_pop (l : Launch) (ev : mv_E) : mv_r_pop ev (mv_P l ev) := by
  intro M pc lv st h r h' k n x d hc kk0
  refine ⟨kk0.1, ?_⟩
  rintro p e R s m args below meth c D cy ad H locs cells slots A ls N9 ⟨hx, hb, hml, hret, hlk0, hnm, hown, hts, ⟨hfr0, hlo0, hce, hsl⟩, hA, hRo, hK, hP, hD, hS, hL, hN⟩
  exact lv_pop hx hb d (by rw [mv_v_cat]; exact hc) (kk0.2 p e R s m args below meth c D cy ad H locs cells slots A ls N9 ⟨hx, hb, hml, hret, hlk0, hnm, hown, hts, ⟨hfr0, hlo0, hce, hsl⟩, hA, hRo, hK, hP, hD, hS, hL, hN⟩)
theorem ms_getf (l : Launch) (ev : mv_E) : mv_r_getf ev (mv_P l ev) := by
  intro M pc lv st h r h' k n a ci f N idx fs C T v d hh hc hf hw hv kk0
  refine ⟨kk0.1, ?_⟩
  rintro p e R s m args below meth c D cy ad H locs cells slots A ls N9 ⟨hx, hb, hml, hret, hlk0, hnm, hown, hts, ⟨hfr0, hlo0, hce, hsl⟩, hA, hRo, hK, hP, hD, hS, hL, hN⟩
  exact va_get (D := D) (ci := ci) (C := C) (T := T) (N := N) hx hb hts (mv_cl hc).1 hown hK hP a (mv_w_getO hh) hc f hf (hts _ hw) (fun _ q => q) (mv_map_get hv) d (kk0.2 p e R s m args below meth c D cy ad H locs cells slots A ls N9 ⟨hx, hb, hml, hret, hlk0, hnm, hown, hts, ⟨hfr0, hlo0, hce, hsl⟩, hA, hRo, hK, hP, hD, hS, hL, hN⟩)
theorem ms_putf (l : Launch) (ev : mv_E) : mv_r_putf ev (mv_P l ev) := by
  intro M pc lv st h r h' k n a ci f N idx fs C T v ty d hh hc hf hw hfin ht hn hl kk0
  refine ⟨(by simpa using kk0.1), ?_⟩
  rintro p e R s m args below meth c D cy ad H locs cells slots A ls N9 ⟨hx, hb, hml, hret, hlk0, hnm, hown, hts, ⟨hfr0, hlo0, hce, hsl⟩, hA, hRo, hK, hP, hD, hS, hL, hN⟩
  exact (by obtain ⟨ty0, hty⟩ := (mv_cl hc).2.1; exact va_put (D := D) (ci := ci) (C := C) (T := T) (N := N) hx hb hts (mv_cl hc).1 ty0 hty (mv_cl hc).2.2 hown hK hP hD hS a (mv_w_getO hh) hc f hf (hts _ hw) (fun _ q => q) hfin ht (hn ad).1 (hn ad).2 (by simpa using hl) d (fun H1 locs1 hP1 hD1 hS1 => (kk0.2 p e R s m args below meth c D cy ad H1 locs1 cells slots A ls N9 ⟨hx, hb, hml, hret, hlk0, hnm, hown, hts, ⟨hfr0, hlo0, hce, hsl⟩, hA, hRo, hK, ((mv_w_setO hP1)), ((mv_w_setOD hD1)), hS1, hL, (by simpa using hN)⟩)))
theorem ms_putF (l : Launch) (ev : mv_E) : mv_r_putF ev (mv_P l ev) := by
  intro M pc lv st h r h' k n a ci f N idx fs C T v ty d hh hc hf hw hfin hi ho ht hn hl kk0
  refine ⟨(by simpa using kk0.1), ?_⟩
  rintro p e R s m args below meth c D cy ad H locs cells slots A ls N9 ⟨hx, hb, hml, hret, hlk0, hnm, hown, hts, ⟨hfr0, hlo0, hce, hsl⟩, hA, hRo, hK, hP, hD, hS, hL, hN⟩
  exact (by obtain ⟨ty0, hty⟩ := (mv_cl hc).2.1; exact va_putF (D := D) (ci := ci) (C := C) (T := T) (N := N) hx hb hts (mv_cl hc).1 ty0 hty (mv_cl hc).2.2 hown hK hP hD hS a (mv_w_getO hh) hc f hf (hts _ hw) (fun _ q => q) hfin (hnm hi) ho ht (hn ad).1 (hn ad).2 (by simpa using hl) d (fun H1 locs1 hP1 hD1 hS1 => (kk0.2 p e R s m args below meth c D cy ad H1 locs1 cells slots A ls N9 ⟨hx, hb, hml, hret, hlk0, hnm, hown, hts, ⟨hfr0, hlo0, hce, hsl⟩, hA, hRo, hK, ((mv_w_setO hP1)), ((mv_w_setOD hD1)), hS1, hL, (by simpa using hN)⟩)))
theorem ms_getc (l : Launch) (ev : mv_E) : mv_r_getc ev (mv_P l ev) := by
  intro M pc lv st h r h' k n i b idx d hr hw kk0
  refine ⟨kk0.1, ?_⟩
  rintro p e R s m args below meth c D cy ad H locs cells slots A ls N9 ⟨hx, hb, hml, hret, hlk0, hnm, hown, hts, ⟨hfr0, hlo0, hce, hsl⟩, hA, hRo, hK, hP, hD, hS, hL, hN⟩
  exact vk_getf hx hb (hRo.2.2.1 _ _ hr).2.1 hS hown (hts _ hw) (fun _ q => q) d (kk0.2 p e R s m args below meth c D cy ad H locs cells slots A ls N9 ⟨hx, hb, hml, hret, hlk0, hnm, hown, hts, ⟨hfr0, hlo0, hce, hsl⟩, hA, hRo, hK, hP, hD, hS, hL, hN⟩)
theorem ms_getv (l : Launch) (ev : mv_E) : mv_r_getv ev (mv_P l ev) := by
  intro M pc lv st h r h' k n i b idx d hr hw kk0
  refine ⟨kk0.1, ?_⟩
  rintro p e R s m args below meth c D cy ad H locs cells slots A ls N9 ⟨hx, hb, hml, hret, hlk0, hnm, hown, hts, ⟨hfr0, hlo0, hce, hsl⟩, hA, hRo, hK, hP, hD, hS, hL, hN⟩
  exact vk_getf hx hb (hRo.2.2.1 _ _ hr).2.2 hS hown (hts _ hw) (fun _ q => q) d (kk0.2 p e R s m args below meth c D cy ad H locs cells slots A ls N9 ⟨hx, hb, hml, hret, hlk0, hnm, hown, hts, ⟨hfr0, hlo0, hce, hsl⟩, hA, hRo, hK, hP, hD, hS, hL, hN⟩)
theorem ms_gets (l : Launch) (ev : mv_E) : mv_r_gets ev (mv_P l ev) := by
  intro M pc lv st h r h' k n idx C nm ds v d hr hw kk0
  refine ⟨kk0.1, ?_⟩
  rintro p e R s m args below meth c D cy ad H locs cells slots A ls N9 ⟨hx, hb, hml, hret, hlk0, hnm, hown, hts, ⟨hfr0, hlo0, hce, hsl⟩, hA, hRo, hK, hP, hD, hS, hL, hN⟩
  exact va_gets hx hb (hRo.2.2.2.1 _ _ _ _ hr) hS hown (hts _ hw) (fun _ q => q) d (kk0.2 p e R s m args below meth c D cy ad H locs cells slots A ls N9 ⟨hx, hb, hml, hret, hlk0, hnm, hown, hts, ⟨hfr0, hlo0, hce, hsl⟩, hA, hRo, hK, hP, hD, hS, hL, hN⟩)
theorem ms_getsN (l : Launch) (ev : mv_E) : mv_r_getsN ev (mv_P l ev) := by
  intro M pc lv st h r h' k n idx C nm ds v d hr hw kk0
  refine ⟨kk0.1, ?_⟩
  rintro p e R s m args below meth c D cy ad H locs cells slots A ls N9 ⟨hx, hb, hml, hret, hlk0, hnm, hown, hts, ⟨hfr0, hlo0, hce, hsl⟩, hA, hRo, hK, hP, hD, hS, hL, hN⟩
  exact va_getsN hx hb (hRo.2.2.2.1 _ _ _ _ hr) hS hown (va_Nw.use rfl (hRo.2.2.2.2.2.1 _ hw)) (fun _ q => q) d (kk0.2 p e R s m args below meth c D cy ad H locs cells slots A ls N9 ⟨hx, hb, hml, hret, hlk0, hnm, hown, hts, ⟨hfr0, hlo0, hce, hsl⟩, hA, hRo, hK, hP, hD, hS, hL, hN⟩)
theorem ms_iald (l : Launch) (ev : mv_E) : mv_r_iald ev (mv_P l ev) := by
  intro M pc lv st h r h' k n a n0 f i d hh hi kk0
  refine ⟨kk0.1, ?_⟩
  rintro p e R s m args below meth c D cy ad H locs cells slots A ls N9 ⟨hx, hb, hml, hret, hlk0, hnm, hown, hts, ⟨hfr0, hlo0, hce, hsl⟩, hA, hRo, hK, hP, hD, hS, hL, hN⟩
  exact va_iald hx hb hK hP a 0 (mv_w_getA hh) rfl hi d (kk0.2 p e R s m args below meth c D cy ad H locs cells slots A ls N9 ⟨hx, hb, hml, hret, hlk0, hnm, hown, hts, ⟨hfr0, hlo0, hce, hsl⟩, hA, hRo, hK, hP, hD, hS, hL, hN⟩)
theorem ms_lald (l : Launch) (ev : mv_E) : mv_r_lald ev (mv_P l ev) := by
  intro M pc lv st h r h' k n a n0 f i d hh hi kk0
  refine ⟨kk0.1, ?_⟩
  rintro p e R s m args below meth c D cy ad H locs cells slots A ls N9 ⟨hx, hb, hml, hret, hlk0, hnm, hown, hts, ⟨hfr0, hlo0, hce, hsl⟩, hA, hRo, hK, hP, hD, hS, hL, hN⟩
  exact va_lald hx hb hK hP a 1 (mv_w_getA hh) rfl hi d (kk0.2 p e R s m args below meth c D cy ad H locs cells slots A ls N9 ⟨hx, hb, hml, hret, hlk0, hnm, hown, hts, ⟨hfr0, hlo0, hce, hsl⟩, hA, hRo, hK, hP, hD, hS, hL, hN⟩)
theorem ms_zald (l : Launch) (ev : mv_E) : mv_r_zald ev (mv_P l ev) := by
  intro M pc lv st h r h' k n a n0 f i d hh hi kk0
  refine ⟨kk0.1, ?_⟩
  rintro p e R s m args below meth c D cy ad H locs cells slots A ls N9 ⟨hx, hb, hml, hret, hlk0, hnm, hown, hts, ⟨hfr0, hlo0, hce, hsl⟩, hA, hRo, hK, hP, hD, hS, hL, hN⟩
  exact va_zald hx hb hK hP a 2 (mv_w_getA hh) rfl hi d (kk0.2 p e R s m args below meth c D cy ad H locs cells slots A ls N9 ⟨hx, hb, hml, hret, hlk0, hnm, hown, hts, ⟨hfr0, hlo0, hce, hsl⟩, hA, hRo, hK, hP, hD, hS, hL, hN⟩)
theorem ms_iast (l : Launch) (ev : mv_E) : mv_r_iast ev (mv_P l ev) := by
  intro M pc lv st h r h' k n a n0 f i x d hh hi kk0
  refine ⟨(by simpa using kk0.1), ?_⟩
  rintro p e R s m args below meth c D cy ad H locs cells slots A ls N9 ⟨hx, hb, hml, hret, hlk0, hnm, hown, hts, ⟨hfr0, hlo0, hce, hsl⟩, hA, hRo, hK, hP, hD, hS, hL, hN⟩
  exact va_iast hx hb hK hP hD hS a 0 (mv_w_getA hh) rfl hi d (fun H1 locs1 hP1 hD1 hS1 => (kk0.2 p e R s m args below meth c D cy ad H1 locs1 cells slots A ls N9 ⟨hx, hb, hml, hret, hlk0, hnm, hown, hts, ⟨hfr0, hlo0, hce, hsl⟩, hA, hRo, hK, ((mv_w_setA hP1)), ((mv_w_setAD hD1)), hS1, hL, (by simpa using hN)⟩))
theorem ms_last (l : Launch) (ev : mv_E) : mv_r_last ev (mv_P l ev) := by
  intro M pc lv st h r h' k n a n0 f i x d hh hi kk0
  refine ⟨(by simpa using kk0.1), ?_⟩
  rintro p e R s m args below meth c D cy ad H locs cells slots A ls N9 ⟨hx, hb, hml, hret, hlk0, hnm, hown, hts, ⟨hfr0, hlo0, hce, hsl⟩, hA, hRo, hK, hP, hD, hS, hL, hN⟩
  exact va_last hx hb hK hP hD hS a 1 (mv_w_getA hh) rfl hi d (fun H1 locs1 hP1 hD1 hS1 => (kk0.2 p e R s m args below meth c D cy ad H1 locs1 cells slots A ls N9 ⟨hx, hb, hml, hret, hlk0, hnm, hown, hts, ⟨hfr0, hlo0, hce, hsl⟩, hA, hRo, hK, ((mv_w_setA hP1)), ((mv_w_setAD hD1)), hS1, hL, (by simpa using hN)⟩))
theorem ms_zast (l : Launch) (ev : mv_E) : mv_r_zast ev (mv_P l ev) := by
  intro M pc lv st h r h' k n a n0 f i x d hh hi kk0
  refine ⟨(by simpa using kk0.1), ?_⟩
  rintro p e R s m args below meth c D cy ad H locs cells slots A ls N9 ⟨hx, hb, hml, hret, hlk0, hnm, hown, hts, ⟨hfr0, hlo0, hce, hsl⟩, hA, hRo, hK, hP, hD, hS, hL, hN⟩
  exact va_zast hx hb hK hP hD hS a 2 (mv_w_getA hh) rfl hi d (fun H1 locs1 hP1 hD1 hS1 => (kk0.2 p e R s m args below meth c D cy ad H1 locs1 cells slots A ls N9 ⟨hx, hb, hml, hret, hlk0, hnm, hown, hts, ⟨hfr0, hlo0, hce, hsl⟩, hA, hRo, hK, ((mv_w_setA hP1)), ((mv_w_setAD hD1)), hS1, hL, (by simpa using hN)⟩))
theorem ms_alen (l : Launch) (ev : mv_E) : mv_r_alen ev (mv_P l ev) := by
  intro M pc lv st h r h' k n a t x d hh ht kk0
  refine ⟨kk0.1, ?_⟩
  rintro p e R s m args below meth c D cy ad H locs cells slots A ls N9 ⟨hx, hb, hml, hret, hlk0, hnm, hown, hts, ⟨hfr0, hlo0, hce, hsl⟩, hA, hRo, hK, hP, hD, hS, hL, hN⟩
  exact (by obtain ⟨ty, hty⟩ := mv_tys_get cy ht; exact va_alen hx hb hK hP a t (mv_w_getA hh) hty rfl d (kk0.2 p e R s m args below meth c D cy ad H locs cells slots A ls N9 ⟨hx, hb, hml, hret, hlk0, hnm, hown, hts, ⟨hfr0, hlo0, hce, hsl⟩, hA, hRo, hK, hP, hD, hS, hL, hN⟩))
theorem ms_rald (l : Launch) (ev : mv_E) : mv_r_rald ev (mv_P l ev) := by
  intro M pc lv st h r h' k n a n0 f i d hr hi kk0
  refine ⟨kk0.1, ?_⟩
  rintro p e R s m args below meth c D cy ad H locs cells slots A ls N9 ⟨hx, hb, hml, hret, hlk0, hnm, hown, hts, ⟨hfr0, hlo0, hce, hsl⟩, hA, hRo, hK, hP, hD, hS, hL, hN⟩
  exact (by obtain ⟨z1, z2, z3⟩ := hRo.1 _ _ _ hr; exact va_sld hx hb z1 z2 z3 hS hi d (kk0.2 p e R s m args below meth c D cy ad H locs cells slots A ls N9 ⟨hx, hb, hml, hret, hlk0, hnm, hown, hts, ⟨hfr0, hlo0, hce, hsl⟩, hA, hRo, hK, hP, hD, hS, hL, hN⟩))
theorem ms_rlen (l : Launch) (ev : mv_E) : mv_r_rlen ev (mv_P l ev) := by
  intro M pc lv st h r h' k n a n0 f d hr kk0
  refine ⟨kk0.1, ?_⟩
  rintro p e R s m args below meth c D cy ad H locs cells slots A ls N9 ⟨hx, hb, hml, hret, hlk0, hnm, hown, hts, ⟨hfr0, hlo0, hce, hsl⟩, hA, hRo, hK, hP, hD, hS, hL, hN⟩
  exact (by obtain ⟨z1, z2, z3⟩ := hRo.1 _ _ _ hr; exact va_slen hx hb z1 z2 z3 hS d (kk0.2 p e R s m args below meth c D cy ad H locs cells slots A ls N9 ⟨hx, hb, hml, hret, hlk0, hnm, hown, hts, ⟨hfr0, hlo0, hce, hsl⟩, hA, hRo, hK, hP, hD, hS, hL, hN⟩))
theorem ms_bald (l : Launch) (ev : mv_E) : mv_r_bald ev (mv_P l ev) := by
  intro M pc lv st h r h' k n a n0 f i d hr hi kk0
  refine ⟨kk0.1, ?_⟩
  rintro p e R s m args below meth c D cy ad H locs cells slots A ls N9 ⟨hx, hb, hml, hret, hlk0, hnm, hown, hts, ⟨hfr0, hlo0, hce, hsl⟩, hA, hRo, hK, hP, hD, hS, hL, hN⟩
  exact va_tb hx hb (hRo.2.1 _ _ _ hr) hS hi rfl d (kk0.2 p e R s m args below meth c D cy ad H locs cells slots A ls N9 ⟨hx, hb, hml, hret, hlk0, hnm, hown, hts, ⟨hfr0, hlo0, hce, hsl⟩, hA, hRo, hK, hP, hD, hS, hL, hN⟩)
theorem ms_blen (l : Launch) (ev : mv_E) : mv_r_blen ev (mv_P l ev) := by
  intro M pc lv st h r h' k n a n0 f d hr kk0
  refine ⟨kk0.1, ?_⟩
  rintro p e R s m args below meth c D cy ad H locs cells slots A ls N9 ⟨hx, hb, hml, hret, hlk0, hnm, hown, hts, ⟨hfr0, hlo0, hce, hsl⟩, hA, hRo, hK, hP, hD, hS, hL, hN⟩
  exact va_tlen hx hb (hRo.2.1 _ _ _ hr) hS rfl d (kk0.2 p e R s m args below meth c D cy ad H locs cells slots A ls N9 ⟨hx, hb, hml, hret, hlk0, hnm, hown, hts, ⟨hfr0, hlo0, hce, hsl⟩, hA, hRo, hK, hP, hD, hS, hL, hN⟩)
theorem ms_tswOut (l : Launch) (ev : mv_E) : mv_r_tswOut ev (mv_P l ev) := by
  intro M pc lv st h r h' k n dflt lo hi offs len x tgt d hq ht kk0
  refine ⟨kk0.1, ?_⟩
  rintro p e R s m args below meth c D cy ad H locs cells slots A ls N9 ⟨hx, hb, hml, hret, hlk0, hnm, hown, hts, ⟨hfr0, hlo0, hce, hsl⟩, hA, hRo, hK, hP, hD, hS, hL, hN⟩
  exact lv_tableOut hx hb d hq ht (kk0.2 p e R s m args below meth c D cy ad H locs cells slots A ls N9 ⟨hx, hb, hml, hret, hlk0, hnm, hown, hts, ⟨hfr0, hlo0, hce, hsl⟩, hA, hRo, hK, hP, hD, hS, hL, hN⟩)
theorem ms_tswIn (l : Launch) (ev : mv_E) : mv_r_tswIn ev (mv_P l ev) := by
  intro M pc lv st h r h' k n dflt lo hi offs len x off tgt d hq hq2 ho ht kk0
  refine ⟨kk0.1, ?_⟩
  rintro p e R s m args below meth c D cy ad H locs cells slots A ls N9 ⟨hx, hb, hml, hret, hlk0, hnm, hown, hts, ⟨hfr0, hlo0, hce, hsl⟩, hA, hRo, hK, hP, hD, hS, hL, hN⟩
  exact lv_tableIn hx hb d hq hq2 ho ht (kk0.2 p e R s m args below meth c D cy ad H locs cells slots A ls N9 ⟨hx, hb, hml, hret, hlk0, hnm, hown, hts, ⟨hfr0, hlo0, hce, hsl⟩, hA, hRo, hK, hP, hD, hS, hL, hN⟩)
theorem ms_iret (l : Launch) (ev : mv_E) : mv_r_iret ev (mv_P l ev) := by
  intro M pc lv h x ty d hr hn 
  refine ⟨rfl, ?_⟩
  rintro p e R s m args below meth c D cy ad H locs cells slots A ls N9 ⟨hx, hb, hml, hret, hlk0, hnm, hown, hts, ⟨hfr0, hlo0, hce, hsl⟩, hA, hRo, hK, hP, hD, hS, hL, hN⟩
  exact W.zret hx hb (hret.trans hr) hn (fun t ht hW => mv_q_ret hP hD hS ht) hS.2.2 d hlk0
theorem ms_lret (l : Launch) (ev : mv_E) : mv_r_lret ev (mv_P l ev) := by
  intro M pc lv h x d hr 
  refine ⟨rfl, ?_⟩
  rintro p e R s m args below meth c D cy ad H locs cells slots A ls N9 ⟨hx, hb, hml, hret, hlk0, hnm, hown, hts, ⟨hfr0, hlo0, hce, hsl⟩, hA, hRo, hK, hP, hD, hS, hL, hN⟩
  exact W.lret hx hb (hret.trans hr) (fun t ht hW => mv_q_ret hP hD hS ht) hS.2.2 d hlk0
theorem ms_aret (l : Launch) (ev : mv_E) : mv_r_aret ev (mv_P l ev) := by
  intro M pc lv h a ty d hr ho 
  refine ⟨rfl, ?_⟩
  rintro p e R s m args below meth c D cy ad H locs cells slots A ls N9 ⟨hx, hb, hml, hret, hlk0, hnm, hown, hts, ⟨hfr0, hlo0, hce, hsl⟩, hA, hRo, hK, hP, hD, hS, hL, hN⟩
  exact W.aret (v := .ref (ad a)) hx hb (hret.trans hr) ho (Or.inr ⟨_, rfl⟩) (fun t ht hW => mv_q_ret hP hD hS ht) hS.2.2 d hlk0
theorem ms_vret (l : Launch) (ev : mv_E) : mv_r_vret ev (mv_P l ev) := by
  intro M pc lv h  d hr 
  refine ⟨rfl, ?_⟩
  rintro p e R s m args below meth c D cy ad H locs cells slots A ls N9 ⟨hx, hb, hml, hret, hlk0, hnm, hown, hts, ⟨hfr0, hlo0, hce, hsl⟩, hA, hRo, hK, hP, hD, hS, hL, hN⟩
  exact W.vret hx hb (hret.trans hr) (fun t ht hW => mv_q_ret hP hD hS ht) hS.2.2 d hlk0
theorem ms_newo (l : Launch) (ev : mv_E) : mv_r_newo ev (mv_P l ev) := by
  intro M pc lv st h r h' k n idx ci N C T fs d hc hw hw2 hw3 hfs hrf hs kk0
  refine ⟨(by have h1 := kk0.1; simp at h1; omega), ?_⟩
  rintro p e R s m args below meth c D cy ad H locs cells slots A ls N9 ⟨hx, hb, hml, hret, hlk0, hnm, hown, hts, ⟨hfr0, hlo0, hce, hsl⟩, hA, hRo, hK, hP, hD, hS, hL, hN⟩
  exact (by obtain ⟨ty, h1, h2⟩ := hfs; exact va_new hx hb hts (mv_cl hc).1 ty h1 hown (hts _ hw) (hts _ hw2) (hts _ hw3) hK hP hD hS hA hc h2 (by omega) (by omega) d (fun q H1 hP1 hD1 hS1 => (mv_made ⟨hx, hb, hml, hret, hlk0, hnm, hown, hts, ⟨hfr0, hlo0, hce, hsl⟩, hA, hRo, hK, hP, hD, hS, hL, hN⟩ hs (fun ad1 => by show (.inr (ci, fs.map (mv_v ad1)) : va_E) = .inr (ci, fs.map (mv_v ad)); rw [hrf, hrf]) kk0 (q := q) (by show va_P D vwCl (_ ++ [(q, .inr (ci, fs.map (mv_v ad)))]) H1; rw [hrf]; exact hP1) (by show va_D A (_ ++ [(q, .inr (ci, fs.map (mv_v ad)))]); rw [hrf]; exact hD1) hS1)))
theorem ms_newi (l : Launch) (ev : mv_E) : mv_r_newi ev (mv_P l ev) := by
  intro M pc lv st h r h' k n c0 N d hw hc hNN hsm hs kk0
  refine ⟨(by have h1 := kk0.1; simp at h1; omega), ?_⟩
  rintro p e R s m args below meth c D cy ad H locs cells slots A ls N9 ⟨hx, hb, hml, hret, hlk0, hnm, hown, hts, ⟨hfr0, hlo0, hce, hsl⟩, hA, hRo, hK, hP, hD, hS, hL, hN⟩
  exact (va_newa (atype := .int) (ty := .int) (a0 := (N, .inl (fun _ => 0))) hx hb (hts _ hw) rfl hK hP hD hS hA (fun _ => rfl) hc hNN (by simp [componentBytes]; omega) (by omega) (by omega) d (fun q cA H1 hK1 hP1 hD1 hS1 => (by rw [mv_cA0 hK hK1] at hP1 hD1; exact mv_made ⟨hx, hb, hml, hret, hlk0, hnm, hown, hts, ⟨hfr0, hlo0, hce, hsl⟩, hA, hRo, hK, hP, hD, hS, hL, hN⟩ hs (fun _ => rfl) kk0 hP1 hD1 hS1)))
theorem ms_newl (l : Launch) (ev : mv_E) : mv_r_newl ev (mv_P l ev) := by
  intro M pc lv st h r h' k n c0 N d hw hc hNN hsm hs kk0
  refine ⟨(by have h1 := kk0.1; simp at h1; omega), ?_⟩
  rintro p e R s m args below meth c D cy ad H locs cells slots A ls N9 ⟨hx, hb, hml, hret, hlk0, hnm, hown, hts, ⟨hfr0, hlo0, hce, hsl⟩, hA, hRo, hK, hP, hD, hS, hL, hN⟩
  exact (va_newa (atype := .long) (ty := .long) (a0 := (N, .inr (.inl (fun _ => 0)))) hx hb (hts _ hw) rfl hK hP hD hS hA (fun _ => rfl) hc hNN (by simp [componentBytes]; omega) (by omega) (by omega) d (fun q cA H1 hK1 hP1 hD1 hS1 => (by rw [mv_cA1 hK hK1] at hP1 hD1; exact mv_made ⟨hx, hb, hml, hret, hlk0, hnm, hown, hts, ⟨hfr0, hlo0, hce, hsl⟩, hA, hRo, hK, hP, hD, hS, hL, hN⟩ hs (fun _ => rfl) kk0 hP1 hD1 hS1)))
theorem ms_newz (l : Launch) (ev : mv_E) : mv_r_newz ev (mv_P l ev) := by
  intro M pc lv st h r h' k n c0 N d hw hc hNN hsm hs kk0
  refine ⟨(by have h1 := kk0.1; simp at h1; omega), ?_⟩
  rintro p e R s m args below meth c D cy ad H locs cells slots A ls N9 ⟨hx, hb, hml, hret, hlk0, hnm, hown, hts, ⟨hfr0, hlo0, hce, hsl⟩, hA, hRo, hK, hP, hD, hS, hL, hN⟩
  exact (va_newa (atype := .boolean) (ty := .boolean) (a0 := (N, .inl (fun _ => 0))) hx hb (hts _ hw) rfl hK hP hD hS hA (fun _ => rfl) hc hNN (by simp [componentBytes]; omega) (by omega) (by omega) d (fun q cA H1 hK1 hP1 hD1 hS1 => (by rw [mv_cA2 hK hK1] at hP1 hD1; exact mv_made ⟨hx, hb, hml, hret, hlk0, hnm, hown, hts, ⟨hfr0, hlo0, hce, hsl⟩, hA, hRo, hK, hP, hD, hS, hL, hN⟩ hs (fun _ => rfl) kk0 hP1 hD1 hS1)))
theorem ms_clone (l : Launch) (ev : mv_E) : mv_r_clone ev (mv_P l ev) := by
  intro M pc lv st h r h' k n idx a n0 f d hr ha hw hfr hst hs kk0
  refine ⟨(by have h1 := kk0.1; simp at h1; omega), ?_⟩
  rintro p e R s m args below meth c D cy ad H locs cells slots A ls N9 ⟨hx, hb, hml, hret, hlk0, hnm, hown, hts, ⟨hfr0, hlo0, hce, hsl⟩, hA, hRo, hK, hP, hD, hS, hL, hN⟩
  exact (by subst ha; obtain ⟨z1, z2, z3⟩ := hRo.1 _ _ _ hr; exact mv_cloneW hx hb (hml.trans hL.1.symm) hown hts hw z1 z2 z3 hRo.2.2.2.2.2.2.2.1 hRo.2.2.2.2.2.2.2.2 hK hP hD hS hA (by omega) (by rw [mv_map_cat]; omega) (by omega) (by omega) d (fun q H1 hP1 hD1 hS1 => mv_made ⟨hx, hb, hml, hret, hlk0, hnm, hown, hts, ⟨hfr0, hlo0, hce, hsl⟩, hA, hRo, hK, hP, hD, hS, hL, hN⟩ hs (fun _ => rfl) kk0 hP1 hD1 hS1))
theorem ms_castA (l : Launch) (ev : mv_E) : mv_r_castA ev (mv_P l ev) := by
  intro M pc lv st h r h' k n idx a x d hh hw kk0
  refine ⟨kk0.1, ?_⟩
  rintro p e R s m args below meth c D cy ad H locs cells slots A ls N9 ⟨hx, hb, hml, hret, hlk0, hnm, hown, hts, ⟨hfr0, hlo0, hce, hsl⟩, hA, hRo, hK, hP, hD, hS, hL, hN⟩
  exact va_castA hx hb hown (hts _ hw) hP a (mv_w_getA hh) (va_nm_int (hK.2 0 _ rfl).2) d (kk0.2 p e R s m args below meth c D cy ad H locs cells slots A ls N9 ⟨hx, hb, hml, hret, hlk0, hnm, hown, hts, ⟨hfr0, hlo0, hce, hsl⟩, hA, hRo, hK, hP, hD, hS, hL, hN⟩)
theorem ms_objinit (l : Launch) (ev : mv_E) : mv_r_objinit ev (mv_P l ev) := by
  intro M pc lv st h r h' k n idx a d hw hfr hst kk0
  refine ⟨kk0.1, ?_⟩
  rintro p e R s m args below meth c D cy ad H locs cells slots A ls N9 ⟨hx, hb, hml, hret, hlk0, hnm, hown, hts, ⟨hfr0, hlo0, hce, hsl⟩, hA, hRo, hK, hP, hD, hS, hL, hN⟩
  exact (by refine W.objInit hx hb hown (hts _ hw) (hts _ mv_oi1) (hts _ mv_oi2) rfl (hL.1.trans hml.symm) rfl d (by omega) (by rw [mv_map_cat]; show 2 * 0 + _ + 12 ≤ _; omega) (kk0.2 p e R s m args below meth c D cy ad H locs cells slots A ls N9 ⟨hx, hb, hml, hret, hlk0, hnm, hown, hts, ⟨hfr0, hlo0, hce, hsl⟩, hA, hRo, hK, hP, hD, hS, hL, hN⟩))
theorem ms_acopy (l : Launch) (ev : mv_E) : mv_r_acopy ev (mv_P l ev) := by
  intro M pc lv st h r h' k n idx a0 a n0 n1 f g sp dp c0 d ha hh hw hfr hst h1 h2 h3 h4 h5 kk0
  refine ⟨(by simpa using kk0.1), ?_⟩
  rintro p e R s m args below meth c D cy ad H locs cells slots A ls N9 ⟨hx, hb, hml, hret, hlk0, hnm, hown, hts, ⟨hfr0, hlo0, hce, hsl⟩, hA, hRo, hK, hP, hD, hS, hL, hN⟩
  exact va_copyi hx hb (hml.trans hL.1.symm) hown (hts _ hw) (hts _ mv_ac1) (hts _ mv_ac2) (hts _ mv_ac3) hK hP hD hS a0 a 0 0 (mv_w_getA ha) (mv_w_getA hh) rfl rfl rfl h1 h2 h3 h4 h5 (fun _ _ => rfl) (by omega) (by rw [mv_map_cat]; exact mv_nat5 hst (by omega)) d (fun H1 locs1 hP1 hD1 hS1 => (kk0.2 p e R s m args below meth c D cy ad H1 locs1 cells slots A ls N9 ⟨hx, hb, hml, hret, hlk0, hnm, hown, hts, ⟨hfr0, hlo0, hce, hsl⟩, hA, hRo, hK, ((mv_w_setA hP1)), ((mv_w_setAD hD1)), hS1, hL, (by simpa using hN)⟩))
theorem ms_acopyR (l : Launch) (ev : mv_E) : mv_r_acopyR ev (mv_P l ev) := by
  intro M pc lv st h r h' k n idx a0 a n0 n1 f g sp dp c0 d ha hh hw hfr hst h1 h2 h3 h4 h5 kk0
  refine ⟨(by simpa using kk0.1), ?_⟩
  rintro p e R s m args below meth c D cy ad H locs cells slots A ls N9 ⟨hx, hb, hml, hret, hlk0, hnm, hown, hts, ⟨hfr0, hlo0, hce, hsl⟩, hA, hRo, hK, hP, hD, hS, hL, hN⟩
  exact va_copyx hx hb (hml.trans hL.1.symm) hown (hts _ hw) (hts _ mv_ac1) (hts _ mv_ac2) (hts _ mv_ac3) hK hP hD hS (hRo.1 _ _ _ ha).1 (hRo.1 _ _ _ ha).2.1 (hRo.1 _ _ _ ha).2.2 a 0 (mv_w_getA hh) rfl h1 h2 h3 h4 h5 (by omega) (by rw [mv_map_cat]; exact mv_nat5 hst (by omega)) d (fun H1 locs1 hP1 hD1 hS1 => (kk0.2 p e R s m args below meth c D cy ad H1 locs1 cells slots A ls N9 ⟨hx, hb, hml, hret, hlk0, hnm, hown, hts, ⟨hfr0, hlo0, hce, hsl⟩, hA, hRo, hK, ((mv_w_setA hP1)), ((mv_w_setAD hD1)), hS1, hL, (by simpa using hN)⟩))
theorem ms_mmax (l : Launch) (ev : mv_E) : mv_r_mmax ev (mv_P l ev) := by
  intro M pc lv st h r h' k n idx x y d hw hfr hst kk0
  refine ⟨kk0.1, ?_⟩
  rintro p e R s m args below meth c D cy ad H locs cells slots A ls N9 ⟨hx, hb, hml, hret, hlk0, hnm, hown, hts, ⟨hfr0, hlo0, hce, hsl⟩, hA, hRo, hK, hP, hD, hS, hL, hN⟩
  exact va_mmax hx hb (hml.trans hL.1.symm) hown (hts _ hw) (hts _ mv_mmax1) (hts _ mv_m0) (hts _ mv_mmax2) (by omega) (by rw [mv_map_cat]; omega) (by omega) (by omega) d (kk0.2 p e R s m args below meth c D cy ad H locs cells slots A ls N9 ⟨hx, hb, hml, hret, hlk0, hnm, hown, hts, ⟨hfr0, hlo0, hce, hsl⟩, hA, hRo, hK, hP, hD, hS, hL, hN⟩)
theorem ms_mmin (l : Launch) (ev : mv_E) : mv_r_mmin ev (mv_P l ev) := by
  intro M pc lv st h r h' k n idx x y d hw hfr hst kk0
  refine ⟨kk0.1, ?_⟩
  rintro p e R s m args below meth c D cy ad H locs cells slots A ls N9 ⟨hx, hb, hml, hret, hlk0, hnm, hown, hts, ⟨hfr0, hlo0, hce, hsl⟩, hA, hRo, hK, hP, hD, hS, hL, hN⟩
  exact va_mmin hx hb (hml.trans hL.1.symm) hown (hts _ hw) (hts _ mv_mmin1) (hts _ mv_m0) (hts _ mv_mmin2) (by omega) (by rw [mv_map_cat]; omega) (by omega) (by omega) d (kk0.2 p e R s m args below meth c D cy ad H locs cells slots A ls N9 ⟨hx, hb, hml, hret, hlk0, hnm, hown, hts, ⟨hfr0, hlo0, hce, hsl⟩, hA, hRo, hK, hP, hD, hS, hL, hN⟩)
theorem ms_mabs (l : Launch) (ev : mv_E) : mv_r_mabs ev (mv_P l ev) := by
  intro M pc lv st h r h' k n idx x d hw hfr hst kk0
  refine ⟨kk0.1, ?_⟩
  rintro p e R s m args below meth c D cy ad H locs cells slots A ls N9 ⟨hx, hb, hml, hret, hlk0, hnm, hown, hts, ⟨hfr0, hlo0, hce, hsl⟩, hA, hRo, hK, hP, hD, hS, hL, hN⟩
  exact va_mabs hx hb (hml.trans hL.1.symm) hown (hts _ hw) (hts _ mv_mabs1) (hts _ mv_m0) (hts _ mv_mabs2) (by omega) (by rw [mv_map_cat]; omega) (by omega) (by omega) d (kk0.2 p e R s m args below meth c D cy ad H locs cells slots A ls N9 ⟨hx, hb, hml, hret, hlk0, hnm, hown, hts, ⟨hfr0, hlo0, hce, hsl⟩, hA, hRo, hK, hP, hD, hS, hL, hN⟩)
theorem ms_callV (l : Launch) (ev : mv_E) : mv_r_callV ev (mv_P l ev) := by
  intro M pc lv st h r h' M' idx k1 n1 k2 n2 as r1 h1 b ci N fs T d hlk hh hc hlen hst hs kk0 kk1
  refine ⟨(by have h1 := kk0.1; have h2 := kk1.1; omega), ?_⟩
  rintro p e R s m args below meth c D cy ad H locs cells slots A ls N9 ⟨hx, hb, hml, hret, hlk0, hnm, hown, hts, ⟨hfr0, hlo0, hce, hsl⟩, hA, hRo, hK, hP, hD, hS, hL, hN⟩
  exact (by
    obtain ⟨⟨hc1, hc2, hc3, ⟨hd1, hd2, hd3⟩, ⟨hr1, hr2⟩, hpl⟩, hw1, hw2, hw3⟩ := hlk
    have hA1 := mv_sub_A hD hS hA
    have hin : ∀ U : State, U.heap = H → s.WarmedH U.vm → va_Pc (List.map (mv_v ad) (.ref b :: as)) (fun U => U.heap.size = H.size ∧ va_P D vwCl (mv_w ad cy h) U.heap ∧ va_K D vwCl (mv_tys cy) U ∧ va_D (fun _ => True) (mv_w ad cy h) ∧ mv_Ro ev ad (va_A (mv_w ad cy h) H.size) U U.heap) (List.map (mv_v ad) (.ref b :: as)).toArray U := fun U hU hW => ⟨rfl, by rw [hU], by rw [hU]; exact hP, va_K.moved hW.alike hK, hD.weaken (fun _ _ _ _ => trivial), hRo.pass hS hW hU hA1⟩
    exact mv_callW (va_runV (As := as.map (mv_v ad)) (rest := st.map (mv_v ad)) ⟨hx, hb, hml, hown, hts⟩ (mv_met (as := (.ref b :: as)) hc1 hc3 hpl hlen kk0 D cy ad H.size) ⟨⟨rfl, rfl, Nat.le_trans hr1 hfr0, Nat.le_trans hr2 hlo0, mv_pay hts hc1, List.mem_cons_self, (hts _ hc1), (by rw [hc3]; exact hts _ hc2), (by rw [hc3]; exact ⟨hd1, hd2⟩), mv_par hd3, hts _ hw1⟩, hts _ hw2, hts _ hw3⟩ ⟨mv_blind, (va_recv hK hP hc (mv_w_getO hh)), hin⟩ rfl (by simp) hL.1 (by simp [mv_v]) (lv_room (by rw [mv_map_cat]; exact hst)) d ⟨by omega, by omega⟩) hS hA1 hA1 (fun ad1 H1 locs1 hext hP1 hD1 hS1 => mv_after ⟨hx, hb, hml, hret, hlk0, hnm, hown, hts, ⟨hfr0, hlo0, hce, hsl⟩, hA, hRo, hK, hP, hD, hS, hL, hN⟩ kk0.1 hs kk1 ad1 H1 locs1 hext hP1 hD1 hS1))
theorem ms_callR (l : Launch) (ev : mv_E) : mv_r_callR ev (mv_P l ev) := by
  intro M pc lv st h r h' M' idx k1 n1 k2 n2 as r1 h1 b bb d hlk hh hc hlen hst hs kk0 kk1
  refine ⟨(by have h1 := kk0.1; have h2 := kk1.1; omega), ?_⟩
  rintro p e R s m args below meth c D cy ad H locs cells slots A ls N9 ⟨hx, hb, hml, hret, hlk0, hnm, hown, hts, ⟨hfr0, hlo0, hce, hsl⟩, hA, hRo, hK, hP, hD, hS, hL, hN⟩
  exact (by
    obtain ⟨⟨hc1, hc2, hc3, ⟨hd1, hd2, hd3⟩, ⟨hr1, hr2⟩, hpl⟩, hw1, hw2, hw3⟩ := hlk
    have hA1 := mv_sub_A hD hS hA
    have hin : ∀ U : State, U.heap = H → s.WarmedH U.vm → va_Pc (List.map (mv_v ad) (.ref b :: as)) (fun U => U.heap.size = H.size ∧ va_P D vwCl (mv_w ad cy h) U.heap ∧ va_K D vwCl (mv_tys cy) U ∧ va_D (fun _ => True) (mv_w ad cy h) ∧ mv_Ro ev ad (va_A (mv_w ad cy h) H.size) U U.heap) (List.map (mv_v ad) (.ref b :: as)).toArray U := fun U hU hW => ⟨rfl, by rw [hU], by rw [hU]; exact hP, va_K.moved hW.alike hK, hD.weaken (fun _ _ _ _ => trivial), hRo.pass hS hW hU hA1⟩
    exact mv_callW (va_runV (As := as.map (mv_v ad)) (rest := st.map (mv_v ad)) ⟨hx, hb, hml, hown, hts⟩ (mv_met (as := (.ref b :: as)) hc1 hc3 hpl hlen kk0 D cy ad H.size) ⟨⟨rfl, rfl, Nat.le_trans hr1 hfr0, Nat.le_trans hr2 hlo0, mv_pay hts hc1, List.mem_cons_self, (hts _ hc1), (by rw [hc3]; exact hts _ hc2), (by rw [hc3]; exact ⟨hd1, hd2⟩), mv_par hd3, hts _ hw1⟩, hts _ hw2, hts _ hw3⟩ ⟨mv_blind, (by obtain ⟨cell, g1, g2, g3, -⟩ := (hRo.2.2.1 _ _ hh).1.kept hS.2.1; exact ⟨cell, g1, g2, by rw [hc]; exact g3⟩), hin⟩ rfl (by simp) hL.1 (by simp [mv_v]) (lv_room (by rw [mv_map_cat]; exact hst)) d ⟨by omega, by omega⟩) hS hA1 hA1 (fun ad1 H1 locs1 hext hP1 hD1 hS1 => mv_after ⟨hx, hb, hml, hret, hlk0, hnm, hown, hts, ⟨hfr0, hlo0, hce, hsl⟩, hA, hRo, hK, hP, hD, hS, hL, hN⟩ kk0.1 hs kk1 ad1 H1 locs1 hext hP1 hD1 hS1))
theorem ms_callS (l : Launch) (ev : mv_E) : mv_r_callS ev (mv_P l ev) := by
  intro M pc lv st h r h' M' idx k1 n1 k2 n2 as r1 h1 d hlk hlen hst hs kk0 kk1
  refine ⟨(by have h1 := kk0.1; have h2 := kk1.1; omega), ?_⟩
  rintro p e R s m args below meth c D cy ad H locs cells slots A ls N9 ⟨hx, hb, hml, hret, hlk0, hnm, hown, hts, ⟨hfr0, hlo0, hce, hsl⟩, hA, hRo, hK, hP, hD, hS, hL, hN⟩
  exact (by
    obtain ⟨⟨hc1, hc2, hc3, ⟨hd1, hd2, hd3⟩, ⟨hr1, hr2⟩, hpl⟩, hw1, hw2⟩ := hlk
    have hA1 := mv_sub_A hD hS hA
    have hin : ∀ U : State, U.heap = H → s.WarmedH U.vm → va_Pc (List.map (mv_v ad) as) (fun U => U.heap.size = H.size ∧ va_P D vwCl (mv_w ad cy h) U.heap ∧ va_K D vwCl (mv_tys cy) U ∧ va_D (fun _ => True) (mv_w ad cy h) ∧ mv_Ro ev ad (va_A (mv_w ad cy h) H.size) U U.heap) (List.map (mv_v ad) as).toArray U := fun U hU hW => ⟨rfl, by rw [hU], by rw [hU]; exact hP, va_K.moved hW.alike hK, hD.weaken (fun _ _ _ _ => trivial), hRo.pass hS hW hU hA1⟩
    exact mv_callW (va_runS (As := as.map (mv_v ad)) (rest := st.map (mv_v ad)) ⟨hx, hb, hml, hown, hts⟩ (mv_met (as := as) hc1 hc3 hpl hlen kk0 D cy ad H.size) ⟨⟨rfl, rfl, Nat.le_trans hr1 hfr0, Nat.le_trans hr2 hlo0, mv_pay hts hc1, List.mem_cons_self, (hts _ hc1), (by rw [hc3]; exact hts _ hc2), (by rw [hc3]; exact ⟨hd1, hd2⟩), mv_par hd3, hts _ hw1⟩, hts _ hw2⟩ ⟨mv_blind, hin⟩ rfl (by simp) hL.1 (by simp [mv_v]) (lv_room (by rw [mv_map_cat]; exact hst)) d ⟨by omega, by omega⟩) hS hA1 hA1 (fun ad1 H1 locs1 hext hP1 hD1 hS1 => mv_after ⟨hx, hb, hml, hret, hlk0, hnm, hown, hts, ⟨hfr0, hlo0, hce, hsl⟩, hA, hRo, hK, hP, hD, hS, hL, hN⟩ kk0.1 hs kk1 ad1 H1 locs1 hext hP1 hD1 hS1))
theorem ms_callSN (l : Launch) (ev : mv_E) : mv_r_callSN ev (mv_P l ev) := by
  intro M pc lv st h r h' M' idx k1 n1 k2 n2 as r1 h1 d hlk hlen hst hs kk0 kk1
  refine ⟨(by have h1 := kk0.1; have h2 := kk1.1; omega), ?_⟩
  rintro p e R s m args below meth c D cy ad H locs cells slots A ls N9 ⟨hx, hb, hml, hret, hlk0, hnm, hown, hts, ⟨hfr0, hlo0, hce, hsl⟩, hA, hRo, hK, hP, hD, hS, hL, hN⟩
  exact (by
    obtain ⟨⟨hc1, hc2, hc3, ⟨hd1, hd2, hd3⟩, ⟨hr1, hr2⟩, hpl⟩, hw1, hw2⟩ := hlk
    have hA1 := mv_sub_A hD hS hA
    have hin : ∀ U : State, U.heap = H → s.WarmedH U.vm → va_Pc (List.map (mv_v ad) as) (fun U => U.heap.size = H.size ∧ va_P D vwCl (mv_w ad cy h) U.heap ∧ va_K D vwCl (mv_tys cy) U ∧ va_D (fun _ => True) (mv_w ad cy h) ∧ mv_Ro ev ad (va_A (mv_w ad cy h) H.size) U U.heap) (List.map (mv_v ad) as).toArray U := fun U hU hW => ⟨rfl, by rw [hU], by rw [hU]; exact hP, va_K.moved hW.alike hK, hD.weaken (fun _ _ _ _ => trivial), hRo.pass hS hW hU hA1⟩
    exact mv_callW (va_runSN (As := as.map (mv_v ad)) (rest := st.map (mv_v ad)) ⟨hx, hb, hml, hown, hts⟩ (mv_met (as := as) hc1 hc3 hpl hlen kk0 D cy ad H.size) ⟨⟨⟨rfl, rfl, Nat.le_trans hr1 hfr0, Nat.le_trans hr2 hlo0, mv_pay hts hc1, List.mem_cons_self⟩, (hts _ hc1), (by rw [hc3]; exact hts _ hc2), (by rw [hc3]; exact ⟨hd1, hd2⟩), mv_par hd3, (va_Nw.use rfl (hRo.2.2.2.2.2.1 _ hw1))⟩, hts _ hw2, trivial⟩ ⟨mv_blind, hin⟩ rfl (by simp) hL.1 (by simp [mv_v]) (lv_room (by rw [mv_map_cat]; exact hst)) d ⟨by omega, by omega⟩) hS hA1 hA1 (fun ad1 H1 locs1 hext hP1 hD1 hS1 => mv_after ⟨hx, hb, hml, hret, hlk0, hnm, hown, hts, ⟨hfr0, hlo0, hce, hsl⟩, hA, hRo, hK, hP, hD, hS, hL, hN⟩ kk0.1 hs kk1 ad1 H1 locs1 hext hP1 hD1 hS1))
theorem ms_callI (l : Launch) (ev : mv_E) : mv_r_callI ev (mv_P l ev) := by
  intro M pc lv st h r h' M' idx k1 n1 k2 n2 as r1 h1 b d hlk hlen hst hs kk0 kk1
  refine ⟨(by have h1 := kk0.1; have h2 := kk1.1; omega), ?_⟩
  rintro p e R s m args below meth c D cy ad H locs cells slots A ls N9 ⟨hx, hb, hml, hret, hlk0, hnm, hown, hts, ⟨hfr0, hlo0, hce, hsl⟩, hA, hRo, hK, hP, hD, hS, hL, hN⟩
  exact (by
    obtain ⟨⟨hc1, hc2, hc3, ⟨hd1, hd2, hd3⟩, ⟨hr1, hr2⟩, hpl⟩, hw1, hw2, hw4, hw5⟩ := hlk
    have hA1 := mv_sub_A hD hS hA
    have hin : ∀ U : State, U.heap = H → s.WarmedH U.vm → va_Pc (List.map (mv_v ad) (.ref b :: as)) (fun U => U.heap.size = H.size ∧ va_P D vwCl (mv_w ad cy h) U.heap ∧ va_K D vwCl (mv_tys cy) U ∧ va_D (fun _ => True) (mv_w ad cy h) ∧ mv_Ro ev ad (va_A (mv_w ad cy h) H.size) U U.heap) (List.map (mv_v ad) (.ref b :: as)).toArray U := fun U hU hW => ⟨rfl, by rw [hU], by rw [hU]; exact hP, va_K.moved hW.alike hK, hD.weaken (fun _ _ _ _ => trivial), hRo.pass hS hW hU hA1⟩
    exact mv_callW (va_runI (As := as.map (mv_v ad)) (rest := st.map (mv_v ad)) ⟨hx, hb, hml, hown, hts⟩ (mv_met (as := (.ref b :: as)) hc1 hc3 hpl hlen kk0 D cy ad H.size) ⟨⟨rfl, rfl, Nat.le_trans hr1 hfr0, Nat.le_trans hr2 hlo0, mv_pay hts hc1, (by rw [← hw5]; exact List.mem_cons_self), (by rw [← hw5]; exact hts _ hc1), (by rw [hc3]; exact hts _ hc2), (by rw [hc3]; exact ⟨hd1, hd2⟩), mv_par hd3, hts _ hw1⟩, hw4, hts _ hw2⟩ ⟨mv_blind, hin⟩ rfl (by simp) hL.1 (by simp [mv_v]) (lv_room (by rw [mv_map_cat]; exact hst)) d ⟨by omega, by omega⟩) hS hA1 hA1 (fun ad1 H1 locs1 hext hP1 hD1 hS1 => mv_after ⟨hx, hb, hml, hret, hlk0, hnm, hown, hts, ⟨hfr0, hlo0, hce, hsl⟩, hA, hRo, hK, hP, hD, hS, hL, hN⟩ kk0.1 hs kk1 ad1 H1 locs1 hext hP1 hD1 hS1))
theorem ms_callIN (l : Launch) (ev : mv_E) : mv_r_callIN ev (mv_P l ev) := by
  intro M pc lv st h r h' M' idx k1 n1 k2 n2 as r1 h1 b d hlk hlen hst hs kk0 kk1
  refine ⟨(by have h1 := kk0.1; have h2 := kk1.1; omega), ?_⟩
  rintro p e R s m args below meth c D cy ad H locs cells slots A ls N9 ⟨hx, hb, hml, hret, hlk0, hnm, hown, hts, ⟨hfr0, hlo0, hce, hsl⟩, hA, hRo, hK, hP, hD, hS, hL, hN⟩
  exact (by
    obtain ⟨⟨hc1, hc2, hc3, ⟨hd1, hd2, hd3⟩, ⟨hr1, hr2⟩, hpl⟩, hw1, hw2, hw4, hw5⟩ := hlk
    have hA1 := mv_sub_A hD hS hA
    have hin : ∀ U : State, U.heap = H → s.WarmedH U.vm → va_Pc (List.map (mv_v ad) (.ref b :: as)) (fun U => U.heap.size = H.size ∧ va_P D vwCl (mv_w ad cy h) U.heap ∧ va_K D vwCl (mv_tys cy) U ∧ va_D (fun _ => True) (mv_w ad cy h) ∧ mv_Ro ev ad (va_A (mv_w ad cy h) H.size) U U.heap) (List.map (mv_v ad) (.ref b :: as)).toArray U := fun U hU hW => ⟨rfl, by rw [hU], by rw [hU]; exact hP, va_K.moved hW.alike hK, hD.weaken (fun _ _ _ _ => trivial), hRo.pass hS hW hU hA1⟩
    exact mv_callW (va_runIN (As := as.map (mv_v ad)) (rest := st.map (mv_v ad)) ⟨hx, hb, hml, hown, hts⟩ (mv_met (as := (.ref b :: as)) hc1 hc3 hpl hlen kk0 D cy ad H.size) ⟨⟨⟨rfl, rfl, Nat.le_trans hr1 hfr0, Nat.le_trans hr2 hlo0, mv_pay hts hc1, (by rw [← hw5]; exact List.mem_cons_self)⟩, (by rw [← hw5]; exact hts _ hc1), (by rw [hc3]; exact hts _ hc2), (by rw [hc3]; exact ⟨hd1, hd2⟩), mv_par hd3, (va_Nw.use rfl (hRo.2.2.2.2.2.1 _ hw1))⟩, hw4, hts _ hw2⟩ ⟨mv_blind, hin⟩ rfl (by simp) hL.1 (by simp [mv_v]) (lv_room (by rw [mv_map_cat]; exact hst)) d ⟨by omega, by omega⟩) hS hA1 hA1 (fun ad1 H1 locs1 hext hP1 hD1 hS1 => mv_after ⟨hx, hb, hml, hret, hlk0, hnm, hown, hts, ⟨hfr0, hlo0, hce, hsl⟩, hA, hRo, hK, hP, hD, hS, hL, hN⟩ kk0.1 hs kk1 ad1 H1 locs1 hext hP1 hD1 hS1))
theorem ms_sub (l : Launch) (ev : mv_E) : mv_r_sub ev (mv_P l ev) := by
  intro M pc lv st h r h' k n lv' hle kk0
  refine ⟨kk0.1, ?_⟩
  rintro p e R s m args below meth c D cy ad H locs cells slots A ls N9 ⟨hx, hb, hml, hret, hlk0, hnm, hown, hts, ⟨hfr0, hlo0, hce, hsl⟩, hA, hRo, hK, hP, hD, hS, hL, hN⟩
  exact (kk0.2 p e R s m args below meth c D cy ad H locs cells slots A ls N9 ⟨hx, hb, hml, hret, hlk0, hnm, hown, hts, ⟨hfr0, hlo0, hce, hsl⟩, hA, hRo, hK, hP, hD, hS, (hL.le hle), hN⟩)
theorem mv_closed (l : Launch) (ev : mv_E) : mv_Cl ev (mv_P l ev) := ⟨ms_iconst l ev, ms_bipush l ev, ms_sipush l ev, ms_lconst l ev, ms_ldc l ev, ms_ldcw l ev, ms_ldc2 l ev, ms_ldcs l ev, ms_iload_n l ev, ms_iload l ev, ms_lload_n l ev, ms_lload l ev, ms_aload_n l ev, ms_aload l ev, ms_istore_n l ev, ms_istore l ev, ms_lstore_n l ev, ms_lstore l ev, ms_astore_n l ev, ms_astore l ev, ms_iinc l ev, ms_iincW l ev, ms_iadd l ev, ms_isub l ev, ms_imul l ev, ms_iand l ev, ms_ior l ev, ms_ishl l ev, ms_ishr l ev, ms_idiv l ev, ms_irem l ev, ms_ladd l ev, ms_lsub l ev, ms_lmul l ev, ms_land l ev, ms_lor l ev, ms_ldiv l ev, ms_lrem l ev, ms_ineg l ev, ms_lshl l ev, ms_lshr l ev, ms_lushr l ev, ms_i2l l ev, ms_l2i l ev, ms_i2c l ev, ms_lcmp l ev, ms_icmp_eq l ev, ms_icmp_ne l ev, ms_icmp_lt l ev, ms_icmp_ge l ev, ms_icmp_gt l ev, ms_icmp_le l ev, ms_if_eq l ev, ms_if_ne l ev, ms_if_lt l ev, ms_if_ge l ev, ms_if_gt l ev, ms_if_le l ev, ms_goto l ev, ms_dup l ev, ms_dup2 l ev, ms_pop l ev, ms_getf l ev, ms_putf l ev, ms_putF l ev, ms_getc l ev, ms_getv l ev, ms_gets l ev, ms_getsN l ev, ms_iald l ev, ms_lald l ev, ms_zald l ev, ms_iast l ev, ms_last l ev, ms_zast l ev, ms_alen l ev, ms_rald l ev, ms_rlen l ev, ms_bald l ev, ms_blen l ev, ms_tswOut l ev, ms_tswIn l ev, ms_iret l ev, ms_lret l ev, ms_aret l ev, ms_vret l ev, ms_newo l ev, ms_newi l ev, ms_newl l ev, ms_newz l ev, ms_clone l ev, ms_castA l ev, ms_objinit l ev, ms_acopy l ev, ms_acopyR l ev, ms_mmax l ev, ms_mmin l ev, ms_mabs l ev, ms_callV l ev, ms_callR l ev, ms_callS l ev, ms_callSN l ev, ms_callI l ev, ms_callIN l ev, ms_sub l ev⟩
/-- what the small machine does, the big one does -/
theorem mv_sound (l : Launch) {ev : mv_E} {M : mv_M} {pc : Nat} {lv st : List Value} {h : mv_H} {r : Option Value} {h' : mv_H} {k n : Nat} (g : mv_R ev M pc lv st h r h' k n) : mv_P l ev M pc lv st h r h' k n := g _ (mv_closed l ev)
