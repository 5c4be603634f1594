abbrev mv_g (ev : mv_E) (M : mv_M) (pc : Nat) (lv st : List Value) (h : mv_H) (Q : Option Value → mv_H → Prop) : Prop := mv_G ev 0 0 M pc lv st h Q
/-- M on these arguments and cells answers r, leaves the cells h', and makes none -/
def mv_K (ev : mv_E) (M : mv_M) (as : List Value) (h : mv_H) (r : Option Value) (h' : mv_H) : Prop := mv_R ev M 0 (mv_ent as (mv_ml M)) [] h r h' 0 0
theorem mv_Kof {ev : mv_E} {M : mv_M} {as : List Value} {h h0 : mv_H} {r0 : Option Value} (g : mv_g ev M 0 (mv_ent as (mv_ml M)) [] h (fun r g => r = r0 ∧ g = h0)) : mv_K ev M as h r0 h0 := by
  obtain ⟨r, h', a, rfl, rfl⟩ := g
  exact a
theorem mv_Kex {ev : mv_E} {M : mv_M} {as : List Value} {h : mv_H} {Q : Option Value → mv_H → Prop} (g : mv_g ev M 0 (mv_ent as (mv_ml M)) [] h Q) : ∃ r h', mv_K ev M as h r h' ∧ Q r h' := g
theorem mv_cV0 {ev : mv_E} {M : mv_M} {pc : Nat} {lv st : List Value} {h : mv_H} {Q : Option Value → mv_H → Prop} {M' : mv_M} {idx : Nat} {r1 : Option Value} {h1 : mv_H} {b ci N : Nat} {fs : List Value} {T : u_T} (d : decode (mv_by M) pc = .ok (.invokevirtual idx, 3)) (hlk : mv_lkV M idx M' 0) (hh : h[b]? = some (.inr (ci, fs))) (hc : vwCl[ci]? = some (mv_own M', T, N)) (hlen : (mv_flat (.ref b :: [])).length ≤ mv_ml M') (hst : (st.map fun v => v.category).sum ≤ 8) (hM : mv_K ev M' (.ref b :: []) h r1 h1) (kk : mv_g ev M (pc + 3) lv (r1.toList ++ st) h1 Q) : mv_g ev M pc lv (.ref b :: st) h Q := by
  obtain ⟨r, h', a, q⟩ := kk
  exact ⟨r, h', me_callV ev M pc lv st h r h' M' idx 0 0 0 0 [] r1 h1 b ci N fs T d hlk hh hc hlen hst (Or.inl rfl) hM a, q⟩
theorem mv_cV1 {ev : mv_E} {M : mv_M} {pc : Nat} {lv st : List Value} {h : mv_H} {Q : Option Value → mv_H → Prop} {M' : mv_M} {idx : Nat} {r1 : Option Value} {h1 : mv_H} {b ci N : Nat} {fs : List Value} {T : u_T} {a1 : Value} (d : decode (mv_by M) pc = .ok (.invokevirtual idx, 3)) (hlk : mv_lkV M idx M' 1) (hh : h[b]? = some (.inr (ci, fs))) (hc : vwCl[ci]? = some (mv_own M', T, N)) (hlen : (mv_flat (.ref b :: [a1])).length ≤ mv_ml M') (hst : (st.map fun v => v.category).sum ≤ 8) (hM : mv_K ev M' (.ref b :: [a1]) h r1 h1) (kk : mv_g ev M (pc + 3) lv (r1.toList ++ st) h1 Q) : mv_g ev M pc lv (a1 :: .ref b :: st) h Q := by
  obtain ⟨r, h', a, q⟩ := kk
  exact ⟨r, h', me_callV ev M pc lv st h r h' M' idx 0 0 0 0 [a1] r1 h1 b ci N fs T d hlk hh hc hlen hst (Or.inl rfl) hM a, q⟩
theorem mv_cV2 {ev : mv_E} {M : mv_M} {pc : Nat} {lv st : List Value} {h : mv_H} {Q : Option Value → mv_H → Prop} {M' : mv_M} {idx : Nat} {r1 : Option Value} {h1 : mv_H} {b ci N : Nat} {fs : List Value} {T : u_T} {a1 a2 : Value} (d : decode (mv_by M) pc = .ok (.invokevirtual idx, 3)) (hlk : mv_lkV M idx M' 2) (hh : h[b]? = some (.inr (ci, fs))) (hc : vwCl[ci]? = some (mv_own M', T, N)) (hlen : (mv_flat (.ref b :: [a1, a2])).length ≤ mv_ml M') (hst : (st.map fun v => v.category).sum ≤ 8) (hM : mv_K ev M' (.ref b :: [a1, a2]) h r1 h1) (kk : mv_g ev M (pc + 3) lv (r1.toList ++ st) h1 Q) : mv_g ev M pc lv (a2 :: a1 :: .ref b :: st) h Q := by
  obtain ⟨r, h', a, q⟩ := kk
  exact ⟨r, h', me_callV ev M pc lv st h r h' M' idx 0 0 0 0 [a1, a2] r1 h1 b ci N fs T d hlk hh hc hlen hst (Or.inl rfl) hM a, q⟩
theorem mv_cV3 {ev : mv_E} {M : mv_M} {pc : Nat} {lv st : List Value} {h : mv_H} {Q : Option Value → mv_H → Prop} {M' : mv_M} {idx : Nat} {r1 : Option Value} {h1 : mv_H} {b ci N : Nat} {fs : List Value} {T : u_T} {a1 a2 a3 : Value} (d : decode (mv_by M) pc = .ok (.invokevirtual idx, 3)) (hlk : mv_lkV M idx M' 3) (hh : h[b]? = some (.inr (ci, fs))) (hc : vwCl[ci]? = some (mv_own M', T, N)) (hlen : (mv_flat (.ref b :: [a1, a2, a3])).length ≤ mv_ml M') (hst : (st.map fun v => v.category).sum ≤ 8) (hM : mv_K ev M' (.ref b :: [a1, a2, a3]) h r1 h1) (kk : mv_g ev M (pc + 3) lv (r1.toList ++ st) h1 Q) : mv_g ev M pc lv (a3 :: a2 :: a1 :: .ref b :: st) h Q := by
  obtain ⟨r, h', a, q⟩ := kk
  exact ⟨r, h', me_callV ev M pc lv st h r h' M' idx 0 0 0 0 [a1, a2, a3] r1 h1 b ci N fs T d hlk hh hc hlen hst (Or.inl rfl) hM a, q⟩
theorem mv_cV4 {ev : mv_E} {M : mv_M} {pc : Nat} {lv st : List Value} {h : mv_H} {Q : Option Value → mv_H → Prop} {M' : mv_M} {idx : Nat} {r1 : Option Value} {h1 : mv_H} {b ci N : Nat} {fs : List Value} {T : u_T} {a1 a2 a3 a4 : Value} (d : decode (mv_by M) pc = .ok (.invokevirtual idx, 3)) (hlk : mv_lkV M idx M' 4) (hh : h[b]? = some (.inr (ci, fs))) (hc : vwCl[ci]? = some (mv_own M', T, N)) (hlen : (mv_flat (.ref b :: [a1, a2, a3, a4])).length ≤ mv_ml M') (hst : (st.map fun v => v.category).sum ≤ 8) (hM : mv_K ev M' (.ref b :: [a1, a2, a3, a4]) h r1 h1) (kk : mv_g ev M (pc + 3) lv (r1.toList ++ st) h1 Q) : mv_g ev M pc lv (a4 :: a3 :: a2 :: a1 :: .ref b :: st) h Q := by
  obtain ⟨r, h', a, q⟩ := kk
  exact ⟨r, h', me_callV ev M pc lv st h r h' M' idx 0 0 0 0 [a1, a2, a3, a4] r1 h1 b ci N fs T d hlk hh hc hlen hst (Or.inl rfl) hM a, q⟩
theorem mv_cV5 {ev : mv_E} {M : mv_M} {pc : Nat} {lv st : List Value} {h : mv_H} {Q : Option Value → mv_H → Prop} {M' : mv_M} {idx : Nat} {r1 : Option Value} {h1 : mv_H} {b ci N : Nat} {fs : List Value} {T : u_T} {a1 a2 a3 a4 a5 : Value} (d : decode (mv_by M) pc = .ok (.invokevirtual idx, 3)) (hlk : mv_lkV M idx M' 5) (hh : h[b]? = some (.inr (ci, fs))) (hc : vwCl[ci]? = some (mv_own M', T, N)) (hlen : (mv_flat (.ref b :: [a1, a2, a3, a4, a5])).length ≤ mv_ml M') (hst : (st.map fun v => v.category).sum ≤ 8) (hM : mv_K ev M' (.ref b :: [a1, a2, a3, a4, a5]) h r1 h1) (kk : mv_g ev M (pc + 3) lv (r1.toList ++ st) h1 Q) : mv_g ev M pc lv (a5 :: a4 :: a3 :: a2 :: a1 :: .ref b :: st) h Q := by
  obtain ⟨r, h', a, q⟩ := kk
  exact ⟨r, h', me_callV ev M pc lv st h r h' M' idx 0 0 0 0 [a1, a2, a3, a4, a5] r1 h1 b ci N fs T d hlk hh hc hlen hst (Or.inl rfl) hM a, q⟩
theorem mv_cV6 {ev : mv_E} {M : mv_M} {pc : Nat} {lv st : List Value} {h : mv_H} {Q : Option Value → mv_H → Prop} {M' : mv_M} {idx : Nat} {r1 : Option Value} {h1 : mv_H} {b ci N : Nat} {fs : List Value} {T : u_T} {a1 a2 a3 a4 a5 a6 : Value} (d : decode (mv_by M) pc = .ok (.invokevirtual idx, 3)) (hlk : mv_lkV M idx M' 6) (hh : h[b]? = some (.inr (ci, fs))) (hc : vwCl[ci]? = some (mv_own M', T, N)) (hlen : (mv_flat (.ref b :: [a1, a2, a3, a4, a5, a6])).length ≤ mv_ml M') (hst : (st.map fun v => v.category).sum ≤ 8) (hM : mv_K ev M' (.ref b :: [a1, a2, a3, a4, a5, a6]) h r1 h1) (kk : mv_g ev M (pc + 3) lv (r1.toList ++ st) h1 Q) : mv_g ev M pc lv (a6 :: a5 :: a4 :: a3 :: a2 :: a1 :: .ref b :: st) h Q := by
  obtain ⟨r, h', a, q⟩ := kk
  exact ⟨r, h', me_callV ev M pc lv st h r h' M' idx 0 0 0 0 [a1, a2, a3, a4, a5, a6] r1 h1 b ci N fs T d hlk hh hc hlen hst (Or.inl rfl) hM a, q⟩
theorem mv_cV7 {ev : mv_E} {M : mv_M} {pc : Nat} {lv st : List Value} {h : mv_H} {Q : Option Value → mv_H → Prop} {M' : mv_M} {idx : Nat} {r1 : Option Value} {h1 : mv_H} {b ci N : Nat} {fs : List Value} {T : u_T} {a1 a2 a3 a4 a5 a6 a7 : Value} (d : decode (mv_by M) pc = .ok (.invokevirtual idx, 3)) (hlk : mv_lkV M idx M' 7) (hh : h[b]? = some (.inr (ci, fs))) (hc : vwCl[ci]? = some (mv_own M', T, N)) (hlen : (mv_flat (.ref b :: [a1, a2, a3, a4, a5, a6, a7])).length ≤ mv_ml M') (hst : (st.map fun v => v.category).sum ≤ 8) (hM : mv_K ev M' (.ref b :: [a1, a2, a3, a4, a5, a6, a7]) h r1 h1) (kk : mv_g ev M (pc + 3) lv (r1.toList ++ st) h1 Q) : mv_g ev M pc lv (a7 :: a6 :: a5 :: a4 :: a3 :: a2 :: a1 :: .ref b :: st) h Q := by
  obtain ⟨r, h', a, q⟩ := kk
  exact ⟨r, h', me_callV ev M pc lv st h r h' M' idx 0 0 0 0 [a1, a2, a3, a4, a5, a6, a7] r1 h1 b ci N fs T d hlk hh hc hlen hst (Or.inl rfl) hM a, q⟩
theorem mv_cR0 {ev : mv_E} {M : mv_M} {pc : Nat} {lv st : List Value} {h : mv_H} {Q : Option Value → mv_H → Prop} {M' : mv_M} {idx : Nat} {r1 : Option Value} {h1 : mv_H} {b bb : Nat} (d : decode (mv_by M) pc = .ok (.invokevirtual idx, 3)) (hlk : mv_lkV M idx M' 0) (hh : (b, bb) ∈ mv_ro) (hc : mv_own M' = "java/lang/String") (hlen : (mv_flat (.ref b :: [])).length ≤ mv_ml M') (hst : (st.map fun v => v.category).sum ≤ 8) (hM : mv_K ev M' (.ref b :: []) h r1 h1) (kk : mv_g ev M (pc + 3) lv (r1.toList ++ st) h1 Q) : mv_g ev M pc lv (.ref b :: st) h Q := by
  obtain ⟨r, h', a, q⟩ := kk
  exact ⟨r, h', me_callR ev M pc lv st h r h' M' idx 0 0 0 0 [] r1 h1 b bb d hlk hh hc hlen hst (Or.inl rfl) hM a, q⟩
theorem mv_cR1 {ev : mv_E} {M : mv_M} {pc : Nat} {lv st : List Value} {h : mv_H} {Q : Option Value → mv_H → Prop} {M' : mv_M} {idx : Nat} {r1 : Option Value} {h1 : mv_H} {b bb : Nat} {a1 : Value} (d : decode (mv_by M) pc = .ok (.invokevirtual idx, 3)) (hlk : mv_lkV M idx M' 1) (hh : (b, bb) ∈ mv_ro) (hc : mv_own M' = "java/lang/String") (hlen : (mv_flat (.ref b :: [a1])).length ≤ mv_ml M') (hst : (st.map fun v => v.category).sum ≤ 8) (hM : mv_K ev M' (.ref b :: [a1]) h r1 h1) (kk : mv_g ev M (pc + 3) lv (r1.toList ++ st) h1 Q) : mv_g ev M pc lv (a1 :: .ref b :: st) h Q := by
  obtain ⟨r, h', a, q⟩ := kk
  exact ⟨r, h', me_callR ev M pc lv st h r h' M' idx 0 0 0 0 [a1] r1 h1 b bb d hlk hh hc hlen hst (Or.inl rfl) hM a, q⟩
theorem mv_cR2 {ev : mv_E} {M : mv_M} {pc : Nat} {lv st : List Value} {h : mv_H} {Q : Option Value → mv_H → Prop} {M' : mv_M} {idx : Nat} {r1 : Option Value} {h1 : mv_H} {b bb : Nat} {a1 a2 : Value} (d : decode (mv_by M) pc = .ok (.invokevirtual idx, 3)) (hlk : mv_lkV M idx M' 2) (hh : (b, bb) ∈ mv_ro) (hc : mv_own M' = "java/lang/String") (hlen : (mv_flat (.ref b :: [a1, a2])).length ≤ mv_ml M') (hst : (st.map fun v => v.category).sum ≤ 8) (hM : mv_K ev M' (.ref b :: [a1, a2]) h r1 h1) (kk : mv_g ev M (pc + 3) lv (r1.toList ++ st) h1 Q) : mv_g ev M pc lv (a2 :: a1 :: .ref b :: st) h Q := by
  obtain ⟨r, h', a, q⟩ := kk
  exact ⟨r, h', me_callR ev M pc lv st h r h' M' idx 0 0 0 0 [a1, a2] r1 h1 b bb d hlk hh hc hlen hst (Or.inl rfl) hM a, q⟩
theorem mv_cR3 {ev : mv_E} {M : mv_M} {pc : Nat} {lv st : List Value} {h : mv_H} {Q : Option Value → mv_H → Prop} {M' : mv_M} {idx : Nat} {r1 : Option Value} {h1 : mv_H} {b bb : Nat} {a1 a2 a3 : Value} (d : decode (mv_by M) pc = .ok (.invokevirtual idx, 3)) (hlk : mv_lkV M idx M' 3) (hh : (b, bb) ∈ mv_ro) (hc : mv_own M' = "java/lang/String") (hlen : (mv_flat (.ref b :: [a1, a2, a3])).length ≤ mv_ml M') (hst : (st.map fun v => v.category).sum ≤ 8) (hM : mv_K ev M' (.ref b :: [a1, a2, a3]) h r1 h1) (kk : mv_g ev M (pc + 3) lv (r1.toList ++ st) h1 Q) : mv_g ev M pc lv (a3 :: a2 :: a1 :: .ref b :: st) h Q := by
  obtain ⟨r, h', a, q⟩ := kk
  exact ⟨r, h', me_callR ev M pc lv st h r h' M' idx 0 0 0 0 [a1, a2, a3] r1 h1 b bb d hlk hh hc hlen hst (Or.inl rfl) hM a, q⟩
theorem mv_cR4 {ev : mv_E} {M : mv_M} {pc : Nat} {lv st : List Value} {h : mv_H} {Q : Option Value → mv_H → Prop} {M' : mv_M} {idx : Nat} {r1 : Option Value} {h1 : mv_H} {b bb : Nat} {a1 a2 a3 a4 : Value} (d : decode (mv_by M) pc = .ok (.invokevirtual idx, 3)) (hlk : mv_lkV M idx M' 4) (hh : (b, bb) ∈ mv_ro) (hc : mv_own M' = "java/lang/String") (hlen : (mv_flat (.ref b :: [a1, a2, a3, a4])).length ≤ mv_ml M') (hst : (st.map fun v => v.category).sum ≤ 8) (hM : mv_K ev M' (.ref b :: [a1, a2, a3, a4]) h r1 h1) (kk : mv_g ev M (pc + 3) lv (r1.toList ++ st) h1 Q) : mv_g ev M pc lv (a4 :: a3 :: a2 :: a1 :: .ref b :: st) h Q := by
  obtain ⟨r, h', a, q⟩ := kk
  exact ⟨r, h', me_callR ev M pc lv st h r h' M' idx 0 0 0 0 [a1, a2, a3, a4] r1 h1 b bb d hlk hh hc hlen hst (Or.inl rfl) hM a, q⟩
theorem mv_cR5 {ev : mv_E} {M : mv_M} {pc : Nat} {lv st : List Value} {h : mv_H} {Q : Option Value → mv_H → Prop} {M' : mv_M} {idx : Nat} {r1 : Option Value} {h1 : mv_H} {b bb : Nat} {a1 a2 a3 a4 a5 : Value} (d : decode (mv_by M) pc = .ok (.invokevirtual idx, 3)) (hlk : mv_lkV M idx M' 5) (hh : (b, bb) ∈ mv_ro) (hc : mv_own M' = "java/lang/String") (hlen : (mv_flat (.ref b :: [a1, a2, a3, a4, a5])).length ≤ mv_ml M') (hst : (st.map fun v => v.category).sum ≤ 8) (hM : mv_K ev M' (.ref b :: [a1, a2, a3, a4, a5]) h r1 h1) (kk : mv_g ev M (pc + 3) lv (r1.toList ++ st) h1 Q) : mv_g ev M pc lv (a5 :: a4 :: a3 :: a2 :: a1 :: .ref b :: st) h Q := by
  obtain ⟨r, h', a, q⟩ := kk
  exact ⟨r, h', me_callR ev M pc lv st h r h' M' idx 0 0 0 0 [a1, a2, a3, a4, a5] r1 h1 b bb d hlk hh hc hlen hst (Or.inl rfl) hM a, q⟩
theorem mv_cR6 {ev : mv_E} {M : mv_M} {pc : Nat} {lv st : List Value} {h : mv_H} {Q : Option Value → mv_H → Prop} {M' : mv_M} {idx : Nat} {r1 : Option Value} {h1 : mv_H} {b bb : Nat} {a1 a2 a3 a4 a5 a6 : Value} (d : decode (mv_by M) pc = .ok (.invokevirtual idx, 3)) (hlk : mv_lkV M idx M' 6) (hh : (b, bb) ∈ mv_ro) (hc : mv_own M' = "java/lang/String") (hlen : (mv_flat (.ref b :: [a1, a2, a3, a4, a5, a6])).length ≤ mv_ml M') (hst : (st.map fun v => v.category).sum ≤ 8) (hM : mv_K ev M' (.ref b :: [a1, a2, a3, a4, a5, a6]) h r1 h1) (kk : mv_g ev M (pc + 3) lv (r1.toList ++ st) h1 Q) : mv_g ev M pc lv (a6 :: a5 :: a4 :: a3 :: a2 :: a1 :: .ref b :: st) h Q := by
  obtain ⟨r, h', a, q⟩ := kk
  exact ⟨r, h', me_callR ev M pc lv st h r h' M' idx 0 0 0 0 [a1, a2, a3, a4, a5, a6] r1 h1 b bb d hlk hh hc hlen hst (Or.inl rfl) hM a, q⟩
theorem mv_cR7 {ev : mv_E} {M : mv_M} {pc : Nat} {lv st : List Value} {h : mv_H} {Q : Option Value → mv_H → Prop} {M' : mv_M} {idx : Nat} {r1 : Option Value} {h1 : mv_H} {b bb : Nat} {a1 a2 a3 a4 a5 a6 a7 : Value} (d : decode (mv_by M) pc = .ok (.invokevirtual idx, 3)) (hlk : mv_lkV M idx M' 7) (hh : (b, bb) ∈ mv_ro) (hc : mv_own M' = "java/lang/String") (hlen : (mv_flat (.ref b :: [a1, a2, a3, a4, a5, a6, a7])).length ≤ mv_ml M') (hst : (st.map fun v => v.category).sum ≤ 8) (hM : mv_K ev M' (.ref b :: [a1, a2, a3, a4, a5, a6, a7]) h r1 h1) (kk : mv_g ev M (pc + 3) lv (r1.toList ++ st) h1 Q) : mv_g ev M pc lv (a7 :: a6 :: a5 :: a4 :: a3 :: a2 :: a1 :: .ref b :: st) h Q := by
  obtain ⟨r, h', a, q⟩ := kk
  exact ⟨r, h', me_callR ev M pc lv st h r h' M' idx 0 0 0 0 [a1, a2, a3, a4, a5, a6, a7] r1 h1 b bb d hlk hh hc hlen hst (Or.inl rfl) hM a, q⟩
theorem mv_cS0 {ev : mv_E} {M : mv_M} {pc : Nat} {lv st : List Value} {h : mv_H} {Q : Option Value → mv_H → Prop} {M' : mv_M} {idx : Nat} {r1 : Option Value} {h1 : mv_H} (d : decode (mv_by M) pc = .ok (.invokestatic idx, 3)) (hlk : mv_lkS M idx M' 0) (hlen : (mv_flat []).length ≤ mv_ml M') (hst : (st.map fun v => v.category).sum ≤ 8) (hM : mv_K ev M' [] h r1 h1) (kk : mv_g ev M (pc + 3) lv (r1.toList ++ st) h1 Q) : mv_g ev M pc lv (st) h Q := by
  obtain ⟨r, h', a, q⟩ := kk
  exact ⟨r, h', me_callS ev M pc lv st h r h' M' idx 0 0 0 0 [] r1 h1 d hlk hlen hst (Or.inl rfl) hM a, q⟩
theorem mv_cS1 {ev : mv_E} {M : mv_M} {pc : Nat} {lv st : List Value} {h : mv_H} {Q : Option Value → mv_H → Prop} {M' : mv_M} {idx : Nat} {r1 : Option Value} {h1 : mv_H} {a1 : Value} (d : decode (mv_by M) pc = .ok (.invokestatic idx, 3)) (hlk : mv_lkS M idx M' 1) (hlen : (mv_flat [a1]).length ≤ mv_ml M') (hst : (st.map fun v => v.category).sum ≤ 8) (hM : mv_K ev M' [a1] h r1 h1) (kk : mv_g ev M (pc + 3) lv (r1.toList ++ st) h1 Q) : mv_g ev M pc lv (a1 :: st) h Q := by
  obtain ⟨r, h', a, q⟩ := kk
  exact ⟨r, h', me_callS ev M pc lv st h r h' M' idx 0 0 0 0 [a1] r1 h1 d hlk hlen hst (Or.inl rfl) hM a, q⟩
theorem mv_cS2 {ev : mv_E} {M : mv_M} {pc : Nat} {lv st : List Value} {h : mv_H} {Q : Option Value → mv_H → Prop} {M' : mv_M} {idx : Nat} {r1 : Option Value} {h1 : mv_H} {a1 a2 : Value} (d : decode (mv_by M) pc = .ok (.invokestatic idx, 3)) (hlk : mv_lkS M idx M' 2) (hlen : (mv_flat [a1, a2]).length ≤ mv_ml M') (hst : (st.map fun v => v.category).sum ≤ 8) (hM : mv_K ev M' [a1, a2] h r1 h1) (kk : mv_g ev M (pc + 3) lv (r1.toList ++ st) h1 Q) : mv_g ev M pc lv (a2 :: a1 :: st) h Q := by
  obtain ⟨r, h', a, q⟩ := kk
  exact ⟨r, h', me_callS ev M pc lv st h r h' M' idx 0 0 0 0 [a1, a2] r1 h1 d hlk hlen hst (Or.inl rfl) hM a, q⟩
theorem mv_cS3 {ev : mv_E} {M : mv_M} {pc : Nat} {lv st : List Value} {h : mv_H} {Q : Option Value → mv_H → Prop} {M' : mv_M} {idx : Nat} {r1 : Option Value} {h1 : mv_H} {a1 a2 a3 : Value} (d : decode (mv_by M) pc = .ok (.invokestatic idx, 3)) (hlk : mv_lkS M idx M' 3) (hlen : (mv_flat [a1, a2, a3]).length ≤ mv_ml M') (hst : (st.map fun v => v.category).sum ≤ 8) (hM : mv_K ev M' [a1, a2, a3] h r1 h1) (kk : mv_g ev M (pc + 3) lv (r1.toList ++ st) h1 Q) : mv_g ev M pc lv (a3 :: a2 :: a1 :: st) h Q := by
  obtain ⟨r, h', a, q⟩ := kk
  exact ⟨r, h', me_callS ev M pc lv st h r h' M' idx 0 0 0 0 [a1, a2, a3] r1 h1 d hlk hlen hst (Or.inl rfl) hM a, q⟩
theorem mv_cS4 {ev : mv_E} {M : mv_M} {pc : Nat} {lv st : List Value} {h : mv_H} {Q : Option Value → mv_H → Prop} {M' : mv_M} {idx : Nat} {r1 : Option Value} {h1 : mv_H} {a1 a2 a3 a4 : Value} (d : decode (mv_by M) pc = .ok (.invokestatic idx, 3)) (hlk : mv_lkS M idx M' 4) (hlen : (mv_flat [a1, a2, a3, a4]).length ≤ mv_ml M') (hst : (st.map fun v => v.category).sum ≤ 8) (hM : mv_K ev M' [a1, a2, a3, a4] h r1 h1) (kk : mv_g ev M (pc + 3) lv (r1.toList ++ st) h1 Q) : mv_g ev M pc lv (a4 :: a3 :: a2 :: a1 :: st) h Q := by
  obtain ⟨r, h', a, q⟩ := kk
  exact ⟨r, h', me_callS ev M pc lv st h r h' M' idx 0 0 0 0 [a1, a2, a3, a4] r1 h1 d hlk hlen hst (Or.inl rfl) hM a, q⟩
theorem mv_cS5 {ev : mv_E} {M : mv_M} {pc : Nat} {lv st : List Value} {h : mv_H} {Q : Option Value → mv_H → Prop} {M' : mv_M} {idx : Nat} {r1 : Option Value} {h1 : mv_H} {a1 a2 a3 a4 a5 : Value} (d : decode (mv_by M) pc = .ok (.invokestatic idx, 3)) (hlk : mv_lkS M idx M' 5) (hlen : (mv_flat [a1, a2, a3, a4, a5]).length ≤ mv_ml M') (hst : (st.map fun v => v.category).sum ≤ 8) (hM : mv_K ev M' [a1, a2, a3, a4, a5] h r1 h1) (kk : mv_g ev M (pc + 3) lv (r1.toList ++ st) h1 Q) : mv_g ev M pc lv (a5 :: a4 :: a3 :: a2 :: a1 :: st) h Q := by
  obtain ⟨r, h', a, q⟩ := kk
  exact ⟨r, h', me_callS ev M pc lv st h r h' M' idx 0 0 0 0 [a1, a2, a3, a4, a5] r1 h1 d hlk hlen hst (Or.inl rfl) hM a, q⟩
theorem mv_cS6 {ev : mv_E} {M : mv_M} {pc : Nat} {lv st : List Value} {h : mv_H} {Q : Option Value → mv_H → Prop} {M' : mv_M} {idx : Nat} {r1 : Option Value} {h1 : mv_H} {a1 a2 a3 a4 a5 a6 : Value} (d : decode (mv_by M) pc = .ok (.invokestatic idx, 3)) (hlk : mv_lkS M idx M' 6) (hlen : (mv_flat [a1, a2, a3, a4, a5, a6]).length ≤ mv_ml M') (hst : (st.map fun v => v.category).sum ≤ 8) (hM : mv_K ev M' [a1, a2, a3, a4, a5, a6] h r1 h1) (kk : mv_g ev M (pc + 3) lv (r1.toList ++ st) h1 Q) : mv_g ev M pc lv (a6 :: a5 :: a4 :: a3 :: a2 :: a1 :: st) h Q := by
  obtain ⟨r, h', a, q⟩ := kk
  exact ⟨r, h', me_callS ev M pc lv st h r h' M' idx 0 0 0 0 [a1, a2, a3, a4, a5, a6] r1 h1 d hlk hlen hst (Or.inl rfl) hM a, q⟩
theorem mv_cS7 {ev : mv_E} {M : mv_M} {pc : Nat} {lv st : List Value} {h : mv_H} {Q : Option Value → mv_H → Prop} {M' : mv_M} {idx : Nat} {r1 : Option Value} {h1 : mv_H} {a1 a2 a3 a4 a5 a6 a7 : Value} (d : decode (mv_by M) pc = .ok (.invokestatic idx, 3)) (hlk : mv_lkS M idx M' 7) (hlen : (mv_flat [a1, a2, a3, a4, a5, a6, a7]).length ≤ mv_ml M') (hst : (st.map fun v => v.category).sum ≤ 8) (hM : mv_K ev M' [a1, a2, a3, a4, a5, a6, a7] h r1 h1) (kk : mv_g ev M (pc + 3) lv (r1.toList ++ st) h1 Q) : mv_g ev M pc lv (a7 :: a6 :: a5 :: a4 :: a3 :: a2 :: a1 :: st) h Q := by
  obtain ⟨r, h', a, q⟩ := kk
  exact ⟨r, h', me_callS ev M pc lv st h r h' M' idx 0 0 0 0 [a1, a2, a3, a4, a5, a6, a7] r1 h1 d hlk hlen hst (Or.inl rfl) hM a, q⟩
theorem mv_cSN0 {ev : mv_E} {M : mv_M} {pc : Nat} {lv st : List Value} {h : mv_H} {Q : Option Value → mv_H → Prop} {M' : mv_M} {idx : Nat} {r1 : Option Value} {h1 : mv_H} (d : decode (mv_by M) pc = .ok (.invokestatic idx, 3)) (hlk : mv_lkSN M idx M' 0) (hlen : (mv_flat []).length ≤ mv_ml M') (hst : (st.map fun v => v.category).sum ≤ 8) (hM : mv_K ev M' [] h r1 h1) (kk : mv_g ev M (pc + 3) lv (r1.toList ++ st) h1 Q) : mv_g ev M pc lv (st) h Q := by
  obtain ⟨r, h', a, q⟩ := kk
  exact ⟨r, h', me_callSN ev M pc lv st h r h' M' idx 0 0 0 0 [] r1 h1 d hlk hlen hst (Or.inl rfl) hM a, q⟩
theorem mv_cSN1 {ev : mv_E} {M : mv_M} {pc : Nat} {lv st : List Value} {h : mv_H} {Q : Option Value → mv_H → Prop} {M' : mv_M} {idx : Nat} {r1 : Option Value} {h1 : mv_H} {a1 : Value} (d : decode (mv_by M) pc = .ok (.invokestatic idx, 3)) (hlk : mv_lkSN M idx M' 1) (hlen : (mv_flat [a1]).length ≤ mv_ml M') (hst : (st.map fun v => v.category).sum ≤ 8) (hM : mv_K ev M' [a1] h r1 h1) (kk : mv_g ev M (pc + 3) lv (r1.toList ++ st) h1 Q) : mv_g ev M pc lv (a1 :: st) h Q := by
  obtain ⟨r, h', a, q⟩ := kk
  exact ⟨r, h', me_callSN ev M pc lv st h r h' M' idx 0 0 0 0 [a1] r1 h1 d hlk hlen hst (Or.inl rfl) hM a, q⟩
theorem mv_cSN2 {ev : mv_E} {M : mv_M} {pc : Nat} {lv st : List Value} {h : mv_H} {Q : Option Value → mv_H → Prop} {M' : mv_M} {idx : Nat} {r1 : Option Value} {h1 : mv_H} {a1 a2 : Value} (d : decode (mv_by M) pc = .ok (.invokestatic idx, 3)) (hlk : mv_lkSN M idx M' 2) (hlen : (mv_flat [a1, a2]).length ≤ mv_ml M') (hst : (st.map fun v => v.category).sum ≤ 8) (hM : mv_K ev M' [a1, a2] h r1 h1) (kk : mv_g ev M (pc + 3) lv (r1.toList ++ st) h1 Q) : mv_g ev M pc lv (a2 :: a1 :: st) h Q := by
  obtain ⟨r, h', a, q⟩ := kk
  exact ⟨r, h', me_callSN ev M pc lv st h r h' M' idx 0 0 0 0 [a1, a2] r1 h1 d hlk hlen hst (Or.inl rfl) hM a, q⟩
theorem mv_cSN3 {ev : mv_E} {M : mv_M} {pc : Nat} {lv st : List Value} {h : mv_H} {Q : Option Value → mv_H → Prop} {M' : mv_M} {idx : Nat} {r1 : Option Value} {h1 : mv_H} {a1 a2 a3 : Value} (d : decode (mv_by M) pc = .ok (.invokestatic idx, 3)) (hlk : mv_lkSN M idx M' 3) (hlen : (mv_flat [a1, a2, a3]).length ≤ mv_ml M') (hst : (st.map fun v => v.category).sum ≤ 8) (hM : mv_K ev M' [a1, a2, a3] h r1 h1) (kk : mv_g ev M (pc + 3) lv (r1.toList ++ st) h1 Q) : mv_g ev M pc lv (a3 :: a2 :: a1 :: st) h Q := by
  obtain ⟨r, h', a, q⟩ := kk
  exact ⟨r, h', me_callSN ev M pc lv st h r h' M' idx 0 0 0 0 [a1, a2, a3] r1 h1 d hlk hlen hst (Or.inl rfl) hM a, q⟩
theorem mv_cSN4 {ev : mv_E} {M : mv_M} {pc : Nat} {lv st : List Value} {h : mv_H} {Q : Option Value → mv_H → Prop} {M' : mv_M} {idx : Nat} {r1 : Option Value} {h1 : mv_H} {a1 a2 a3 a4 : Value} (d : decode (mv_by M) pc = .ok (.invokestatic idx, 3)) (hlk : mv_lkSN M idx M' 4) (hlen : (mv_flat [a1, a2, a3, a4]).length ≤ mv_ml M') (hst : (st.map fun v => v.category).sum ≤ 8) (hM : mv_K ev M' [a1, a2, a3, a4] h r1 h1) (kk : mv_g ev M (pc + 3) lv (r1.toList ++ st) h1 Q) : mv_g ev M pc lv (a4 :: a3 :: a2 :: a1 :: st) h Q := by
  obtain ⟨r, h', a, q⟩ := kk
  exact ⟨r, h', me_callSN ev M pc lv st h r h' M' idx 0 0 0 0 [a1, a2, a3, a4] r1 h1 d hlk hlen hst (Or.inl rfl) hM a, q⟩
theorem mv_cSN5 {ev : mv_E} {M : mv_M} {pc : Nat} {lv st : List Value} {h : mv_H} {Q : Option Value → mv_H → Prop} {M' : mv_M} {idx : Nat} {r1 : Option Value} {h1 : mv_H} {a1 a2 a3 a4 a5 : Value} (d : decode (mv_by M) pc = .ok (.invokestatic idx, 3)) (hlk : mv_lkSN M idx M' 5) (hlen : (mv_flat [a1, a2, a3, a4, a5]).length ≤ mv_ml M') (hst : (st.map fun v => v.category).sum ≤ 8) (hM : mv_K ev M' [a1, a2, a3, a4, a5] h r1 h1) (kk : mv_g ev M (pc + 3) lv (r1.toList ++ st) h1 Q) : mv_g ev M pc lv (a5 :: a4 :: a3 :: a2 :: a1 :: st) h Q := by
  obtain ⟨r, h', a, q⟩ := kk
  exact ⟨r, h', me_callSN ev M pc lv st h r h' M' idx 0 0 0 0 [a1, a2, a3, a4, a5] r1 h1 d hlk hlen hst (Or.inl rfl) hM a, q⟩
theorem mv_cSN6 {ev : mv_E} {M : mv_M} {pc : Nat} {lv st : List Value} {h : mv_H} {Q : Option Value → mv_H → Prop} {M' : mv_M} {idx : Nat} {r1 : Option Value} {h1 : mv_H} {a1 a2 a3 a4 a5 a6 : Value} (d : decode (mv_by M) pc = .ok (.invokestatic idx, 3)) (hlk : mv_lkSN M idx M' 6) (hlen : (mv_flat [a1, a2, a3, a4, a5, a6]).length ≤ mv_ml M') (hst : (st.map fun v => v.category).sum ≤ 8) (hM : mv_K ev M' [a1, a2, a3, a4, a5, a6] h r1 h1) (kk : mv_g ev M (pc + 3) lv (r1.toList ++ st) h1 Q) : mv_g ev M pc lv (a6 :: a5 :: a4 :: a3 :: a2 :: a1 :: st) h Q := by
  obtain ⟨r, h', a, q⟩ := kk
  exact ⟨r, h', me_callSN ev M pc lv st h r h' M' idx 0 0 0 0 [a1, a2, a3, a4, a5, a6] r1 h1 d hlk hlen hst (Or.inl rfl) hM a, q⟩
theorem mv_cSN7 {ev : mv_E} {M : mv_M} {pc : Nat} {lv st : List Value} {h : mv_H} {Q : Option Value → mv_H → Prop} {M' : mv_M} {idx : Nat} {r1 : Option Value} {h1 : mv_H} {a1 a2 a3 a4 a5 a6 a7 : Value} (d : decode (mv_by M) pc = .ok (.invokestatic idx, 3)) (hlk : mv_lkSN M idx M' 7) (hlen : (mv_flat [a1, a2, a3, a4, a5, a6, a7]).length ≤ mv_ml M') (hst : (st.map fun v => v.category).sum ≤ 8) (hM : mv_K ev M' [a1, a2, a3, a4, a5, a6, a7] h r1 h1) (kk : mv_g ev M (pc + 3) lv (r1.toList ++ st) h1 Q) : mv_g ev M pc lv (a7 :: a6 :: a5 :: a4 :: a3 :: a2 :: a1 :: st) h Q := by
  obtain ⟨r, h', a, q⟩ := kk
  exact ⟨r, h', me_callSN ev M pc lv st h r h' M' idx 0 0 0 0 [a1, a2, a3, a4, a5, a6, a7] r1 h1 d hlk hlen hst (Or.inl rfl) hM a, q⟩
section MVT
variable {ev : mv_E} {M : mv_M} {pc : Nat} {lv st : List Value} {h : mv_H} {k n : Nat} {Q : Option Value → mv_H → Prop}
theorem mv_topI {x y : Int32} (e : x = y) (kk : mv_G ev k n M pc lv (.int y :: st) h Q) : mv_G ev k n M pc lv (.int x :: st) h Q := by rw [e]; exact kk
theorem mv_topL {x y : Int64} (e : x = y) (kk : mv_G ev k n M pc lv (.long y :: st) h Q) : mv_G ev k n M pc lv (.long x :: st) h Q := by rw [e]; exact kk
theorem mv_topH (kk : ∀ h2, h2 = h → mv_G ev k n M pc lv st h2 Q) : mv_G ev k n M pc lv st h Q := kk h rfl
theorem mv_iaN {a n0 j : Nat} {f : Nat → Int32} {i x : Int32} (d : decode (mv_by M) pc = .ok (.iaload, 1)) (hh : h[a]? = some (.inl (0, n0, .inl f))) (hi : i = nI j) (hn : n0 < 2 ^ 31) (hj : j < n0) (hx : f j = x) (kk : mv_G ev k n M (pc + 1) lv (.int x :: st) h Q) : mv_G ev k n M pc lv (.int i :: .ref a :: st) h Q := by
  subst hi
  refine mv_iald d hh (vp_in_nI hj hn) ?_
  rw [nI_clamp (by omega), hx]
  exact kk
theorem mv_zaN {a n0 j : Nat} {f : Nat → Int32} {i x : Int32} (d : decode (mv_by M) pc = .ok (.baload, 1)) (hh : h[a]? = some (.inl (2, n0, .inl f))) (hi : i = nI j) (hn : n0 < 2 ^ 31) (hj : j < n0) (hx : f j = x) (kk : mv_G ev k n M (pc + 1) lv (.int x :: st) h Q) : mv_G ev k n M pc lv (.int i :: .ref a :: st) h Q := by
  subst hi
  refine mv_zald d hh (vp_in_nI hj hn) ?_
  rw [nI_clamp (by omega), hx]
  exact kk
theorem mv_laN {a n0 j : Nat} {f : Nat → Int64} {i : Int32} {x : Int64} (d : decode (mv_by M) pc = .ok (.laload, 1)) (hh : h[a]? = some (.inl (1, n0, .inr (.inl f)))) (hi : i = nI j) (hn : n0 < 2 ^ 31) (hj : j < n0) (hx : f j = x) (kk : mv_G ev k n M (pc + 1) lv (.long x :: st) h Q) : mv_G ev k n M pc lv (.int i :: .ref a :: st) h Q := by
  subst hi
  refine mv_lald d hh (vp_in_nI hj hn) ?_
  rw [nI_clamp (by omega), hx]
  exact kk
theorem mv_raN {a n0 j : Nat} {f : Nat → Int32} {i x : Int32} (d : decode (mv_by M) pc = .ok (.iaload, 1)) (hh : (a, n0, f) ∈ mv_ri ev) (hi : i = nI j) (hn : n0 < 2 ^ 31) (hj : j < n0) (hx : f j = x) (kk : mv_G ev k n M (pc + 1) lv (.int x :: st) h Q) : mv_G ev k n M pc lv (.int i :: .ref a :: st) h Q := by
  subst hi
  refine mv_rald d hh (vp_in_nI hj hn) ?_
  rw [nI_clamp (by omega), hx]
  exact kk
theorem mv_iastN {a n0 j : Nat} {f : Nat → Int32} {i x : Int32} (d : decode (mv_by M) pc = .ok (.iastore, 1)) (hh : h[a]? = some (.inl (0, n0, .inl f))) (hi : i = nI j) (hn : n0 < 2 ^ 31) (hj : j < n0) (kk : ∀ h2, h2 = h.set a (.inl (0, n0, .inl (upd f j x))) → mv_G ev k n M (pc + 1) lv st h2 Q) : mv_G ev k n M pc lv (.int x :: .int i :: .ref a :: st) h Q := by
  subst hi
  refine mv_iast d hh (vp_in_nI hj hn) ?_
  rw [nI_clamp (by omega)]
  exact kk _ rfl
theorem mv_zastN {a n0 j : Nat} {f : Nat → Int32} {i x : Int32} (d : decode (mv_by M) pc = .ok (.bastore, 1)) (hh : h[a]? = some (.inl (2, n0, .inl f))) (hi : i = nI j) (hn : n0 < 2 ^ 31) (hj : j < n0) (hx : vp_nar .boolean x = x) (kk : ∀ h2, h2 = h.set a (.inl (2, n0, .inl (upd f j x))) → mv_G ev k n M (pc + 1) lv st h2 Q) : mv_G ev k n M pc lv (.int x :: .int i :: .ref a :: st) h Q := by
  subst hi
  refine mv_zast d hh (vp_in_nI hj hn) ?_
  rw [nI_clamp (by omega), hx]
  exact kk _ rfl
theorem mv_lastN {a n0 j : Nat} {f : Nat → Int64} {i : Int32} {x : Int64} (d : decode (mv_by M) pc = .ok (.lastore, 1)) (hh : h[a]? = some (.inl (1, n0, .inr (.inl f)))) (hi : i = nI j) (hn : n0 < 2 ^ 31) (hj : j < n0) (kk : ∀ h2, h2 = h.set a (.inl (1, n0, .inr (.inl (vp_updL f j x)))) → mv_G ev k n M (pc + 1) lv st h2 Q) : mv_G ev k n M pc lv (.long x :: .int i :: .ref a :: st) h Q := by
  subst hi
  refine mv_last d hh (vp_in_nI hj hn) ?_
  rw [nI_clamp (by omega)]
  exact kk _ rfl
end MVT
theorem mv_eq {h h2 : mv_H} {a : Nat} {e x : va_E} (e2 : h2 = h.set a e) (H : h[a]? = some x) : h2[a]? = some e := by
  subst e2
  rw [List.getElem?_set, if_pos rfl, if_pos (List.getElem?_eq_some_iff.mp H).1]
theorem mv_ne {h h2 : mv_H} {a i : Nat} {e : va_E} {y : Option va_E} (e2 : h2 = h.set a e) (hne : ¬ a = i) (H : h[i]? = y) : h2[i]? = y := by
  subst e2
  rw [List.getElem?_set, if_neg hne]
  exact H
/-- what is not in L is as it was -/
def mv_fra (L : List Nat) (h h2 : mv_H) : Prop := h2.length = h.length ∧ ∀ i : Nat, i ∉ L → h2[i]? = h[i]?
theorem mv_fra.rf {L : List Nat} {h : mv_H} : mv_fra L h h := ⟨rfl, fun _ _ => rfl⟩
theorem mv_fra.set {L : List Nat} {h h1 h2 : mv_H} {a : Nat} {e : va_E} (f : mv_fra L h h1) (e2 : h2 = h1.set a e) (ha : a ∈ L) : mv_fra L h h2 := by
  subst e2
  refine ⟨by rw [List.length_set]; exact f.1, fun i hi => ?_⟩
  have hne : ¬ a = i := fun q => hi (by rw [← q]; exact ha)
  rw [List.getElem?_set, if_neg hne]
  exact f.2 i hi
theorem mv_fra.trans {L K : List Nat} {h h1 h2 : mv_H} (f : mv_fra L h h1) (g : mv_fra K h1 h2) (hK : ∀ i ∈ K, i ∈ L) : mv_fra L h h2 := ⟨g.1.trans f.1, fun i hi => (g.2 i (fun q => hi (hK i q))).trans (f.2 i hi)⟩
theorem mv_fra.get {L : List Nat} {h h2 : mv_H} {i : Nat} {y : Option va_E} (f : mv_fra L h h2) (hi : i ∉ L) (H : h[i]? = y) : h2[i]? = y := (f.2 i hi).trans H
/-! ints -/
def mv_b (p : Prop) [Decidable p] : Int32 := if p then 1 else 0
theorem mv_b_nar (p : Prop) [Decidable p] : narrow .boolean (.int (mv_b p)) = .int (mv_b p) := by unfold mv_b; split <;> rfl
theorem mv_b_vp (p : Prop) [Decidable p] : vp_nar .boolean (mv_b p) = mv_b p := by unfold mv_b; split <;> rfl
theorem mv_b_0 (p : Prop) [Decidable p] : mv_b p = 0 ↔ ¬ p := by
  unfold mv_b
  by_cases h : p <;> simp [h]
theorem mv_b_ne {p : Prop} [Decidable p] (h : ¬ mv_b p = 0) : p := Classical.byContradiction (fun z => h ((mv_b_0 _).mpr z))
theorem mv_b_t {p : Prop} [Decidable p] (h : p) : mv_b p = 1 := by simp [mv_b, h]
theorem mv_b_f {p : Prop} [Decidable p] (h : ¬ p) : mv_b p = 0 := by simp [mv_b, h]
theorem mv_b_c {p q : Prop} [Decidable p] [Decidable q] (h : p ↔ q) : mv_b p = mv_b q := by simp [mv_b, h]
theorem mv_lit (n : Nat) : Int32.ofInt (n : Int) = nI n := rfl
theorem mv_inc (a c : Nat) : nI a + Int32.ofInt (c : Int) = nI (a + c) := nI_add a c

