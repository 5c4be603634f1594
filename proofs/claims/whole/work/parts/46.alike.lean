/-- the cells of the class, of the reference -/
def q_hc (lw : Nat → Int32) (n : Nat) (tx : Nat → Nat) (fp : Int32) (b : t_B) (t : Nat) (s : q_S) (wa : Nat → Nat) (cf : Nat → Int32) (ct : Nat → Int32) (rr : Nat → Nat) (c : q_C) (wo : q_W) (o1 : t_B) (u1 : Nat) (o2 : t_B) (u2 : Nat) (kp : Nat → Nat) (a0 : Nat) (cl : Nat) (fa : Nat) (dr : Nat → Int32) (ti : Nat → Nat) (ok : Nat → Nat) (t4 : q_4) (hs : Nat → Nat) (od : Nat → Nat) (sh : Nat → Nat) (t3 : q_3) (co : Nat) (fo : Int32) (f : Nat → Nat) (gg : Nat → Nat) : mv_H := [.inr (11, [.ref 1, .ref 3, .ref 7, .ref 11, .ref 21, .ref 22, .ref 32, .ref 34, .ref 42, .ref 45, .ref 48]),
  .inr (5, [.ref 2]),
  .inl (0, 8, .inl lw),
  .inr (6, [.ref 4, .ref 5, .ref 6, .int (nI n), .int (nI a0), .int (nI cl), .int (nI fa), .int fp]),
  .inl (0, 160, .inl (fun j => nI (tx j))),
  .inl (0, 8, .inl dr),
  .inl (2, 7, .inl (fun j => nI (ti j))),
  .inr (0, [.ref 8, .ref 9, .ref 10, .int (nI b.1), .int (nI t), .int (nI b.2.1)]),
  .inl (0, 60, .inl (fun j => nI (b.2.2.1 j))),
  .inl (0, 60, .inl (fun j => nI (b.2.2.2.1 j))),
  .inl (0, 60, .inl (fun j => nI (b.2.2.2.2 j))),
  .inr (4, [.ref 12, .ref 16, .ref 20]),
  .inr (0, [.ref 13, .ref 14, .ref 15, .int (nI o1.1), .int (nI u1), .int (nI o1.2.1)]),
  .inl (0, 60, .inl (fun j => nI (o1.2.2.1 j))),
  .inl (0, 60, .inl (fun j => nI (o1.2.2.2.1 j))),
  .inl (0, 60, .inl (fun j => nI (o1.2.2.2.2 j))),
  .inr (0, [.ref 17, .ref 18, .ref 19, .int (nI o2.1), .int (nI u2), .int (nI o2.2.1)]),
  .inl (0, 60, .inl (fun j => nI (o2.2.2.1 j))),
  .inl (0, 60, .inl (fun j => nI (o2.2.2.2.1 j))),
  .inl (0, 60, .inl (fun j => nI (o2.2.2.2.2 j))),
  .inl (2, 2, .inl (fun j => nI (kp j))),
  .inr (3, [.ref 1, .ref 7]),
  .inr (7, [.ref 1, .ref 23, .ref 24, .ref 25, .ref 26, .int (nI s.1), .ref 27, .ref 28, .ref 29, .ref 30, .int (nI (q_cr rr 400)), .ref 31]),
  .inl (0, 100, .inl (fun j => nI (s.2.1 j))),
  .inl (0, 100, .inl (fun j => nI (s.2.2.1 j))),
  .inl (0, 100, .inl (fun j => nI (s.2.2.2.1 j))),
  .inl (0, 100, .inl (fun j => nI (s.2.2.2.2 j))),
  .inl (0, 8, .inl (fun j => nI (wa j))),
  .inl (0, 8, .inl cf),
  .inl (0, 8, .inl ct),
  .inl (2, 400, .inl (fun j => nI (rr j))),
  .inl (0, 400, .inl (fun j => nI (ok j))),
  .inr (8, [.ref 22, .ref 7, .ref 33, .int (nI t4.1), .int (nI t4.2.1), .int (nI t4.2.2.1), .int (nI t4.2.2.2)]),
  .inl (2, 400, .inl (fun j => nI (hs j))),
  .inr (1, [.ref 21, .ref 7, .ref 35, .ref 36, .ref 37, .ref 38, .ref 39, .ref 40, .ref 41, .int (nI c.1)]),
  .inl (0, 12, .inl (fun j => nI (c.2.1 j))),
  .inl (0, 12, .inl (fun j => nI (c.2.2.1 j))),
  .inl (0, 12, .inl (fun j => nI (c.2.2.2.1 j))),
  .inl (0, 12, .inl (fun j => nI (c.2.2.2.2.1 j))),
  .inl (0, 12, .inl (fun j => nI (c.2.2.2.2.2.1 j))),
  .inl (0, 12, .inl (fun j => nI (c.2.2.2.2.2.2.1 j))),
  .inl (0, 12, .inl (fun j => nI (c.2.2.2.2.2.2.2 j))),
  .inr (9, [.ref 21, .ref 7, .ref 43, .ref 44, .int (nI t3.1), .int (nI t3.2.1), .int (nI t3.2.2), .int (nI co)]),
  .inl (0, 400, .inl (fun j => nI (od j))),
  .inl (0, 400, .inl (fun j => nI (sh j))),
  .inr (2, [.ref 46, .ref 47, .int fo]),
  .inl (1, 201, .inr (.inl (fun j => lN (f j)))),
  .inl (1, 201, .inr (.inl (fun j => lN (gg j)))),
  .inr (10, [.ref 21, .ref 49, .ref 50, .ref 51, .int (nI wo.1)]),
  .inl (0, 12, .inl (fun j => nI (wo.2.1 j))),
  .inl (0, 12, .inl (fun j => nI (wo.2.2.1 j))),
  .inl (0, 12, .inl (fun j => nI (wo.2.2.2 j)))]
def q_hr (lw : Nat → Int32) (n : Nat) (tx : Nat → Nat) (fp : Int32) (b : t_B) (t : Nat) (s : q_S) (wa : Nat → Nat) (cf : Nat → Int32) (ct : Nat → Int32) (rr : Nat → Nat) (c : q_C) (wo : q_W) (o1 : t_B) (u1 : Nat) (o2 : t_B) (u2 : Nat) (kp : Nat → Nat) (ra : Nat) (wd : Nat) (we : Nat) (nu : Int32) (rd : Nat → Int32) (ts : Nat) (oa : Nat → Nat) (ob : Nat → Nat) (f4 : Nat → Nat) (od2 : Nat → Nat) (sh2 : Nat → Nat) (tw : Nat → Nat) (f7 : Nat → Nat) (bc : Nat → Nat) : mv_H := [.inr (12, [.ref 53, .ref 54, .int (nI n), .int fp, .int (nI ra), .long (lN wd), .int (nI we), .int nu, .ref 55, .int (nI ts), .int (nI b.1), .ref 56, .ref 57, .ref 58, .int (nI t), .int (nI b.2.1), .ref 59, .ref 60, .ref 61, .ref 62, .int (nI s.1), .ref 63, .ref 64, .ref 65, .ref 66, .ref 67, .ref 68, .ref 69, .int (nI c.1), .ref 70, .ref 71, .ref 72, .ref 73, .ref 74, .ref 75, .int (nI wo.1), .ref 76, .ref 77, .ref 78, .ref 79, .ref 80]),
  .inl (0, 8, .inl lw),
  .inl (0, 160, .inl (fun j => nI (tx j))),
  .inl (0, 8, .inl rd),
  .inl (0, 60, .inl (fun j => nI (b.2.2.1 j))),
  .inl (0, 60, .inl (fun j => nI (b.2.2.2.1 j))),
  .inl (0, 60, .inl (fun j => nI (b.2.2.2.2 j))),
  .inl (0, 8, .inl (fun j => nI (wa j))),
  .inl (0, 8, .inl cf),
  .inl (0, 8, .inl ct),
  .inl (2, 400, .inl (fun j => nI (rr j))),
  .inl (0, 100, .inl (fun j => nI (s.2.1 j))),
  .inl (0, 100, .inl (fun j => nI (s.2.2.1 j))),
  .inl (0, 100, .inl (fun j => nI (s.2.2.2.1 j))),
  .inl (0, 100, .inl (fun j => nI (s.2.2.2.2 j))),
  .inl (2, 400, .inl (fun j => nI (oa j))),
  .inl (2, 400, .inl (fun j => nI (ob j))),
  .inl (0, 4, .inl (fun j => nI (f4 j))),
  .inl (0, 84, .inl (fun j => nI (q_row c j))),
  .inl (0, 400, .inl (fun j => nI (od2 j))),
  .inl (0, 400, .inl (fun j => nI (sh2 j))),
  .inl (0, 4, .inl (fun j => nI (tw j))),
  .inl (0, 201, .inl (fun j => nI (f7 j))),
  .inl (0, 3721, .inl (fun j => nI (bc j))),
  .inl (0, 12, .inl (fun j => nI (wo.2.1 j))),
  .inl (0, 12, .inl (fun j => nI (wo.2.2.1 j))),
  .inl (0, 12, .inl (fun j => nI (wo.2.2.2 j))),
  .inl (0, 400, .inl (fun j => nI ((q_im o1 u1 o2 u2) j))),
  .inl (2, 2, .inl (fun j => nI (kp j)))]
theorem q_c0 {h R : mv_H} {lw : Nat → Int32} {n : Nat} {tx : Nat → Nat} {fp : Int32} {b : t_B} {t : Nat} {s : q_S} {wa : Nat → Nat} {cf : Nat → Int32} {ct : Nat → Int32} {rr : Nat → Nat} {c : q_C} {wo : q_W} {o1 : t_B} {u1 : Nat} {o2 : t_B} {u2 : Nat} {kp : Nat → Nat} {a0 : Nat} {cl : Nat} {fa : Nat} {dr : Nat → Int32} {ti : Nat → Nat} {ok : Nat → Nat} {t4 : q_4} {hs : Nat → Nat} {od : Nat → Nat} {sh : Nat → Nat} {t3 : q_3} {co : Nat} {fo : Int32} {f : Nat → Nat} {gg : Nat → Nat} (e : h = q_hc lw n tx fp b t s wa cf ct rr c wo o1 u1 o2 u2 kp a0 cl fa dr ti ok t4 hs od sh t3 co fo f gg ++ R) : h[0]? = some (.inr (11, [.ref 1, .ref 3, .ref 7, .ref 11, .ref 21, .ref 22, .ref 32, .ref 34, .ref 42, .ref 45, .ref 48])) := by
  rw [e]
  rfl
theorem q_c1 {h R : mv_H} {lw : Nat → Int32} {n : Nat} {tx : Nat → Nat} {fp : Int32} {b : t_B} {t : Nat} {s : q_S} {wa : Nat → Nat} {cf : Nat → Int32} {ct : Nat → Int32} {rr : Nat → Nat} {c : q_C} {wo : q_W} {o1 : t_B} {u1 : Nat} {o2 : t_B} {u2 : Nat} {kp : Nat → Nat} {a0 : Nat} {cl : Nat} {fa : Nat} {dr : Nat → Int32} {ti : Nat → Nat} {ok : Nat → Nat} {t4 : q_4} {hs : Nat → Nat} {od : Nat → Nat} {sh : Nat → Nat} {t3 : q_3} {co : Nat} {fo : Int32} {f : Nat → Nat} {gg : Nat → Nat} (e : h = q_hc lw n tx fp b t s wa cf ct rr c wo o1 u1 o2 u2 kp a0 cl fa dr ti ok t4 hs od sh t3 co fo f gg ++ R) : h[1]? = some (.inr (5, [.ref 2])) := by
  rw [e]
  rfl
theorem q_c2 {h R : mv_H} {lw : Nat → Int32} {n : Nat} {tx : Nat → Nat} {fp : Int32} {b : t_B} {t : Nat} {s : q_S} {wa : Nat → Nat} {cf : Nat → Int32} {ct : Nat → Int32} {rr : Nat → Nat} {c : q_C} {wo : q_W} {o1 : t_B} {u1 : Nat} {o2 : t_B} {u2 : Nat} {kp : Nat → Nat} {a0 : Nat} {cl : Nat} {fa : Nat} {dr : Nat → Int32} {ti : Nat → Nat} {ok : Nat → Nat} {t4 : q_4} {hs : Nat → Nat} {od : Nat → Nat} {sh : Nat → Nat} {t3 : q_3} {co : Nat} {fo : Int32} {f : Nat → Nat} {gg : Nat → Nat} (e : h = q_hc lw n tx fp b t s wa cf ct rr c wo o1 u1 o2 u2 kp a0 cl fa dr ti ok t4 hs od sh t3 co fo f gg ++ R) : h[2]? = some (.inl (0, 8, .inl lw)) := by
  rw [e]
  rfl
theorem q_c3 {h R : mv_H} {lw : Nat → Int32} {n : Nat} {tx : Nat → Nat} {fp : Int32} {b : t_B} {t : Nat} {s : q_S} {wa : Nat → Nat} {cf : Nat → Int32} {ct : Nat → Int32} {rr : Nat → Nat} {c : q_C} {wo : q_W} {o1 : t_B} {u1 : Nat} {o2 : t_B} {u2 : Nat} {kp : Nat → Nat} {a0 : Nat} {cl : Nat} {fa : Nat} {dr : Nat → Int32} {ti : Nat → Nat} {ok : Nat → Nat} {t4 : q_4} {hs : Nat → Nat} {od : Nat → Nat} {sh : Nat → Nat} {t3 : q_3} {co : Nat} {fo : Int32} {f : Nat → Nat} {gg : Nat → Nat} (e : h = q_hc lw n tx fp b t s wa cf ct rr c wo o1 u1 o2 u2 kp a0 cl fa dr ti ok t4 hs od sh t3 co fo f gg ++ R) : h[3]? = some (.inr (6, [.ref 4, .ref 5, .ref 6, .int (nI n), .int (nI a0), .int (nI cl), .int (nI fa), .int fp])) := by
  rw [e]
  rfl
theorem q_c4 {h R : mv_H} {lw : Nat → Int32} {n : Nat} {tx : Nat → Nat} {fp : Int32} {b : t_B} {t : Nat} {s : q_S} {wa : Nat → Nat} {cf : Nat → Int32} {ct : Nat → Int32} {rr : Nat → Nat} {c : q_C} {wo : q_W} {o1 : t_B} {u1 : Nat} {o2 : t_B} {u2 : Nat} {kp : Nat → Nat} {a0 : Nat} {cl : Nat} {fa : Nat} {dr : Nat → Int32} {ti : Nat → Nat} {ok : Nat → Nat} {t4 : q_4} {hs : Nat → Nat} {od : Nat → Nat} {sh : Nat → Nat} {t3 : q_3} {co : Nat} {fo : Int32} {f : Nat → Nat} {gg : Nat → Nat} (e : h = q_hc lw n tx fp b t s wa cf ct rr c wo o1 u1 o2 u2 kp a0 cl fa dr ti ok t4 hs od sh t3 co fo f gg ++ R) : h[4]? = some (.inl (0, 160, .inl (fun j => nI (tx j)))) := by
  rw [e]
  rfl
theorem q_c5 {h R : mv_H} {lw : Nat → Int32} {n : Nat} {tx : Nat → Nat} {fp : Int32} {b : t_B} {t : Nat} {s : q_S} {wa : Nat → Nat} {cf : Nat → Int32} {ct : Nat → Int32} {rr : Nat → Nat} {c : q_C} {wo : q_W} {o1 : t_B} {u1 : Nat} {o2 : t_B} {u2 : Nat} {kp : Nat → Nat} {a0 : Nat} {cl : Nat} {fa : Nat} {dr : Nat → Int32} {ti : Nat → Nat} {ok : Nat → Nat} {t4 : q_4} {hs : Nat → Nat} {od : Nat → Nat} {sh : Nat → Nat} {t3 : q_3} {co : Nat} {fo : Int32} {f : Nat → Nat} {gg : Nat → Nat} (e : h = q_hc lw n tx fp b t s wa cf ct rr c wo o1 u1 o2 u2 kp a0 cl fa dr ti ok t4 hs od sh t3 co fo f gg ++ R) : h[5]? = some (.inl (0, 8, .inl dr)) := by
  rw [e]
  rfl
theorem q_c6 {h R : mv_H} {lw : Nat → Int32} {n : Nat} {tx : Nat → Nat} {fp : Int32} {b : t_B} {t : Nat} {s : q_S} {wa : Nat → Nat} {cf : Nat → Int32} {ct : Nat → Int32} {rr : Nat → Nat} {c : q_C} {wo : q_W} {o1 : t_B} {u1 : Nat} {o2 : t_B} {u2 : Nat} {kp : Nat → Nat} {a0 : Nat} {cl : Nat} {fa : Nat} {dr : Nat → Int32} {ti : Nat → Nat} {ok : Nat → Nat} {t4 : q_4} {hs : Nat → Nat} {od : Nat → Nat} {sh : Nat → Nat} {t3 : q_3} {co : Nat} {fo : Int32} {f : Nat → Nat} {gg : Nat → Nat} (e : h = q_hc lw n tx fp b t s wa cf ct rr c wo o1 u1 o2 u2 kp a0 cl fa dr ti ok t4 hs od sh t3 co fo f gg ++ R) : h[6]? = some (.inl (2, 7, .inl (fun j => nI (ti j)))) := by
  rw [e]
  rfl
theorem q_c7 {h R : mv_H} {lw : Nat → Int32} {n : Nat} {tx : Nat → Nat} {fp : Int32} {b : t_B} {t : Nat} {s : q_S} {wa : Nat → Nat} {cf : Nat → Int32} {ct : Nat → Int32} {rr : Nat → Nat} {c : q_C} {wo : q_W} {o1 : t_B} {u1 : Nat} {o2 : t_B} {u2 : Nat} {kp : Nat → Nat} {a0 : Nat} {cl : Nat} {fa : Nat} {dr : Nat → Int32} {ti : Nat → Nat} {ok : Nat → Nat} {t4 : q_4} {hs : Nat → Nat} {od : Nat → Nat} {sh : Nat → Nat} {t3 : q_3} {co : Nat} {fo : Int32} {f : Nat → Nat} {gg : Nat → Nat} (e : h = q_hc lw n tx fp b t s wa cf ct rr c wo o1 u1 o2 u2 kp a0 cl fa dr ti ok t4 hs od sh t3 co fo f gg ++ R) : h[7]? = some (.inr (0, [.ref 8, .ref 9, .ref 10, .int (nI b.1), .int (nI t), .int (nI b.2.1)])) := by
  rw [e]
  rfl
theorem q_c8 {h R : mv_H} {lw : Nat → Int32} {n : Nat} {tx : Nat → Nat} {fp : Int32} {b : t_B} {t : Nat} {s : q_S} {wa : Nat → Nat} {cf : Nat → Int32} {ct : Nat → Int32} {rr : Nat → Nat} {c : q_C} {wo : q_W} {o1 : t_B} {u1 : Nat} {o2 : t_B} {u2 : Nat} {kp : Nat → Nat} {a0 : Nat} {cl : Nat} {fa : Nat} {dr : Nat → Int32} {ti : Nat → Nat} {ok : Nat → Nat} {t4 : q_4} {hs : Nat → Nat} {od : Nat → Nat} {sh : Nat → Nat} {t3 : q_3} {co : Nat} {fo : Int32} {f : Nat → Nat} {gg : Nat → Nat} (e : h = q_hc lw n tx fp b t s wa cf ct rr c wo o1 u1 o2 u2 kp a0 cl fa dr ti ok t4 hs od sh t3 co fo f gg ++ R) : h[8]? = some (.inl (0, 60, .inl (fun j => nI (b.2.2.1 j)))) := by
  rw [e]
  rfl
theorem q_c9 {h R : mv_H} {lw : Nat → Int32} {n : Nat} {tx : Nat → Nat} {fp : Int32} {b : t_B} {t : Nat} {s : q_S} {wa : Nat → Nat} {cf : Nat → Int32} {ct : Nat → Int32} {rr : Nat → Nat} {c : q_C} {wo : q_W} {o1 : t_B} {u1 : Nat} {o2 : t_B} {u2 : Nat} {kp : Nat → Nat} {a0 : Nat} {cl : Nat} {fa : Nat} {dr : Nat → Int32} {ti : Nat → Nat} {ok : Nat → Nat} {t4 : q_4} {hs : Nat → Nat} {od : Nat → Nat} {sh : Nat → Nat} {t3 : q_3} {co : Nat} {fo : Int32} {f : Nat → Nat} {gg : Nat → Nat} (e : h = q_hc lw n tx fp b t s wa cf ct rr c wo o1 u1 o2 u2 kp a0 cl fa dr ti ok t4 hs od sh t3 co fo f gg ++ R) : h[9]? = some (.inl (0, 60, .inl (fun j => nI (b.2.2.2.1 j)))) := by
  rw [e]
  rfl
theorem q_c10 {h R : mv_H} {lw : Nat → Int32} {n : Nat} {tx : Nat → Nat} {fp : Int32} {b : t_B} {t : Nat} {s : q_S} {wa : Nat → Nat} {cf : Nat → Int32} {ct : Nat → Int32} {rr : Nat → Nat} {c : q_C} {wo : q_W} {o1 : t_B} {u1 : Nat} {o2 : t_B} {u2 : Nat} {kp : Nat → Nat} {a0 : Nat} {cl : Nat} {fa : Nat} {dr : Nat → Int32} {ti : Nat → Nat} {ok : Nat → Nat} {t4 : q_4} {hs : Nat → Nat} {od : Nat → Nat} {sh : Nat → Nat} {t3 : q_3} {co : Nat} {fo : Int32} {f : Nat → Nat} {gg : Nat → Nat} (e : h = q_hc lw n tx fp b t s wa cf ct rr c wo o1 u1 o2 u2 kp a0 cl fa dr ti ok t4 hs od sh t3 co fo f gg ++ R) : h[10]? = some (.inl (0, 60, .inl (fun j => nI (b.2.2.2.2 j)))) := by
  rw [e]
  rfl
theorem q_c11 {h R : mv_H} {lw : Nat → Int32} {n : Nat} {tx : Nat → Nat} {fp : Int32} {b : t_B} {t : Nat} {s : q_S} {wa : Nat → Nat} {cf : Nat → Int32} {ct : Nat → Int32} {rr : Nat → Nat} {c : q_C} {wo : q_W} {o1 : t_B} {u1 : Nat} {o2 : t_B} {u2 : Nat} {kp : Nat → Nat} {a0 : Nat} {cl : Nat} {fa : Nat} {dr : Nat → Int32} {ti : Nat → Nat} {ok : Nat → Nat} {t4 : q_4} {hs : Nat → Nat} {od : Nat → Nat} {sh : Nat → Nat} {t3 : q_3} {co : Nat} {fo : Int32} {f : Nat → Nat} {gg : Nat → Nat} (e : h = q_hc lw n tx fp b t s wa cf ct rr c wo o1 u1 o2 u2 kp a0 cl fa dr ti ok t4 hs od sh t3 co fo f gg ++ R) : h[11]? = some (.inr (4, [.ref 12, .ref 16, .ref 20])) := by
  rw [e]
  rfl
theorem q_c12 {h R : mv_H} {lw : Nat → Int32} {n : Nat} {tx : Nat → Nat} {fp : Int32} {b : t_B} {t : Nat} {s : q_S} {wa : Nat → Nat} {cf : Nat → Int32} {ct : Nat → Int32} {rr : Nat → Nat} {c : q_C} {wo : q_W} {o1 : t_B} {u1 : Nat} {o2 : t_B} {u2 : Nat} {kp : Nat → Nat} {a0 : Nat} {cl : Nat} {fa : Nat} {dr : Nat → Int32} {ti : Nat → Nat} {ok : Nat → Nat} {t4 : q_4} {hs : Nat → Nat} {od : Nat → Nat} {sh : Nat → Nat} {t3 : q_3} {co : Nat} {fo : Int32} {f : Nat → Nat} {gg : Nat → Nat} (e : h = q_hc lw n tx fp b t s wa cf ct rr c wo o1 u1 o2 u2 kp a0 cl fa dr ti ok t4 hs od sh t3 co fo f gg ++ R) : h[12]? = some (.inr (0, [.ref 13, .ref 14, .ref 15, .int (nI o1.1), .int (nI u1), .int (nI o1.2.1)])) := by
  rw [e]
  rfl
theorem q_c13 {h R : mv_H} {lw : Nat → Int32} {n : Nat} {tx : Nat → Nat} {fp : Int32} {b : t_B} {t : Nat} {s : q_S} {wa : Nat → Nat} {cf : Nat → Int32} {ct : Nat → Int32} {rr : Nat → Nat} {c : q_C} {wo : q_W} {o1 : t_B} {u1 : Nat} {o2 : t_B} {u2 : Nat} {kp : Nat → Nat} {a0 : Nat} {cl : Nat} {fa : Nat} {dr : Nat → Int32} {ti : Nat → Nat} {ok : Nat → Nat} {t4 : q_4} {hs : Nat → Nat} {od : Nat → Nat} {sh : Nat → Nat} {t3 : q_3} {co : Nat} {fo : Int32} {f : Nat → Nat} {gg : Nat → Nat} (e : h = q_hc lw n tx fp b t s wa cf ct rr c wo o1 u1 o2 u2 kp a0 cl fa dr ti ok t4 hs od sh t3 co fo f gg ++ R) : h[13]? = some (.inl (0, 60, .inl (fun j => nI (o1.2.2.1 j)))) := by
  rw [e]
  rfl
theorem q_c14 {h R : mv_H} {lw : Nat → Int32} {n : Nat} {tx : Nat → Nat} {fp : Int32} {b : t_B} {t : Nat} {s : q_S} {wa : Nat → Nat} {cf : Nat → Int32} {ct : Nat → Int32} {rr : Nat → Nat} {c : q_C} {wo : q_W} {o1 : t_B} {u1 : Nat} {o2 : t_B} {u2 : Nat} {kp : Nat → Nat} {a0 : Nat} {cl : Nat} {fa : Nat} {dr : Nat → Int32} {ti : Nat → Nat} {ok : Nat → Nat} {t4 : q_4} {hs : Nat → Nat} {od : Nat → Nat} {sh : Nat → Nat} {t3 : q_3} {co : Nat} {fo : Int32} {f : Nat → Nat} {gg : Nat → Nat} (e : h = q_hc lw n tx fp b t s wa cf ct rr c wo o1 u1 o2 u2 kp a0 cl fa dr ti ok t4 hs od sh t3 co fo f gg ++ R) : h[14]? = some (.inl (0, 60, .inl (fun j => nI (o1.2.2.2.1 j)))) := by
  rw [e]
  rfl
theorem q_c15 {h R : mv_H} {lw : Nat → Int32} {n : Nat} {tx : Nat → Nat} {fp : Int32} {b : t_B} {t : Nat} {s : q_S} {wa : Nat → Nat} {cf : Nat → Int32} {ct : Nat → Int32} {rr : Nat → Nat} {c : q_C} {wo : q_W} {o1 : t_B} {u1 : Nat} {o2 : t_B} {u2 : Nat} {kp : Nat → Nat} {a0 : Nat} {cl : Nat} {fa : Nat} {dr : Nat → Int32} {ti : Nat → Nat} {ok : Nat → Nat} {t4 : q_4} {hs : Nat → Nat} {od : Nat → Nat} {sh : Nat → Nat} {t3 : q_3} {co : Nat} {fo : Int32} {f : Nat → Nat} {gg : Nat → Nat} (e : h = q_hc lw n tx fp b t s wa cf ct rr c wo o1 u1 o2 u2 kp a0 cl fa dr ti ok t4 hs od sh t3 co fo f gg ++ R) : h[15]? = some (.inl (0, 60, .inl (fun j => nI (o1.2.2.2.2 j)))) := by
  rw [e]
  rfl
theorem q_c16 {h R : mv_H} {lw : Nat → Int32} {n : Nat} {tx : Nat → Nat} {fp : Int32} {b : t_B} {t : Nat} {s : q_S} {wa : Nat → Nat} {cf : Nat → Int32} {ct : Nat → Int32} {rr : Nat → Nat} {c : q_C} {wo : q_W} {o1 : t_B} {u1 : Nat} {o2 : t_B} {u2 : Nat} {kp : Nat → Nat} {a0 : Nat} {cl : Nat} {fa : Nat} {dr : Nat → Int32} {ti : Nat → Nat} {ok : Nat → Nat} {t4 : q_4} {hs : Nat → Nat} {od : Nat → Nat} {sh : Nat → Nat} {t3 : q_3} {co : Nat} {fo : Int32} {f : Nat → Nat} {gg : Nat → Nat} (e : h = q_hc lw n tx fp b t s wa cf ct rr c wo o1 u1 o2 u2 kp a0 cl fa dr ti ok t4 hs od sh t3 co fo f gg ++ R) : h[16]? = some (.inr (0, [.ref 17, .ref 18, .ref 19, .int (nI o2.1), .int (nI u2), .int (nI o2.2.1)])) := by
  rw [e]
  rfl
theorem q_c17 {h R : mv_H} {lw : Nat → Int32} {n : Nat} {tx : Nat → Nat} {fp : Int32} {b : t_B} {t : Nat} {s : q_S} {wa : Nat → Nat} {cf : Nat → Int32} {ct : Nat → Int32} {rr : Nat → Nat} {c : q_C} {wo : q_W} {o1 : t_B} {u1 : Nat} {o2 : t_B} {u2 : Nat} {kp : Nat → Nat} {a0 : Nat} {cl : Nat} {fa : Nat} {dr : Nat → Int32} {ti : Nat → Nat} {ok : Nat → Nat} {t4 : q_4} {hs : Nat → Nat} {od : Nat → Nat} {sh : Nat → Nat} {t3 : q_3} {co : Nat} {fo : Int32} {f : Nat → Nat} {gg : Nat → Nat} (e : h = q_hc lw n tx fp b t s wa cf ct rr c wo o1 u1 o2 u2 kp a0 cl fa dr ti ok t4 hs od sh t3 co fo f gg ++ R) : h[17]? = some (.inl (0, 60, .inl (fun j => nI (o2.2.2.1 j)))) := by
  rw [e]
  rfl
theorem q_c18 {h R : mv_H} {lw : Nat → Int32} {n : Nat} {tx : Nat → Nat} {fp : Int32} {b : t_B} {t : Nat} {s : q_S} {wa : Nat → Nat} {cf : Nat → Int32} {ct : Nat → Int32} {rr : Nat → Nat} {c : q_C} {wo : q_W} {o1 : t_B} {u1 : Nat} {o2 : t_B} {u2 : Nat} {kp : Nat → Nat} {a0 : Nat} {cl : Nat} {fa : Nat} {dr : Nat → Int32} {ti : Nat → Nat} {ok : Nat → Nat} {t4 : q_4} {hs : Nat → Nat} {od : Nat → Nat} {sh : Nat → Nat} {t3 : q_3} {co : Nat} {fo : Int32} {f : Nat → Nat} {gg : Nat → Nat} (e : h = q_hc lw n tx fp b t s wa cf ct rr c wo o1 u1 o2 u2 kp a0 cl fa dr ti ok t4 hs od sh t3 co fo f gg ++ R) : h[18]? = some (.inl (0, 60, .inl (fun j => nI (o2.2.2.2.1 j)))) := by
  rw [e]
  rfl
theorem q_c19 {h R : mv_H} {lw : Nat → Int32} {n : Nat} {tx : Nat → Nat} {fp : Int32} {b : t_B} {t : Nat} {s : q_S} {wa : Nat → Nat} {cf : Nat → Int32} {ct : Nat → Int32} {rr : Nat → Nat} {c : q_C} {wo : q_W} {o1 : t_B} {u1 : Nat} {o2 : t_B} {u2 : Nat} {kp : Nat → Nat} {a0 : Nat} {cl : Nat} {fa : Nat} {dr : Nat → Int32} {ti : Nat → Nat} {ok : Nat → Nat} {t4 : q_4} {hs : Nat → Nat} {od : Nat → Nat} {sh : Nat → Nat} {t3 : q_3} {co : Nat} {fo : Int32} {f : Nat → Nat} {gg : Nat → Nat} (e : h = q_hc lw n tx fp b t s wa cf ct rr c wo o1 u1 o2 u2 kp a0 cl fa dr ti ok t4 hs od sh t3 co fo f gg ++ R) : h[19]? = some (.inl (0, 60, .inl (fun j => nI (o2.2.2.2.2 j)))) := by
  rw [e]
  rfl
theorem q_c20 {h R : mv_H} {lw : Nat → Int32} {n : Nat} {tx : Nat → Nat} {fp : Int32} {b : t_B} {t : Nat} {s : q_S} {wa : Nat → Nat} {cf : Nat → Int32} {ct : Nat → Int32} {rr : Nat → Nat} {c : q_C} {wo : q_W} {o1 : t_B} {u1 : Nat} {o2 : t_B} {u2 : Nat} {kp : Nat → Nat} {a0 : Nat} {cl : Nat} {fa : Nat} {dr : Nat → Int32} {ti : Nat → Nat} {ok : Nat → Nat} {t4 : q_4} {hs : Nat → Nat} {od : Nat → Nat} {sh : Nat → Nat} {t3 : q_3} {co : Nat} {fo : Int32} {f : Nat → Nat} {gg : Nat → Nat} (e : h = q_hc lw n tx fp b t s wa cf ct rr c wo o1 u1 o2 u2 kp a0 cl fa dr ti ok t4 hs od sh t3 co fo f gg ++ R) : h[20]? = some (.inl (2, 2, .inl (fun j => nI (kp j)))) := by
  rw [e]
  rfl
theorem q_c21 {h R : mv_H} {lw : Nat → Int32} {n : Nat} {tx : Nat → Nat} {fp : Int32} {b : t_B} {t : Nat} {s : q_S} {wa : Nat → Nat} {cf : Nat → Int32} {ct : Nat → Int32} {rr : Nat → Nat} {c : q_C} {wo : q_W} {o1 : t_B} {u1 : Nat} {o2 : t_B} {u2 : Nat} {kp : Nat → Nat} {a0 : Nat} {cl : Nat} {fa : Nat} {dr : Nat → Int32} {ti : Nat → Nat} {ok : Nat → Nat} {t4 : q_4} {hs : Nat → Nat} {od : Nat → Nat} {sh : Nat → Nat} {t3 : q_3} {co : Nat} {fo : Int32} {f : Nat → Nat} {gg : Nat → Nat} (e : h = q_hc lw n tx fp b t s wa cf ct rr c wo o1 u1 o2 u2 kp a0 cl fa dr ti ok t4 hs od sh t3 co fo f gg ++ R) : h[21]? = some (.inr (3, [.ref 1, .ref 7])) := by
  rw [e]
  rfl
theorem q_c22 {h R : mv_H} {lw : Nat → Int32} {n : Nat} {tx : Nat → Nat} {fp : Int32} {b : t_B} {t : Nat} {s : q_S} {wa : Nat → Nat} {cf : Nat → Int32} {ct : Nat → Int32} {rr : Nat → Nat} {c : q_C} {wo : q_W} {o1 : t_B} {u1 : Nat} {o2 : t_B} {u2 : Nat} {kp : Nat → Nat} {a0 : Nat} {cl : Nat} {fa : Nat} {dr : Nat → Int32} {ti : Nat → Nat} {ok : Nat → Nat} {t4 : q_4} {hs : Nat → Nat} {od : Nat → Nat} {sh : Nat → Nat} {t3 : q_3} {co : Nat} {fo : Int32} {f : Nat → Nat} {gg : Nat → Nat} (e : h = q_hc lw n tx fp b t s wa cf ct rr c wo o1 u1 o2 u2 kp a0 cl fa dr ti ok t4 hs od sh t3 co fo f gg ++ R) : h[22]? = some (.inr (7, [.ref 1, .ref 23, .ref 24, .ref 25, .ref 26, .int (nI s.1), .ref 27, .ref 28, .ref 29, .ref 30, .int (nI (q_cr rr 400)), .ref 31])) := by
  rw [e]
  rfl
theorem q_c23 {h R : mv_H} {lw : Nat → Int32} {n : Nat} {tx : Nat → Nat} {fp : Int32} {b : t_B} {t : Nat} {s : q_S} {wa : Nat → Nat} {cf : Nat → Int32} {ct : Nat → Int32} {rr : Nat → Nat} {c : q_C} {wo : q_W} {o1 : t_B} {u1 : Nat} {o2 : t_B} {u2 : Nat} {kp : Nat → Nat} {a0 : Nat} {cl : Nat} {fa : Nat} {dr : Nat → Int32} {ti : Nat → Nat} {ok : Nat → Nat} {t4 : q_4} {hs : Nat → Nat} {od : Nat → Nat} {sh : Nat → Nat} {t3 : q_3} {co : Nat} {fo : Int32} {f : Nat → Nat} {gg : Nat → Nat} (e : h = q_hc lw n tx fp b t s wa cf ct rr c wo o1 u1 o2 u2 kp a0 cl fa dr ti ok t4 hs od sh t3 co fo f gg ++ R) : h[23]? = some (.inl (0, 100, .inl (fun j => nI (s.2.1 j)))) := by
  rw [e]
  rfl
theorem q_c24 {h R : mv_H} {lw : Nat → Int32} {n : Nat} {tx : Nat → Nat} {fp : Int32} {b : t_B} {t : Nat} {s : q_S} {wa : Nat → Nat} {cf : Nat → Int32} {ct : Nat → Int32} {rr : Nat → Nat} {c : q_C} {wo : q_W} {o1 : t_B} {u1 : Nat} {o2 : t_B} {u2 : Nat} {kp : Nat → Nat} {a0 : Nat} {cl : Nat} {fa : Nat} {dr : Nat → Int32} {ti : Nat → Nat} {ok : Nat → Nat} {t4 : q_4} {hs : Nat → Nat} {od : Nat → Nat} {sh : Nat → Nat} {t3 : q_3} {co : Nat} {fo : Int32} {f : Nat → Nat} {gg : Nat → Nat} (e : h = q_hc lw n tx fp b t s wa cf ct rr c wo o1 u1 o2 u2 kp a0 cl fa dr ti ok t4 hs od sh t3 co fo f gg ++ R) : h[24]? = some (.inl (0, 100, .inl (fun j => nI (s.2.2.1 j)))) := by
  rw [e]
  rfl
theorem q_c25 {h R : mv_H} {lw : Nat → Int32} {n : Nat} {tx : Nat → Nat} {fp : Int32} {b : t_B} {t : Nat} {s : q_S} {wa : Nat → Nat} {cf : Nat → Int32} {ct : Nat → Int32} {rr : Nat → Nat} {c : q_C} {wo : q_W} {o1 : t_B} {u1 : Nat} {o2 : t_B} {u2 : Nat} {kp : Nat → Nat} {a0 : Nat} {cl : Nat} {fa : Nat} {dr : Nat → Int32} {ti : Nat → Nat} {ok : Nat → Nat} {t4 : q_4} {hs : Nat → Nat} {od : Nat → Nat} {sh : Nat → Nat} {t3 : q_3} {co : Nat} {fo : Int32} {f : Nat → Nat} {gg : Nat → Nat} (e : h = q_hc lw n tx fp b t s wa cf ct rr c wo o1 u1 o2 u2 kp a0 cl fa dr ti ok t4 hs od sh t3 co fo f gg ++ R) : h[25]? = some (.inl (0, 100, .inl (fun j => nI (s.2.2.2.1 j)))) := by
  rw [e]
  rfl
theorem q_c26 {h R : mv_H} {lw : Nat → Int32} {n : Nat} {tx : Nat → Nat} {fp : Int32} {b : t_B} {t : Nat} {s : q_S} {wa : Nat → Nat} {cf : Nat → Int32} {ct : Nat → Int32} {rr : Nat → Nat} {c : q_C} {wo : q_W} {o1 : t_B} {u1 : Nat} {o2 : t_B} {u2 : Nat} {kp : Nat → Nat} {a0 : Nat} {cl : Nat} {fa : Nat} {dr : Nat → Int32} {ti : Nat → Nat} {ok : Nat → Nat} {t4 : q_4} {hs : Nat → Nat} {od : Nat → Nat} {sh : Nat → Nat} {t3 : q_3} {co : Nat} {fo : Int32} {f : Nat → Nat} {gg : Nat → Nat} (e : h = q_hc lw n tx fp b t s wa cf ct rr c wo o1 u1 o2 u2 kp a0 cl fa dr ti ok t4 hs od sh t3 co fo f gg ++ R) : h[26]? = some (.inl (0, 100, .inl (fun j => nI (s.2.2.2.2 j)))) := by
  rw [e]
  rfl
theorem q_c27 {h R : mv_H} {lw : Nat → Int32} {n : Nat} {tx : Nat → Nat} {fp : Int32} {b : t_B} {t : Nat} {s : q_S} {wa : Nat → Nat} {cf : Nat → Int32} {ct : Nat → Int32} {rr : Nat → Nat} {c : q_C} {wo : q_W} {o1 : t_B} {u1 : Nat} {o2 : t_B} {u2 : Nat} {kp : Nat → Nat} {a0 : Nat} {cl : Nat} {fa : Nat} {dr : Nat → Int32} {ti : Nat → Nat} {ok : Nat → Nat} {t4 : q_4} {hs : Nat → Nat} {od : Nat → Nat} {sh : Nat → Nat} {t3 : q_3} {co : Nat} {fo : Int32} {f : Nat → Nat} {gg : Nat → Nat} (e : h = q_hc lw n tx fp b t s wa cf ct rr c wo o1 u1 o2 u2 kp a0 cl fa dr ti ok t4 hs od sh t3 co fo f gg ++ R) : h[27]? = some (.inl (0, 8, .inl (fun j => nI (wa j)))) := by
  rw [e]
  rfl
theorem q_c28 {h R : mv_H} {lw : Nat → Int32} {n : Nat} {tx : Nat → Nat} {fp : Int32} {b : t_B} {t : Nat} {s : q_S} {wa : Nat → Nat} {cf : Nat → Int32} {ct : Nat → Int32} {rr : Nat → Nat} {c : q_C} {wo : q_W} {o1 : t_B} {u1 : Nat} {o2 : t_B} {u2 : Nat} {kp : Nat → Nat} {a0 : Nat} {cl : Nat} {fa : Nat} {dr : Nat → Int32} {ti : Nat → Nat} {ok : Nat → Nat} {t4 : q_4} {hs : Nat → Nat} {od : Nat → Nat} {sh : Nat → Nat} {t3 : q_3} {co : Nat} {fo : Int32} {f : Nat → Nat} {gg : Nat → Nat} (e : h = q_hc lw n tx fp b t s wa cf ct rr c wo o1 u1 o2 u2 kp a0 cl fa dr ti ok t4 hs od sh t3 co fo f gg ++ R) : h[28]? = some (.inl (0, 8, .inl cf)) := by
  rw [e]
  rfl
theorem q_c29 {h R : mv_H} {lw : Nat → Int32} {n : Nat} {tx : Nat → Nat} {fp : Int32} {b : t_B} {t : Nat} {s : q_S} {wa : Nat → Nat} {cf : Nat → Int32} {ct : Nat → Int32} {rr : Nat → Nat} {c : q_C} {wo : q_W} {o1 : t_B} {u1 : Nat} {o2 : t_B} {u2 : Nat} {kp : Nat → Nat} {a0 : Nat} {cl : Nat} {fa : Nat} {dr : Nat → Int32} {ti : Nat → Nat} {ok : Nat → Nat} {t4 : q_4} {hs : Nat → Nat} {od : Nat → Nat} {sh : Nat → Nat} {t3 : q_3} {co : Nat} {fo : Int32} {f : Nat → Nat} {gg : Nat → Nat} (e : h = q_hc lw n tx fp b t s wa cf ct rr c wo o1 u1 o2 u2 kp a0 cl fa dr ti ok t4 hs od sh t3 co fo f gg ++ R) : h[29]? = some (.inl (0, 8, .inl ct)) := by
  rw [e]
  rfl
theorem q_c30 {h R : mv_H} {lw : Nat → Int32} {n : Nat} {tx : Nat → Nat} {fp : Int32} {b : t_B} {t : Nat} {s : q_S} {wa : Nat → Nat} {cf : Nat → Int32} {ct : Nat → Int32} {rr : Nat → Nat} {c : q_C} {wo : q_W} {o1 : t_B} {u1 : Nat} {o2 : t_B} {u2 : Nat} {kp : Nat → Nat} {a0 : Nat} {cl : Nat} {fa : Nat} {dr : Nat → Int32} {ti : Nat → Nat} {ok : Nat → Nat} {t4 : q_4} {hs : Nat → Nat} {od : Nat → Nat} {sh : Nat → Nat} {t3 : q_3} {co : Nat} {fo : Int32} {f : Nat → Nat} {gg : Nat → Nat} (e : h = q_hc lw n tx fp b t s wa cf ct rr c wo o1 u1 o2 u2 kp a0 cl fa dr ti ok t4 hs od sh t3 co fo f gg ++ R) : h[30]? = some (.inl (2, 400, .inl (fun j => nI (rr j)))) := by
  rw [e]
  rfl
theorem q_c31 {h R : mv_H} {lw : Nat → Int32} {n : Nat} {tx : Nat → Nat} {fp : Int32} {b : t_B} {t : Nat} {s : q_S} {wa : Nat → Nat} {cf : Nat → Int32} {ct : Nat → Int32} {rr : Nat → Nat} {c : q_C} {wo : q_W} {o1 : t_B} {u1 : Nat} {o2 : t_B} {u2 : Nat} {kp : Nat → Nat} {a0 : Nat} {cl : Nat} {fa : Nat} {dr : Nat → Int32} {ti : Nat → Nat} {ok : Nat → Nat} {t4 : q_4} {hs : Nat → Nat} {od : Nat → Nat} {sh : Nat → Nat} {t3 : q_3} {co : Nat} {fo : Int32} {f : Nat → Nat} {gg : Nat → Nat} (e : h = q_hc lw n tx fp b t s wa cf ct rr c wo o1 u1 o2 u2 kp a0 cl fa dr ti ok t4 hs od sh t3 co fo f gg ++ R) : h[31]? = some (.inl (0, 400, .inl (fun j => nI (ok j)))) := by
  rw [e]
  rfl
theorem q_c32 {h R : mv_H} {lw : Nat → Int32} {n : Nat} {tx : Nat → Nat} {fp : Int32} {b : t_B} {t : Nat} {s : q_S} {wa : Nat → Nat} {cf : Nat → Int32} {ct : Nat → Int32} {rr : Nat → Nat} {c : q_C} {wo : q_W} {o1 : t_B} {u1 : Nat} {o2 : t_B} {u2 : Nat} {kp : Nat → Nat} {a0 : Nat} {cl : Nat} {fa : Nat} {dr : Nat → Int32} {ti : Nat → Nat} {ok : Nat → Nat} {t4 : q_4} {hs : Nat → Nat} {od : Nat → Nat} {sh : Nat → Nat} {t3 : q_3} {co : Nat} {fo : Int32} {f : Nat → Nat} {gg : Nat → Nat} (e : h = q_hc lw n tx fp b t s wa cf ct rr c wo o1 u1 o2 u2 kp a0 cl fa dr ti ok t4 hs od sh t3 co fo f gg ++ R) : h[32]? = some (.inr (8, [.ref 22, .ref 7, .ref 33, .int (nI t4.1), .int (nI t4.2.1), .int (nI t4.2.2.1), .int (nI t4.2.2.2)])) := by
  rw [e]
  rfl
theorem q_c33 {h R : mv_H} {lw : Nat → Int32} {n : Nat} {tx : Nat → Nat} {fp : Int32} {b : t_B} {t : Nat} {s : q_S} {wa : Nat → Nat} {cf : Nat → Int32} {ct : Nat → Int32} {rr : Nat → Nat} {c : q_C} {wo : q_W} {o1 : t_B} {u1 : Nat} {o2 : t_B} {u2 : Nat} {kp : Nat → Nat} {a0 : Nat} {cl : Nat} {fa : Nat} {dr : Nat → Int32} {ti : Nat → Nat} {ok : Nat → Nat} {t4 : q_4} {hs : Nat → Nat} {od : Nat → Nat} {sh : Nat → Nat} {t3 : q_3} {co : Nat} {fo : Int32} {f : Nat → Nat} {gg : Nat → Nat} (e : h = q_hc lw n tx fp b t s wa cf ct rr c wo o1 u1 o2 u2 kp a0 cl fa dr ti ok t4 hs od sh t3 co fo f gg ++ R) : h[33]? = some (.inl (2, 400, .inl (fun j => nI (hs j)))) := by
  rw [e]
  rfl
theorem q_c34 {h R : mv_H} {lw : Nat → Int32} {n : Nat} {tx : Nat → Nat} {fp : Int32} {b : t_B} {t : Nat} {s : q_S} {wa : Nat → Nat} {cf : Nat → Int32} {ct : Nat → Int32} {rr : Nat → Nat} {c : q_C} {wo : q_W} {o1 : t_B} {u1 : Nat} {o2 : t_B} {u2 : Nat} {kp : Nat → Nat} {a0 : Nat} {cl : Nat} {fa : Nat} {dr : Nat → Int32} {ti : Nat → Nat} {ok : Nat → Nat} {t4 : q_4} {hs : Nat → Nat} {od : Nat → Nat} {sh : Nat → Nat} {t3 : q_3} {co : Nat} {fo : Int32} {f : Nat → Nat} {gg : Nat → Nat} (e : h = q_hc lw n tx fp b t s wa cf ct rr c wo o1 u1 o2 u2 kp a0 cl fa dr ti ok t4 hs od sh t3 co fo f gg ++ R) : h[34]? = some (.inr (1, [.ref 21, .ref 7, .ref 35, .ref 36, .ref 37, .ref 38, .ref 39, .ref 40, .ref 41, .int (nI c.1)])) := by
  rw [e]
  rfl
theorem q_c35 {h R : mv_H} {lw : Nat → Int32} {n : Nat} {tx : Nat → Nat} {fp : Int32} {b : t_B} {t : Nat} {s : q_S} {wa : Nat → Nat} {cf : Nat → Int32} {ct : Nat → Int32} {rr : Nat → Nat} {c : q_C} {wo : q_W} {o1 : t_B} {u1 : Nat} {o2 : t_B} {u2 : Nat} {kp : Nat → Nat} {a0 : Nat} {cl : Nat} {fa : Nat} {dr : Nat → Int32} {ti : Nat → Nat} {ok : Nat → Nat} {t4 : q_4} {hs : Nat → Nat} {od : Nat → Nat} {sh : Nat → Nat} {t3 : q_3} {co : Nat} {fo : Int32} {f : Nat → Nat} {gg : Nat → Nat} (e : h = q_hc lw n tx fp b t s wa cf ct rr c wo o1 u1 o2 u2 kp a0 cl fa dr ti ok t4 hs od sh t3 co fo f gg ++ R) : h[35]? = some (.inl (0, 12, .inl (fun j => nI (c.2.1 j)))) := by
  rw [e]
  rfl
theorem q_c36 {h R : mv_H} {lw : Nat → Int32} {n : Nat} {tx : Nat → Nat} {fp : Int32} {b : t_B} {t : Nat} {s : q_S} {wa : Nat → Nat} {cf : Nat → Int32} {ct : Nat → Int32} {rr : Nat → Nat} {c : q_C} {wo : q_W} {o1 : t_B} {u1 : Nat} {o2 : t_B} {u2 : Nat} {kp : Nat → Nat} {a0 : Nat} {cl : Nat} {fa : Nat} {dr : Nat → Int32} {ti : Nat → Nat} {ok : Nat → Nat} {t4 : q_4} {hs : Nat → Nat} {od : Nat → Nat} {sh : Nat → Nat} {t3 : q_3} {co : Nat} {fo : Int32} {f : Nat → Nat} {gg : Nat → Nat} (e : h = q_hc lw n tx fp b t s wa cf ct rr c wo o1 u1 o2 u2 kp a0 cl fa dr ti ok t4 hs od sh t3 co fo f gg ++ R) : h[36]? = some (.inl (0, 12, .inl (fun j => nI (c.2.2.1 j)))) := by
  rw [e]
  rfl
theorem q_c37 {h R : mv_H} {lw : Nat → Int32} {n : Nat} {tx : Nat → Nat} {fp : Int32} {b : t_B} {t : Nat} {s : q_S} {wa : Nat → Nat} {cf : Nat → Int32} {ct : Nat → Int32} {rr : Nat → Nat} {c : q_C} {wo : q_W} {o1 : t_B} {u1 : Nat} {o2 : t_B} {u2 : Nat} {kp : Nat → Nat} {a0 : Nat} {cl : Nat} {fa : Nat} {dr : Nat → Int32} {ti : Nat → Nat} {ok : Nat → Nat} {t4 : q_4} {hs : Nat → Nat} {od : Nat → Nat} {sh : Nat → Nat} {t3 : q_3} {co : Nat} {fo : Int32} {f : Nat → Nat} {gg : Nat → Nat} (e : h = q_hc lw n tx fp b t s wa cf ct rr c wo o1 u1 o2 u2 kp a0 cl fa dr ti ok t4 hs od sh t3 co fo f gg ++ R) : h[37]? = some (.inl (0, 12, .inl (fun j => nI (c.2.2.2.1 j)))) := by
  rw [e]
  rfl
theorem q_c38 {h R : mv_H} {lw : Nat → Int32} {n : Nat} {tx : Nat → Nat} {fp : Int32} {b : t_B} {t : Nat} {s : q_S} {wa : Nat → Nat} {cf : Nat → Int32} {ct : Nat → Int32} {rr : Nat → Nat} {c : q_C} {wo : q_W} {o1 : t_B} {u1 : Nat} {o2 : t_B} {u2 : Nat} {kp : Nat → Nat} {a0 : Nat} {cl : Nat} {fa : Nat} {dr : Nat → Int32} {ti : Nat → Nat} {ok : Nat → Nat} {t4 : q_4} {hs : Nat → Nat} {od : Nat → Nat} {sh : Nat → Nat} {t3 : q_3} {co : Nat} {fo : Int32} {f : Nat → Nat} {gg : Nat → Nat} (e : h = q_hc lw n tx fp b t s wa cf ct rr c wo o1 u1 o2 u2 kp a0 cl fa dr ti ok t4 hs od sh t3 co fo f gg ++ R) : h[38]? = some (.inl (0, 12, .inl (fun j => nI (c.2.2.2.2.1 j)))) := by
  rw [e]
  rfl
theorem q_c39 {h R : mv_H} {lw : Nat → Int32} {n : Nat} {tx : Nat → Nat} {fp : Int32} {b : t_B} {t : Nat} {s : q_S} {wa : Nat → Nat} {cf : Nat → Int32} {ct : Nat → Int32} {rr : Nat → Nat} {c : q_C} {wo : q_W} {o1 : t_B} {u1 : Nat} {o2 : t_B} {u2 : Nat} {kp : Nat → Nat} {a0 : Nat} {cl : Nat} {fa : Nat} {dr : Nat → Int32} {ti : Nat → Nat} {ok : Nat → Nat} {t4 : q_4} {hs : Nat → Nat} {od : Nat → Nat} {sh : Nat → Nat} {t3 : q_3} {co : Nat} {fo : Int32} {f : Nat → Nat} {gg : Nat → Nat} (e : h = q_hc lw n tx fp b t s wa cf ct rr c wo o1 u1 o2 u2 kp a0 cl fa dr ti ok t4 hs od sh t3 co fo f gg ++ R) : h[39]? = some (.inl (0, 12, .inl (fun j => nI (c.2.2.2.2.2.1 j)))) := by
  rw [e]
  rfl
theorem q_c40 {h R : mv_H} {lw : Nat → Int32} {n : Nat} {tx : Nat → Nat} {fp : Int32} {b : t_B} {t : Nat} {s : q_S} {wa : Nat → Nat} {cf : Nat → Int32} {ct : Nat → Int32} {rr : Nat → Nat} {c : q_C} {wo : q_W} {o1 : t_B} {u1 : Nat} {o2 : t_B} {u2 : Nat} {kp : Nat → Nat} {a0 : Nat} {cl : Nat} {fa : Nat} {dr : Nat → Int32} {ti : Nat → Nat} {ok : Nat → Nat} {t4 : q_4} {hs : Nat → Nat} {od : Nat → Nat} {sh : Nat → Nat} {t3 : q_3} {co : Nat} {fo : Int32} {f : Nat → Nat} {gg : Nat → Nat} (e : h = q_hc lw n tx fp b t s wa cf ct rr c wo o1 u1 o2 u2 kp a0 cl fa dr ti ok t4 hs od sh t3 co fo f gg ++ R) : h[40]? = some (.inl (0, 12, .inl (fun j => nI (c.2.2.2.2.2.2.1 j)))) := by
  rw [e]
  rfl
theorem q_c41 {h R : mv_H} {lw : Nat → Int32} {n : Nat} {tx : Nat → Nat} {fp : Int32} {b : t_B} {t : Nat} {s : q_S} {wa : Nat → Nat} {cf : Nat → Int32} {ct : Nat → Int32} {rr : Nat → Nat} {c : q_C} {wo : q_W} {o1 : t_B} {u1 : Nat} {o2 : t_B} {u2 : Nat} {kp : Nat → Nat} {a0 : Nat} {cl : Nat} {fa : Nat} {dr : Nat → Int32} {ti : Nat → Nat} {ok : Nat → Nat} {t4 : q_4} {hs : Nat → Nat} {od : Nat → Nat} {sh : Nat → Nat} {t3 : q_3} {co : Nat} {fo : Int32} {f : Nat → Nat} {gg : Nat → Nat} (e : h = q_hc lw n tx fp b t s wa cf ct rr c wo o1 u1 o2 u2 kp a0 cl fa dr ti ok t4 hs od sh t3 co fo f gg ++ R) : h[41]? = some (.inl (0, 12, .inl (fun j => nI (c.2.2.2.2.2.2.2 j)))) := by
  rw [e]
  rfl
theorem q_c42 {h R : mv_H} {lw : Nat → Int32} {n : Nat} {tx : Nat → Nat} {fp : Int32} {b : t_B} {t : Nat} {s : q_S} {wa : Nat → Nat} {cf : Nat → Int32} {ct : Nat → Int32} {rr : Nat → Nat} {c : q_C} {wo : q_W} {o1 : t_B} {u1 : Nat} {o2 : t_B} {u2 : Nat} {kp : Nat → Nat} {a0 : Nat} {cl : Nat} {fa : Nat} {dr : Nat → Int32} {ti : Nat → Nat} {ok : Nat → Nat} {t4 : q_4} {hs : Nat → Nat} {od : Nat → Nat} {sh : Nat → Nat} {t3 : q_3} {co : Nat} {fo : Int32} {f : Nat → Nat} {gg : Nat → Nat} (e : h = q_hc lw n tx fp b t s wa cf ct rr c wo o1 u1 o2 u2 kp a0 cl fa dr ti ok t4 hs od sh t3 co fo f gg ++ R) : h[42]? = some (.inr (9, [.ref 21, .ref 7, .ref 43, .ref 44, .int (nI t3.1), .int (nI t3.2.1), .int (nI t3.2.2), .int (nI co)])) := by
  rw [e]
  rfl
theorem q_c43 {h R : mv_H} {lw : Nat → Int32} {n : Nat} {tx : Nat → Nat} {fp : Int32} {b : t_B} {t : Nat} {s : q_S} {wa : Nat → Nat} {cf : Nat → Int32} {ct : Nat → Int32} {rr : Nat → Nat} {c : q_C} {wo : q_W} {o1 : t_B} {u1 : Nat} {o2 : t_B} {u2 : Nat} {kp : Nat → Nat} {a0 : Nat} {cl : Nat} {fa : Nat} {dr : Nat → Int32} {ti : Nat → Nat} {ok : Nat → Nat} {t4 : q_4} {hs : Nat → Nat} {od : Nat → Nat} {sh : Nat → Nat} {t3 : q_3} {co : Nat} {fo : Int32} {f : Nat → Nat} {gg : Nat → Nat} (e : h = q_hc lw n tx fp b t s wa cf ct rr c wo o1 u1 o2 u2 kp a0 cl fa dr ti ok t4 hs od sh t3 co fo f gg ++ R) : h[43]? = some (.inl (0, 400, .inl (fun j => nI (od j)))) := by
  rw [e]
  rfl
theorem q_c44 {h R : mv_H} {lw : Nat → Int32} {n : Nat} {tx : Nat → Nat} {fp : Int32} {b : t_B} {t : Nat} {s : q_S} {wa : Nat → Nat} {cf : Nat → Int32} {ct : Nat → Int32} {rr : Nat → Nat} {c : q_C} {wo : q_W} {o1 : t_B} {u1 : Nat} {o2 : t_B} {u2 : Nat} {kp : Nat → Nat} {a0 : Nat} {cl : Nat} {fa : Nat} {dr : Nat → Int32} {ti : Nat → Nat} {ok : Nat → Nat} {t4 : q_4} {hs : Nat → Nat} {od : Nat → Nat} {sh : Nat → Nat} {t3 : q_3} {co : Nat} {fo : Int32} {f : Nat → Nat} {gg : Nat → Nat} (e : h = q_hc lw n tx fp b t s wa cf ct rr c wo o1 u1 o2 u2 kp a0 cl fa dr ti ok t4 hs od sh t3 co fo f gg ++ R) : h[44]? = some (.inl (0, 400, .inl (fun j => nI (sh j)))) := by
  rw [e]
  rfl
theorem q_c45 {h R : mv_H} {lw : Nat → Int32} {n : Nat} {tx : Nat → Nat} {fp : Int32} {b : t_B} {t : Nat} {s : q_S} {wa : Nat → Nat} {cf : Nat → Int32} {ct : Nat → Int32} {rr : Nat → Nat} {c : q_C} {wo : q_W} {o1 : t_B} {u1 : Nat} {o2 : t_B} {u2 : Nat} {kp : Nat → Nat} {a0 : Nat} {cl : Nat} {fa : Nat} {dr : Nat → Int32} {ti : Nat → Nat} {ok : Nat → Nat} {t4 : q_4} {hs : Nat → Nat} {od : Nat → Nat} {sh : Nat → Nat} {t3 : q_3} {co : Nat} {fo : Int32} {f : Nat → Nat} {gg : Nat → Nat} (e : h = q_hc lw n tx fp b t s wa cf ct rr c wo o1 u1 o2 u2 kp a0 cl fa dr ti ok t4 hs od sh t3 co fo f gg ++ R) : h[45]? = some (.inr (2, [.ref 46, .ref 47, .int fo])) := by
  rw [e]
  rfl
theorem q_c46 {h R : mv_H} {lw : Nat → Int32} {n : Nat} {tx : Nat → Nat} {fp : Int32} {b : t_B} {t : Nat} {s : q_S} {wa : Nat → Nat} {cf : Nat → Int32} {ct : Nat → Int32} {rr : Nat → Nat} {c : q_C} {wo : q_W} {o1 : t_B} {u1 : Nat} {o2 : t_B} {u2 : Nat} {kp : Nat → Nat} {a0 : Nat} {cl : Nat} {fa : Nat} {dr : Nat → Int32} {ti : Nat → Nat} {ok : Nat → Nat} {t4 : q_4} {hs : Nat → Nat} {od : Nat → Nat} {sh : Nat → Nat} {t3 : q_3} {co : Nat} {fo : Int32} {f : Nat → Nat} {gg : Nat → Nat} (e : h = q_hc lw n tx fp b t s wa cf ct rr c wo o1 u1 o2 u2 kp a0 cl fa dr ti ok t4 hs od sh t3 co fo f gg ++ R) : h[46]? = some (.inl (1, 201, .inr (.inl (fun j => lN (f j))))) := by
  rw [e]
  rfl
theorem q_c47 {h R : mv_H} {lw : Nat → Int32} {n : Nat} {tx : Nat → Nat} {fp : Int32} {b : t_B} {t : Nat} {s : q_S} {wa : Nat → Nat} {cf : Nat → Int32} {ct : Nat → Int32} {rr : Nat → Nat} {c : q_C} {wo : q_W} {o1 : t_B} {u1 : Nat} {o2 : t_B} {u2 : Nat} {kp : Nat → Nat} {a0 : Nat} {cl : Nat} {fa : Nat} {dr : Nat → Int32} {ti : Nat → Nat} {ok : Nat → Nat} {t4 : q_4} {hs : Nat → Nat} {od : Nat → Nat} {sh : Nat → Nat} {t3 : q_3} {co : Nat} {fo : Int32} {f : Nat → Nat} {gg : Nat → Nat} (e : h = q_hc lw n tx fp b t s wa cf ct rr c wo o1 u1 o2 u2 kp a0 cl fa dr ti ok t4 hs od sh t3 co fo f gg ++ R) : h[47]? = some (.inl (1, 201, .inr (.inl (fun j => lN (gg j))))) := by
  rw [e]
  rfl
theorem q_c48 {h R : mv_H} {lw : Nat → Int32} {n : Nat} {tx : Nat → Nat} {fp : Int32} {b : t_B} {t : Nat} {s : q_S} {wa : Nat → Nat} {cf : Nat → Int32} {ct : Nat → Int32} {rr : Nat → Nat} {c : q_C} {wo : q_W} {o1 : t_B} {u1 : Nat} {o2 : t_B} {u2 : Nat} {kp : Nat → Nat} {a0 : Nat} {cl : Nat} {fa : Nat} {dr : Nat → Int32} {ti : Nat → Nat} {ok : Nat → Nat} {t4 : q_4} {hs : Nat → Nat} {od : Nat → Nat} {sh : Nat → Nat} {t3 : q_3} {co : Nat} {fo : Int32} {f : Nat → Nat} {gg : Nat → Nat} (e : h = q_hc lw n tx fp b t s wa cf ct rr c wo o1 u1 o2 u2 kp a0 cl fa dr ti ok t4 hs od sh t3 co fo f gg ++ R) : h[48]? = some (.inr (10, [.ref 21, .ref 49, .ref 50, .ref 51, .int (nI wo.1)])) := by
  rw [e]
  rfl
theorem q_c49 {h R : mv_H} {lw : Nat → Int32} {n : Nat} {tx : Nat → Nat} {fp : Int32} {b : t_B} {t : Nat} {s : q_S} {wa : Nat → Nat} {cf : Nat → Int32} {ct : Nat → Int32} {rr : Nat → Nat} {c : q_C} {wo : q_W} {o1 : t_B} {u1 : Nat} {o2 : t_B} {u2 : Nat} {kp : Nat → Nat} {a0 : Nat} {cl : Nat} {fa : Nat} {dr : Nat → Int32} {ti : Nat → Nat} {ok : Nat → Nat} {t4 : q_4} {hs : Nat → Nat} {od : Nat → Nat} {sh : Nat → Nat} {t3 : q_3} {co : Nat} {fo : Int32} {f : Nat → Nat} {gg : Nat → Nat} (e : h = q_hc lw n tx fp b t s wa cf ct rr c wo o1 u1 o2 u2 kp a0 cl fa dr ti ok t4 hs od sh t3 co fo f gg ++ R) : h[49]? = some (.inl (0, 12, .inl (fun j => nI (wo.2.1 j)))) := by
  rw [e]
  rfl
theorem q_c50 {h R : mv_H} {lw : Nat → Int32} {n : Nat} {tx : Nat → Nat} {fp : Int32} {b : t_B} {t : Nat} {s : q_S} {wa : Nat → Nat} {cf : Nat → Int32} {ct : Nat → Int32} {rr : Nat → Nat} {c : q_C} {wo : q_W} {o1 : t_B} {u1 : Nat} {o2 : t_B} {u2 : Nat} {kp : Nat → Nat} {a0 : Nat} {cl : Nat} {fa : Nat} {dr : Nat → Int32} {ti : Nat → Nat} {ok : Nat → Nat} {t4 : q_4} {hs : Nat → Nat} {od : Nat → Nat} {sh : Nat → Nat} {t3 : q_3} {co : Nat} {fo : Int32} {f : Nat → Nat} {gg : Nat → Nat} (e : h = q_hc lw n tx fp b t s wa cf ct rr c wo o1 u1 o2 u2 kp a0 cl fa dr ti ok t4 hs od sh t3 co fo f gg ++ R) : h[50]? = some (.inl (0, 12, .inl (fun j => nI (wo.2.2.1 j)))) := by
  rw [e]
  rfl
theorem q_c51 {h R : mv_H} {lw : Nat → Int32} {n : Nat} {tx : Nat → Nat} {fp : Int32} {b : t_B} {t : Nat} {s : q_S} {wa : Nat → Nat} {cf : Nat → Int32} {ct : Nat → Int32} {rr : Nat → Nat} {c : q_C} {wo : q_W} {o1 : t_B} {u1 : Nat} {o2 : t_B} {u2 : Nat} {kp : Nat → Nat} {a0 : Nat} {cl : Nat} {fa : Nat} {dr : Nat → Int32} {ti : Nat → Nat} {ok : Nat → Nat} {t4 : q_4} {hs : Nat → Nat} {od : Nat → Nat} {sh : Nat → Nat} {t3 : q_3} {co : Nat} {fo : Int32} {f : Nat → Nat} {gg : Nat → Nat} (e : h = q_hc lw n tx fp b t s wa cf ct rr c wo o1 u1 o2 u2 kp a0 cl fa dr ti ok t4 hs od sh t3 co fo f gg ++ R) : h[51]? = some (.inl (0, 12, .inl (fun j => nI (wo.2.2.2 j)))) := by
  rw [e]
  rfl
theorem q_c52 {h : mv_H} {lw' : Nat → Int32} {n' : Nat} {tx' : Nat → Nat} {fp' : Int32} {b' : t_B} {t' : Nat} {s' : q_S} {wa' : Nat → Nat} {cf' : Nat → Int32} {ct' : Nat → Int32} {rr' : Nat → Nat} {c' : q_C} {wo' : q_W} {o1' : t_B} {u1' : Nat} {o2' : t_B} {u2' : Nat} {kp' : Nat → Nat} {a0' : Nat} {cl' : Nat} {fa' : Nat} {dr' : Nat → Int32} {ti' : Nat → Nat} {ok' : Nat → Nat} {t4' : q_4} {hs' : Nat → Nat} {od' : Nat → Nat} {sh' : Nat → Nat} {t3' : q_3} {co' : Nat} {fo' : Int32} {f' : Nat → Nat} {gg' : Nat → Nat} {lw : Nat → Int32} {n : Nat} {tx : Nat → Nat} {fp : Int32} {b : t_B} {t : Nat} {s : q_S} {wa : Nat → Nat} {cf : Nat → Int32} {ct : Nat → Int32} {rr : Nat → Nat} {c : q_C} {wo : q_W} {o1 : t_B} {u1 : Nat} {o2 : t_B} {u2 : Nat} {kp : Nat → Nat} {ra : Nat} {wd : Nat} {we : Nat} {nu : Int32} {rd : Nat → Int32} {ts : Nat} {oa : Nat → Nat} {ob : Nat → Nat} {f4 : Nat → Nat} {od2 : Nat → Nat} {sh2 : Nat → Nat} {tw : Nat → Nat} {f7 : Nat → Nat} {bc : Nat → Nat} (e : h = q_hc lw' n' tx' fp' b' t' s' wa' cf' ct' rr' c' wo' o1' u1' o2' u2' kp' a0' cl' fa' dr' ti' ok' t4' hs' od' sh' t3' co' fo' f' gg' ++ q_hr lw n tx fp b t s wa cf ct rr c wo o1 u1 o2 u2 kp ra wd we nu rd ts oa ob f4 od2 sh2 tw f7 bc) : h[52]? = some (.inr (12, [.ref 53, .ref 54, .int (nI n), .int fp, .int (nI ra), .long (lN wd), .int (nI we), .int nu, .ref 55, .int (nI ts), .int (nI b.1), .ref 56, .ref 57, .ref 58, .int (nI t), .int (nI b.2.1), .ref 59, .ref 60, .ref 61, .ref 62, .int (nI s.1), .ref 63, .ref 64, .ref 65, .ref 66, .ref 67, .ref 68, .ref 69, .int (nI c.1), .ref 70, .ref 71, .ref 72, .ref 73, .ref 74, .ref 75, .int (nI wo.1), .ref 76, .ref 77, .ref 78, .ref 79, .ref 80])) := by
  rw [e]
  rfl
theorem q_c53 {h : mv_H} {lw' : Nat → Int32} {n' : Nat} {tx' : Nat → Nat} {fp' : Int32} {b' : t_B} {t' : Nat} {s' : q_S} {wa' : Nat → Nat} {cf' : Nat → Int32} {ct' : Nat → Int32} {rr' : Nat → Nat} {c' : q_C} {wo' : q_W} {o1' : t_B} {u1' : Nat} {o2' : t_B} {u2' : Nat} {kp' : Nat → Nat} {a0' : Nat} {cl' : Nat} {fa' : Nat} {dr' : Nat → Int32} {ti' : Nat → Nat} {ok' : Nat → Nat} {t4' : q_4} {hs' : Nat → Nat} {od' : Nat → Nat} {sh' : Nat → Nat} {t3' : q_3} {co' : Nat} {fo' : Int32} {f' : Nat → Nat} {gg' : Nat → Nat} {lw : Nat → Int32} {n : Nat} {tx : Nat → Nat} {fp : Int32} {b : t_B} {t : Nat} {s : q_S} {wa : Nat → Nat} {cf : Nat → Int32} {ct : Nat → Int32} {rr : Nat → Nat} {c : q_C} {wo : q_W} {o1 : t_B} {u1 : Nat} {o2 : t_B} {u2 : Nat} {kp : Nat → Nat} {ra : Nat} {wd : Nat} {we : Nat} {nu : Int32} {rd : Nat → Int32} {ts : Nat} {oa : Nat → Nat} {ob : Nat → Nat} {f4 : Nat → Nat} {od2 : Nat → Nat} {sh2 : Nat → Nat} {tw : Nat → Nat} {f7 : Nat → Nat} {bc : Nat → Nat} (e : h = q_hc lw' n' tx' fp' b' t' s' wa' cf' ct' rr' c' wo' o1' u1' o2' u2' kp' a0' cl' fa' dr' ti' ok' t4' hs' od' sh' t3' co' fo' f' gg' ++ q_hr lw n tx fp b t s wa cf ct rr c wo o1 u1 o2 u2 kp ra wd we nu rd ts oa ob f4 od2 sh2 tw f7 bc) : h[53]? = some (.inl (0, 8, .inl lw)) := by
  rw [e]
  rfl
theorem q_c54 {h : mv_H} {lw' : Nat → Int32} {n' : Nat} {tx' : Nat → Nat} {fp' : Int32} {b' : t_B} {t' : Nat} {s' : q_S} {wa' : Nat → Nat} {cf' : Nat → Int32} {ct' : Nat → Int32} {rr' : Nat → Nat} {c' : q_C} {wo' : q_W} {o1' : t_B} {u1' : Nat} {o2' : t_B} {u2' : Nat} {kp' : Nat → Nat} {a0' : Nat} {cl' : Nat} {fa' : Nat} {dr' : Nat → Int32} {ti' : Nat → Nat} {ok' : Nat → Nat} {t4' : q_4} {hs' : Nat → Nat} {od' : Nat → Nat} {sh' : Nat → Nat} {t3' : q_3} {co' : Nat} {fo' : Int32} {f' : Nat → Nat} {gg' : Nat → Nat} {lw : Nat → Int32} {n : Nat} {tx : Nat → Nat} {fp : Int32} {b : t_B} {t : Nat} {s : q_S} {wa : Nat → Nat} {cf : Nat → Int32} {ct : Nat → Int32} {rr : Nat → Nat} {c : q_C} {wo : q_W} {o1 : t_B} {u1 : Nat} {o2 : t_B} {u2 : Nat} {kp : Nat → Nat} {ra : Nat} {wd : Nat} {we : Nat} {nu : Int32} {rd : Nat → Int32} {ts : Nat} {oa : Nat → Nat} {ob : Nat → Nat} {f4 : Nat → Nat} {od2 : Nat → Nat} {sh2 : Nat → Nat} {tw : Nat → Nat} {f7 : Nat → Nat} {bc : Nat → Nat} (e : h = q_hc lw' n' tx' fp' b' t' s' wa' cf' ct' rr' c' wo' o1' u1' o2' u2' kp' a0' cl' fa' dr' ti' ok' t4' hs' od' sh' t3' co' fo' f' gg' ++ q_hr lw n tx fp b t s wa cf ct rr c wo o1 u1 o2 u2 kp ra wd we nu rd ts oa ob f4 od2 sh2 tw f7 bc) : h[54]? = some (.inl (0, 160, .inl (fun j => nI (tx j)))) := by
  rw [e]
  rfl
theorem q_c55 {h : mv_H} {lw' : Nat → Int32} {n' : Nat} {tx' : Nat → Nat} {fp' : Int32} {b' : t_B} {t' : Nat} {s' : q_S} {wa' : Nat → Nat} {cf' : Nat → Int32} {ct' : Nat → Int32} {rr' : Nat → Nat} {c' : q_C} {wo' : q_W} {o1' : t_B} {u1' : Nat} {o2' : t_B} {u2' : Nat} {kp' : Nat → Nat} {a0' : Nat} {cl' : Nat} {fa' : Nat} {dr' : Nat → Int32} {ti' : Nat → Nat} {ok' : Nat → Nat} {t4' : q_4} {hs' : Nat → Nat} {od' : Nat → Nat} {sh' : Nat → Nat} {t3' : q_3} {co' : Nat} {fo' : Int32} {f' : Nat → Nat} {gg' : Nat → Nat} {lw : Nat → Int32} {n : Nat} {tx : Nat → Nat} {fp : Int32} {b : t_B} {t : Nat} {s : q_S} {wa : Nat → Nat} {cf : Nat → Int32} {ct : Nat → Int32} {rr : Nat → Nat} {c : q_C} {wo : q_W} {o1 : t_B} {u1 : Nat} {o2 : t_B} {u2 : Nat} {kp : Nat → Nat} {ra : Nat} {wd : Nat} {we : Nat} {nu : Int32} {rd : Nat → Int32} {ts : Nat} {oa : Nat → Nat} {ob : Nat → Nat} {f4 : Nat → Nat} {od2 : Nat → Nat} {sh2 : Nat → Nat} {tw : Nat → Nat} {f7 : Nat → Nat} {bc : Nat → Nat} (e : h = q_hc lw' n' tx' fp' b' t' s' wa' cf' ct' rr' c' wo' o1' u1' o2' u2' kp' a0' cl' fa' dr' ti' ok' t4' hs' od' sh' t3' co' fo' f' gg' ++ q_hr lw n tx fp b t s wa cf ct rr c wo o1 u1 o2 u2 kp ra wd we nu rd ts oa ob f4 od2 sh2 tw f7 bc) : h[55]? = some (.inl (0, 8, .inl rd)) := by
  rw [e]
  rfl
theorem q_c56 {h : mv_H} {lw' : Nat → Int32} {n' : Nat} {tx' : Nat → Nat} {fp' : Int32} {b' : t_B} {t' : Nat} {s' : q_S} {wa' : Nat → Nat} {cf' : Nat → Int32} {ct' : Nat → Int32} {rr' : Nat → Nat} {c' : q_C} {wo' : q_W} {o1' : t_B} {u1' : Nat} {o2' : t_B} {u2' : Nat} {kp' : Nat → Nat} {a0' : Nat} {cl' : Nat} {fa' : Nat} {dr' : Nat → Int32} {ti' : Nat → Nat} {ok' : Nat → Nat} {t4' : q_4} {hs' : Nat → Nat} {od' : Nat → Nat} {sh' : Nat → Nat} {t3' : q_3} {co' : Nat} {fo' : Int32} {f' : Nat → Nat} {gg' : Nat → Nat} {lw : Nat → Int32} {n : Nat} {tx : Nat → Nat} {fp : Int32} {b : t_B} {t : Nat} {s : q_S} {wa : Nat → Nat} {cf : Nat → Int32} {ct : Nat → Int32} {rr : Nat → Nat} {c : q_C} {wo : q_W} {o1 : t_B} {u1 : Nat} {o2 : t_B} {u2 : Nat} {kp : Nat → Nat} {ra : Nat} {wd : Nat} {we : Nat} {nu : Int32} {rd : Nat → Int32} {ts : Nat} {oa : Nat → Nat} {ob : Nat → Nat} {f4 : Nat → Nat} {od2 : Nat → Nat} {sh2 : Nat → Nat} {tw : Nat → Nat} {f7 : Nat → Nat} {bc : Nat → Nat} (e : h = q_hc lw' n' tx' fp' b' t' s' wa' cf' ct' rr' c' wo' o1' u1' o2' u2' kp' a0' cl' fa' dr' ti' ok' t4' hs' od' sh' t3' co' fo' f' gg' ++ q_hr lw n tx fp b t s wa cf ct rr c wo o1 u1 o2 u2 kp ra wd we nu rd ts oa ob f4 od2 sh2 tw f7 bc) : h[56]? = some (.inl (0, 60, .inl (fun j => nI (b.2.2.1 j)))) := by
  rw [e]
  rfl
theorem q_c57 {h : mv_H} {lw' : Nat → Int32} {n' : Nat} {tx' : Nat → Nat} {fp' : Int32} {b' : t_B} {t' : Nat} {s' : q_S} {wa' : Nat → Nat} {cf' : Nat → Int32} {ct' : Nat → Int32} {rr' : Nat → Nat} {c' : q_C} {wo' : q_W} {o1' : t_B} {u1' : Nat} {o2' : t_B} {u2' : Nat} {kp' : Nat → Nat} {a0' : Nat} {cl' : Nat} {fa' : Nat} {dr' : Nat → Int32} {ti' : Nat → Nat} {ok' : Nat → Nat} {t4' : q_4} {hs' : Nat → Nat} {od' : Nat → Nat} {sh' : Nat → Nat} {t3' : q_3} {co' : Nat} {fo' : Int32} {f' : Nat → Nat} {gg' : Nat → Nat} {lw : Nat → Int32} {n : Nat} {tx : Nat → Nat} {fp : Int32} {b : t_B} {t : Nat} {s : q_S} {wa : Nat → Nat} {cf : Nat → Int32} {ct : Nat → Int32} {rr : Nat → Nat} {c : q_C} {wo : q_W} {o1 : t_B} {u1 : Nat} {o2 : t_B} {u2 : Nat} {kp : Nat → Nat} {ra : Nat} {wd : Nat} {we : Nat} {nu : Int32} {rd : Nat → Int32} {ts : Nat} {oa : Nat → Nat} {ob : Nat → Nat} {f4 : Nat → Nat} {od2 : Nat → Nat} {sh2 : Nat → Nat} {tw : Nat → Nat} {f7 : Nat → Nat} {bc : Nat → Nat} (e : h = q_hc lw' n' tx' fp' b' t' s' wa' cf' ct' rr' c' wo' o1' u1' o2' u2' kp' a0' cl' fa' dr' ti' ok' t4' hs' od' sh' t3' co' fo' f' gg' ++ q_hr lw n tx fp b t s wa cf ct rr c wo o1 u1 o2 u2 kp ra wd we nu rd ts oa ob f4 od2 sh2 tw f7 bc) : h[57]? = some (.inl (0, 60, .inl (fun j => nI (b.2.2.2.1 j)))) := by
  rw [e]
  rfl
theorem q_c58 {h : mv_H} {lw' : Nat → Int32} {n' : Nat} {tx' : Nat → Nat} {fp' : Int32} {b' : t_B} {t' : Nat} {s' : q_S} {wa' : Nat → Nat} {cf' : Nat → Int32} {ct' : Nat → Int32} {rr' : Nat → Nat} {c' : q_C} {wo' : q_W} {o1' : t_B} {u1' : Nat} {o2' : t_B} {u2' : Nat} {kp' : Nat → Nat} {a0' : Nat} {cl' : Nat} {fa' : Nat} {dr' : Nat → Int32} {ti' : Nat → Nat} {ok' : Nat → Nat} {t4' : q_4} {hs' : Nat → Nat} {od' : Nat → Nat} {sh' : Nat → Nat} {t3' : q_3} {co' : Nat} {fo' : Int32} {f' : Nat → Nat} {gg' : Nat → Nat} {lw : Nat → Int32} {n : Nat} {tx : Nat → Nat} {fp : Int32} {b : t_B} {t : Nat} {s : q_S} {wa : Nat → Nat} {cf : Nat → Int32} {ct : Nat → Int32} {rr : Nat → Nat} {c : q_C} {wo : q_W} {o1 : t_B} {u1 : Nat} {o2 : t_B} {u2 : Nat} {kp : Nat → Nat} {ra : Nat} {wd : Nat} {we : Nat} {nu : Int32} {rd : Nat → Int32} {ts : Nat} {oa : Nat → Nat} {ob : Nat → Nat} {f4 : Nat → Nat} {od2 : Nat → Nat} {sh2 : Nat → Nat} {tw : Nat → Nat} {f7 : Nat → Nat} {bc : Nat → Nat} (e : h = q_hc lw' n' tx' fp' b' t' s' wa' cf' ct' rr' c' wo' o1' u1' o2' u2' kp' a0' cl' fa' dr' ti' ok' t4' hs' od' sh' t3' co' fo' f' gg' ++ q_hr lw n tx fp b t s wa cf ct rr c wo o1 u1 o2 u2 kp ra wd we nu rd ts oa ob f4 od2 sh2 tw f7 bc) : h[58]? = some (.inl (0, 60, .inl (fun j => nI (b.2.2.2.2 j)))) := by
  rw [e]
  rfl
theorem q_c59 {h : mv_H} {lw' : Nat → Int32} {n' : Nat} {tx' : Nat → Nat} {fp' : Int32} {b' : t_B} {t' : Nat} {s' : q_S} {wa' : Nat → Nat} {cf' : Nat → Int32} {ct' : Nat → Int32} {rr' : Nat → Nat} {c' : q_C} {wo' : q_W} {o1' : t_B} {u1' : Nat} {o2' : t_B} {u2' : Nat} {kp' : Nat → Nat} {a0' : Nat} {cl' : Nat} {fa' : Nat} {dr' : Nat → Int32} {ti' : Nat → Nat} {ok' : Nat → Nat} {t4' : q_4} {hs' : Nat → Nat} {od' : Nat → Nat} {sh' : Nat → Nat} {t3' : q_3} {co' : Nat} {fo' : Int32} {f' : Nat → Nat} {gg' : Nat → Nat} {lw : Nat → Int32} {n : Nat} {tx : Nat → Nat} {fp : Int32} {b : t_B} {t : Nat} {s : q_S} {wa : Nat → Nat} {cf : Nat → Int32} {ct : Nat → Int32} {rr : Nat → Nat} {c : q_C} {wo : q_W} {o1 : t_B} {u1 : Nat} {o2 : t_B} {u2 : Nat} {kp : Nat → Nat} {ra : Nat} {wd : Nat} {we : Nat} {nu : Int32} {rd : Nat → Int32} {ts : Nat} {oa : Nat → Nat} {ob : Nat → Nat} {f4 : Nat → Nat} {od2 : Nat → Nat} {sh2 : Nat → Nat} {tw : Nat → Nat} {f7 : Nat → Nat} {bc : Nat → Nat} (e : h = q_hc lw' n' tx' fp' b' t' s' wa' cf' ct' rr' c' wo' o1' u1' o2' u2' kp' a0' cl' fa' dr' ti' ok' t4' hs' od' sh' t3' co' fo' f' gg' ++ q_hr lw n tx fp b t s wa cf ct rr c wo o1 u1 o2 u2 kp ra wd we nu rd ts oa ob f4 od2 sh2 tw f7 bc) : h[59]? = some (.inl (0, 8, .inl (fun j => nI (wa j)))) := by
  rw [e]
  rfl
theorem q_c60 {h : mv_H} {lw' : Nat → Int32} {n' : Nat} {tx' : Nat → Nat} {fp' : Int32} {b' : t_B} {t' : Nat} {s' : q_S} {wa' : Nat → Nat} {cf' : Nat → Int32} {ct' : Nat → Int32} {rr' : Nat → Nat} {c' : q_C} {wo' : q_W} {o1' : t_B} {u1' : Nat} {o2' : t_B} {u2' : Nat} {kp' : Nat → Nat} {a0' : Nat} {cl' : Nat} {fa' : Nat} {dr' : Nat → Int32} {ti' : Nat → Nat} {ok' : Nat → Nat} {t4' : q_4} {hs' : Nat → Nat} {od' : Nat → Nat} {sh' : Nat → Nat} {t3' : q_3} {co' : Nat} {fo' : Int32} {f' : Nat → Nat} {gg' : Nat → Nat} {lw : Nat → Int32} {n : Nat} {tx : Nat → Nat} {fp : Int32} {b : t_B} {t : Nat} {s : q_S} {wa : Nat → Nat} {cf : Nat → Int32} {ct : Nat → Int32} {rr : Nat → Nat} {c : q_C} {wo : q_W} {o1 : t_B} {u1 : Nat} {o2 : t_B} {u2 : Nat} {kp : Nat → Nat} {ra : Nat} {wd : Nat} {we : Nat} {nu : Int32} {rd : Nat → Int32} {ts : Nat} {oa : Nat → Nat} {ob : Nat → Nat} {f4 : Nat → Nat} {od2 : Nat → Nat} {sh2 : Nat → Nat} {tw : Nat → Nat} {f7 : Nat → Nat} {bc : Nat → Nat} (e : h = q_hc lw' n' tx' fp' b' t' s' wa' cf' ct' rr' c' wo' o1' u1' o2' u2' kp' a0' cl' fa' dr' ti' ok' t4' hs' od' sh' t3' co' fo' f' gg' ++ q_hr lw n tx fp b t s wa cf ct rr c wo o1 u1 o2 u2 kp ra wd we nu rd ts oa ob f4 od2 sh2 tw f7 bc) : h[60]? = some (.inl (0, 8, .inl cf)) := by
  rw [e]
  rfl
theorem q_c61 {h : mv_H} {lw' : Nat → Int32} {n' : Nat} {tx' : Nat → Nat} {fp' : Int32} {b' : t_B} {t' : Nat} {s' : q_S} {wa' : Nat → Nat} {cf' : Nat → Int32} {ct' : Nat → Int32} {rr' : Nat → Nat} {c' : q_C} {wo' : q_W} {o1' : t_B} {u1' : Nat} {o2' : t_B} {u2' : Nat} {kp' : Nat → Nat} {a0' : Nat} {cl' : Nat} {fa' : Nat} {dr' : Nat → Int32} {ti' : Nat → Nat} {ok' : Nat → Nat} {t4' : q_4} {hs' : Nat → Nat} {od' : Nat → Nat} {sh' : Nat → Nat} {t3' : q_3} {co' : Nat} {fo' : Int32} {f' : Nat → Nat} {gg' : Nat → Nat} {lw : Nat → Int32} {n : Nat} {tx : Nat → Nat} {fp : Int32} {b : t_B} {t : Nat} {s : q_S} {wa : Nat → Nat} {cf : Nat → Int32} {ct : Nat → Int32} {rr : Nat → Nat} {c : q_C} {wo : q_W} {o1 : t_B} {u1 : Nat} {o2 : t_B} {u2 : Nat} {kp : Nat → Nat} {ra : Nat} {wd : Nat} {we : Nat} {nu : Int32} {rd : Nat → Int32} {ts : Nat} {oa : Nat → Nat} {ob : Nat → Nat} {f4 : Nat → Nat} {od2 : Nat → Nat} {sh2 : Nat → Nat} {tw : Nat → Nat} {f7 : Nat → Nat} {bc : Nat → Nat} (e : h = q_hc lw' n' tx' fp' b' t' s' wa' cf' ct' rr' c' wo' o1' u1' o2' u2' kp' a0' cl' fa' dr' ti' ok' t4' hs' od' sh' t3' co' fo' f' gg' ++ q_hr lw n tx fp b t s wa cf ct rr c wo o1 u1 o2 u2 kp ra wd we nu rd ts oa ob f4 od2 sh2 tw f7 bc) : h[61]? = some (.inl (0, 8, .inl ct)) := by
  rw [e]
  rfl
theorem q_c62 {h : mv_H} {lw' : Nat → Int32} {n' : Nat} {tx' : Nat → Nat} {fp' : Int32} {b' : t_B} {t' : Nat} {s' : q_S} {wa' : Nat → Nat} {cf' : Nat → Int32} {ct' : Nat → Int32} {rr' : Nat → Nat} {c' : q_C} {wo' : q_W} {o1' : t_B} {u1' : Nat} {o2' : t_B} {u2' : Nat} {kp' : Nat → Nat} {a0' : Nat} {cl' : Nat} {fa' : Nat} {dr' : Nat → Int32} {ti' : Nat → Nat} {ok' : Nat → Nat} {t4' : q_4} {hs' : Nat → Nat} {od' : Nat → Nat} {sh' : Nat → Nat} {t3' : q_3} {co' : Nat} {fo' : Int32} {f' : Nat → Nat} {gg' : Nat → Nat} {lw : Nat → Int32} {n : Nat} {tx : Nat → Nat} {fp : Int32} {b : t_B} {t : Nat} {s : q_S} {wa : Nat → Nat} {cf : Nat → Int32} {ct : Nat → Int32} {rr : Nat → Nat} {c : q_C} {wo : q_W} {o1 : t_B} {u1 : Nat} {o2 : t_B} {u2 : Nat} {kp : Nat → Nat} {ra : Nat} {wd : Nat} {we : Nat} {nu : Int32} {rd : Nat → Int32} {ts : Nat} {oa : Nat → Nat} {ob : Nat → Nat} {f4 : Nat → Nat} {od2 : Nat → Nat} {sh2 : Nat → Nat} {tw : Nat → Nat} {f7 : Nat → Nat} {bc : Nat → Nat} (e : h = q_hc lw' n' tx' fp' b' t' s' wa' cf' ct' rr' c' wo' o1' u1' o2' u2' kp' a0' cl' fa' dr' ti' ok' t4' hs' od' sh' t3' co' fo' f' gg' ++ q_hr lw n tx fp b t s wa cf ct rr c wo o1 u1 o2 u2 kp ra wd we nu rd ts oa ob f4 od2 sh2 tw f7 bc) : h[62]? = some (.inl (2, 400, .inl (fun j => nI (rr j)))) := by
  rw [e]
  rfl
theorem q_c63 {h : mv_H} {lw' : Nat → Int32} {n' : Nat} {tx' : Nat → Nat} {fp' : Int32} {b' : t_B} {t' : Nat} {s' : q_S} {wa' : Nat → Nat} {cf' : Nat → Int32} {ct' : Nat → Int32} {rr' : Nat → Nat} {c' : q_C} {wo' : q_W} {o1' : t_B} {u1' : Nat} {o2' : t_B} {u2' : Nat} {kp' : Nat → Nat} {a0' : Nat} {cl' : Nat} {fa' : Nat} {dr' : Nat → Int32} {ti' : Nat → Nat} {ok' : Nat → Nat} {t4' : q_4} {hs' : Nat → Nat} {od' : Nat → Nat} {sh' : Nat → Nat} {t3' : q_3} {co' : Nat} {fo' : Int32} {f' : Nat → Nat} {gg' : Nat → Nat} {lw : Nat → Int32} {n : Nat} {tx : Nat → Nat} {fp : Int32} {b : t_B} {t : Nat} {s : q_S} {wa : Nat → Nat} {cf : Nat → Int32} {ct : Nat → Int32} {rr : Nat → Nat} {c : q_C} {wo : q_W} {o1 : t_B} {u1 : Nat} {o2 : t_B} {u2 : Nat} {kp : Nat → Nat} {ra : Nat} {wd : Nat} {we : Nat} {nu : Int32} {rd : Nat → Int32} {ts : Nat} {oa : Nat → Nat} {ob : Nat → Nat} {f4 : Nat → Nat} {od2 : Nat → Nat} {sh2 : Nat → Nat} {tw : Nat → Nat} {f7 : Nat → Nat} {bc : Nat → Nat} (e : h = q_hc lw' n' tx' fp' b' t' s' wa' cf' ct' rr' c' wo' o1' u1' o2' u2' kp' a0' cl' fa' dr' ti' ok' t4' hs' od' sh' t3' co' fo' f' gg' ++ q_hr lw n tx fp b t s wa cf ct rr c wo o1 u1 o2 u2 kp ra wd we nu rd ts oa ob f4 od2 sh2 tw f7 bc) : h[63]? = some (.inl (0, 100, .inl (fun j => nI (s.2.1 j)))) := by
  rw [e]
  rfl
theorem q_c64 {h : mv_H} {lw' : Nat → Int32} {n' : Nat} {tx' : Nat → Nat} {fp' : Int32} {b' : t_B} {t' : Nat} {s' : q_S} {wa' : Nat → Nat} {cf' : Nat → Int32} {ct' : Nat → Int32} {rr' : Nat → Nat} {c' : q_C} {wo' : q_W} {o1' : t_B} {u1' : Nat} {o2' : t_B} {u2' : Nat} {kp' : Nat → Nat} {a0' : Nat} {cl' : Nat} {fa' : Nat} {dr' : Nat → Int32} {ti' : Nat → Nat} {ok' : Nat → Nat} {t4' : q_4} {hs' : Nat → Nat} {od' : Nat → Nat} {sh' : Nat → Nat} {t3' : q_3} {co' : Nat} {fo' : Int32} {f' : Nat → Nat} {gg' : Nat → Nat} {lw : Nat → Int32} {n : Nat} {tx : Nat → Nat} {fp : Int32} {b : t_B} {t : Nat} {s : q_S} {wa : Nat → Nat} {cf : Nat → Int32} {ct : Nat → Int32} {rr : Nat → Nat} {c : q_C} {wo : q_W} {o1 : t_B} {u1 : Nat} {o2 : t_B} {u2 : Nat} {kp : Nat → Nat} {ra : Nat} {wd : Nat} {we : Nat} {nu : Int32} {rd : Nat → Int32} {ts : Nat} {oa : Nat → Nat} {ob : Nat → Nat} {f4 : Nat → Nat} {od2 : Nat → Nat} {sh2 : Nat → Nat} {tw : Nat → Nat} {f7 : Nat → Nat} {bc : Nat → Nat} (e : h = q_hc lw' n' tx' fp' b' t' s' wa' cf' ct' rr' c' wo' o1' u1' o2' u2' kp' a0' cl' fa' dr' ti' ok' t4' hs' od' sh' t3' co' fo' f' gg' ++ q_hr lw n tx fp b t s wa cf ct rr c wo o1 u1 o2 u2 kp ra wd we nu rd ts oa ob f4 od2 sh2 tw f7 bc) : h[64]? = some (.inl (0, 100, .inl (fun j => nI (s.2.2.1 j)))) := by
  rw [e]
  rfl
theorem q_c65 {h : mv_H} {lw' : Nat → Int32} {n' : Nat} {tx' : Nat → Nat} {fp' : Int32} {b' : t_B} {t' : Nat} {s' : q_S} {wa' : Nat → Nat} {cf' : Nat → Int32} {ct' : Nat → Int32} {rr' : Nat → Nat} {c' : q_C} {wo' : q_W} {o1' : t_B} {u1' : Nat} {o2' : t_B} {u2' : Nat} {kp' : Nat → Nat} {a0' : Nat} {cl' : Nat} {fa' : Nat} {dr' : Nat → Int32} {ti' : Nat → Nat} {ok' : Nat → Nat} {t4' : q_4} {hs' : Nat → Nat} {od' : Nat → Nat} {sh' : Nat → Nat} {t3' : q_3} {co' : Nat} {fo' : Int32} {f' : Nat → Nat} {gg' : Nat → Nat} {lw : Nat → Int32} {n : Nat} {tx : Nat → Nat} {fp : Int32} {b : t_B} {t : Nat} {s : q_S} {wa : Nat → Nat} {cf : Nat → Int32} {ct : Nat → Int32} {rr : Nat → Nat} {c : q_C} {wo : q_W} {o1 : t_B} {u1 : Nat} {o2 : t_B} {u2 : Nat} {kp : Nat → Nat} {ra : Nat} {wd : Nat} {we : Nat} {nu : Int32} {rd : Nat → Int32} {ts : Nat} {oa : Nat → Nat} {ob : Nat → Nat} {f4 : Nat → Nat} {od2 : Nat → Nat} {sh2 : Nat → Nat} {tw : Nat → Nat} {f7 : Nat → Nat} {bc : Nat → Nat} (e : h = q_hc lw' n' tx' fp' b' t' s' wa' cf' ct' rr' c' wo' o1' u1' o2' u2' kp' a0' cl' fa' dr' ti' ok' t4' hs' od' sh' t3' co' fo' f' gg' ++ q_hr lw n tx fp b t s wa cf ct rr c wo o1 u1 o2 u2 kp ra wd we nu rd ts oa ob f4 od2 sh2 tw f7 bc) : h[65]? = some (.inl (0, 100, .inl (fun j => nI (s.2.2.2.1 j)))) := by
  rw [e]
  rfl
theorem q_c66 {h : mv_H} {lw' : Nat → Int32} {n' : Nat} {tx' : Nat → Nat} {fp' : Int32} {b' : t_B} {t' : Nat} {s' : q_S} {wa' : Nat → Nat} {cf' : Nat → Int32} {ct' : Nat → Int32} {rr' : Nat → Nat} {c' : q_C} {wo' : q_W} {o1' : t_B} {u1' : Nat} {o2' : t_B} {u2' : Nat} {kp' : Nat → Nat} {a0' : Nat} {cl' : Nat} {fa' : Nat} {dr' : Nat → Int32} {ti' : Nat → Nat} {ok' : Nat → Nat} {t4' : q_4} {hs' : Nat → Nat} {od' : Nat → Nat} {sh' : Nat → Nat} {t3' : q_3} {co' : Nat} {fo' : Int32} {f' : Nat → Nat} {gg' : Nat → Nat} {lw : Nat → Int32} {n : Nat} {tx : Nat → Nat} {fp : Int32} {b : t_B} {t : Nat} {s : q_S} {wa : Nat → Nat} {cf : Nat → Int32} {ct : Nat → Int32} {rr : Nat → Nat} {c : q_C} {wo : q_W} {o1 : t_B} {u1 : Nat} {o2 : t_B} {u2 : Nat} {kp : Nat → Nat} {ra : Nat} {wd : Nat} {we : Nat} {nu : Int32} {rd : Nat → Int32} {ts : Nat} {oa : Nat → Nat} {ob : Nat → Nat} {f4 : Nat → Nat} {od2 : Nat → Nat} {sh2 : Nat → Nat} {tw : Nat → Nat} {f7 : Nat → Nat} {bc : Nat → Nat} (e : h = q_hc lw' n' tx' fp' b' t' s' wa' cf' ct' rr' c' wo' o1' u1' o2' u2' kp' a0' cl' fa' dr' ti' ok' t4' hs' od' sh' t3' co' fo' f' gg' ++ q_hr lw n tx fp b t s wa cf ct rr c wo o1 u1 o2 u2 kp ra wd we nu rd ts oa ob f4 od2 sh2 tw f7 bc) : h[66]? = some (.inl (0, 100, .inl (fun j => nI (s.2.2.2.2 j)))) := by
  rw [e]
  rfl
theorem q_c67 {h : mv_H} {lw' : Nat → Int32} {n' : Nat} {tx' : Nat → Nat} {fp' : Int32} {b' : t_B} {t' : Nat} {s' : q_S} {wa' : Nat → Nat} {cf' : Nat → Int32} {ct' : Nat → Int32} {rr' : Nat → Nat} {c' : q_C} {wo' : q_W} {o1' : t_B} {u1' : Nat} {o2' : t_B} {u2' : Nat} {kp' : Nat → Nat} {a0' : Nat} {cl' : Nat} {fa' : Nat} {dr' : Nat → Int32} {ti' : Nat → Nat} {ok' : Nat → Nat} {t4' : q_4} {hs' : Nat → Nat} {od' : Nat → Nat} {sh' : Nat → Nat} {t3' : q_3} {co' : Nat} {fo' : Int32} {f' : Nat → Nat} {gg' : Nat → Nat} {lw : Nat → Int32} {n : Nat} {tx : Nat → Nat} {fp : Int32} {b : t_B} {t : Nat} {s : q_S} {wa : Nat → Nat} {cf : Nat → Int32} {ct : Nat → Int32} {rr : Nat → Nat} {c : q_C} {wo : q_W} {o1 : t_B} {u1 : Nat} {o2 : t_B} {u2 : Nat} {kp : Nat → Nat} {ra : Nat} {wd : Nat} {we : Nat} {nu : Int32} {rd : Nat → Int32} {ts : Nat} {oa : Nat → Nat} {ob : Nat → Nat} {f4 : Nat → Nat} {od2 : Nat → Nat} {sh2 : Nat → Nat} {tw : Nat → Nat} {f7 : Nat → Nat} {bc : Nat → Nat} (e : h = q_hc lw' n' tx' fp' b' t' s' wa' cf' ct' rr' c' wo' o1' u1' o2' u2' kp' a0' cl' fa' dr' ti' ok' t4' hs' od' sh' t3' co' fo' f' gg' ++ q_hr lw n tx fp b t s wa cf ct rr c wo o1 u1 o2 u2 kp ra wd we nu rd ts oa ob f4 od2 sh2 tw f7 bc) : h[67]? = some (.inl (2, 400, .inl (fun j => nI (oa j)))) := by
  rw [e]
  rfl
theorem q_c68 {h : mv_H} {lw' : Nat → Int32} {n' : Nat} {tx' : Nat → Nat} {fp' : Int32} {b' : t_B} {t' : Nat} {s' : q_S} {wa' : Nat → Nat} {cf' : Nat → Int32} {ct' : Nat → Int32} {rr' : Nat → Nat} {c' : q_C} {wo' : q_W} {o1' : t_B} {u1' : Nat} {o2' : t_B} {u2' : Nat} {kp' : Nat → Nat} {a0' : Nat} {cl' : Nat} {fa' : Nat} {dr' : Nat → Int32} {ti' : Nat → Nat} {ok' : Nat → Nat} {t4' : q_4} {hs' : Nat → Nat} {od' : Nat → Nat} {sh' : Nat → Nat} {t3' : q_3} {co' : Nat} {fo' : Int32} {f' : Nat → Nat} {gg' : Nat → Nat} {lw : Nat → Int32} {n : Nat} {tx : Nat → Nat} {fp : Int32} {b : t_B} {t : Nat} {s : q_S} {wa : Nat → Nat} {cf : Nat → Int32} {ct : Nat → Int32} {rr : Nat → Nat} {c : q_C} {wo : q_W} {o1 : t_B} {u1 : Nat} {o2 : t_B} {u2 : Nat} {kp : Nat → Nat} {ra : Nat} {wd : Nat} {we : Nat} {nu : Int32} {rd : Nat → Int32} {ts : Nat} {oa : Nat → Nat} {ob : Nat → Nat} {f4 : Nat → Nat} {od2 : Nat → Nat} {sh2 : Nat → Nat} {tw : Nat → Nat} {f7 : Nat → Nat} {bc : Nat → Nat} (e : h = q_hc lw' n' tx' fp' b' t' s' wa' cf' ct' rr' c' wo' o1' u1' o2' u2' kp' a0' cl' fa' dr' ti' ok' t4' hs' od' sh' t3' co' fo' f' gg' ++ q_hr lw n tx fp b t s wa cf ct rr c wo o1 u1 o2 u2 kp ra wd we nu rd ts oa ob f4 od2 sh2 tw f7 bc) : h[68]? = some (.inl (2, 400, .inl (fun j => nI (ob j)))) := by
  rw [e]
  rfl
theorem q_c69 {h : mv_H} {lw' : Nat → Int32} {n' : Nat} {tx' : Nat → Nat} {fp' : Int32} {b' : t_B} {t' : Nat} {s' : q_S} {wa' : Nat → Nat} {cf' : Nat → Int32} {ct' : Nat → Int32} {rr' : Nat → Nat} {c' : q_C} {wo' : q_W} {o1' : t_B} {u1' : Nat} {o2' : t_B} {u2' : Nat} {kp' : Nat → Nat} {a0' : Nat} {cl' : Nat} {fa' : Nat} {dr' : Nat → Int32} {ti' : Nat → Nat} {ok' : Nat → Nat} {t4' : q_4} {hs' : Nat → Nat} {od' : Nat → Nat} {sh' : Nat → Nat} {t3' : q_3} {co' : Nat} {fo' : Int32} {f' : Nat → Nat} {gg' : Nat → Nat} {lw : Nat → Int32} {n : Nat} {tx : Nat → Nat} {fp : Int32} {b : t_B} {t : Nat} {s : q_S} {wa : Nat → Nat} {cf : Nat → Int32} {ct : Nat → Int32} {rr : Nat → Nat} {c : q_C} {wo : q_W} {o1 : t_B} {u1 : Nat} {o2 : t_B} {u2 : Nat} {kp : Nat → Nat} {ra : Nat} {wd : Nat} {we : Nat} {nu : Int32} {rd : Nat → Int32} {ts : Nat} {oa : Nat → Nat} {ob : Nat → Nat} {f4 : Nat → Nat} {od2 : Nat → Nat} {sh2 : Nat → Nat} {tw : Nat → Nat} {f7 : Nat → Nat} {bc : Nat → Nat} (e : h = q_hc lw' n' tx' fp' b' t' s' wa' cf' ct' rr' c' wo' o1' u1' o2' u2' kp' a0' cl' fa' dr' ti' ok' t4' hs' od' sh' t3' co' fo' f' gg' ++ q_hr lw n tx fp b t s wa cf ct rr c wo o1 u1 o2 u2 kp ra wd we nu rd ts oa ob f4 od2 sh2 tw f7 bc) : h[69]? = some (.inl (0, 4, .inl (fun j => nI (f4 j)))) := by
  rw [e]
  rfl
theorem q_c70 {h : mv_H} {lw' : Nat → Int32} {n' : Nat} {tx' : Nat → Nat} {fp' : Int32} {b' : t_B} {t' : Nat} {s' : q_S} {wa' : Nat → Nat} {cf' : Nat → Int32} {ct' : Nat → Int32} {rr' : Nat → Nat} {c' : q_C} {wo' : q_W} {o1' : t_B} {u1' : Nat} {o2' : t_B} {u2' : Nat} {kp' : Nat → Nat} {a0' : Nat} {cl' : Nat} {fa' : Nat} {dr' : Nat → Int32} {ti' : Nat → Nat} {ok' : Nat → Nat} {t4' : q_4} {hs' : Nat → Nat} {od' : Nat → Nat} {sh' : Nat → Nat} {t3' : q_3} {co' : Nat} {fo' : Int32} {f' : Nat → Nat} {gg' : Nat → Nat} {lw : Nat → Int32} {n : Nat} {tx : Nat → Nat} {fp : Int32} {b : t_B} {t : Nat} {s : q_S} {wa : Nat → Nat} {cf : Nat → Int32} {ct : Nat → Int32} {rr : Nat → Nat} {c : q_C} {wo : q_W} {o1 : t_B} {u1 : Nat} {o2 : t_B} {u2 : Nat} {kp : Nat → Nat} {ra : Nat} {wd : Nat} {we : Nat} {nu : Int32} {rd : Nat → Int32} {ts : Nat} {oa : Nat → Nat} {ob : Nat → Nat} {f4 : Nat → Nat} {od2 : Nat → Nat} {sh2 : Nat → Nat} {tw : Nat → Nat} {f7 : Nat → Nat} {bc : Nat → Nat} (e : h = q_hc lw' n' tx' fp' b' t' s' wa' cf' ct' rr' c' wo' o1' u1' o2' u2' kp' a0' cl' fa' dr' ti' ok' t4' hs' od' sh' t3' co' fo' f' gg' ++ q_hr lw n tx fp b t s wa cf ct rr c wo o1 u1 o2 u2 kp ra wd we nu rd ts oa ob f4 od2 sh2 tw f7 bc) : h[70]? = some (.inl (0, 84, .inl (fun j => nI (q_row c j)))) := by
  rw [e]
  rfl
theorem q_c71 {h : mv_H} {lw' : Nat → Int32} {n' : Nat} {tx' : Nat → Nat} {fp' : Int32} {b' : t_B} {t' : Nat} {s' : q_S} {wa' : Nat → Nat} {cf' : Nat → Int32} {ct' : Nat → Int32} {rr' : Nat → Nat} {c' : q_C} {wo' : q_W} {o1' : t_B} {u1' : Nat} {o2' : t_B} {u2' : Nat} {kp' : Nat → Nat} {a0' : Nat} {cl' : Nat} {fa' : Nat} {dr' : Nat → Int32} {ti' : Nat → Nat} {ok' : Nat → Nat} {t4' : q_4} {hs' : Nat → Nat} {od' : Nat → Nat} {sh' : Nat → Nat} {t3' : q_3} {co' : Nat} {fo' : Int32} {f' : Nat → Nat} {gg' : Nat → Nat} {lw : Nat → Int32} {n : Nat} {tx : Nat → Nat} {fp : Int32} {b : t_B} {t : Nat} {s : q_S} {wa : Nat → Nat} {cf : Nat → Int32} {ct : Nat → Int32} {rr : Nat → Nat} {c : q_C} {wo : q_W} {o1 : t_B} {u1 : Nat} {o2 : t_B} {u2 : Nat} {kp : Nat → Nat} {ra : Nat} {wd : Nat} {we : Nat} {nu : Int32} {rd : Nat → Int32} {ts : Nat} {oa : Nat → Nat} {ob : Nat → Nat} {f4 : Nat → Nat} {od2 : Nat → Nat} {sh2 : Nat → Nat} {tw : Nat → Nat} {f7 : Nat → Nat} {bc : Nat → Nat} (e : h = q_hc lw' n' tx' fp' b' t' s' wa' cf' ct' rr' c' wo' o1' u1' o2' u2' kp' a0' cl' fa' dr' ti' ok' t4' hs' od' sh' t3' co' fo' f' gg' ++ q_hr lw n tx fp b t s wa cf ct rr c wo o1 u1 o2 u2 kp ra wd we nu rd ts oa ob f4 od2 sh2 tw f7 bc) : h[71]? = some (.inl (0, 400, .inl (fun j => nI (od2 j)))) := by
  rw [e]
  rfl
theorem q_c72 {h : mv_H} {lw' : Nat → Int32} {n' : Nat} {tx' : Nat → Nat} {fp' : Int32} {b' : t_B} {t' : Nat} {s' : q_S} {wa' : Nat → Nat} {cf' : Nat → Int32} {ct' : Nat → Int32} {rr' : Nat → Nat} {c' : q_C} {wo' : q_W} {o1' : t_B} {u1' : Nat} {o2' : t_B} {u2' : Nat} {kp' : Nat → Nat} {a0' : Nat} {cl' : Nat} {fa' : Nat} {dr' : Nat → Int32} {ti' : Nat → Nat} {ok' : Nat → Nat} {t4' : q_4} {hs' : Nat → Nat} {od' : Nat → Nat} {sh' : Nat → Nat} {t3' : q_3} {co' : Nat} {fo' : Int32} {f' : Nat → Nat} {gg' : Nat → Nat} {lw : Nat → Int32} {n : Nat} {tx : Nat → Nat} {fp : Int32} {b : t_B} {t : Nat} {s : q_S} {wa : Nat → Nat} {cf : Nat → Int32} {ct : Nat → Int32} {rr : Nat → Nat} {c : q_C} {wo : q_W} {o1 : t_B} {u1 : Nat} {o2 : t_B} {u2 : Nat} {kp : Nat → Nat} {ra : Nat} {wd : Nat} {we : Nat} {nu : Int32} {rd : Nat → Int32} {ts : Nat} {oa : Nat → Nat} {ob : Nat → Nat} {f4 : Nat → Nat} {od2 : Nat → Nat} {sh2 : Nat → Nat} {tw : Nat → Nat} {f7 : Nat → Nat} {bc : Nat → Nat} (e : h = q_hc lw' n' tx' fp' b' t' s' wa' cf' ct' rr' c' wo' o1' u1' o2' u2' kp' a0' cl' fa' dr' ti' ok' t4' hs' od' sh' t3' co' fo' f' gg' ++ q_hr lw n tx fp b t s wa cf ct rr c wo o1 u1 o2 u2 kp ra wd we nu rd ts oa ob f4 od2 sh2 tw f7 bc) : h[72]? = some (.inl (0, 400, .inl (fun j => nI (sh2 j)))) := by
  rw [e]
  rfl
theorem q_c73 {h : mv_H} {lw' : Nat → Int32} {n' : Nat} {tx' : Nat → Nat} {fp' : Int32} {b' : t_B} {t' : Nat} {s' : q_S} {wa' : Nat → Nat} {cf' : Nat → Int32} {ct' : Nat → Int32} {rr' : Nat → Nat} {c' : q_C} {wo' : q_W} {o1' : t_B} {u1' : Nat} {o2' : t_B} {u2' : Nat} {kp' : Nat → Nat} {a0' : Nat} {cl' : Nat} {fa' : Nat} {dr' : Nat → Int32} {ti' : Nat → Nat} {ok' : Nat → Nat} {t4' : q_4} {hs' : Nat → Nat} {od' : Nat → Nat} {sh' : Nat → Nat} {t3' : q_3} {co' : Nat} {fo' : Int32} {f' : Nat → Nat} {gg' : Nat → Nat} {lw : Nat → Int32} {n : Nat} {tx : Nat → Nat} {fp : Int32} {b : t_B} {t : Nat} {s : q_S} {wa : Nat → Nat} {cf : Nat → Int32} {ct : Nat → Int32} {rr : Nat → Nat} {c : q_C} {wo : q_W} {o1 : t_B} {u1 : Nat} {o2 : t_B} {u2 : Nat} {kp : Nat → Nat} {ra : Nat} {wd : Nat} {we : Nat} {nu : Int32} {rd : Nat → Int32} {ts : Nat} {oa : Nat → Nat} {ob : Nat → Nat} {f4 : Nat → Nat} {od2 : Nat → Nat} {sh2 : Nat → Nat} {tw : Nat → Nat} {f7 : Nat → Nat} {bc : Nat → Nat} (e : h = q_hc lw' n' tx' fp' b' t' s' wa' cf' ct' rr' c' wo' o1' u1' o2' u2' kp' a0' cl' fa' dr' ti' ok' t4' hs' od' sh' t3' co' fo' f' gg' ++ q_hr lw n tx fp b t s wa cf ct rr c wo o1 u1 o2 u2 kp ra wd we nu rd ts oa ob f4 od2 sh2 tw f7 bc) : h[73]? = some (.inl (0, 4, .inl (fun j => nI (tw j)))) := by
  rw [e]
  rfl
theorem q_c74 {h : mv_H} {lw' : Nat → Int32} {n' : Nat} {tx' : Nat → Nat} {fp' : Int32} {b' : t_B} {t' : Nat} {s' : q_S} {wa' : Nat → Nat} {cf' : Nat → Int32} {ct' : Nat → Int32} {rr' : Nat → Nat} {c' : q_C} {wo' : q_W} {o1' : t_B} {u1' : Nat} {o2' : t_B} {u2' : Nat} {kp' : Nat → Nat} {a0' : Nat} {cl' : Nat} {fa' : Nat} {dr' : Nat → Int32} {ti' : Nat → Nat} {ok' : Nat → Nat} {t4' : q_4} {hs' : Nat → Nat} {od' : Nat → Nat} {sh' : Nat → Nat} {t3' : q_3} {co' : Nat} {fo' : Int32} {f' : Nat → Nat} {gg' : Nat → Nat} {lw : Nat → Int32} {n : Nat} {tx : Nat → Nat} {fp : Int32} {b : t_B} {t : Nat} {s : q_S} {wa : Nat → Nat} {cf : Nat → Int32} {ct : Nat → Int32} {rr : Nat → Nat} {c : q_C} {wo : q_W} {o1 : t_B} {u1 : Nat} {o2 : t_B} {u2 : Nat} {kp : Nat → Nat} {ra : Nat} {wd : Nat} {we : Nat} {nu : Int32} {rd : Nat → Int32} {ts : Nat} {oa : Nat → Nat} {ob : Nat → Nat} {f4 : Nat → Nat} {od2 : Nat → Nat} {sh2 : Nat → Nat} {tw : Nat → Nat} {f7 : Nat → Nat} {bc : Nat → Nat} (e : h = q_hc lw' n' tx' fp' b' t' s' wa' cf' ct' rr' c' wo' o1' u1' o2' u2' kp' a0' cl' fa' dr' ti' ok' t4' hs' od' sh' t3' co' fo' f' gg' ++ q_hr lw n tx fp b t s wa cf ct rr c wo o1 u1 o2 u2 kp ra wd we nu rd ts oa ob f4 od2 sh2 tw f7 bc) : h[74]? = some (.inl (0, 201, .inl (fun j => nI (f7 j)))) := by
  rw [e]
  rfl
theorem q_c75 {h : mv_H} {lw' : Nat → Int32} {n' : Nat} {tx' : Nat → Nat} {fp' : Int32} {b' : t_B} {t' : Nat} {s' : q_S} {wa' : Nat → Nat} {cf' : Nat → Int32} {ct' : Nat → Int32} {rr' : Nat → Nat} {c' : q_C} {wo' : q_W} {o1' : t_B} {u1' : Nat} {o2' : t_B} {u2' : Nat} {kp' : Nat → Nat} {a0' : Nat} {cl' : Nat} {fa' : Nat} {dr' : Nat → Int32} {ti' : Nat → Nat} {ok' : Nat → Nat} {t4' : q_4} {hs' : Nat → Nat} {od' : Nat → Nat} {sh' : Nat → Nat} {t3' : q_3} {co' : Nat} {fo' : Int32} {f' : Nat → Nat} {gg' : Nat → Nat} {lw : Nat → Int32} {n : Nat} {tx : Nat → Nat} {fp : Int32} {b : t_B} {t : Nat} {s : q_S} {wa : Nat → Nat} {cf : Nat → Int32} {ct : Nat → Int32} {rr : Nat → Nat} {c : q_C} {wo : q_W} {o1 : t_B} {u1 : Nat} {o2 : t_B} {u2 : Nat} {kp : Nat → Nat} {ra : Nat} {wd : Nat} {we : Nat} {nu : Int32} {rd : Nat → Int32} {ts : Nat} {oa : Nat → Nat} {ob : Nat → Nat} {f4 : Nat → Nat} {od2 : Nat → Nat} {sh2 : Nat → Nat} {tw : Nat → Nat} {f7 : Nat → Nat} {bc : Nat → Nat} (e : h = q_hc lw' n' tx' fp' b' t' s' wa' cf' ct' rr' c' wo' o1' u1' o2' u2' kp' a0' cl' fa' dr' ti' ok' t4' hs' od' sh' t3' co' fo' f' gg' ++ q_hr lw n tx fp b t s wa cf ct rr c wo o1 u1 o2 u2 kp ra wd we nu rd ts oa ob f4 od2 sh2 tw f7 bc) : h[75]? = some (.inl (0, 3721, .inl (fun j => nI (bc j)))) := by
  rw [e]
  rfl
theorem q_c76 {h : mv_H} {lw' : Nat → Int32} {n' : Nat} {tx' : Nat → Nat} {fp' : Int32} {b' : t_B} {t' : Nat} {s' : q_S} {wa' : Nat → Nat} {cf' : Nat → Int32} {ct' : Nat → Int32} {rr' : Nat → Nat} {c' : q_C} {wo' : q_W} {o1' : t_B} {u1' : Nat} {o2' : t_B} {u2' : Nat} {kp' : Nat → Nat} {a0' : Nat} {cl' : Nat} {fa' : Nat} {dr' : Nat → Int32} {ti' : Nat → Nat} {ok' : Nat → Nat} {t4' : q_4} {hs' : Nat → Nat} {od' : Nat → Nat} {sh' : Nat → Nat} {t3' : q_3} {co' : Nat} {fo' : Int32} {f' : Nat → Nat} {gg' : Nat → Nat} {lw : Nat → Int32} {n : Nat} {tx : Nat → Nat} {fp : Int32} {b : t_B} {t : Nat} {s : q_S} {wa : Nat → Nat} {cf : Nat → Int32} {ct : Nat → Int32} {rr : Nat → Nat} {c : q_C} {wo : q_W} {o1 : t_B} {u1 : Nat} {o2 : t_B} {u2 : Nat} {kp : Nat → Nat} {ra : Nat} {wd : Nat} {we : Nat} {nu : Int32} {rd : Nat → Int32} {ts : Nat} {oa : Nat → Nat} {ob : Nat → Nat} {f4 : Nat → Nat} {od2 : Nat → Nat} {sh2 : Nat → Nat} {tw : Nat → Nat} {f7 : Nat → Nat} {bc : Nat → Nat} (e : h = q_hc lw' n' tx' fp' b' t' s' wa' cf' ct' rr' c' wo' o1' u1' o2' u2' kp' a0' cl' fa' dr' ti' ok' t4' hs' od' sh' t3' co' fo' f' gg' ++ q_hr lw n tx fp b t s wa cf ct rr c wo o1 u1 o2 u2 kp ra wd we nu rd ts oa ob f4 od2 sh2 tw f7 bc) : h[76]? = some (.inl (0, 12, .inl (fun j => nI (wo.2.1 j)))) := by
  rw [e]
  rfl
theorem q_c77 {h : mv_H} {lw' : Nat → Int32} {n' : Nat} {tx' : Nat → Nat} {fp' : Int32} {b' : t_B} {t' : Nat} {s' : q_S} {wa' : Nat → Nat} {cf' : Nat → Int32} {ct' : Nat → Int32} {rr' : Nat → Nat} {c' : q_C} {wo' : q_W} {o1' : t_B} {u1' : Nat} {o2' : t_B} {u2' : Nat} {kp' : Nat → Nat} {a0' : Nat} {cl' : Nat} {fa' : Nat} {dr' : Nat → Int32} {ti' : Nat → Nat} {ok' : Nat → Nat} {t4' : q_4} {hs' : Nat → Nat} {od' : Nat → Nat} {sh' : Nat → Nat} {t3' : q_3} {co' : Nat} {fo' : Int32} {f' : Nat → Nat} {gg' : Nat → Nat} {lw : Nat → Int32} {n : Nat} {tx : Nat → Nat} {fp : Int32} {b : t_B} {t : Nat} {s : q_S} {wa : Nat → Nat} {cf : Nat → Int32} {ct : Nat → Int32} {rr : Nat → Nat} {c : q_C} {wo : q_W} {o1 : t_B} {u1 : Nat} {o2 : t_B} {u2 : Nat} {kp : Nat → Nat} {ra : Nat} {wd : Nat} {we : Nat} {nu : Int32} {rd : Nat → Int32} {ts : Nat} {oa : Nat → Nat} {ob : Nat → Nat} {f4 : Nat → Nat} {od2 : Nat → Nat} {sh2 : Nat → Nat} {tw : Nat → Nat} {f7 : Nat → Nat} {bc : Nat → Nat} (e : h = q_hc lw' n' tx' fp' b' t' s' wa' cf' ct' rr' c' wo' o1' u1' o2' u2' kp' a0' cl' fa' dr' ti' ok' t4' hs' od' sh' t3' co' fo' f' gg' ++ q_hr lw n tx fp b t s wa cf ct rr c wo o1 u1 o2 u2 kp ra wd we nu rd ts oa ob f4 od2 sh2 tw f7 bc) : h[77]? = some (.inl (0, 12, .inl (fun j => nI (wo.2.2.1 j)))) := by
  rw [e]
  rfl
theorem q_c78 {h : mv_H} {lw' : Nat → Int32} {n' : Nat} {tx' : Nat → Nat} {fp' : Int32} {b' : t_B} {t' : Nat} {s' : q_S} {wa' : Nat → Nat} {cf' : Nat → Int32} {ct' : Nat → Int32} {rr' : Nat → Nat} {c' : q_C} {wo' : q_W} {o1' : t_B} {u1' : Nat} {o2' : t_B} {u2' : Nat} {kp' : Nat → Nat} {a0' : Nat} {cl' : Nat} {fa' : Nat} {dr' : Nat → Int32} {ti' : Nat → Nat} {ok' : Nat → Nat} {t4' : q_4} {hs' : Nat → Nat} {od' : Nat → Nat} {sh' : Nat → Nat} {t3' : q_3} {co' : Nat} {fo' : Int32} {f' : Nat → Nat} {gg' : Nat → Nat} {lw : Nat → Int32} {n : Nat} {tx : Nat → Nat} {fp : Int32} {b : t_B} {t : Nat} {s : q_S} {wa : Nat → Nat} {cf : Nat → Int32} {ct : Nat → Int32} {rr : Nat → Nat} {c : q_C} {wo : q_W} {o1 : t_B} {u1 : Nat} {o2 : t_B} {u2 : Nat} {kp : Nat → Nat} {ra : Nat} {wd : Nat} {we : Nat} {nu : Int32} {rd : Nat → Int32} {ts : Nat} {oa : Nat → Nat} {ob : Nat → Nat} {f4 : Nat → Nat} {od2 : Nat → Nat} {sh2 : Nat → Nat} {tw : Nat → Nat} {f7 : Nat → Nat} {bc : Nat → Nat} (e : h = q_hc lw' n' tx' fp' b' t' s' wa' cf' ct' rr' c' wo' o1' u1' o2' u2' kp' a0' cl' fa' dr' ti' ok' t4' hs' od' sh' t3' co' fo' f' gg' ++ q_hr lw n tx fp b t s wa cf ct rr c wo o1 u1 o2 u2 kp ra wd we nu rd ts oa ob f4 od2 sh2 tw f7 bc) : h[78]? = some (.inl (0, 12, .inl (fun j => nI (wo.2.2.2 j)))) := by
  rw [e]
  rfl
theorem q_c79 {h : mv_H} {lw' : Nat → Int32} {n' : Nat} {tx' : Nat → Nat} {fp' : Int32} {b' : t_B} {t' : Nat} {s' : q_S} {wa' : Nat → Nat} {cf' : Nat → Int32} {ct' : Nat → Int32} {rr' : Nat → Nat} {c' : q_C} {wo' : q_W} {o1' : t_B} {u1' : Nat} {o2' : t_B} {u2' : Nat} {kp' : Nat → Nat} {a0' : Nat} {cl' : Nat} {fa' : Nat} {dr' : Nat → Int32} {ti' : Nat → Nat} {ok' : Nat → Nat} {t4' : q_4} {hs' : Nat → Nat} {od' : Nat → Nat} {sh' : Nat → Nat} {t3' : q_3} {co' : Nat} {fo' : Int32} {f' : Nat → Nat} {gg' : Nat → Nat} {lw : Nat → Int32} {n : Nat} {tx : Nat → Nat} {fp : Int32} {b : t_B} {t : Nat} {s : q_S} {wa : Nat → Nat} {cf : Nat → Int32} {ct : Nat → Int32} {rr : Nat → Nat} {c : q_C} {wo : q_W} {o1 : t_B} {u1 : Nat} {o2 : t_B} {u2 : Nat} {kp : Nat → Nat} {ra : Nat} {wd : Nat} {we : Nat} {nu : Int32} {rd : Nat → Int32} {ts : Nat} {oa : Nat → Nat} {ob : Nat → Nat} {f4 : Nat → Nat} {od2 : Nat → Nat} {sh2 : Nat → Nat} {tw : Nat → Nat} {f7 : Nat → Nat} {bc : Nat → Nat} (e : h = q_hc lw' n' tx' fp' b' t' s' wa' cf' ct' rr' c' wo' o1' u1' o2' u2' kp' a0' cl' fa' dr' ti' ok' t4' hs' od' sh' t3' co' fo' f' gg' ++ q_hr lw n tx fp b t s wa cf ct rr c wo o1 u1 o2 u2 kp ra wd we nu rd ts oa ob f4 od2 sh2 tw f7 bc) : h[79]? = some (.inl (0, 400, .inl (fun j => nI ((q_im o1 u1 o2 u2) j)))) := by
  rw [e]
  rfl
theorem q_c80 {h : mv_H} {lw' : Nat → Int32} {n' : Nat} {tx' : Nat → Nat} {fp' : Int32} {b' : t_B} {t' : Nat} {s' : q_S} {wa' : Nat → Nat} {cf' : Nat → Int32} {ct' : Nat → Int32} {rr' : Nat → Nat} {c' : q_C} {wo' : q_W} {o1' : t_B} {u1' : Nat} {o2' : t_B} {u2' : Nat} {kp' : Nat → Nat} {a0' : Nat} {cl' : Nat} {fa' : Nat} {dr' : Nat → Int32} {ti' : Nat → Nat} {ok' : Nat → Nat} {t4' : q_4} {hs' : Nat → Nat} {od' : Nat → Nat} {sh' : Nat → Nat} {t3' : q_3} {co' : Nat} {fo' : Int32} {f' : Nat → Nat} {gg' : Nat → Nat} {lw : Nat → Int32} {n : Nat} {tx : Nat → Nat} {fp : Int32} {b : t_B} {t : Nat} {s : q_S} {wa : Nat → Nat} {cf : Nat → Int32} {ct : Nat → Int32} {rr : Nat → Nat} {c : q_C} {wo : q_W} {o1 : t_B} {u1 : Nat} {o2 : t_B} {u2 : Nat} {kp : Nat → Nat} {ra : Nat} {wd : Nat} {we : Nat} {nu : Int32} {rd : Nat → Int32} {ts : Nat} {oa : Nat → Nat} {ob : Nat → Nat} {f4 : Nat → Nat} {od2 : Nat → Nat} {sh2 : Nat → Nat} {tw : Nat → Nat} {f7 : Nat → Nat} {bc : Nat → Nat} (e : h = q_hc lw' n' tx' fp' b' t' s' wa' cf' ct' rr' c' wo' o1' u1' o2' u2' kp' a0' cl' fa' dr' ti' ok' t4' hs' od' sh' t3' co' fo' f' gg' ++ q_hr lw n tx fp b t s wa cf ct rr c wo o1 u1 o2 u2 kp ra wd we nu rd ts oa ob f4 od2 sh2 tw f7 bc) : h[80]? = some (.inl (2, 2, .inl (fun j => nI (kp j)))) := by
  rw [e]
  rfl
def q_inv (ln : Nat → Nat) (lw : Nat → Int32) (n : Nat) (tx : Nat → Nat) (b : t_B) (t : Nat) (s : q_S) (wa : Nat → Nat) (cf : Nat → Int32) (ct : Nat → Int32) (rr : Nat → Nat) (c : q_C) (wo : q_W) (o1 : t_B) (u1 : Nat) (o2 : t_B) (u2 : Nat) (kp : Nat → Nat) (ti : Nat → Nat) (ok : Nat → Nat) (hs : Nat → Nat) (f : Nat → Nat) (gg : Nat → Nat) (oa : Nat → Nat) (ob : Nat → Nat) (f7 : Nat → Nat) : Prop := q_LW lw ln ∧ (n ≤ 160 ∧ ∀ i, tx i < 256) ∧ (q_BI t b ∧ t ≤ 399) ∧ q_SI s ∧ q_WI wa cf ct ∧ (∀ d, rr d ≤ 1) ∧ q_CI c ∧ q_WOI wo ∧ (q_BI u1 o1 ∧ u1 ≤ 399) ∧ (q_BI u2 o2 ∧ u2 ≤ 399) ∧ (∀ i, kp i ≤ 1) ∧ (∀ i, ti i ≤ 1) ∧ (∀ d, ok d < 256) ∧ (∀ i, hs i ≤ 1) ∧ (∀ i, f i ≤ 1000000) ∧ (∀ i, gg i ≤ 1000000) ∧ (∀ d, oa d ≤ 1) ∧ (∀ d, ob d ≤ 1) ∧ (∀ i, f7 i ≤ 1000000)
/-- both objects say the same -/
def q_I (h : mv_H) : Prop := ∃ (ln : Nat → Nat) (lw : Nat → Int32) (n : Nat) (tx : Nat → Nat) (fp : Int32) (b : t_B) (t : Nat) (s : q_S) (wa : Nat → Nat) (cf : Nat → Int32) (ct : Nat → Int32) (rr : Nat → Nat) (c : q_C) (wo : q_W) (o1 : t_B) (u1 : Nat) (o2 : t_B) (u2 : Nat) (kp : Nat → Nat) (a0 : Nat) (cl : Nat) (fa : Nat) (dr : Nat → Int32) (ti : Nat → Nat) (ok : Nat → Nat) (t4 : q_4) (hs : Nat → Nat) (od : Nat → Nat) (sh : Nat → Nat) (t3 : q_3) (co : Nat) (fo : Int32) (f : Nat → Nat) (gg : Nat → Nat) (ra : Nat) (wd : Nat) (we : Nat) (nu : Int32) (rd : Nat → Int32) (ts : Nat) (oa : Nat → Nat) (ob : Nat → Nat) (f4 : Nat → Nat) (od2 : Nat → Nat) (sh2 : Nat → Nat) (tw : Nat → Nat) (f7 : Nat → Nat) (bc : Nat → Nat), h = q_hc lw n tx fp b t s wa cf ct rr c wo o1 u1 o2 u2 kp a0 cl fa dr ti ok t4 hs od sh t3 co fo f gg ++ q_hr lw n tx fp b t s wa cf ct rr c wo o1 u1 o2 u2 kp ra wd we nu rd ts oa ob f4 od2 sh2 tw f7 bc ∧ q_inv ln lw n tx b t s wa cf ct rr c wo o1 u1 o2 u2 kp ti ok hs f gg oa ob f7
/-- a call of both, answered alike -/
def q_ans (ev : mv_E) (M1 M2 : mv_M) (as : List Value) (h : mv_H) : Prop := ∃ (r : Int32) (h1 h2 : mv_H), mv_K ev M1 (.ref 0 :: as) h (some (.int r)) h1 ∧ mv_K ev M2 (.ref 52 :: as) h1 (some (.int r)) h2 ∧ (∃ fs, h1[52]? = some (.inr (12, fs))) ∧ q_I h2
theorem q_same {ev : mv_E} {M1 M2 : mv_M} {as : List Value} {h : mv_H} {r : Int32} (hI : q_I h) (K1 : mv_K ev M1 (.ref 0 :: as) h (some (.int r)) h) (K2 : mv_K ev M2 (.ref 52 :: as) h (some (.int r)) h) : q_ans ev M1 M2 as h := by
  obtain ⟨ln, lw, n, tx, fp, b, t, s, wa, cf, ct, rr, c, wo, o1, u1, o2, u2, kp, a0, cl, fa, dr, ti, ok, t4, hs, od, sh, t3, co, fo, f, gg, ra, wd, we, nu, rd, ts, oa, ob, f4, od2, sh2, tw, f7, bc, eh, hv⟩ := hI
  exact ⟨r, h, h, K1, K2, ⟨_, q_c52 eh⟩, ⟨ln, lw, n, tx, fp, b, t, s, wa, cf, ct, rr, c, wo, o1, u1, o2, u2, kp, a0, cl, fa, dr, ti, ok, t4, hs, od, sh, t3, co, fo, f, gg, ra, wd, we, nu, rd, ts, oa, ob, f4, od2, sh2, tw, f7, bc, eh, hv⟩⟩
theorem q_I0 {h : mv_H} (hI : q_I h) : ∃ fs, h[0]? = some (.inr (11, fs)) := by
  obtain ⟨ln, lw, n, tx, fp, b, t, s, wa, cf, ct, rr, c, wo, o1, u1, o2, u2, kp, a0, cl, fa, dr, ti, ok, t4, hs, od, sh, t3, co, fo, f, gg, ra, wd, we, nu, rd, ts, oa, ob, f4, od2, sh2, tw, f7, bc, eh, hv⟩ := hI
  exact ⟨_, q_c0 eh⟩
theorem q_afn {d : Nat} {a : Int32} (hd : d ≤ 399) (h : nI d < a ∧ a ≤ nI 399) : ∃ x : Nat, d < x ∧ x ≤ 399 ∧ a = nI x := by
  obtain ⟨x, h1, h2, rfl⟩ := mv_in_n (lo := 0) (hi := 399) (by decide) ⟨Int32.le_trans ((nI_leI (by decide) (by omega)).mpr (Nat.zero_le d)) (Int32.le_of_lt h.1), h.2⟩ (by decide)
  exact ⟨x, (nI_ltI (by omega) (by omega)).mp h.1, h2, rfl⟩
theorem q_ton {a : Nat} {e : Int32} (ha : a ≤ 399) (h : nI a ≤ e ∧ e ≤ nI 399) : ∃ x : Nat, a ≤ x ∧ x ≤ 399 ∧ e = nI x := by
  obtain ⟨x, h1, h2, rfl⟩ := mv_in_n (lo := 0) (hi := 399) (by decide) ⟨Int32.le_trans ((nI_leI (by decide) (by omega)).mpr (Nat.zero_le a)) h.1, h.2⟩ (by decide)
  exact ⟨x, (nI_leI (by omega) (by omega)).mp h.1, h2, rfl⟩
theorem q_hsn {n N : Nat} {k : Int32} (hn : n < 1000) (h : 0 ≤ k ∧ k < nI n ∧ k < nI N) : ∃ x : Nat, x < n ∧ k = nI x := by
  obtain ⟨x, hx, rfl⟩ := nI_of (Int32.not_lt.mpr h.1)
  exact ⟨x, (nI_ltI hx (by omega)).mp h.2.1, rfl⟩
theorem q_v31 {v : Int32} (h : 0 ≤ v) : ∃ x : Nat, x < 2147483648 ∧ v = nI x := by
  obtain ⟨x, hx, rfl⟩ := nI_of (Int32.not_lt.mpr h)
  exact ⟨x, hx, rfl⟩
set_option maxRecDepth 100000 in
theorem s_told {ev : mv_E} {h : mv_H} (hI : q_I h) (m : Int32) : q_ans ev mX11_told mX12_told [.int m] h := by
  have hJ := hI
  obtain ⟨ln, lw, n, tx, fp, b, t, s, wa, cf, ct, rr, c, wo, o1, u1, o2, u2, kp, a0, cl, fa, dr, ti, ok, t4, hs, od, sh, t3, co, fo, f, gg, ra, wd, we, nu, rd, ts, oa, ob, f4, od2, sh2, tw, f7, bc, eh, ⟨hw, ⟨hn, htx⟩, ⟨hb, ht⟩, hsi, hwi, hr, hci, hwo, ⟨hb1, hu1⟩, ⟨hb2, hu2⟩, hkp, hti, hok, hh, hf, hg, ho, hob, hf7⟩⟩ := hI
  have hbn := hb.1
  have hsn := hsi.1
  have hcn := hci.1
  have hwn := hwo.1
  have hl1 := hw.2.2.1
  by_cases g1 : (nI 0 ≤ m ∧ m ≤ nI 7)
  rotate_left
  · exact q_same hJ (k_X11_told_R1 (ev := ev) g1) (k_X12_told_R1 (ev := ev) g1)
  have g1_0 := g1
  obtain ⟨m, m1, m2, rfl⟩ := mv_in_n (by decide) g1_0 (by decide)
  exact q_same hJ (k_X11_told_G (ev := ev) (q_c0 eh) (q_c1 eh) (q_c2 eh) (by omega)) (k_X12_told_G (ev := ev) (q_c52 eh) (q_c53 eh) (by omega))
set_option maxRecDepth 100000 in
theorem s_fault {ev : mv_E} {h : mv_H} (hI : q_I h)  : q_ans ev mX11_fault mX12_fault [] h := by
  have hJ := hI
  obtain ⟨ln, lw, n, tx, fp, b, t, s, wa, cf, ct, rr, c, wo, o1, u1, o2, u2, kp, a0, cl, fa, dr, ti, ok, t4, hs, od, sh, t3, co, fo, f, gg, ra, wd, we, nu, rd, ts, oa, ob, f4, od2, sh2, tw, f7, bc, eh, ⟨hw, ⟨hn, htx⟩, ⟨hb, ht⟩, hsi, hwi, hr, hci, hwo, ⟨hb1, hu1⟩, ⟨hb2, hu2⟩, hkp, hti, hok, hh, hf, hg, ho, hob, hf7⟩⟩ := hI
  have hbn := hb.1
  have hsn := hsi.1
  have hcn := hci.1
  have hwn := hwo.1
  have hl1 := hw.2.2.1
  exact q_same hJ (k_X11_fault_G (ev := ev) (q_c0 eh) (q_c3 eh)) (k_X12_fault_G (ev := ev) (q_c52 eh))
set_option maxRecDepth 100000 in
theorem s_cells {ev : mv_E} {h : mv_H} (hI : q_I h) (p : Int32) (m : Int32) : q_ans ev mX11_cells mX12_cells [.int p, .int m] h := by
  have hJ := hI
  obtain ⟨ln, lw, n, tx, fp, b, t, s, wa, cf, ct, rr, c, wo, o1, u1, o2, u2, kp, a0, cl, fa, dr, ti, ok, t4, hs, od, sh, t3, co, fo, f, gg, ra, wd, we, nu, rd, ts, oa, ob, f4, od2, sh2, tw, f7, bc, eh, ⟨hw, ⟨hn, htx⟩, ⟨hb, ht⟩, hsi, hwi, hr, hci, hwo, ⟨hb1, hu1⟩, ⟨hb2, hu2⟩, hkp, hti, hok, hh, hf, hg, ho, hob, hf7⟩⟩ := hI
  have hbn := hb.1
  have hsn := hsi.1
  have hcn := hci.1
  have hwn := hwo.1
  have hl1 := hw.2.2.1
  by_cases g1 : (nI 0 ≤ p ∧ p ≤ nI 63)
  rotate_left
  · exact q_same hJ (k_X11_cells_R1 (ev := ev) g1) (k_X12_cells_R1 (ev := ev) g1)
  have g1_0 := g1
  obtain ⟨p, p1, p2, rfl⟩ := mv_in_n (by decide) g1_0 (by decide)
  by_cases g2 : (nI 0 ≤ m ∧ m ≤ nI 7)
  rotate_left
  · exact q_same hJ (k_X11_cells_R2 (ev := ev) (by omega) g2) (k_X12_cells_R2 (ev := ev) (by omega) g2)
  have g2_0 := g2
  obtain ⟨m, m1, m2, rfl⟩ := mv_in_n (by decide) g2_0 (by decide)
  exact q_same hJ (k_X11_cells_G (ev := ev) (by omega) (by omega)) (k_X12_cells_G (ev := ev) (by omega) (by omega))
set_option maxRecDepth 100000 in
theorem s_greater {ev : mv_E} {h : mv_H} (hI : q_I h) (x : Int32) : q_ans ev mX11_greater mX12_greater [.int x] h := by
  have hJ := hI
  obtain ⟨ln, lw, n, tx, fp, b, t, s, wa, cf, ct, rr, c, wo, o1, u1, o2, u2, kp, a0, cl, fa, dr, ti, ok, t4, hs, od, sh, t3, co, fo, f, gg, ra, wd, we, nu, rd, ts, oa, ob, f4, od2, sh2, tw, f7, bc, eh, ⟨hw, ⟨hn, htx⟩, ⟨hb, ht⟩, hsi, hwi, hr, hci, hwo, ⟨hb1, hu1⟩, ⟨hb2, hu2⟩, hkp, hti, hok, hh, hf, hg, ho, hob, hf7⟩⟩ := hI
  have hbn := hb.1
  have hsn := hsi.1
  have hcn := hci.1
  have hwn := hwo.1
  have hl1 := hw.2.2.1
  by_cases g1 : (nI 1 ≤ x ∧ x ≤ nI 9)
  rotate_left
  · exact q_same hJ (k_X11_greater_R1 (ev := ev) g1) (k_X12_greater_R1 (ev := ev) g1)
  have g1_0 := g1
  obtain ⟨x, x1, x2, rfl⟩ := mv_in_n (by decide) g1_0 (by decide)
  exact q_same hJ (k_X11_greater_G (ev := ev) (q_c0 eh) (q_c1 eh) (q_c2 eh) (hw.1 1 (by decide) (by decide)) (by omega) (by omega) (by omega)) (k_X12_greater_G (ev := ev) (q_c52 eh) (q_c53 eh) (hw.1 1 (by decide) (by decide)) (by omega) (by omega) (by omega))
set_option maxRecDepth 100000 in
theorem s_about {ev : mv_E} {h : mv_H} (hI : q_I h) (k : Int32) (w : Int32) : q_ans ev mX11_about mX12_about [.int k, .int w] h := by
  have hJ := hI
  obtain ⟨ln, lw, n, tx, fp, b, t, s, wa, cf, ct, rr, c, wo, o1, u1, o2, u2, kp, a0, cl, fa, dr, ti, ok, t4, hs, od, sh, t3, co, fo, f, gg, ra, wd, we, nu, rd, ts, oa, ob, f4, od2, sh2, tw, f7, bc, eh, ⟨hw, ⟨hn, htx⟩, ⟨hb, ht⟩, hsi, hwi, hr, hci, hwo, ⟨hb1, hu1⟩, ⟨hb2, hu2⟩, hkp, hti, hok, hh, hf, hg, ho, hob, hf7⟩⟩ := hI
  have hbn := hb.1
  have hsn := hsi.1
  have hcn := hci.1
  have hwn := hwo.1
  have hl1 := hw.2.2.1
  by_cases g1 : (0 ≤ k ∧ k < nI b.1 ∧ k < nI 60)
  rotate_left
  · exact q_same hJ (k_X11_about_R1 (ev := ev) (q_c0 eh) (q_c7 eh) g1) (k_X12_about_R1 (ev := ev) (q_c52 eh) (by omega) g1)
  have g1_0 := g1
  obtain ⟨k, k1, rfl⟩ := q_hsn (by omega) g1_0
  exact q_same hJ (k_X11_about_G (ev := ev) (q_c0 eh) (q_c7 eh) (q_c8 eh) (q_c9 eh) (q_c10 eh) (by omega) (by omega)) (k_X12_about_G (ev := ev) (q_c52 eh) (q_c56 eh) (q_c57 eh) (q_c58 eh) (by omega) (by omega))
set_option maxRecDepth 100000 in
theorem s_count {ev : mv_E} {h : mv_H} (hI : q_I h) (w : Int32) : q_ans ev mX11_count mX12_count [.int w] h := by
  have hJ := hI
  obtain ⟨ln, lw, n, tx, fp, b, t, s, wa, cf, ct, rr, c, wo, o1, u1, o2, u2, kp, a0, cl, fa, dr, ti, ok, t4, hs, od, sh, t3, co, fo, f, gg, ra, wd, we, nu, rd, ts, oa, ob, f4, od2, sh2, tw, f7, bc, eh, ⟨hw, ⟨hn, htx⟩, ⟨hb, ht⟩, hsi, hwi, hr, hci, hwo, ⟨hb1, hu1⟩, ⟨hb2, hu2⟩, hkp, hti, hok, hh, hf, hg, ho, hob, hf7⟩⟩ := hI
  have hbn := hb.1
  have hsn := hsi.1
  have hcn := hci.1
  have hwn := hwo.1
  have hl1 := hw.2.2.1
  exact q_same hJ (k_X11_count_G (ev := ev) (q_c0 eh) (q_c3 eh) (q_c7 eh) (q_c22 eh) (q_c34 eh) (q_c48 eh)) (k_X12_count_G (ev := ev) (q_c52 eh) (q_c62 eh) hr)
set_option maxRecDepth 100000 in
theorem s_odds {ev : mv_E} {h : mv_H} (hI : q_I h) (d : Int32) (p : Int32) (m : Int32) (x : Int32) (a : Int32) (e : Int32) : q_ans ev mX11_odds mX12_odds [.int d, .int p, .int m, .int x, .int a, .int e] h := by
  have hJ := hI
  obtain ⟨ln, lw, n, tx, fp, b, t, s, wa, cf, ct, rr, c, wo, o1, u1, o2, u2, kp, a0, cl, fa, dr, ti, ok, t4, hs, od, sh, t3, co, fo, f, gg, ra, wd, we, nu, rd, ts, oa, ob, f4, od2, sh2, tw, f7, bc, eh, ⟨hw, ⟨hn, htx⟩, ⟨hb, ht⟩, hsi, hwi, hr, hci, hwo, ⟨hb1, hu1⟩, ⟨hb2, hu2⟩, hkp, hti, hok, hh, hf, hg, ho, hob, hf7⟩⟩ := hI
  have hbn := hb.1
  have hsn := hsi.1
  have hcn := hci.1
  have hwn := hwo.1
  have hl1 := hw.2.2.1
  by_cases g1 : (nI 0 ≤ p ∧ p ≤ nI 63)
  rotate_left
  · exact q_same hJ (k_X11_odds_R1 (ev := ev) g1) (k_X12_odds_R1 (ev := ev) g1)
  have g1_0 := g1
  obtain ⟨p, p1, p2, rfl⟩ := mv_in_n (by decide) g1_0 (by decide)
  by_cases g2 : (nI 0 ≤ d ∧ d ≤ nI 399) ∧ (nI 0 ≤ m ∧ m ≤ nI 7) ∧ (nI 1 ≤ x ∧ x ≤ nI 9) ∧ (d < a ∧ a ≤ nI 399) ∧ (a ≤ e ∧ e ≤ nI 399)
  rotate_left
  · exact q_same hJ (k_X11_odds_R2 (ev := ev) (by omega) g2) (k_X12_odds_R2 (ev := ev) (by omega) g2)
  obtain ⟨g2_0, g2_1, g2_2, g2_3, g2_4⟩ := g2
  obtain ⟨d, d1, d2, rfl⟩ := mv_in_n (by decide) g2_0 (by decide)
  obtain ⟨m, m1, m2, rfl⟩ := mv_in_n (by decide) g2_1 (by decide)
  obtain ⟨x, x1, x2, rfl⟩ := mv_in_n (by decide) g2_2 (by decide)
  obtain ⟨a, a1, a2, rfl⟩ := q_afn (by omega) g2_3
  obtain ⟨e, e1, e2, rfl⟩ := q_ton (by omega) g2_4
  exact q_same hJ (k_X11_odds_G (ev := ev) (q_c0 eh) (q_c21 eh) (q_c1 eh) (q_c2 eh) (q_c7 eh) (q_c8 eh) (q_c9 eh) (q_c10 eh) hw hb (by omega) (by omega) (by omega) (by omega) (by omega) (by omega) (by omega)) (k_X12_odds_G (ev := ev) (q_c52 eh) (q_c56 eh) (q_c57 eh) (q_c58 eh) (q_c53 eh) hw hb (by omega) (by omega) (by omega) (by omega) (by omega) (by omega) (by omega))
set_option maxRecDepth 100000 in
theorem s_omen {ev : mv_E} {h : mv_H} (hI : q_I h) (k : Int32) (w : Int32) : q_ans ev mX11_omen mX12_omen [.int k, .int w] h := by
  have hJ := hI
  obtain ⟨ln, lw, n, tx, fp, b, t, s, wa, cf, ct, rr, c, wo, o1, u1, o2, u2, kp, a0, cl, fa, dr, ti, ok, t4, hs, od, sh, t3, co, fo, f, gg, ra, wd, we, nu, rd, ts, oa, ob, f4, od2, sh2, tw, f7, bc, eh, ⟨hw, ⟨hn, htx⟩, ⟨hb, ht⟩, hsi, hwi, hr, hci, hwo, ⟨hb1, hu1⟩, ⟨hb2, hu2⟩, hkp, hti, hok, hh, hf, hg, ho, hob, hf7⟩⟩ := hI
  have hbn := hb.1
  have hsn := hsi.1
  have hcn := hci.1
  have hwn := hwo.1
  have hl1 := hw.2.2.1
  by_cases g1 : (0 ≤ k ∧ k < nI s.1 ∧ k < nI 100)
  rotate_left
  · exact q_same hJ (k_X11_omen_R1 (ev := ev) (q_c0 eh) (q_c22 eh) g1) (k_X12_omen_R1 (ev := ev) (q_c52 eh) (by omega) g1)
  have g1_0 := g1
  obtain ⟨k, k1, rfl⟩ := q_hsn (by omega) g1_0
  exact q_same hJ (k_X11_omen_G (ev := ev) (q_c0 eh) (q_c1 eh) (q_c2 eh) (q_c22 eh) (q_c23 eh) (q_c24 eh) (q_c25 eh) (q_c26 eh) (q_c27 eh) (q_c28 eh) (q_c29 eh) (q_c30 eh) hw hsi hr hwi (by omega)) (k_X12_omen_G (ev := ev) (q_c52 eh) (q_c59 eh) (q_c60 eh) (q_c61 eh) (q_c62 eh) (q_c63 eh) (q_c64 eh) (q_c65 eh) (q_c66 eh) (q_c53 eh) hw hsi hr hwi (by omega))
set_option maxRecDepth 100000 in
theorem s_window {ev : mv_E} {h : mv_H} (hI : q_I h) (k : Int32) (w : Int32) (m : Int32) (set : Int32) : q_ans ev mX11_window mX12_window [.int k, .int w, .int m, .int set] h := by
  have hJ := hI
  obtain ⟨ln, lw, n, tx, fp, b, t, s, wa, cf, ct, rr, c, wo, o1, u1, o2, u2, kp, a0, cl, fa, dr, ti, ok, t4, hs, od, sh, t3, co, fo, f, gg, ra, wd, we, nu, rd, ts, oa, ob, f4, od2, sh2, tw, f7, bc, eh, ⟨hw, ⟨hn, htx⟩, ⟨hb, ht⟩, hsi, hwi, hr, hci, hwo, ⟨hb1, hu1⟩, ⟨hb2, hu2⟩, hkp, hti, hok, hh, hf, hg, ho, hob, hf7⟩⟩ := hI
  have hbn := hb.1
  have hsn := hsi.1
  have hcn := hci.1
  have hwn := hwo.1
  have hl1 := hw.2.2.1
  by_cases g1 : (0 ≤ k ∧ k < nI b.1 ∧ k < nI 60)
  rotate_left
  · exact q_same hJ (k_X11_window_R1 (ev := ev) (q_c0 eh) (q_c7 eh) g1) (k_X12_window_R1 (ev := ev) (q_c52 eh) (by omega) g1)
  have g1_0 := g1
  obtain ⟨k, k1, rfl⟩ := q_hsn (by omega) g1_0
  by_cases g2 : (nI 1 ≤ w ∧ w ≤ nI 60) ∧ (nI 0 ≤ m ∧ m ≤ nI 7) ∧ (nI 0 ≤ set ∧ set ≤ nI 255)
  rotate_left
  · exact q_same hJ (k_X11_window_R2 (ev := ev) (q_c0 eh) (q_c7 eh) (by omega) (by omega) g2) (k_X12_window_R2 (ev := ev) (q_c52 eh) (by omega) (by omega) g2)
  obtain ⟨g2_0, g2_1, g2_2⟩ := g2
  obtain ⟨w, w1, w2, rfl⟩ := mv_in_n (by decide) g2_0 (by decide)
  obtain ⟨m, m1, m2, rfl⟩ := mv_in_n (by decide) g2_1 (by decide)
  obtain ⟨set, set1, set2, rfl⟩ := mv_in_n (by decide) g2_2 (by decide)
  exact q_same hJ (k_X11_window_G (ev := ev) (q_c0 eh) (q_c7 eh) (q_c8 eh) (q_c9 eh) (q_c10 eh) (q_c22 eh) (q_c23 eh) (q_c24 eh) (q_c25 eh) (by omega) hb hsi (by omega) (by omega) (by omega) (by omega)) (k_X12_window_G (ev := ev) (q_c52 eh) (q_c63 eh) (q_c64 eh) (q_c65 eh) (q_c56 eh) (q_c57 eh) (by omega) hb hsi (by omega) (by omega) (by omega) (by omega))
set_option maxRecDepth 100000 in
theorem s_score {ev : mv_E} {h : mv_H} (hI : q_I h) (k : Int32) (w : Int32) : q_ans ev mX11_score mX12_score [.int k, .int w] h := by
  have hJ := hI
  obtain ⟨ln, lw, n, tx, fp, b, t, s, wa, cf, ct, rr, c, wo, o1, u1, o2, u2, kp, a0, cl, fa, dr, ti, ok, t4, hs, od, sh, t3, co, fo, f, gg, ra, wd, we, nu, rd, ts, oa, ob, f4, od2, sh2, tw, f7, bc, eh, ⟨hw, ⟨hn, htx⟩, ⟨hb, ht⟩, hsi, hwi, hr, hci, hwo, ⟨hb1, hu1⟩, ⟨hb2, hu2⟩, hkp, hti, hok, hh, hf, hg, ho, hob, hf7⟩⟩ := hI
  have hbn := hb.1
  have hsn := hsi.1
  have hcn := hci.1
  have hwn := hwo.1
  have hl1 := hw.2.2.1
  by_cases g1 : (0 ≤ k ∧ k < nI c.1 ∧ k < nI 12)
  rotate_left
  · exact q_same hJ (k_X11_score_R1 (ev := ev) (q_c0 eh) (q_c34 eh) g1) (k_X12_score_R1 (ev := ev) (q_c52 eh) (by omega) g1)
  have g1_0 := g1
  obtain ⟨k, k1, rfl⟩ := q_hsn (by omega) g1_0
  exact q_same hJ (k_X11_score_G (ev := ev) (q_c0 eh) (q_c34 eh) (q_c35 eh) (q_c36 eh) (q_c37 eh) (q_c38 eh) (q_c39 eh) (q_c40 eh) (q_c41 eh) (q_c21 eh) (q_c1 eh) (q_c2 eh) (q_c7 eh) (q_c8 eh) (q_c9 eh) (q_c10 eh) hci (by omega) hw hb) (k_X12_score_G (ev := ev) (q_c52 eh) (q_c56 eh) (q_c57 eh) (q_c58 eh) (q_c53 eh) (q_c70 eh) hci (by omega) hw hb)
set_option maxRecDepth 100000 in
theorem s_scores {ev : mv_E} {h : mv_H} (hI : q_I h)  : q_ans ev mX11_scores mX12_scores [] h := by
  have hJ := hI
  obtain ⟨ln, lw, n, tx, fp, b, t, s, wa, cf, ct, rr, c, wo, o1, u1, o2, u2, kp, a0, cl, fa, dr, ti, ok, t4, hs, od, sh, t3, co, fo, f, gg, ra, wd, we, nu, rd, ts, oa, ob, f4, od2, sh2, tw, f7, bc, eh, ⟨hw, ⟨hn, htx⟩, ⟨hb, ht⟩, hsi, hwi, hr, hci, hwo, ⟨hb1, hu1⟩, ⟨hb2, hu2⟩, hkp, hti, hok, hh, hf, hg, ho, hob, hf7⟩⟩ := hI
  have hbn := hb.1
  have hsn := hsi.1
  have hcn := hci.1
  have hwn := hwo.1
  have hl1 := hw.2.2.1
  exact q_same hJ (k_X11_scores_G (ev := ev) (q_c0 eh) (q_c34 eh) (q_c35 eh) (q_c36 eh) (q_c37 eh) (q_c38 eh) (q_c39 eh) (q_c40 eh) (q_c41 eh) (q_c21 eh) (q_c1 eh) (q_c2 eh) (q_c7 eh) (q_c8 eh) (q_c9 eh) (q_c10 eh) hci hw hb) (k_X12_scores_G (ev := ev) (q_c52 eh) (q_c56 eh) (q_c57 eh) (q_c58 eh) (q_c53 eh) (q_c70 eh) hci hw hb)
theorem q_ra_o {lw : Nat → Int32} {ln : Nat → Nat} {s : q_S} {wa : Nat → Nat} {cf ct : Nat → Int32} {rr ok ok2 : Nat → Nat} (k : Nat) : q_ra (q_oks lw ln s wa cf ct rr ok) cf ct k = q_ra (q_oks lw ln s wa cf ct rr ok2) cf ct k := by
  unfold q_ra
  rw [q_on_o (ok2 := ok2) k]
theorem q_ch_o {ra1 ra2 : Nat → Nat} {w set : Nat} (h : ∀ k, ra1 k = ra2 k) : q_ch ra1 w set 8 0 1000000 = q_ch ra2 w set 8 0 1000000 := by
  rw [show ra1 = ra2 from funext h]
set_option maxRecDepth 100000 in
theorem s_rate {ev : mv_E} {h : mv_H} (hI : q_I h) (k : Int32) (w : Int32) : q_ans ev mX11_rate mX12_rate [.int k, .int w] h := by
  have hJ := hI
  obtain ⟨ln, lw, n, tx, fp, b, t, s, wa, cf, ct, rr, c, wo, o1, u1, o2, u2, kp, a0, cl, fa, dr, ti, ok, t4, hs, od, sh, t3, co, fo, f, gg, ra, wd, we, nu, rd, ts, oa, ob, f4, od2, sh2, tw, f7, bc, eh, ⟨hw, ⟨hn, htx⟩, ⟨hb, ht⟩, hsi, hwi, hr, hci, hwo, ⟨hb1, hu1⟩, ⟨hb2, hu2⟩, hkp, hti, hok, hh, hf, hg, ho, hob, hf7⟩⟩ := hI
  have hbn := hb.1
  have hsn := hsi.1
  have hcn := hci.1
  have hwn := hwo.1
  have hl1 := hw.2.2.1
  by_cases g1 : (nI 0 ≤ k ∧ k ≤ nI 7)
  rotate_left
  · exact q_same hJ (k_X11_rate_R1 (ev := ev) g1) (k_X12_rate_R1 (ev := ev) g1)
  have g1_0 := g1
  obtain ⟨k, k1, k2, rfl⟩ := mv_in_n (by decide) g1_0 (by decide)
  by_cases g2 : (nI 0 ≤ w ∧ w ≤ nI 2)
  rotate_left
  · exact q_same hJ (k_X11_rate_R2 (ev := ev) (by omega) g2) (k_X12_rate_R2 (ev := ev) (by omega) g2)
  have g2_0 := g2
  obtain ⟨w, w1, w2, rfl⟩ := mv_in_n (by decide) g2_0 (by decide)
  have ew : w = 0 ∨ w = 1 ∨ w = 2 := by omega
  rcases ew with rfl | rfl | rfl
  · by_cases g3 : cf k ≠ -1
    rotate_left
    · exact q_same hJ (k_X11_rate_R3 (ev := ev) (q_c0 eh) (q_c22 eh) (q_c28 eh) (by omega) g3) (k_X12_rate_R3 (ev := ev) (q_c52 eh) (q_c60 eh) (q_c61 eh) (by omega) hwi g3)
    obtain ⟨h1, K1, fr1, y0⟩ := (k_X11_rate_G0 (ev := ev) (q_c0 eh) (q_c1 eh) (q_c2 eh) (q_c22 eh) (q_c23 eh) (q_c24 eh) (q_c25 eh) (q_c26 eh) (q_c27 eh) (q_c28 eh) (q_c29 eh) (q_c30 eh) (q_c31 eh) hw hsi hr hwi hok (by omega) g3)
    have e1 : h1 = q_hc lw n tx fp b t s wa cf ct rr c wo o1 u1 o2 u2 kp a0 cl fa dr ti (q_oks lw ln s wa cf ct rr ok) t4 hs od sh t3 co fo f gg ++ q_hr lw n tx fp b t s wa cf ct rr c wo o1 u1 o2 u2 kp ra wd we nu rd ts oa ob f4 od2 sh2 tw f7 bc := (q_up1 fr1 y0).trans (by rw [eh]; rfl)
    obtain ⟨h2, K2, fr2, z0⟩ := (k_X12_rate_G0 (ev := ev) (q_c52 e1) (q_c59 e1) (q_c60 e1) (q_c61 e1) (q_c62 e1) (q_c63 e1) (q_c64 e1) (q_c65 e1) (q_c66 e1) (q_c53 e1) (q_c67 e1) hw hsi hr hwi ho (by omega) g3)
    rw [q_ra_o (ok2 := ok) k] at K2
    have e2 : h2 = q_hc lw n tx fp b t s wa cf ct rr c wo o1 u1 o2 u2 kp a0 cl fa dr ti (q_oks lw ln s wa cf ct rr ok) t4 hs od sh t3 co fo f gg ++ q_hr lw n tx fp b t s wa cf ct rr c wo o1 u1 o2 u2 kp ra wd we nu rd ts (q_fd (q_ev lw ln s wa cf ct rr) s k (q_z oa 400) s.1) ob f4 od2 sh2 tw f7 bc := (q_up1 fr2 z0).trans (by rw [e1]; rfl)
    exact ⟨_, h1, h2, K1, K2, ⟨_, q_c52 e1⟩, ⟨ln, _, _, _, _, _, _, _, _, _, _, _, _, _, _, _, _, _, _, _, _, _, _, _, _, _, _, _, _, _, _, _, _, _, _, _, _, _, _, _, _, _, _, _, _, _, _, _, e2, ⟨hw, ⟨hn, htx⟩, ⟨hb, ht⟩, hsi, hwi, hr, hci, hwo, ⟨hb1, hu1⟩, ⟨hb2, hu2⟩, hkp, hti, (q_oks_lt hsi hok), hh, hf, hg, (q_fd_le (q_z_l1 ho 400) _), hob, hf7⟩⟩⟩
  · skip
    obtain ⟨h1, K1, fr1, y0⟩ := (k_X11_rate_G1 (ev := ev) (k := k) (q_c0 eh) (q_c1 eh) (q_c2 eh) (q_c22 eh) (q_c23 eh) (q_c24 eh) (q_c25 eh) (q_c26 eh) (q_c27 eh) (q_c28 eh) (q_c29 eh) (q_c30 eh) (q_c31 eh) hw hsi hr hwi hok (by omega))
    have e1 : h1 = q_hc lw n tx fp b t s wa cf ct rr c wo o1 u1 o2 u2 kp a0 cl fa dr ti (q_oks lw ln s wa cf ct rr ok) t4 hs od sh t3 co fo f gg ++ q_hr lw n tx fp b t s wa cf ct rr c wo o1 u1 o2 u2 kp ra wd we nu rd ts oa ob f4 od2 sh2 tw f7 bc := (q_up1 fr1 y0).trans (by rw [eh]; rfl)
    obtain ⟨h2, K2, fr2, z0⟩ := (k_X12_rate_G1 (ev := ev) (k := k) (q_c52 e1) (q_c59 e1) (q_c60 e1) (q_c61 e1) (q_c62 e1) (q_c63 e1) (q_c64 e1) (q_c65 e1) (q_c66 e1) (q_c53 e1) (q_c67 e1) hw hsi hr hwi ho (by omega))
    rw [q_on_o (ok2 := ok) k] at K2
    have e2 : h2 = q_hc lw n tx fp b t s wa cf ct rr c wo o1 u1 o2 u2 kp a0 cl fa dr ti (q_oks lw ln s wa cf ct rr ok) t4 hs od sh t3 co fo f gg ++ q_hr lw n tx fp b t s wa cf ct rr c wo o1 u1 o2 u2 kp ra wd we nu rd ts (q_fd (q_ev lw ln s wa cf ct rr) s k (q_z oa 400) s.1) ob f4 od2 sh2 tw f7 bc := (q_up1 fr2 z0).trans (by rw [e1]; rfl)
    exact ⟨_, h1, h2, K1, K2, ⟨_, q_c52 e1⟩, ⟨ln, _, _, _, _, _, _, _, _, _, _, _, _, _, _, _, _, _, _, _, _, _, _, _, _, _, _, _, _, _, _, _, _, _, _, _, _, _, _, _, _, _, _, _, _, _, _, _, e2, ⟨hw, ⟨hn, htx⟩, ⟨hb, ht⟩, hsi, hwi, hr, hci, hwo, ⟨hb1, hu1⟩, ⟨hb2, hu2⟩, hkp, hti, (q_oks_lt hsi hok), hh, hf, hg, (q_fd_le (q_z_l1 ho 400) _), hob, hf7⟩⟩⟩
  · skip
    exact q_same hJ (k_X11_rate_G2 (ev := ev) (q_c0 eh) (q_c22 eh) (q_c28 eh) (q_c29 eh) (by omega) hwi) (k_X12_rate_G2 (ev := ev) (q_c52 eh) (q_c60 eh) (q_c61 eh) (by omega) hwi)
set_option maxRecDepth 100000 in
theorem s_chance {ev : mv_E} {h : mv_H} (hI : q_I h) (w : Int32) (set : Int32) : q_ans ev mX11_chance mX12_chance [.int w, .int set] h := by
  have hJ := hI
  obtain ⟨ln, lw, n, tx, fp, b, t, s, wa, cf, ct, rr, c, wo, o1, u1, o2, u2, kp, a0, cl, fa, dr, ti, ok, t4, hs, od, sh, t3, co, fo, f, gg, ra, wd, we, nu, rd, ts, oa, ob, f4, od2, sh2, tw, f7, bc, eh, ⟨hw, ⟨hn, htx⟩, ⟨hb, ht⟩, hsi, hwi, hr, hci, hwo, ⟨hb1, hu1⟩, ⟨hb2, hu2⟩, hkp, hti, hok, hh, hf, hg, ho, hob, hf7⟩⟩ := hI
  have hbn := hb.1
  have hsn := hsi.1
  have hcn := hci.1
  have hwn := hwo.1
  have hl1 := hw.2.2.1
  by_cases g1 : (nI 1 ≤ w ∧ w ≤ nI 60) ∧ (nI 0 ≤ set ∧ set ≤ nI 255)
  rotate_left
  · exact q_same hJ (k_X11_chance_R1 (ev := ev) g1) (k_X12_chance_R1 (ev := ev) g1)
  obtain ⟨g1_0, g1_1⟩ := g1
  obtain ⟨w, w1, w2, rfl⟩ := mv_in_n (by decide) g1_0 (by decide)
  obtain ⟨set, set1, set2, rfl⟩ := mv_in_n (by decide) g1_1 (by decide)
  by_cases g2 : q_aC cf set
  · skip
    obtain ⟨h1, K1, fr1, y0⟩ := (k_X11_chance_G (ev := ev) (w := w) (set := set) (q_c0 eh) (q_c1 eh) (q_c2 eh) (q_c22 eh) (q_c23 eh) (q_c24 eh) (q_c25 eh) (q_c26 eh) (q_c27 eh) (q_c28 eh) (q_c29 eh) (q_c30 eh) (q_c31 eh) hw hsi hr hwi hok (by omega) (by omega) (by omega) g2)
    have e1 : h1 = q_hc lw n tx fp b t s wa cf ct rr c wo o1 u1 o2 u2 kp a0 cl fa dr ti (q_oks lw ln s wa cf ct rr ok) t4 hs od sh t3 co fo f gg ++ q_hr lw n tx fp b t s wa cf ct rr c wo o1 u1 o2 u2 kp ra wd we nu rd ts oa ob f4 od2 sh2 tw f7 bc := (q_up1 fr1 y0).trans (by rw [eh]; rfl)
    obtain ⟨h2, K2, fr2, z0⟩ := (k_X12_chance_G (ev := ev) (w := w) (set := set) (q_c52 e1) (q_c59 e1) (q_c60 e1) (q_c61 e1) (q_c62 e1) (q_c63 e1) (q_c64 e1) (q_c65 e1) (q_c66 e1) (q_c53 e1) (q_c67 e1) hw hsi hr hwi (by omega) (by omega) (by omega) ho)
    rw [q_xch_1 g2 8 0 1000000 oa (Nat.le_refl _) (Nat.le_refl _), q_ch_o (fun k => q_ra_o (ok2 := ok) k)] at K2
    have e2 : h2 = q_hc lw n tx fp b t s wa cf ct rr c wo o1 u1 o2 u2 kp a0 cl fa dr ti (q_oks lw ln s wa cf ct rr ok) t4 hs od sh t3 co fo f gg ++ q_hr lw n tx fp b t s wa cf ct rr c wo o1 u1 o2 u2 kp ra wd we nu rd ts (q_xch (q_ra (q_oks lw ln s wa cf ct rr (fun _ => 0)) cf ct) (fun k o => q_fd (q_ev lw ln s wa cf ct rr) s k (q_z o 400) s.1) cf w set 8 0 1000000 oa).2 ob f4 od2 sh2 tw f7 bc := (q_up1 fr2 z0).trans (by rw [e1]; rfl)
    exact ⟨_, h1, h2, K1, K2, ⟨_, q_c52 e1⟩, ⟨ln, _, _, _, _, _, _, _, _, _, _, _, _, _, _, _, _, _, _, _, _, _, _, _, _, _, _, _, _, _, _, _, _, _, _, _, _, _, _, _, _, _, _, _, _, _, _, _, e2, ⟨hw, ⟨hn, htx⟩, ⟨hb, ht⟩, hsi, hwi, hr, hci, hwo, ⟨hb1, hu1⟩, ⟨hb2, hu2⟩, hkp, hti, (q_oks_lt hsi hok), hh, hf, hg, (q_xch_2 (fun k o q => q_fd_le (q_z_l1 q 400) _) 8 0 1000000 oa ho), hob, hf7⟩⟩⟩
  · have g3 : ∃ i, 0 ≤ i ∧ i < 0 + 8 ∧ q_bt set i = 1 ∧ cf i = -1 := Classical.byContradiction (fun q => g2 (fun i hi hi2 => fun hi3 => q ⟨i, Nat.zero_le _, by omega, hi2, hi3⟩))
    have K1 := (k_X11_chance_R2 (ev := ev) (q_c0 eh) (q_c22 eh) (q_c28 eh) (by omega) (by omega) (by omega) g2)
    obtain ⟨h2, K2, fr2, z0⟩ := (k_X12_chance_G (ev := ev) (w := w) (set := set) (q_c52 eh) (q_c59 eh) (q_c60 eh) (q_c61 eh) (q_c62 eh) (q_c63 eh) (q_c64 eh) (q_c65 eh) (q_c66 eh) (q_c53 eh) (q_c67 eh) hw hsi hr hwi (by omega) (by omega) (by omega) ho)
    rw [q_xch_0 8 0 1000000 oa g3] at K2
    have e2 : h2 = q_hc lw n tx fp b t s wa cf ct rr c wo o1 u1 o2 u2 kp a0 cl fa dr ti ok t4 hs od sh t3 co fo f gg ++ q_hr lw n tx fp b t s wa cf ct rr c wo o1 u1 o2 u2 kp ra wd we nu rd ts (q_xch (q_ra (q_oks lw ln s wa cf ct rr (fun _ => 0)) cf ct) (fun k o => q_fd (q_ev lw ln s wa cf ct rr) s k (q_z o 400) s.1) cf w set 8 0 1000000 oa).2 ob f4 od2 sh2 tw f7 bc := (q_up1 fr2 z0).trans (by rw [eh]; rfl)
    exact ⟨_, h, h2, K1, K2, ⟨_, q_c52 eh⟩, ⟨ln, _, _, _, _, _, _, _, _, _, _, _, _, _, _, _, _, _, _, _, _, _, _, _, _, _, _, _, _, _, _, _, _, _, _, _, _, _, _, _, _, _, _, _, _, _, _, _, e2, ⟨hw, ⟨hn, htx⟩, ⟨hb, ht⟩, hsi, hwi, hr, hci, hwo, ⟨hb1, hu1⟩, ⟨hb2, hu2⟩, hkp, hti, hok, hh, hf, hg, (q_xch_2 (fun k o q => q_fd_le (q_z_l1 q 400) _) 8 0 1000000 oa ho), hob, hf7⟩⟩⟩
set_option maxRecDepth 100000 in
theorem s_table {ev : mv_E} {h : mv_H} (hI : q_I h) (k : Int32) (w : Int32) (m : Int32) (x : Int32) (i : Int32) : q_ans ev mX11_table mX12_table [.int k, .int w, .int m, .int x, .int i] h := by
  have hJ := hI
  obtain ⟨ln, lw, n, tx, fp, b, t, s, wa, cf, ct, rr, c, wo, o1, u1, o2, u2, kp, a0, cl, fa, dr, ti, ok, t4, hs, od, sh, t3, co, fo, f, gg, ra, wd, we, nu, rd, ts, oa, ob, f4, od2, sh2, tw, f7, bc, eh, ⟨hw, ⟨hn, htx⟩, ⟨hb, ht⟩, hsi, hwi, hr, hci, hwo, ⟨hb1, hu1⟩, ⟨hb2, hu2⟩, hkp, hti, hok, hh, hf, hg, ho, hob, hf7⟩⟩ := hI
  have hbn := hb.1
  have hsn := hsi.1
  have hcn := hci.1
  have hwn := hwo.1
  have hl1 := hw.2.2.1
  by_cases g1 : (nI 0 ≤ k ∧ k ≤ nI 7)
  rotate_left
  · exact q_same hJ (k_X11_table_R1 (ev := ev) g1) (k_X12_table_R1 (ev := ev) g1)
  have g1_0 := g1
  obtain ⟨k, k1, k2, rfl⟩ := mv_in_n (by decide) g1_0 (by decide)
  by_cases g2 : (nI 1 ≤ w ∧ w ≤ nI 60) ∧ (nI 0 ≤ m ∧ m ≤ nI 7) ∧ (nI 1 ≤ x ∧ x ≤ nI 9) ∧ (nI 0 ≤ i ∧ i ≤ nI 4)
  rotate_left
  · exact q_same hJ (k_X11_table_R2 (ev := ev) (by omega) g2) (k_X12_table_R2 (ev := ev) (by omega) g2)
  obtain ⟨g2_0, g2_1, g2_2, g2_3⟩ := g2
  obtain ⟨w, w1, w2, rfl⟩ := mv_in_n (by decide) g2_0 (by decide)
  obtain ⟨m, m1, m2, rfl⟩ := mv_in_n (by decide) g2_1 (by decide)
  obtain ⟨x, x1, x2, rfl⟩ := mv_in_n (by decide) g2_2 (by decide)
  obtain ⟨i, i1, i2, rfl⟩ := mv_in_n (by decide) g2_3 (by decide)
  by_cases g3 : w < q_cd cf ct k
  rotate_left
  · exact q_same hJ (k_X11_table_R3 (ev := ev) (q_c0 eh) (q_c22 eh) (q_c28 eh) (q_c29 eh) (by omega) (by omega) (by omega) (by omega) (by omega) (by omega) (by omega) hwi g3) (k_X12_table_R3 (ev := ev) (q_c52 eh) (q_c60 eh) (q_c61 eh) (by omega) (by omega) (by omega) (by omega) (by omega) (by omega) (by omega) hwi g3)
  obtain ⟨a1, c1, q1, q2, q3, q4, q5⟩ := q_cd_ac hwi g3
  by_cases q6 : i = 4
  · subst q6
    obtain ⟨h1, K1, fr1, y0, y1, y2⟩ := (k_X11_table_G4 (ev := ev) (k := k) (w := w) (m := m) (x := x) (q_c0 eh) (q_c1 eh) (q_c2 eh) (q_c22 eh) (q_c23 eh) (q_c24 eh) (q_c25 eh) (q_c26 eh) (q_c27 eh) (q_c28 eh) (q_c29 eh) (q_c30 eh) (q_c31 eh) (q_c7 eh) (q_c8 eh) (q_c9 eh) (q_c10 eh) (q_c32 eh) (q_c33 eh) hw hsi hr hwi hok (by omega) (by omega) (by omega) (by omega) (by omega) (by omega) hh hb g3 q1 q2 (by omega) (by omega))
    have e1 : h1 = q_hc lw n tx fp b t s wa cf ct rr c wo o1 u1 o2 u2 kp a0 cl fa dr ti (q_oks lw ln s wa cf ct rr ok) (q_tb (q_oks lw ln s wa cf ct rr ok) (q_fm b (wa k) m x w (q_z hs 400) b.1) k a1 (c1 - w + 1 - a1)) (q_fm b (wa k) m x w (q_z hs 400) b.1) od sh t3 co fo f gg ++ q_hr lw n tx fp b t s wa cf ct rr c wo o1 u1 o2 u2 kp ra wd we nu rd ts oa ob f4 od2 sh2 tw f7 bc := (q_up3 fr1 y0 y1 y2).trans (by rw [eh]; rfl)
    obtain ⟨h2, K2, fr2, z0, z1⟩ := (k_X12_table_G4 (ev := ev) (ok := ok) (hs := hs) (k := k) (w := w) (m := m) (x := x) (q_c52 e1) (q_c59 e1) (q_c60 e1) (q_c61 e1) (q_c62 e1) (q_c63 e1) (q_c64 e1) (q_c65 e1) (q_c66 e1) (q_c56 e1) (q_c57 e1) (q_c58 e1) (q_c53 e1) (q_c67 e1) (q_c69 e1) hw hsi hr hwi (by omega) (by omega) (by omega) (by omega) (by omega) (by omega) ho hh hb g3 q1 q2 (by omega) (by omega))
    have e2 : h2 = q_hc lw n tx fp b t s wa cf ct rr c wo o1 u1 o2 u2 kp a0 cl fa dr ti (q_oks lw ln s wa cf ct rr ok) (q_tb (q_oks lw ln s wa cf ct rr ok) (q_fm b (wa k) m x w (q_z hs 400) b.1) k a1 (c1 - w + 1 - a1)) (q_fm b (wa k) m x w (q_z hs 400) b.1) od sh t3 co fo f gg ++ q_hr lw n tx fp b t s wa cf ct rr c wo o1 u1 o2 u2 kp ra wd we nu rd ts (q_fd (q_ev lw ln s wa cf ct rr) s k (q_z oa 400) s.1) ob (q_4f (q_tb (q_oks lw ln s wa cf ct rr ok) (q_fm b (wa k) m x w (q_z hs 400) b.1) k a1 (c1 - w + 1 - a1)) (q_z f4 4)) od2 sh2 tw f7 bc := (q_up2 fr2 z0 z1).trans (by rw [e1]; rfl)
    exact ⟨_, h1, h2, K1, K2, ⟨_, q_c52 e1⟩, ⟨ln, _, _, _, _, _, _, _, _, _, _, _, _, _, _, _, _, _, _, _, _, _, _, _, _, _, _, _, _, _, _, _, _, _, _, _, _, _, _, _, _, _, _, _, _, _, _, _, e2, ⟨hw, ⟨hn, htx⟩, ⟨hb, ht⟩, hsi, hwi, hr, hci, hwo, ⟨hb1, hu1⟩, ⟨hb2, hu2⟩, hkp, hti, (q_oks_lt hsi hok), (q_fm_le (q_z_l1 hh 400) b.1), hf, hg, (q_fd_le (q_z_l1 ho 400) _), hob, hf7⟩⟩⟩
  · skip
    obtain ⟨h1, K1, fr1, y0, y1, y2⟩ := (k_X11_table_G (ev := ev) (k := k) (w := w) (m := m) (x := x) (i := i) (q_c0 eh) (q_c1 eh) (q_c2 eh) (q_c22 eh) (q_c23 eh) (q_c24 eh) (q_c25 eh) (q_c26 eh) (q_c27 eh) (q_c28 eh) (q_c29 eh) (q_c30 eh) (q_c31 eh) (q_c7 eh) (q_c8 eh) (q_c9 eh) (q_c10 eh) (q_c32 eh) (q_c33 eh) hw hsi hr hwi hok (by omega) (by omega) (by omega) (by omega) (by omega) (by omega) hh hb g3 q1 q2 (by omega) (by omega) (by omega))
    have e1 : h1 = q_hc lw n tx fp b t s wa cf ct rr c wo o1 u1 o2 u2 kp a0 cl fa dr ti (q_oks lw ln s wa cf ct rr ok) (q_tb (q_oks lw ln s wa cf ct rr ok) (q_fm b (wa k) m x w (q_z hs 400) b.1) k a1 (c1 - w + 1 - a1)) (q_fm b (wa k) m x w (q_z hs 400) b.1) od sh t3 co fo f gg ++ q_hr lw n tx fp b t s wa cf ct rr c wo o1 u1 o2 u2 kp ra wd we nu rd ts oa ob f4 od2 sh2 tw f7 bc := (q_up3 fr1 y0 y1 y2).trans (by rw [eh]; rfl)
    obtain ⟨h2, K2, fr2, z0, z1⟩ := (k_X12_table_G (ev := ev) (ok := ok) (hs := hs) (k := k) (w := w) (m := m) (x := x) (i := i) (q_c52 e1) (q_c59 e1) (q_c60 e1) (q_c61 e1) (q_c62 e1) (q_c63 e1) (q_c64 e1) (q_c65 e1) (q_c66 e1) (q_c56 e1) (q_c57 e1) (q_c58 e1) (q_c53 e1) (q_c67 e1) (q_c69 e1) hw hsi hr hwi (by omega) (by omega) (by omega) (by omega) (by omega) (by omega) ho hh hb g3 q1 q2 (by omega) (by omega) (by omega))
    have e2 : h2 = q_hc lw n tx fp b t s wa cf ct rr c wo o1 u1 o2 u2 kp a0 cl fa dr ti (q_oks lw ln s wa cf ct rr ok) (q_tb (q_oks lw ln s wa cf ct rr ok) (q_fm b (wa k) m x w (q_z hs 400) b.1) k a1 (c1 - w + 1 - a1)) (q_fm b (wa k) m x w (q_z hs 400) b.1) od sh t3 co fo f gg ++ q_hr lw n tx fp b t s wa cf ct rr c wo o1 u1 o2 u2 kp ra wd we nu rd ts (q_fd (q_ev lw ln s wa cf ct rr) s k (q_z oa 400) s.1) ob (q_4f (q_tb (q_oks lw ln s wa cf ct rr ok) (q_fm b (wa k) m x w (q_z hs 400) b.1) k a1 (c1 - w + 1 - a1)) (q_z f4 4)) od2 sh2 tw f7 bc := (q_up2 fr2 z0 z1).trans (by rw [e1]; rfl)
    exact ⟨_, h1, h2, K1, K2, ⟨_, q_c52 e1⟩, ⟨ln, _, _, _, _, _, _, _, _, _, _, _, _, _, _, _, _, _, _, _, _, _, _, _, _, _, _, _, _, _, _, _, _, _, _, _, _, _, _, _, _, _, _, _, _, _, _, _, e2, ⟨hw, ⟨hn, htx⟩, ⟨hb, ht⟩, hsi, hwi, hr, hci, hwo, ⟨hb1, hu1⟩, ⟨hb2, hu2⟩, hkp, hti, (q_oks_lt hsi hok), (q_fm_le (q_z_l1 hh 400) b.1), hf, hg, (q_fd_le (q_z_l1 ho 400) _), hob, hf7⟩⟩⟩
set_option maxRecDepth 100000 in
theorem s_story {ev : mv_E} {h : mv_H} (hI : q_I h) (k1 : Int32) (k2 : Int32) (w : Int32) : q_ans ev mX11_story mX12_story [.int k1, .int k2, .int w] h := by
  have hJ := hI
  obtain ⟨ln, lw, n, tx, fp, b, t, s, wa, cf, ct, rr, c, wo, o1, u1, o2, u2, kp, a0, cl, fa, dr, ti, ok, t4, hs, od, sh, t3, co, fo, f, gg, ra, wd, we, nu, rd, ts, oa, ob, f4, od2, sh2, tw, f7, bc, eh, ⟨hw, ⟨hn, htx⟩, ⟨hb, ht⟩, hsi, hwi, hr, hci, hwo, ⟨hb1, hu1⟩, ⟨hb2, hu2⟩, hkp, hti, hok, hh, hf, hg, ho, hob, hf7⟩⟩ := hI
  have hbn := hb.1
  have hsn := hsi.1
  have hcn := hci.1
  have hwn := hwo.1
  have hl1 := hw.2.2.1
  by_cases g1 : (nI 0 ≤ k1 ∧ k1 ≤ nI 7) ∧ (nI 0 ≤ k2 ∧ k2 ≤ nI 7)
  rotate_left
  · exact q_same hJ (k_X11_story_R1 (ev := ev) g1) (k_X12_story_R1 (ev := ev) g1)
  obtain ⟨g1_0, g1_1⟩ := g1
  obtain ⟨k1, k11, k12, rfl⟩ := mv_in_n (by decide) g1_0 (by decide)
  obtain ⟨k2, k21, k22, rfl⟩ := mv_in_n (by decide) g1_1 (by decide)
  by_cases g2 : (nI 0 ≤ w ∧ w ≤ nI 60)
  rotate_left
  · exact q_same hJ (k_X11_story_R2 (ev := ev) (by omega) (by omega) g2) (k_X12_story_R2 (ev := ev) (by omega) (by omega) g2)
  have g2_0 := g2
  obtain ⟨w, w1, w2, rfl⟩ := mv_in_n (by decide) g2_0 (by decide)
  by_cases g3 : cf k1 ≠ -1 ∧ cf k2 ≠ -1
  rotate_left
  · exact q_same hJ (k_X11_story_R3 (ev := ev) (q_c0 eh) (q_c22 eh) (q_c28 eh) (by omega) (by omega) (by omega) g3) (k_X12_story_R3 (ev := ev) (q_c52 eh) (q_c60 eh) (q_c61 eh) (by omega) (by omega) (by omega) hwi g3)
  obtain ⟨a1, c1, p1, p2, p3, p4⟩ := q_WI_c hwi g3.1
  obtain ⟨a2, c2, p5, p6, p7, p8⟩ := q_WI_c hwi g3.2
  obtain ⟨h1, K1, fr1, y0⟩ := (k_X11_story_G (ev := ev) (q_c0 eh) (q_c1 eh) (q_c2 eh) (q_c22 eh) (q_c23 eh) (q_c24 eh) (q_c25 eh) (q_c26 eh) (q_c27 eh) (q_c28 eh) (q_c29 eh) (q_c30 eh) (q_c31 eh) hw hsi hr hwi hok (by omega) (by omega) (by omega) p3 p4 p7 p8 (by omega) (by omega) (by omega) (by omega))
  have e1 : h1 = q_hc lw n tx fp b t s wa cf ct rr c wo o1 u1 o2 u2 kp a0 cl fa dr ti (q_oks lw ln s wa cf ct rr ok) t4 hs od sh t3 co fo f gg ++ q_hr lw n tx fp b t s wa cf ct rr c wo o1 u1 o2 u2 kp ra wd we nu rd ts oa ob f4 od2 sh2 tw f7 bc := (q_up1 fr1 y0).trans (by rw [eh]; rfl)
  obtain ⟨h2, K2, fr2, z0, z1⟩ := (k_X12_story_G (ev := ev) (ok := ok) (q_c52 e1) (q_c59 e1) (q_c60 e1) (q_c61 e1) (q_c62 e1) (q_c63 e1) (q_c64 e1) (q_c65 e1) (q_c66 e1) (q_c53 e1) (q_c67 e1) (q_c68 e1) hw hsi hr hwi (by omega) (by omega) ho hob (by omega) p3 p4 p7 p8 (by omega) (by omega) (by omega) (by omega))
  have e2 : h2 = q_hc lw n tx fp b t s wa cf ct rr c wo o1 u1 o2 u2 kp a0 cl fa dr ti (q_oks lw ln s wa cf ct rr ok) t4 hs od sh t3 co fo f gg ++ q_hr lw n tx fp b t s wa cf ct rr c wo o1 u1 o2 u2 kp ra wd we nu rd ts (q_fd (q_ev lw ln s wa cf ct rr) s k1 (q_z oa 400) s.1) (q_fd (q_ev lw ln s wa cf ct rr) s k2 (q_z ob 400) s.1) f4 od2 sh2 tw f7 bc := (q_up2 fr2 z0 z1).trans (by rw [e1]; rfl)
  exact ⟨_, h1, h2, K1, K2, ⟨_, q_c52 e1⟩, ⟨ln, _, _, _, _, _, _, _, _, _, _, _, _, _, _, _, _, _, _, _, _, _, _, _, _, _, _, _, _, _, _, _, _, _, _, _, _, _, _, _, _, _, _, _, _, _, _, _, e2, ⟨hw, ⟨hn, htx⟩, ⟨hb, ht⟩, hsi, hwi, hr, hci, hwo, ⟨hb1, hu1⟩, ⟨hb2, hu2⟩, hkp, hti, (q_oks_lt hsi hok), hh, hf, hg, (q_fd_le (q_z_l1 ho 400) _), (q_fd_le (q_z_l1 hob 400) _), hf7⟩⟩⟩
