def cT (cA cZ : ClassId) : List (ClassId × FieldType) := [(cA, .int), (cZ, .boolean)]
def cw (a : Nat → Nat) (cA cZ : ClassId) (G : pG) (u : pS) : va_W := [(a 0, .inr (0, [.ref (a 1), .int (G.2.1 0), .ref (a 2), .ref (a 3), .ref (a 4), .ref (a 5), .ref (a 6), .ref (a 7), .ref (a 8), .ref (a 9), .int (u.1 0), .int (u.1 1)])),
  (a 1, .inr (4, [.int (G.2.1 1), .int (G.2.1 2), .int (G.2.1 3), .ref (a 11), .ref (a 12), .ref (a 13)])),
  (a 2, .inr (3, [.ref (a 14), .ref (a 15), .ref (a 16)])),
  (a 3, .inr (3, [.ref (a 17), .ref (a 18), .ref (a 19)])),
  (a 4, .inr (7, [.ref (a 1), .ref (a 20), .ref (a 21), .ref (a 22), .ref (a 23), .ref (a 24), .ref (a 25), .ref (a 26), .ref (a 27), .ref (a 28), .int (u.1 2)])),
  (a 5, .inr (2, [.ref (a 29), .ref (a 3)])),
  (a 6, .inr (6, [.ref (a 30), .ref (a 4)])),
  (a 7, .inr (10, [.ref (a 4), .int (G.2.1 4), .ref (a 32), .ref (a 33), .int (u.1 3), .int (u.1 4), .int (u.1 5), .int (u.1 6)])),
  (a 8, .inr (9, [.ref (a 1), .ref (a 4), .ref (a 34), .int (u.1 7)])),
  (a 9, .inr (8, [.ref (a 4), .ref (a 10), .ref (a 35), .ref (a 36), .ref (a 37), .ref (a 38), .ref (a 39), .int (u.1 8), .int (u.1 9)])),
  (a 10, .inr (5, [.ref (a 31), .ref (a 4)])),
  (a 11, .inl (cA, G.1 11, .inl (G.2.2 0))),
  (a 12, .inl (cA, G.1 12, .inl (G.2.2 1))),
  (a 13, .inl (cA, G.1 13, .inl (G.2.2 2))),
  (a 14, .inl (cA, G.1 14, .inl (u.2 0))),
  (a 15, .inl (cA, G.1 15, .inl (u.2 1))),
  (a 16, .inl (cA, G.1 16, .inl (u.2 2))),
  (a 17, .inl (cA, G.1 17, .inl (u.2 3))),
  (a 18, .inl (cA, G.1 18, .inl (u.2 4))),
  (a 19, .inl (cA, G.1 19, .inl (u.2 5))),
  (a 20, .inl (cA, G.1 20, .inl (u.2 6))),
  (a 21, .inl (cA, G.1 21, .inl (u.2 7))),
  (a 22, .inl (cA, G.1 22, .inl (u.2 8))),
  (a 23, .inl (cA, G.1 23, .inl (u.2 9))),
  (a 24, .inl (cA, G.1 24, .inl (u.2 10))),
  (a 25, .inl (cA, G.1 25, .inl (u.2 11))),
  (a 26, .inl (cA, G.1 26, .inl (u.2 12))),
  (a 27, .inl (cA, G.1 27, .inl (u.2 13))),
  (a 28, .inl (cA, G.1 28, .inl (u.2 14))),
  (a 29, .inl (cA, G.1 29, .inl (u.2 15))),
  (a 30, .inl (cA, G.1 30, .inl (u.2 16))),
  (a 31, .inl (cA, G.1 31, .inl (u.2 17))),
  (a 32, .inl (cA, G.1 32, .inl (u.2 18))),
  (a 33, .inl (cA, G.1 33, .inl (u.2 19))),
  (a 34, .inl (cZ, G.1 34, .inl (u.2 20))),
  (a 35, .inl (cA, G.1 35, .inl (u.2 21))),
  (a 36, .inl (cA, G.1 36, .inl (u.2 22))),
  (a 37, .inl (cA, G.1 37, .inl (u.2 23))),
  (a 38, .inl (cA, G.1 38, .inl (u.2 24))),
  (a 39, .inl (cA, G.1 39, .inl (u.2 25)))]
theorem cw_at_0 {a : Nat → Nat} {cA cZ : ClassId} {G : pG} {u : pS} : (cw a cA cZ G u)[0]? = some (a 0, .inr (0, [.ref (a 1), .int (G.2.1 0), .ref (a 2), .ref (a 3), .ref (a 4), .ref (a 5), .ref (a 6), .ref (a 7), .ref (a 8), .ref (a 9), .int (u.1 0), .int (u.1 1)])) := rfl
theorem cw_si_0_10 {a : Nat → Nat} {cA cZ : ClassId} {G : pG} {u : pS} {x : Int32} : (cw a cA cZ G u).set 0 (a 0, .inr (0, ([.ref (a 1), .int (G.2.1 0), .ref (a 2), .ref (a 3), .ref (a 4), .ref (a 5), .ref (a 6), .ref (a 7), .ref (a 8), .ref (a 9), .int (u.1 0), .int (u.1 1)] : List Value).set 10 (.int x))) = cw a cA cZ G (pw_si u 0 x) := rfl
theorem cw_si_0_11 {a : Nat → Nat} {cA cZ : ClassId} {G : pG} {u : pS} {x : Int32} : (cw a cA cZ G u).set 0 (a 0, .inr (0, ([.ref (a 1), .int (G.2.1 0), .ref (a 2), .ref (a 3), .ref (a 4), .ref (a 5), .ref (a 6), .ref (a 7), .ref (a 8), .ref (a 9), .int (u.1 0), .int (u.1 1)] : List Value).set 11 (.int x))) = cw a cA cZ G (pw_si u 1 x) := rfl
theorem cw_at_1 {a : Nat → Nat} {cA cZ : ClassId} {G : pG} {u : pS} : (cw a cA cZ G u)[1]? = some (a 1, .inr (4, [.int (G.2.1 1), .int (G.2.1 2), .int (G.2.1 3), .ref (a 11), .ref (a 12), .ref (a 13)])) := rfl
theorem cw_at_2 {a : Nat → Nat} {cA cZ : ClassId} {G : pG} {u : pS} : (cw a cA cZ G u)[2]? = some (a 2, .inr (3, [.ref (a 14), .ref (a 15), .ref (a 16)])) := rfl
theorem cw_at_3 {a : Nat → Nat} {cA cZ : ClassId} {G : pG} {u : pS} : (cw a cA cZ G u)[3]? = some (a 3, .inr (3, [.ref (a 17), .ref (a 18), .ref (a 19)])) := rfl
theorem cw_at_4 {a : Nat → Nat} {cA cZ : ClassId} {G : pG} {u : pS} : (cw a cA cZ G u)[4]? = some (a 4, .inr (7, [.ref (a 1), .ref (a 20), .ref (a 21), .ref (a 22), .ref (a 23), .ref (a 24), .ref (a 25), .ref (a 26), .ref (a 27), .ref (a 28), .int (u.1 2)])) := rfl
theorem cw_si_4_10 {a : Nat → Nat} {cA cZ : ClassId} {G : pG} {u : pS} {x : Int32} : (cw a cA cZ G u).set 4 (a 4, .inr (7, ([.ref (a 1), .ref (a 20), .ref (a 21), .ref (a 22), .ref (a 23), .ref (a 24), .ref (a 25), .ref (a 26), .ref (a 27), .ref (a 28), .int (u.1 2)] : List Value).set 10 (.int x))) = cw a cA cZ G (pw_si u 2 x) := rfl
theorem cw_at_5 {a : Nat → Nat} {cA cZ : ClassId} {G : pG} {u : pS} : (cw a cA cZ G u)[5]? = some (a 5, .inr (2, [.ref (a 29), .ref (a 3)])) := rfl
theorem cw_at_6 {a : Nat → Nat} {cA cZ : ClassId} {G : pG} {u : pS} : (cw a cA cZ G u)[6]? = some (a 6, .inr (6, [.ref (a 30), .ref (a 4)])) := rfl
theorem cw_at_7 {a : Nat → Nat} {cA cZ : ClassId} {G : pG} {u : pS} : (cw a cA cZ G u)[7]? = some (a 7, .inr (10, [.ref (a 4), .int (G.2.1 4), .ref (a 32), .ref (a 33), .int (u.1 3), .int (u.1 4), .int (u.1 5), .int (u.1 6)])) := rfl
theorem cw_si_7_4 {a : Nat → Nat} {cA cZ : ClassId} {G : pG} {u : pS} {x : Int32} : (cw a cA cZ G u).set 7 (a 7, .inr (10, ([.ref (a 4), .int (G.2.1 4), .ref (a 32), .ref (a 33), .int (u.1 3), .int (u.1 4), .int (u.1 5), .int (u.1 6)] : List Value).set 4 (.int x))) = cw a cA cZ G (pw_si u 3 x) := rfl
theorem cw_si_7_5 {a : Nat → Nat} {cA cZ : ClassId} {G : pG} {u : pS} {x : Int32} : (cw a cA cZ G u).set 7 (a 7, .inr (10, ([.ref (a 4), .int (G.2.1 4), .ref (a 32), .ref (a 33), .int (u.1 3), .int (u.1 4), .int (u.1 5), .int (u.1 6)] : List Value).set 5 (.int x))) = cw a cA cZ G (pw_si u 4 x) := rfl
theorem cw_si_7_6 {a : Nat → Nat} {cA cZ : ClassId} {G : pG} {u : pS} {x : Int32} : (cw a cA cZ G u).set 7 (a 7, .inr (10, ([.ref (a 4), .int (G.2.1 4), .ref (a 32), .ref (a 33), .int (u.1 3), .int (u.1 4), .int (u.1 5), .int (u.1 6)] : List Value).set 6 (.int x))) = cw a cA cZ G (pw_si u 5 x) := rfl
theorem cw_si_7_7 {a : Nat → Nat} {cA cZ : ClassId} {G : pG} {u : pS} {x : Int32} : (cw a cA cZ G u).set 7 (a 7, .inr (10, ([.ref (a 4), .int (G.2.1 4), .ref (a 32), .ref (a 33), .int (u.1 3), .int (u.1 4), .int (u.1 5), .int (u.1 6)] : List Value).set 7 (.int x))) = cw a cA cZ G (pw_si u 6 x) := rfl
theorem cw_at_8 {a : Nat → Nat} {cA cZ : ClassId} {G : pG} {u : pS} : (cw a cA cZ G u)[8]? = some (a 8, .inr (9, [.ref (a 1), .ref (a 4), .ref (a 34), .int (u.1 7)])) := rfl
theorem cw_si_8_3 {a : Nat → Nat} {cA cZ : ClassId} {G : pG} {u : pS} {x : Int32} : (cw a cA cZ G u).set 8 (a 8, .inr (9, ([.ref (a 1), .ref (a 4), .ref (a 34), .int (u.1 7)] : List Value).set 3 (.int x))) = cw a cA cZ G (pw_si u 7 x) := rfl
theorem cw_at_9 {a : Nat → Nat} {cA cZ : ClassId} {G : pG} {u : pS} : (cw a cA cZ G u)[9]? = some (a 9, .inr (8, [.ref (a 4), .ref (a 10), .ref (a 35), .ref (a 36), .ref (a 37), .ref (a 38), .ref (a 39), .int (u.1 8), .int (u.1 9)])) := rfl
theorem cw_si_9_7 {a : Nat → Nat} {cA cZ : ClassId} {G : pG} {u : pS} {x : Int32} : (cw a cA cZ G u).set 9 (a 9, .inr (8, ([.ref (a 4), .ref (a 10), .ref (a 35), .ref (a 36), .ref (a 37), .ref (a 38), .ref (a 39), .int (u.1 8), .int (u.1 9)] : List Value).set 7 (.int x))) = cw a cA cZ G (pw_si u 8 x) := rfl
theorem cw_si_9_8 {a : Nat → Nat} {cA cZ : ClassId} {G : pG} {u : pS} {x : Int32} : (cw a cA cZ G u).set 9 (a 9, .inr (8, ([.ref (a 4), .ref (a 10), .ref (a 35), .ref (a 36), .ref (a 37), .ref (a 38), .ref (a 39), .int (u.1 8), .int (u.1 9)] : List Value).set 8 (.int x))) = cw a cA cZ G (pw_si u 9 x) := rfl
theorem cw_at_10 {a : Nat → Nat} {cA cZ : ClassId} {G : pG} {u : pS} : (cw a cA cZ G u)[10]? = some (a 10, .inr (5, [.ref (a 31), .ref (a 4)])) := rfl
theorem cw_at_11 {a : Nat → Nat} {cA cZ : ClassId} {G : pG} {u : pS} : (cw a cA cZ G u)[11]? = some (a 11, .inl (cA, G.1 11, .inl (G.2.2 0))) := rfl
theorem cw_at_12 {a : Nat → Nat} {cA cZ : ClassId} {G : pG} {u : pS} : (cw a cA cZ G u)[12]? = some (a 12, .inl (cA, G.1 12, .inl (G.2.2 1))) := rfl
theorem cw_at_13 {a : Nat → Nat} {cA cZ : ClassId} {G : pG} {u : pS} : (cw a cA cZ G u)[13]? = some (a 13, .inl (cA, G.1 13, .inl (G.2.2 2))) := rfl
theorem cw_at_14 {a : Nat → Nat} {cA cZ : ClassId} {G : pG} {u : pS} : (cw a cA cZ G u)[14]? = some (a 14, .inl (cA, G.1 14, .inl (u.2 0))) := rfl
theorem cw_sa_14 {a : Nat → Nat} {cA cZ : ClassId} {G : pG} {u : pS} {f : Nat → Int32} : (cw a cA cZ G u).set 14 (a 14, .inl (cA, G.1 14, .inl f)) = cw a cA cZ G (pw_sa u 0 f) := rfl
theorem cw_at_15 {a : Nat → Nat} {cA cZ : ClassId} {G : pG} {u : pS} : (cw a cA cZ G u)[15]? = some (a 15, .inl (cA, G.1 15, .inl (u.2 1))) := rfl
theorem cw_sa_15 {a : Nat → Nat} {cA cZ : ClassId} {G : pG} {u : pS} {f : Nat → Int32} : (cw a cA cZ G u).set 15 (a 15, .inl (cA, G.1 15, .inl f)) = cw a cA cZ G (pw_sa u 1 f) := rfl
theorem cw_at_16 {a : Nat → Nat} {cA cZ : ClassId} {G : pG} {u : pS} : (cw a cA cZ G u)[16]? = some (a 16, .inl (cA, G.1 16, .inl (u.2 2))) := rfl
theorem cw_sa_16 {a : Nat → Nat} {cA cZ : ClassId} {G : pG} {u : pS} {f : Nat → Int32} : (cw a cA cZ G u).set 16 (a 16, .inl (cA, G.1 16, .inl f)) = cw a cA cZ G (pw_sa u 2 f) := rfl
theorem cw_at_17 {a : Nat → Nat} {cA cZ : ClassId} {G : pG} {u : pS} : (cw a cA cZ G u)[17]? = some (a 17, .inl (cA, G.1 17, .inl (u.2 3))) := rfl
theorem cw_sa_17 {a : Nat → Nat} {cA cZ : ClassId} {G : pG} {u : pS} {f : Nat → Int32} : (cw a cA cZ G u).set 17 (a 17, .inl (cA, G.1 17, .inl f)) = cw a cA cZ G (pw_sa u 3 f) := rfl
theorem cw_at_18 {a : Nat → Nat} {cA cZ : ClassId} {G : pG} {u : pS} : (cw a cA cZ G u)[18]? = some (a 18, .inl (cA, G.1 18, .inl (u.2 4))) := rfl
theorem cw_sa_18 {a : Nat → Nat} {cA cZ : ClassId} {G : pG} {u : pS} {f : Nat → Int32} : (cw a cA cZ G u).set 18 (a 18, .inl (cA, G.1 18, .inl f)) = cw a cA cZ G (pw_sa u 4 f) := rfl
theorem cw_at_19 {a : Nat → Nat} {cA cZ : ClassId} {G : pG} {u : pS} : (cw a cA cZ G u)[19]? = some (a 19, .inl (cA, G.1 19, .inl (u.2 5))) := rfl
theorem cw_sa_19 {a : Nat → Nat} {cA cZ : ClassId} {G : pG} {u : pS} {f : Nat → Int32} : (cw a cA cZ G u).set 19 (a 19, .inl (cA, G.1 19, .inl f)) = cw a cA cZ G (pw_sa u 5 f) := rfl
theorem cw_at_20 {a : Nat → Nat} {cA cZ : ClassId} {G : pG} {u : pS} : (cw a cA cZ G u)[20]? = some (a 20, .inl (cA, G.1 20, .inl (u.2 6))) := rfl
theorem cw_sa_20 {a : Nat → Nat} {cA cZ : ClassId} {G : pG} {u : pS} {f : Nat → Int32} : (cw a cA cZ G u).set 20 (a 20, .inl (cA, G.1 20, .inl f)) = cw a cA cZ G (pw_sa u 6 f) := rfl
theorem cw_at_21 {a : Nat → Nat} {cA cZ : ClassId} {G : pG} {u : pS} : (cw a cA cZ G u)[21]? = some (a 21, .inl (cA, G.1 21, .inl (u.2 7))) := rfl
theorem cw_sa_21 {a : Nat → Nat} {cA cZ : ClassId} {G : pG} {u : pS} {f : Nat → Int32} : (cw a cA cZ G u).set 21 (a 21, .inl (cA, G.1 21, .inl f)) = cw a cA cZ G (pw_sa u 7 f) := rfl
theorem cw_at_22 {a : Nat → Nat} {cA cZ : ClassId} {G : pG} {u : pS} : (cw a cA cZ G u)[22]? = some (a 22, .inl (cA, G.1 22, .inl (u.2 8))) := rfl
theorem cw_sa_22 {a : Nat → Nat} {cA cZ : ClassId} {G : pG} {u : pS} {f : Nat → Int32} : (cw a cA cZ G u).set 22 (a 22, .inl (cA, G.1 22, .inl f)) = cw a cA cZ G (pw_sa u 8 f) := rfl
theorem cw_at_23 {a : Nat → Nat} {cA cZ : ClassId} {G : pG} {u : pS} : (cw a cA cZ G u)[23]? = some (a 23, .inl (cA, G.1 23, .inl (u.2 9))) := rfl
theorem cw_sa_23 {a : Nat → Nat} {cA cZ : ClassId} {G : pG} {u : pS} {f : Nat → Int32} : (cw a cA cZ G u).set 23 (a 23, .inl (cA, G.1 23, .inl f)) = cw a cA cZ G (pw_sa u 9 f) := rfl
theorem cw_at_24 {a : Nat → Nat} {cA cZ : ClassId} {G : pG} {u : pS} : (cw a cA cZ G u)[24]? = some (a 24, .inl (cA, G.1 24, .inl (u.2 10))) := rfl
theorem cw_sa_24 {a : Nat → Nat} {cA cZ : ClassId} {G : pG} {u : pS} {f : Nat → Int32} : (cw a cA cZ G u).set 24 (a 24, .inl (cA, G.1 24, .inl f)) = cw a cA cZ G (pw_sa u 10 f) := rfl
theorem cw_at_25 {a : Nat → Nat} {cA cZ : ClassId} {G : pG} {u : pS} : (cw a cA cZ G u)[25]? = some (a 25, .inl (cA, G.1 25, .inl (u.2 11))) := rfl
theorem cw_sa_25 {a : Nat → Nat} {cA cZ : ClassId} {G : pG} {u : pS} {f : Nat → Int32} : (cw a cA cZ G u).set 25 (a 25, .inl (cA, G.1 25, .inl f)) = cw a cA cZ G (pw_sa u 11 f) := rfl
theorem cw_at_26 {a : Nat → Nat} {cA cZ : ClassId} {G : pG} {u : pS} : (cw a cA cZ G u)[26]? = some (a 26, .inl (cA, G.1 26, .inl (u.2 12))) := rfl
theorem cw_sa_26 {a : Nat → Nat} {cA cZ : ClassId} {G : pG} {u : pS} {f : Nat → Int32} : (cw a cA cZ G u).set 26 (a 26, .inl (cA, G.1 26, .inl f)) = cw a cA cZ G (pw_sa u 12 f) := rfl
theorem cw_at_27 {a : Nat → Nat} {cA cZ : ClassId} {G : pG} {u : pS} : (cw a cA cZ G u)[27]? = some (a 27, .inl (cA, G.1 27, .inl (u.2 13))) := rfl
theorem cw_sa_27 {a : Nat → Nat} {cA cZ : ClassId} {G : pG} {u : pS} {f : Nat → Int32} : (cw a cA cZ G u).set 27 (a 27, .inl (cA, G.1 27, .inl f)) = cw a cA cZ G (pw_sa u 13 f) := rfl
theorem cw_at_28 {a : Nat → Nat} {cA cZ : ClassId} {G : pG} {u : pS} : (cw a cA cZ G u)[28]? = some (a 28, .inl (cA, G.1 28, .inl (u.2 14))) := rfl
theorem cw_sa_28 {a : Nat → Nat} {cA cZ : ClassId} {G : pG} {u : pS} {f : Nat → Int32} : (cw a cA cZ G u).set 28 (a 28, .inl (cA, G.1 28, .inl f)) = cw a cA cZ G (pw_sa u 14 f) := rfl
theorem cw_at_29 {a : Nat → Nat} {cA cZ : ClassId} {G : pG} {u : pS} : (cw a cA cZ G u)[29]? = some (a 29, .inl (cA, G.1 29, .inl (u.2 15))) := rfl
theorem cw_sa_29 {a : Nat → Nat} {cA cZ : ClassId} {G : pG} {u : pS} {f : Nat → Int32} : (cw a cA cZ G u).set 29 (a 29, .inl (cA, G.1 29, .inl f)) = cw a cA cZ G (pw_sa u 15 f) := rfl
theorem cw_at_30 {a : Nat → Nat} {cA cZ : ClassId} {G : pG} {u : pS} : (cw a cA cZ G u)[30]? = some (a 30, .inl (cA, G.1 30, .inl (u.2 16))) := rfl
theorem cw_sa_30 {a : Nat → Nat} {cA cZ : ClassId} {G : pG} {u : pS} {f : Nat → Int32} : (cw a cA cZ G u).set 30 (a 30, .inl (cA, G.1 30, .inl f)) = cw a cA cZ G (pw_sa u 16 f) := rfl
theorem cw_at_31 {a : Nat → Nat} {cA cZ : ClassId} {G : pG} {u : pS} : (cw a cA cZ G u)[31]? = some (a 31, .inl (cA, G.1 31, .inl (u.2 17))) := rfl
theorem cw_sa_31 {a : Nat → Nat} {cA cZ : ClassId} {G : pG} {u : pS} {f : Nat → Int32} : (cw a cA cZ G u).set 31 (a 31, .inl (cA, G.1 31, .inl f)) = cw a cA cZ G (pw_sa u 17 f) := rfl
theorem cw_at_32 {a : Nat → Nat} {cA cZ : ClassId} {G : pG} {u : pS} : (cw a cA cZ G u)[32]? = some (a 32, .inl (cA, G.1 32, .inl (u.2 18))) := rfl
theorem cw_sa_32 {a : Nat → Nat} {cA cZ : ClassId} {G : pG} {u : pS} {f : Nat → Int32} : (cw a cA cZ G u).set 32 (a 32, .inl (cA, G.1 32, .inl f)) = cw a cA cZ G (pw_sa u 18 f) := rfl
theorem cw_at_33 {a : Nat → Nat} {cA cZ : ClassId} {G : pG} {u : pS} : (cw a cA cZ G u)[33]? = some (a 33, .inl (cA, G.1 33, .inl (u.2 19))) := rfl
theorem cw_sa_33 {a : Nat → Nat} {cA cZ : ClassId} {G : pG} {u : pS} {f : Nat → Int32} : (cw a cA cZ G u).set 33 (a 33, .inl (cA, G.1 33, .inl f)) = cw a cA cZ G (pw_sa u 19 f) := rfl
theorem cw_at_34 {a : Nat → Nat} {cA cZ : ClassId} {G : pG} {u : pS} : (cw a cA cZ G u)[34]? = some (a 34, .inl (cZ, G.1 34, .inl (u.2 20))) := rfl
theorem cw_sa_34 {a : Nat → Nat} {cA cZ : ClassId} {G : pG} {u : pS} {f : Nat → Int32} : (cw a cA cZ G u).set 34 (a 34, .inl (cZ, G.1 34, .inl f)) = cw a cA cZ G (pw_sa u 20 f) := rfl
theorem cw_at_35 {a : Nat → Nat} {cA cZ : ClassId} {G : pG} {u : pS} : (cw a cA cZ G u)[35]? = some (a 35, .inl (cA, G.1 35, .inl (u.2 21))) := rfl
theorem cw_sa_35 {a : Nat → Nat} {cA cZ : ClassId} {G : pG} {u : pS} {f : Nat → Int32} : (cw a cA cZ G u).set 35 (a 35, .inl (cA, G.1 35, .inl f)) = cw a cA cZ G (pw_sa u 21 f) := rfl
theorem cw_at_36 {a : Nat → Nat} {cA cZ : ClassId} {G : pG} {u : pS} : (cw a cA cZ G u)[36]? = some (a 36, .inl (cA, G.1 36, .inl (u.2 22))) := rfl
theorem cw_sa_36 {a : Nat → Nat} {cA cZ : ClassId} {G : pG} {u : pS} {f : Nat → Int32} : (cw a cA cZ G u).set 36 (a 36, .inl (cA, G.1 36, .inl f)) = cw a cA cZ G (pw_sa u 22 f) := rfl
theorem cw_at_37 {a : Nat → Nat} {cA cZ : ClassId} {G : pG} {u : pS} : (cw a cA cZ G u)[37]? = some (a 37, .inl (cA, G.1 37, .inl (u.2 23))) := rfl
theorem cw_sa_37 {a : Nat → Nat} {cA cZ : ClassId} {G : pG} {u : pS} {f : Nat → Int32} : (cw a cA cZ G u).set 37 (a 37, .inl (cA, G.1 37, .inl f)) = cw a cA cZ G (pw_sa u 23 f) := rfl
theorem cw_at_38 {a : Nat → Nat} {cA cZ : ClassId} {G : pG} {u : pS} : (cw a cA cZ G u)[38]? = some (a 38, .inl (cA, G.1 38, .inl (u.2 24))) := rfl
theorem cw_sa_38 {a : Nat → Nat} {cA cZ : ClassId} {G : pG} {u : pS} {f : Nat → Int32} : (cw a cA cZ G u).set 38 (a 38, .inl (cA, G.1 38, .inl f)) = cw a cA cZ G (pw_sa u 24 f) := rfl
theorem cw_at_39 {a : Nat → Nat} {cA cZ : ClassId} {G : pG} {u : pS} : (cw a cA cZ G u)[39]? = some (a 39, .inl (cA, G.1 39, .inl (u.2 25))) := rfl
theorem cw_sa_39 {a : Nat → Nat} {cA cZ : ClassId} {G : pG} {u : pS} {f : Nat → Int32} : (cw a cA cZ G u).set 39 (a 39, .inl (cA, G.1 39, .inl f)) = cw a cA cZ G (pw_sa u 25 f) := rfl
theorem cw_D {a : Nat → Nat} {cA cZ : ClassId} {G : pG} {u : pS} {A : Nat → Prop} (hI : pw_I 40 a) (hF : ∀ k, k < 40 → A (a k)) : va_D A (cw a cA cZ G u) := pw_addrs rfl hI hF
