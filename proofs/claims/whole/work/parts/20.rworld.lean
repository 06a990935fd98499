def rT (cA cZ : ClassId) : List (ClassId × FieldType) := [(cA, .int), (cZ, .boolean)]
def rw (a : Nat → Nat) (cA cZ : ClassId) (G : pG) (u : pS) : va_W := [(a 0, .inr (1, [.int (u.1 0), .int (G.2.1 0), .int (G.2.1 1), .int (G.2.1 2), .ref (a 1), .ref (a 2), .ref (a 3), .ref (a 4), .int (u.1 1), .ref (a 5), .ref (a 6), .ref (a 7), .int (u.1 2), .ref (a 8), .ref (a 9), .int (u.1 3), .int (u.1 4), .ref (a 10), .ref (a 11), .int (u.1 5), .ref (a 12), .ref (a 13), .ref (a 14)])),
  (a 1, .inl (cA, G.1 1, .inl (u.2 0))),
  (a 2, .inl (cA, G.1 2, .inl (u.2 1))),
  (a 3, .inl (cA, G.1 3, .inl (u.2 2))),
  (a 4, .inl (cA, G.1 4, .inl (u.2 3))),
  (a 5, .inl (cA, G.1 5, .inl (u.2 4))),
  (a 6, .inl (cA, G.1 6, .inl (u.2 5))),
  (a 7, .inl (cA, G.1 7, .inl (u.2 6))),
  (a 8, .inl (cA, G.1 8, .inl (u.2 7))),
  (a 9, .inl (cA, G.1 9, .inl (u.2 8))),
  (a 10, .inl (cA, G.1 10, .inl (u.2 9))),
  (a 11, .inl (cA, G.1 11, .inl (u.2 10))),
  (a 12, .inl (cA, G.1 12, .inl (u.2 11))),
  (a 13, .inl (cA, G.1 13, .inl (u.2 12))),
  (a 14, .inl (cA, G.1 14, .inl (u.2 13)))]
theorem rw_at_0 {a : Nat → Nat} {cA cZ : ClassId} {G : pG} {u : pS} : (rw a cA cZ G u)[0]? = some (a 0, .inr (1, [.int (u.1 0), .int (G.2.1 0), .int (G.2.1 1), .int (G.2.1 2), .ref (a 1), .ref (a 2), .ref (a 3), .ref (a 4), .int (u.1 1), .ref (a 5), .ref (a 6), .ref (a 7), .int (u.1 2), .ref (a 8), .ref (a 9), .int (u.1 3), .int (u.1 4), .ref (a 10), .ref (a 11), .int (u.1 5), .ref (a 12), .ref (a 13), .ref (a 14)])) := rfl
theorem rw_si_0_0 {a : Nat → Nat} {cA cZ : ClassId} {G : pG} {u : pS} {x : Int32} : (rw a cA cZ G u).set 0 (a 0, .inr (1, ([.int (u.1 0), .int (G.2.1 0), .int (G.2.1 1), .int (G.2.1 2), .ref (a 1), .ref (a 2), .ref (a 3), .ref (a 4), .int (u.1 1), .ref (a 5), .ref (a 6), .ref (a 7), .int (u.1 2), .ref (a 8), .ref (a 9), .int (u.1 3), .int (u.1 4), .ref (a 10), .ref (a 11), .int (u.1 5), .ref (a 12), .ref (a 13), .ref (a 14)] : List Value).set 0 (.int x))) = rw a cA cZ G (pw_si u 0 x) := rfl
theorem rw_si_0_8 {a : Nat → Nat} {cA cZ : ClassId} {G : pG} {u : pS} {x : Int32} : (rw a cA cZ G u).set 0 (a 0, .inr (1, ([.int (u.1 0), .int (G.2.1 0), .int (G.2.1 1), .int (G.2.1 2), .ref (a 1), .ref (a 2), .ref (a 3), .ref (a 4), .int (u.1 1), .ref (a 5), .ref (a 6), .ref (a 7), .int (u.1 2), .ref (a 8), .ref (a 9), .int (u.1 3), .int (u.1 4), .ref (a 10), .ref (a 11), .int (u.1 5), .ref (a 12), .ref (a 13), .ref (a 14)] : List Value).set 8 (.int x))) = rw a cA cZ G (pw_si u 1 x) := rfl
theorem rw_si_0_12 {a : Nat → Nat} {cA cZ : ClassId} {G : pG} {u : pS} {x : Int32} : (rw a cA cZ G u).set 0 (a 0, .inr (1, ([.int (u.1 0), .int (G.2.1 0), .int (G.2.1 1), .int (G.2.1 2), .ref (a 1), .ref (a 2), .ref (a 3), .ref (a 4), .int (u.1 1), .ref (a 5), .ref (a 6), .ref (a 7), .int (u.1 2), .ref (a 8), .ref (a 9), .int (u.1 3), .int (u.1 4), .ref (a 10), .ref (a 11), .int (u.1 5), .ref (a 12), .ref (a 13), .ref (a 14)] : List Value).set 12 (.int x))) = rw a cA cZ G (pw_si u 2 x) := rfl
theorem rw_si_0_15 {a : Nat → Nat} {cA cZ : ClassId} {G : pG} {u : pS} {x : Int32} : (rw a cA cZ G u).set 0 (a 0, .inr (1, ([.int (u.1 0), .int (G.2.1 0), .int (G.2.1 1), .int (G.2.1 2), .ref (a 1), .ref (a 2), .ref (a 3), .ref (a 4), .int (u.1 1), .ref (a 5), .ref (a 6), .ref (a 7), .int (u.1 2), .ref (a 8), .ref (a 9), .int (u.1 3), .int (u.1 4), .ref (a 10), .ref (a 11), .int (u.1 5), .ref (a 12), .ref (a 13), .ref (a 14)] : List Value).set 15 (.int x))) = rw a cA cZ G (pw_si u 3 x) := rfl
theorem rw_si_0_16 {a : Nat → Nat} {cA cZ : ClassId} {G : pG} {u : pS} {x : Int32} : (rw a cA cZ G u).set 0 (a 0, .inr (1, ([.int (u.1 0), .int (G.2.1 0), .int (G.2.1 1), .int (G.2.1 2), .ref (a 1), .ref (a 2), .ref (a 3), .ref (a 4), .int (u.1 1), .ref (a 5), .ref (a 6), .ref (a 7), .int (u.1 2), .ref (a 8), .ref (a 9), .int (u.1 3), .int (u.1 4), .ref (a 10), .ref (a 11), .int (u.1 5), .ref (a 12), .ref (a 13), .ref (a 14)] : List Value).set 16 (.int x))) = rw a cA cZ G (pw_si u 4 x) := rfl
theorem rw_si_0_19 {a : Nat → Nat} {cA cZ : ClassId} {G : pG} {u : pS} {x : Int32} : (rw a cA cZ G u).set 0 (a 0, .inr (1, ([.int (u.1 0), .int (G.2.1 0), .int (G.2.1 1), .int (G.2.1 2), .ref (a 1), .ref (a 2), .ref (a 3), .ref (a 4), .int (u.1 1), .ref (a 5), .ref (a 6), .ref (a 7), .int (u.1 2), .ref (a 8), .ref (a 9), .int (u.1 3), .int (u.1 4), .ref (a 10), .ref (a 11), .int (u.1 5), .ref (a 12), .ref (a 13), .ref (a 14)] : List Value).set 19 (.int x))) = rw a cA cZ G (pw_si u 5 x) := rfl
theorem rw_at_1 {a : Nat → Nat} {cA cZ : ClassId} {G : pG} {u : pS} : (rw a cA cZ G u)[1]? = some (a 1, .inl (cA, G.1 1, .inl (u.2 0))) := rfl
theorem rw_sa_1 {a : Nat → Nat} {cA cZ : ClassId} {G : pG} {u : pS} {f : Nat → Int32} : (rw a cA cZ G u).set 1 (a 1, .inl (cA, G.1 1, .inl f)) = rw a cA cZ G (pw_sa u 0 f) := rfl
theorem rw_at_2 {a : Nat → Nat} {cA cZ : ClassId} {G : pG} {u : pS} : (rw a cA cZ G u)[2]? = some (a 2, .inl (cA, G.1 2, .inl (u.2 1))) := rfl
theorem rw_sa_2 {a : Nat → Nat} {cA cZ : ClassId} {G : pG} {u : pS} {f : Nat → Int32} : (rw a cA cZ G u).set 2 (a 2, .inl (cA, G.1 2, .inl f)) = rw a cA cZ G (pw_sa u 1 f) := rfl
theorem rw_at_3 {a : Nat → Nat} {cA cZ : ClassId} {G : pG} {u : pS} : (rw a cA cZ G u)[3]? = some (a 3, .inl (cA, G.1 3, .inl (u.2 2))) := rfl
theorem rw_sa_3 {a : Nat → Nat} {cA cZ : ClassId} {G : pG} {u : pS} {f : Nat → Int32} : (rw a cA cZ G u).set 3 (a 3, .inl (cA, G.1 3, .inl f)) = rw a cA cZ G (pw_sa u 2 f) := rfl
theorem rw_at_4 {a : Nat → Nat} {cA cZ : ClassId} {G : pG} {u : pS} : (rw a cA cZ G u)[4]? = some (a 4, .inl (cA, G.1 4, .inl (u.2 3))) := rfl
theorem rw_sa_4 {a : Nat → Nat} {cA cZ : ClassId} {G : pG} {u : pS} {f : Nat → Int32} : (rw a cA cZ G u).set 4 (a 4, .inl (cA, G.1 4, .inl f)) = rw a cA cZ G (pw_sa u 3 f) := rfl
theorem rw_at_5 {a : Nat → Nat} {cA cZ : ClassId} {G : pG} {u : pS} : (rw a cA cZ G u)[5]? = some (a 5, .inl (cA, G.1 5, .inl (u.2 4))) := rfl
theorem rw_sa_5 {a : Nat → Nat} {cA cZ : ClassId} {G : pG} {u : pS} {f : Nat → Int32} : (rw a cA cZ G u).set 5 (a 5, .inl (cA, G.1 5, .inl f)) = rw a cA cZ G (pw_sa u 4 f) := rfl
theorem rw_at_6 {a : Nat → Nat} {cA cZ : ClassId} {G : pG} {u : pS} : (rw a cA cZ G u)[6]? = some (a 6, .inl (cA, G.1 6, .inl (u.2 5))) := rfl
theorem rw_sa_6 {a : Nat → Nat} {cA cZ : ClassId} {G : pG} {u : pS} {f : Nat → Int32} : (rw a cA cZ G u).set 6 (a 6, .inl (cA, G.1 6, .inl f)) = rw a cA cZ G (pw_sa u 5 f) := rfl
theorem rw_at_7 {a : Nat → Nat} {cA cZ : ClassId} {G : pG} {u : pS} : (rw a cA cZ G u)[7]? = some (a 7, .inl (cA, G.1 7, .inl (u.2 6))) := rfl
theorem rw_sa_7 {a : Nat → Nat} {cA cZ : ClassId} {G : pG} {u : pS} {f : Nat → Int32} : (rw a cA cZ G u).set 7 (a 7, .inl (cA, G.1 7, .inl f)) = rw a cA cZ G (pw_sa u 6 f) := rfl
theorem rw_at_8 {a : Nat → Nat} {cA cZ : ClassId} {G : pG} {u : pS} : (rw a cA cZ G u)[8]? = some (a 8, .inl (cA, G.1 8, .inl (u.2 7))) := rfl
theorem rw_sa_8 {a : Nat → Nat} {cA cZ : ClassId} {G : pG} {u : pS} {f : Nat → Int32} : (rw a cA cZ G u).set 8 (a 8, .inl (cA, G.1 8, .inl f)) = rw a cA cZ G (pw_sa u 7 f) := rfl
theorem rw_at_9 {a : Nat → Nat} {cA cZ : ClassId} {G : pG} {u : pS} : (rw a cA cZ G u)[9]? = some (a 9, .inl (cA, G.1 9, .inl (u.2 8))) := rfl
theorem rw_sa_9 {a : Nat → Nat} {cA cZ : ClassId} {G : pG} {u : pS} {f : Nat → Int32} : (rw a cA cZ G u).set 9 (a 9, .inl (cA, G.1 9, .inl f)) = rw a cA cZ G (pw_sa u 8 f) := rfl
theorem rw_at_10 {a : Nat → Nat} {cA cZ : ClassId} {G : pG} {u : pS} : (rw a cA cZ G u)[10]? = some (a 10, .inl (cA, G.1 10, .inl (u.2 9))) := rfl
theorem rw_sa_10 {a : Nat → Nat} {cA cZ : ClassId} {G : pG} {u : pS} {f : Nat → Int32} : (rw a cA cZ G u).set 10 (a 10, .inl (cA, G.1 10, .inl f)) = rw a cA cZ G (pw_sa u 9 f) := rfl
theorem rw_at_11 {a : Nat → Nat} {cA cZ : ClassId} {G : pG} {u : pS} : (rw a cA cZ G u)[11]? = some (a 11, .inl (cA, G.1 11, .inl (u.2 10))) := rfl
theorem rw_sa_11 {a : Nat → Nat} {cA cZ : ClassId} {G : pG} {u : pS} {f : Nat → Int32} : (rw a cA cZ G u).set 11 (a 11, .inl (cA, G.1 11, .inl f)) = rw a cA cZ G (pw_sa u 10 f) := rfl
theorem rw_at_12 {a : Nat → Nat} {cA cZ : ClassId} {G : pG} {u : pS} : (rw a cA cZ G u)[12]? = some (a 12, .inl (cA, G.1 12, .inl (u.2 11))) := rfl
theorem rw_sa_12 {a : Nat → Nat} {cA cZ : ClassId} {G : pG} {u : pS} {f : Nat → Int32} : (rw a cA cZ G u).set 12 (a 12, .inl (cA, G.1 12, .inl f)) = rw a cA cZ G (pw_sa u 11 f) := rfl
theorem rw_at_13 {a : Nat → Nat} {cA cZ : ClassId} {G : pG} {u : pS} : (rw a cA cZ G u)[13]? = some (a 13, .inl (cA, G.1 13, .inl (u.2 12))) := rfl
theorem rw_sa_13 {a : Nat → Nat} {cA cZ : ClassId} {G : pG} {u : pS} {f : Nat → Int32} : (rw a cA cZ G u).set 13 (a 13, .inl (cA, G.1 13, .inl f)) = rw a cA cZ G (pw_sa u 12 f) := rfl
theorem rw_at_14 {a : Nat → Nat} {cA cZ : ClassId} {G : pG} {u : pS} : (rw a cA cZ G u)[14]? = some (a 14, .inl (cA, G.1 14, .inl (u.2 13))) := rfl
theorem rw_sa_14 {a : Nat → Nat} {cA cZ : ClassId} {G : pG} {u : pS} {f : Nat → Int32} : (rw a cA cZ G u).set 14 (a 14, .inl (cA, G.1 14, .inl f)) = rw a cA cZ G (pw_sa u 13 f) := rfl
theorem rw_D {a : Nat → Nat} {cA cZ : ClassId} {G : pG} {u : pS} {A : Nat → Prop} (hI : pw_I 15 a) (hF : ∀ k, k < 15 → A (a k)) : va_D A (rw a cA cZ G u) := pw_addrs rfl hI hF
abbrev b_Model_ahead : ByteArray := prog_13_method_24_code
abbrev y_Model_ahead : MethodName := ⟨"PictureInlaysModel", "ahead", "(IIIIZ)Z"⟩
abbrev w_Model_ahead : List Cond := .code ⟨"PictureInlaysModel", "ahead", "(IIIIZ)Z"⟩ prog_13_method_24_code 8 (some .boolean) :: pw_T
abbrev b_Model_apart : ByteArray := prog_13_method_8_code
abbrev y_Model_apart : MethodName := ⟨"PictureInlaysModel", "apart", "(II)I"⟩
abbrev w_Model_apart : List Cond := .code ⟨"PictureInlaysModel", "apart", "(II)I"⟩ prog_13_method_8_code 6 (some .int) :: pw_T
abbrev b_Model_at : ByteArray := prog_13_method_37_code
abbrev y_Model_at : MethodName := ⟨"PictureInlaysModel", "at", "(II)I"⟩
abbrev w_Model_at : List Cond := .code ⟨"PictureInlaysModel", "at", "(II)I"⟩ prog_13_method_37_code 3 (some .int) :: pw_T
abbrev b_Model_beside : ByteArray := prog_13_method_10_code
abbrev y_Model_beside : MethodName := ⟨"PictureInlaysModel", "beside", "(II)I"⟩
abbrev w_Model_beside : List Cond := .code ⟨"PictureInlaysModel", "beside", "(II)I"⟩ prog_13_method_10_code 5 (some .int) :: pw_T
abbrev b_Model_border : ByteArray := prog_13_method_39_code
abbrev y_Model_border : MethodName := ⟨"PictureInlaysModel", "border", "(III)I"⟩
abbrev w_Model_border : List Cond := .code ⟨"PictureInlaysModel", "border", "(III)I"⟩ prog_13_method_39_code 8 (some .int) :: pw_T
abbrev b_Model_brightness : ByteArray := prog_13_method_40_code
abbrev y_Model_brightness : MethodName := ⟨"PictureInlaysModel", "brightness", "(I)I"⟩
abbrev w_Model_brightness : List Cond := .code ⟨"PictureInlaysModel", "brightness", "(I)I"⟩ prog_13_method_40_code 2 (some .int) :: pw_T
abbrev b_Model_comesBefore : ByteArray := prog_13_method_32_code
abbrev y_Model_comesBefore : MethodName := ⟨"PictureInlaysModel", "comesBefore", "(II)Z"⟩
abbrev w_Model_comesBefore : List Cond := .code ⟨"PictureInlaysModel", "comesBefore", "(II)Z"⟩ prog_13_method_32_code 7 (some .boolean) :: pw_T
abbrev b_Model_common : ByteArray := prog_13_method_38_code
abbrev y_Model_common : MethodName := ⟨"PictureInlaysModel", "common", "(II)I"⟩
abbrev w_Model_common : List Cond := .code ⟨"PictureInlaysModel", "common", "(II)I"⟩ prog_13_method_38_code 5 (some .int) :: pw_T
abbrev b_Model_corner : ByteArray := prog_13_method_27_code
abbrev y_Model_corner : MethodName := ⟨"PictureInlaysModel", "corner", "(III)I"⟩
abbrev w_Model_corner : List Cond := .code ⟨"PictureInlaysModel", "corner", "(III)I"⟩ prog_13_method_27_code 4 (some .int) :: pw_T
abbrev b_Model_end : ByteArray := prog_13_method_19_code
abbrev y_Model_end : MethodName := ⟨"PictureInlaysModel", "end", "(II)I"⟩
abbrev w_Model_end : List Cond := .code ⟨"PictureInlaysModel", "end", "(II)I"⟩ prog_13_method_19_code 6 (some .int) :: pw_T
abbrev b_Model_isAtEdge : ByteArray := prog_13_method_20_code
abbrev y_Model_isAtEdge : MethodName := ⟨"PictureInlaysModel", "isAtEdge", "(I)Z"⟩
abbrev w_Model_isAtEdge : List Cond := .code ⟨"PictureInlaysModel", "isAtEdge", "(I)Z"⟩ prog_13_method_20_code 2 (some .boolean) :: pw_T
abbrev b_Model_isColour : ByteArray := prog_13_method_4_code
abbrev y_Model_isColour : MethodName := ⟨"PictureInlaysModel", "isColour", "(I)Z"⟩
abbrev w_Model_isColour : List Cond := .code ⟨"PictureInlaysModel", "isColour", "(I)Z"⟩ prog_13_method_4_code 1 (some .boolean) :: pw_T
abbrev b_Model_isLaidBefore : ByteArray := prog_13_method_34_code
abbrev y_Model_isLaidBefore : MethodName := ⟨"PictureInlaysModel", "isLaidBefore", "(II)Z"⟩
abbrev w_Model_isLaidBefore : List Cond := .code ⟨"PictureInlaysModel", "isLaidBefore", "(II)Z"⟩ prog_13_method_34_code 7 (some .boolean) :: pw_T
abbrev b_Model_isOf : ByteArray := prog_13_method_23_code
abbrev y_Model_isOf : MethodName := ⟨"PictureInlaysModel", "isOf", "(III)Z"⟩
abbrev w_Model_isOf : List Cond := .code ⟨"PictureInlaysModel", "isOf", "(III)Z"⟩ prog_13_method_23_code 4 (some .boolean) :: pw_T
abbrev b_Model_isPlace : ByteArray := prog_13_method_5_code
abbrev y_Model_isPlace : MethodName := ⟨"PictureInlaysModel", "isPlace", "(II)Z"⟩
abbrev w_Model_isPlace : List Cond := .code ⟨"PictureInlaysModel", "isPlace", "(II)Z"⟩ prog_13_method_5_code 3 (some .boolean) :: pw_T
abbrev b_Model_isReached : ByteArray := prog_13_method_29_code
abbrev y_Model_isReached : MethodName := ⟨"PictureInlaysModel", "isReached", "(IIII)Z"⟩
abbrev w_Model_isReached : List Cond := .code ⟨"PictureInlaysModel", "isReached", "(IIII)Z"⟩ prog_13_method_29_code 8 (some .boolean) :: pw_T
abbrev b_Model_isRoom : ByteArray := prog_13_method_28_code
abbrev y_Model_isRoom : MethodName := ⟨"PictureInlaysModel", "isRoom", "(IIII)Z"⟩
abbrev w_Model_isRoom : List Cond := .code ⟨"PictureInlaysModel", "isRoom", "(IIII)Z"⟩ prog_13_method_28_code 8 (some .boolean) :: pw_T
abbrev b_Model_join : ByteArray := prog_13_method_14_code
abbrev y_Model_join : MethodName := ⟨"PictureInlaysModel", "join", "(I)V"⟩
abbrev w_Model_join : List Cond := .code ⟨"PictureInlaysModel", "join", "(I)V"⟩ prog_13_method_14_code 6 none :: pw_T
abbrev b_Model_joined : ByteArray := prog_13_method_22_code
abbrev y_Model_joined : MethodName := ⟨"PictureInlaysModel", "joined", "(II)I"⟩
abbrev w_Model_joined : List Cond := .code ⟨"PictureInlaysModel", "joined", "(II)I"⟩ prog_13_method_22_code 7 (some .int) :: pw_T
abbrev b_Model_kind : ByteArray := prog_13_method_7_code
abbrev y_Model_kind : MethodName := ⟨"PictureInlaysModel", "kind", "(IIII)Z"⟩
abbrev w_Model_kind : List Cond := .code ⟨"PictureInlaysModel", "kind", "(IIII)Z"⟩ prog_13_method_7_code 5 (some .boolean) :: pw_T
abbrev b_Model_lay : ByteArray := prog_13_method_35_code
abbrev y_Model_lay : MethodName := ⟨"PictureInlaysModel", "lay", "(III)Z"⟩
abbrev w_Model_lay : List Cond := .code ⟨"PictureInlaysModel", "lay", "(III)Z"⟩ prog_13_method_35_code 8 (some .boolean) :: pw_T
abbrev b_Model_left : ByteArray := prog_13_method_30_code
abbrev y_Model_left : MethodName := ⟨"PictureInlaysModel", "left", "(II)I"⟩
abbrev w_Model_left : List Cond := .code ⟨"PictureInlaysModel", "left", "(II)I"⟩ prog_13_method_30_code 5 (some .int) :: pw_T
abbrev b_Model_lower : ByteArray := prog_13_method_11_code
abbrev y_Model_lower : MethodName := ⟨"PictureInlaysModel", "lower", "(I)Z"⟩
abbrev w_Model_lower : List Cond := .code ⟨"PictureInlaysModel", "lower", "(I)Z"⟩ prog_13_method_11_code 5 (some .boolean) :: pw_T
abbrev b_Model_makePieces : ByteArray := prog_13_method_12_code
abbrev y_Model_makePieces : MethodName := ⟨"PictureInlaysModel", "makePieces", "()V"⟩
abbrev w_Model_makePieces : List Cond := .code ⟨"PictureInlaysModel", "makePieces", "()V"⟩ prog_13_method_12_code 4 none :: pw_T
abbrev b_Model_nearestKind : ByteArray := prog_13_method_9_code
abbrev y_Model_nearestKind : MethodName := ⟨"PictureInlaysModel", "nearestKind", "(I)I"⟩
abbrev w_Model_nearestKind : List Cond := .code ⟨"PictureInlaysModel", "nearestKind", "(I)I"⟩ prog_13_method_9_code 4 (some .int) :: pw_T
abbrev b_Model_nest : ByteArray := prog_13_method_36_code
abbrev y_Model_nest : MethodName := ⟨"PictureInlaysModel", "nest", "(II)I"⟩
abbrev w_Model_nest : List Cond := .code ⟨"PictureInlaysModel", "nest", "(II)I"⟩ prog_13_method_36_code 9 (some .int) :: pw_T
abbrev b_Model_noPiece : ByteArray := prog_13_method_18_code
abbrev y_Model_noPiece : MethodName := ⟨"PictureInlaysModel", "noPiece", "(I)Z"⟩
abbrev w_Model_noPiece : List Cond := .code ⟨"PictureInlaysModel", "noPiece", "(I)Z"⟩ prog_13_method_18_code 2 (some .boolean) :: pw_T
abbrev b_Model_numberOf : ByteArray := prog_13_method_16_code
abbrev y_Model_numberOf : MethodName := ⟨"PictureInlaysModel", "numberOf", "(I)I"⟩
abbrev w_Model_numberOf : List Cond := .code ⟨"PictureInlaysModel", "numberOf", "(I)I"⟩ prog_13_method_16_code 3 (some .int) :: pw_T
abbrev b_Model_order : ByteArray := prog_13_method_33_code
abbrev y_Model_order : MethodName := ⟨"PictureInlaysModel", "order", "(I)I"⟩
abbrev w_Model_order : List Cond := .code ⟨"PictureInlaysModel", "order", "(I)I"⟩ prog_13_method_33_code 6 (some .int) :: pw_T
abbrev b_Model_outline : ByteArray := prog_13_method_26_code
abbrev y_Model_outline : MethodName := ⟨"PictureInlaysModel", "outline", "(I)I"⟩
abbrev w_Model_outline : List Cond := .code ⟨"PictureInlaysModel", "outline", "(I)I"⟩ prog_13_method_26_code 2 (some .int) :: pw_T
abbrev b_Model_part : ByteArray := prog_13_method_15_code
abbrev y_Model_part : MethodName := ⟨"PictureInlaysModel", "part", "(I)I"⟩
abbrev w_Model_part : List Cond := .code ⟨"PictureInlaysModel", "part", "(I)I"⟩ prog_13_method_15_code 3 (some .int) :: pw_T
abbrev b_Model_piece : ByteArray := prog_13_method_21_code
abbrev y_Model_piece : MethodName := ⟨"PictureInlaysModel", "piece", "(II)I"⟩
abbrev w_Model_piece : List Cond := .code ⟨"PictureInlaysModel", "piece", "(II)I"⟩ prog_13_method_21_code 3 (some .int) :: pw_T
abbrev b_Model_pieceOf : ByteArray := prog_13_method_17_code
abbrev y_Model_pieceOf : MethodName := ⟨"PictureInlaysModel", "pieceOf", "(II)I"⟩
abbrev w_Model_pieceOf : List Cond := .code ⟨"PictureInlaysModel", "pieceOf", "(II)I"⟩ prog_13_method_17_code 3 (some .int) :: pw_T
abbrev b_Model_pixel : ByteArray := prog_13_method_6_code
abbrev y_Model_pixel : MethodName := ⟨"PictureInlaysModel", "pixel", "(IIIII)Z"⟩
abbrev w_Model_pixel : List Cond := .code ⟨"PictureInlaysModel", "pixel", "(IIIII)Z"⟩ prog_13_method_6_code 7 (some .boolean) :: pw_T
abbrev b_Model_reached : ByteArray := prog_13_method_31_code
abbrev y_Model_reached : MethodName := ⟨"PictureInlaysModel", "reached", "(III)Z"⟩
abbrev w_Model_reached : List Cond := .code ⟨"PictureInlaysModel", "reached", "(III)Z"⟩ prog_13_method_31_code 4 (some .boolean) :: pw_T
abbrev b_Model_smallest : ByteArray := prog_13_method_13_code
abbrev y_Model_smallest : MethodName := ⟨"PictureInlaysModel", "smallest", "(I)I"⟩
abbrev w_Model_smallest : List Cond := .code ⟨"PictureInlaysModel", "smallest", "(I)I"⟩ prog_13_method_13_code 5 (some .int) :: pw_T
abbrev b_Model_sorted : ByteArray := prog_13_method_41_code
abbrev y_Model_sorted : MethodName := ⟨"PictureInlaysModel", "sorted", "(I)I"⟩
abbrev w_Model_sorted : List Cond := .code ⟨"PictureInlaysModel", "sorted", "(I)I"⟩ prog_13_method_41_code 6 (some .int) :: pw_T
abbrev b_Model_thrown : ByteArray := prog_13_method_3_code
abbrev y_Model_thrown : MethodName := ⟨"PictureInlaysModel", "thrown", "()I"⟩
abbrev w_Model_thrown : List Cond := .code ⟨"PictureInlaysModel", "thrown", "()I"⟩ prog_13_method_3_code 1 (some .int) :: pw_T
abbrev b_Model_walk : ByteArray := prog_13_method_25_code
abbrev y_Model_walk : MethodName := ⟨"PictureInlaysModel", "walk", "(I)V"⟩
abbrev w_Model_walk : List Cond := .code ⟨"PictureInlaysModel", "walk", "(I)V"⟩ prog_13_method_25_code 9 none :: pw_T
theorem kw_23 : (.selects "PictureInlaysModel" ⟨"PictureInlaysModel", "isPlace", "(II)Z"⟩ ⟨"PictureInlaysModel", "isPlace", "(II)Z"⟩ : Cond) ∈ pw_T := pw_mem (i := 23) (by decide +kernel) (by decide +kernel)
theorem kw_24 : (.selects "PictureInlaysModel" ⟨"PictureInlaysModel", "nearestKind", "(I)I"⟩ ⟨"PictureInlaysModel", "nearestKind", "(I)I"⟩ : Cond) ∈ pw_T := pw_mem (i := 24) (by decide +kernel) (by decide +kernel)
theorem kw_25 : (.selects "PictureInlaysModel" ⟨"PictureInlaysModel", "apart", "(II)I"⟩ ⟨"PictureInlaysModel", "apart", "(II)I"⟩ : Cond) ∈ pw_T := pw_mem (i := 25) (by decide +kernel) (by decide +kernel)
theorem kw_26 : (.selects "PictureInlaysModel" ⟨"PictureInlaysModel", "makePieces", "()V"⟩ ⟨"PictureInlaysModel", "makePieces", "()V"⟩ : Cond) ∈ pw_T := pw_mem (i := 26) (by decide +kernel) (by decide +kernel)
theorem kw_27 : (.selects "PictureInlaysModel" ⟨"PictureInlaysModel", "lower", "(I)Z"⟩ ⟨"PictureInlaysModel", "lower", "(I)Z"⟩ : Cond) ∈ pw_T := pw_mem (i := 27) (by decide +kernel) (by decide +kernel)
theorem kw_28 : (.selects "PictureInlaysModel" ⟨"PictureInlaysModel", "beside", "(II)I"⟩ ⟨"PictureInlaysModel", "beside", "(II)I"⟩ : Cond) ∈ pw_T := pw_mem (i := 28) (by decide +kernel) (by decide +kernel)
theorem kw_29 : (.selects "PictureInlaysModel" ⟨"PictureInlaysModel", "smallest", "(I)I"⟩ ⟨"PictureInlaysModel", "smallest", "(I)I"⟩ : Cond) ∈ pw_T := pw_mem (i := 29) (by decide +kernel) (by decide +kernel)
theorem kw_30 : (.selects "PictureInlaysModel" ⟨"PictureInlaysModel", "join", "(I)V"⟩ ⟨"PictureInlaysModel", "join", "(I)V"⟩ : Cond) ∈ pw_T := pw_mem (i := 30) (by decide +kernel) (by decide +kernel)
theorem kw_31 : (.selects "PictureInlaysModel" ⟨"PictureInlaysModel", "numberOf", "(I)I"⟩ ⟨"PictureInlaysModel", "numberOf", "(I)I"⟩ : Cond) ∈ pw_T := pw_mem (i := 31) (by decide +kernel) (by decide +kernel)
theorem kw_32 : (.selects "PictureInlaysModel" ⟨"PictureInlaysModel", "noPiece", "(I)Z"⟩ ⟨"PictureInlaysModel", "noPiece", "(I)Z"⟩ : Cond) ∈ pw_T := pw_mem (i := 32) (by decide +kernel) (by decide +kernel)
theorem kw_33 : (.selects "PictureInlaysModel" ⟨"PictureInlaysModel", "end", "(II)I"⟩ ⟨"PictureInlaysModel", "end", "(II)I"⟩ : Cond) ∈ pw_T := pw_mem (i := 33) (by decide +kernel) (by decide +kernel)
theorem kw_34 : (.selects "PictureInlaysModel" ⟨"PictureInlaysModel", "isAtEdge", "(I)Z"⟩ ⟨"PictureInlaysModel", "isAtEdge", "(I)Z"⟩ : Cond) ∈ pw_T := pw_mem (i := 34) (by decide +kernel) (by decide +kernel)
theorem kw_35 : (.selects "PictureInlaysModel" ⟨"PictureInlaysModel", "walk", "(I)V"⟩ ⟨"PictureInlaysModel", "walk", "(I)V"⟩ : Cond) ∈ pw_T := pw_mem (i := 35) (by decide +kernel) (by decide +kernel)
theorem kw_36 : (.selects "PictureInlaysModel" ⟨"PictureInlaysModel", "ahead", "(IIIIZ)Z"⟩ ⟨"PictureInlaysModel", "ahead", "(IIIIZ)Z"⟩ : Cond) ∈ pw_T := pw_mem (i := 36) (by decide +kernel) (by decide +kernel)
theorem kw_37 : (.selects "PictureInlaysModel" ⟨"PictureInlaysModel", "isOf", "(III)Z"⟩ ⟨"PictureInlaysModel", "isOf", "(III)Z"⟩ : Cond) ∈ pw_T := pw_mem (i := 37) (by decide +kernel) (by decide +kernel)
theorem kw_38 : (.selects "PictureInlaysModel" ⟨"PictureInlaysModel", "isReached", "(IIII)Z"⟩ ⟨"PictureInlaysModel", "isReached", "(IIII)Z"⟩ : Cond) ∈ pw_T := pw_mem (i := 38) (by decide +kernel) (by decide +kernel)
theorem kw_39 : (.selects "PictureInlaysModel" ⟨"PictureInlaysModel", "isRoom", "(IIII)Z"⟩ ⟨"PictureInlaysModel", "isRoom", "(IIII)Z"⟩ : Cond) ∈ pw_T := pw_mem (i := 39) (by decide +kernel) (by decide +kernel)
theorem kw_40 : (.selects "PictureInlaysModel" ⟨"PictureInlaysModel", "comesBefore", "(II)Z"⟩ ⟨"PictureInlaysModel", "comesBefore", "(II)Z"⟩ : Cond) ∈ pw_T := pw_mem (i := 40) (by decide +kernel) (by decide +kernel)
theorem kw_41 : (.selects "PictureInlaysModel" ⟨"PictureInlaysModel", "isLaidBefore", "(II)Z"⟩ ⟨"PictureInlaysModel", "isLaidBefore", "(II)Z"⟩ : Cond) ∈ pw_T := pw_mem (i := 41) (by decide +kernel) (by decide +kernel)
theorem kw_42 : (.selects "PictureInlaysModel" ⟨"PictureInlaysModel", "lay", "(III)Z"⟩ ⟨"PictureInlaysModel", "lay", "(III)Z"⟩ : Cond) ∈ pw_T := pw_mem (i := 42) (by decide +kernel) (by decide +kernel)
theorem kw_43 : (.selects "PictureInlaysModel" ⟨"PictureInlaysModel", "brightness", "(I)I"⟩ ⟨"PictureInlaysModel", "brightness", "(I)I"⟩ : Cond) ∈ pw_T := pw_mem (i := 43) (by decide +kernel) (by decide +kernel)
theorem kw_57 : (.initialized "PictureInlaysModel" : Cond) ∈ pw_T := pw_mem (i := 57) (by decide +kernel) (by decide +kernel)
theorem kw_835 : (.fieldLink "PictureInlaysModel" 66 "PictureInlaysModel" "code" "I" : Cond) ∈ pw_T := pw_mem (i := 835) (by decide +kernel) (by decide +kernel)
theorem kw_836 : (.fieldLink "PictureInlaysModel" 56 "PictureInlaysModel" "wide" "I" : Cond) ∈ pw_T := pw_mem (i := 836) (by decide +kernel) (by decide +kernel)
theorem kw_837 : (.fieldLink "PictureInlaysModel" 60 "PictureInlaysModel" "high" "I" : Cond) ∈ pw_T := pw_mem (i := 837) (by decide +kernel) (by decide +kernel)
theorem kw_838 : (.fieldLink "PictureInlaysModel" 63 "PictureInlaysModel" "kinds" "I" : Cond) ∈ pw_T := pw_mem (i := 838) (by decide +kernel) (by decide +kernel)
theorem kw_839 : (.fieldLink "PictureInlaysModel" 7 "PictureInlaysModel" "colours" "[I" : Cond) ∈ pw_T := pw_mem (i := 839) (by decide +kernel) (by decide +kernel)
theorem kw_840 : (.fieldLink "PictureInlaysModel" 13 "PictureInlaysModel" "kindColours" "[I" : Cond) ∈ pw_T := pw_mem (i := 840) (by decide +kernel) (by decide +kernel)
theorem kw_841 : (.fieldLink "PictureInlaysModel" 16 "PictureInlaysModel" "kindOf" "[I" : Cond) ∈ pw_T := pw_mem (i := 841) (by decide +kernel) (by decide +kernel)
theorem kw_842 : (.fieldLink "PictureInlaysModel" 19 "PictureInlaysModel" "firstOf" "[I" : Cond) ∈ pw_T := pw_mem (i := 842) (by decide +kernel) (by decide +kernel)
theorem kw_843 : (.fieldLink "PictureInlaysModel" 90 "PictureInlaysModel" "pieces" "I" : Cond) ∈ pw_T := pw_mem (i := 843) (by decide +kernel) (by decide +kernel)
theorem kw_844 : (.fieldLink "PictureInlaysModel" 22 "PictureInlaysModel" "firsts" "[I" : Cond) ∈ pw_T := pw_mem (i := 844) (by decide +kernel) (by decide +kernel)
theorem kw_845 : (.fieldLink "PictureInlaysModel" 25 "PictureInlaysModel" "sizes" "[I" : Cond) ∈ pw_T := pw_mem (i := 845) (by decide +kernel) (by decide +kernel)
theorem kw_846 : (.fieldLink "PictureInlaysModel" 28 "PictureInlaysModel" "shared" "[I" : Cond) ∈ pw_T := pw_mem (i := 846) (by decide +kernel) (by decide +kernel)
theorem kw_847 : (.fieldLink "PictureInlaysModel" 77 "PictureInlaysModel" "parted" "Z" : Cond) ∈ pw_T := pw_mem (i := 847) (by decide +kernel) (by decide +kernel)
theorem kw_848 : (.fieldLink "PictureInlaysModel" 31 "PictureInlaysModel" "cornerX" "[I" : Cond) ∈ pw_T := pw_mem (i := 848) (by decide +kernel) (by decide +kernel)
theorem kw_849 : (.fieldLink "PictureInlaysModel" 34 "PictureInlaysModel" "cornerY" "[I" : Cond) ∈ pw_T := pw_mem (i := 849) (by decide +kernel) (by decide +kernel)
theorem kw_850 : (.fieldLink "PictureInlaysModel" 126 "PictureInlaysModel" "corners" "I" : Cond) ∈ pw_T := pw_mem (i := 850) (by decide +kernel) (by decide +kernel)
theorem kw_851 : (.fieldLink "PictureInlaysModel" 107 "PictureInlaysModel" "nested" "Z" : Cond) ∈ pw_T := pw_mem (i := 851) (by decide +kernel) (by decide +kernel)
theorem kw_852 : (.fieldLink "PictureInlaysModel" 37 "PictureInlaysModel" "atX" "[I" : Cond) ∈ pw_T := pw_mem (i := 852) (by decide +kernel) (by decide +kernel)
theorem kw_853 : (.fieldLink "PictureInlaysModel" 40 "PictureInlaysModel" "atY" "[I" : Cond) ∈ pw_T := pw_mem (i := 853) (by decide +kernel) (by decide +kernel)
theorem kw_854 : (.fieldLink "PictureInlaysModel" 146 "PictureInlaysModel" "rows" "I" : Cond) ∈ pw_T := pw_mem (i := 854) (by decide +kernel) (by decide +kernel)
theorem kw_855 : (.fieldLink "PictureInlaysModel" 43 "PictureInlaysModel" "rowTop" "[I" : Cond) ∈ pw_T := pw_mem (i := 855) (by decide +kernel) (by decide +kernel)
theorem kw_856 : (.fieldLink "PictureInlaysModel" 46 "PictureInlaysModel" "rowHigh" "[I" : Cond) ∈ pw_T := pw_mem (i := 856) (by decide +kernel) (by decide +kernel)
theorem kw_857 : (.fieldLink "PictureInlaysModel" 49 "PictureInlaysModel" "rowUsed" "[I" : Cond) ∈ pw_T := pw_mem (i := 857) (by decide +kernel) (by decide +kernel)
theorem kw_913 : (.methodLink "PictureInlaysModel" 69 ⟨"PictureInlaysModel", "isPlace", "(II)Z"⟩ : Cond) ∈ pw_T := pw_mem (i := 913) (by decide +kernel) (by decide +kernel)
theorem kw_915 : (.instanceMethod ⟨"PictureInlaysModel", "isPlace", "(II)Z"⟩ : Cond) ∈ pw_T := pw_mem (i := 915) (by decide +kernel) (by decide +kernel)
theorem kw_916 : (.code ⟨"PictureInlaysModel", "isPlace", "(II)Z"⟩ prog_13_method_5_code 3 (some .boolean) : Cond) ∈ pw_T := pw_mem (i := 916) (by decide +kernel) (by decide +kernel)
theorem kw_917 : (.methodLink "PictureInlaysModel" 73 ⟨"PictureInlaysModel", "isColour", "(I)Z"⟩ : Cond) ∈ pw_T := pw_mem (i := 917) (by decide +kernel) (by decide +kernel)
theorem kw_918 : (.static ⟨"PictureInlaysModel", "isColour", "(I)Z"⟩ : Cond) ∈ pw_T := pw_mem (i := 918) (by decide +kernel) (by decide +kernel)
theorem kw_919 : (.code ⟨"PictureInlaysModel", "isColour", "(I)Z"⟩ prog_13_method_4_code 1 (some .boolean) : Cond) ∈ pw_T := pw_mem (i := 919) (by decide +kernel) (by decide +kernel)
theorem kw_928 : (.methodLink "PictureInlaysModel" 93 ⟨"PictureInlaysModel", "nearestKind", "(I)I"⟩ : Cond) ∈ pw_T := pw_mem (i := 928) (by decide +kernel) (by decide +kernel)
theorem kw_930 : (.instanceMethod ⟨"PictureInlaysModel", "nearestKind", "(I)I"⟩ : Cond) ∈ pw_T := pw_mem (i := 930) (by decide +kernel) (by decide +kernel)
theorem kw_931 : (.code ⟨"PictureInlaysModel", "nearestKind", "(I)I"⟩ prog_13_method_9_code 4 (some .int) : Cond) ∈ pw_T := pw_mem (i := 931) (by decide +kernel) (by decide +kernel)
theorem kw_932 : (.methodLink "PictureInlaysModel" 81 ⟨"PictureInlaysModel", "apart", "(II)I"⟩ : Cond) ∈ pw_T := pw_mem (i := 932) (by decide +kernel) (by decide +kernel)
theorem kw_934 : (.instanceMethod ⟨"PictureInlaysModel", "apart", "(II)I"⟩ : Cond) ∈ pw_T := pw_mem (i := 934) (by decide +kernel) (by decide +kernel)
theorem kw_935 : (.code ⟨"PictureInlaysModel", "apart", "(II)I"⟩ prog_13_method_8_code 6 (some .int) : Cond) ∈ pw_T := pw_mem (i := 935) (by decide +kernel) (by decide +kernel)
theorem kw_936 : (.methodLink "PictureInlaysModel" 97 ⟨"PictureInlaysModel", "makePieces", "()V"⟩ : Cond) ∈ pw_T := pw_mem (i := 936) (by decide +kernel) (by decide +kernel)
theorem kw_938 : (.instanceMethod ⟨"PictureInlaysModel", "makePieces", "()V"⟩ : Cond) ∈ pw_T := pw_mem (i := 938) (by decide +kernel) (by decide +kernel)
theorem kw_939 : (.code ⟨"PictureInlaysModel", "makePieces", "()V"⟩ prog_13_method_12_code 4 none : Cond) ∈ pw_T := pw_mem (i := 939) (by decide +kernel) (by decide +kernel)
theorem kw_940 : (.methodLink "PictureInlaysModel" 87 ⟨"PictureInlaysModel", "lower", "(I)Z"⟩ : Cond) ∈ pw_T := pw_mem (i := 940) (by decide +kernel) (by decide +kernel)
theorem kw_942 : (.instanceMethod ⟨"PictureInlaysModel", "lower", "(I)Z"⟩ : Cond) ∈ pw_T := pw_mem (i := 942) (by decide +kernel) (by decide +kernel)
theorem kw_943 : (.code ⟨"PictureInlaysModel", "lower", "(I)Z"⟩ prog_13_method_11_code 5 (some .boolean) : Cond) ∈ pw_T := pw_mem (i := 943) (by decide +kernel) (by decide +kernel)
theorem kw_944 : (.methodLink "PictureInlaysModel" 84 ⟨"PictureInlaysModel", "beside", "(II)I"⟩ : Cond) ∈ pw_T := pw_mem (i := 944) (by decide +kernel) (by decide +kernel)
theorem kw_946 : (.instanceMethod ⟨"PictureInlaysModel", "beside", "(II)I"⟩ : Cond) ∈ pw_T := pw_mem (i := 946) (by decide +kernel) (by decide +kernel)
theorem kw_947 : (.code ⟨"PictureInlaysModel", "beside", "(II)I"⟩ prog_13_method_10_code 5 (some .int) : Cond) ∈ pw_T := pw_mem (i := 947) (by decide +kernel) (by decide +kernel)
theorem kw_948 : (.methodLink "PictureInlaysModel" 100 ⟨"PictureInlaysModel", "smallest", "(I)I"⟩ : Cond) ∈ pw_T := pw_mem (i := 948) (by decide +kernel) (by decide +kernel)
theorem kw_950 : (.instanceMethod ⟨"PictureInlaysModel", "smallest", "(I)I"⟩ : Cond) ∈ pw_T := pw_mem (i := 950) (by decide +kernel) (by decide +kernel)
theorem kw_951 : (.code ⟨"PictureInlaysModel", "smallest", "(I)I"⟩ prog_13_method_13_code 5 (some .int) : Cond) ∈ pw_T := pw_mem (i := 951) (by decide +kernel) (by decide +kernel)
theorem kw_952 : (.methodLink "PictureInlaysModel" 103 ⟨"PictureInlaysModel", "join", "(I)V"⟩ : Cond) ∈ pw_T := pw_mem (i := 952) (by decide +kernel) (by decide +kernel)
theorem kw_954 : (.instanceMethod ⟨"PictureInlaysModel", "join", "(I)V"⟩ : Cond) ∈ pw_T := pw_mem (i := 954) (by decide +kernel) (by decide +kernel)
theorem kw_955 : (.code ⟨"PictureInlaysModel", "join", "(I)V"⟩ prog_13_method_14_code 6 none : Cond) ∈ pw_T := pw_mem (i := 955) (by decide +kernel) (by decide +kernel)
theorem kw_960 : (.methodLink "PictureInlaysModel" 110 ⟨"PictureInlaysModel", "numberOf", "(I)I"⟩ : Cond) ∈ pw_T := pw_mem (i := 960) (by decide +kernel) (by decide +kernel)
theorem kw_962 : (.instanceMethod ⟨"PictureInlaysModel", "numberOf", "(I)I"⟩ : Cond) ∈ pw_T := pw_mem (i := 962) (by decide +kernel) (by decide +kernel)
theorem kw_963 : (.code ⟨"PictureInlaysModel", "numberOf", "(I)I"⟩ prog_13_method_16_code 3 (some .int) : Cond) ∈ pw_T := pw_mem (i := 963) (by decide +kernel) (by decide +kernel)
theorem kw_968 : (.methodLink "PictureInlaysModel" 116 ⟨"PictureInlaysModel", "noPiece", "(I)Z"⟩ : Cond) ∈ pw_T := pw_mem (i := 968) (by decide +kernel) (by decide +kernel)
theorem kw_970 : (.instanceMethod ⟨"PictureInlaysModel", "noPiece", "(I)Z"⟩ : Cond) ∈ pw_T := pw_mem (i := 970) (by decide +kernel) (by decide +kernel)
theorem kw_971 : (.code ⟨"PictureInlaysModel", "noPiece", "(I)Z"⟩ prog_13_method_18_code 2 (some .boolean) : Cond) ∈ pw_T := pw_mem (i := 971) (by decide +kernel) (by decide +kernel)
theorem kw_972 : (.methodLink "PictureInlaysModel" 113 ⟨"PictureInlaysModel", "end", "(II)I"⟩ : Cond) ∈ pw_T := pw_mem (i := 972) (by decide +kernel) (by decide +kernel)
theorem kw_974 : (.instanceMethod ⟨"PictureInlaysModel", "end", "(II)I"⟩ : Cond) ∈ pw_T := pw_mem (i := 974) (by decide +kernel) (by decide +kernel)
theorem kw_975 : (.code ⟨"PictureInlaysModel", "end", "(II)I"⟩ prog_13_method_19_code 6 (some .int) : Cond) ∈ pw_T := pw_mem (i := 975) (by decide +kernel) (by decide +kernel)
theorem kw_976 : (.methodLink "PictureInlaysModel" 119 ⟨"PictureInlaysModel", "isAtEdge", "(I)Z"⟩ : Cond) ∈ pw_T := pw_mem (i := 976) (by decide +kernel) (by decide +kernel)
theorem kw_978 : (.instanceMethod ⟨"PictureInlaysModel", "isAtEdge", "(I)Z"⟩ : Cond) ∈ pw_T := pw_mem (i := 978) (by decide +kernel) (by decide +kernel)
theorem kw_979 : (.code ⟨"PictureInlaysModel", "isAtEdge", "(I)Z"⟩ prog_13_method_20_code 2 (some .boolean) : Cond) ∈ pw_T := pw_mem (i := 979) (by decide +kernel) (by decide +kernel)
theorem kw_988 : (.methodLink "PictureInlaysModel" 133 ⟨"PictureInlaysModel", "walk", "(I)V"⟩ : Cond) ∈ pw_T := pw_mem (i := 988) (by decide +kernel) (by decide +kernel)
theorem kw_990 : (.instanceMethod ⟨"PictureInlaysModel", "walk", "(I)V"⟩ : Cond) ∈ pw_T := pw_mem (i := 990) (by decide +kernel) (by decide +kernel)
theorem kw_991 : (.code ⟨"PictureInlaysModel", "walk", "(I)V"⟩ prog_13_method_25_code 9 none : Cond) ∈ pw_T := pw_mem (i := 991) (by decide +kernel) (by decide +kernel)
theorem kw_992 : (.methodLink "PictureInlaysModel" 129 ⟨"PictureInlaysModel", "ahead", "(IIIIZ)Z"⟩ : Cond) ∈ pw_T := pw_mem (i := 992) (by decide +kernel) (by decide +kernel)
theorem kw_994 : (.instanceMethod ⟨"PictureInlaysModel", "ahead", "(IIIIZ)Z"⟩ : Cond) ∈ pw_T := pw_mem (i := 994) (by decide +kernel) (by decide +kernel)
theorem kw_995 : (.code ⟨"PictureInlaysModel", "ahead", "(IIIIZ)Z"⟩ prog_13_method_24_code 8 (some .boolean) : Cond) ∈ pw_T := pw_mem (i := 995) (by decide +kernel) (by decide +kernel)
theorem kw_996 : (.methodLink "PictureInlaysModel" 122 ⟨"PictureInlaysModel", "isOf", "(III)Z"⟩ : Cond) ∈ pw_T := pw_mem (i := 996) (by decide +kernel) (by decide +kernel)
theorem kw_998 : (.instanceMethod ⟨"PictureInlaysModel", "isOf", "(III)Z"⟩ : Cond) ∈ pw_T := pw_mem (i := 998) (by decide +kernel) (by decide +kernel)
theorem kw_999 : (.code ⟨"PictureInlaysModel", "isOf", "(III)Z"⟩ prog_13_method_23_code 4 (some .boolean) : Cond) ∈ pw_T := pw_mem (i := 999) (by decide +kernel) (by decide +kernel)
theorem kw_1008 : (.methodLink "PictureInlaysModel" 140 ⟨"PictureInlaysModel", "isReached", "(IIII)Z"⟩ : Cond) ∈ pw_T := pw_mem (i := 1008) (by decide +kernel) (by decide +kernel)
theorem kw_1010 : (.instanceMethod ⟨"PictureInlaysModel", "isReached", "(IIII)Z"⟩ : Cond) ∈ pw_T := pw_mem (i := 1010) (by decide +kernel) (by decide +kernel)
theorem kw_1011 : (.code ⟨"PictureInlaysModel", "isReached", "(IIII)Z"⟩ prog_13_method_29_code 8 (some .boolean) : Cond) ∈ pw_T := pw_mem (i := 1011) (by decide +kernel) (by decide +kernel)
theorem kw_1012 : (.methodLink "PictureInlaysModel" 136 ⟨"PictureInlaysModel", "isRoom", "(IIII)Z"⟩ : Cond) ∈ pw_T := pw_mem (i := 1012) (by decide +kernel) (by decide +kernel)
theorem kw_1014 : (.instanceMethod ⟨"PictureInlaysModel", "isRoom", "(IIII)Z"⟩ : Cond) ∈ pw_T := pw_mem (i := 1014) (by decide +kernel) (by decide +kernel)
theorem kw_1015 : (.code ⟨"PictureInlaysModel", "isRoom", "(IIII)Z"⟩ prog_13_method_28_code 8 (some .boolean) : Cond) ∈ pw_T := pw_mem (i := 1015) (by decide +kernel) (by decide +kernel)
theorem kw_1024 : (.methodLink "PictureInlaysModel" 143 ⟨"PictureInlaysModel", "comesBefore", "(II)Z"⟩ : Cond) ∈ pw_T := pw_mem (i := 1024) (by decide +kernel) (by decide +kernel)
theorem kw_1026 : (.instanceMethod ⟨"PictureInlaysModel", "comesBefore", "(II)Z"⟩ : Cond) ∈ pw_T := pw_mem (i := 1026) (by decide +kernel) (by decide +kernel)
theorem kw_1027 : (.code ⟨"PictureInlaysModel", "comesBefore", "(II)Z"⟩ prog_13_method_32_code 7 (some .boolean) : Cond) ∈ pw_T := pw_mem (i := 1027) (by decide +kernel) (by decide +kernel)
theorem kw_1032 : (.methodLink "PictureInlaysModel" 149 ⟨"PictureInlaysModel", "isLaidBefore", "(II)Z"⟩ : Cond) ∈ pw_T := pw_mem (i := 1032) (by decide +kernel) (by decide +kernel)
theorem kw_1034 : (.instanceMethod ⟨"PictureInlaysModel", "isLaidBefore", "(II)Z"⟩ : Cond) ∈ pw_T := pw_mem (i := 1034) (by decide +kernel) (by decide +kernel)
theorem kw_1035 : (.code ⟨"PictureInlaysModel", "isLaidBefore", "(II)Z"⟩ prog_13_method_34_code 7 (some .boolean) : Cond) ∈ pw_T := pw_mem (i := 1035) (by decide +kernel) (by decide +kernel)
theorem kw_1036 : (.methodLink "PictureInlaysModel" 152 ⟨"PictureInlaysModel", "lay", "(III)Z"⟩ : Cond) ∈ pw_T := pw_mem (i := 1036) (by decide +kernel) (by decide +kernel)
theorem kw_1038 : (.instanceMethod ⟨"PictureInlaysModel", "lay", "(III)Z"⟩ : Cond) ∈ pw_T := pw_mem (i := 1038) (by decide +kernel) (by decide +kernel)
theorem kw_1039 : (.code ⟨"PictureInlaysModel", "lay", "(III)Z"⟩ prog_13_method_35_code 8 (some .boolean) : Cond) ∈ pw_T := pw_mem (i := 1039) (by decide +kernel) (by decide +kernel)
theorem kw_1048 : (.constant "PictureInlaysModel" 155 1000000 : Cond) ∈ pw_T := pw_mem (i := 1048) (by decide +kernel) (by decide +kernel)
theorem kw_1049 : (.methodLink "PictureInlaysModel" 156 ⟨"PictureInlaysModel", "common", "(II)I"⟩ : Cond) ∈ pw_T := pw_mem (i := 1049) (by decide +kernel) (by decide +kernel)
theorem kw_1050 : (.static ⟨"PictureInlaysModel", "common", "(II)I"⟩ : Cond) ∈ pw_T := pw_mem (i := 1050) (by decide +kernel) (by decide +kernel)
theorem kw_1051 : (.code ⟨"PictureInlaysModel", "common", "(II)I"⟩ prog_13_method_38_code 5 (some .int) : Cond) ∈ pw_T := pw_mem (i := 1051) (by decide +kernel) (by decide +kernel)
theorem kw_1056 : (.methodLink "PictureInlaysModel" 159 ⟨"PictureInlaysModel", "brightness", "(I)I"⟩ : Cond) ∈ pw_T := pw_mem (i := 1056) (by decide +kernel) (by decide +kernel)
theorem kw_1058 : (.instanceMethod ⟨"PictureInlaysModel", "brightness", "(I)I"⟩ : Cond) ∈ pw_T := pw_mem (i := 1058) (by decide +kernel) (by decide +kernel)
theorem kw_1059 : (.code ⟨"PictureInlaysModel", "brightness", "(I)I"⟩ prog_13_method_40_code 2 (some .int) : Cond) ∈ pw_T := pw_mem (i := 1059) (by decide +kernel) (by decide +kernel)
