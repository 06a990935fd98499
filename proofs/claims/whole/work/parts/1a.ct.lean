set_option maxHeartbeats 4000000 in
set_option maxRecDepth 100000 in
theorem st_PI_needIndex {p : Program} {l : Launch} {e : Env} {s : State} {m : MethodId} {args : Array Value} {below : List Frame} {meth : Method} {c : Code} {D : va_G} {a : Nat → Nat} {cA cZ : ClassId} {G : pG} {A : Nat → Prop} {Q : pS → Prop} {X : Nat → pS → Prop} (C : pw_C p s m args meth c b_PI_needIndex 2 R_PI none w_PI_needIndex A) (K : pw_K s D 40 a (cT cA cZ) A) (EX : cw_Ex A s) (hL : px_L l) (htr : e.platform.stackTraces = false) (hE : ∀ (pc : Nat), ∀ x ∈ c.exceptionTable.toList, covers x pc = false) (x0 x1 : Int32) (u : pS) (ls : Array Slot) (hP : va_P D vwCl (cw a cA cZ G u) s.heap) (hl : lv_has ls 2 [(0, .int x0), (1, .int x1)]) (h : wp_PI_needIndex G x0 x1 u Q X) : W p l e ({ frames := 6, cells := 1, slots := 6, locals := 82 } : Room) s m args below meth c s.heap [] 0 0 (px_Ev below args s D (cw a cA cZ G) (cT cA cZ) A Q X) (F0 m 0 ls []) := by
 obtain ⟨hx, hb, hr, hml, hown, hts, hlocks, hA⟩ := id C
 obtain ⟨hK, hI, hF⟩ := id K
 have hD : ∀ u, va_D A (cw a cA cZ G u) := fun u => cw_D hI hF
 have hz : ∀ oc t, px_T X (pw_B D (cw a cA cZ G) (cT cA cZ)) oc t → va_F A s t → (px_Qv Q X (pw_B D (cw a cA cZ G) (cT cA cZ)) A) args s oc t := fun oc t h1 h2 => ⟨Or.inr h1, h2⟩
 have hS : va_S A s.heap s.heap [] := va_S.rf
 have h : wp_PI_needIndex G x0 x1 u Q X := h
 refine lv_iload_n hx hb d_PI_needIndex_0 rfl (lv_at hl 0 rfl) ?_
 refine lv_if_lt (tgt := 9) hx hb d_PI_needIndex_1 (by decide) (fun c1 => ?_) (fun c1 => ?_)
 · have h := h.1 c1
   obtain ⟨q0, hq0⟩ := EX.1.2.1.1 ("PictureInlays", 234, "there is no such one") (by decide)
   exact px_thr (k := 1) (u := u) (tx := "there is no such one") (names := px_up) hx hb (by rw [hml]; exact hl.1.symm) hown (hts _ (List.mem_cons_of_mem _ kw_368)) (hts _ (List.mem_cons_of_mem _ kw_369)) (hts _ (List.mem_cons_of_mem _ kw_61)) hq0 (px_own (by decide) kw_410 hts EX.1) (by decide +kernel) (by decide +kernel) htr (hE _) hlocks (Nat.le_of_ble_eq_true rfl) (Nat.le_of_ble_eq_true rfl) (Nat.le_of_ble_eq_true rfl) (Nat.le_of_ble_eq_true rfl) hz hP hK h d_PI_needIndex_9 d_PI_needIndex_12 d_PI_needIndex_13 d_PI_needIndex_15 d_PI_needIndex_18
 · have h := h.2 c1
   refine lv_iload_n hx hb d_PI_needIndex_4 rfl (lv_at hl 0 rfl) ?_
   refine lv_iload_n hx hb d_PI_needIndex_5 rfl (lv_at hl 1 rfl) ?_
   refine lv_icmp_lt (tgt := 19) hx hb d_PI_needIndex_6 (by decide) (fun c2 => ?_) (fun c2 => ?_)
   · have h := h.1 c2
     exact px_mono (fun t h => px_ofMQ (fun _ _ h => h) h) (W.vret (Qc := px_Qv Q X (pw_B D (cw a cA cZ G) (cT cA cZ)) A) hx hb hr (fun t ht hW => ⟨Or.inl ⟨u, rfl, h, by rw [ht]; exact hP, va_K.moved hW.alike hK⟩, hS.F ht⟩) hS.2.2 d_PI_needIndex_19 hlocks)
   · have h := h.2 c2
     obtain ⟨q0, hq0⟩ := EX.1.2.1.1 ("PictureInlays", 234, "there is no such one") (by decide)
     exact px_thr (k := 1) (u := u) (tx := "there is no such one") (names := px_up) hx hb (by rw [hml]; exact hl.1.symm) hown (hts _ (List.mem_cons_of_mem _ kw_368)) (hts _ (List.mem_cons_of_mem _ kw_369)) (hts _ (List.mem_cons_of_mem _ kw_61)) hq0 (px_own (by decide) kw_410 hts EX.1) (by decide +kernel) (by decide +kernel) htr (hE _) hlocks (Nat.le_of_ble_eq_true rfl) (Nat.le_of_ble_eq_true rfl) (Nat.le_of_ble_eq_true rfl) (Nat.le_of_ble_eq_true rfl) hz hP hK h d_PI_needIndex_9 d_PI_needIndex_12 d_PI_needIndex_13 d_PI_needIndex_15 d_PI_needIndex_18
set_option maxHeartbeats 4000000 in
set_option maxRecDepth 100000 in
theorem ct_PI_needIndex (l : Launch) (D : va_G) (a : Nat → Nat) (cA cZ : ClassId) (G : pG) (sz : Nat) (x0 x1 : Int32) (u : pS) (Q : pS → Prop) (X : Nat → pS → Prop) (hL : px_L l) (hI : pw_I 40 a) (h : wp_PI_needIndex G x0 x1 u Q X) : px_Met l y_PI_needIndex w_PI_needIndex ({ frames := 6, cells := 1, slots := 6, locals := 82 } : Room) (va_Pc [.int x0, .int x1] (fun U => pw_pre D (cw a cA cZ G) (cT cA cZ) sz u U ∧ cw_Ex (pw_F 40 a sz) U)) (px_Qv Q X (pw_B D (cw a cA cZ G) (cT cA cZ)) (pw_F 40 a sz)) 0 0 1 6 (pw_F 40 a sz) := by
 refine px_ofW (cc := b_PI_needIndex) (maxL := 2) (ret := none) (by decide) rfl ?_
 intro p e s m args below meth c s₁ B hml hE hv
 obtain ⟨rfl, ⟨hsz, hP, hK⟩, EX⟩ := hv
 subst hsz
 have hl := lv_entry ([.int x0, .int x1]) (n := 2) (Nat.le_of_ble_eq_true rfl)
 rw [lg_entry_eq]
 generalize (lg_sl ([.int x0, .int x1]) ++ List.replicate (2 - (lg_sl ([.int x0, .int x1])).length) Slot.unset).toArray = ls at hl ⊢
 exact st_PI_needIndex (A := (pw_F 40 a s.heap.size)) ⟨B.exec, B.bytes, B.returns, hml, findClass_of_methodNamed B.named, atoms_spec (ws := w_PI_needIndex) B.pre, B.notSynchronized, fun q hq => Or.inr hq⟩ ⟨hK, hI, fun k hk => Or.inl ⟨k, hk, rfl⟩⟩ EX hL (hL e B.admits) (px_none hE) x0 x1 u ls hP hl h
set_option maxHeartbeats 4000000 in
set_option maxRecDepth 100000 in
theorem st_PI_needPlace {p : Program} {l : Launch} {e : Env} {s : State} {m : MethodId} {args : Array Value} {below : List Frame} {meth : Method} {c : Code} {D : va_G} {a : Nat → Nat} {cA cZ : ClassId} {G : pG} {A : Nat → Prop} {Q : pS → Prop} {X : Nat → pS → Prop} (C : pw_C p s m args meth c b_PI_needPlace 3 R_PI none w_PI_needPlace A) (K : pw_K s D 40 a (cT cA cZ) A) (EX : cw_Ex A s) (hL : px_L l) (htr : e.platform.stackTraces = false) (hE : ∀ (pc : Nat), ∀ x ∈ c.exceptionTable.toList, covers x pc = false) (x1 x2 : Int32) (u : pS) (ls : Array Slot) (hP : va_P D vwCl (cw a cA cZ G u) s.heap) (hl : lv_has ls 3 [(0, .ref (a 0)), (1, .int x1), (2, .int x2)]) (h : wp_PI_needPlace G x1 x2 u Q X) : W p l e ({ frames := 7, cells := 1, slots := 6, locals := 103 } : Room) s m args below meth c s.heap [] 0 0 (px_Ev below args s D (cw a cA cZ G) (cT cA cZ) A Q X) (F0 m 0 ls []) := by
 obtain ⟨hx, hb, hr, hml, hown, hts, hlocks, hA⟩ := id C
 obtain ⟨hK, hI, hF⟩ := id K
 have hD : ∀ u, va_D A (cw a cA cZ G u) := fun u => cw_D hI hF
 have hz : ∀ oc t, px_T X (pw_B D (cw a cA cZ G) (cT cA cZ)) oc t → va_F A s t → (px_Qv Q X (pw_B D (cw a cA cZ G) (cT cA cZ)) A) args s oc t := fun oc t h1 h2 => ⟨Or.inr h1, h2⟩
 have hS : va_S A s.heap s.heap [] := va_S.rf
 have h : wp_PI_needPlace G x1 x2 u Q X := h
 refine lv_iload_n hx hb d_PI_needPlace_0 rfl (lv_at hl 1 rfl) ?_
 refine lv_aload_n hx hb d_PI_needPlace_1 rfl (lv_at hl 0 rfl) ?_
 refine va_get (D := D) (ci := 0) (v := .ref (a 1)) (C := R_PI) (T := T_PI) (N := 12) hx hb hts in_PI hown hK hP 0 cw_at_0 rfl 0 (by decide) (hts _ (List.mem_cons_of_mem _ kw_312)) (fun _ h9 => h9) rfl d_PI_needPlace_2 ?_
 refine va_get (D := D) (ci := 4) (v := .int (G.2.1 1)) (C := R_Grid) (T := T_Grid) (N := 6) hx hb hts in_Grid hown hK hP 1 cw_at_1 rfl 0 (by decide) (hts _ (List.mem_cons_of_mem _ kw_101)) (fun _ h9 => h9) rfl d_PI_needPlace_5 ?_
 refine cx_v (px_runS (As := [.int x1, .int (G.2.1 1)]) (rest := []) ⟨hx, hb, hml, hown, hts⟩ (ct_PI_needIndex l D a cA cZ G _ x1 (G.2.1 1) u _ _ hL hI h) (pw_cwS 2 hts kw_367 kw_45 kw_365 kw_366 (by decide +kernel) ⟨Nat.le_of_ble_eq_true rfl, Nat.le_of_ble_eq_true rfl⟩) ⟨cw_blindX, fun U hU hW => ⟨rfl, ⟨by rw [hU], by rw [hU]; exact hP, va_K.moved hW.alike hK⟩, cw_Ex_call EX hS (pw_FA hS hF hA) hU hW⟩⟩ rfl rfl hl.1 rfl (lv_room (Nat.le_of_ble_eq_true rfl)) d_PI_needPlace_8 ⟨Nat.le_of_ble_eq_true rfl, Nat.le_of_ble_eq_true rfl⟩) hS hF hA (hE _) hlocks hz (fun u1 H locs hP hS h => ?_)
 refine lv_iload_n hx hb d_PI_needPlace_11 rfl (lv_at hl 2 rfl) ?_
 refine lv_aload_n hx hb d_PI_needPlace_12 rfl (lv_at hl 0 rfl) ?_
 refine va_get (D := D) (ci := 0) (v := .ref (a 1)) (C := R_PI) (T := T_PI) (N := 12) hx hb hts in_PI hown hK hP 0 cw_at_0 rfl 0 (by decide) (hts _ (List.mem_cons_of_mem _ kw_312)) (fun _ h9 => h9) rfl d_PI_needPlace_13 ?_
 refine va_get (D := D) (ci := 4) (v := .int (G.2.1 2)) (C := R_Grid) (T := T_Grid) (N := 6) hx hb hts in_Grid hown hK hP 1 cw_at_1 rfl 1 (by decide) (hts _ (List.mem_cons_of_mem _ kw_106)) (fun _ h9 => h9) rfl d_PI_needPlace_16 ?_
 refine cx_v (px_runS (As := [.int x2, .int (G.2.1 2)]) (rest := []) ⟨hx, hb, hml, hown, hts⟩ (ct_PI_needIndex l D a cA cZ G _ x2 (G.2.1 2) u1 _ _ hL hI h) (pw_cwS 2 hts kw_367 kw_45 kw_365 kw_366 (by decide +kernel) ⟨Nat.le_of_ble_eq_true rfl, Nat.le_of_ble_eq_true rfl⟩) ⟨cw_blindX, fun U hU hW => ⟨rfl, ⟨by rw [hU], by rw [hU]; exact hP, va_K.moved hW.alike hK⟩, cw_Ex_call EX hS (pw_FA hS hF hA) hU hW⟩⟩ rfl rfl hl.1 rfl (lv_room (Nat.le_of_ble_eq_true rfl)) d_PI_needPlace_19 ⟨Nat.le_of_ble_eq_true rfl, Nat.le_of_ble_eq_true rfl⟩) hS hF hA (hE _) hlocks hz (fun u2 H locs hP hS h => ?_)
 exact px_mono (fun t h => px_ofMQ (fun _ _ h => h) h) (W.vret (Qc := px_Qv Q X (pw_B D (cw a cA cZ G) (cT cA cZ)) A) hx hb hr (fun t ht hW => ⟨Or.inl ⟨u2, rfl, h, by rw [ht]; exact hP, va_K.moved hW.alike hK⟩, hS.F ht⟩) hS.2.2 d_PI_needPlace_22 hlocks)
set_option maxHeartbeats 4000000 in
set_option maxRecDepth 100000 in
theorem ct_PI_needPlace (l : Launch) (D : va_G) (a : Nat → Nat) (cA cZ : ClassId) (G : pG) (sz : Nat) (x1 x2 : Int32) (u : pS) (Q : pS → Prop) (X : Nat → pS → Prop) (hL : px_L l) (hI : pw_I 40 a) (h : wp_PI_needPlace G x1 x2 u Q X) : px_Met l y_PI_needPlace w_PI_needPlace ({ frames := 7, cells := 1, slots := 6, locals := 103 } : Room) (va_Pc [.ref (a 0), .int x1, .int x2] (fun U => pw_pre D (cw a cA cZ G) (cT cA cZ) sz u U ∧ cw_Ex (pw_F 40 a sz) U)) (px_Qv Q X (pw_B D (cw a cA cZ G) (cT cA cZ)) (pw_F 40 a sz)) 0 0 1 6 (pw_F 40 a sz) := by
 refine px_ofW (cc := b_PI_needPlace) (maxL := 3) (ret := none) (by decide) rfl ?_
 intro p e s m args below meth c s₁ B hml hE hv
 obtain ⟨rfl, ⟨hsz, hP, hK⟩, EX⟩ := hv
 subst hsz
 have hl := lv_entry ([.ref (a 0), .int x1, .int x2]) (n := 3) (Nat.le_of_ble_eq_true rfl)
 rw [lg_entry_eq]
 generalize (lg_sl ([.ref (a 0), .int x1, .int x2]) ++ List.replicate (3 - (lg_sl ([.ref (a 0), .int x1, .int x2])).length) Slot.unset).toArray = ls at hl ⊢
 exact st_PI_needPlace (A := (pw_F 40 a s.heap.size)) ⟨B.exec, B.bytes, B.returns, hml, findClass_of_methodNamed B.named, atoms_spec (ws := w_PI_needPlace) B.pre, B.notSynchronized, fun q hq => Or.inr hq⟩ ⟨hK, hI, fun k hk => Or.inl ⟨k, hk, rfl⟩⟩ EX hL (hL e B.admits) (px_none hE) x1 x2 u ls hP hl h
set_option maxHeartbeats 4000000 in
set_option maxRecDepth 100000 in
theorem st_PI_needNumber {p : Program} {l : Launch} {e : Env} {s : State} {m : MethodId} {args : Array Value} {below : List Frame} {meth : Method} {c : Code} {D : va_G} {a : Nat → Nat} {cA cZ : ClassId} {G : pG} {A : Nat → Prop} {Q : pS → Prop} {X : Nat → pS → Prop} (C : pw_C p s m args meth c b_PI_needNumber 3 R_PI none w_PI_needNumber A) (K : pw_K s D 40 a (cT cA cZ) A) (EX : cw_Ex A s) (hL : px_L l) (htr : e.platform.stackTraces = false) (hE : ∀ (pc : Nat), ∀ x ∈ c.exceptionTable.toList, covers x pc = false) (x0 x1 x2 : Int32) (u : pS) (ls : Array Slot) (hP : va_P D vwCl (cw a cA cZ G u) s.heap) (hl : lv_has ls 3 [(0, .int x0), (1, .int x1), (2, .int x2)]) (h : wp_PI_needNumber G x0 x1 x2 u Q X) : W p l e ({ frames := 6, cells := 1, slots := 6, locals := 82 } : Room) s m args below meth c s.heap [] 0 0 (px_Ev below args s D (cw a cA cZ G) (cT cA cZ) A Q X) (F0 m 0 ls []) := by
 obtain ⟨hx, hb, hr, hml, hown, hts, hlocks, hA⟩ := id C
 obtain ⟨hK, hI, hF⟩ := id K
 have hD : ∀ u, va_D A (cw a cA cZ G u) := fun u => cw_D hI hF
 have hz : ∀ oc t, px_T X (pw_B D (cw a cA cZ G) (cT cA cZ)) oc t → va_F A s t → (px_Qv Q X (pw_B D (cw a cA cZ G) (cT cA cZ)) A) args s oc t := fun oc t h1 h2 => ⟨Or.inr h1, h2⟩
 have hS : va_S A s.heap s.heap [] := va_S.rf
 have h : wp_PI_needNumber G x0 x1 x2 u Q X := h
 refine lv_iload_n hx hb d_PI_needNumber_0 rfl (lv_at hl 0 rfl) ?_
 refine lv_iload_n hx hb d_PI_needNumber_1 rfl (lv_at hl 1 rfl) ?_
 refine lv_icmp_lt (tgt := 10) hx hb d_PI_needNumber_2 (by decide) (fun c1 => ?_) (fun c1 => ?_)
 · have h := h.1 c1
   obtain ⟨q0, hq0⟩ := EX.1.2.1.1 ("PictureInlays", 239, "a number is not as said") (by decide)
   exact px_thr (k := 2) (u := u) (tx := "a number is not as said") (names := px_up) hx hb (by rw [hml]; exact hl.1.symm) hown (hts _ (List.mem_cons_of_mem _ kw_442)) (hts _ (List.mem_cons_of_mem _ kw_443)) (hts _ (List.mem_cons_of_mem _ kw_62)) hq0 (px_own (by decide) kw_452 hts EX.1) (by decide +kernel) (by decide +kernel) htr (hE _) hlocks (Nat.le_of_ble_eq_true rfl) (Nat.le_of_ble_eq_true rfl) (Nat.le_of_ble_eq_true rfl) (Nat.le_of_ble_eq_true rfl) hz hP hK h d_PI_needNumber_10 d_PI_needNumber_13 d_PI_needNumber_14 d_PI_needNumber_16 d_PI_needNumber_19
 · have h := h.2 c1
   refine lv_iload_n hx hb d_PI_needNumber_5 rfl (lv_at hl 0 rfl) ?_
   refine lv_iload_n hx hb d_PI_needNumber_6 rfl (lv_at hl 2 rfl) ?_
   refine lv_icmp_le (tgt := 20) hx hb d_PI_needNumber_7 (by decide) (fun c2 => ?_) (fun c2 => ?_)
   · have h := h.1 c2
     exact px_mono (fun t h => px_ofMQ (fun _ _ h => h) h) (W.vret (Qc := px_Qv Q X (pw_B D (cw a cA cZ G) (cT cA cZ)) A) hx hb hr (fun t ht hW => ⟨Or.inl ⟨u, rfl, h, by rw [ht]; exact hP, va_K.moved hW.alike hK⟩, hS.F ht⟩) hS.2.2 d_PI_needNumber_20 hlocks)
   · have h := h.2 c2
     obtain ⟨q0, hq0⟩ := EX.1.2.1.1 ("PictureInlays", 239, "a number is not as said") (by decide)
     exact px_thr (k := 2) (u := u) (tx := "a number is not as said") (names := px_up) hx hb (by rw [hml]; exact hl.1.symm) hown (hts _ (List.mem_cons_of_mem _ kw_442)) (hts _ (List.mem_cons_of_mem _ kw_443)) (hts _ (List.mem_cons_of_mem _ kw_62)) hq0 (px_own (by decide) kw_452 hts EX.1) (by decide +kernel) (by decide +kernel) htr (hE _) hlocks (Nat.le_of_ble_eq_true rfl) (Nat.le_of_ble_eq_true rfl) (Nat.le_of_ble_eq_true rfl) (Nat.le_of_ble_eq_true rfl) hz hP hK h d_PI_needNumber_10 d_PI_needNumber_13 d_PI_needNumber_14 d_PI_needNumber_16 d_PI_needNumber_19
set_option maxHeartbeats 4000000 in
set_option maxRecDepth 100000 in
theorem ct_PI_needNumber (l : Launch) (D : va_G) (a : Nat → Nat) (cA cZ : ClassId) (G : pG) (sz : Nat) (x0 x1 x2 : Int32) (u : pS) (Q : pS → Prop) (X : Nat → pS → Prop) (hL : px_L l) (hI : pw_I 40 a) (h : wp_PI_needNumber G x0 x1 x2 u Q X) : px_Met l y_PI_needNumber w_PI_needNumber ({ frames := 6, cells := 1, slots := 6, locals := 82 } : Room) (va_Pc [.int x0, .int x1, .int x2] (fun U => pw_pre D (cw a cA cZ G) (cT cA cZ) sz u U ∧ cw_Ex (pw_F 40 a sz) U)) (px_Qv Q X (pw_B D (cw a cA cZ G) (cT cA cZ)) (pw_F 40 a sz)) 0 0 1 6 (pw_F 40 a sz) := by
 refine px_ofW (cc := b_PI_needNumber) (maxL := 3) (ret := none) (by decide) rfl ?_
 intro p e s m args below meth c s₁ B hml hE hv
 obtain ⟨rfl, ⟨hsz, hP, hK⟩, EX⟩ := hv
 subst hsz
 have hl := lv_entry ([.int x0, .int x1, .int x2]) (n := 3) (Nat.le_of_ble_eq_true rfl)
 rw [lg_entry_eq]
 generalize (lg_sl ([.int x0, .int x1, .int x2]) ++ List.replicate (3 - (lg_sl ([.int x0, .int x1, .int x2])).length) Slot.unset).toArray = ls at hl ⊢
 exact st_PI_needNumber (A := (pw_F 40 a s.heap.size)) ⟨B.exec, B.bytes, B.returns, hml, findClass_of_methodNamed B.named, atoms_spec (ws := w_PI_needNumber) B.pre, B.notSynchronized, fun q hq => Or.inr hq⟩ ⟨hK, hI, fun k hk => Or.inl ⟨k, hk, rfl⟩⟩ EX hL (hL e B.admits) (px_none hE) x0 x1 x2 u ls hP hl h
set_option maxHeartbeats 4000000 in
set_option maxRecDepth 100000 in
theorem st_PI_needColour {p : Program} {l : Launch} {e : Env} {s : State} {m : MethodId} {args : Array Value} {below : List Frame} {meth : Method} {c : Code} {D : va_G} {a : Nat → Nat} {cA cZ : ClassId} {G : pG} {A : Nat → Prop} {Q : pS → Prop} {X : Nat → pS → Prop} (C : pw_C p s m args meth c b_PI_needColour 3 R_PI none w_PI_needColour A) (K : pw_K s D 40 a (cT cA cZ) A) (EX : cw_Ex A s) (hL : px_L l) (htr : e.platform.stackTraces = false) (hE : ∀ (pc : Nat), ∀ x ∈ c.exceptionTable.toList, covers x pc = false) (x0 x1 x2 : Int32) (u : pS) (ls : Array Slot) (hP : va_P D vwCl (cw a cA cZ G u) s.heap) (hl : lv_has ls 3 [(0, .int x0), (1, .int x1), (2, .int x2)]) (h : wp_PI_needColour G x0 x1 x2 u Q X) : W p l e ({ frames := 7, cells := 1, slots := 6, locals := 104 } : Room) s m args below meth c s.heap [] 0 0 (px_Ev below args s D (cw a cA cZ G) (cT cA cZ) A Q X) (F0 m 0 ls []) := by
 obtain ⟨hx, hb, hr, hml, hown, hts, hlocks, hA⟩ := id C
 obtain ⟨hK, hI, hF⟩ := id K
 have hD : ∀ u, va_D A (cw a cA cZ G u) := fun u => cw_D hI hF
 have hz : ∀ oc t, px_T X (pw_B D (cw a cA cZ G) (cT cA cZ)) oc t → va_F A s t → (px_Qv Q X (pw_B D (cw a cA cZ G) (cT cA cZ)) A) args s oc t := fun oc t h1 h2 => ⟨Or.inr h1, h2⟩
 have hS : va_S A s.heap s.heap [] := va_S.rf
 have h : wp_PI_needColour G x0 x1 x2 u Q X := h
 refine lv_iload_n hx hb d_PI_needColour_0 rfl (lv_at hl 0 rfl) ?_
 refine lv_iconst (v := 0) hx hb d_PI_needColour_1 (by decide) ?_
 refine lv_sipush (v := 255) hx hb d_PI_needColour_2 (by decide) ?_
 refine cx_v (px_runS (As := [.int x0, .int 0, .int 255]) (rest := []) ⟨hx, hb, hml, hown, hts⟩ (ct_PI_needNumber l D a cA cZ G _ x0 0 255 u _ _ hL hI h) (pw_cwS 3 hts kw_441 kw_45 kw_439 kw_440 (by decide +kernel) ⟨Nat.le_of_ble_eq_true rfl, Nat.le_of_ble_eq_true rfl⟩) ⟨cw_blindX, fun U hU hW => ⟨rfl, ⟨by rw [hU], by rw [hU]; exact hP, va_K.moved hW.alike hK⟩, cw_Ex_call EX hS (pw_FA hS hF hA) hU hW⟩⟩ rfl rfl hl.1 rfl (lv_room (Nat.le_of_ble_eq_true rfl)) d_PI_needColour_5 ⟨Nat.le_of_ble_eq_true rfl, Nat.le_of_ble_eq_true rfl⟩) hS hF hA (hE _) hlocks hz (fun u1 H locs hP hS h => ?_)
 refine lv_iload_n hx hb d_PI_needColour_8 rfl (lv_at hl 1 rfl) ?_
 refine lv_iconst (v := 0) hx hb d_PI_needColour_9 (by decide) ?_
 refine lv_sipush (v := 255) hx hb d_PI_needColour_10 (by decide) ?_
 refine cx_v (px_runS (As := [.int x1, .int 0, .int 255]) (rest := []) ⟨hx, hb, hml, hown, hts⟩ (ct_PI_needNumber l D a cA cZ G _ x1 0 255 u1 _ _ hL hI h) (pw_cwS 3 hts kw_441 kw_45 kw_439 kw_440 (by decide +kernel) ⟨Nat.le_of_ble_eq_true rfl, Nat.le_of_ble_eq_true rfl⟩) ⟨cw_blindX, fun U hU hW => ⟨rfl, ⟨by rw [hU], by rw [hU]; exact hP, va_K.moved hW.alike hK⟩, cw_Ex_call EX hS (pw_FA hS hF hA) hU hW⟩⟩ rfl rfl hl.1 rfl (lv_room (Nat.le_of_ble_eq_true rfl)) d_PI_needColour_13 ⟨Nat.le_of_ble_eq_true rfl, Nat.le_of_ble_eq_true rfl⟩) hS hF hA (hE _) hlocks hz (fun u2 H locs hP hS h => ?_)
 refine lv_iload_n hx hb d_PI_needColour_16 rfl (lv_at hl 2 rfl) ?_
 refine lv_iconst (v := 0) hx hb d_PI_needColour_17 (by decide) ?_
 refine lv_sipush (v := 255) hx hb d_PI_needColour_18 (by decide) ?_
 refine cx_v (px_runS (As := [.int x2, .int 0, .int 255]) (rest := []) ⟨hx, hb, hml, hown, hts⟩ (ct_PI_needNumber l D a cA cZ G _ x2 0 255 u2 _ _ hL hI h) (pw_cwS 3 hts kw_441 kw_45 kw_439 kw_440 (by decide +kernel) ⟨Nat.le_of_ble_eq_true rfl, Nat.le_of_ble_eq_true rfl⟩) ⟨cw_blindX, fun U hU hW => ⟨rfl, ⟨by rw [hU], by rw [hU]; exact hP, va_K.moved hW.alike hK⟩, cw_Ex_call EX hS (pw_FA hS hF hA) hU hW⟩⟩ rfl rfl hl.1 rfl (lv_room (Nat.le_of_ble_eq_true rfl)) d_PI_needColour_21 ⟨Nat.le_of_ble_eq_true rfl, Nat.le_of_ble_eq_true rfl⟩) hS hF hA (hE _) hlocks hz (fun u3 H locs hP hS h => ?_)
 exact px_mono (fun t h => px_ofMQ (fun _ _ h => h) h) (W.vret (Qc := px_Qv Q X (pw_B D (cw a cA cZ G) (cT cA cZ)) A) hx hb hr (fun t ht hW => ⟨Or.inl ⟨u3, rfl, h, by rw [ht]; exact hP, va_K.moved hW.alike hK⟩, hS.F ht⟩) hS.2.2 d_PI_needColour_24 hlocks)
set_option maxHeartbeats 4000000 in
set_option maxRecDepth 100000 in
theorem ct_PI_needColour (l : Launch) (D : va_G) (a : Nat → Nat) (cA cZ : ClassId) (G : pG) (sz : Nat) (x0 x1 x2 : Int32) (u : pS) (Q : pS → Prop) (X : Nat → pS → Prop) (hL : px_L l) (hI : pw_I 40 a) (h : wp_PI_needColour G x0 x1 x2 u Q X) : px_Met l y_PI_needColour w_PI_needColour ({ frames := 7, cells := 1, slots := 6, locals := 104 } : Room) (va_Pc [.int x0, .int x1, .int x2] (fun U => pw_pre D (cw a cA cZ G) (cT cA cZ) sz u U ∧ cw_Ex (pw_F 40 a sz) U)) (px_Qv Q X (pw_B D (cw a cA cZ G) (cT cA cZ)) (pw_F 40 a sz)) 0 0 1 6 (pw_F 40 a sz) := by
 refine px_ofW (cc := b_PI_needColour) (maxL := 3) (ret := none) (by decide) rfl ?_
 intro p e s m args below meth c s₁ B hml hE hv
 obtain ⟨rfl, ⟨hsz, hP, hK⟩, EX⟩ := hv
 subst hsz
 have hl := lv_entry ([.int x0, .int x1, .int x2]) (n := 3) (Nat.le_of_ble_eq_true rfl)
 rw [lg_entry_eq]
 generalize (lg_sl ([.int x0, .int x1, .int x2]) ++ List.replicate (3 - (lg_sl ([.int x0, .int x1, .int x2])).length) Slot.unset).toArray = ls at hl ⊢
 exact st_PI_needColour (A := (pw_F 40 a s.heap.size)) ⟨B.exec, B.bytes, B.returns, hml, findClass_of_methodNamed B.named, atoms_spec (ws := w_PI_needColour) B.pre, B.notSynchronized, fun q hq => Or.inr hq⟩ ⟨hK, hI, fun k hk => Or.inl ⟨k, hk, rfl⟩⟩ EX hL (hL e B.admits) (px_none hE) x0 x1 x2 u ls hP hl h
set_option maxHeartbeats 4000000 in
set_option maxRecDepth 100000 in
theorem st_Grid_placeOf {p : Program} {l : Launch} {e : Env} {s : State} {m : MethodId} {args : Array Value} {below : List Frame} {meth : Method} {c : Code} {D : va_G} {a : Nat → Nat} {cA cZ : ClassId} {G : pG} {A : Nat → Prop} {Q : Int32 → pS → Prop} (C : pw_C p s m args meth c b_Grid_placeOf 4 R_Grid (some .int) w_Grid_placeOf A) (K : pw_K s D 40 a (cT cA cZ) A) (x1 x2 : Int32) (u : pS) (ls : Array Slot) (hP : va_P D vwCl (cw a cA cZ G u) s.heap) (hl : lv_has ls 4 [(0, .ref (a 1)), (1, .int x1), (2, .int x2)]) (h : wp_Grid_placeOf G x1 x2 u Q) : W p l e ({ frames := 0, cells := 0, slots := 0, locals := 0 } : Room) s m args below meth c s.heap [] 0 0 (pw_Ei below args s D (cw a cA cZ G) (cT cA cZ) A Q) (F0 m 0 ls []) := by
 obtain ⟨hx, hb, hr, hml, hown, hts, hlocks, hA⟩ := id C
 obtain ⟨hK, hI, hF⟩ := id K
 have hD : ∀ u, va_D A (cw a cA cZ G u) := fun u => cw_D hI hF
 have hS : va_S A s.heap s.heap [] := va_S.rf
 have h : wp_Grid_placeOf G x1 x2 u Q := h
 refine lv_iload_n hx hb d_Grid_placeOf_0 rfl (lv_at hl 1 rfl) ?_
 refine lv_if_lt (tgt := 28) hx hb d_Grid_placeOf_1 (by decide) (fun c1 => ?_) (fun c1 => ?_)
 · have h := h.1 c1
   refine lv_iconst (v := 0) hx hb d_Grid_placeOf_28 (by decide) ?_
   refine lv_istore_n (lv' := [(3, .int 0), (0, .ref (a 1)), (1, .int x1), (2, .int x2)]) hx hb d_Grid_placeOf_29 rfl hl (by decide) rfl (fun ls hl => ?_)
   refine lv_iload_n hx hb d_Grid_placeOf_30 rfl (lv_at hl 0 rfl) ?_
   refine lv_if_eq (tgt := 45) hx hb d_Grid_placeOf_31 (by decide) (fun _ => ?_) (fun q => absurd q (by decide))
   refine lv_iconst (v := -1) hx hb d_Grid_placeOf_45 (by decide) ?_
   exact W.iret (v := (-1)) hx hb hr (fun t ht hW => ⟨⟨(-1), u, rfl, h, by rw [ht]; exact hP, va_K.moved hW.alike hK⟩, hS.F ht⟩) hS.2.2 d_Grid_placeOf_46 hlocks
 · have h := h.2 c1
   refine lv_iload_n hx hb d_Grid_placeOf_4 rfl (lv_at hl 1 rfl) ?_
   refine lv_aload_n hx hb d_Grid_placeOf_5 rfl (lv_at hl 0 rfl) ?_
   refine va_get (D := D) (ci := 4) (v := .int (G.2.1 1)) (C := R_Grid) (T := T_Grid) (N := 6) hx hb hts in_Grid hown hK hP 1 cw_at_1 rfl 0 (by decide) (hts _ (List.mem_cons_of_mem _ kw_97)) (fun _ h9 => h9) rfl d_Grid_placeOf_6 ?_
   refine lv_icmp_ge (tgt := 28) hx hb d_Grid_placeOf_9 (by decide) (fun c3 => ?_) (fun c3 => ?_)
   · have h := h.1 c3
     refine lv_iconst (v := 0) hx hb d_Grid_placeOf_28 (by decide) ?_
     refine lv_istore_n (lv' := [(3, .int 0), (0, .ref (a 1)), (1, .int x1), (2, .int x2)]) hx hb d_Grid_placeOf_29 rfl hl (by decide) rfl (fun ls hl => ?_)
     refine lv_iload_n hx hb d_Grid_placeOf_30 rfl (lv_at hl 0 rfl) ?_
     refine lv_if_eq (tgt := 45) hx hb d_Grid_placeOf_31 (by decide) (fun _ => ?_) (fun q => absurd q (by decide))
     refine lv_iconst (v := -1) hx hb d_Grid_placeOf_45 (by decide) ?_
     exact W.iret (v := (-1)) hx hb hr (fun t ht hW => ⟨⟨(-1), u, rfl, h, by rw [ht]; exact hP, va_K.moved hW.alike hK⟩, hS.F ht⟩) hS.2.2 d_Grid_placeOf_46 hlocks
   · have h := h.2 c3
     refine lv_iload_n hx hb d_Grid_placeOf_12 rfl (lv_at hl 2 rfl) ?_
     refine lv_if_lt (tgt := 28) hx hb d_Grid_placeOf_13 (by decide) (fun c5 => ?_) (fun c5 => ?_)
     · have h := h.1 c5
       refine lv_iconst (v := 0) hx hb d_Grid_placeOf_28 (by decide) ?_
       refine lv_istore_n (lv' := [(3, .int 0), (0, .ref (a 1)), (1, .int x1), (2, .int x2)]) hx hb d_Grid_placeOf_29 rfl hl (by decide) rfl (fun ls hl => ?_)
       refine lv_iload_n hx hb d_Grid_placeOf_30 rfl (lv_at hl 0 rfl) ?_
       refine lv_if_eq (tgt := 45) hx hb d_Grid_placeOf_31 (by decide) (fun _ => ?_) (fun q => absurd q (by decide))
       refine lv_iconst (v := -1) hx hb d_Grid_placeOf_45 (by decide) ?_
       exact W.iret (v := (-1)) hx hb hr (fun t ht hW => ⟨⟨(-1), u, rfl, h, by rw [ht]; exact hP, va_K.moved hW.alike hK⟩, hS.F ht⟩) hS.2.2 d_Grid_placeOf_46 hlocks
     · have h := h.2 c5
       refine lv_iload_n hx hb d_Grid_placeOf_16 rfl (lv_at hl 2 rfl) ?_
       refine lv_aload_n hx hb d_Grid_placeOf_17 rfl (lv_at hl 0 rfl) ?_
       refine va_get (D := D) (ci := 4) (v := .int (G.2.1 2)) (C := R_Grid) (T := T_Grid) (N := 6) hx hb hts in_Grid hown hK hP 1 cw_at_1 rfl 1 (by decide) (hts _ (List.mem_cons_of_mem _ kw_102)) (fun _ h9 => h9) rfl d_Grid_placeOf_18 ?_
       refine lv_icmp_ge (tgt := 28) hx hb d_Grid_placeOf_21 (by decide) (fun c7 => ?_) (fun c7 => ?_)
       · have h := h.1 c7
         refine lv_iconst (v := 0) hx hb d_Grid_placeOf_28 (by decide) ?_
         refine lv_istore_n (lv' := [(3, .int 0), (0, .ref (a 1)), (1, .int x1), (2, .int x2)]) hx hb d_Grid_placeOf_29 rfl hl (by decide) rfl (fun ls hl => ?_)
         refine lv_iload_n hx hb d_Grid_placeOf_30 rfl (lv_at hl 0 rfl) ?_
         refine lv_if_eq (tgt := 45) hx hb d_Grid_placeOf_31 (by decide) (fun _ => ?_) (fun q => absurd q (by decide))
         refine lv_iconst (v := -1) hx hb d_Grid_placeOf_45 (by decide) ?_
         exact W.iret (v := (-1)) hx hb hr (fun t ht hW => ⟨⟨(-1), u, rfl, h, by rw [ht]; exact hP, va_K.moved hW.alike hK⟩, hS.F ht⟩) hS.2.2 d_Grid_placeOf_46 hlocks
       · have h := h.2 c7
         refine lv_iconst (v := 1) hx hb d_Grid_placeOf_24 (by decide) ?_
         refine lv_goto (tgt := 29) hx hb d_Grid_placeOf_25 (by decide) ?_
         refine lv_istore_n (lv' := [(3, .int 1), (0, .ref (a 1)), (1, .int x1), (2, .int x2)]) hx hb d_Grid_placeOf_29 rfl hl (by decide) rfl (fun ls hl => ?_)
         refine lv_iload_n hx hb d_Grid_placeOf_30 rfl (lv_at hl 0 rfl) ?_
         refine lv_if_eq (tgt := 45) hx hb d_Grid_placeOf_31 (by decide) (fun q => absurd q (by decide)) (fun _ => ?_)
         refine lv_iload_n hx hb d_Grid_placeOf_34 rfl (lv_at hl 3 rfl) ?_
         refine lv_aload_n hx hb d_Grid_placeOf_35 rfl (lv_at hl 1 rfl) ?_
         refine va_get (D := D) (ci := 4) (v := .int (G.2.1 1)) (C := R_Grid) (T := T_Grid) (N := 6) hx hb hts in_Grid hown hK hP 1 cw_at_1 rfl 0 (by decide) (hts _ (List.mem_cons_of_mem _ kw_97)) (fun _ h9 => h9) rfl d_Grid_placeOf_36 ?_
         refine lv_imul hx hb d_Grid_placeOf_39 ?_
         refine lv_iload_n hx hb d_Grid_placeOf_40 rfl (lv_at hl 2 rfl) ?_
         refine lv_iadd hx hb d_Grid_placeOf_41 ?_
         refine lv_goto (tgt := 46) hx hb d_Grid_placeOf_42 (by decide) ?_
         exact W.iret (v := ((x2 * (G.2.1 1)) + x1)) hx hb hr (fun t ht hW => ⟨⟨((x2 * (G.2.1 1)) + x1), u, rfl, h, by rw [ht]; exact hP, va_K.moved hW.alike hK⟩, hS.F ht⟩) hS.2.2 d_Grid_placeOf_46 hlocks
set_option maxHeartbeats 4000000 in
set_option maxRecDepth 100000 in
theorem ct_Grid_placeOf (l : Launch) (D : va_G) (a : Nat → Nat) (cA cZ : ClassId) (G : pG) (sz : Nat) (x1 x2 : Int32) (u : pS) (Q : Int32 → pS → Prop) (hI : pw_I 40 a) (h : wp_Grid_placeOf G x1 x2 u Q) : Met l y_Grid_placeOf w_Grid_placeOf ({ frames := 0, cells := 0, slots := 0, locals := 0 } : Room) (va_Pc [.ref (a 1), .int x1, .int x2] (pw_pre D (cw a cA cZ G) (cT cA cZ) sz u)) (va_Qi (fun (r : Int32) (u : pS) => Q r u) (pw_B D (cw a cA cZ G) (cT cA cZ)) (pw_F 40 a sz)) 0 0 (pw_F 40 a sz) := by
 refine Met.ofW (cc := b_Grid_placeOf) (maxL := 4) (ret := (some .int)) (by decide) rfl ?_
 intro p e s m args below meth c s₁ B hml hv
 obtain ⟨rfl, hsz, hP, hK⟩ := hv
 subst hsz
 have hl := lv_entry ([.ref (a 1), .int x1, .int x2]) (n := 4) (Nat.le_of_ble_eq_true rfl)
 rw [lg_entry_eq]
 generalize (lg_sl ([.ref (a 1), .int x1, .int x2]) ++ List.replicate (4 - (lg_sl ([.ref (a 1), .int x1, .int x2])).length) Slot.unset).toArray = ls at hl ⊢
 exact st_Grid_placeOf (A := (pw_F 40 a s.heap.size)) ⟨B.exec, B.bytes, B.returns, hml, findClass_of_methodNamed B.named, atoms_spec (ws := w_Grid_placeOf) B.pre, B.notSynchronized, fun q hq => Or.inr hq⟩ ⟨hK, hI, fun k hk => Or.inl ⟨k, hk, rfl⟩⟩ x1 x2 u ls hP hl h
set_option maxHeartbeats 4000000 in
set_option maxRecDepth 100000 in
theorem cp_Colours_tell_picture_46 {p : Program} {l : Launch} {e : Env} {s : State} {m : MethodId} {args : Array Value} {below : List Frame} {meth : Method} {c : Code} {D : va_G} {a : Nat → Nat} {cA cZ : ClassId} {G : pG} {A : Nat → Prop} {Q : Int32 → pS → Prop} (C : pw_C p s m args meth c b_Colours_tell 5 R_Colours (some .boolean) w_Colours_tell A) (K : pw_K s D 40 a (cT cA cZ) A) : ∀ (x1 x2 x3 x4 : Int32) (u : pS) (H : Heap) (locs : List Loc) (ls : Array Slot), va_P D vwCl (cw a cA cZ G u) H → va_S A s.heap H locs → lv_has ls 5 [(0, .ref (a 2)), (1, .int x1), (2, .int x2), (3, .int x3), (4, .int x4)] → jn_Colours_tell_picture_46 G Q x1 x2 x3 x4 u → W p l e ({ frames := 0, cells := 0, slots := 0, locals := 0 } : Room) s m args below meth c H locs 0 0 (pw_Ei below args s D (cw a cA cZ G) (cT cA cZ) A Q) (F0 m 46 ls []) := by
 obtain ⟨hx, hb, hr, hml, hown, hts, hlocks, hA⟩ := id C
 obtain ⟨hK, hI, hF⟩ := id K
 have hD : ∀ u, va_D A (cw a cA cZ G u) := fun u => cw_D hI hF
 intro x1 x2 x3 x4 u H locs ls hP hS hl h
 refine lv_aload_n hx hb d_Colours_tell_46 rfl (lv_at hl 0 rfl) ?_
 refine va_get (D := D) (ci := 3) (v := .ref (a 14)) (C := R_Colours) (T := T_Colours) (N := 3) hx hb hts in_Colours hown hK hP 2 cw_at_2 rfl 0 (by decide) (hts _ (List.mem_cons_of_mem _ kw_135)) (fun _ h9 => h9) rfl d_Colours_tell_47 ?_
 refine lv_iload_n hx hb d_Colours_tell_50 rfl (lv_at hl 1 rfl) ?_
 refine lv_iload_n hx hb d_Colours_tell_51 rfl (lv_at hl 2 rfl) ?_
 refine va_iast hx hb hK hP (hD _) hS 14 0 cw_at_14 rfl h.1 d_Colours_tell_52 (fun H locs hP _ hS => ?_)
 obtain ⟨u4, eu4⟩ : ∃ z, z = pw_sa u 0 (upd (u.2 0) x1.toNatClampNeg x2) := ⟨_, rfl⟩
 rw [cw_sa_14, ← eu4] at hP
 have h := h.2 u4 eu4
 refine lv_aload_n hx hb d_Colours_tell_53 rfl (lv_at hl 0 rfl) ?_
 refine va_get (D := D) (ci := 3) (v := .ref (a 15)) (C := R_Colours) (T := T_Colours) (N := 3) hx hb hts in_Colours hown hK hP 2 cw_at_2 rfl 1 (by decide) (hts _ (List.mem_cons_of_mem _ kw_136)) (fun _ h9 => h9) rfl d_Colours_tell_54 ?_
 refine lv_iload_n hx hb d_Colours_tell_57 rfl (lv_at hl 1 rfl) ?_
 refine lv_iload_n hx hb d_Colours_tell_58 rfl (lv_at hl 3 rfl) ?_
 refine va_iast hx hb hK hP (hD _) hS 15 0 cw_at_15 rfl h.1 d_Colours_tell_59 (fun H locs hP _ hS => ?_)
 obtain ⟨u5, eu5⟩ : ∃ z, z = pw_sa u4 1 (upd (u4.2 1) x1.toNatClampNeg x3) := ⟨_, rfl⟩
 rw [cw_sa_15, ← eu5] at hP
 have h := h.2 u5 eu5
 refine lv_aload_n hx hb d_Colours_tell_60 rfl (lv_at hl 0 rfl) ?_
 refine va_get (D := D) (ci := 3) (v := .ref (a 16)) (C := R_Colours) (T := T_Colours) (N := 3) hx hb hts in_Colours hown hK hP 2 cw_at_2 rfl 2 (by decide) (hts _ (List.mem_cons_of_mem _ kw_137)) (fun _ h9 => h9) rfl d_Colours_tell_61 ?_
 refine lv_iload_n hx hb d_Colours_tell_64 rfl (lv_at hl 1 rfl) ?_
 refine lv_iload hx hb d_Colours_tell_65 (lv_at hl 4 rfl) ?_
 refine va_iast hx hb hK hP (hD _) hS 16 0 cw_at_16 rfl h.1 d_Colours_tell_67 (fun H locs hP _ hS => ?_)
 obtain ⟨u6, eu6⟩ : ∃ z, z = pw_sa u5 2 (upd (u5.2 2) x1.toNatClampNeg x4) := ⟨_, rfl⟩
 rw [cw_sa_16, ← eu6] at hP
 have h := h.2 u6 eu6
 refine lv_iconst (v := 1) hx hb d_Colours_tell_68 (by decide) ?_
 exact W.zret (v := 1) hx hb hr rfl (fun t ht hW => ⟨⟨1, u6, rfl, h, by rw [ht]; exact hP, va_K.moved hW.alike hK⟩, hS.F ht⟩) hS.2.2 d_Colours_tell_69 hlocks
set_option maxHeartbeats 4000000 in
set_option maxRecDepth 100000 in
theorem st_Colours_tell_picture {p : Program} {l : Launch} {e : Env} {s : State} {m : MethodId} {args : Array Value} {below : List Frame} {meth : Method} {c : Code} {D : va_G} {a : Nat → Nat} {cA cZ : ClassId} {G : pG} {A : Nat → Prop} {Q : Int32 → pS → Prop} (C : pw_C p s m args meth c b_Colours_tell 5 R_Colours (some .boolean) w_Colours_tell A) (K : pw_K s D 40 a (cT cA cZ) A) (x1 x2 x3 x4 : Int32) (u : pS) (ls : Array Slot) (hP : va_P D vwCl (cw a cA cZ G u) s.heap) (hl : lv_has ls 5 [(0, .ref (a 2)), (1, .int x1), (2, .int x2), (3, .int x3), (4, .int x4)]) (h : wp_Colours_tell_picture G x1 x2 x3 x4 u Q) : W p l e ({ frames := 0, cells := 0, slots := 0, locals := 0 } : Room) s m args below meth c s.heap [] 0 0 (pw_Ei below args s D (cw a cA cZ G) (cT cA cZ) A Q) (F0 m 0 ls []) := by
 obtain ⟨hx, hb, hr, hml, hown, hts, hlocks, hA⟩ := id C
 obtain ⟨hK, hI, hF⟩ := id K
 have hD : ∀ u, va_D A (cw a cA cZ G u) := fun u => cw_D hI hF
 have hS : va_S A s.heap s.heap [] := va_S.rf
 have h : wp_Colours_tell_picture G x1 x2 x3 x4 u Q := h
 refine lv_iload_n hx hb d_Colours_tell_0 rfl (lv_at hl 1 rfl) ?_
 refine lv_if_lt (tgt := 44) hx hb d_Colours_tell_1 (by decide) (fun c1 => ?_) (fun c1 => ?_)
 · have h := h.1 c1
   refine lv_iconst (v := 0) hx hb d_Colours_tell_44 (by decide) ?_
   exact W.zret (v := 0) hx hb hr rfl (fun t ht hW => ⟨⟨0, u, rfl, h, by rw [ht]; exact hP, va_K.moved hW.alike hK⟩, hS.F ht⟩) hS.2.2 d_Colours_tell_45 hlocks
 · have h := h.2 c1
   refine lv_iload_n hx hb d_Colours_tell_4 rfl (lv_at hl 1 rfl) ?_
   refine lv_aload_n hx hb d_Colours_tell_5 rfl (lv_at hl 0 rfl) ?_
   refine va_get (D := D) (ci := 3) (v := .ref (a 14)) (C := R_Colours) (T := T_Colours) (N := 3) hx hb hts in_Colours hown hK hP 2 cw_at_2 rfl 0 (by decide) (hts _ (List.mem_cons_of_mem _ kw_135)) (fun _ h9 => h9) rfl d_Colours_tell_6 ?_
   refine va_alen (v := nI (G.1 14)) hx hb hK hP 14 0 cw_at_14 rfl rfl d_Colours_tell_9 ?_
   refine lv_icmp_ge (tgt := 44) hx hb d_Colours_tell_10 (by decide) (fun c2 => ?_) (fun c2 => ?_)
   · have h := h.1 c2
     refine lv_iconst (v := 0) hx hb d_Colours_tell_44 (by decide) ?_
     exact W.zret (v := 0) hx hb hr rfl (fun t ht hW => ⟨⟨0, u, rfl, h, by rw [ht]; exact hP, va_K.moved hW.alike hK⟩, hS.F ht⟩) hS.2.2 d_Colours_tell_45 hlocks
   · have h := h.2 c2
     refine lv_aload_n hx hb d_Colours_tell_13 rfl (lv_at hl 0 rfl) ?_
     refine va_get (D := D) (ci := 3) (v := .ref (a 14)) (C := R_Colours) (T := T_Colours) (N := 3) hx hb hts in_Colours hown hK hP 2 cw_at_2 rfl 0 (by decide) (hts _ (List.mem_cons_of_mem _ kw_135)) (fun _ h9 => h9) rfl d_Colours_tell_14 ?_
     refine lv_iload_n hx hb d_Colours_tell_17 rfl (lv_at hl 1 rfl) ?_
     refine va_iald hx hb hK hP 14 0 cw_at_14 rfl h.1 d_Colours_tell_18 ?_
     have h := h.2
     refine lv_iload_n hx hb d_Colours_tell_19 rfl (lv_at hl 2 rfl) ?_
     refine lv_icmp_ne (tgt := 46) hx hb d_Colours_tell_20 (by decide) (fun c3 => ?_) (fun c3 => ?_)
     · have h := h.2 c3
       exact cp_Colours_tell_picture_46 C K x1 x2 x3 x4 u _ _ _ hP hS (lv_sub hl [0, 1, 2, 3, 4] rfl) h
     · have h := h.1 c3
       refine lv_aload_n hx hb d_Colours_tell_23 rfl (lv_at hl 0 rfl) ?_
       refine va_get (D := D) (ci := 3) (v := .ref (a 15)) (C := R_Colours) (T := T_Colours) (N := 3) hx hb hts in_Colours hown hK hP 2 cw_at_2 rfl 1 (by decide) (hts _ (List.mem_cons_of_mem _ kw_136)) (fun _ h9 => h9) rfl d_Colours_tell_24 ?_
       refine lv_iload_n hx hb d_Colours_tell_27 rfl (lv_at hl 1 rfl) ?_
       refine va_iald hx hb hK hP 15 0 cw_at_15 rfl h.1 d_Colours_tell_28 ?_
       have h := h.2
       refine lv_iload_n hx hb d_Colours_tell_29 rfl (lv_at hl 3 rfl) ?_
       refine lv_icmp_ne (tgt := 46) hx hb d_Colours_tell_30 (by decide) (fun c7 => ?_) (fun c7 => ?_)
       · have h := h.2 c7
         exact cp_Colours_tell_picture_46 C K x1 x2 x3 x4 u _ _ _ hP hS (lv_sub hl [0, 1, 2, 3, 4] rfl) h
       · have h := h.1 c7
         refine lv_aload_n hx hb d_Colours_tell_33 rfl (lv_at hl 0 rfl) ?_
         refine va_get (D := D) (ci := 3) (v := .ref (a 16)) (C := R_Colours) (T := T_Colours) (N := 3) hx hb hts in_Colours hown hK hP 2 cw_at_2 rfl 2 (by decide) (hts _ (List.mem_cons_of_mem _ kw_137)) (fun _ h9 => h9) rfl d_Colours_tell_34 ?_
         refine lv_iload_n hx hb d_Colours_tell_37 rfl (lv_at hl 1 rfl) ?_
         refine va_iald hx hb hK hP 16 0 cw_at_16 rfl h.1 d_Colours_tell_38 ?_
         have h := h.2
         refine lv_iload hx hb d_Colours_tell_39 (lv_at hl 4 rfl) ?_
         refine lv_icmp_ne (tgt := 46) hx hb d_Colours_tell_41 (by decide) (fun c8 => ?_) (fun c8 => ?_)
         · have h := h.2 c8
           exact cp_Colours_tell_picture_46 C K x1 x2 x3 x4 u _ _ _ hP hS (lv_sub hl [0, 1, 2, 3, 4] rfl) h
         · have h := h.1 c8
           refine lv_iconst (v := 0) hx hb d_Colours_tell_44 (by decide) ?_
           exact W.zret (v := 0) hx hb hr rfl (fun t ht hW => ⟨⟨0, u, rfl, h, by rw [ht]; exact hP, va_K.moved hW.alike hK⟩, hS.F ht⟩) hS.2.2 d_Colours_tell_45 hlocks
set_option maxHeartbeats 4000000 in
set_option maxRecDepth 100000 in
theorem ct_Colours_tell_picture (l : Launch) (D : va_G) (a : Nat → Nat) (cA cZ : ClassId) (G : pG) (sz : Nat) (x1 x2 x3 x4 : Int32) (u : pS) (Q : Int32 → pS → Prop) (hI : pw_I 40 a) (h : wp_Colours_tell_picture G x1 x2 x3 x4 u Q) : Met l y_Colours_tell w_Colours_tell ({ frames := 0, cells := 0, slots := 0, locals := 0 } : Room) (va_Pc [.ref (a 2), .int x1, .int x2, .int x3, .int x4] (pw_pre D (cw a cA cZ G) (cT cA cZ) sz u)) (va_Qi (fun (r : Int32) (u : pS) => Q r u) (pw_B D (cw a cA cZ G) (cT cA cZ)) (pw_F 40 a sz)) 0 0 (pw_F 40 a sz) := by
 refine Met.ofW (cc := b_Colours_tell) (maxL := 5) (ret := (some .boolean)) (by decide) rfl ?_
 intro p e s m args below meth c s₁ B hml hv
 obtain ⟨rfl, hsz, hP, hK⟩ := hv
 subst hsz
 have hl := lv_entry ([.ref (a 2), .int x1, .int x2, .int x3, .int x4]) (n := 5) (Nat.le_of_ble_eq_true rfl)
 rw [lg_entry_eq]
 generalize (lg_sl ([.ref (a 2), .int x1, .int x2, .int x3, .int x4]) ++ List.replicate (5 - (lg_sl ([.ref (a 2), .int x1, .int x2, .int x3, .int x4])).length) Slot.unset).toArray = ls at hl ⊢
 exact st_Colours_tell_picture (A := (pw_F 40 a s.heap.size)) ⟨B.exec, B.bytes, B.returns, hml, findClass_of_methodNamed B.named, atoms_spec (ws := w_Colours_tell) B.pre, B.notSynchronized, fun q hq => Or.inr hq⟩ ⟨hK, hI, fun k hk => Or.inl ⟨k, hk, rfl⟩⟩ x1 x2 x3 x4 u ls hP hl h
set_option maxHeartbeats 4000000 in
set_option maxRecDepth 100000 in
theorem st_PI_told {p : Program} {l : Launch} {e : Env} {s : State} {m : MethodId} {args : Array Value} {below : List Frame} {meth : Method} {c : Code} {D : va_G} {a : Nat → Nat} {cA cZ : ClassId} {G : pG} {A : Nat → Prop} {Q : Int32 → pS → Prop} (C : pw_C p s m args meth c b_PI_told 2 R_PI (some .boolean) w_PI_told A) (K : pw_K s D 40 a (cT cA cZ) A) (x1 : Int32) (u : pS) (ls : Array Slot) (hP : va_P D vwCl (cw a cA cZ G u) s.heap) (hl : lv_has ls 2 [(0, .ref (a 0)), (1, .int x1)]) (h : wp_PI_told G x1 u Q) : W p l e ({ frames := 0, cells := 0, slots := 0, locals := 0 } : Room) s m args below meth c s.heap [] 0 0 (pw_Ei below args s D (cw a cA cZ G) (cT cA cZ) A Q) (F0 m 0 ls []) := by
 obtain ⟨hx, hb, hr, hml, hown, hts, hlocks, hA⟩ := id C
 obtain ⟨hK, hI, hF⟩ := id K
 have hD : ∀ u, va_D A (cw a cA cZ G u) := fun u => cw_D hI hF
 have hS : va_S A s.heap s.heap [] := va_S.rf
 have h : wp_PI_told G x1 u Q := h
 refine lv_iload_n hx hb d_PI_told_0 rfl (lv_at hl 1 rfl) ?_
 refine lv_if_eq (tgt := 14) hx hb d_PI_told_1 (by decide) (fun c1 => ?_) (fun c1 => ?_)
 · have h := h.1 c1
   refine lv_iload_n hx hb d_PI_told_14 rfl (lv_at hl 1 rfl) ?_
   exact W.zret (v := x1) hx hb hr h.1 (fun t ht hW => ⟨⟨x1, u, rfl, h.2, by rw [ht]; exact hP, va_K.moved hW.alike hK⟩, hS.F ht⟩) hS.2.2 d_PI_told_15 hlocks
 · have h := h.2 c1
   refine lv_aload_n hx hb d_PI_told_4 rfl (lv_at hl 0 rfl) ?_
   refine lv_iconst (v := 0) hx hb d_PI_told_5 (by decide) ?_
   refine va_put (D := D) (ci := 0) (v := .int 0) (ty := .boolean) (C := R_PI) (T := T_PI) (N := 12) hx hb hts in_PI ty_PI tyok_PI nm_PI hown hK hP (hD _) hS 0 cw_at_0 rfl 10 (by decide) (hts _ (List.mem_cons_of_mem _ kw_322)) (fun _ h9 => h9) rfl (by decide +kernel) rfl rfl (Nat.le_of_ble_eq_true rfl) d_PI_told_6 (fun H locs hP _ hS => ?_)
   obtain ⟨u2, eu2⟩ : ∃ z, z = pw_si u 0 0 := ⟨_, rfl⟩
   rw [cw_si_0_10, ← eu2] at hP
   have h := h u2 eu2
   refine lv_aload_n hx hb d_PI_told_9 rfl (lv_at hl 0 rfl) ?_
   refine lv_iconst (v := 0) hx hb d_PI_told_10 (by decide) ?_
   refine va_put (D := D) (ci := 0) (v := .int 0) (ty := .boolean) (C := R_PI) (T := T_PI) (N := 12) hx hb hts in_PI ty_PI tyok_PI nm_PI hown hK hP (hD _) hS 0 cw_at_0 rfl 11 (by decide) (hts _ (List.mem_cons_of_mem _ kw_323)) (fun _ h9 => h9) rfl (by decide +kernel) rfl rfl (Nat.le_of_ble_eq_true rfl) d_PI_told_11 (fun H locs hP _ hS => ?_)
   obtain ⟨u3, eu3⟩ : ∃ z, z = pw_si u2 1 0 := ⟨_, rfl⟩
   rw [cw_si_0_11, ← eu3] at hP
   have h := h u3 eu3
   refine lv_iload_n hx hb d_PI_told_14 rfl (lv_at hl 1 rfl) ?_
   exact W.zret (v := x1) hx hb hr h.1 (fun t ht hW => ⟨⟨x1, u3, rfl, h.2, by rw [ht]; exact hP, va_K.moved hW.alike hK⟩, hS.F ht⟩) hS.2.2 d_PI_told_15 hlocks
set_option maxHeartbeats 4000000 in
set_option maxRecDepth 100000 in
theorem ct_PI_told (l : Launch) (D : va_G) (a : Nat → Nat) (cA cZ : ClassId) (G : pG) (sz : Nat) (x1 : Int32) (u : pS) (Q : Int32 → pS → Prop) (hI : pw_I 40 a) (h : wp_PI_told G x1 u Q) : Met l y_PI_told w_PI_told ({ frames := 0, cells := 0, slots := 0, locals := 0 } : Room) (va_Pc [.ref (a 0), .int x1] (pw_pre D (cw a cA cZ G) (cT cA cZ) sz u)) (va_Qi (fun (r : Int32) (u : pS) => Q r u) (pw_B D (cw a cA cZ G) (cT cA cZ)) (pw_F 40 a sz)) 0 0 (pw_F 40 a sz) := by
 refine Met.ofW (cc := b_PI_told) (maxL := 2) (ret := (some .boolean)) (by decide) rfl ?_
 intro p e s m args below meth c s₁ B hml hv
 obtain ⟨rfl, hsz, hP, hK⟩ := hv
 subst hsz
 have hl := lv_entry ([.ref (a 0), .int x1]) (n := 2) (Nat.le_of_ble_eq_true rfl)
 rw [lg_entry_eq]
 generalize (lg_sl ([.ref (a 0), .int x1]) ++ List.replicate (2 - (lg_sl ([.ref (a 0), .int x1])).length) Slot.unset).toArray = ls at hl ⊢
 exact st_PI_told (A := (pw_F 40 a s.heap.size)) ⟨B.exec, B.bytes, B.returns, hml, findClass_of_methodNamed B.named, atoms_spec (ws := w_PI_told) B.pre, B.notSynchronized, fun q hq => Or.inr hq⟩ ⟨hK, hI, fun k hk => Or.inl ⟨k, hk, rfl⟩⟩ x1 u ls hP hl h
set_option maxHeartbeats 4000000 in
set_option maxRecDepth 100000 in
theorem st_PI_pixel {p : Program} {l : Launch} {e : Env} {s : State} {m : MethodId} {args : Array Value} {below : List Frame} {meth : Method} {c : Code} {D : va_G} {a : Nat → Nat} {cA cZ : ClassId} {G : pG} {A : Nat → Prop} {Q : Int32 → pS → Prop} {X : Nat → pS → Prop} (C : pw_C p s m args meth c b_PI_pixel 6 R_PI (some .boolean) w_PI_pixel A) (K : pw_K s D 40 a (cT cA cZ) A) (EX : cw_Ex A s) (hL : px_L l) (htr : e.platform.stackTraces = false) (hE : ∀ (pc : Nat), ∀ x ∈ c.exceptionTable.toList, covers x pc = false) (x1 x2 x3 x4 x5 : Int32) (u : pS) (ls : Array Slot) (hP : va_P D vwCl (cw a cA cZ G u) s.heap) (hl : lv_has ls 6 [(0, .ref (a 0)), (1, .int x1), (2, .int x2), (3, .int x3), (4, .int x4), (5, .int x5)]) (h : wp_PI_pixel G x1 x2 x3 x4 x5 u Q X) : W p l e ({ frames := 8, cells := 1, slots := 6, locals := 126 } : Room) s m args below meth c s.heap [] 0 0 (px_Ei below args s D (cw a cA cZ G) (cT cA cZ) A Q X) (F0 m 0 ls []) := by
 obtain ⟨hx, hb, hr, hml, hown, hts, hlocks, hA⟩ := id C
 obtain ⟨hK, hI, hF⟩ := id K
 have hD : ∀ u, va_D A (cw a cA cZ G u) := fun u => cw_D hI hF
 have hz : ∀ oc t, px_T X (pw_B D (cw a cA cZ G) (cT cA cZ)) oc t → va_F A s t → (px_Qi Q X (pw_B D (cw a cA cZ G) (cT cA cZ)) A) args s oc t := fun oc t h1 h2 => ⟨Or.inr h1, h2⟩
 have hS : va_S A s.heap s.heap [] := va_S.rf
 have h : wp_PI_pixel G x1 x2 x3 x4 x5 u Q X := h
 refine lv_aload_n hx hb d_PI_pixel_0 rfl (lv_at hl 0 rfl) ?_
 refine lv_iload_n hx hb d_PI_pixel_1 rfl (lv_at hl 1 rfl) ?_
 refine lv_iload_n hx hb d_PI_pixel_2 rfl (lv_at hl 2 rfl) ?_
 refine cx_v (px_runV (As := [.int x1, .int x2]) (rest := []) ⟨hx, hb, hml, hown, hts⟩ (ct_PI_needPlace l D a cA cZ G _ x1 x2 u _ _ hL hI h) (pw_cwV 2 hts kw_364 kw_45 kw_361 kw_363 kw_0 (by decide +kernel) ⟨Nat.le_of_ble_eq_true rfl, Nat.le_of_ble_eq_true rfl⟩) ⟨cw_blindX, va_recv hK hP (ci := 0) (q0 := 0) rfl cw_at_0, fun U hU hW => ⟨rfl, ⟨by rw [hU], by rw [hU]; exact hP, va_K.moved hW.alike hK⟩, cw_Ex_call EX hS (pw_FA hS hF hA) hU hW⟩⟩ rfl rfl hl.1 rfl (lv_room (Nat.le_of_ble_eq_true rfl)) d_PI_pixel_3 ⟨Nat.le_of_ble_eq_true rfl, Nat.le_of_ble_eq_true rfl⟩) hS hF hA (hE _) hlocks hz (fun u1 H locs hP hS h => ?_)
 refine lv_iload_n hx hb d_PI_pixel_6 rfl (lv_at hl 3 rfl) ?_
 refine lv_iload hx hb d_PI_pixel_7 (lv_at hl 4 rfl) ?_
 refine lv_iload hx hb d_PI_pixel_9 (lv_at hl 5 rfl) ?_
 refine cx_v (px_runS (As := [.int x3, .int x4, .int x5]) (rest := []) ⟨hx, hb, hml, hown, hts⟩ (ct_PI_needColour l D a cA cZ G _ x3 x4 x5 u1 _ _ hL hI h) (pw_cwS 3 hts kw_438 kw_45 kw_436 kw_437 (by decide +kernel) ⟨Nat.le_of_ble_eq_true rfl, Nat.le_of_ble_eq_true rfl⟩) ⟨cw_blindX, fun U hU hW => ⟨rfl, ⟨by rw [hU], by rw [hU]; exact hP, va_K.moved hW.alike hK⟩, cw_Ex_call EX hS (pw_FA hS hF hA) hU hW⟩⟩ rfl rfl hl.1 rfl (lv_room (Nat.le_of_ble_eq_true rfl)) d_PI_pixel_11 ⟨Nat.le_of_ble_eq_true rfl, Nat.le_of_ble_eq_true rfl⟩) hS hF hA (hE _) hlocks hz (fun u2 H locs hP hS h => ?_)
 refine lv_aload_n hx hb d_PI_pixel_14 rfl (lv_at hl 0 rfl) ?_
 refine lv_aload_n hx hb d_PI_pixel_15 rfl (lv_at hl 0 rfl) ?_
 refine va_get (D := D) (ci := 0) (v := .ref (a 2)) (C := R_PI) (T := T_PI) (N := 12) hx hb hts in_PI hown hK hP 0 cw_at_0 rfl 2 (by decide) (hts _ (List.mem_cons_of_mem _ kw_314)) (fun _ h9 => h9) rfl d_PI_pixel_16 ?_
 refine lv_aload_n hx hb d_PI_pixel_19 rfl (lv_at hl 0 rfl) ?_
 refine va_get (D := D) (ci := 0) (v := .ref (a 1)) (C := R_PI) (T := T_PI) (N := 12) hx hb hts in_PI hown hK hP 0 cw_at_0 rfl 0 (by decide) (hts _ (List.mem_cons_of_mem _ kw_312)) (fun _ h9 => h9) rfl d_PI_pixel_20 ?_
 refine lv_iload_n hx hb d_PI_pixel_23 rfl (lv_at hl 1 rfl) ?_
 refine lv_iload_n hx hb d_PI_pixel_24 rfl (lv_at hl 2 rfl) ?_
 refine cc_i (va_runV (As := [.int x1, .int x2]) (rest := [.ref (a 2), .ref (a 0)]) ⟨hx, hb, hml, hown, hts⟩ (ct_Grid_placeOf l D a cA cZ G _ x1 x2 u2 _ hI h) (pw_cwV 2 hts kw_96 kw_46 kw_458 kw_94 kw_95 (by decide +kernel) ⟨Nat.le_of_ble_eq_true rfl, Nat.le_of_ble_eq_true rfl⟩) ⟨pw_blind, va_recv hK hP (ci := 4) (q0 := 1) rfl cw_at_1, fun U hU hW => ⟨rfl, by rw [hU], by rw [hU]; exact hP, va_K.moved hW.alike hK⟩⟩ rfl rfl hl.1 rfl (lv_room (Nat.le_of_ble_eq_true rfl)) d_PI_pixel_25 ⟨Nat.le_of_ble_eq_true rfl, Nat.le_of_ble_eq_true rfl⟩) hS hF hA (fun r4 u3 H locs hP hS h => ?_)
 refine lv_iload_n hx hb d_PI_pixel_28 rfl (lv_at hl 3 rfl) ?_
 refine lv_iload hx hb d_PI_pixel_29 (lv_at hl 4 rfl) ?_
 refine lv_iload hx hb d_PI_pixel_31 (lv_at hl 5 rfl) ?_
 refine cc_i (va_runV (As := [.int r4, .int x3, .int x4, .int x5]) (rest := [.ref (a 0)]) ⟨hx, hb, hml, hown, hts⟩ (ct_Colours_tell_picture l D a cA cZ G _ r4 x3 x4 x5 u3 _ hI h) (pw_cwV 4 hts kw_462 kw_48 kw_459 kw_460 kw_461 (by decide +kernel) ⟨Nat.le_of_ble_eq_true rfl, Nat.le_of_ble_eq_true rfl⟩) ⟨pw_blind, va_recv hK hP (ci := 3) (q0 := 2) rfl cw_at_2, fun U hU hW => ⟨rfl, by rw [hU], by rw [hU]; exact hP, va_K.moved hW.alike hK⟩⟩ rfl rfl hl.1 rfl (lv_room (Nat.le_of_ble_eq_true rfl)) d_PI_pixel_33 ⟨Nat.le_of_ble_eq_true rfl, Nat.le_of_ble_eq_true rfl⟩) hS hF hA (fun r6 u5 H locs hP hS h => ?_)
 refine cc_i (va_runV (As := [.int r6]) (rest := []) ⟨hx, hb, hml, hown, hts⟩ (ct_PI_told l D a cA cZ G _ r6 u5 _ hI h) (pw_cwV 1 hts kw_466 kw_45 kw_463 kw_465 kw_2 (by decide +kernel) ⟨Nat.le_of_ble_eq_true rfl, Nat.le_of_ble_eq_true rfl⟩) ⟨pw_blind, va_recv hK hP (ci := 0) (q0 := 0) rfl cw_at_0, fun U hU hW => ⟨rfl, by rw [hU], by rw [hU]; exact hP, va_K.moved hW.alike hK⟩⟩ rfl rfl hl.1 rfl (lv_room (Nat.le_of_ble_eq_true rfl)) d_PI_pixel_36 ⟨Nat.le_of_ble_eq_true rfl, Nat.le_of_ble_eq_true rfl⟩) hS hF hA (fun r8 u7 H locs hP hS h => ?_)
 exact px_mono (fun t h => px_ofMQ (fun _ _ h => h) h) (W.zret (Qc := px_Qi Q X (pw_B D (cw a cA cZ G) (cT cA cZ)) A) (v := r8) hx hb hr h.1 (fun t ht hW => ⟨Or.inl ⟨r8, u7, rfl, h.2, by rw [ht]; exact hP, va_K.moved hW.alike hK⟩, hS.F ht⟩) hS.2.2 d_PI_pixel_39 hlocks)
set_option maxHeartbeats 4000000 in
set_option maxRecDepth 100000 in
theorem ct_PI_pixel (l : Launch) (D : va_G) (a : Nat → Nat) (cA cZ : ClassId) (G : pG) (sz : Nat) (x1 x2 x3 x4 x5 : Int32) (u : pS) (Q : Int32 → pS → Prop) (X : Nat → pS → Prop) (hL : px_L l) (hI : pw_I 40 a) (h : wp_PI_pixel G x1 x2 x3 x4 x5 u Q X) : px_Met l y_PI_pixel w_PI_pixel ({ frames := 8, cells := 1, slots := 6, locals := 126 } : Room) (va_Pc [.ref (a 0), .int x1, .int x2, .int x3, .int x4, .int x5] (fun U => pw_pre D (cw a cA cZ G) (cT cA cZ) sz u U ∧ cw_Ex (pw_F 40 a sz) U)) (px_Qi Q X (pw_B D (cw a cA cZ G) (cT cA cZ)) (pw_F 40 a sz)) 0 0 1 6 (pw_F 40 a sz) := by
 refine px_ofW (cc := b_PI_pixel) (maxL := 6) (ret := (some .boolean)) (by decide) rfl ?_
 intro p e s m args below meth c s₁ B hml hE hv
 obtain ⟨rfl, ⟨hsz, hP, hK⟩, EX⟩ := hv
 subst hsz
 have hl := lv_entry ([.ref (a 0), .int x1, .int x2, .int x3, .int x4, .int x5]) (n := 6) (Nat.le_of_ble_eq_true rfl)
 rw [lg_entry_eq]
 generalize (lg_sl ([.ref (a 0), .int x1, .int x2, .int x3, .int x4, .int x5]) ++ List.replicate (6 - (lg_sl ([.ref (a 0), .int x1, .int x2, .int x3, .int x4, .int x5])).length) Slot.unset).toArray = ls at hl ⊢
 exact st_PI_pixel (A := (pw_F 40 a s.heap.size)) ⟨B.exec, B.bytes, B.returns, hml, findClass_of_methodNamed B.named, atoms_spec (ws := w_PI_pixel) B.pre, B.notSynchronized, fun q hq => Or.inr hq⟩ ⟨hK, hI, fun k hk => Or.inl ⟨k, hk, rfl⟩⟩ EX hL (hL e B.admits) (px_none hE) x1 x2 x3 x4 x5 u ls hP hl h
set_option maxHeartbeats 4000000 in
set_option maxRecDepth 100000 in
theorem cp_Colours_tell_woods_46 {p : Program} {l : Launch} {e : Env} {s : State} {m : MethodId} {args : Array Value} {below : List Frame} {meth : Method} {c : Code} {D : va_G} {a : Nat → Nat} {cA cZ : ClassId} {G : pG} {A : Nat → Prop} {Q : Int32 → pS → Prop} (C : pw_C p s m args meth c b_Colours_tell 5 R_Colours (some .boolean) w_Colours_tell A) (K : pw_K s D 40 a (cT cA cZ) A) : ∀ (x1 x2 x3 x4 : Int32) (u : pS) (H : Heap) (locs : List Loc) (ls : Array Slot), va_P D vwCl (cw a cA cZ G u) H → va_S A s.heap H locs → lv_has ls 5 [(0, .ref (a 3)), (1, .int x1), (2, .int x2), (3, .int x3), (4, .int x4)] → jn_Colours_tell_woods_46 G Q x1 x2 x3 x4 u → W p l e ({ frames := 0, cells := 0, slots := 0, locals := 0 } : Room) s m args below meth c H locs 0 0 (pw_Ei below args s D (cw a cA cZ G) (cT cA cZ) A Q) (F0 m 46 ls []) := by
 obtain ⟨hx, hb, hr, hml, hown, hts, hlocks, hA⟩ := id C
 obtain ⟨hK, hI, hF⟩ := id K
 have hD : ∀ u, va_D A (cw a cA cZ G u) := fun u => cw_D hI hF
 intro x1 x2 x3 x4 u H locs ls hP hS hl h
 refine lv_aload_n hx hb d_Colours_tell_46 rfl (lv_at hl 0 rfl) ?_
 refine va_get (D := D) (ci := 3) (v := .ref (a 17)) (C := R_Colours) (T := T_Colours) (N := 3) hx hb hts in_Colours hown hK hP 3 cw_at_3 rfl 0 (by decide) (hts _ (List.mem_cons_of_mem _ kw_135)) (fun _ h9 => h9) rfl d_Colours_tell_47 ?_
 refine lv_iload_n hx hb d_Colours_tell_50 rfl (lv_at hl 1 rfl) ?_
 refine lv_iload_n hx hb d_Colours_tell_51 rfl (lv_at hl 2 rfl) ?_
 refine va_iast hx hb hK hP (hD _) hS 17 0 cw_at_17 rfl h.1 d_Colours_tell_52 (fun H locs hP _ hS => ?_)
 obtain ⟨u4, eu4⟩ : ∃ z, z = pw_sa u 3 (upd (u.2 3) x1.toNatClampNeg x2) := ⟨_, rfl⟩
 rw [cw_sa_17, ← eu4] at hP
 have h := h.2 u4 eu4
 refine lv_aload_n hx hb d_Colours_tell_53 rfl (lv_at hl 0 rfl) ?_
 refine va_get (D := D) (ci := 3) (v := .ref (a 18)) (C := R_Colours) (T := T_Colours) (N := 3) hx hb hts in_Colours hown hK hP 3 cw_at_3 rfl 1 (by decide) (hts _ (List.mem_cons_of_mem _ kw_136)) (fun _ h9 => h9) rfl d_Colours_tell_54 ?_
 refine lv_iload_n hx hb d_Colours_tell_57 rfl (lv_at hl 1 rfl) ?_
 refine lv_iload_n hx hb d_Colours_tell_58 rfl (lv_at hl 3 rfl) ?_
 refine va_iast hx hb hK hP (hD _) hS 18 0 cw_at_18 rfl h.1 d_Colours_tell_59 (fun H locs hP _ hS => ?_)
 obtain ⟨u5, eu5⟩ : ∃ z, z = pw_sa u4 4 (upd (u4.2 4) x1.toNatClampNeg x3) := ⟨_, rfl⟩
 rw [cw_sa_18, ← eu5] at hP
 have h := h.2 u5 eu5
 refine lv_aload_n hx hb d_Colours_tell_60 rfl (lv_at hl 0 rfl) ?_
 refine va_get (D := D) (ci := 3) (v := .ref (a 19)) (C := R_Colours) (T := T_Colours) (N := 3) hx hb hts in_Colours hown hK hP 3 cw_at_3 rfl 2 (by decide) (hts _ (List.mem_cons_of_mem _ kw_137)) (fun _ h9 => h9) rfl d_Colours_tell_61 ?_
 refine lv_iload_n hx hb d_Colours_tell_64 rfl (lv_at hl 1 rfl) ?_
 refine lv_iload hx hb d_Colours_tell_65 (lv_at hl 4 rfl) ?_
 refine va_iast hx hb hK hP (hD _) hS 19 0 cw_at_19 rfl h.1 d_Colours_tell_67 (fun H locs hP _ hS => ?_)
 obtain ⟨u6, eu6⟩ : ∃ z, z = pw_sa u5 5 (upd (u5.2 5) x1.toNatClampNeg x4) := ⟨_, rfl⟩
 rw [cw_sa_19, ← eu6] at hP
 have h := h.2 u6 eu6
 refine lv_iconst (v := 1) hx hb d_Colours_tell_68 (by decide) ?_
 exact W.zret (v := 1) hx hb hr rfl (fun t ht hW => ⟨⟨1, u6, rfl, h, by rw [ht]; exact hP, va_K.moved hW.alike hK⟩, hS.F ht⟩) hS.2.2 d_Colours_tell_69 hlocks
set_option maxHeartbeats 4000000 in
set_option maxRecDepth 100000 in
theorem st_Colours_tell_woods {p : Program} {l : Launch} {e : Env} {s : State} {m : MethodId} {args : Array Value} {below : List Frame} {meth : Method} {c : Code} {D : va_G} {a : Nat → Nat} {cA cZ : ClassId} {G : pG} {A : Nat → Prop} {Q : Int32 → pS → Prop} (C : pw_C p s m args meth c b_Colours_tell 5 R_Colours (some .boolean) w_Colours_tell A) (K : pw_K s D 40 a (cT cA cZ) A) (x1 x2 x3 x4 : Int32) (u : pS) (ls : Array Slot) (hP : va_P D vwCl (cw a cA cZ G u) s.heap) (hl : lv_has ls 5 [(0, .ref (a 3)), (1, .int x1), (2, .int x2), (3, .int x3), (4, .int x4)]) (h : wp_Colours_tell_woods G x1 x2 x3 x4 u Q) : W p l e ({ frames := 0, cells := 0, slots := 0, locals := 0 } : Room) s m args below meth c s.heap [] 0 0 (pw_Ei below args s D (cw a cA cZ G) (cT cA cZ) A Q) (F0 m 0 ls []) := by
 obtain ⟨hx, hb, hr, hml, hown, hts, hlocks, hA⟩ := id C
 obtain ⟨hK, hI, hF⟩ := id K
 have hD : ∀ u, va_D A (cw a cA cZ G u) := fun u => cw_D hI hF
 have hS : va_S A s.heap s.heap [] := va_S.rf
 have h : wp_Colours_tell_woods G x1 x2 x3 x4 u Q := h
 refine lv_iload_n hx hb d_Colours_tell_0 rfl (lv_at hl 1 rfl) ?_
 refine lv_if_lt (tgt := 44) hx hb d_Colours_tell_1 (by decide) (fun c1 => ?_) (fun c1 => ?_)
 · have h := h.1 c1
   refine lv_iconst (v := 0) hx hb d_Colours_tell_44 (by decide) ?_
   exact W.zret (v := 0) hx hb hr rfl (fun t ht hW => ⟨⟨0, u, rfl, h, by rw [ht]; exact hP, va_K.moved hW.alike hK⟩, hS.F ht⟩) hS.2.2 d_Colours_tell_45 hlocks
 · have h := h.2 c1
   refine lv_iload_n hx hb d_Colours_tell_4 rfl (lv_at hl 1 rfl) ?_
   refine lv_aload_n hx hb d_Colours_tell_5 rfl (lv_at hl 0 rfl) ?_
   refine va_get (D := D) (ci := 3) (v := .ref (a 17)) (C := R_Colours) (T := T_Colours) (N := 3) hx hb hts in_Colours hown hK hP 3 cw_at_3 rfl 0 (by decide) (hts _ (List.mem_cons_of_mem _ kw_135)) (fun _ h9 => h9) rfl d_Colours_tell_6 ?_
   refine va_alen (v := nI (G.1 17)) hx hb hK hP 17 0 cw_at_17 rfl rfl d_Colours_tell_9 ?_
   refine lv_icmp_ge (tgt := 44) hx hb d_Colours_tell_10 (by decide) (fun c2 => ?_) (fun c2 => ?_)
   · have h := h.1 c2
     refine lv_iconst (v := 0) hx hb d_Colours_tell_44 (by decide) ?_
     exact W.zret (v := 0) hx hb hr rfl (fun t ht hW => ⟨⟨0, u, rfl, h, by rw [ht]; exact hP, va_K.moved hW.alike hK⟩, hS.F ht⟩) hS.2.2 d_Colours_tell_45 hlocks
   · have h := h.2 c2
     refine lv_aload_n hx hb d_Colours_tell_13 rfl (lv_at hl 0 rfl) ?_
     refine va_get (D := D) (ci := 3) (v := .ref (a 17)) (C := R_Colours) (T := T_Colours) (N := 3) hx hb hts in_Colours hown hK hP 3 cw_at_3 rfl 0 (by decide) (hts _ (List.mem_cons_of_mem _ kw_135)) (fun _ h9 => h9) rfl d_Colours_tell_14 ?_
     refine lv_iload_n hx hb d_Colours_tell_17 rfl (lv_at hl 1 rfl) ?_
     refine va_iald hx hb hK hP 17 0 cw_at_17 rfl h.1 d_Colours_tell_18 ?_
     have h := h.2
     refine lv_iload_n hx hb d_Colours_tell_19 rfl (lv_at hl 2 rfl) ?_
     refine lv_icmp_ne (tgt := 46) hx hb d_Colours_tell_20 (by decide) (fun c3 => ?_) (fun c3 => ?_)
     · have h := h.2 c3
       exact cp_Colours_tell_woods_46 C K x1 x2 x3 x4 u _ _ _ hP hS (lv_sub hl [0, 1, 2, 3, 4] rfl) h
     · have h := h.1 c3
       refine lv_aload_n hx hb d_Colours_tell_23 rfl (lv_at hl 0 rfl) ?_
       refine va_get (D := D) (ci := 3) (v := .ref (a 18)) (C := R_Colours) (T := T_Colours) (N := 3) hx hb hts in_Colours hown hK hP 3 cw_at_3 rfl 1 (by decide) (hts _ (List.mem_cons_of_mem _ kw_136)) (fun _ h9 => h9) rfl d_Colours_tell_24 ?_
       refine lv_iload_n hx hb d_Colours_tell_27 rfl (lv_at hl 1 rfl) ?_
       refine va_iald hx hb hK hP 18 0 cw_at_18 rfl h.1 d_Colours_tell_28 ?_
       have h := h.2
       refine lv_iload_n hx hb d_Colours_tell_29 rfl (lv_at hl 3 rfl) ?_
       refine lv_icmp_ne (tgt := 46) hx hb d_Colours_tell_30 (by decide) (fun c7 => ?_) (fun c7 => ?_)
       · have h := h.2 c7
         exact cp_Colours_tell_woods_46 C K x1 x2 x3 x4 u _ _ _ hP hS (lv_sub hl [0, 1, 2, 3, 4] rfl) h
       · have h := h.1 c7
         refine lv_aload_n hx hb d_Colours_tell_33 rfl (lv_at hl 0 rfl) ?_
         refine va_get (D := D) (ci := 3) (v := .ref (a 19)) (C := R_Colours) (T := T_Colours) (N := 3) hx hb hts in_Colours hown hK hP 3 cw_at_3 rfl 2 (by decide) (hts _ (List.mem_cons_of_mem _ kw_137)) (fun _ h9 => h9) rfl d_Colours_tell_34 ?_
         refine lv_iload_n hx hb d_Colours_tell_37 rfl (lv_at hl 1 rfl) ?_
         refine va_iald hx hb hK hP 19 0 cw_at_19 rfl h.1 d_Colours_tell_38 ?_
         have h := h.2
         refine lv_iload hx hb d_Colours_tell_39 (lv_at hl 4 rfl) ?_
         refine lv_icmp_ne (tgt := 46) hx hb d_Colours_tell_41 (by decide) (fun c8 => ?_) (fun c8 => ?_)
         · have h := h.2 c8
           exact cp_Colours_tell_woods_46 C K x1 x2 x3 x4 u _ _ _ hP hS (lv_sub hl [0, 1, 2, 3, 4] rfl) h
         · have h := h.1 c8
           refine lv_iconst (v := 0) hx hb d_Colours_tell_44 (by decide) ?_
           exact W.zret (v := 0) hx hb hr rfl (fun t ht hW => ⟨⟨0, u, rfl, h, by rw [ht]; exact hP, va_K.moved hW.alike hK⟩, hS.F ht⟩) hS.2.2 d_Colours_tell_45 hlocks
set_option maxHeartbeats 4000000 in
set_option maxRecDepth 100000 in
theorem ct_Colours_tell_woods (l : Launch) (D : va_G) (a : Nat → Nat) (cA cZ : ClassId) (G : pG) (sz : Nat) (x1 x2 x3 x4 : Int32) (u : pS) (Q : Int32 → pS → Prop) (hI : pw_I 40 a) (h : wp_Colours_tell_woods G x1 x2 x3 x4 u Q) : Met l y_Colours_tell w_Colours_tell ({ frames := 0, cells := 0, slots := 0, locals := 0 } : Room) (va_Pc [.ref (a 3), .int x1, .int x2, .int x3, .int x4] (pw_pre D (cw a cA cZ G) (cT cA cZ) sz u)) (va_Qi (fun (r : Int32) (u : pS) => Q r u) (pw_B D (cw a cA cZ G) (cT cA cZ)) (pw_F 40 a sz)) 0 0 (pw_F 40 a sz) := by
 refine Met.ofW (cc := b_Colours_tell) (maxL := 5) (ret := (some .boolean)) (by decide) rfl ?_
 intro p e s m args below meth c s₁ B hml hv
 obtain ⟨rfl, hsz, hP, hK⟩ := hv
 subst hsz
 have hl := lv_entry ([.ref (a 3), .int x1, .int x2, .int x3, .int x4]) (n := 5) (Nat.le_of_ble_eq_true rfl)
 rw [lg_entry_eq]
 generalize (lg_sl ([.ref (a 3), .int x1, .int x2, .int x3, .int x4]) ++ List.replicate (5 - (lg_sl ([.ref (a 3), .int x1, .int x2, .int x3, .int x4])).length) Slot.unset).toArray = ls at hl ⊢
 exact st_Colours_tell_woods (A := (pw_F 40 a s.heap.size)) ⟨B.exec, B.bytes, B.returns, hml, findClass_of_methodNamed B.named, atoms_spec (ws := w_Colours_tell) B.pre, B.notSynchronized, fun q hq => Or.inr hq⟩ ⟨hK, hI, fun k hk => Or.inl ⟨k, hk, rfl⟩⟩ x1 x2 x3 x4 u ls hP hl h
