set_option maxHeartbeats 4000000 in
set_option maxRecDepth 100000 in
theorem st_PI_kind {p : Program} {l : Launch} {e : Env} {s : State} {m : MethodId} {args : Array Value} {below : List Frame} {meth : Method} {c : Code} {D : va_G} {a : Nat → Nat} {cA cZ : ClassId} {G : pG} {A : Nat → Prop} {Q : Int32 → pS → Prop} {X : Nat → pS → Prop} (C : pw_C p s m args meth c b_PI_kind 5 R_PI (some .boolean) w_PI_kind A) (K : pw_K s D 40 a (cT cA cZ) A) (EX : cw_Ex A s) (hL : px_L l) (htr : e.platform.stackTraces = false) (hE : ∀ (pc : Nat), ∀ x ∈ c.exceptionTable.toList, covers x pc = false) (x1 x2 x3 x4 : Int32) (u : pS) (ls : Array Slot) (hP : va_P D vwCl (cw a cA cZ G u) s.heap) (hl : lv_has ls 5 [(0, .ref (a 0)), (1, .int x1), (2, .int x2), (3, .int x3), (4, .int x4)]) (h : wp_PI_kind G x1 x2 x3 x4 u Q X) : W p l e ({ frames := 8, cells := 1, slots := 6, locals := 126 } : Room) s m args below meth c s.heap [] 0 0 (px_Ei below args s D (cw a cA cZ G) (cT cA cZ) A Q X) (F0 m 0 ls []) := by
 obtain ⟨hx, hb, hr, hml, hown, hts, hlocks, hA⟩ := id C
 obtain ⟨hK, hI, hF⟩ := id K
 have hD : ∀ u, va_D A (cw a cA cZ G u) := fun u => cw_D hI hF
 have hz : ∀ oc t, px_T X (pw_B D (cw a cA cZ G) (cT cA cZ)) oc t → va_F A s t → (px_Qi Q X (pw_B D (cw a cA cZ G) (cT cA cZ)) A) args s oc t := fun oc t h1 h2 => ⟨Or.inr h1, h2⟩
 have hS : va_S A s.heap s.heap [] := va_S.rf
 have h : wp_PI_kind G x1 x2 x3 x4 u Q X := h
 refine lv_iload_n hx hb d_PI_kind_0 rfl (lv_at hl 1 rfl) ?_
 refine lv_aload_n hx hb d_PI_kind_1 rfl (lv_at hl 0 rfl) ?_
 refine va_get (D := D) (ci := 0) (v := .int (G.2.1 0)) (C := R_PI) (T := T_PI) (N := 12) hx hb hts in_PI hown hK hP 0 cw_at_0 rfl 1 (by decide) (hts _ (List.mem_cons_of_mem _ kw_313)) (fun _ h9 => h9) rfl d_PI_kind_2 ?_
 refine cx_v (px_runS (As := [.int x1, .int (G.2.1 0)]) (rest := []) ⟨hx, hb, hml, hown, hts⟩ (ct_PI_needIndex l D a cA cZ G _ x1 (G.2.1 0) u _ _ hL hI h) (pw_cwS 2 hts kw_367 kw_45 kw_365 kw_366 (by decide +kernel) ⟨Nat.le_of_ble_eq_true rfl, Nat.le_of_ble_eq_true rfl⟩) ⟨cw_blindX, fun U hU hW => ⟨rfl, ⟨by rw [hU], by rw [hU]; exact hP, va_K.moved hW.alike hK⟩, cw_Ex_call EX hS (pw_FA hS hF hA) hU hW⟩⟩ rfl rfl hl.1 rfl (lv_room (Nat.le_of_ble_eq_true rfl)) d_PI_kind_5 ⟨Nat.le_of_ble_eq_true rfl, Nat.le_of_ble_eq_true rfl⟩) hS hF hA (hE _) hlocks hz (fun u1 H locs hP hS h => ?_)
 refine lv_iload_n hx hb d_PI_kind_8 rfl (lv_at hl 2 rfl) ?_
 refine lv_iload_n hx hb d_PI_kind_9 rfl (lv_at hl 3 rfl) ?_
 refine lv_iload hx hb d_PI_kind_10 (lv_at hl 4 rfl) ?_
 refine cx_v (px_runS (As := [.int x2, .int x3, .int x4]) (rest := []) ⟨hx, hb, hml, hown, hts⟩ (ct_PI_needColour l D a cA cZ G _ x2 x3 x4 u1 _ _ hL hI h) (pw_cwS 3 hts kw_438 kw_45 kw_436 kw_437 (by decide +kernel) ⟨Nat.le_of_ble_eq_true rfl, Nat.le_of_ble_eq_true rfl⟩) ⟨cw_blindX, fun U hU hW => ⟨rfl, ⟨by rw [hU], by rw [hU]; exact hP, va_K.moved hW.alike hK⟩, cw_Ex_call EX hS (pw_FA hS hF hA) hU hW⟩⟩ rfl rfl hl.1 rfl (lv_room (Nat.le_of_ble_eq_true rfl)) d_PI_kind_12 ⟨Nat.le_of_ble_eq_true rfl, Nat.le_of_ble_eq_true rfl⟩) hS hF hA (hE _) hlocks hz (fun u2 H locs hP hS h => ?_)
 refine lv_aload_n hx hb d_PI_kind_15 rfl (lv_at hl 0 rfl) ?_
 refine lv_aload_n hx hb d_PI_kind_16 rfl (lv_at hl 0 rfl) ?_
 refine va_get (D := D) (ci := 0) (v := .ref (a 3)) (C := R_PI) (T := T_PI) (N := 12) hx hb hts in_PI hown hK hP 0 cw_at_0 rfl 3 (by decide) (hts _ (List.mem_cons_of_mem _ kw_315)) (fun _ h9 => h9) rfl d_PI_kind_17 ?_
 refine lv_iload_n hx hb d_PI_kind_20 rfl (lv_at hl 1 rfl) ?_
 refine lv_iload_n hx hb d_PI_kind_21 rfl (lv_at hl 2 rfl) ?_
 refine lv_iload_n hx hb d_PI_kind_22 rfl (lv_at hl 3 rfl) ?_
 refine lv_iload hx hb d_PI_kind_23 (lv_at hl 4 rfl) ?_
 refine cc_i (va_runV (As := [.int x1, .int x2, .int x3, .int x4]) (rest := [.ref (a 0)]) ⟨hx, hb, hml, hown, hts⟩ (ct_Colours_tell_woods l D a cA cZ G _ x1 x2 x3 x4 u2 _ hI h) (pw_cwV 4 hts kw_462 kw_48 kw_459 kw_460 kw_461 (by decide +kernel) ⟨Nat.le_of_ble_eq_true rfl, Nat.le_of_ble_eq_true rfl⟩) ⟨pw_blind, va_recv hK hP (ci := 3) (q0 := 3) rfl cw_at_3, fun U hU hW => ⟨rfl, by rw [hU], by rw [hU]; exact hP, va_K.moved hW.alike hK⟩⟩ rfl rfl hl.1 rfl (lv_room (Nat.le_of_ble_eq_true rfl)) d_PI_kind_25 ⟨Nat.le_of_ble_eq_true rfl, Nat.le_of_ble_eq_true rfl⟩) hS hF hA (fun r4 u3 H locs hP hS h => ?_)
 refine cc_i (va_runV (As := [.int r4]) (rest := []) ⟨hx, hb, hml, hown, hts⟩ (ct_PI_told l D a cA cZ G _ r4 u3 _ hI h) (pw_cwV 1 hts kw_466 kw_45 kw_463 kw_465 kw_2 (by decide +kernel) ⟨Nat.le_of_ble_eq_true rfl, Nat.le_of_ble_eq_true rfl⟩) ⟨pw_blind, va_recv hK hP (ci := 0) (q0 := 0) rfl cw_at_0, fun U hU hW => ⟨rfl, by rw [hU], by rw [hU]; exact hP, va_K.moved hW.alike hK⟩⟩ rfl rfl hl.1 rfl (lv_room (Nat.le_of_ble_eq_true rfl)) d_PI_kind_28 ⟨Nat.le_of_ble_eq_true rfl, Nat.le_of_ble_eq_true rfl⟩) hS hF hA (fun r6 u5 H locs hP hS h => ?_)
 exact px_mono (fun t h => px_ofMQ (fun _ _ h => h) h) (W.zret (Qc := px_Qi Q X (pw_B D (cw a cA cZ G) (cT cA cZ)) A) (v := r6) hx hb hr h.1 (fun t ht hW => ⟨Or.inl ⟨r6, u5, rfl, h.2, by rw [ht]; exact hP, va_K.moved hW.alike hK⟩, hS.F ht⟩) hS.2.2 d_PI_kind_31 hlocks)
set_option maxHeartbeats 4000000 in
set_option maxRecDepth 100000 in
theorem ct_PI_kind (l : Launch) (D : va_G) (a : Nat → Nat) (cA cZ : ClassId) (G : pG) (sz : Nat) (x1 x2 x3 x4 : Int32) (u : pS) (Q : Int32 → pS → Prop) (X : Nat → pS → Prop) (hL : px_L l) (hI : pw_I 40 a) (h : wp_PI_kind G x1 x2 x3 x4 u Q X) : px_Met l y_PI_kind w_PI_kind ({ frames := 8, cells := 1, slots := 6, locals := 126 } : Room) (va_Pc [.ref (a 0), .int x1, .int x2, .int x3, .int x4] (fun U => pw_pre D (cw a cA cZ G) (cT cA cZ) sz u U ∧ cw_Ex (pw_F 40 a sz) U)) (px_Qi Q X (pw_B D (cw a cA cZ G) (cT cA cZ)) (pw_F 40 a sz)) 0 0 1 6 (pw_F 40 a sz) := by
 refine px_ofW (cc := b_PI_kind) (maxL := 5) (ret := (some .boolean)) (by decide) rfl ?_
 intro p e s m args below meth c s₁ B hml hE hv
 obtain ⟨rfl, ⟨hsz, hP, hK⟩, EX⟩ := hv
 subst hsz
 have hl := lv_entry ([.ref (a 0), .int x1, .int x2, .int x3, .int x4]) (n := 5) (Nat.le_of_ble_eq_true rfl)
 rw [lg_entry_eq]
 generalize (lg_sl ([.ref (a 0), .int x1, .int x2, .int x3, .int x4]) ++ List.replicate (5 - (lg_sl ([.ref (a 0), .int x1, .int x2, .int x3, .int x4])).length) Slot.unset).toArray = ls at hl ⊢
 exact st_PI_kind (A := (pw_F 40 a s.heap.size)) ⟨B.exec, B.bytes, B.returns, hml, findClass_of_methodNamed B.named, atoms_spec (ws := w_PI_kind) B.pre, B.notSynchronized, fun q hq => Or.inr hq⟩ ⟨hK, hI, fun k hk => Or.inl ⟨k, hk, rfl⟩⟩ EX hL (hL e B.admits) (px_none hE) x1 x2 x3 x4 u ls hP hl h
set_option maxHeartbeats 4000000 in
set_option maxRecDepth 100000 in
theorem st_PI_needParted {p : Program} {l : Launch} {e : Env} {s : State} {m : MethodId} {args : Array Value} {below : List Frame} {meth : Method} {c : Code} {D : va_G} {a : Nat → Nat} {cA cZ : ClassId} {G : pG} {A : Nat → Prop} {Q : pS → Prop} {X : Nat → pS → Prop} (C : pw_C p s m args meth c b_PI_needParted 1 R_PI none w_PI_needParted A) (K : pw_K s D 40 a (cT cA cZ) A) (EX : cw_Ex A s) (hL : px_L l) (htr : e.platform.stackTraces = false) (hE : ∀ (pc : Nat), ∀ x ∈ c.exceptionTable.toList, covers x pc = false) (u : pS) (ls : Array Slot) (hP : va_P D vwCl (cw a cA cZ G u) s.heap) (hl : lv_has ls 1 [(0, .ref (a 0))]) (h : wp_PI_needParted G u Q X) : W p l e ({ frames := 6, cells := 1, slots := 6, locals := 82 } : Room) s m args below meth c s.heap [] 0 0 (px_Ev below args s D (cw a cA cZ G) (cT cA cZ) A Q X) (F0 m 0 ls []) := by
 obtain ⟨hx, hb, hr, hml, hown, hts, hlocks, hA⟩ := id C
 obtain ⟨hK, hI, hF⟩ := id K
 have hD : ∀ u, va_D A (cw a cA cZ G u) := fun u => cw_D hI hF
 have hz : ∀ oc t, px_T X (pw_B D (cw a cA cZ G) (cT cA cZ)) oc t → va_F A s t → (px_Qv Q X (pw_B D (cw a cA cZ G) (cT cA cZ)) A) args s oc t := fun oc t h1 h2 => ⟨Or.inr h1, h2⟩
 have hS : va_S A s.heap s.heap [] := va_S.rf
 have h : wp_PI_needParted G u Q X := h
 refine lv_aload_n hx hb d_PI_needParted_0 rfl (lv_at hl 0 rfl) ?_
 refine va_get (D := D) (ci := 0) (v := .int (u.1 0)) (C := R_PI) (T := T_PI) (N := 12) hx hb hts in_PI hown hK hP 0 cw_at_0 rfl 10 (by decide) (hts _ (List.mem_cons_of_mem _ kw_322)) (fun _ h9 => h9) rfl d_PI_needParted_1 ?_
 refine lv_if_ne (tgt := 17) hx hb d_PI_needParted_4 (by decide) (fun c1 => ?_) (fun c1 => ?_)
 · have h := h.2 c1
   exact px_mono (fun t h => px_ofMQ (fun _ _ h => h) h) (W.vret (Qc := px_Qv Q X (pw_B D (cw a cA cZ G) (cT cA cZ)) A) hx hb hr (fun t ht hW => ⟨Or.inl ⟨u, rfl, h, by rw [ht]; exact hP, va_K.moved hW.alike hK⟩, hS.F ht⟩) hS.2.2 d_PI_needParted_17 hlocks)
 · have h := h.1 c1
   obtain ⟨q0, hq0⟩ := EX.1.2.1.1 ("PictureInlays", 219, "not parted since another colour was told") (by decide)
   exact px_thr (k := 0) (u := u) (tx := "not parted since another colour was told") (names := px_up) hx hb (by rw [hml]; exact hl.1.symm) hown (hts _ (List.mem_cons_of_mem _ kw_612)) (hts _ (List.mem_cons_of_mem _ kw_613)) (hts _ (List.mem_cons_of_mem _ kw_65)) hq0 (px_own (by decide) kw_622 hts EX.1) (by decide +kernel) (by decide +kernel) htr (hE _) hlocks (Nat.le_of_ble_eq_true rfl) (Nat.le_of_ble_eq_true rfl) (Nat.le_of_ble_eq_true rfl) (Nat.le_of_ble_eq_true rfl) hz hP hK h d_PI_needParted_7 d_PI_needParted_10 d_PI_needParted_11 d_PI_needParted_13 d_PI_needParted_16
set_option maxHeartbeats 4000000 in
set_option maxRecDepth 100000 in
theorem ct_PI_needParted (l : Launch) (D : va_G) (a : Nat → Nat) (cA cZ : ClassId) (G : pG) (sz : Nat) (u : pS) (Q : pS → Prop) (X : Nat → pS → Prop) (hL : px_L l) (hI : pw_I 40 a) (h : wp_PI_needParted G u Q X) : px_Met l y_PI_needParted w_PI_needParted ({ frames := 6, cells := 1, slots := 6, locals := 82 } : Room) (va_Pc [.ref (a 0)] (fun U => pw_pre D (cw a cA cZ G) (cT cA cZ) sz u U ∧ cw_Ex (pw_F 40 a sz) U)) (px_Qv Q X (pw_B D (cw a cA cZ G) (cT cA cZ)) (pw_F 40 a sz)) 0 0 1 6 (pw_F 40 a sz) := by
 refine px_ofW (cc := b_PI_needParted) (maxL := 1) (ret := none) (by decide) rfl ?_
 intro p e s m args below meth c s₁ B hml hE hv
 obtain ⟨rfl, ⟨hsz, hP, hK⟩, EX⟩ := hv
 subst hsz
 have hl := lv_entry ([.ref (a 0)]) (n := 1) (Nat.le_of_ble_eq_true rfl)
 rw [lg_entry_eq]
 generalize (lg_sl ([.ref (a 0)]) ++ List.replicate (1 - (lg_sl ([.ref (a 0)])).length) Slot.unset).toArray = ls at hl ⊢
 exact st_PI_needParted (A := (pw_F 40 a s.heap.size)) ⟨B.exec, B.bytes, B.returns, hml, findClass_of_methodNamed B.named, atoms_spec (ws := w_PI_needParted) B.pre, B.notSynchronized, fun q hq => Or.inr hq⟩ ⟨hK, hI, fun k hk => Or.inl ⟨k, hk, rfl⟩⟩ EX hL (hL e B.admits) (px_none hE) u ls hP hl h
set_option maxHeartbeats 4000000 in
set_option maxRecDepth 100000 in
theorem st_Pieces_numberOf {p : Program} {l : Launch} {e : Env} {s : State} {m : MethodId} {args : Array Value} {below : List Frame} {meth : Method} {c : Code} {D : va_G} {a : Nat → Nat} {cA cZ : ClassId} {G : pG} {A : Nat → Prop} {Q : Int32 → pS → Prop} (C : pw_C p s m args meth c b_Pieces_numberOf 4 R_Pieces (some .int) w_Pieces_numberOf A) (K : pw_K s D 40 a (cT cA cZ) A) (x1 x2 : Int32) (u : pS) (ls : Array Slot) (hP : va_P D vwCl (cw a cA cZ G u) s.heap) (hl : lv_has ls 4 [(0, .ref (a 4)), (1, .int x1), (2, .int x2)]) (h : wp_Pieces_numberOf G x1 x2 u Q) : W p l e ({ frames := 1, cells := 0, slots := 0, locals := 23 } : Room) s m args below meth c s.heap [] 0 0 (pw_Ei below args s D (cw a cA cZ G) (cT cA cZ) A Q) (F0 m 0 ls []) := by
 obtain ⟨hx, hb, hr, hml, hown, hts, hlocks, hA⟩ := id C
 obtain ⟨hK, hI, hF⟩ := id K
 have hD : ∀ u, va_D A (cw a cA cZ G u) := fun u => cw_D hI hF
 have hS : va_S A s.heap s.heap [] := va_S.rf
 have h : wp_Pieces_numberOf G x1 x2 u Q := h
 refine lv_aload_n hx hb d_Pieces_numberOf_0 rfl (lv_at hl 0 rfl) ?_
 refine va_get (D := D) (ci := 7) (v := .ref (a 1)) (C := R_Pieces) (T := T_Pieces) (N := 11) hx hb hts in_Pieces hown hK hP 4 cw_at_4 rfl 0 (by decide) (hts _ (List.mem_cons_of_mem _ kw_151)) (fun _ h9 => h9) rfl d_Pieces_numberOf_1 ?_
 refine lv_iload_n hx hb d_Pieces_numberOf_4 rfl (lv_at hl 1 rfl) ?_
 refine lv_iload_n hx hb d_Pieces_numberOf_5 rfl (lv_at hl 2 rfl) ?_
 refine cc_i (va_runV (As := [.int x1, .int x2]) (rest := []) ⟨hx, hb, hml, hown, hts⟩ (ct_Grid_placeOf l D a cA cZ G _ x1 x2 u _ hI h) (pw_cwV 2 hts kw_96 kw_46 kw_632 kw_94 kw_95 (by decide +kernel) ⟨Nat.le_of_ble_eq_true rfl, Nat.le_of_ble_eq_true rfl⟩) ⟨pw_blind, va_recv hK hP (ci := 4) (q0 := 1) rfl cw_at_1, fun U hU hW => ⟨rfl, by rw [hU], by rw [hU]; exact hP, va_K.moved hW.alike hK⟩⟩ rfl rfl hl.1 rfl (lv_room (Nat.le_of_ble_eq_true rfl)) d_Pieces_numberOf_6 ⟨Nat.le_of_ble_eq_true rfl, Nat.le_of_ble_eq_true rfl⟩) hS hF hA (fun r2 u1 H locs hP hS h => ?_)
 refine lv_istore_n (lv' := [(3, .int r2), (0, .ref (a 4)), (1, .int x1), (2, .int x2)]) hx hb d_Pieces_numberOf_9 rfl hl (by decide) rfl (fun ls hl => ?_)
 refine lv_iload_n hx hb d_Pieces_numberOf_10 rfl (lv_at hl 0 rfl) ?_
 refine lv_iconst (v := -1) hx hb d_Pieces_numberOf_11 (by decide) ?_
 refine lv_icmp_ne (tgt := 19) hx hb d_Pieces_numberOf_12 (by decide) (fun c3 => ?_) (fun c3 => ?_)
 · have h := h.2 c3
   refine lv_aload_n hx hb d_Pieces_numberOf_19 rfl (lv_at hl 1 rfl) ?_
   refine va_get (D := D) (ci := 7) (v := .ref (a 21)) (C := R_Pieces) (T := T_Pieces) (N := 11) hx hb hts in_Pieces hown hK hP 4 cw_at_4 rfl 2 (by decide) (hts _ (List.mem_cons_of_mem _ kw_153)) (fun _ h9 => h9) rfl d_Pieces_numberOf_20 ?_
   refine lv_iload_n hx hb d_Pieces_numberOf_23 rfl (lv_at hl 0 rfl) ?_
   refine va_iald hx hb hK hP 21 0 cw_at_21 rfl h.1 d_Pieces_numberOf_24 ?_
   have h := h.2
   exact W.iret (v := (u1.2 7 r2.toNatClampNeg)) hx hb hr (fun t ht hW => ⟨⟨(u1.2 7 r2.toNatClampNeg), u1, rfl, h, by rw [ht]; exact hP, va_K.moved hW.alike hK⟩, hS.F ht⟩) hS.2.2 d_Pieces_numberOf_25 hlocks
 · have h := h.1 c3
   refine lv_iconst (v := -1) hx hb d_Pieces_numberOf_15 (by decide) ?_
   refine lv_goto (tgt := 25) hx hb d_Pieces_numberOf_16 (by decide) ?_
   exact W.iret (v := (-1)) hx hb hr (fun t ht hW => ⟨⟨(-1), u1, rfl, h, by rw [ht]; exact hP, va_K.moved hW.alike hK⟩, hS.F ht⟩) hS.2.2 d_Pieces_numberOf_25 hlocks
set_option maxHeartbeats 4000000 in
set_option maxRecDepth 100000 in
theorem ct_Pieces_numberOf (l : Launch) (D : va_G) (a : Nat → Nat) (cA cZ : ClassId) (G : pG) (sz : Nat) (x1 x2 : Int32) (u : pS) (Q : Int32 → pS → Prop) (hI : pw_I 40 a) (h : wp_Pieces_numberOf G x1 x2 u Q) : Met l y_Pieces_numberOf w_Pieces_numberOf ({ frames := 1, cells := 0, slots := 0, locals := 23 } : Room) (va_Pc [.ref (a 4), .int x1, .int x2] (pw_pre D (cw a cA cZ G) (cT cA cZ) sz u)) (va_Qi (fun (r : Int32) (u : pS) => Q r u) (pw_B D (cw a cA cZ G) (cT cA cZ)) (pw_F 40 a sz)) 0 0 (pw_F 40 a sz) := by
 refine Met.ofW (cc := b_Pieces_numberOf) (maxL := 4) (ret := (some .int)) (by decide) rfl ?_
 intro p e s m args below meth c s₁ B hml hv
 obtain ⟨rfl, hsz, hP, hK⟩ := hv
 subst hsz
 have hl := lv_entry ([.ref (a 4), .int x1, .int x2]) (n := 4) (Nat.le_of_ble_eq_true rfl)
 rw [lg_entry_eq]
 generalize (lg_sl ([.ref (a 4), .int x1, .int x2]) ++ List.replicate (4 - (lg_sl ([.ref (a 4), .int x1, .int x2])).length) Slot.unset).toArray = ls at hl ⊢
 exact st_Pieces_numberOf (A := (pw_F 40 a s.heap.size)) ⟨B.exec, B.bytes, B.returns, hml, findClass_of_methodNamed B.named, atoms_spec (ws := w_Pieces_numberOf) B.pre, B.notSynchronized, fun q hq => Or.inr hq⟩ ⟨hK, hI, fun k hk => Or.inl ⟨k, hk, rfl⟩⟩ x1 x2 u ls hP hl h
set_option maxHeartbeats 4000000 in
set_option maxRecDepth 100000 in
theorem st_PI_pieceOf {p : Program} {l : Launch} {e : Env} {s : State} {m : MethodId} {args : Array Value} {below : List Frame} {meth : Method} {c : Code} {D : va_G} {a : Nat → Nat} {cA cZ : ClassId} {G : pG} {A : Nat → Prop} {Q : Int32 → pS → Prop} {X : Nat → pS → Prop} (C : pw_C p s m args meth c b_PI_pieceOf 3 R_PI (some .int) w_PI_pieceOf A) (K : pw_K s D 40 a (cT cA cZ) A) (EX : cw_Ex A s) (hL : px_L l) (htr : e.platform.stackTraces = false) (hE : ∀ (pc : Nat), ∀ x ∈ c.exceptionTable.toList, covers x pc = false) (x1 x2 : Int32) (u : pS) (ls : Array Slot) (hP : va_P D vwCl (cw a cA cZ G u) s.heap) (hl : lv_has ls 3 [(0, .ref (a 0)), (1, .int x1), (2, .int x2)]) (h : wp_PI_pieceOf G x1 x2 u Q X) : W p l e ({ frames := 8, cells := 1, slots := 6, locals := 125 } : Room) s m args below meth c s.heap [] 0 0 (px_Ei below args s D (cw a cA cZ G) (cT cA cZ) A Q X) (F0 m 0 ls []) := by
 obtain ⟨hx, hb, hr, hml, hown, hts, hlocks, hA⟩ := id C
 obtain ⟨hK, hI, hF⟩ := id K
 have hD : ∀ u, va_D A (cw a cA cZ G u) := fun u => cw_D hI hF
 have hz : ∀ oc t, px_T X (pw_B D (cw a cA cZ G) (cT cA cZ)) oc t → va_F A s t → (px_Qi Q X (pw_B D (cw a cA cZ G) (cT cA cZ)) A) args s oc t := fun oc t h1 h2 => ⟨Or.inr h1, h2⟩
 have hS : va_S A s.heap s.heap [] := va_S.rf
 have h : wp_PI_pieceOf G x1 x2 u Q X := h
 refine lv_aload_n hx hb d_PI_pieceOf_0 rfl (lv_at hl 0 rfl) ?_
 refine cx_v (px_runV (As := []) (rest := []) ⟨hx, hb, hml, hown, hts⟩ (ct_PI_needParted l D a cA cZ G _  u _ _ hL hI h) (pw_cwV 0 hts kw_611 kw_45 kw_608 kw_610 kw_12 (by decide +kernel) ⟨Nat.le_of_ble_eq_true rfl, Nat.le_of_ble_eq_true rfl⟩) ⟨cw_blindX, va_recv hK hP (ci := 0) (q0 := 0) rfl cw_at_0, fun U hU hW => ⟨rfl, ⟨by rw [hU], by rw [hU]; exact hP, va_K.moved hW.alike hK⟩, cw_Ex_call EX hS (pw_FA hS hF hA) hU hW⟩⟩ rfl rfl hl.1 rfl (lv_room (Nat.le_of_ble_eq_true rfl)) d_PI_pieceOf_1 ⟨Nat.le_of_ble_eq_true rfl, Nat.le_of_ble_eq_true rfl⟩) hS hF hA (hE _) hlocks hz (fun u1 H locs hP hS h => ?_)
 refine lv_aload_n hx hb d_PI_pieceOf_4 rfl (lv_at hl 0 rfl) ?_
 refine lv_iload_n hx hb d_PI_pieceOf_5 rfl (lv_at hl 1 rfl) ?_
 refine lv_iload_n hx hb d_PI_pieceOf_6 rfl (lv_at hl 2 rfl) ?_
 refine cx_v (px_runV (As := [.int x1, .int x2]) (rest := []) ⟨hx, hb, hml, hown, hts⟩ (ct_PI_needPlace l D a cA cZ G _ x1 x2 u1 _ _ hL hI h) (pw_cwV 2 hts kw_364 kw_45 kw_361 kw_363 kw_0 (by decide +kernel) ⟨Nat.le_of_ble_eq_true rfl, Nat.le_of_ble_eq_true rfl⟩) ⟨cw_blindX, va_recv hK hP (ci := 0) (q0 := 0) rfl cw_at_0, fun U hU hW => ⟨rfl, ⟨by rw [hU], by rw [hU]; exact hP, va_K.moved hW.alike hK⟩, cw_Ex_call EX hS (pw_FA hS hF hA) hU hW⟩⟩ rfl rfl hl.1 rfl (lv_room (Nat.le_of_ble_eq_true rfl)) d_PI_pieceOf_7 ⟨Nat.le_of_ble_eq_true rfl, Nat.le_of_ble_eq_true rfl⟩) hS hF hA (hE _) hlocks hz (fun u2 H locs hP hS h => ?_)
 refine lv_aload_n hx hb d_PI_pieceOf_10 rfl (lv_at hl 0 rfl) ?_
 refine va_get (D := D) (ci := 0) (v := .ref (a 4)) (C := R_PI) (T := T_PI) (N := 12) hx hb hts in_PI hown hK hP 0 cw_at_0 rfl 4 (by decide) (hts _ (List.mem_cons_of_mem _ kw_316)) (fun _ h9 => h9) rfl d_PI_pieceOf_11 ?_
 refine lv_iload_n hx hb d_PI_pieceOf_14 rfl (lv_at hl 1 rfl) ?_
 refine lv_iload_n hx hb d_PI_pieceOf_15 rfl (lv_at hl 2 rfl) ?_
 refine cc_i (va_runV (As := [.int x1, .int x2]) (rest := []) ⟨hx, hb, hml, hown, hts⟩ (ct_Pieces_numberOf l D a cA cZ G _ x1 x2 u2 _ hI h) (pw_cwV 2 hts kw_631 kw_49 kw_628 kw_629 kw_630 (by decide +kernel) ⟨Nat.le_of_ble_eq_true rfl, Nat.le_of_ble_eq_true rfl⟩) ⟨pw_blind, va_recv hK hP (ci := 7) (q0 := 4) rfl cw_at_4, fun U hU hW => ⟨rfl, by rw [hU], by rw [hU]; exact hP, va_K.moved hW.alike hK⟩⟩ rfl rfl hl.1 rfl (lv_room (Nat.le_of_ble_eq_true rfl)) d_PI_pieceOf_16 ⟨Nat.le_of_ble_eq_true rfl, Nat.le_of_ble_eq_true rfl⟩) hS hF hA (fun r4 u3 H locs hP hS h => ?_)
 exact px_mono (fun t h => px_ofMQ (fun _ _ h => h) h) (W.iret (Qc := px_Qi Q X (pw_B D (cw a cA cZ G) (cT cA cZ)) A) (v := r4) hx hb hr (fun t ht hW => ⟨Or.inl ⟨r4, u3, rfl, h, by rw [ht]; exact hP, va_K.moved hW.alike hK⟩, hS.F ht⟩) hS.2.2 d_PI_pieceOf_19 hlocks)
set_option maxHeartbeats 4000000 in
set_option maxRecDepth 100000 in
theorem ct_PI_pieceOf (l : Launch) (D : va_G) (a : Nat → Nat) (cA cZ : ClassId) (G : pG) (sz : Nat) (x1 x2 : Int32) (u : pS) (Q : Int32 → pS → Prop) (X : Nat → pS → Prop) (hL : px_L l) (hI : pw_I 40 a) (h : wp_PI_pieceOf G x1 x2 u Q X) : px_Met l y_PI_pieceOf w_PI_pieceOf ({ frames := 8, cells := 1, slots := 6, locals := 125 } : Room) (va_Pc [.ref (a 0), .int x1, .int x2] (fun U => pw_pre D (cw a cA cZ G) (cT cA cZ) sz u U ∧ cw_Ex (pw_F 40 a sz) U)) (px_Qi Q X (pw_B D (cw a cA cZ G) (cT cA cZ)) (pw_F 40 a sz)) 0 0 1 6 (pw_F 40 a sz) := by
 refine px_ofW (cc := b_PI_pieceOf) (maxL := 3) (ret := (some .int)) (by decide) rfl ?_
 intro p e s m args below meth c s₁ B hml hE hv
 obtain ⟨rfl, ⟨hsz, hP, hK⟩, EX⟩ := hv
 subst hsz
 have hl := lv_entry ([.ref (a 0), .int x1, .int x2]) (n := 3) (Nat.le_of_ble_eq_true rfl)
 rw [lg_entry_eq]
 generalize (lg_sl ([.ref (a 0), .int x1, .int x2]) ++ List.replicate (3 - (lg_sl ([.ref (a 0), .int x1, .int x2])).length) Slot.unset).toArray = ls at hl ⊢
 exact st_PI_pieceOf (A := (pw_F 40 a s.heap.size)) ⟨B.exec, B.bytes, B.returns, hml, findClass_of_methodNamed B.named, atoms_spec (ws := w_PI_pieceOf) B.pre, B.notSynchronized, fun q hq => Or.inr hq⟩ ⟨hK, hI, fun k hk => Or.inl ⟨k, hk, rfl⟩⟩ EX hL (hL e B.admits) (px_none hE) x1 x2 u ls hP hl h
set_option maxHeartbeats 4000000 in
set_option maxRecDepth 100000 in
theorem st_PI_needPiece {p : Program} {l : Launch} {e : Env} {s : State} {m : MethodId} {args : Array Value} {below : List Frame} {meth : Method} {c : Code} {D : va_G} {a : Nat → Nat} {cA cZ : ClassId} {G : pG} {A : Nat → Prop} {Q : pS → Prop} {X : Nat → pS → Prop} (C : pw_C p s m args meth c b_PI_needPiece 2 R_PI none w_PI_needPiece A) (K : pw_K s D 40 a (cT cA cZ) A) (EX : cw_Ex A s) (hL : px_L l) (htr : e.platform.stackTraces = false) (hE : ∀ (pc : Nat), ∀ x ∈ c.exceptionTable.toList, covers x pc = false) (x1 : Int32) (u : pS) (ls : Array Slot) (hP : va_P D vwCl (cw a cA cZ G u) s.heap) (hl : lv_has ls 2 [(0, .ref (a 0)), (1, .int x1)]) (h : wp_PI_needPiece G x1 u Q X) : W p l e ({ frames := 7, cells := 1, slots := 6, locals := 103 } : Room) s m args below meth c s.heap [] 0 0 (px_Ev below args s D (cw a cA cZ G) (cT cA cZ) A Q X) (F0 m 0 ls []) := by
 obtain ⟨hx, hb, hr, hml, hown, hts, hlocks, hA⟩ := id C
 obtain ⟨hK, hI, hF⟩ := id K
 have hD : ∀ u, va_D A (cw a cA cZ G u) := fun u => cw_D hI hF
 have hz : ∀ oc t, px_T X (pw_B D (cw a cA cZ G) (cT cA cZ)) oc t → va_F A s t → (px_Qv Q X (pw_B D (cw a cA cZ G) (cT cA cZ)) A) args s oc t := fun oc t h1 h2 => ⟨Or.inr h1, h2⟩
 have hS : va_S A s.heap s.heap [] := va_S.rf
 have h : wp_PI_needPiece G x1 u Q X := h
 refine lv_aload_n hx hb d_PI_needPiece_0 rfl (lv_at hl 0 rfl) ?_
 refine cx_v (px_runV (As := []) (rest := []) ⟨hx, hb, hml, hown, hts⟩ (ct_PI_needParted l D a cA cZ G _  u _ _ hL hI h) (pw_cwV 0 hts kw_611 kw_45 kw_608 kw_610 kw_12 (by decide +kernel) ⟨Nat.le_of_ble_eq_true rfl, Nat.le_of_ble_eq_true rfl⟩) ⟨cw_blindX, va_recv hK hP (ci := 0) (q0 := 0) rfl cw_at_0, fun U hU hW => ⟨rfl, ⟨by rw [hU], by rw [hU]; exact hP, va_K.moved hW.alike hK⟩, cw_Ex_call EX hS (pw_FA hS hF hA) hU hW⟩⟩ rfl rfl hl.1 rfl (lv_room (Nat.le_of_ble_eq_true rfl)) d_PI_needPiece_1 ⟨Nat.le_of_ble_eq_true rfl, Nat.le_of_ble_eq_true rfl⟩) hS hF hA (hE _) hlocks hz (fun u1 H locs hP hS h => ?_)
 refine lv_iload_n hx hb d_PI_needPiece_4 rfl (lv_at hl 1 rfl) ?_
 refine lv_aload_n hx hb d_PI_needPiece_5 rfl (lv_at hl 0 rfl) ?_
 refine va_get (D := D) (ci := 0) (v := .ref (a 4)) (C := R_PI) (T := T_PI) (N := 12) hx hb hts in_PI hown hK hP 0 cw_at_0 rfl 4 (by decide) (hts _ (List.mem_cons_of_mem _ kw_316)) (fun _ h9 => h9) rfl d_PI_needPiece_6 ?_
 refine va_get (D := D) (ci := 7) (v := .int (u1.1 2)) (C := R_Pieces) (T := T_Pieces) (N := 11) hx hb hts in_Pieces hown hK hP 4 cw_at_4 rfl 10 (by decide) (hts _ (List.mem_cons_of_mem _ kw_163)) (fun _ h9 => h9) rfl d_PI_needPiece_9 ?_
 refine cx_v (px_runS (As := [.int x1, .int (u1.1 2)]) (rest := []) ⟨hx, hb, hml, hown, hts⟩ (ct_PI_needIndex l D a cA cZ G _ x1 (u1.1 2) u1 _ _ hL hI h) (pw_cwS 2 hts kw_367 kw_45 kw_365 kw_366 (by decide +kernel) ⟨Nat.le_of_ble_eq_true rfl, Nat.le_of_ble_eq_true rfl⟩) ⟨cw_blindX, fun U hU hW => ⟨rfl, ⟨by rw [hU], by rw [hU]; exact hP, va_K.moved hW.alike hK⟩, cw_Ex_call EX hS (pw_FA hS hF hA) hU hW⟩⟩ rfl rfl hl.1 rfl (lv_room (Nat.le_of_ble_eq_true rfl)) d_PI_needPiece_12 ⟨Nat.le_of_ble_eq_true rfl, Nat.le_of_ble_eq_true rfl⟩) hS hF hA (hE _) hlocks hz (fun u2 H locs hP hS h => ?_)
 exact px_mono (fun t h => px_ofMQ (fun _ _ h => h) h) (W.vret (Qc := px_Qv Q X (pw_B D (cw a cA cZ G) (cT cA cZ)) A) hx hb hr (fun t ht hW => ⟨Or.inl ⟨u2, rfl, h, by rw [ht]; exact hP, va_K.moved hW.alike hK⟩, hS.F ht⟩) hS.2.2 d_PI_needPiece_15 hlocks)
set_option maxHeartbeats 4000000 in
set_option maxRecDepth 100000 in
theorem ct_PI_needPiece (l : Launch) (D : va_G) (a : Nat → Nat) (cA cZ : ClassId) (G : pG) (sz : Nat) (x1 : Int32) (u : pS) (Q : pS → Prop) (X : Nat → pS → Prop) (hL : px_L l) (hI : pw_I 40 a) (h : wp_PI_needPiece G x1 u Q X) : px_Met l y_PI_needPiece w_PI_needPiece ({ frames := 7, cells := 1, slots := 6, locals := 103 } : Room) (va_Pc [.ref (a 0), .int x1] (fun U => pw_pre D (cw a cA cZ G) (cT cA cZ) sz u U ∧ cw_Ex (pw_F 40 a sz) U)) (px_Qv Q X (pw_B D (cw a cA cZ G) (cT cA cZ)) (pw_F 40 a sz)) 0 0 1 6 (pw_F 40 a sz) := by
 refine px_ofW (cc := b_PI_needPiece) (maxL := 2) (ret := none) (by decide) rfl ?_
 intro p e s m args below meth c s₁ B hml hE hv
 obtain ⟨rfl, ⟨hsz, hP, hK⟩, EX⟩ := hv
 subst hsz
 have hl := lv_entry ([.ref (a 0), .int x1]) (n := 2) (Nat.le_of_ble_eq_true rfl)
 rw [lg_entry_eq]
 generalize (lg_sl ([.ref (a 0), .int x1]) ++ List.replicate (2 - (lg_sl ([.ref (a 0), .int x1])).length) Slot.unset).toArray = ls at hl ⊢
 exact st_PI_needPiece (A := (pw_F 40 a s.heap.size)) ⟨B.exec, B.bytes, B.returns, hml, findClass_of_methodNamed B.named, atoms_spec (ws := w_PI_needPiece) B.pre, B.notSynchronized, fun q hq => Or.inr hq⟩ ⟨hK, hI, fun k hk => Or.inl ⟨k, hk, rfl⟩⟩ EX hL (hL e B.admits) (px_none hE) x1 u ls hP hl h
set_option maxHeartbeats 4000000 in
set_option maxRecDepth 100000 in
theorem st_Pieces_woodOf {p : Program} {l : Launch} {e : Env} {s : State} {m : MethodId} {args : Array Value} {below : List Frame} {meth : Method} {c : Code} {D : va_G} {a : Nat → Nat} {cA cZ : ClassId} {G : pG} {A : Nat → Prop} {Q : Int32 → pS → Prop} (C : pw_C p s m args meth c b_Pieces_woodOf 2 R_Pieces (some .int) w_Pieces_woodOf A) (K : pw_K s D 40 a (cT cA cZ) A) (x1 : Int32) (u : pS) (ls : Array Slot) (hP : va_P D vwCl (cw a cA cZ G u) s.heap) (hl : lv_has ls 2 [(0, .ref (a 4)), (1, .int x1)]) (h : wp_Pieces_woodOf G x1 u Q) : W p l e ({ frames := 0, cells := 0, slots := 0, locals := 0 } : Room) s m args below meth c s.heap [] 0 0 (pw_Ei below args s D (cw a cA cZ G) (cT cA cZ) A Q) (F0 m 0 ls []) := by
 obtain ⟨hx, hb, hr, hml, hown, hts, hlocks, hA⟩ := id C
 obtain ⟨hK, hI, hF⟩ := id K
 have hD : ∀ u, va_D A (cw a cA cZ G u) := fun u => cw_D hI hF
 have hS : va_S A s.heap s.heap [] := va_S.rf
 have h : wp_Pieces_woodOf G x1 u Q := h
 refine lv_aload_n hx hb d_Pieces_woodOf_0 rfl (lv_at hl 0 rfl) ?_
 refine va_get (D := D) (ci := 7) (v := .ref (a 20)) (C := R_Pieces) (T := T_Pieces) (N := 11) hx hb hts in_Pieces hown hK hP 4 cw_at_4 rfl 1 (by decide) (hts _ (List.mem_cons_of_mem _ kw_152)) (fun _ h9 => h9) rfl d_Pieces_woodOf_1 ?_
 refine lv_aload_n hx hb d_Pieces_woodOf_4 rfl (lv_at hl 0 rfl) ?_
 refine va_get (D := D) (ci := 7) (v := .ref (a 24)) (C := R_Pieces) (T := T_Pieces) (N := 11) hx hb hts in_Pieces hown hK hP 4 cw_at_4 rfl 5 (by decide) (hts _ (List.mem_cons_of_mem _ kw_156)) (fun _ h9 => h9) rfl d_Pieces_woodOf_5 ?_
 refine lv_iload_n hx hb d_Pieces_woodOf_8 rfl (lv_at hl 1 rfl) ?_
 refine va_iald hx hb hK hP 24 0 cw_at_24 rfl h.1 d_Pieces_woodOf_9 ?_
 have h := h.2
 refine va_iald hx hb hK hP 20 0 cw_at_20 rfl h.1 d_Pieces_woodOf_10 ?_
 have h := h.2
 exact W.iret (v := (u.2 6 (u.2 10 x1.toNatClampNeg).toNatClampNeg)) hx hb hr (fun t ht hW => ⟨⟨(u.2 6 (u.2 10 x1.toNatClampNeg).toNatClampNeg), u, rfl, h, by rw [ht]; exact hP, va_K.moved hW.alike hK⟩, hS.F ht⟩) hS.2.2 d_Pieces_woodOf_11 hlocks
set_option maxHeartbeats 4000000 in
set_option maxRecDepth 100000 in
theorem ct_Pieces_woodOf (l : Launch) (D : va_G) (a : Nat → Nat) (cA cZ : ClassId) (G : pG) (sz : Nat) (x1 : Int32) (u : pS) (Q : Int32 → pS → Prop) (hI : pw_I 40 a) (h : wp_Pieces_woodOf G x1 u Q) : Met l y_Pieces_woodOf w_Pieces_woodOf ({ frames := 0, cells := 0, slots := 0, locals := 0 } : Room) (va_Pc [.ref (a 4), .int x1] (pw_pre D (cw a cA cZ G) (cT cA cZ) sz u)) (va_Qi (fun (r : Int32) (u : pS) => Q r u) (pw_B D (cw a cA cZ G) (cT cA cZ)) (pw_F 40 a sz)) 0 0 (pw_F 40 a sz) := by
 refine Met.ofW (cc := b_Pieces_woodOf) (maxL := 2) (ret := (some .int)) (by decide) rfl ?_
 intro p e s m args below meth c s₁ B hml hv
 obtain ⟨rfl, hsz, hP, hK⟩ := hv
 subst hsz
 have hl := lv_entry ([.ref (a 4), .int x1]) (n := 2) (Nat.le_of_ble_eq_true rfl)
 rw [lg_entry_eq]
 generalize (lg_sl ([.ref (a 4), .int x1]) ++ List.replicate (2 - (lg_sl ([.ref (a 4), .int x1])).length) Slot.unset).toArray = ls at hl ⊢
 exact st_Pieces_woodOf (A := (pw_F 40 a s.heap.size)) ⟨B.exec, B.bytes, B.returns, hml, findClass_of_methodNamed B.named, atoms_spec (ws := w_Pieces_woodOf) B.pre, B.notSynchronized, fun q hq => Or.inr hq⟩ ⟨hK, hI, fun k hk => Or.inl ⟨k, hk, rfl⟩⟩ x1 u ls hP hl h
set_option maxHeartbeats 4000000 in
set_option maxRecDepth 100000 in
theorem st_Pieces_sizeOf {p : Program} {l : Launch} {e : Env} {s : State} {m : MethodId} {args : Array Value} {below : List Frame} {meth : Method} {c : Code} {D : va_G} {a : Nat → Nat} {cA cZ : ClassId} {G : pG} {A : Nat → Prop} {Q : Int32 → pS → Prop} (C : pw_C p s m args meth c b_Pieces_sizeOf 2 R_Pieces (some .int) w_Pieces_sizeOf A) (K : pw_K s D 40 a (cT cA cZ) A) (x1 : Int32) (u : pS) (ls : Array Slot) (hP : va_P D vwCl (cw a cA cZ G u) s.heap) (hl : lv_has ls 2 [(0, .ref (a 4)), (1, .int x1)]) (h : wp_Pieces_sizeOf G x1 u Q) : W p l e ({ frames := 0, cells := 0, slots := 0, locals := 0 } : Room) s m args below meth c s.heap [] 0 0 (pw_Ei below args s D (cw a cA cZ G) (cT cA cZ) A Q) (F0 m 0 ls []) := by
 obtain ⟨hx, hb, hr, hml, hown, hts, hlocks, hA⟩ := id C
 obtain ⟨hK, hI, hF⟩ := id K
 have hD : ∀ u, va_D A (cw a cA cZ G u) := fun u => cw_D hI hF
 have hS : va_S A s.heap s.heap [] := va_S.rf
 have h : wp_Pieces_sizeOf G x1 u Q := h
 refine lv_aload_n hx hb d_Pieces_sizeOf_0 rfl (lv_at hl 0 rfl) ?_
 refine va_get (D := D) (ci := 7) (v := .ref (a 25)) (C := R_Pieces) (T := T_Pieces) (N := 11) hx hb hts in_Pieces hown hK hP 4 cw_at_4 rfl 6 (by decide) (hts _ (List.mem_cons_of_mem _ kw_157)) (fun _ h9 => h9) rfl d_Pieces_sizeOf_1 ?_
 refine lv_iload_n hx hb d_Pieces_sizeOf_4 rfl (lv_at hl 1 rfl) ?_
 refine va_iald hx hb hK hP 25 0 cw_at_25 rfl h.1 d_Pieces_sizeOf_5 ?_
 have h := h.2
 exact W.iret (v := (u.2 11 x1.toNatClampNeg)) hx hb hr (fun t ht hW => ⟨⟨(u.2 11 x1.toNatClampNeg), u, rfl, h, by rw [ht]; exact hP, va_K.moved hW.alike hK⟩, hS.F ht⟩) hS.2.2 d_Pieces_sizeOf_6 hlocks
set_option maxHeartbeats 4000000 in
set_option maxRecDepth 100000 in
theorem ct_Pieces_sizeOf (l : Launch) (D : va_G) (a : Nat → Nat) (cA cZ : ClassId) (G : pG) (sz : Nat) (x1 : Int32) (u : pS) (Q : Int32 → pS → Prop) (hI : pw_I 40 a) (h : wp_Pieces_sizeOf G x1 u Q) : Met l y_Pieces_sizeOf w_Pieces_sizeOf ({ frames := 0, cells := 0, slots := 0, locals := 0 } : Room) (va_Pc [.ref (a 4), .int x1] (pw_pre D (cw a cA cZ G) (cT cA cZ) sz u)) (va_Qi (fun (r : Int32) (u : pS) => Q r u) (pw_B D (cw a cA cZ G) (cT cA cZ)) (pw_F 40 a sz)) 0 0 (pw_F 40 a sz) := by
 refine Met.ofW (cc := b_Pieces_sizeOf) (maxL := 2) (ret := (some .int)) (by decide) rfl ?_
 intro p e s m args below meth c s₁ B hml hv
 obtain ⟨rfl, hsz, hP, hK⟩ := hv
 subst hsz
 have hl := lv_entry ([.ref (a 4), .int x1]) (n := 2) (Nat.le_of_ble_eq_true rfl)
 rw [lg_entry_eq]
 generalize (lg_sl ([.ref (a 4), .int x1]) ++ List.replicate (2 - (lg_sl ([.ref (a 4), .int x1])).length) Slot.unset).toArray = ls at hl ⊢
 exact st_Pieces_sizeOf (A := (pw_F 40 a s.heap.size)) ⟨B.exec, B.bytes, B.returns, hml, findClass_of_methodNamed B.named, atoms_spec (ws := w_Pieces_sizeOf) B.pre, B.notSynchronized, fun q hq => Or.inr hq⟩ ⟨hK, hI, fun k hk => Or.inl ⟨k, hk, rfl⟩⟩ x1 u ls hP hl h
set_option maxHeartbeats 4000000 in
set_option maxRecDepth 100000 in
theorem st_Pieces_leastXOf {p : Program} {l : Launch} {e : Env} {s : State} {m : MethodId} {args : Array Value} {below : List Frame} {meth : Method} {c : Code} {D : va_G} {a : Nat → Nat} {cA cZ : ClassId} {G : pG} {A : Nat → Prop} {Q : Int32 → pS → Prop} (C : pw_C p s m args meth c b_Pieces_leastXOf 2 R_Pieces (some .int) w_Pieces_leastXOf A) (K : pw_K s D 40 a (cT cA cZ) A) (x1 : Int32) (u : pS) (ls : Array Slot) (hP : va_P D vwCl (cw a cA cZ G u) s.heap) (hl : lv_has ls 2 [(0, .ref (a 4)), (1, .int x1)]) (h : wp_Pieces_leastXOf G x1 u Q) : W p l e ({ frames := 0, cells := 0, slots := 0, locals := 0 } : Room) s m args below meth c s.heap [] 0 0 (pw_Ei below args s D (cw a cA cZ G) (cT cA cZ) A Q) (F0 m 0 ls []) := by
 obtain ⟨hx, hb, hr, hml, hown, hts, hlocks, hA⟩ := id C
 obtain ⟨hK, hI, hF⟩ := id K
 have hD : ∀ u, va_D A (cw a cA cZ G u) := fun u => cw_D hI hF
 have hS : va_S A s.heap s.heap [] := va_S.rf
 have h : wp_Pieces_leastXOf G x1 u Q := h
 refine lv_aload_n hx hb d_Pieces_leastXOf_0 rfl (lv_at hl 0 rfl) ?_
 refine va_get (D := D) (ci := 7) (v := .ref (a 26)) (C := R_Pieces) (T := T_Pieces) (N := 11) hx hb hts in_Pieces hown hK hP 4 cw_at_4 rfl 7 (by decide) (hts _ (List.mem_cons_of_mem _ kw_158)) (fun _ h9 => h9) rfl d_Pieces_leastXOf_1 ?_
 refine lv_iload_n hx hb d_Pieces_leastXOf_4 rfl (lv_at hl 1 rfl) ?_
 refine va_iald hx hb hK hP 26 0 cw_at_26 rfl h.1 d_Pieces_leastXOf_5 ?_
 have h := h.2
 exact W.iret (v := (u.2 12 x1.toNatClampNeg)) hx hb hr (fun t ht hW => ⟨⟨(u.2 12 x1.toNatClampNeg), u, rfl, h, by rw [ht]; exact hP, va_K.moved hW.alike hK⟩, hS.F ht⟩) hS.2.2 d_Pieces_leastXOf_6 hlocks
set_option maxHeartbeats 4000000 in
set_option maxRecDepth 100000 in
theorem ct_Pieces_leastXOf (l : Launch) (D : va_G) (a : Nat → Nat) (cA cZ : ClassId) (G : pG) (sz : Nat) (x1 : Int32) (u : pS) (Q : Int32 → pS → Prop) (hI : pw_I 40 a) (h : wp_Pieces_leastXOf G x1 u Q) : Met l y_Pieces_leastXOf w_Pieces_leastXOf ({ frames := 0, cells := 0, slots := 0, locals := 0 } : Room) (va_Pc [.ref (a 4), .int x1] (pw_pre D (cw a cA cZ G) (cT cA cZ) sz u)) (va_Qi (fun (r : Int32) (u : pS) => Q r u) (pw_B D (cw a cA cZ G) (cT cA cZ)) (pw_F 40 a sz)) 0 0 (pw_F 40 a sz) := by
 refine Met.ofW (cc := b_Pieces_leastXOf) (maxL := 2) (ret := (some .int)) (by decide) rfl ?_
 intro p e s m args below meth c s₁ B hml hv
 obtain ⟨rfl, hsz, hP, hK⟩ := hv
 subst hsz
 have hl := lv_entry ([.ref (a 4), .int x1]) (n := 2) (Nat.le_of_ble_eq_true rfl)
 rw [lg_entry_eq]
 generalize (lg_sl ([.ref (a 4), .int x1]) ++ List.replicate (2 - (lg_sl ([.ref (a 4), .int x1])).length) Slot.unset).toArray = ls at hl ⊢
 exact st_Pieces_leastXOf (A := (pw_F 40 a s.heap.size)) ⟨B.exec, B.bytes, B.returns, hml, findClass_of_methodNamed B.named, atoms_spec (ws := w_Pieces_leastXOf) B.pre, B.notSynchronized, fun q hq => Or.inr hq⟩ ⟨hK, hI, fun k hk => Or.inl ⟨k, hk, rfl⟩⟩ x1 u ls hP hl h
set_option maxHeartbeats 4000000 in
set_option maxRecDepth 100000 in
theorem st_Grid_rowOf {p : Program} {l : Launch} {e : Env} {s : State} {m : MethodId} {args : Array Value} {below : List Frame} {meth : Method} {c : Code} {D : va_G} {a : Nat → Nat} {cA cZ : ClassId} {G : pG} {A : Nat → Prop} {Q : Int32 → pS → Prop} (C : pw_C p s m args meth c b_Grid_rowOf 2 R_Grid (some .int) w_Grid_rowOf A) (K : pw_K s D 40 a (cT cA cZ) A) (x1 : Int32) (u : pS) (ls : Array Slot) (hP : va_P D vwCl (cw a cA cZ G u) s.heap) (hl : lv_has ls 2 [(0, .ref (a 1)), (1, .int x1)]) (h : wp_Grid_rowOf G x1 u Q) : W p l e ({ frames := 0, cells := 0, slots := 0, locals := 0 } : Room) s m args below meth c s.heap [] 0 0 (pw_Ei below args s D (cw a cA cZ G) (cT cA cZ) A Q) (F0 m 0 ls []) := by
 obtain ⟨hx, hb, hr, hml, hown, hts, hlocks, hA⟩ := id C
 obtain ⟨hK, hI, hF⟩ := id K
 have hD : ∀ u, va_D A (cw a cA cZ G u) := fun u => cw_D hI hF
 have hS : va_S A s.heap s.heap [] := va_S.rf
 have h : wp_Grid_rowOf G x1 u Q := h
 refine lv_aload_n hx hb d_Grid_rowOf_0 rfl (lv_at hl 0 rfl) ?_
 refine va_get (D := D) (ci := 4) (v := .ref (a 12)) (C := R_Grid) (T := T_Grid) (N := 6) hx hb hts in_Grid hown hK hP 1 cw_at_1 rfl 4 (by decide) (hts _ (List.mem_cons_of_mem _ kw_113)) (fun _ h9 => h9) rfl d_Grid_rowOf_1 ?_
 refine lv_iload_n hx hb d_Grid_rowOf_4 rfl (lv_at hl 1 rfl) ?_
 refine va_iald hx hb hK hP 12 0 cw_at_12 rfl h.1 d_Grid_rowOf_5 ?_
 have h := h.2
 exact W.iret (v := (G.2.2 1 x1.toNatClampNeg)) hx hb hr (fun t ht hW => ⟨⟨(G.2.2 1 x1.toNatClampNeg), u, rfl, h, by rw [ht]; exact hP, va_K.moved hW.alike hK⟩, hS.F ht⟩) hS.2.2 d_Grid_rowOf_6 hlocks
set_option maxHeartbeats 4000000 in
set_option maxRecDepth 100000 in
theorem ct_Grid_rowOf (l : Launch) (D : va_G) (a : Nat → Nat) (cA cZ : ClassId) (G : pG) (sz : Nat) (x1 : Int32) (u : pS) (Q : Int32 → pS → Prop) (hI : pw_I 40 a) (h : wp_Grid_rowOf G x1 u Q) : Met l y_Grid_rowOf w_Grid_rowOf ({ frames := 0, cells := 0, slots := 0, locals := 0 } : Room) (va_Pc [.ref (a 1), .int x1] (pw_pre D (cw a cA cZ G) (cT cA cZ) sz u)) (va_Qi (fun (r : Int32) (u : pS) => Q r u) (pw_B D (cw a cA cZ G) (cT cA cZ)) (pw_F 40 a sz)) 0 0 (pw_F 40 a sz) := by
 refine Met.ofW (cc := b_Grid_rowOf) (maxL := 2) (ret := (some .int)) (by decide) rfl ?_
 intro p e s m args below meth c s₁ B hml hv
 obtain ⟨rfl, hsz, hP, hK⟩ := hv
 subst hsz
 have hl := lv_entry ([.ref (a 1), .int x1]) (n := 2) (Nat.le_of_ble_eq_true rfl)
 rw [lg_entry_eq]
 generalize (lg_sl ([.ref (a 1), .int x1]) ++ List.replicate (2 - (lg_sl ([.ref (a 1), .int x1])).length) Slot.unset).toArray = ls at hl ⊢
 exact st_Grid_rowOf (A := (pw_F 40 a s.heap.size)) ⟨B.exec, B.bytes, B.returns, hml, findClass_of_methodNamed B.named, atoms_spec (ws := w_Grid_rowOf) B.pre, B.notSynchronized, fun q hq => Or.inr hq⟩ ⟨hK, hI, fun k hk => Or.inl ⟨k, hk, rfl⟩⟩ x1 u ls hP hl h
set_option maxHeartbeats 4000000 in
set_option maxRecDepth 100000 in
theorem st_Pieces_leastYOf {p : Program} {l : Launch} {e : Env} {s : State} {m : MethodId} {args : Array Value} {below : List Frame} {meth : Method} {c : Code} {D : va_G} {a : Nat → Nat} {cA cZ : ClassId} {G : pG} {A : Nat → Prop} {Q : Int32 → pS → Prop} (C : pw_C p s m args meth c b_Pieces_leastYOf 2 R_Pieces (some .int) w_Pieces_leastYOf A) (K : pw_K s D 40 a (cT cA cZ) A) (x1 : Int32) (u : pS) (ls : Array Slot) (hP : va_P D vwCl (cw a cA cZ G u) s.heap) (hl : lv_has ls 2 [(0, .ref (a 4)), (1, .int x1)]) (h : wp_Pieces_leastYOf G x1 u Q) : W p l e ({ frames := 1, cells := 0, slots := 0, locals := 21 } : Room) s m args below meth c s.heap [] 0 0 (pw_Ei below args s D (cw a cA cZ G) (cT cA cZ) A Q) (F0 m 0 ls []) := by
 obtain ⟨hx, hb, hr, hml, hown, hts, hlocks, hA⟩ := id C
 obtain ⟨hK, hI, hF⟩ := id K
 have hD : ∀ u, va_D A (cw a cA cZ G u) := fun u => cw_D hI hF
 have hS : va_S A s.heap s.heap [] := va_S.rf
 have h : wp_Pieces_leastYOf G x1 u Q := h
 refine lv_aload_n hx hb d_Pieces_leastYOf_0 rfl (lv_at hl 0 rfl) ?_
 refine va_get (D := D) (ci := 7) (v := .ref (a 1)) (C := R_Pieces) (T := T_Pieces) (N := 11) hx hb hts in_Pieces hown hK hP 4 cw_at_4 rfl 0 (by decide) (hts _ (List.mem_cons_of_mem _ kw_151)) (fun _ h9 => h9) rfl d_Pieces_leastYOf_1 ?_
 refine lv_aload_n hx hb d_Pieces_leastYOf_4 rfl (lv_at hl 0 rfl) ?_
 refine va_get (D := D) (ci := 7) (v := .ref (a 24)) (C := R_Pieces) (T := T_Pieces) (N := 11) hx hb hts in_Pieces hown hK hP 4 cw_at_4 rfl 5 (by decide) (hts _ (List.mem_cons_of_mem _ kw_156)) (fun _ h9 => h9) rfl d_Pieces_leastYOf_5 ?_
 refine lv_iload_n hx hb d_Pieces_leastYOf_8 rfl (lv_at hl 1 rfl) ?_
 refine va_iald hx hb hK hP 24 0 cw_at_24 rfl h.1 d_Pieces_leastYOf_9 ?_
 have h := h.2
 refine cc_i (va_runV (As := [.int (u.2 10 x1.toNatClampNeg)]) (rest := []) ⟨hx, hb, hml, hown, hts⟩ (ct_Grid_rowOf l D a cA cZ G _ (u.2 10 x1.toNatClampNeg) u _ hI h) (pw_cwV 1 hts kw_517 kw_46 kw_514 kw_515 kw_516 (by decide +kernel) ⟨Nat.le_of_ble_eq_true rfl, Nat.le_of_ble_eq_true rfl⟩) ⟨pw_blind, va_recv hK hP (ci := 4) (q0 := 1) rfl cw_at_1, fun U hU hW => ⟨rfl, by rw [hU], by rw [hU]; exact hP, va_K.moved hW.alike hK⟩⟩ rfl rfl hl.1 rfl (lv_room (Nat.le_of_ble_eq_true rfl)) d_Pieces_leastYOf_10 ⟨Nat.le_of_ble_eq_true rfl, Nat.le_of_ble_eq_true rfl⟩) hS hF hA (fun r2 u1 H locs hP hS h => ?_)
 exact W.iret (v := r2) hx hb hr (fun t ht hW => ⟨⟨r2, u1, rfl, h, by rw [ht]; exact hP, va_K.moved hW.alike hK⟩, hS.F ht⟩) hS.2.2 d_Pieces_leastYOf_13 hlocks
set_option maxHeartbeats 4000000 in
set_option maxRecDepth 100000 in
theorem ct_Pieces_leastYOf (l : Launch) (D : va_G) (a : Nat → Nat) (cA cZ : ClassId) (G : pG) (sz : Nat) (x1 : Int32) (u : pS) (Q : Int32 → pS → Prop) (hI : pw_I 40 a) (h : wp_Pieces_leastYOf G x1 u Q) : Met l y_Pieces_leastYOf w_Pieces_leastYOf ({ frames := 1, cells := 0, slots := 0, locals := 21 } : Room) (va_Pc [.ref (a 4), .int x1] (pw_pre D (cw a cA cZ G) (cT cA cZ) sz u)) (va_Qi (fun (r : Int32) (u : pS) => Q r u) (pw_B D (cw a cA cZ G) (cT cA cZ)) (pw_F 40 a sz)) 0 0 (pw_F 40 a sz) := by
 refine Met.ofW (cc := b_Pieces_leastYOf) (maxL := 2) (ret := (some .int)) (by decide) rfl ?_
 intro p e s m args below meth c s₁ B hml hv
 obtain ⟨rfl, hsz, hP, hK⟩ := hv
 subst hsz
 have hl := lv_entry ([.ref (a 4), .int x1]) (n := 2) (Nat.le_of_ble_eq_true rfl)
 rw [lg_entry_eq]
 generalize (lg_sl ([.ref (a 4), .int x1]) ++ List.replicate (2 - (lg_sl ([.ref (a 4), .int x1])).length) Slot.unset).toArray = ls at hl ⊢
 exact st_Pieces_leastYOf (A := (pw_F 40 a s.heap.size)) ⟨B.exec, B.bytes, B.returns, hml, findClass_of_methodNamed B.named, atoms_spec (ws := w_Pieces_leastYOf) B.pre, B.notSynchronized, fun q hq => Or.inr hq⟩ ⟨hK, hI, fun k hk => Or.inl ⟨k, hk, rfl⟩⟩ x1 u ls hP hl h
set_option maxHeartbeats 4000000 in
set_option maxRecDepth 100000 in
theorem st_Pieces_columnsOf {p : Program} {l : Launch} {e : Env} {s : State} {m : MethodId} {args : Array Value} {below : List Frame} {meth : Method} {c : Code} {D : va_G} {a : Nat → Nat} {cA cZ : ClassId} {G : pG} {A : Nat → Prop} {Q : Int32 → pS → Prop} (C : pw_C p s m args meth c b_Pieces_columnsOf 2 R_Pieces (some .int) w_Pieces_columnsOf A) (K : pw_K s D 40 a (cT cA cZ) A) (x1 : Int32) (u : pS) (ls : Array Slot) (hP : va_P D vwCl (cw a cA cZ G u) s.heap) (hl : lv_has ls 2 [(0, .ref (a 4)), (1, .int x1)]) (h : wp_Pieces_columnsOf G x1 u Q) : W p l e ({ frames := 0, cells := 0, slots := 0, locals := 0 } : Room) s m args below meth c s.heap [] 0 0 (pw_Ei below args s D (cw a cA cZ G) (cT cA cZ) A Q) (F0 m 0 ls []) := by
 obtain ⟨hx, hb, hr, hml, hown, hts, hlocks, hA⟩ := id C
 obtain ⟨hK, hI, hF⟩ := id K
 have hD : ∀ u, va_D A (cw a cA cZ G u) := fun u => cw_D hI hF
 have hS : va_S A s.heap s.heap [] := va_S.rf
 have h : wp_Pieces_columnsOf G x1 u Q := h
 refine lv_aload_n hx hb d_Pieces_columnsOf_0 rfl (lv_at hl 0 rfl) ?_
 refine va_get (D := D) (ci := 7) (v := .ref (a 27)) (C := R_Pieces) (T := T_Pieces) (N := 11) hx hb hts in_Pieces hown hK hP 4 cw_at_4 rfl 8 (by decide) (hts _ (List.mem_cons_of_mem _ kw_159)) (fun _ h9 => h9) rfl d_Pieces_columnsOf_1 ?_
 refine lv_iload_n hx hb d_Pieces_columnsOf_4 rfl (lv_at hl 1 rfl) ?_
 refine va_iald hx hb hK hP 27 0 cw_at_27 rfl h.1 d_Pieces_columnsOf_5 ?_
 have h := h.2
 refine lv_aload_n hx hb d_Pieces_columnsOf_6 rfl (lv_at hl 0 rfl) ?_
 refine va_get (D := D) (ci := 7) (v := .ref (a 26)) (C := R_Pieces) (T := T_Pieces) (N := 11) hx hb hts in_Pieces hown hK hP 4 cw_at_4 rfl 7 (by decide) (hts _ (List.mem_cons_of_mem _ kw_158)) (fun _ h9 => h9) rfl d_Pieces_columnsOf_7 ?_
 refine lv_iload_n hx hb d_Pieces_columnsOf_10 rfl (lv_at hl 1 rfl) ?_
 refine va_iald hx hb hK hP 26 0 cw_at_26 rfl h.1 d_Pieces_columnsOf_11 ?_
 have h := h.2
 refine lv_isub hx hb d_Pieces_columnsOf_12 ?_
 refine lv_iconst (v := 1) hx hb d_Pieces_columnsOf_13 (by decide) ?_
 refine lv_iadd hx hb d_Pieces_columnsOf_14 ?_
 exact W.iret (v := (((u.2 13 x1.toNatClampNeg) - (u.2 12 x1.toNatClampNeg)) + 1)) hx hb hr (fun t ht hW => ⟨⟨(((u.2 13 x1.toNatClampNeg) - (u.2 12 x1.toNatClampNeg)) + 1), u, rfl, h, by rw [ht]; exact hP, va_K.moved hW.alike hK⟩, hS.F ht⟩) hS.2.2 d_Pieces_columnsOf_15 hlocks
set_option maxHeartbeats 4000000 in
set_option maxRecDepth 100000 in
theorem ct_Pieces_columnsOf (l : Launch) (D : va_G) (a : Nat → Nat) (cA cZ : ClassId) (G : pG) (sz : Nat) (x1 : Int32) (u : pS) (Q : Int32 → pS → Prop) (hI : pw_I 40 a) (h : wp_Pieces_columnsOf G x1 u Q) : Met l y_Pieces_columnsOf w_Pieces_columnsOf ({ frames := 0, cells := 0, slots := 0, locals := 0 } : Room) (va_Pc [.ref (a 4), .int x1] (pw_pre D (cw a cA cZ G) (cT cA cZ) sz u)) (va_Qi (fun (r : Int32) (u : pS) => Q r u) (pw_B D (cw a cA cZ G) (cT cA cZ)) (pw_F 40 a sz)) 0 0 (pw_F 40 a sz) := by
 refine Met.ofW (cc := b_Pieces_columnsOf) (maxL := 2) (ret := (some .int)) (by decide) rfl ?_
 intro p e s m args below meth c s₁ B hml hv
 obtain ⟨rfl, hsz, hP, hK⟩ := hv
 subst hsz
 have hl := lv_entry ([.ref (a 4), .int x1]) (n := 2) (Nat.le_of_ble_eq_true rfl)
 rw [lg_entry_eq]
 generalize (lg_sl ([.ref (a 4), .int x1]) ++ List.replicate (2 - (lg_sl ([.ref (a 4), .int x1])).length) Slot.unset).toArray = ls at hl ⊢
 exact st_Pieces_columnsOf (A := (pw_F 40 a s.heap.size)) ⟨B.exec, B.bytes, B.returns, hml, findClass_of_methodNamed B.named, atoms_spec (ws := w_Pieces_columnsOf) B.pre, B.notSynchronized, fun q hq => Or.inr hq⟩ ⟨hK, hI, fun k hk => Or.inl ⟨k, hk, rfl⟩⟩ x1 u ls hP hl h
set_option maxHeartbeats 4000000 in
set_option maxRecDepth 100000 in
theorem st_Pieces_rowsOf {p : Program} {l : Launch} {e : Env} {s : State} {m : MethodId} {args : Array Value} {below : List Frame} {meth : Method} {c : Code} {D : va_G} {a : Nat → Nat} {cA cZ : ClassId} {G : pG} {A : Nat → Prop} {Q : Int32 → pS → Prop} (C : pw_C p s m args meth c b_Pieces_rowsOf 2 R_Pieces (some .int) w_Pieces_rowsOf A) (K : pw_K s D 40 a (cT cA cZ) A) (x1 : Int32) (u : pS) (ls : Array Slot) (hP : va_P D vwCl (cw a cA cZ G u) s.heap) (hl : lv_has ls 2 [(0, .ref (a 4)), (1, .int x1)]) (h : wp_Pieces_rowsOf G x1 u Q) : W p l e ({ frames := 2, cells := 0, slots := 0, locals := 42 } : Room) s m args below meth c s.heap [] 0 0 (pw_Ei below args s D (cw a cA cZ G) (cT cA cZ) A Q) (F0 m 0 ls []) := by
 obtain ⟨hx, hb, hr, hml, hown, hts, hlocks, hA⟩ := id C
 obtain ⟨hK, hI, hF⟩ := id K
 have hD : ∀ u, va_D A (cw a cA cZ G u) := fun u => cw_D hI hF
 have hS : va_S A s.heap s.heap [] := va_S.rf
 have h : wp_Pieces_rowsOf G x1 u Q := h
 refine lv_aload_n hx hb d_Pieces_rowsOf_0 rfl (lv_at hl 0 rfl) ?_
 refine va_get (D := D) (ci := 7) (v := .ref (a 28)) (C := R_Pieces) (T := T_Pieces) (N := 11) hx hb hts in_Pieces hown hK hP 4 cw_at_4 rfl 9 (by decide) (hts _ (List.mem_cons_of_mem _ kw_160)) (fun _ h9 => h9) rfl d_Pieces_rowsOf_1 ?_
 refine lv_iload_n hx hb d_Pieces_rowsOf_4 rfl (lv_at hl 1 rfl) ?_
 refine va_iald hx hb hK hP 28 0 cw_at_28 rfl h.1 d_Pieces_rowsOf_5 ?_
 have h := h.2
 refine lv_aload_n hx hb d_Pieces_rowsOf_6 rfl (lv_at hl 0 rfl) ?_
 refine lv_iload_n hx hb d_Pieces_rowsOf_7 rfl (lv_at hl 1 rfl) ?_
 refine cc_i (va_runV (As := [.int x1]) (rest := [.int (u.2 14 x1.toNatClampNeg)]) ⟨hx, hb, hml, hown, hts⟩ (ct_Pieces_leastYOf l D a cA cZ G _ x1 u _ hI h) (pw_cwV 1 hts kw_582 kw_49 kw_579 kw_580 kw_581 (by decide +kernel) ⟨Nat.le_of_ble_eq_true rfl, Nat.le_of_ble_eq_true rfl⟩) ⟨pw_blind, va_recv hK hP (ci := 7) (q0 := 4) rfl cw_at_4, fun U hU hW => ⟨rfl, by rw [hU], by rw [hU]; exact hP, va_K.moved hW.alike hK⟩⟩ rfl rfl hl.1 rfl (lv_room (Nat.le_of_ble_eq_true rfl)) d_Pieces_rowsOf_8 ⟨Nat.le_of_ble_eq_true rfl, Nat.le_of_ble_eq_true rfl⟩) hS hF hA (fun r2 u1 H locs hP hS h => ?_)
 refine lv_isub hx hb d_Pieces_rowsOf_11 ?_
 refine lv_iconst (v := 1) hx hb d_Pieces_rowsOf_12 (by decide) ?_
 refine lv_iadd hx hb d_Pieces_rowsOf_13 ?_
 exact W.iret (v := (((u.2 14 x1.toNatClampNeg) - r2) + 1)) hx hb hr (fun t ht hW => ⟨⟨(((u.2 14 x1.toNatClampNeg) - r2) + 1), u1, rfl, h, by rw [ht]; exact hP, va_K.moved hW.alike hK⟩, hS.F ht⟩) hS.2.2 d_Pieces_rowsOf_14 hlocks
set_option maxHeartbeats 4000000 in
set_option maxRecDepth 100000 in
theorem ct_Pieces_rowsOf (l : Launch) (D : va_G) (a : Nat → Nat) (cA cZ : ClassId) (G : pG) (sz : Nat) (x1 : Int32) (u : pS) (Q : Int32 → pS → Prop) (hI : pw_I 40 a) (h : wp_Pieces_rowsOf G x1 u Q) : Met l y_Pieces_rowsOf w_Pieces_rowsOf ({ frames := 2, cells := 0, slots := 0, locals := 42 } : Room) (va_Pc [.ref (a 4), .int x1] (pw_pre D (cw a cA cZ G) (cT cA cZ) sz u)) (va_Qi (fun (r : Int32) (u : pS) => Q r u) (pw_B D (cw a cA cZ G) (cT cA cZ)) (pw_F 40 a sz)) 0 0 (pw_F 40 a sz) := by
 refine Met.ofW (cc := b_Pieces_rowsOf) (maxL := 2) (ret := (some .int)) (by decide) rfl ?_
 intro p e s m args below meth c s₁ B hml hv
 obtain ⟨rfl, hsz, hP, hK⟩ := hv
 subst hsz
 have hl := lv_entry ([.ref (a 4), .int x1]) (n := 2) (Nat.le_of_ble_eq_true rfl)
 rw [lg_entry_eq]
 generalize (lg_sl ([.ref (a 4), .int x1]) ++ List.replicate (2 - (lg_sl ([.ref (a 4), .int x1])).length) Slot.unset).toArray = ls at hl ⊢
 exact st_Pieces_rowsOf (A := (pw_F 40 a s.heap.size)) ⟨B.exec, B.bytes, B.returns, hml, findClass_of_methodNamed B.named, atoms_spec (ws := w_Pieces_rowsOf) B.pre, B.notSynchronized, fun q hq => Or.inr hq⟩ ⟨hK, hI, fun k hk => Or.inl ⟨k, hk, rfl⟩⟩ x1 u ls hP hl h
set_option maxHeartbeats 4000000 in
set_option maxRecDepth 100000 in
theorem st_Pieces_isAtEdge {p : Program} {l : Launch} {e : Env} {s : State} {m : MethodId} {args : Array Value} {below : List Frame} {meth : Method} {c : Code} {D : va_G} {a : Nat → Nat} {cA cZ : ClassId} {G : pG} {A : Nat → Prop} {Q : Int32 → pS → Prop} (C : pw_C p s m args meth c b_Pieces_isAtEdge 2 R_Pieces (some .boolean) w_Pieces_isAtEdge A) (K : pw_K s D 40 a (cT cA cZ) A) (x1 : Int32) (u : pS) (ls : Array Slot) (hP : va_P D vwCl (cw a cA cZ G u) s.heap) (hl : lv_has ls 2 [(0, .ref (a 4)), (1, .int x1)]) (h : wp_Pieces_isAtEdge G x1 u Q) : W p l e ({ frames := 2, cells := 0, slots := 0, locals := 42 } : Room) s m args below meth c s.heap [] 0 0 (pw_Ei below args s D (cw a cA cZ G) (cT cA cZ) A Q) (F0 m 0 ls []) := by
 obtain ⟨hx, hb, hr, hml, hown, hts, hlocks, hA⟩ := id C
 obtain ⟨hK, hI, hF⟩ := id K
 have hD : ∀ u, va_D A (cw a cA cZ G u) := fun u => cw_D hI hF
 have hS : va_S A s.heap s.heap [] := va_S.rf
 have h : wp_Pieces_isAtEdge G x1 u Q := h
 refine lv_aload_n hx hb d_Pieces_isAtEdge_0 rfl (lv_at hl 0 rfl) ?_
 refine va_get (D := D) (ci := 7) (v := .ref (a 26)) (C := R_Pieces) (T := T_Pieces) (N := 11) hx hb hts in_Pieces hown hK hP 4 cw_at_4 rfl 7 (by decide) (hts _ (List.mem_cons_of_mem _ kw_158)) (fun _ h9 => h9) rfl d_Pieces_isAtEdge_1 ?_
 refine lv_iload_n hx hb d_Pieces_isAtEdge_4 rfl (lv_at hl 1 rfl) ?_
 refine va_iald hx hb hK hP 26 0 cw_at_26 rfl h.1 d_Pieces_isAtEdge_5 ?_
 have h := h.2
 refine lv_if_eq (tgt := 53) hx hb d_Pieces_isAtEdge_6 (by decide) (fun c1 => ?_) (fun c1 => ?_)
 · have h := h.1 c1
   refine lv_iconst (v := 1) hx hb d_Pieces_isAtEdge_53 (by decide) ?_
   refine lv_goto (tgt := 58) hx hb d_Pieces_isAtEdge_54 (by decide) ?_
   exact W.zret (v := 1) hx hb hr rfl (fun t ht hW => ⟨⟨1, u, rfl, h, by rw [ht]; exact hP, va_K.moved hW.alike hK⟩, hS.F ht⟩) hS.2.2 d_Pieces_isAtEdge_58 hlocks
 · have h := h.2 c1
   refine lv_aload_n hx hb d_Pieces_isAtEdge_9 rfl (lv_at hl 0 rfl) ?_
   refine va_get (D := D) (ci := 7) (v := .ref (a 27)) (C := R_Pieces) (T := T_Pieces) (N := 11) hx hb hts in_Pieces hown hK hP 4 cw_at_4 rfl 8 (by decide) (hts _ (List.mem_cons_of_mem _ kw_159)) (fun _ h9 => h9) rfl d_Pieces_isAtEdge_10 ?_
   refine lv_iload_n hx hb d_Pieces_isAtEdge_13 rfl (lv_at hl 1 rfl) ?_
   refine va_iald hx hb hK hP 27 0 cw_at_27 rfl h.1 d_Pieces_isAtEdge_14 ?_
   have h := h.2
   refine lv_aload_n hx hb d_Pieces_isAtEdge_15 rfl (lv_at hl 0 rfl) ?_
   refine va_get (D := D) (ci := 7) (v := .ref (a 1)) (C := R_Pieces) (T := T_Pieces) (N := 11) hx hb hts in_Pieces hown hK hP 4 cw_at_4 rfl 0 (by decide) (hts _ (List.mem_cons_of_mem _ kw_151)) (fun _ h9 => h9) rfl d_Pieces_isAtEdge_16 ?_
   refine va_get (D := D) (ci := 4) (v := .int (G.2.1 1)) (C := R_Grid) (T := T_Grid) (N := 6) hx hb hts in_Grid hown hK hP 1 cw_at_1 rfl 0 (by decide) (hts _ (List.mem_cons_of_mem _ kw_100)) (fun _ h9 => h9) rfl d_Pieces_isAtEdge_19 ?_
   refine lv_iconst (v := 1) hx hb d_Pieces_isAtEdge_22 (by decide) ?_
   refine lv_isub hx hb d_Pieces_isAtEdge_23 ?_
   refine lv_icmp_eq (tgt := 53) hx hb d_Pieces_isAtEdge_24 (by decide) (fun c2 => ?_) (fun c2 => ?_)
   · have h := h.1 c2
     refine lv_iconst (v := 1) hx hb d_Pieces_isAtEdge_53 (by decide) ?_
     refine lv_goto (tgt := 58) hx hb d_Pieces_isAtEdge_54 (by decide) ?_
     exact W.zret (v := 1) hx hb hr rfl (fun t ht hW => ⟨⟨1, u, rfl, h, by rw [ht]; exact hP, va_K.moved hW.alike hK⟩, hS.F ht⟩) hS.2.2 d_Pieces_isAtEdge_58 hlocks
   · have h := h.2 c2
     refine lv_aload_n hx hb d_Pieces_isAtEdge_27 rfl (lv_at hl 0 rfl) ?_
     refine lv_iload_n hx hb d_Pieces_isAtEdge_28 rfl (lv_at hl 1 rfl) ?_
     refine cc_i (va_runV (As := [.int x1]) (rest := []) ⟨hx, hb, hml, hown, hts⟩ (ct_Pieces_leastYOf l D a cA cZ G _ x1 u _ hI h) (pw_cwV 1 hts kw_582 kw_49 kw_579 kw_580 kw_581 (by decide +kernel) ⟨Nat.le_of_ble_eq_true rfl, Nat.le_of_ble_eq_true rfl⟩) ⟨pw_blind, va_recv hK hP (ci := 7) (q0 := 4) rfl cw_at_4, fun U hU hW => ⟨rfl, by rw [hU], by rw [hU]; exact hP, va_K.moved hW.alike hK⟩⟩ rfl rfl hl.1 rfl (lv_room (Nat.le_of_ble_eq_true rfl)) d_Pieces_isAtEdge_29 ⟨Nat.le_of_ble_eq_true rfl, Nat.le_of_ble_eq_true rfl⟩) hS hF hA (fun r4 u3 H locs hP hS h => ?_)
     refine lv_if_eq (tgt := 53) hx hb d_Pieces_isAtEdge_32 (by decide) (fun c5 => ?_) (fun c5 => ?_)
     · have h := h.1 c5
       refine lv_iconst (v := 1) hx hb d_Pieces_isAtEdge_53 (by decide) ?_
       refine lv_goto (tgt := 58) hx hb d_Pieces_isAtEdge_54 (by decide) ?_
       exact W.zret (v := 1) hx hb hr rfl (fun t ht hW => ⟨⟨1, u3, rfl, h, by rw [ht]; exact hP, va_K.moved hW.alike hK⟩, hS.F ht⟩) hS.2.2 d_Pieces_isAtEdge_58 hlocks
     · have h := h.2 c5
       refine lv_aload_n hx hb d_Pieces_isAtEdge_35 rfl (lv_at hl 0 rfl) ?_
       refine va_get (D := D) (ci := 7) (v := .ref (a 28)) (C := R_Pieces) (T := T_Pieces) (N := 11) hx hb hts in_Pieces hown hK hP 4 cw_at_4 rfl 9 (by decide) (hts _ (List.mem_cons_of_mem _ kw_160)) (fun _ h9 => h9) rfl d_Pieces_isAtEdge_36 ?_
       refine lv_iload_n hx hb d_Pieces_isAtEdge_39 rfl (lv_at hl 1 rfl) ?_
       refine va_iald hx hb hK hP 28 0 cw_at_28 rfl h.1 d_Pieces_isAtEdge_40 ?_
       have h := h.2
       refine lv_aload_n hx hb d_Pieces_isAtEdge_41 rfl (lv_at hl 0 rfl) ?_
       refine va_get (D := D) (ci := 7) (v := .ref (a 1)) (C := R_Pieces) (T := T_Pieces) (N := 11) hx hb hts in_Pieces hown hK hP 4 cw_at_4 rfl 0 (by decide) (hts _ (List.mem_cons_of_mem _ kw_151)) (fun _ h9 => h9) rfl d_Pieces_isAtEdge_42 ?_
       refine va_get (D := D) (ci := 4) (v := .int (G.2.1 2)) (C := R_Grid) (T := T_Grid) (N := 6) hx hb hts in_Grid hown hK hP 1 cw_at_1 rfl 1 (by decide) (hts _ (List.mem_cons_of_mem _ kw_105)) (fun _ h9 => h9) rfl d_Pieces_isAtEdge_45 ?_
       refine lv_iconst (v := 1) hx hb d_Pieces_isAtEdge_48 (by decide) ?_
       refine lv_isub hx hb d_Pieces_isAtEdge_49 ?_
       refine lv_icmp_ne (tgt := 57) hx hb d_Pieces_isAtEdge_50 (by decide) (fun c6 => ?_) (fun c6 => ?_)
       · have h := h.2 c6
         refine lv_iconst (v := 0) hx hb d_Pieces_isAtEdge_57 (by decide) ?_
         exact W.zret (v := 0) hx hb hr rfl (fun t ht hW => ⟨⟨0, u3, rfl, h, by rw [ht]; exact hP, va_K.moved hW.alike hK⟩, hS.F ht⟩) hS.2.2 d_Pieces_isAtEdge_58 hlocks
       · have h := h.1 c6
         refine lv_iconst (v := 1) hx hb d_Pieces_isAtEdge_53 (by decide) ?_
         refine lv_goto (tgt := 58) hx hb d_Pieces_isAtEdge_54 (by decide) ?_
         exact W.zret (v := 1) hx hb hr rfl (fun t ht hW => ⟨⟨1, u3, rfl, h, by rw [ht]; exact hP, va_K.moved hW.alike hK⟩, hS.F ht⟩) hS.2.2 d_Pieces_isAtEdge_58 hlocks
set_option maxHeartbeats 4000000 in
set_option maxRecDepth 100000 in
theorem ct_Pieces_isAtEdge (l : Launch) (D : va_G) (a : Nat → Nat) (cA cZ : ClassId) (G : pG) (sz : Nat) (x1 : Int32) (u : pS) (Q : Int32 → pS → Prop) (hI : pw_I 40 a) (h : wp_Pieces_isAtEdge G x1 u Q) : Met l y_Pieces_isAtEdge w_Pieces_isAtEdge ({ frames := 2, cells := 0, slots := 0, locals := 42 } : Room) (va_Pc [.ref (a 4), .int x1] (pw_pre D (cw a cA cZ G) (cT cA cZ) sz u)) (va_Qi (fun (r : Int32) (u : pS) => Q r u) (pw_B D (cw a cA cZ G) (cT cA cZ)) (pw_F 40 a sz)) 0 0 (pw_F 40 a sz) := by
 refine Met.ofW (cc := b_Pieces_isAtEdge) (maxL := 2) (ret := (some .boolean)) (by decide) rfl ?_
 intro p e s m args below meth c s₁ B hml hv
 obtain ⟨rfl, hsz, hP, hK⟩ := hv
 subst hsz
 have hl := lv_entry ([.ref (a 4), .int x1]) (n := 2) (Nat.le_of_ble_eq_true rfl)
 rw [lg_entry_eq]
 generalize (lg_sl ([.ref (a 4), .int x1]) ++ List.replicate (2 - (lg_sl ([.ref (a 4), .int x1])).length) Slot.unset).toArray = ls at hl ⊢
 exact st_Pieces_isAtEdge (A := (pw_F 40 a s.heap.size)) ⟨B.exec, B.bytes, B.returns, hml, findClass_of_methodNamed B.named, atoms_spec (ws := w_Pieces_isAtEdge) B.pre, B.notSynchronized, fun q hq => Or.inr hq⟩ ⟨hK, hI, fun k hk => Or.inl ⟨k, hk, rfl⟩⟩ x1 u ls hP hl h
