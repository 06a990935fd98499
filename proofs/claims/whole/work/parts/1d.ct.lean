set_option maxHeartbeats 4000000 in
set_option maxRecDepth 100000 in
theorem st_Walk_noteCorner {p : Program} {l : Launch} {e : Env} {s : State} {m : MethodId} {args : Array Value} {below : List Frame} {meth : Method} {c : Code} {D : va_G} {a : Nat → Nat} {cA cZ : ClassId} {G : pG} {A : Nat → Prop} {Q : pS → Prop} (C : pw_C p s m args meth c b_Walk_noteCorner 1 R_Walk none w_Walk_noteCorner A) (K : pw_K s D 40 a (cT cA cZ) A) (u : pS) (ls : Array Slot) (hP : va_P D vwCl (cw a cA cZ G u) s.heap) (hl : lv_has ls 1 [(0, .ref (a 7))]) (h : wp_Walk_noteCorner G u Q) : W p l e ({ frames := 0, cells := 0, slots := 0, locals := 0 } : Room) s m args below meth c s.heap [] 0 0 (pw_Ev below args s D (cw a cA cZ G) (cT cA cZ) A Q) (F0 m 0 ls []) := by
 obtain ⟨hx, hb, hr, hml, hown, hts, hlocks, hA⟩ := id C
 obtain ⟨hK, hI, hF⟩ := id K
 have hD : ∀ u, va_D A (cw a cA cZ G u) := fun u => cw_D hI hF
 have hS : va_S A s.heap s.heap [] := va_S.rf
 have h : wp_Walk_noteCorner G u Q := h
 refine lv_aload_n hx hb d_Walk_noteCorner_0 rfl (lv_at hl 0 rfl) ?_
 refine va_get (D := D) (ci := 10) (v := .int (u.1 6)) (C := R_Walk) (T := T_Walk) (N := 8) hx hb hts in_Walk hown hK hP 7 cw_at_7 rfl 7 (by decide) (hts _ (List.mem_cons_of_mem _ kw_227)) (fun _ h9 => h9) rfl d_Walk_noteCorner_1 ?_
 refine lv_aload_n hx hb d_Walk_noteCorner_4 rfl (lv_at hl 0 rfl) ?_
 refine va_get (D := D) (ci := 10) (v := .ref (a 32)) (C := R_Walk) (T := T_Walk) (N := 8) hx hb hts in_Walk hown hK hP 7 cw_at_7 rfl 2 (by decide) (hts _ (List.mem_cons_of_mem _ kw_222)) (fun _ h9 => h9) rfl d_Walk_noteCorner_5 ?_
 refine va_alen (v := nI (G.1 32)) hx hb hK hP 32 0 cw_at_32 rfl rfl d_Walk_noteCorner_8 ?_
 refine lv_icmp_ge (tgt := 48) hx hb d_Walk_noteCorner_9 (by decide) (fun c1 => ?_) (fun c1 => ?_)
 · have h := h.1 c1
   exact W.vret hx hb hr (fun t ht hW => ⟨⟨u, rfl, h, by rw [ht]; exact hP, va_K.moved hW.alike hK⟩, hS.F ht⟩) hS.2.2 d_Walk_noteCorner_48 hlocks
 · have h := h.2 c1
   refine lv_aload_n hx hb d_Walk_noteCorner_12 rfl (lv_at hl 0 rfl) ?_
   refine va_get (D := D) (ci := 10) (v := .ref (a 32)) (C := R_Walk) (T := T_Walk) (N := 8) hx hb hts in_Walk hown hK hP 7 cw_at_7 rfl 2 (by decide) (hts _ (List.mem_cons_of_mem _ kw_222)) (fun _ h9 => h9) rfl d_Walk_noteCorner_13 ?_
   refine lv_aload_n hx hb d_Walk_noteCorner_16 rfl (lv_at hl 0 rfl) ?_
   refine va_get (D := D) (ci := 10) (v := .int (u.1 6)) (C := R_Walk) (T := T_Walk) (N := 8) hx hb hts in_Walk hown hK hP 7 cw_at_7 rfl 7 (by decide) (hts _ (List.mem_cons_of_mem _ kw_227)) (fun _ h9 => h9) rfl d_Walk_noteCorner_17 ?_
   refine lv_aload_n hx hb d_Walk_noteCorner_20 rfl (lv_at hl 0 rfl) ?_
   refine va_get (D := D) (ci := 10) (v := .int (u.1 3)) (C := R_Walk) (T := T_Walk) (N := 8) hx hb hts in_Walk hown hK hP 7 cw_at_7 rfl 4 (by decide) (hts _ (List.mem_cons_of_mem _ kw_224)) (fun _ h9 => h9) rfl d_Walk_noteCorner_21 ?_
   refine va_iast hx hb hK hP (hD _) hS 32 0 cw_at_32 rfl h.1 d_Walk_noteCorner_24 (fun H locs hP _ hS => ?_)
   obtain ⟨u2, eu2⟩ : ∃ z, z = pw_sa u 18 (upd (u.2 18) (u.1 6).toNatClampNeg (u.1 3)) := ⟨_, rfl⟩
   rw [cw_sa_32, ← eu2] at hP
   have h := h.2 u2 eu2
   refine lv_aload_n hx hb d_Walk_noteCorner_25 rfl (lv_at hl 0 rfl) ?_
   refine va_get (D := D) (ci := 10) (v := .ref (a 33)) (C := R_Walk) (T := T_Walk) (N := 8) hx hb hts in_Walk hown hK hP 7 cw_at_7 rfl 3 (by decide) (hts _ (List.mem_cons_of_mem _ kw_223)) (fun _ h9 => h9) rfl d_Walk_noteCorner_26 ?_
   refine lv_aload_n hx hb d_Walk_noteCorner_29 rfl (lv_at hl 0 rfl) ?_
   refine va_get (D := D) (ci := 10) (v := .int (u2.1 6)) (C := R_Walk) (T := T_Walk) (N := 8) hx hb hts in_Walk hown hK hP 7 cw_at_7 rfl 7 (by decide) (hts _ (List.mem_cons_of_mem _ kw_227)) (fun _ h9 => h9) rfl d_Walk_noteCorner_30 ?_
   refine lv_aload_n hx hb d_Walk_noteCorner_33 rfl (lv_at hl 0 rfl) ?_
   refine va_get (D := D) (ci := 10) (v := .int (u2.1 4)) (C := R_Walk) (T := T_Walk) (N := 8) hx hb hts in_Walk hown hK hP 7 cw_at_7 rfl 5 (by decide) (hts _ (List.mem_cons_of_mem _ kw_225)) (fun _ h9 => h9) rfl d_Walk_noteCorner_34 ?_
   refine va_iast hx hb hK hP (hD _) hS 33 0 cw_at_33 rfl h.1 d_Walk_noteCorner_37 (fun H locs hP _ hS => ?_)
   obtain ⟨u3, eu3⟩ : ∃ z, z = pw_sa u2 19 (upd (u2.2 19) (u2.1 6).toNatClampNeg (u2.1 4)) := ⟨_, rfl⟩
   rw [cw_sa_33, ← eu3] at hP
   have h := h.2 u3 eu3
   refine lv_aload_n hx hb d_Walk_noteCorner_38 rfl (lv_at hl 0 rfl) ?_
   refine lv_dup hx hb d_Walk_noteCorner_39 rfl ?_
   refine va_get (D := D) (ci := 10) (v := .int (u3.1 6)) (C := R_Walk) (T := T_Walk) (N := 8) hx hb hts in_Walk hown hK hP 7 cw_at_7 rfl 7 (by decide) (hts _ (List.mem_cons_of_mem _ kw_227)) (fun _ h9 => h9) rfl d_Walk_noteCorner_40 ?_
   refine lv_iconst (v := 1) hx hb d_Walk_noteCorner_43 (by decide) ?_
   refine lv_iadd hx hb d_Walk_noteCorner_44 ?_
   refine va_put (D := D) (ci := 10) (v := .int ((u3.1 6) + 1)) (ty := .int) (C := R_Walk) (T := T_Walk) (N := 8) hx hb hts in_Walk ty_Walk tyok_Walk nm_Walk hown hK hP (hD _) hS 7 cw_at_7 rfl 7 (by decide) (hts _ (List.mem_cons_of_mem _ kw_227)) (fun _ h9 => h9) rfl (by decide +kernel) rfl rfl (Nat.le_of_ble_eq_true rfl) d_Walk_noteCorner_45 (fun H locs hP _ hS => ?_)
   obtain ⟨u4, eu4⟩ : ∃ z, z = pw_si u3 6 ((u3.1 6) + 1) := ⟨_, rfl⟩
   rw [cw_si_7_7, ← eu4] at hP
   have h := h u4 eu4
   exact W.vret hx hb hr (fun t ht hW => ⟨⟨u4, rfl, h, by rw [ht]; exact hP, va_K.moved hW.alike hK⟩, hS.F ht⟩) hS.2.2 d_Walk_noteCorner_48 hlocks
set_option maxHeartbeats 4000000 in
set_option maxRecDepth 100000 in
theorem ct_Walk_noteCorner (l : Launch) (D : va_G) (a : Nat → Nat) (cA cZ : ClassId) (G : pG) (sz : Nat) (u : pS) (Q : pS → Prop) (hI : pw_I 40 a) (h : wp_Walk_noteCorner G u Q) : Met l y_Walk_noteCorner w_Walk_noteCorner ({ frames := 0, cells := 0, slots := 0, locals := 0 } : Room) (va_Pc [.ref (a 7)] (pw_pre D (cw a cA cZ G) (cT cA cZ) sz u)) (va_Qv (fun (u : pS) => Q u) (pw_B D (cw a cA cZ G) (cT cA cZ)) (pw_F 40 a sz)) 0 0 (pw_F 40 a sz) := by
 refine Met.ofW (cc := b_Walk_noteCorner) (maxL := 1) (ret := none) (by decide) rfl ?_
 intro p e s m args below meth c s₁ B hml hv
 obtain ⟨rfl, hsz, hP, hK⟩ := hv
 subst hsz
 have hl := lv_entry ([.ref (a 7)]) (n := 1) (Nat.le_of_ble_eq_true rfl)
 rw [lg_entry_eq]
 generalize (lg_sl ([.ref (a 7)]) ++ List.replicate (1 - (lg_sl ([.ref (a 7)])).length) Slot.unset).toArray = ls at hl ⊢
 exact st_Walk_noteCorner (A := (pw_F 40 a s.heap.size)) ⟨B.exec, B.bytes, B.returns, hml, findClass_of_methodNamed B.named, atoms_spec (ws := w_Walk_noteCorner) B.pre, B.notSynchronized, fun q hq => Or.inr hq⟩ ⟨hK, hI, fun k hk => Or.inl ⟨k, hk, rfl⟩⟩ u ls hP hl h
set_option maxHeartbeats 4000000 in
set_option maxRecDepth 100000 in
theorem st_Walk_isAhead {p : Program} {l : Launch} {e : Env} {s : State} {m : MethodId} {args : Array Value} {below : List Frame} {meth : Method} {c : Code} {D : va_G} {a : Nat → Nat} {cA cZ : ClassId} {G : pG} {A : Nat → Prop} {Q : Int32 → pS → Prop} (C : pw_C p s m args meth c b_Walk_isAhead 3 R_Walk (some .boolean) w_Walk_isAhead A) (K : pw_K s D 40 a (cT cA cZ) A) (EX : cw_Ex A s) (x1 x2 : Int32) (u : pS) (ls : Array Slot) (hP : va_P D vwCl (cw a cA cZ G u) s.heap) (hl : lv_has ls 3 [(0, .ref (a 7)), (1, .int x1), (2, .int x2)]) (h : wp_Walk_isAhead G x1 x2 u Q) : W p l e ({ frames := 2, cells := 0, slots := 0, locals := 46 } : Room) s m args below meth c s.heap [] 0 0 (pw_Ei below args s D (cw a cA cZ G) (cT cA cZ) A Q) (F0 m 0 ls []) := by
 obtain ⟨hx, hb, hr, hml, hown, hts, hlocks, hA⟩ := id C
 obtain ⟨hK, hI, hF⟩ := id K
 have hD : ∀ u, va_D A (cw a cA cZ G u) := fun u => cw_D hI hF
 obtain ⟨t_STEP_X, t_STEP_Y, t_AHEAD_X, t_AHEAD_Y, hZ_t_STEP_X, hZ_t_STEP_Y, hZ_t_AHEAD_X, hZ_t_AHEAD_Y, hT_t_STEP_X, hT_t_STEP_Y, hT_t_AHEAD_X, hT_t_AHEAD_Y⟩ := EX.2
 have hS : va_S A s.heap s.heap [] := va_S.rf
 have h : wp_Walk_isAhead G x1 x2 u Q := h
 refine lv_aload_n hx hb d_Walk_isAhead_0 rfl (lv_at hl 0 rfl) ?_
 refine va_get (D := D) (ci := 10) (v := .ref (a 4)) (C := R_Walk) (T := T_Walk) (N := 8) hx hb hts in_Walk hown hK hP 7 cw_at_7 rfl 0 (by decide) (hts _ (List.mem_cons_of_mem _ kw_220)) (fun _ h9 => h9) rfl d_Walk_isAhead_1 ?_
 refine lv_aload_n hx hb d_Walk_isAhead_4 rfl (lv_at hl 0 rfl) ?_
 refine va_get (D := D) (ci := 10) (v := .int (u.1 3)) (C := R_Walk) (T := T_Walk) (N := 8) hx hb hts in_Walk hown hK hP 7 cw_at_7 rfl 4 (by decide) (hts _ (List.mem_cons_of_mem _ kw_224)) (fun _ h9 => h9) rfl d_Walk_isAhead_5 ?_
 refine va_getsN hx hb hZ_t_AHEAD_X hS hown (va_Nw.use rfl (EX.1.1.1 ("PictureInlays$Walk", 75, "AHEAD_X") (by decide))) (fun _ h9 => h9) d_Walk_isAhead_8 ?_
 refine lv_iload_n hx hb d_Walk_isAhead_11 rfl (lv_at hl 2 rfl) ?_
 refine va_ti hx hb hT_t_AHEAD_X hS h.1 rfl d_Walk_isAhead_12 ?_
 have h := h.2
 refine lv_iadd hx hb d_Walk_isAhead_13 ?_
 refine lv_aload_n hx hb d_Walk_isAhead_14 rfl (lv_at hl 0 rfl) ?_
 refine va_get (D := D) (ci := 10) (v := .int (u.1 4)) (C := R_Walk) (T := T_Walk) (N := 8) hx hb hts in_Walk hown hK hP 7 cw_at_7 rfl 5 (by decide) (hts _ (List.mem_cons_of_mem _ kw_225)) (fun _ h9 => h9) rfl d_Walk_isAhead_15 ?_
 refine va_getsN hx hb hZ_t_AHEAD_Y hS hown (va_Nw.use rfl (EX.1.1.1 ("PictureInlays$Walk", 78, "AHEAD_Y") (by decide))) (fun _ h9 => h9) d_Walk_isAhead_18 ?_
 refine lv_iload_n hx hb d_Walk_isAhead_21 rfl (lv_at hl 2 rfl) ?_
 refine va_ti hx hb hT_t_AHEAD_Y hS h.1 rfl d_Walk_isAhead_22 ?_
 have h := h.2
 refine lv_iadd hx hb d_Walk_isAhead_23 ?_
 refine cc_i (va_runV (As := [.int ((u.1 3) + (tb_AX x2.toNatClampNeg)), .int ((u.1 4) + (tb_AY x2.toNatClampNeg))]) (rest := []) ⟨hx, hb, hml, hown, hts⟩ (ct_Pieces_numberOf l D a cA cZ G _ ((u.1 3) + (tb_AX x2.toNatClampNeg)) ((u.1 4) + (tb_AY x2.toNatClampNeg)) u _ hI h) (pw_cwV 2 hts kw_631 kw_49 kw_699 kw_629 kw_630 (by decide +kernel) ⟨Nat.le_of_ble_eq_true rfl, Nat.le_of_ble_eq_true rfl⟩) ⟨pw_blind, va_recv hK hP (ci := 7) (q0 := 4) rfl cw_at_4, fun U hU hW => ⟨rfl, by rw [hU], by rw [hU]; exact hP, va_K.moved hW.alike hK⟩⟩ rfl rfl hl.1 rfl (lv_room (Nat.le_of_ble_eq_true rfl)) d_Walk_isAhead_24 ⟨Nat.le_of_ble_eq_true rfl, Nat.le_of_ble_eq_true rfl⟩) hS hF hA (fun r2 u1 H locs hP hS h => ?_)
 refine lv_iload_n hx hb d_Walk_isAhead_27 rfl (lv_at hl 1 rfl) ?_
 refine lv_icmp_ne (tgt := 35) hx hb d_Walk_isAhead_28 (by decide) (fun c3 => ?_) (fun c3 => ?_)
 · have h := h.2 c3
   refine lv_iconst (v := 0) hx hb d_Walk_isAhead_35 (by decide) ?_
   exact W.zret (v := 0) hx hb hr rfl (fun t ht hW => ⟨⟨0, u1, rfl, h, by rw [ht]; exact hP, va_K.moved hW.alike hK⟩, hS.F ht⟩) hS.2.2 d_Walk_isAhead_36 hlocks
 · have h := h.1 c3
   refine lv_iconst (v := 1) hx hb d_Walk_isAhead_31 (by decide) ?_
   refine lv_goto (tgt := 36) hx hb d_Walk_isAhead_32 (by decide) ?_
   exact W.zret (v := 1) hx hb hr rfl (fun t ht hW => ⟨⟨1, u1, rfl, h, by rw [ht]; exact hP, va_K.moved hW.alike hK⟩, hS.F ht⟩) hS.2.2 d_Walk_isAhead_36 hlocks
set_option maxHeartbeats 4000000 in
set_option maxRecDepth 100000 in
theorem ct_Walk_isAhead (l : Launch) (D : va_G) (a : Nat → Nat) (cA cZ : ClassId) (G : pG) (sz : Nat) (x1 x2 : Int32) (u : pS) (Q : Int32 → pS → Prop) (hI : pw_I 40 a) (h : wp_Walk_isAhead G x1 x2 u Q) : Met l y_Walk_isAhead w_Walk_isAhead ({ frames := 2, cells := 0, slots := 0, locals := 46 } : Room) (va_Pc [.ref (a 7), .int x1, .int x2] (fun U => pw_pre D (cw a cA cZ G) (cT cA cZ) sz u U ∧ cw_Ex (pw_F 40 a sz) U)) (va_Qi (fun (r : Int32) (u : pS) => Q r u) (pw_B D (cw a cA cZ G) (cT cA cZ)) (pw_F 40 a sz)) 0 0 (pw_F 40 a sz) := by
 refine Met.ofW (cc := b_Walk_isAhead) (maxL := 3) (ret := (some .boolean)) (by decide) rfl ?_
 intro p e s m args below meth c s₁ B hml hv
 obtain ⟨rfl, ⟨hsz, hP, hK⟩, EX⟩ := hv
 subst hsz
 have hl := lv_entry ([.ref (a 7), .int x1, .int x2]) (n := 3) (Nat.le_of_ble_eq_true rfl)
 rw [lg_entry_eq]
 generalize (lg_sl ([.ref (a 7), .int x1, .int x2]) ++ List.replicate (3 - (lg_sl ([.ref (a 7), .int x1, .int x2])).length) Slot.unset).toArray = ls at hl ⊢
 exact st_Walk_isAhead (A := (pw_F 40 a s.heap.size)) ⟨B.exec, B.bytes, B.returns, hml, findClass_of_methodNamed B.named, atoms_spec (ws := w_Walk_isAhead) B.pre, B.notSynchronized, fun q hq => Or.inr hq⟩ ⟨hK, hI, fun k hk => Or.inl ⟨k, hk, rfl⟩⟩ EX x1 x2 u ls hP hl h
set_option maxHeartbeats 4000000 in
set_option maxRecDepth 100000 in
theorem st_Walk_turn {p : Program} {l : Launch} {e : Env} {s : State} {m : MethodId} {args : Array Value} {below : List Frame} {meth : Method} {c : Code} {D : va_G} {a : Nat → Nat} {cA cZ : ClassId} {G : pG} {A : Nat → Prop} {Q : pS → Prop} (C : pw_C p s m args meth c b_Walk_turn 3 R_Walk none w_Walk_turn A) (K : pw_K s D 40 a (cT cA cZ) A) (EX : cw_Ex A s) (x1 : Int32) (u : pS) (ls : Array Slot) (hP : va_P D vwCl (cw a cA cZ G u) s.heap) (hl : lv_has ls 3 [(0, .ref (a 7)), (1, .int x1)]) (h : wp_Walk_turn G x1 u Q) : W p l e ({ frames := 3, cells := 0, slots := 0, locals := 68 } : Room) s m args below meth c s.heap [] 0 0 (pw_Ev below args s D (cw a cA cZ G) (cT cA cZ) A Q) (F0 m 0 ls []) := by
 obtain ⟨hx, hb, hr, hml, hown, hts, hlocks, hA⟩ := id C
 obtain ⟨hK, hI, hF⟩ := id K
 have hD : ∀ u, va_D A (cw a cA cZ G u) := fun u => cw_D hI hF
 have hS : va_S A s.heap s.heap [] := va_S.rf
 have h : wp_Walk_turn G x1 u Q := h
 refine lv_aload_n hx hb d_Walk_turn_0 rfl (lv_at hl 0 rfl) ?_
 refine va_get (D := D) (ci := 10) (v := .int (u.1 5)) (C := R_Walk) (T := T_Walk) (N := 8) hx hb hts in_Walk hown hK hP 7 cw_at_7 rfl 6 (by decide) (hts _ (List.mem_cons_of_mem _ kw_226)) (fun _ h9 => h9) rfl d_Walk_turn_1 ?_
 refine lv_iconst (v := 4) hx hb d_Walk_turn_4 (by decide) ?_
 refine lv_iadd hx hb d_Walk_turn_5 ?_
 refine lv_iconst (v := 1) hx hb d_Walk_turn_6 (by decide) ?_
 refine lv_isub hx hb d_Walk_turn_7 ?_
 refine lv_iconst (v := 4) hx hb d_Walk_turn_8 (by decide) ?_
 refine lv_irem hx hb d_Walk_turn_9 (by decide) ?_
 refine lv_topi (fun t1 et1 => ?_)
 have h := h t1 et1
 refine lv_istore_n (lv' := [(2, .int t1), (0, .ref (a 7)), (1, .int x1)]) hx hb d_Walk_turn_10 rfl hl (by decide) rfl (fun ls hl => ?_)
 refine lv_aload_n hx hb d_Walk_turn_11 rfl (lv_at hl 1 rfl) ?_
 refine lv_iload_n hx hb d_Walk_turn_12 rfl (lv_at hl 2 rfl) ?_
 refine lv_aload_n hx hb d_Walk_turn_13 rfl (lv_at hl 1 rfl) ?_
 refine va_get (D := D) (ci := 10) (v := .int (u.1 5)) (C := R_Walk) (T := T_Walk) (N := 8) hx hb hts in_Walk hown hK hP 7 cw_at_7 rfl 6 (by decide) (hts _ (List.mem_cons_of_mem _ kw_226)) (fun _ h9 => h9) rfl d_Walk_turn_14 ?_
 refine cc_i (va_runV (As := [.int x1, .int (u.1 5)]) (rest := []) ⟨hx, hb, hml, hown, hts⟩ (ct_Walk_isAhead l D a cA cZ G _ x1 (u.1 5) u _ hI h) (pw_cwV 2 hts kw_694 kw_53 kw_691 kw_693 kw_16 (by decide +kernel) ⟨Nat.le_of_ble_eq_true rfl, Nat.le_of_ble_eq_true rfl⟩) ⟨cw_blindX, va_recv hK hP (ci := 10) (q0 := 7) rfl cw_at_7, fun U hU hW => ⟨rfl, ⟨by rw [hU], by rw [hU]; exact hP, va_K.moved hW.alike hK⟩, cw_Ex_call EX hS (pw_FA hS hF hA) hU hW⟩⟩ rfl rfl hl.1 rfl (lv_room (Nat.le_of_ble_eq_true rfl)) d_Walk_turn_17 ⟨Nat.le_of_ble_eq_true rfl, Nat.le_of_ble_eq_true rfl⟩) hS hF hA (fun r3 u2 H locs hP hS h => ?_)
 refine lv_if_ne (tgt := 42) hx hb d_Walk_turn_20 (by decide) (fun c4 => ?_) (fun c4 => ?_)
 · have h := h.2 c4
   refine lv_aload_n hx hb d_Walk_turn_42 rfl (lv_at hl 1 rfl) ?_
   refine lv_iload_n hx hb d_Walk_turn_43 rfl (lv_at hl 2 rfl) ?_
   refine lv_iload_n hx hb d_Walk_turn_44 rfl (lv_at hl 0 rfl) ?_
   refine cc_i (va_runV (As := [.int x1, .int t1]) (rest := []) ⟨hx, hb, hml, hown, hts⟩ (ct_Walk_isAhead l D a cA cZ G _ x1 t1 u2 _ hI h) (pw_cwV 2 hts kw_694 kw_53 kw_691 kw_693 kw_16 (by decide +kernel) ⟨Nat.le_of_ble_eq_true rfl, Nat.le_of_ble_eq_true rfl⟩) ⟨cw_blindX, va_recv hK hP (ci := 10) (q0 := 7) rfl cw_at_7, fun U hU hW => ⟨rfl, ⟨by rw [hU], by rw [hU]; exact hP, va_K.moved hW.alike hK⟩, cw_Ex_call EX hS (pw_FA hS hF hA) hU hW⟩⟩ rfl rfl hl.1 rfl (lv_room (Nat.le_of_ble_eq_true rfl)) d_Walk_turn_45 ⟨Nat.le_of_ble_eq_true rfl, Nat.le_of_ble_eq_true rfl⟩) hS hF hA (fun r6 u5 H locs hP hS h => ?_)
   refine lv_if_eq (tgt := 60) hx hb d_Walk_turn_48 (by decide) (fun c7 => ?_) (fun c7 => ?_)
   · have h := h.1 c7
     exact W.vret hx hb hr (fun t ht hW => ⟨⟨u5, rfl, h, by rw [ht]; exact hP, va_K.moved hW.alike hK⟩, hS.F ht⟩) hS.2.2 d_Walk_turn_60 hlocks
   · have h := h.2 c7
     refine lv_aload_n hx hb d_Walk_turn_51 rfl (lv_at hl 1 rfl) ?_
     refine lv_iload_n hx hb d_Walk_turn_52 rfl (lv_at hl 0 rfl) ?_
     refine va_put (D := D) (ci := 10) (v := .int t1) (ty := .int) (C := R_Walk) (T := T_Walk) (N := 8) hx hb hts in_Walk ty_Walk tyok_Walk nm_Walk hown hK hP (hD _) hS 7 cw_at_7 rfl 6 (by decide) (hts _ (List.mem_cons_of_mem _ kw_226)) (fun _ h9 => h9) rfl (by decide +kernel) rfl rfl (Nat.le_of_ble_eq_true rfl) d_Walk_turn_53 (fun H locs hP _ hS => ?_)
     obtain ⟨u8, eu8⟩ : ∃ z, z = pw_si u5 5 t1 := ⟨_, rfl⟩
     rw [cw_si_7_6, ← eu8] at hP
     have h := h u8 eu8
     refine lv_aload_n hx hb d_Walk_turn_56 rfl (lv_at hl 1 rfl) ?_
     refine cc_v (va_runV (As := []) (rest := []) ⟨hx, hb, hml, hown, hts⟩ (ct_Walk_noteCorner l D a cA cZ G _  u8 _ hI h) (pw_cwV 0 hts kw_684 kw_53 kw_681 kw_683 kw_14 (by decide +kernel) ⟨Nat.le_of_ble_eq_true rfl, Nat.le_of_ble_eq_true rfl⟩) ⟨pw_blind, va_recv hK hP (ci := 10) (q0 := 7) rfl cw_at_7, fun U hU hW => ⟨rfl, by rw [hU], by rw [hU]; exact hP, va_K.moved hW.alike hK⟩⟩ rfl rfl hl.1 rfl (lv_room (Nat.le_of_ble_eq_true rfl)) d_Walk_turn_57 ⟨Nat.le_of_ble_eq_true rfl, Nat.le_of_ble_eq_true rfl⟩) hS hF hA (fun u9 H locs hP hS h => ?_)
     exact W.vret hx hb hr (fun t ht hW => ⟨⟨u9, rfl, h, by rw [ht]; exact hP, va_K.moved hW.alike hK⟩, hS.F ht⟩) hS.2.2 d_Walk_turn_60 hlocks
 · have h := h.1 c4
   refine lv_aload_n hx hb d_Walk_turn_23 rfl (lv_at hl 1 rfl) ?_
   refine lv_aload_n hx hb d_Walk_turn_24 rfl (lv_at hl 1 rfl) ?_
   refine va_get (D := D) (ci := 10) (v := .int (u2.1 5)) (C := R_Walk) (T := T_Walk) (N := 8) hx hb hts in_Walk hown hK hP 7 cw_at_7 rfl 6 (by decide) (hts _ (List.mem_cons_of_mem _ kw_226)) (fun _ h9 => h9) rfl d_Walk_turn_25 ?_
   refine lv_iconst (v := 1) hx hb d_Walk_turn_28 (by decide) ?_
   refine lv_iadd hx hb d_Walk_turn_29 ?_
   refine lv_iconst (v := 4) hx hb d_Walk_turn_30 (by decide) ?_
   refine lv_irem hx hb d_Walk_turn_31 (by decide) ?_
   refine va_put (D := D) (ci := 10) (v := .int (((u2.1 5) + 1) - ((u2.1 5) + 1) / 4 * 4)) (ty := .int) (C := R_Walk) (T := T_Walk) (N := 8) hx hb hts in_Walk ty_Walk tyok_Walk nm_Walk hown hK hP (hD _) hS 7 cw_at_7 rfl 6 (by decide) (hts _ (List.mem_cons_of_mem _ kw_226)) (fun _ h9 => h9) rfl (by decide +kernel) rfl rfl (Nat.le_of_ble_eq_true rfl) d_Walk_turn_32 (fun H locs hP _ hS => ?_)
   obtain ⟨u10, eu10⟩ : ∃ z, z = pw_si u2 5 (((u2.1 5) + 1) - ((u2.1 5) + 1) / 4 * 4) := ⟨_, rfl⟩
   rw [cw_si_7_6, ← eu10] at hP
   have h := h u10 eu10
   refine lv_aload_n hx hb d_Walk_turn_35 rfl (lv_at hl 1 rfl) ?_
   refine cc_v (va_runV (As := []) (rest := []) ⟨hx, hb, hml, hown, hts⟩ (ct_Walk_noteCorner l D a cA cZ G _  u10 _ hI h) (pw_cwV 0 hts kw_684 kw_53 kw_681 kw_683 kw_14 (by decide +kernel) ⟨Nat.le_of_ble_eq_true rfl, Nat.le_of_ble_eq_true rfl⟩) ⟨pw_blind, va_recv hK hP (ci := 10) (q0 := 7) rfl cw_at_7, fun U hU hW => ⟨rfl, by rw [hU], by rw [hU]; exact hP, va_K.moved hW.alike hK⟩⟩ rfl rfl hl.1 rfl (lv_room (Nat.le_of_ble_eq_true rfl)) d_Walk_turn_36 ⟨Nat.le_of_ble_eq_true rfl, Nat.le_of_ble_eq_true rfl⟩) hS hF hA (fun u11 H locs hP hS h => ?_)
   refine lv_goto (tgt := 60) hx hb d_Walk_turn_39 (by decide) ?_
   exact W.vret hx hb hr (fun t ht hW => ⟨⟨u11, rfl, h, by rw [ht]; exact hP, va_K.moved hW.alike hK⟩, hS.F ht⟩) hS.2.2 d_Walk_turn_60 hlocks
set_option maxHeartbeats 4000000 in
set_option maxRecDepth 100000 in
theorem ct_Walk_turn (l : Launch) (D : va_G) (a : Nat → Nat) (cA cZ : ClassId) (G : pG) (sz : Nat) (x1 : Int32) (u : pS) (Q : pS → Prop) (hI : pw_I 40 a) (h : wp_Walk_turn G x1 u Q) : Met l y_Walk_turn w_Walk_turn ({ frames := 3, cells := 0, slots := 0, locals := 68 } : Room) (va_Pc [.ref (a 7), .int x1] (fun U => pw_pre D (cw a cA cZ G) (cT cA cZ) sz u U ∧ cw_Ex (pw_F 40 a sz) U)) (va_Qv (fun (u : pS) => Q u) (pw_B D (cw a cA cZ G) (cT cA cZ)) (pw_F 40 a sz)) 0 0 (pw_F 40 a sz) := by
 refine Met.ofW (cc := b_Walk_turn) (maxL := 3) (ret := none) (by decide) rfl ?_
 intro p e s m args below meth c s₁ B hml hv
 obtain ⟨rfl, ⟨hsz, hP, hK⟩, EX⟩ := hv
 subst hsz
 have hl := lv_entry ([.ref (a 7), .int x1]) (n := 3) (Nat.le_of_ble_eq_true rfl)
 rw [lg_entry_eq]
 generalize (lg_sl ([.ref (a 7), .int x1]) ++ List.replicate (3 - (lg_sl ([.ref (a 7), .int x1])).length) Slot.unset).toArray = ls at hl ⊢
 exact st_Walk_turn (A := (pw_F 40 a s.heap.size)) ⟨B.exec, B.bytes, B.returns, hml, findClass_of_methodNamed B.named, atoms_spec (ws := w_Walk_turn) B.pre, B.notSynchronized, fun q hq => Or.inr hq⟩ ⟨hK, hI, fun k hk => Or.inl ⟨k, hk, rfl⟩⟩ EX x1 u ls hP hl h
set_option maxHeartbeats 4000000 in
set_option maxRecDepth 100000 in
theorem cp_Walk_round_107 {p : Program} {l : Launch} {e : Env} {s : State} {m : MethodId} {args : Array Value} {below : List Frame} {meth : Method} {c : Code} {D : va_G} {a : Nat → Nat} {cA cZ : ClassId} {G : pG} {A : Nat → Prop} {Q : pS → Prop} (C : pw_C p s m args meth c b_Walk_round 5 R_Walk none w_Walk_round A) (K : pw_K s D 40 a (cT cA cZ) A) (EX : cw_Ex A s) {k45 : Int32 → Int32 → Int32 → Int32 → pS → Prop} (hk45 : ∀ (x1 x2 x3 x4 : Int32) (u : pS) (H : Heap) (locs : List Loc) (ls : Array Slot), va_P D vwCl (cw a cA cZ G u) H → va_S A s.heap H locs → lv_has ls 5 [(0, .ref (a 7)), (1, .int x1), (2, .int x2), (3, .int x3), (4, .int x4)] → k45 x1 x2 x3 x4 u → W p l e ({ frames := 4, cells := 0, slots := 0, locals := 90 } : Room) s m args below meth c H locs 0 0 (pw_Ev below args s D (cw a cA cZ G) (cT cA cZ) A Q) (F0 m 45 ls [])) : ∀ (x1 x2 x3 x4 : Int32) (u : pS) (H : Heap) (locs : List Loc) (ls : Array Slot), va_P D vwCl (cw a cA cZ G u) H → va_S A s.heap H locs → lv_has ls 5 [(0, .ref (a 7)), (1, .int x1), (2, .int x2), (3, .int x3), (4, .int x4)] → jn_Walk_round_107 G Q k45 x1 x2 x3 x4 u → W p l e ({ frames := 4, cells := 0, slots := 0, locals := 90 } : Room) s m args below meth c H locs 0 0 (pw_Ev below args s D (cw a cA cZ G) (cT cA cZ) A Q) (F0 m 107 ls []) := by
 obtain ⟨hx, hb, hr, hml, hown, hts, hlocks, hA⟩ := id C
 obtain ⟨hK, hI, hF⟩ := id K
 have hD : ∀ u, va_D A (cw a cA cZ G u) := fun u => cw_D hI hF
 obtain ⟨t_STEP_X, t_STEP_Y, t_AHEAD_X, t_AHEAD_Y, hZ_t_STEP_X, hZ_t_STEP_Y, hZ_t_AHEAD_X, hZ_t_AHEAD_Y, hT_t_STEP_X, hT_t_STEP_Y, hT_t_AHEAD_X, hT_t_AHEAD_Y⟩ := EX.2
 intro x1 x2 x3 x4 u H locs ls hP hS hl h
 refine lv_aload_n hx hb d_Walk_round_107 rfl (lv_at hl 0 rfl) ?_
 refine lv_iload_n hx hb d_Walk_round_108 rfl (lv_at hl 1 rfl) ?_
 refine cc_v (va_runV (As := [.int x1]) (rest := []) ⟨hx, hb, hml, hown, hts⟩ (ct_Walk_turn l D a cA cZ G _ x1 u _ hI h) (pw_cwV 1 hts kw_690 kw_53 kw_687 kw_689 kw_15 (by decide +kernel) ⟨Nat.le_of_ble_eq_true rfl, Nat.le_of_ble_eq_true rfl⟩) ⟨cw_blindX, va_recv hK hP (ci := 10) (q0 := 7) rfl cw_at_7, fun U hU hW => ⟨rfl, ⟨by rw [hU], by rw [hU]; exact hP, va_K.moved hW.alike hK⟩, cw_Ex_call EX hS (pw_FA hS hF hA) hU hW⟩⟩ rfl rfl hl.1 rfl (lv_room (Nat.le_of_ble_eq_true rfl)) d_Walk_round_109 ⟨Nat.le_of_ble_eq_true rfl, Nat.le_of_ble_eq_true rfl⟩) hS hF hA (fun u14 H locs hP hS h => ?_)
 obtain ⟨t15, et15⟩ : ∃ y : Int32, y = x4 + 1 := ⟨_, rfl⟩
 have h := h t15 et15
 refine lv_iinc (v := t15) (lv' := [(4, .int t15), (0, .ref (a 7)), (1, .int x1), (2, .int x2), (3, .int x3)]) hx hb d_Walk_round_112 hl (k := 4) rfl (by rw [et15]; rfl) (by decide) rfl (fun ls hl => ?_)
 refine lv_goto (tgt := 45) hx hb d_Walk_round_115 (by decide) ?_
 exact hk45 x1 x2 x3 t15 u14 _ _ _ hP hS (lv_sub hl [1, 2, 3, 4, 0] rfl) h
set_option maxHeartbeats 4000000 in
set_option maxRecDepth 100000 in
theorem cp_Walk_round_45 {p : Program} {l : Launch} {e : Env} {s : State} {m : MethodId} {args : Array Value} {below : List Frame} {meth : Method} {c : Code} {D : va_G} {a : Nat → Nat} {cA cZ : ClassId} {G : pG} {A : Nat → Prop} {Q : pS → Prop} (C : pw_C p s m args meth c b_Walk_round 5 R_Walk none w_Walk_round A) (K : pw_K s D 40 a (cT cA cZ) A) (EX : cw_Ex A s) : ∀ (n : Nat), ∀ (x1 x2 x3 x4 : Int32) (u : pS) (H : Heap) (locs : List Loc) (ls : Array Slot), va_P D vwCl (cw a cA cZ G u) H → va_S A s.heap H locs → lv_has ls 5 [(0, .ref (a 7)), (1, .int x1), (2, .int x2), (3, .int x3), (4, .int x4)] → lp_Walk_round_45 G Q n x1 x2 x3 x4 u → W p l e ({ frames := 4, cells := 0, slots := 0, locals := 90 } : Room) s m args below meth c H locs 0 0 (pw_Ev below args s D (cw a cA cZ G) (cT cA cZ) A Q) (F0 m 45 ls []) := by
 obtain ⟨hx, hb, hr, hml, hown, hts, hlocks, hA⟩ := id C
 obtain ⟨hK, hI, hF⟩ := id K
 have hD : ∀ u, va_D A (cw a cA cZ G u) := fun u => cw_D hI hF
 obtain ⟨t_STEP_X, t_STEP_Y, t_AHEAD_X, t_AHEAD_Y, hZ_t_STEP_X, hZ_t_STEP_Y, hZ_t_AHEAD_X, hZ_t_AHEAD_Y, hT_t_STEP_X, hT_t_STEP_Y, hT_t_AHEAD_X, hT_t_AHEAD_Y⟩ := EX.2
 intro n
 induction n with
 | zero => intro x1 x2 x3 x4 u H locs ls hP hS hl h; exact h.elim
 | succ n ih =>
   intro x1 x2 x3 x4 u H locs ls hP hS hl h
   refine lv_iload hx hb d_Walk_round_45 (lv_at hl 4 rfl) ?_
   refine lv_aload_n hx hb d_Walk_round_47 rfl (lv_at hl 0 rfl) ?_
   refine va_get (D := D) (ci := 10) (v := .int (G.2.1 4)) (C := R_Walk) (T := T_Walk) (N := 8) hx hb hts in_Walk hown hK hP 7 cw_at_7 rfl 1 (by decide) (hts _ (List.mem_cons_of_mem _ kw_221)) (fun _ h9 => h9) rfl d_Walk_round_48 ?_
   refine lv_icmp_ge (tgt := 118) hx hb d_Walk_round_51 (by decide) (fun c10 => ?_) (fun c10 => ?_)
   · have h := h.1 c10
     exact W.vret hx hb hr (fun t ht hW => ⟨⟨u, rfl, h, by rw [ht]; exact hP, va_K.moved hW.alike hK⟩, hS.F ht⟩) hS.2.2 d_Walk_round_118 hlocks
   · have h := h.2 c10
     refine lv_aload_n hx hb d_Walk_round_54 rfl (lv_at hl 0 rfl) ?_
     refine lv_dup hx hb d_Walk_round_55 rfl ?_
     refine va_get (D := D) (ci := 10) (v := .int (u.1 3)) (C := R_Walk) (T := T_Walk) (N := 8) hx hb hts in_Walk hown hK hP 7 cw_at_7 rfl 4 (by decide) (hts _ (List.mem_cons_of_mem _ kw_224)) (fun _ h9 => h9) rfl d_Walk_round_56 ?_
     refine va_getsN hx hb hZ_t_STEP_X hS hown (va_Nw.use rfl (EX.1.1.1 ("PictureInlays$Walk", 61, "STEP_X") (by decide))) (fun _ h9 => h9) d_Walk_round_59 ?_
     refine lv_aload_n hx hb d_Walk_round_62 rfl (lv_at hl 0 rfl) ?_
     refine va_get (D := D) (ci := 10) (v := .int (u.1 5)) (C := R_Walk) (T := T_Walk) (N := 8) hx hb hts in_Walk hown hK hP 7 cw_at_7 rfl 6 (by decide) (hts _ (List.mem_cons_of_mem _ kw_226)) (fun _ h9 => h9) rfl d_Walk_round_63 ?_
     refine va_ti hx hb hT_t_STEP_X hS h.1 rfl d_Walk_round_66 ?_
     have h := h.2
     refine lv_iadd hx hb d_Walk_round_67 ?_
     refine va_put (D := D) (ci := 10) (v := .int ((u.1 3) + (tb_SX (u.1 5).toNatClampNeg))) (ty := .int) (C := R_Walk) (T := T_Walk) (N := 8) hx hb hts in_Walk ty_Walk tyok_Walk nm_Walk hown hK hP (hD _) hS 7 cw_at_7 rfl 4 (by decide) (hts _ (List.mem_cons_of_mem _ kw_224)) (fun _ h9 => h9) rfl (by decide +kernel) rfl rfl (Nat.le_of_ble_eq_true rfl) d_Walk_round_68 (fun H locs hP _ hS => ?_)
     obtain ⟨u11, eu11⟩ : ∃ z, z = pw_si u 3 ((u.1 3) + (tb_SX (u.1 5).toNatClampNeg)) := ⟨_, rfl⟩
     rw [cw_si_7_4, ← eu11] at hP
     have h := h u11 eu11
     refine lv_aload_n hx hb d_Walk_round_71 rfl (lv_at hl 0 rfl) ?_
     refine lv_dup hx hb d_Walk_round_72 rfl ?_
     refine va_get (D := D) (ci := 10) (v := .int (u11.1 4)) (C := R_Walk) (T := T_Walk) (N := 8) hx hb hts in_Walk hown hK hP 7 cw_at_7 rfl 5 (by decide) (hts _ (List.mem_cons_of_mem _ kw_225)) (fun _ h9 => h9) rfl d_Walk_round_73 ?_
     refine va_getsN hx hb hZ_t_STEP_Y hS hown (va_Nw.use rfl (EX.1.1.1 ("PictureInlays$Walk", 64, "STEP_Y") (by decide))) (fun _ h9 => h9) d_Walk_round_76 ?_
     refine lv_aload_n hx hb d_Walk_round_79 rfl (lv_at hl 0 rfl) ?_
     refine va_get (D := D) (ci := 10) (v := .int (u11.1 5)) (C := R_Walk) (T := T_Walk) (N := 8) hx hb hts in_Walk hown hK hP 7 cw_at_7 rfl 6 (by decide) (hts _ (List.mem_cons_of_mem _ kw_226)) (fun _ h9 => h9) rfl d_Walk_round_80 ?_
     refine va_ti hx hb hT_t_STEP_Y hS h.1 rfl d_Walk_round_83 ?_
     have h := h.2
     refine lv_iadd hx hb d_Walk_round_84 ?_
     refine va_put (D := D) (ci := 10) (v := .int ((u11.1 4) + (tb_SY (u11.1 5).toNatClampNeg))) (ty := .int) (C := R_Walk) (T := T_Walk) (N := 8) hx hb hts in_Walk ty_Walk tyok_Walk nm_Walk hown hK hP (hD _) hS 7 cw_at_7 rfl 5 (by decide) (hts _ (List.mem_cons_of_mem _ kw_225)) (fun _ h9 => h9) rfl (by decide +kernel) rfl rfl (Nat.le_of_ble_eq_true rfl) d_Walk_round_85 (fun H locs hP _ hS => ?_)
     obtain ⟨u12, eu12⟩ : ∃ z, z = pw_si u11 4 ((u11.1 4) + (tb_SY (u11.1 5).toNatClampNeg)) := ⟨_, rfl⟩
     rw [cw_si_7_5, ← eu12] at hP
     have h := h u12 eu12
     refine lv_aload_n hx hb d_Walk_round_88 rfl (lv_at hl 0 rfl) ?_
     refine va_get (D := D) (ci := 10) (v := .int (u12.1 3)) (C := R_Walk) (T := T_Walk) (N := 8) hx hb hts in_Walk hown hK hP 7 cw_at_7 rfl 4 (by decide) (hts _ (List.mem_cons_of_mem _ kw_224)) (fun _ h9 => h9) rfl d_Walk_round_89 ?_
     refine lv_iload_n hx hb d_Walk_round_92 rfl (lv_at hl 2 rfl) ?_
     refine lv_icmp_ne (tgt := 107) hx hb d_Walk_round_93 (by decide) (fun c13 => ?_) (fun c13 => ?_)
     · have h := h.2 c13
       exact cp_Walk_round_107 C K EX ih x1 x2 x3 x4 u12 _ _ _ hP hS (lv_sub hl [0, 1, 2, 3, 4] rfl) h
     · have h := h.1 c13
       refine lv_aload_n hx hb d_Walk_round_96 rfl (lv_at hl 0 rfl) ?_
       refine va_get (D := D) (ci := 10) (v := .int (u12.1 4)) (C := R_Walk) (T := T_Walk) (N := 8) hx hb hts in_Walk hown hK hP 7 cw_at_7 rfl 5 (by decide) (hts _ (List.mem_cons_of_mem _ kw_225)) (fun _ h9 => h9) rfl d_Walk_round_97 ?_
       refine lv_iload_n hx hb d_Walk_round_100 rfl (lv_at hl 3 rfl) ?_
       refine lv_icmp_ne (tgt := 107) hx hb d_Walk_round_101 (by decide) (fun c16 => ?_) (fun c16 => ?_)
       · have h := h.2 c16
         exact cp_Walk_round_107 C K EX ih x1 x2 x3 x4 u12 _ _ _ hP hS (lv_sub hl [0, 1, 2, 3, 4] rfl) h
       · have h := h.1 c16
         refine lv_goto (tgt := 118) hx hb d_Walk_round_104 (by decide) ?_
         exact W.vret hx hb hr (fun t ht hW => ⟨⟨u12, rfl, h, by rw [ht]; exact hP, va_K.moved hW.alike hK⟩, hS.F ht⟩) hS.2.2 d_Walk_round_118 hlocks
set_option maxHeartbeats 4000000 in
set_option maxRecDepth 100000 in
theorem st_Walk_round {p : Program} {l : Launch} {e : Env} {s : State} {m : MethodId} {args : Array Value} {below : List Frame} {meth : Method} {c : Code} {D : va_G} {a : Nat → Nat} {cA cZ : ClassId} {G : pG} {A : Nat → Prop} {Q : pS → Prop} (C : pw_C p s m args meth c b_Walk_round 5 R_Walk none w_Walk_round A) (K : pw_K s D 40 a (cT cA cZ) A) (EX : cw_Ex A s) (x1 : Int32) (u : pS) (ls : Array Slot) (hP : va_P D vwCl (cw a cA cZ G u) s.heap) (hl : lv_has ls 5 [(0, .ref (a 7)), (1, .int x1)]) (h : wp_Walk_round G x1 u Q) : W p l e ({ frames := 4, cells := 0, slots := 0, locals := 90 } : Room) s m args below meth c s.heap [] 0 0 (pw_Ev below args s D (cw a cA cZ G) (cT cA cZ) A Q) (F0 m 0 ls []) := by
 obtain ⟨hx, hb, hr, hml, hown, hts, hlocks, hA⟩ := id C
 obtain ⟨hK, hI, hF⟩ := id K
 have hD : ∀ u, va_D A (cw a cA cZ G u) := fun u => cw_D hI hF
 obtain ⟨t_STEP_X, t_STEP_Y, t_AHEAD_X, t_AHEAD_Y, hZ_t_STEP_X, hZ_t_STEP_Y, hZ_t_AHEAD_X, hZ_t_AHEAD_Y, hT_t_STEP_X, hT_t_STEP_Y, hT_t_AHEAD_X, hT_t_AHEAD_Y⟩ := EX.2
 have hS : va_S A s.heap s.heap [] := va_S.rf
 have h : wp_Walk_round G x1 u Q := h
 refine lv_aload_n hx hb d_Walk_round_0 rfl (lv_at hl 0 rfl) ?_
 refine va_get (D := D) (ci := 10) (v := .ref (a 4)) (C := R_Walk) (T := T_Walk) (N := 8) hx hb hts in_Walk hown hK hP 7 cw_at_7 rfl 0 (by decide) (hts _ (List.mem_cons_of_mem _ kw_220)) (fun _ h9 => h9) rfl d_Walk_round_1 ?_
 refine lv_iload_n hx hb d_Walk_round_4 rfl (lv_at hl 1 rfl) ?_
 refine cc_i (va_runV (As := [.int x1]) (rest := []) ⟨hx, hb, hml, hown, hts⟩ (ct_Pieces_firstXOf l D a cA cZ G _ x1 u _ hI h) (pw_cwV 1 hts kw_679 kw_49 kw_676 kw_677 kw_678 (by decide +kernel) ⟨Nat.le_of_ble_eq_true rfl, Nat.le_of_ble_eq_true rfl⟩) ⟨pw_blind, va_recv hK hP (ci := 7) (q0 := 4) rfl cw_at_4, fun U hU hW => ⟨rfl, by rw [hU], by rw [hU]; exact hP, va_K.moved hW.alike hK⟩⟩ rfl rfl hl.1 rfl (lv_room (Nat.le_of_ble_eq_true rfl)) d_Walk_round_5 ⟨Nat.le_of_ble_eq_true rfl, Nat.le_of_ble_eq_true rfl⟩) hS hF hA (fun r2 u1 H locs hP hS h => ?_)
 refine lv_istore_n (lv' := [(2, .int r2), (0, .ref (a 7)), (1, .int x1)]) hx hb d_Walk_round_8 rfl hl (by decide) rfl (fun ls hl => ?_)
 refine lv_aload_n hx hb d_Walk_round_9 rfl (lv_at hl 1 rfl) ?_
 refine va_get (D := D) (ci := 10) (v := .ref (a 4)) (C := R_Walk) (T := T_Walk) (N := 8) hx hb hts in_Walk hown hK hP 7 cw_at_7 rfl 0 (by decide) (hts _ (List.mem_cons_of_mem _ kw_220)) (fun _ h9 => h9) rfl d_Walk_round_10 ?_
 refine lv_iload_n hx hb d_Walk_round_13 rfl (lv_at hl 2 rfl) ?_
 refine cc_i (va_runV (As := [.int x1]) (rest := []) ⟨hx, hb, hml, hown, hts⟩ (ct_Pieces_leastYOf l D a cA cZ G _ x1 u1 _ hI h) (pw_cwV 1 hts kw_582 kw_49 kw_680 kw_580 kw_581 (by decide +kernel) ⟨Nat.le_of_ble_eq_true rfl, Nat.le_of_ble_eq_true rfl⟩) ⟨pw_blind, va_recv hK hP (ci := 7) (q0 := 4) rfl cw_at_4, fun U hU hW => ⟨rfl, by rw [hU], by rw [hU]; exact hP, va_K.moved hW.alike hK⟩⟩ rfl rfl hl.1 rfl (lv_room (Nat.le_of_ble_eq_true rfl)) d_Walk_round_14 ⟨Nat.le_of_ble_eq_true rfl, Nat.le_of_ble_eq_true rfl⟩) hS hF hA (fun r4 u3 H locs hP hS h => ?_)
 refine lv_istore_n (lv' := [(3, .int r4), (2, .int r2), (0, .ref (a 7)), (1, .int x1)]) hx hb d_Walk_round_17 rfl hl (by decide) rfl (fun ls hl => ?_)
 refine lv_aload_n hx hb d_Walk_round_18 rfl (lv_at hl 2 rfl) ?_
 refine lv_iload_n hx hb d_Walk_round_19 rfl (lv_at hl 1 rfl) ?_
 refine va_put (D := D) (ci := 10) (v := .int r2) (ty := .int) (C := R_Walk) (T := T_Walk) (N := 8) hx hb hts in_Walk ty_Walk tyok_Walk nm_Walk hown hK hP (hD _) hS 7 cw_at_7 rfl 4 (by decide) (hts _ (List.mem_cons_of_mem _ kw_224)) (fun _ h9 => h9) rfl (by decide +kernel) rfl rfl (Nat.le_of_ble_eq_true rfl) d_Walk_round_20 (fun H locs hP _ hS => ?_)
 obtain ⟨u5, eu5⟩ : ∃ z, z = pw_si u3 3 r2 := ⟨_, rfl⟩
 rw [cw_si_7_4, ← eu5] at hP
 have h := h u5 eu5
 refine lv_aload_n hx hb d_Walk_round_23 rfl (lv_at hl 2 rfl) ?_
 refine lv_iload_n hx hb d_Walk_round_24 rfl (lv_at hl 0 rfl) ?_
 refine va_put (D := D) (ci := 10) (v := .int r4) (ty := .int) (C := R_Walk) (T := T_Walk) (N := 8) hx hb hts in_Walk ty_Walk tyok_Walk nm_Walk hown hK hP (hD _) hS 7 cw_at_7 rfl 5 (by decide) (hts _ (List.mem_cons_of_mem _ kw_225)) (fun _ h9 => h9) rfl (by decide +kernel) rfl rfl (Nat.le_of_ble_eq_true rfl) d_Walk_round_25 (fun H locs hP _ hS => ?_)
 obtain ⟨u6, eu6⟩ : ∃ z, z = pw_si u5 4 r4 := ⟨_, rfl⟩
 rw [cw_si_7_5, ← eu6] at hP
 have h := h u6 eu6
 refine lv_aload_n hx hb d_Walk_round_28 rfl (lv_at hl 2 rfl) ?_
 refine lv_iconst (v := 0) hx hb d_Walk_round_29 (by decide) ?_
 refine va_put (D := D) (ci := 10) (v := .int 0) (ty := .int) (C := R_Walk) (T := T_Walk) (N := 8) hx hb hts in_Walk ty_Walk tyok_Walk nm_Walk hown hK hP (hD _) hS 7 cw_at_7 rfl 6 (by decide) (hts _ (List.mem_cons_of_mem _ kw_226)) (fun _ h9 => h9) rfl (by decide +kernel) rfl rfl (Nat.le_of_ble_eq_true rfl) d_Walk_round_30 (fun H locs hP _ hS => ?_)
 obtain ⟨u7, eu7⟩ : ∃ z, z = pw_si u6 5 0 := ⟨_, rfl⟩
 rw [cw_si_7_6, ← eu7] at hP
 have h := h u7 eu7
 refine lv_aload_n hx hb d_Walk_round_33 rfl (lv_at hl 2 rfl) ?_
 refine lv_iconst (v := 0) hx hb d_Walk_round_34 (by decide) ?_
 refine va_put (D := D) (ci := 10) (v := .int 0) (ty := .int) (C := R_Walk) (T := T_Walk) (N := 8) hx hb hts in_Walk ty_Walk tyok_Walk nm_Walk hown hK hP (hD _) hS 7 cw_at_7 rfl 7 (by decide) (hts _ (List.mem_cons_of_mem _ kw_227)) (fun _ h9 => h9) rfl (by decide +kernel) rfl rfl (Nat.le_of_ble_eq_true rfl) d_Walk_round_35 (fun H locs hP _ hS => ?_)
 obtain ⟨u8, eu8⟩ : ∃ z, z = pw_si u7 6 0 := ⟨_, rfl⟩
 rw [cw_si_7_7, ← eu8] at hP
 have h := h u8 eu8
 refine lv_aload_n hx hb d_Walk_round_38 rfl (lv_at hl 2 rfl) ?_
 refine cc_v (va_runV (As := []) (rest := []) ⟨hx, hb, hml, hown, hts⟩ (ct_Walk_noteCorner l D a cA cZ G _  u8 _ hI h) (pw_cwV 0 hts kw_684 kw_53 kw_681 kw_683 kw_14 (by decide +kernel) ⟨Nat.le_of_ble_eq_true rfl, Nat.le_of_ble_eq_true rfl⟩) ⟨pw_blind, va_recv hK hP (ci := 10) (q0 := 7) rfl cw_at_7, fun U hU hW => ⟨rfl, by rw [hU], by rw [hU]; exact hP, va_K.moved hW.alike hK⟩⟩ rfl rfl hl.1 rfl (lv_room (Nat.le_of_ble_eq_true rfl)) d_Walk_round_39 ⟨Nat.le_of_ble_eq_true rfl, Nat.le_of_ble_eq_true rfl⟩) hS hF hA (fun u9 H locs hP hS h => ?_)
 refine lv_iconst (v := 0) hx hb d_Walk_round_42 (by decide) ?_
 refine lv_istore (lv' := [(4, .int 0), (3, .int r4), (2, .int r2), (0, .ref (a 7)), (1, .int x1)]) hx hb d_Walk_round_43 hl (by decide) rfl (fun ls hl => ?_)
 obtain ⟨n1, h⟩ := h
 exact cp_Walk_round_45 C K EX n1 x1 r2 r4 0 u9 _ _ _ hP hS (lv_sub hl [3, 4, 2, 1, 0] rfl) h
set_option maxHeartbeats 4000000 in
set_option maxRecDepth 100000 in
theorem ct_Walk_round (l : Launch) (D : va_G) (a : Nat → Nat) (cA cZ : ClassId) (G : pG) (sz : Nat) (x1 : Int32) (u : pS) (Q : pS → Prop) (hI : pw_I 40 a) (h : wp_Walk_round G x1 u Q) : Met l y_Walk_round w_Walk_round ({ frames := 4, cells := 0, slots := 0, locals := 90 } : Room) (va_Pc [.ref (a 7), .int x1] (fun U => pw_pre D (cw a cA cZ G) (cT cA cZ) sz u U ∧ cw_Ex (pw_F 40 a sz) U)) (va_Qv (fun (u : pS) => Q u) (pw_B D (cw a cA cZ G) (cT cA cZ)) (pw_F 40 a sz)) 0 0 (pw_F 40 a sz) := by
 refine Met.ofW (cc := b_Walk_round) (maxL := 5) (ret := none) (by decide) rfl ?_
 intro p e s m args below meth c s₁ B hml hv
 obtain ⟨rfl, ⟨hsz, hP, hK⟩, EX⟩ := hv
 subst hsz
 have hl := lv_entry ([.ref (a 7), .int x1]) (n := 5) (Nat.le_of_ble_eq_true rfl)
 rw [lg_entry_eq]
 generalize (lg_sl ([.ref (a 7), .int x1]) ++ List.replicate (5 - (lg_sl ([.ref (a 7), .int x1])).length) Slot.unset).toArray = ls at hl ⊢
 exact st_Walk_round (A := (pw_F 40 a s.heap.size)) ⟨B.exec, B.bytes, B.returns, hml, findClass_of_methodNamed B.named, atoms_spec (ws := w_Walk_round) B.pre, B.notSynchronized, fun q hq => Or.inr hq⟩ ⟨hK, hI, fun k hk => Or.inl ⟨k, hk, rfl⟩⟩ EX x1 u ls hP hl h
set_option maxHeartbeats 4000000 in
set_option maxRecDepth 100000 in
theorem st_PI_outline {p : Program} {l : Launch} {e : Env} {s : State} {m : MethodId} {args : Array Value} {below : List Frame} {meth : Method} {c : Code} {D : va_G} {a : Nat → Nat} {cA cZ : ClassId} {G : pG} {A : Nat → Prop} {Q : Int32 → pS → Prop} {X : Nat → pS → Prop} (C : pw_C p s m args meth c b_PI_outline 2 R_PI (some .int) w_PI_outline A) (K : pw_K s D 40 a (cT cA cZ) A) (EX : cw_Ex A s) (hL : px_L l) (htr : e.platform.stackTraces = false) (hE : ∀ (pc : Nat), ∀ x ∈ c.exceptionTable.toList, covers x pc = false) (x1 : Int32) (u : pS) (ls : Array Slot) (hP : va_P D vwCl (cw a cA cZ G u) s.heap) (hl : lv_has ls 2 [(0, .ref (a 0)), (1, .int x1)]) (h : wp_PI_outline G x1 u Q X) : W p l e ({ frames := 8, cells := 1, slots := 6, locals := 124 } : Room) s m args below meth c s.heap [] 0 0 (px_Ei below args s D (cw a cA cZ G) (cT cA cZ) A Q X) (F0 m 0 ls []) := by
 obtain ⟨hx, hb, hr, hml, hown, hts, hlocks, hA⟩ := id C
 obtain ⟨hK, hI, hF⟩ := id K
 have hD : ∀ u, va_D A (cw a cA cZ G u) := fun u => cw_D hI hF
 have hz : ∀ oc t, px_T X (pw_B D (cw a cA cZ G) (cT cA cZ)) oc t → va_F A s t → (px_Qi Q X (pw_B D (cw a cA cZ G) (cT cA cZ)) A) args s oc t := fun oc t h1 h2 => ⟨Or.inr h1, h2⟩
 have hS : va_S A s.heap s.heap [] := va_S.rf
 have h : wp_PI_outline G x1 u Q X := h
 refine lv_aload_n hx hb d_PI_outline_0 rfl (lv_at hl 0 rfl) ?_
 refine lv_iload_n hx hb d_PI_outline_1 rfl (lv_at hl 1 rfl) ?_
 refine cx_v (px_runV (As := [.int x1]) (rest := []) ⟨hx, hb, hml, hown, hts⟩ (ct_PI_needPiece l D a cA cZ G _ x1 u _ _ hL hI h) (pw_cwV 1 hts kw_643 kw_45 kw_640 kw_642 kw_13 (by decide +kernel) ⟨Nat.le_of_ble_eq_true rfl, Nat.le_of_ble_eq_true rfl⟩) ⟨cw_blindX, va_recv hK hP (ci := 0) (q0 := 0) rfl cw_at_0, fun U hU hW => ⟨rfl, ⟨by rw [hU], by rw [hU]; exact hP, va_K.moved hW.alike hK⟩, cw_Ex_call EX hS (pw_FA hS hF hA) hU hW⟩⟩ rfl rfl hl.1 rfl (lv_room (Nat.le_of_ble_eq_true rfl)) d_PI_outline_2 ⟨Nat.le_of_ble_eq_true rfl, Nat.le_of_ble_eq_true rfl⟩) hS hF hA (hE _) hlocks hz (fun u1 H locs hP hS h => ?_)
 refine lv_aload_n hx hb d_PI_outline_5 rfl (lv_at hl 0 rfl) ?_
 refine va_get (D := D) (ci := 0) (v := .ref (a 7)) (C := R_PI) (T := T_PI) (N := 12) hx hb hts in_PI hown hK hP 0 cw_at_0 rfl 7 (by decide) (hts _ (List.mem_cons_of_mem _ kw_319)) (fun _ h9 => h9) rfl d_PI_outline_6 ?_
 refine lv_iload_n hx hb d_PI_outline_9 rfl (lv_at hl 1 rfl) ?_
 refine cc_v (va_runV (As := [.int x1]) (rest := []) ⟨hx, hb, hml, hown, hts⟩ (ct_Walk_round l D a cA cZ G _ x1 u1 _ hI h) (pw_cwV 1 hts kw_675 kw_53 kw_672 kw_673 kw_674 (by decide +kernel) ⟨Nat.le_of_ble_eq_true rfl, Nat.le_of_ble_eq_true rfl⟩) ⟨cw_blindX, va_recv hK hP (ci := 10) (q0 := 7) rfl cw_at_7, fun U hU hW => ⟨rfl, ⟨by rw [hU], by rw [hU]; exact hP, va_K.moved hW.alike hK⟩, cw_Ex_call EX hS (pw_FA hS hF hA) hU hW⟩⟩ rfl rfl hl.1 rfl (lv_room (Nat.le_of_ble_eq_true rfl)) d_PI_outline_10 ⟨Nat.le_of_ble_eq_true rfl, Nat.le_of_ble_eq_true rfl⟩) hS hF hA (fun u2 H locs hP hS h => ?_)
 refine lv_aload_n hx hb d_PI_outline_13 rfl (lv_at hl 0 rfl) ?_
 refine va_get (D := D) (ci := 0) (v := .ref (a 7)) (C := R_PI) (T := T_PI) (N := 12) hx hb hts in_PI hown hK hP 0 cw_at_0 rfl 7 (by decide) (hts _ (List.mem_cons_of_mem _ kw_319)) (fun _ h9 => h9) rfl d_PI_outline_14 ?_
 refine va_get (D := D) (ci := 10) (v := .int (u2.1 6)) (C := R_Walk) (T := T_Walk) (N := 8) hx hb hts in_Walk hown hK hP 7 cw_at_7 rfl 7 (by decide) (hts _ (List.mem_cons_of_mem _ kw_228)) (fun _ h9 => h9) rfl d_PI_outline_17 ?_
 exact px_mono (fun t h => px_ofMQ (fun _ _ h => h) h) (W.iret (Qc := px_Qi Q X (pw_B D (cw a cA cZ G) (cT cA cZ)) A) (v := (u2.1 6)) hx hb hr (fun t ht hW => ⟨Or.inl ⟨(u2.1 6), u2, rfl, h, by rw [ht]; exact hP, va_K.moved hW.alike hK⟩, hS.F ht⟩) hS.2.2 d_PI_outline_20 hlocks)
set_option maxHeartbeats 4000000 in
set_option maxRecDepth 100000 in
theorem ct_PI_outline (l : Launch) (D : va_G) (a : Nat → Nat) (cA cZ : ClassId) (G : pG) (sz : Nat) (x1 : Int32) (u : pS) (Q : Int32 → pS → Prop) (X : Nat → pS → Prop) (hL : px_L l) (hI : pw_I 40 a) (h : wp_PI_outline G x1 u Q X) : px_Met l y_PI_outline w_PI_outline ({ frames := 8, cells := 1, slots := 6, locals := 124 } : Room) (va_Pc [.ref (a 0), .int x1] (fun U => pw_pre D (cw a cA cZ G) (cT cA cZ) sz u U ∧ cw_Ex (pw_F 40 a sz) U)) (px_Qi Q X (pw_B D (cw a cA cZ G) (cT cA cZ)) (pw_F 40 a sz)) 0 0 1 6 (pw_F 40 a sz) := by
 refine px_ofW (cc := b_PI_outline) (maxL := 2) (ret := (some .int)) (by decide) rfl ?_
 intro p e s m args below meth c s₁ B hml hE hv
 obtain ⟨rfl, ⟨hsz, hP, hK⟩, EX⟩ := hv
 subst hsz
 have hl := lv_entry ([.ref (a 0), .int x1]) (n := 2) (Nat.le_of_ble_eq_true rfl)
 rw [lg_entry_eq]
 generalize (lg_sl ([.ref (a 0), .int x1]) ++ List.replicate (2 - (lg_sl ([.ref (a 0), .int x1])).length) Slot.unset).toArray = ls at hl ⊢
 exact st_PI_outline (A := (pw_F 40 a s.heap.size)) ⟨B.exec, B.bytes, B.returns, hml, findClass_of_methodNamed B.named, atoms_spec (ws := w_PI_outline) B.pre, B.notSynchronized, fun q hq => Or.inr hq⟩ ⟨hK, hI, fun k hk => Or.inl ⟨k, hk, rfl⟩⟩ EX hL (hL e B.admits) (px_none hE) x1 u ls hP hl h
set_option maxHeartbeats 4000000 in
set_option maxRecDepth 100000 in
theorem st_Walk_cornerY {p : Program} {l : Launch} {e : Env} {s : State} {m : MethodId} {args : Array Value} {below : List Frame} {meth : Method} {c : Code} {D : va_G} {a : Nat → Nat} {cA cZ : ClassId} {G : pG} {A : Nat → Prop} {Q : Int32 → pS → Prop} (C : pw_C p s m args meth c b_Walk_cornerY 2 R_Walk (some .int) w_Walk_cornerY A) (K : pw_K s D 40 a (cT cA cZ) A) (x1 : Int32) (u : pS) (ls : Array Slot) (hP : va_P D vwCl (cw a cA cZ G u) s.heap) (hl : lv_has ls 2 [(0, .ref (a 7)), (1, .int x1)]) (h : wp_Walk_cornerY G x1 u Q) : W p l e ({ frames := 0, cells := 0, slots := 0, locals := 0 } : Room) s m args below meth c s.heap [] 0 0 (pw_Ei below args s D (cw a cA cZ G) (cT cA cZ) A Q) (F0 m 0 ls []) := by
 obtain ⟨hx, hb, hr, hml, hown, hts, hlocks, hA⟩ := id C
 obtain ⟨hK, hI, hF⟩ := id K
 have hD : ∀ u, va_D A (cw a cA cZ G u) := fun u => cw_D hI hF
 have hS : va_S A s.heap s.heap [] := va_S.rf
 have h : wp_Walk_cornerY G x1 u Q := h
 refine lv_aload_n hx hb d_Walk_cornerY_0 rfl (lv_at hl 0 rfl) ?_
 refine va_get (D := D) (ci := 10) (v := .ref (a 33)) (C := R_Walk) (T := T_Walk) (N := 8) hx hb hts in_Walk hown hK hP 7 cw_at_7 rfl 3 (by decide) (hts _ (List.mem_cons_of_mem _ kw_223)) (fun _ h9 => h9) rfl d_Walk_cornerY_1 ?_
 refine lv_iload_n hx hb d_Walk_cornerY_4 rfl (lv_at hl 1 rfl) ?_
 refine va_iald hx hb hK hP 33 0 cw_at_33 rfl h.1 d_Walk_cornerY_5 ?_
 have h := h.2
 exact W.iret (v := (u.2 19 x1.toNatClampNeg)) hx hb hr (fun t ht hW => ⟨⟨(u.2 19 x1.toNatClampNeg), u, rfl, h, by rw [ht]; exact hP, va_K.moved hW.alike hK⟩, hS.F ht⟩) hS.2.2 d_Walk_cornerY_6 hlocks
set_option maxHeartbeats 4000000 in
set_option maxRecDepth 100000 in
theorem ct_Walk_cornerY (l : Launch) (D : va_G) (a : Nat → Nat) (cA cZ : ClassId) (G : pG) (sz : Nat) (x1 : Int32) (u : pS) (Q : Int32 → pS → Prop) (hI : pw_I 40 a) (h : wp_Walk_cornerY G x1 u Q) : Met l y_Walk_cornerY w_Walk_cornerY ({ frames := 0, cells := 0, slots := 0, locals := 0 } : Room) (va_Pc [.ref (a 7), .int x1] (pw_pre D (cw a cA cZ G) (cT cA cZ) sz u)) (va_Qi (fun (r : Int32) (u : pS) => Q r u) (pw_B D (cw a cA cZ G) (cT cA cZ)) (pw_F 40 a sz)) 0 0 (pw_F 40 a sz) := by
 refine Met.ofW (cc := b_Walk_cornerY) (maxL := 2) (ret := (some .int)) (by decide) rfl ?_
 intro p e s m args below meth c s₁ B hml hv
 obtain ⟨rfl, hsz, hP, hK⟩ := hv
 subst hsz
 have hl := lv_entry ([.ref (a 7), .int x1]) (n := 2) (Nat.le_of_ble_eq_true rfl)
 rw [lg_entry_eq]
 generalize (lg_sl ([.ref (a 7), .int x1]) ++ List.replicate (2 - (lg_sl ([.ref (a 7), .int x1])).length) Slot.unset).toArray = ls at hl ⊢
 exact st_Walk_cornerY (A := (pw_F 40 a s.heap.size)) ⟨B.exec, B.bytes, B.returns, hml, findClass_of_methodNamed B.named, atoms_spec (ws := w_Walk_cornerY) B.pre, B.notSynchronized, fun q hq => Or.inr hq⟩ ⟨hK, hI, fun k hk => Or.inl ⟨k, hk, rfl⟩⟩ x1 u ls hP hl h
set_option maxHeartbeats 4000000 in
set_option maxRecDepth 100000 in
theorem st_Walk_cornerX {p : Program} {l : Launch} {e : Env} {s : State} {m : MethodId} {args : Array Value} {below : List Frame} {meth : Method} {c : Code} {D : va_G} {a : Nat → Nat} {cA cZ : ClassId} {G : pG} {A : Nat → Prop} {Q : Int32 → pS → Prop} (C : pw_C p s m args meth c b_Walk_cornerX 2 R_Walk (some .int) w_Walk_cornerX A) (K : pw_K s D 40 a (cT cA cZ) A) (x1 : Int32) (u : pS) (ls : Array Slot) (hP : va_P D vwCl (cw a cA cZ G u) s.heap) (hl : lv_has ls 2 [(0, .ref (a 7)), (1, .int x1)]) (h : wp_Walk_cornerX G x1 u Q) : W p l e ({ frames := 0, cells := 0, slots := 0, locals := 0 } : Room) s m args below meth c s.heap [] 0 0 (pw_Ei below args s D (cw a cA cZ G) (cT cA cZ) A Q) (F0 m 0 ls []) := by
 obtain ⟨hx, hb, hr, hml, hown, hts, hlocks, hA⟩ := id C
 obtain ⟨hK, hI, hF⟩ := id K
 have hD : ∀ u, va_D A (cw a cA cZ G u) := fun u => cw_D hI hF
 have hS : va_S A s.heap s.heap [] := va_S.rf
 have h : wp_Walk_cornerX G x1 u Q := h
 refine lv_aload_n hx hb d_Walk_cornerX_0 rfl (lv_at hl 0 rfl) ?_
 refine va_get (D := D) (ci := 10) (v := .ref (a 32)) (C := R_Walk) (T := T_Walk) (N := 8) hx hb hts in_Walk hown hK hP 7 cw_at_7 rfl 2 (by decide) (hts _ (List.mem_cons_of_mem _ kw_222)) (fun _ h9 => h9) rfl d_Walk_cornerX_1 ?_
 refine lv_iload_n hx hb d_Walk_cornerX_4 rfl (lv_at hl 1 rfl) ?_
 refine va_iald hx hb hK hP 32 0 cw_at_32 rfl h.1 d_Walk_cornerX_5 ?_
 have h := h.2
 exact W.iret (v := (u.2 18 x1.toNatClampNeg)) hx hb hr (fun t ht hW => ⟨⟨(u.2 18 x1.toNatClampNeg), u, rfl, h, by rw [ht]; exact hP, va_K.moved hW.alike hK⟩, hS.F ht⟩) hS.2.2 d_Walk_cornerX_6 hlocks
set_option maxHeartbeats 4000000 in
set_option maxRecDepth 100000 in
theorem ct_Walk_cornerX (l : Launch) (D : va_G) (a : Nat → Nat) (cA cZ : ClassId) (G : pG) (sz : Nat) (x1 : Int32) (u : pS) (Q : Int32 → pS → Prop) (hI : pw_I 40 a) (h : wp_Walk_cornerX G x1 u Q) : Met l y_Walk_cornerX w_Walk_cornerX ({ frames := 0, cells := 0, slots := 0, locals := 0 } : Room) (va_Pc [.ref (a 7), .int x1] (pw_pre D (cw a cA cZ G) (cT cA cZ) sz u)) (va_Qi (fun (r : Int32) (u : pS) => Q r u) (pw_B D (cw a cA cZ G) (cT cA cZ)) (pw_F 40 a sz)) 0 0 (pw_F 40 a sz) := by
 refine Met.ofW (cc := b_Walk_cornerX) (maxL := 2) (ret := (some .int)) (by decide) rfl ?_
 intro p e s m args below meth c s₁ B hml hv
 obtain ⟨rfl, hsz, hP, hK⟩ := hv
 subst hsz
 have hl := lv_entry ([.ref (a 7), .int x1]) (n := 2) (Nat.le_of_ble_eq_true rfl)
 rw [lg_entry_eq]
 generalize (lg_sl ([.ref (a 7), .int x1]) ++ List.replicate (2 - (lg_sl ([.ref (a 7), .int x1])).length) Slot.unset).toArray = ls at hl ⊢
 exact st_Walk_cornerX (A := (pw_F 40 a s.heap.size)) ⟨B.exec, B.bytes, B.returns, hml, findClass_of_methodNamed B.named, atoms_spec (ws := w_Walk_cornerX) B.pre, B.notSynchronized, fun q hq => Or.inr hq⟩ ⟨hK, hI, fun k hk => Or.inl ⟨k, hk, rfl⟩⟩ x1 u ls hP hl h
set_option maxHeartbeats 4000000 in
set_option maxRecDepth 100000 in
theorem st_PI_corner {p : Program} {l : Launch} {e : Env} {s : State} {m : MethodId} {args : Array Value} {below : List Frame} {meth : Method} {c : Code} {D : va_G} {a : Nat → Nat} {cA cZ : ClassId} {G : pG} {A : Nat → Prop} {Q : Int32 → pS → Prop} {X : Nat → pS → Prop} (C : pw_C p s m args meth c b_PI_corner 4 R_PI (some .int) w_PI_corner A) (K : pw_K s D 40 a (cT cA cZ) A) (EX : cw_Ex A s) (hL : px_L l) (htr : e.platform.stackTraces = false) (hE : ∀ (pc : Nat), ∀ x ∈ c.exceptionTable.toList, covers x pc = false) (x1 x2 x3 : Int32) (u : pS) (ls : Array Slot) (hP : va_P D vwCl (cw a cA cZ G u) s.heap) (hl : lv_has ls 4 [(0, .ref (a 0)), (1, .int x1), (2, .int x2), (3, .int x3)]) (h : wp_PI_corner G x1 x2 x3 u Q X) : W p l e ({ frames := 8, cells := 1, slots := 6, locals := 124 } : Room) s m args below meth c s.heap [] 0 0 (px_Ei below args s D (cw a cA cZ G) (cT cA cZ) A Q X) (F0 m 0 ls []) := by
 obtain ⟨hx, hb, hr, hml, hown, hts, hlocks, hA⟩ := id C
 obtain ⟨hK, hI, hF⟩ := id K
 have hD : ∀ u, va_D A (cw a cA cZ G u) := fun u => cw_D hI hF
 have hz : ∀ oc t, px_T X (pw_B D (cw a cA cZ G) (cT cA cZ)) oc t → va_F A s t → (px_Qi Q X (pw_B D (cw a cA cZ G) (cT cA cZ)) A) args s oc t := fun oc t h1 h2 => ⟨Or.inr h1, h2⟩
 have hS : va_S A s.heap s.heap [] := va_S.rf
 have h : wp_PI_corner G x1 x2 x3 u Q X := h
 refine lv_aload_n hx hb d_PI_corner_0 rfl (lv_at hl 0 rfl) ?_
 refine lv_iload_n hx hb d_PI_corner_1 rfl (lv_at hl 1 rfl) ?_
 refine cx_v (px_runV (As := [.int x1]) (rest := []) ⟨hx, hb, hml, hown, hts⟩ (ct_PI_needPiece l D a cA cZ G _ x1 u _ _ hL hI h) (pw_cwV 1 hts kw_643 kw_45 kw_640 kw_642 kw_13 (by decide +kernel) ⟨Nat.le_of_ble_eq_true rfl, Nat.le_of_ble_eq_true rfl⟩) ⟨cw_blindX, va_recv hK hP (ci := 0) (q0 := 0) rfl cw_at_0, fun U hU hW => ⟨rfl, ⟨by rw [hU], by rw [hU]; exact hP, va_K.moved hW.alike hK⟩, cw_Ex_call EX hS (pw_FA hS hF hA) hU hW⟩⟩ rfl rfl hl.1 rfl (lv_room (Nat.le_of_ble_eq_true rfl)) d_PI_corner_2 ⟨Nat.le_of_ble_eq_true rfl, Nat.le_of_ble_eq_true rfl⟩) hS hF hA (hE _) hlocks hz (fun u1 H locs hP hS h => ?_)
 refine lv_iload_n hx hb d_PI_corner_5 rfl (lv_at hl 3 rfl) ?_
 refine lv_iconst (v := 2) hx hb d_PI_corner_6 (by decide) ?_
 refine cx_v (px_runS (As := [.int x3, .int 2]) (rest := []) ⟨hx, hb, hml, hown, hts⟩ (ct_PI_needIndex l D a cA cZ G _ x3 2 u1 _ _ hL hI h) (pw_cwS 2 hts kw_367 kw_45 kw_365 kw_366 (by decide +kernel) ⟨Nat.le_of_ble_eq_true rfl, Nat.le_of_ble_eq_true rfl⟩) ⟨cw_blindX, fun U hU hW => ⟨rfl, ⟨by rw [hU], by rw [hU]; exact hP, va_K.moved hW.alike hK⟩, cw_Ex_call EX hS (pw_FA hS hF hA) hU hW⟩⟩ rfl rfl hl.1 rfl (lv_room (Nat.le_of_ble_eq_true rfl)) d_PI_corner_7 ⟨Nat.le_of_ble_eq_true rfl, Nat.le_of_ble_eq_true rfl⟩) hS hF hA (hE _) hlocks hz (fun u2 H locs hP hS h => ?_)
 refine lv_aload_n hx hb d_PI_corner_10 rfl (lv_at hl 0 rfl) ?_
 refine va_get (D := D) (ci := 0) (v := .ref (a 7)) (C := R_PI) (T := T_PI) (N := 12) hx hb hts in_PI hown hK hP 0 cw_at_0 rfl 7 (by decide) (hts _ (List.mem_cons_of_mem _ kw_319)) (fun _ h9 => h9) rfl d_PI_corner_11 ?_
 refine lv_iload_n hx hb d_PI_corner_14 rfl (lv_at hl 1 rfl) ?_
 refine cc_v (va_runV (As := [.int x1]) (rest := []) ⟨hx, hb, hml, hown, hts⟩ (ct_Walk_round l D a cA cZ G _ x1 u2 _ hI h) (pw_cwV 1 hts kw_675 kw_53 kw_672 kw_673 kw_674 (by decide +kernel) ⟨Nat.le_of_ble_eq_true rfl, Nat.le_of_ble_eq_true rfl⟩) ⟨cw_blindX, va_recv hK hP (ci := 10) (q0 := 7) rfl cw_at_7, fun U hU hW => ⟨rfl, ⟨by rw [hU], by rw [hU]; exact hP, va_K.moved hW.alike hK⟩, cw_Ex_call EX hS (pw_FA hS hF hA) hU hW⟩⟩ rfl rfl hl.1 rfl (lv_room (Nat.le_of_ble_eq_true rfl)) d_PI_corner_15 ⟨Nat.le_of_ble_eq_true rfl, Nat.le_of_ble_eq_true rfl⟩) hS hF hA (fun u3 H locs hP hS h => ?_)
 refine lv_iload_n hx hb d_PI_corner_18 rfl (lv_at hl 2 rfl) ?_
 refine lv_aload_n hx hb d_PI_corner_19 rfl (lv_at hl 0 rfl) ?_
 refine va_get (D := D) (ci := 0) (v := .ref (a 7)) (C := R_PI) (T := T_PI) (N := 12) hx hb hts in_PI hown hK hP 0 cw_at_0 rfl 7 (by decide) (hts _ (List.mem_cons_of_mem _ kw_319)) (fun _ h9 => h9) rfl d_PI_corner_20 ?_
 refine va_get (D := D) (ci := 10) (v := .int (u3.1 6)) (C := R_Walk) (T := T_Walk) (N := 8) hx hb hts in_Walk hown hK hP 7 cw_at_7 rfl 7 (by decide) (hts _ (List.mem_cons_of_mem _ kw_228)) (fun _ h9 => h9) rfl d_PI_corner_23 ?_
 refine cx_v (px_runS (As := [.int x2, .int (u3.1 6)]) (rest := []) ⟨hx, hb, hml, hown, hts⟩ (ct_PI_needIndex l D a cA cZ G _ x2 (u3.1 6) u3 _ _ hL hI h) (pw_cwS 2 hts kw_367 kw_45 kw_365 kw_366 (by decide +kernel) ⟨Nat.le_of_ble_eq_true rfl, Nat.le_of_ble_eq_true rfl⟩) ⟨cw_blindX, fun U hU hW => ⟨rfl, ⟨by rw [hU], by rw [hU]; exact hP, va_K.moved hW.alike hK⟩, cw_Ex_call EX hS (pw_FA hS hF hA) hU hW⟩⟩ rfl rfl hl.1 rfl (lv_room (Nat.le_of_ble_eq_true rfl)) d_PI_corner_26 ⟨Nat.le_of_ble_eq_true rfl, Nat.le_of_ble_eq_true rfl⟩) hS hF hA (hE _) hlocks hz (fun u4 H locs hP hS h => ?_)
 refine lv_iload_n hx hb d_PI_corner_29 rfl (lv_at hl 3 rfl) ?_
 refine lv_if_ne (tgt := 44) hx hb d_PI_corner_30 (by decide) (fun c5 => ?_) (fun c5 => ?_)
 · have h := h.2 c5
   refine lv_aload_n hx hb d_PI_corner_44 rfl (lv_at hl 0 rfl) ?_
   refine va_get (D := D) (ci := 0) (v := .ref (a 7)) (C := R_PI) (T := T_PI) (N := 12) hx hb hts in_PI hown hK hP 0 cw_at_0 rfl 7 (by decide) (hts _ (List.mem_cons_of_mem _ kw_319)) (fun _ h9 => h9) rfl d_PI_corner_45 ?_
   refine lv_iload_n hx hb d_PI_corner_48 rfl (lv_at hl 2 rfl) ?_
   refine cc_i (va_runV (As := [.int x2]) (rest := []) ⟨hx, hb, hml, hown, hts⟩ (ct_Walk_cornerY l D a cA cZ G _ x2 u4 _ hI h) (pw_cwV 1 hts kw_714 kw_53 kw_711 kw_712 kw_713 (by decide +kernel) ⟨Nat.le_of_ble_eq_true rfl, Nat.le_of_ble_eq_true rfl⟩) ⟨pw_blind, va_recv hK hP (ci := 10) (q0 := 7) rfl cw_at_7, fun U hU hW => ⟨rfl, by rw [hU], by rw [hU]; exact hP, va_K.moved hW.alike hK⟩⟩ rfl rfl hl.1 rfl (lv_room (Nat.le_of_ble_eq_true rfl)) d_PI_corner_49 ⟨Nat.le_of_ble_eq_true rfl, Nat.le_of_ble_eq_true rfl⟩) hS hF hA (fun r7 u6 H locs hP hS h => ?_)
   exact px_mono (fun t h => px_ofMQ (fun _ _ h => h) h) (W.iret (Qc := px_Qi Q X (pw_B D (cw a cA cZ G) (cT cA cZ)) A) (v := r7) hx hb hr (fun t ht hW => ⟨Or.inl ⟨r7, u6, rfl, h, by rw [ht]; exact hP, va_K.moved hW.alike hK⟩, hS.F ht⟩) hS.2.2 d_PI_corner_52 hlocks)
 · have h := h.1 c5
   refine lv_aload_n hx hb d_PI_corner_33 rfl (lv_at hl 0 rfl) ?_
   refine va_get (D := D) (ci := 0) (v := .ref (a 7)) (C := R_PI) (T := T_PI) (N := 12) hx hb hts in_PI hown hK hP 0 cw_at_0 rfl 7 (by decide) (hts _ (List.mem_cons_of_mem _ kw_319)) (fun _ h9 => h9) rfl d_PI_corner_34 ?_
   refine lv_iload_n hx hb d_PI_corner_37 rfl (lv_at hl 2 rfl) ?_
   refine cc_i (va_runV (As := [.int x2]) (rest := []) ⟨hx, hb, hml, hown, hts⟩ (ct_Walk_cornerX l D a cA cZ G _ x2 u4 _ hI h) (pw_cwV 1 hts kw_710 kw_53 kw_707 kw_708 kw_709 (by decide +kernel) ⟨Nat.le_of_ble_eq_true rfl, Nat.le_of_ble_eq_true rfl⟩) ⟨pw_blind, va_recv hK hP (ci := 10) (q0 := 7) rfl cw_at_7, fun U hU hW => ⟨rfl, by rw [hU], by rw [hU]; exact hP, va_K.moved hW.alike hK⟩⟩ rfl rfl hl.1 rfl (lv_room (Nat.le_of_ble_eq_true rfl)) d_PI_corner_38 ⟨Nat.le_of_ble_eq_true rfl, Nat.le_of_ble_eq_true rfl⟩) hS hF hA (fun r9 u8 H locs hP hS h => ?_)
   refine lv_goto (tgt := 52) hx hb d_PI_corner_41 (by decide) ?_
   exact px_mono (fun t h => px_ofMQ (fun _ _ h => h) h) (W.iret (Qc := px_Qi Q X (pw_B D (cw a cA cZ G) (cT cA cZ)) A) (v := r9) hx hb hr (fun t ht hW => ⟨Or.inl ⟨r9, u8, rfl, h, by rw [ht]; exact hP, va_K.moved hW.alike hK⟩, hS.F ht⟩) hS.2.2 d_PI_corner_52 hlocks)
set_option maxHeartbeats 4000000 in
set_option maxRecDepth 100000 in
theorem ct_PI_corner (l : Launch) (D : va_G) (a : Nat → Nat) (cA cZ : ClassId) (G : pG) (sz : Nat) (x1 x2 x3 : Int32) (u : pS) (Q : Int32 → pS → Prop) (X : Nat → pS → Prop) (hL : px_L l) (hI : pw_I 40 a) (h : wp_PI_corner G x1 x2 x3 u Q X) : px_Met l y_PI_corner w_PI_corner ({ frames := 8, cells := 1, slots := 6, locals := 124 } : Room) (va_Pc [.ref (a 0), .int x1, .int x2, .int x3] (fun U => pw_pre D (cw a cA cZ G) (cT cA cZ) sz u U ∧ cw_Ex (pw_F 40 a sz) U)) (px_Qi Q X (pw_B D (cw a cA cZ G) (cT cA cZ)) (pw_F 40 a sz)) 0 0 1 6 (pw_F 40 a sz) := by
 refine px_ofW (cc := b_PI_corner) (maxL := 4) (ret := (some .int)) (by decide) rfl ?_
 intro p e s m args below meth c s₁ B hml hE hv
 obtain ⟨rfl, ⟨hsz, hP, hK⟩, EX⟩ := hv
 subst hsz
 have hl := lv_entry ([.ref (a 0), .int x1, .int x2, .int x3]) (n := 4) (Nat.le_of_ble_eq_true rfl)
 rw [lg_entry_eq]
 generalize (lg_sl ([.ref (a 0), .int x1, .int x2, .int x3]) ++ List.replicate (4 - (lg_sl ([.ref (a 0), .int x1, .int x2, .int x3])).length) Slot.unset).toArray = ls at hl ⊢
 exact st_PI_corner (A := (pw_F 40 a s.heap.size)) ⟨B.exec, B.bytes, B.returns, hml, findClass_of_methodNamed B.named, atoms_spec (ws := w_PI_corner) B.pre, B.notSynchronized, fun q hq => Or.inr hq⟩ ⟨hK, hI, fun k hk => Or.inl ⟨k, hk, rfl⟩⟩ EX hL (hL e B.admits) (px_none hE) x1 x2 x3 u ls hP hl h
