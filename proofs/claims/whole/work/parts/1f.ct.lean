set_option maxHeartbeats 4000000 in
set_option maxRecDepth 100000 in
theorem st_Ranking_ranked_laying {p : Program} {l : Launch} {e : Env} {s : State} {m : MethodId} {args : Array Value} {below : List Frame} {meth : Method} {c : Code} {D : va_G} {a : Nat → Nat} {cA cZ : ClassId} {G : pG} {A : Nat → Prop} {Q : Int32 → pS → Prop} (C : pw_C p s m args meth c b_Ranking_ranked 2 R_Ranking (some .int) w_Ranking_ranked A) (K : pw_K s D 40 a (cT cA cZ) A) (x1 : Int32) (u : pS) (ls : Array Slot) (hP : va_P D vwCl (cw a cA cZ G u) s.heap) (hl : lv_has ls 2 [(0, .ref (a 6)), (1, .int x1)]) (h : wp_Ranking_ranked_laying G x1 u Q) : W p l e ({ frames := 0, cells := 0, slots := 0, locals := 0 } : Room) s m args below meth c s.heap [] 0 0 (pw_Ei below args s D (cw a cA cZ G) (cT cA cZ) A Q) (F0 m 0 ls []) := by
 obtain ⟨hx, hb, hr, hml, hown, hts, hlocks, hA⟩ := id C
 obtain ⟨hK, hI, hF⟩ := id K
 have hD : ∀ u, va_D A (cw a cA cZ G u) := fun u => cw_D hI hF
 have hS : va_S A s.heap s.heap [] := va_S.rf
 have h : wp_Ranking_ranked_laying G x1 u Q := h
 refine lv_aload_n hx hb d_Ranking_ranked_0 rfl (lv_at hl 0 rfl) ?_
 refine va_get (D := D) (ci := 6) (v := .ref (a 30)) (C := R_Laying) (T := T_Laying) (N := 2) hx hb hts in_Laying hown hK hP 6 cw_at_6 rfl 0 (by decide) (hts _ (List.mem_cons_of_mem _ kw_197)) (fun _ h9 => h9) rfl d_Ranking_ranked_1 ?_
 refine lv_iload_n hx hb d_Ranking_ranked_4 rfl (lv_at hl 1 rfl) ?_
 refine va_iald hx hb hK hP 30 0 cw_at_30 rfl h.1 d_Ranking_ranked_5 ?_
 have h := h.2
 exact W.iret (v := (u.2 16 x1.toNatClampNeg)) hx hb hr (fun t ht hW => ⟨⟨(u.2 16 x1.toNatClampNeg), u, rfl, h, by rw [ht]; exact hP, va_K.moved hW.alike hK⟩, hS.F ht⟩) hS.2.2 d_Ranking_ranked_6 hlocks
set_option maxHeartbeats 4000000 in
set_option maxRecDepth 100000 in
theorem ct_Ranking_ranked_laying (l : Launch) (D : va_G) (a : Nat → Nat) (cA cZ : ClassId) (G : pG) (sz : Nat) (x1 : Int32) (u : pS) (Q : Int32 → pS → Prop) (hI : pw_I 40 a) (h : wp_Ranking_ranked_laying G x1 u Q) : Met l y_Ranking_ranked w_Ranking_ranked ({ frames := 0, cells := 0, slots := 0, locals := 0 } : Room) (va_Pc [.ref (a 6), .int x1] (pw_pre D (cw a cA cZ G) (cT cA cZ) sz u)) (va_Qi (fun (r : Int32) (u : pS) => Q r u) (pw_B D (cw a cA cZ G) (cT cA cZ)) (pw_F 40 a sz)) 0 0 (pw_F 40 a sz) := by
 refine Met.ofW (cc := b_Ranking_ranked) (maxL := 2) (ret := (some .int)) (by decide) rfl ?_
 intro p e s m args below meth c s₁ B hml hv
 obtain ⟨rfl, hsz, hP, hK⟩ := hv
 subst hsz
 have hl := lv_entry ([.ref (a 6), .int x1]) (n := 2) (Nat.le_of_ble_eq_true rfl)
 rw [lg_entry_eq]
 generalize (lg_sl ([.ref (a 6), .int x1]) ++ List.replicate (2 - (lg_sl ([.ref (a 6), .int x1])).length) Slot.unset).toArray = ls at hl ⊢
 exact st_Ranking_ranked_laying (A := (pw_F 40 a s.heap.size)) ⟨B.exec, B.bytes, B.returns, hml, findClass_of_methodNamed B.named, atoms_spec (ws := w_Ranking_ranked) B.pre, B.notSynchronized, fun q hq => Or.inr hq⟩ ⟨hK, hI, fun k hk => Or.inl ⟨k, hk, rfl⟩⟩ x1 u ls hP hl h
set_option maxHeartbeats 4000000 in
set_option maxRecDepth 100000 in
theorem st_PI_order {p : Program} {l : Launch} {e : Env} {s : State} {m : MethodId} {args : Array Value} {below : List Frame} {meth : Method} {c : Code} {D : va_G} {a : Nat → Nat} {cA cZ : ClassId} {G : pG} {A : Nat → Prop} {Q : Int32 → pS → Prop} {X : Nat → pS → Prop} (C : pw_C p s m args meth c b_PI_order 2 R_PI (some .int) w_PI_order A) (K : pw_K s D 40 a (cT cA cZ) A) (EX : cw_Ex A s) (hL : px_L l) (htr : e.platform.stackTraces = false) (hE : ∀ (pc : Nat), ∀ x ∈ c.exceptionTable.toList, covers x pc = false) (x1 : Int32) (u : pS) (ls : Array Slot) (hP : va_P D vwCl (cw a cA cZ G u) s.heap) (hl : lv_has ls 2 [(0, .ref (a 0)), (1, .int x1)]) (h : wp_PI_order G x1 u Q X) : W p l e ({ frames := 8, cells := 1, slots := 6, locals := 124 } : Room) s m args below meth c s.heap [] 0 0 (px_Ei below args s D (cw a cA cZ G) (cT cA cZ) A Q X) (F0 m 0 ls []) := by
 obtain ⟨hx, hb, hr, hml, hown, hts, hlocks, hA⟩ := id C
 obtain ⟨hK, hI, hF⟩ := id K
 have hD : ∀ u, va_D A (cw a cA cZ G u) := fun u => cw_D hI hF
 have hz : ∀ oc t, px_T X (pw_B D (cw a cA cZ G) (cT cA cZ)) oc t → va_F A s t → (px_Qi Q X (pw_B D (cw a cA cZ G) (cT cA cZ)) A) args s oc t := fun oc t h1 h2 => ⟨Or.inr h1, h2⟩
 have hS : va_S A s.heap s.heap [] := va_S.rf
 have h : wp_PI_order G x1 u Q X := h
 refine lv_aload_n hx hb d_PI_order_0 rfl (lv_at hl 0 rfl) ?_
 refine lv_iload_n hx hb d_PI_order_1 rfl (lv_at hl 1 rfl) ?_
 refine cx_v (px_runV (As := [.int x1]) (rest := []) ⟨hx, hb, hml, hown, hts⟩ (ct_PI_needPiece l D a cA cZ G _ x1 u _ _ hL hI h) (pw_cwV 1 hts kw_643 kw_45 kw_640 kw_642 kw_13 (by decide +kernel) ⟨Nat.le_of_ble_eq_true rfl, Nat.le_of_ble_eq_true rfl⟩) ⟨cw_blindX, va_recv hK hP (ci := 0) (q0 := 0) rfl cw_at_0, fun U hU hW => ⟨rfl, ⟨by rw [hU], by rw [hU]; exact hP, va_K.moved hW.alike hK⟩, cw_Ex_call EX hS (pw_FA hS hF hA) hU hW⟩⟩ rfl rfl hl.1 rfl (lv_room (Nat.le_of_ble_eq_true rfl)) d_PI_order_2 ⟨Nat.le_of_ble_eq_true rfl, Nat.le_of_ble_eq_true rfl⟩) hS hF hA (hE _) hlocks hz (fun u1 H locs hP hS h => ?_)
 refine lv_aload_n hx hb d_PI_order_5 rfl (lv_at hl 0 rfl) ?_
 refine va_get (D := D) (ci := 0) (v := .ref (a 6)) (C := R_PI) (T := T_PI) (N := 12) hx hb hts in_PI hown hK hP 0 cw_at_0 rfl 6 (by decide) (hts _ (List.mem_cons_of_mem _ kw_318)) (fun _ h9 => h9) rfl d_PI_order_6 ?_
 refine lv_iload_n hx hb d_PI_order_9 rfl (lv_at hl 1 rfl) ?_
 refine cc_i (va_runU (As := [.int x1]) (rest := []) ⟨hx, hb, hml, hown, hts⟩ (ct_Ranking_ranked_laying l D a cA cZ G _ x1 u1 _ hI h) (pw_cwU (owner := "PictureInlays$Ranking") 1 hts kw_760 kw_50 kw_754 kw_756 kw_759 kw_755 rfl (by decide +kernel) ⟨Nat.le_of_ble_eq_true rfl, Nat.le_of_ble_eq_true rfl⟩) ⟨pw_blind, va_recv hK hP (ci := 6) (q0 := 6) rfl cw_at_6, fun U hU hW => ⟨rfl, by rw [hU], by rw [hU]; exact hP, va_K.moved hW.alike hK⟩⟩ rfl rfl hl.1 rfl (lv_room (Nat.le_of_ble_eq_true rfl)) d_PI_order_10 ⟨Nat.le_of_ble_eq_true rfl, Nat.le_of_ble_eq_true rfl⟩) hS hF hA (fun r3 u2 H locs hP hS h => ?_)
 exact px_mono (fun t h => px_ofMQ (fun _ _ h => h) h) (W.iret (Qc := px_Qi Q X (pw_B D (cw a cA cZ G) (cT cA cZ)) A) (v := r3) hx hb hr (fun t ht hW => ⟨Or.inl ⟨r3, u2, rfl, h, by rw [ht]; exact hP, va_K.moved hW.alike hK⟩, hS.F ht⟩) hS.2.2 d_PI_order_13 hlocks)
set_option maxHeartbeats 4000000 in
set_option maxRecDepth 100000 in
theorem ct_PI_order (l : Launch) (D : va_G) (a : Nat → Nat) (cA cZ : ClassId) (G : pG) (sz : Nat) (x1 : Int32) (u : pS) (Q : Int32 → pS → Prop) (X : Nat → pS → Prop) (hL : px_L l) (hI : pw_I 40 a) (h : wp_PI_order G x1 u Q X) : px_Met l y_PI_order w_PI_order ({ frames := 8, cells := 1, slots := 6, locals := 124 } : Room) (va_Pc [.ref (a 0), .int x1] (fun U => pw_pre D (cw a cA cZ G) (cT cA cZ) sz u U ∧ cw_Ex (pw_F 40 a sz) U)) (px_Qi Q X (pw_B D (cw a cA cZ G) (cT cA cZ)) (pw_F 40 a sz)) 0 0 1 6 (pw_F 40 a sz) := by
 refine px_ofW (cc := b_PI_order) (maxL := 2) (ret := (some .int)) (by decide) rfl ?_
 intro p e s m args below meth c s₁ B hml hE hv
 obtain ⟨rfl, ⟨hsz, hP, hK⟩, EX⟩ := hv
 subst hsz
 have hl := lv_entry ([.ref (a 0), .int x1]) (n := 2) (Nat.le_of_ble_eq_true rfl)
 rw [lg_entry_eq]
 generalize (lg_sl ([.ref (a 0), .int x1]) ++ List.replicate (2 - (lg_sl ([.ref (a 0), .int x1])).length) Slot.unset).toArray = ls at hl ⊢
 exact st_PI_order (A := (pw_F 40 a s.heap.size)) ⟨B.exec, B.bytes, B.returns, hml, findClass_of_methodNamed B.named, atoms_spec (ws := w_PI_order) B.pre, B.notSynchronized, fun q hq => Or.inr hq⟩ ⟨hK, hI, fun k hk => Or.inl ⟨k, hk, rfl⟩⟩ EX hL (hL e B.admits) (px_none hE) x1 u ls hP hl h
set_option maxHeartbeats 4000000 in
set_option maxRecDepth 100000 in
theorem st_Integer_compare {p : Program} {l : Launch} {e : Env} {s : State} {m : MethodId} {args : Array Value} {below : List Frame} {meth : Method} {c : Code} {D : va_G} {a : Nat → Nat} {cA cZ : ClassId} {G : pG} {A : Nat → Prop} {Q : Int32 → pS → Prop} (C : pw_C p s m args meth c b_Integer_compare 2 R_Integer (some .int) w_Integer_compare A) (K : pw_K s D 40 a (cT cA cZ) A) (x0 x1 : Int32) (u : pS) (ls : Array Slot) (hP : va_P D vwCl (cw a cA cZ G u) s.heap) (hl : lv_has ls 2 [(0, .int x0), (1, .int x1)]) (h : wp_Integer_compare G x0 x1 u Q) : W p l e ({ frames := 0, cells := 0, slots := 0, locals := 0 } : Room) s m args below meth c s.heap [] 0 0 (pw_Ei below args s D (cw a cA cZ G) (cT cA cZ) A Q) (F0 m 0 ls []) := by
 obtain ⟨hx, hb, hr, hml, hown, hts, hlocks, hA⟩ := id C
 obtain ⟨hK, hI, hF⟩ := id K
 have hD : ∀ u, va_D A (cw a cA cZ G u) := fun u => cw_D hI hF
 have hS : va_S A s.heap s.heap [] := va_S.rf
 have h : wp_Integer_compare G x0 x1 u Q := h
 refine lv_iload_n hx hb d_Integer_compare_0 rfl (lv_at hl 0 rfl) ?_
 refine lv_iload_n hx hb d_Integer_compare_1 rfl (lv_at hl 1 rfl) ?_
 refine lv_icmp_ge (tgt := 9) hx hb d_Integer_compare_2 (by decide) (fun c1 => ?_) (fun c1 => ?_)
 · have h := h.1 c1
   refine lv_iload_n hx hb d_Integer_compare_9 rfl (lv_at hl 0 rfl) ?_
   refine lv_iload_n hx hb d_Integer_compare_10 rfl (lv_at hl 1 rfl) ?_
   refine lv_icmp_ne (tgt := 18) hx hb d_Integer_compare_11 (by decide) (fun c2 => ?_) (fun c2 => ?_)
   · have h := h.2 c2
     refine lv_iconst (v := 1) hx hb d_Integer_compare_18 (by decide) ?_
     exact W.iret (v := 1) hx hb hr (fun t ht hW => ⟨⟨1, u, rfl, h, by rw [ht]; exact hP, va_K.moved hW.alike hK⟩, hS.F ht⟩) hS.2.2 d_Integer_compare_19 hlocks
   · have h := h.1 c2
     refine lv_iconst (v := 0) hx hb d_Integer_compare_14 (by decide) ?_
     refine lv_goto (tgt := 19) hx hb d_Integer_compare_15 (by decide) ?_
     exact W.iret (v := 0) hx hb hr (fun t ht hW => ⟨⟨0, u, rfl, h, by rw [ht]; exact hP, va_K.moved hW.alike hK⟩, hS.F ht⟩) hS.2.2 d_Integer_compare_19 hlocks
 · have h := h.2 c1
   refine lv_iconst (v := -1) hx hb d_Integer_compare_5 (by decide) ?_
   refine lv_goto (tgt := 19) hx hb d_Integer_compare_6 (by decide) ?_
   exact W.iret (v := (-1)) hx hb hr (fun t ht hW => ⟨⟨(-1), u, rfl, h, by rw [ht]; exact hP, va_K.moved hW.alike hK⟩, hS.F ht⟩) hS.2.2 d_Integer_compare_19 hlocks
set_option maxHeartbeats 4000000 in
set_option maxRecDepth 100000 in
theorem ct_Integer_compare (l : Launch) (D : va_G) (a : Nat → Nat) (cA cZ : ClassId) (G : pG) (sz : Nat) (x0 x1 : Int32) (u : pS) (Q : Int32 → pS → Prop) (hI : pw_I 40 a) (h : wp_Integer_compare G x0 x1 u Q) : Met l y_Integer_compare w_Integer_compare ({ frames := 0, cells := 0, slots := 0, locals := 0 } : Room) (va_Pc [.int x0, .int x1] (pw_pre D (cw a cA cZ G) (cT cA cZ) sz u)) (va_Qi (fun (r : Int32) (u : pS) => Q r u) (pw_B D (cw a cA cZ G) (cT cA cZ)) (pw_F 40 a sz)) 0 0 (pw_F 40 a sz) := by
 refine Met.ofW (cc := b_Integer_compare) (maxL := 2) (ret := (some .int)) (by decide) rfl ?_
 intro p e s m args below meth c s₁ B hml hv
 obtain ⟨rfl, hsz, hP, hK⟩ := hv
 subst hsz
 have hl := lv_entry ([.int x0, .int x1]) (n := 2) (Nat.le_of_ble_eq_true rfl)
 rw [lg_entry_eq]
 generalize (lg_sl ([.int x0, .int x1]) ++ List.replicate (2 - (lg_sl ([.int x0, .int x1])).length) Slot.unset).toArray = ls at hl ⊢
 exact st_Integer_compare (A := (pw_F 40 a s.heap.size)) ⟨B.exec, B.bytes, B.returns, hml, findClass_of_methodNamed B.named, atoms_spec (ws := w_Integer_compare) B.pre, B.notSynchronized, fun q hq => Or.inr hq⟩ ⟨hK, hI, fun k hk => Or.inl ⟨k, hk, rfl⟩⟩ x0 x1 u ls hP hl h
set_option maxHeartbeats 4000000 in
set_option maxRecDepth 100000 in
theorem st_Highest_compare {p : Program} {l : Launch} {e : Env} {s : State} {m : MethodId} {args : Array Value} {below : List Frame} {meth : Method} {c : Code} {D : va_G} {a : Nat → Nat} {cA cZ : ClassId} {G : pG} {A : Nat → Prop} {Q : Int32 → pS → Prop} (C : pw_C p s m args meth c b_Highest_compare 3 R_Highest (some .int) w_Highest_compare A) (K : pw_K s D 40 a (cT cA cZ) A) (x1 x2 : Int32) (u : pS) (ls : Array Slot) (hP : va_P D vwCl (cw a cA cZ G u) s.heap) (hl : lv_has ls 3 [(0, .ref (a 10)), (1, .int x1), (2, .int x2)]) (h : wp_Highest_compare G x1 x2 u Q) : W p l e ({ frames := 3, cells := 0, slots := 0, locals := 63 } : Room) s m args below meth c s.heap [] 0 0 (pw_Ei below args s D (cw a cA cZ G) (cT cA cZ) A Q) (F0 m 0 ls []) := by
 obtain ⟨hx, hb, hr, hml, hown, hts, hlocks, hA⟩ := id C
 obtain ⟨hK, hI, hF⟩ := id K
 have hD : ∀ u, va_D A (cw a cA cZ G u) := fun u => cw_D hI hF
 have hS : va_S A s.heap s.heap [] := va_S.rf
 have h : wp_Highest_compare G x1 x2 u Q := h
 refine lv_aload_n hx hb d_Highest_compare_0 rfl (lv_at hl 0 rfl) ?_
 refine va_get (D := D) (ci := 5) (v := .ref (a 4)) (C := R_Highest) (T := T_Highest) (N := 2) hx hb hts in_Highest hown hK hP 10 cw_at_10 rfl 1 (by decide) (hts _ (List.mem_cons_of_mem _ kw_279)) (fun _ h9 => h9) rfl d_Highest_compare_1 ?_
 refine lv_iload_n hx hb d_Highest_compare_4 rfl (lv_at hl 1 rfl) ?_
 refine cc_i (va_runV (As := [.int x1]) (rest := []) ⟨hx, hb, hml, hown, hts⟩ (ct_Pieces_rowsOf l D a cA cZ G _ x1 u _ hI h) (pw_cwV 1 hts kw_578 kw_49 kw_575 kw_576 kw_577 (by decide +kernel) ⟨Nat.le_of_ble_eq_true rfl, Nat.le_of_ble_eq_true rfl⟩) ⟨pw_blind, va_recv hK hP (ci := 7) (q0 := 4) rfl cw_at_4, fun U hU hW => ⟨rfl, by rw [hU], by rw [hU]; exact hP, va_K.moved hW.alike hK⟩⟩ rfl rfl hl.1 rfl (lv_room (Nat.le_of_ble_eq_true rfl)) d_Highest_compare_5 ⟨Nat.le_of_ble_eq_true rfl, Nat.le_of_ble_eq_true rfl⟩) hS hF hA (fun r2 u1 H locs hP hS h => ?_)
 refine lv_aload_n hx hb d_Highest_compare_8 rfl (lv_at hl 0 rfl) ?_
 refine va_get (D := D) (ci := 5) (v := .ref (a 4)) (C := R_Highest) (T := T_Highest) (N := 2) hx hb hts in_Highest hown hK hP 10 cw_at_10 rfl 1 (by decide) (hts _ (List.mem_cons_of_mem _ kw_279)) (fun _ h9 => h9) rfl d_Highest_compare_9 ?_
 refine lv_iload_n hx hb d_Highest_compare_12 rfl (lv_at hl 2 rfl) ?_
 refine cc_i (va_runV (As := [.int x2]) (rest := [.int r2]) ⟨hx, hb, hml, hown, hts⟩ (ct_Pieces_rowsOf l D a cA cZ G _ x2 u1 _ hI h) (pw_cwV 1 hts kw_578 kw_49 kw_575 kw_576 kw_577 (by decide +kernel) ⟨Nat.le_of_ble_eq_true rfl, Nat.le_of_ble_eq_true rfl⟩) ⟨pw_blind, va_recv hK hP (ci := 7) (q0 := 4) rfl cw_at_4, fun U hU hW => ⟨rfl, by rw [hU], by rw [hU]; exact hP, va_K.moved hW.alike hK⟩⟩ rfl rfl hl.1 rfl (lv_room (Nat.le_of_ble_eq_true rfl)) d_Highest_compare_13 ⟨Nat.le_of_ble_eq_true rfl, Nat.le_of_ble_eq_true rfl⟩) hS hF hA (fun r4 u3 H locs hP hS h => ?_)
 refine lv_icmp_eq (tgt := 39) hx hb d_Highest_compare_16 (by decide) (fun c5 => ?_) (fun c5 => ?_)
 · have h := h.1 c5
   refine lv_aload_n hx hb d_Highest_compare_39 rfl (lv_at hl 0 rfl) ?_
   refine va_get (D := D) (ci := 5) (v := .ref (a 4)) (C := R_Highest) (T := T_Highest) (N := 2) hx hb hts in_Highest hown hK hP 10 cw_at_10 rfl 1 (by decide) (hts _ (List.mem_cons_of_mem _ kw_279)) (fun _ h9 => h9) rfl d_Highest_compare_40 ?_
   refine lv_iload_n hx hb d_Highest_compare_43 rfl (lv_at hl 2 rfl) ?_
   refine cc_i (va_runV (As := [.int x2]) (rest := []) ⟨hx, hb, hml, hown, hts⟩ (ct_Pieces_columnsOf l D a cA cZ G _ x2 u3 _ hI h) (pw_cwV 1 hts kw_587 kw_49 kw_584 kw_585 kw_586 (by decide +kernel) ⟨Nat.le_of_ble_eq_true rfl, Nat.le_of_ble_eq_true rfl⟩) ⟨pw_blind, va_recv hK hP (ci := 7) (q0 := 4) rfl cw_at_4, fun U hU hW => ⟨rfl, by rw [hU], by rw [hU]; exact hP, va_K.moved hW.alike hK⟩⟩ rfl rfl hl.1 rfl (lv_room (Nat.le_of_ble_eq_true rfl)) d_Highest_compare_44 ⟨Nat.le_of_ble_eq_true rfl, Nat.le_of_ble_eq_true rfl⟩) hS hF hA (fun r7 u6 H locs hP hS h => ?_)
   refine lv_aload_n hx hb d_Highest_compare_47 rfl (lv_at hl 0 rfl) ?_
   refine va_get (D := D) (ci := 5) (v := .ref (a 4)) (C := R_Highest) (T := T_Highest) (N := 2) hx hb hts in_Highest hown hK hP 10 cw_at_10 rfl 1 (by decide) (hts _ (List.mem_cons_of_mem _ kw_279)) (fun _ h9 => h9) rfl d_Highest_compare_48 ?_
   refine lv_iload_n hx hb d_Highest_compare_51 rfl (lv_at hl 1 rfl) ?_
   refine cc_i (va_runV (As := [.int x1]) (rest := [.int r7]) ⟨hx, hb, hml, hown, hts⟩ (ct_Pieces_columnsOf l D a cA cZ G _ x1 u6 _ hI h) (pw_cwV 1 hts kw_587 kw_49 kw_584 kw_585 kw_586 (by decide +kernel) ⟨Nat.le_of_ble_eq_true rfl, Nat.le_of_ble_eq_true rfl⟩) ⟨pw_blind, va_recv hK hP (ci := 7) (q0 := 4) rfl cw_at_4, fun U hU hW => ⟨rfl, by rw [hU], by rw [hU]; exact hP, va_K.moved hW.alike hK⟩⟩ rfl rfl hl.1 rfl (lv_room (Nat.le_of_ble_eq_true rfl)) d_Highest_compare_52 ⟨Nat.le_of_ble_eq_true rfl, Nat.le_of_ble_eq_true rfl⟩) hS hF hA (fun r9 u8 H locs hP hS h => ?_)
   refine cc_i (va_runS (As := [.int r7, .int r9]) (rest := []) ⟨hx, hb, hml, hown, hts⟩ (ct_Integer_compare l D a cA cZ G _ r7 r9 u8 _ hI h) (pw_cwS 2 hts kw_571 kw_64 kw_583 kw_570 (by decide +kernel) ⟨Nat.le_of_ble_eq_true rfl, Nat.le_of_ble_eq_true rfl⟩) ⟨pw_blind, fun U hU hW => ⟨rfl, by rw [hU], by rw [hU]; exact hP, va_K.moved hW.alike hK⟩⟩ rfl rfl hl.1 rfl (lv_room (Nat.le_of_ble_eq_true rfl)) d_Highest_compare_55 ⟨Nat.le_of_ble_eq_true rfl, Nat.le_of_ble_eq_true rfl⟩) hS hF hA (fun r11 u10 H locs hP hS h => ?_)
   exact W.iret (v := r11) hx hb hr (fun t ht hW => ⟨⟨r11, u10, rfl, h, by rw [ht]; exact hP, va_K.moved hW.alike hK⟩, hS.F ht⟩) hS.2.2 d_Highest_compare_58 hlocks
 · have h := h.2 c5
   refine lv_aload_n hx hb d_Highest_compare_19 rfl (lv_at hl 0 rfl) ?_
   refine va_get (D := D) (ci := 5) (v := .ref (a 4)) (C := R_Highest) (T := T_Highest) (N := 2) hx hb hts in_Highest hown hK hP 10 cw_at_10 rfl 1 (by decide) (hts _ (List.mem_cons_of_mem _ kw_279)) (fun _ h9 => h9) rfl d_Highest_compare_20 ?_
   refine lv_iload_n hx hb d_Highest_compare_23 rfl (lv_at hl 2 rfl) ?_
   refine cc_i (va_runV (As := [.int x2]) (rest := []) ⟨hx, hb, hml, hown, hts⟩ (ct_Pieces_rowsOf l D a cA cZ G _ x2 u3 _ hI h) (pw_cwV 1 hts kw_578 kw_49 kw_575 kw_576 kw_577 (by decide +kernel) ⟨Nat.le_of_ble_eq_true rfl, Nat.le_of_ble_eq_true rfl⟩) ⟨pw_blind, va_recv hK hP (ci := 7) (q0 := 4) rfl cw_at_4, fun U hU hW => ⟨rfl, by rw [hU], by rw [hU]; exact hP, va_K.moved hW.alike hK⟩⟩ rfl rfl hl.1 rfl (lv_room (Nat.le_of_ble_eq_true rfl)) d_Highest_compare_24 ⟨Nat.le_of_ble_eq_true rfl, Nat.le_of_ble_eq_true rfl⟩) hS hF hA (fun r13 u12 H locs hP hS h => ?_)
   refine lv_aload_n hx hb d_Highest_compare_27 rfl (lv_at hl 0 rfl) ?_
   refine va_get (D := D) (ci := 5) (v := .ref (a 4)) (C := R_Highest) (T := T_Highest) (N := 2) hx hb hts in_Highest hown hK hP 10 cw_at_10 rfl 1 (by decide) (hts _ (List.mem_cons_of_mem _ kw_279)) (fun _ h9 => h9) rfl d_Highest_compare_28 ?_
   refine lv_iload_n hx hb d_Highest_compare_31 rfl (lv_at hl 1 rfl) ?_
   refine cc_i (va_runV (As := [.int x1]) (rest := [.int r13]) ⟨hx, hb, hml, hown, hts⟩ (ct_Pieces_rowsOf l D a cA cZ G _ x1 u12 _ hI h) (pw_cwV 1 hts kw_578 kw_49 kw_575 kw_576 kw_577 (by decide +kernel) ⟨Nat.le_of_ble_eq_true rfl, Nat.le_of_ble_eq_true rfl⟩) ⟨pw_blind, va_recv hK hP (ci := 7) (q0 := 4) rfl cw_at_4, fun U hU hW => ⟨rfl, by rw [hU], by rw [hU]; exact hP, va_K.moved hW.alike hK⟩⟩ rfl rfl hl.1 rfl (lv_room (Nat.le_of_ble_eq_true rfl)) d_Highest_compare_32 ⟨Nat.le_of_ble_eq_true rfl, Nat.le_of_ble_eq_true rfl⟩) hS hF hA (fun r15 u14 H locs hP hS h => ?_)
   refine cc_i (va_runS (As := [.int r13, .int r15]) (rest := []) ⟨hx, hb, hml, hown, hts⟩ (ct_Integer_compare l D a cA cZ G _ r13 r15 u14 _ hI h) (pw_cwS 2 hts kw_571 kw_64 kw_583 kw_570 (by decide +kernel) ⟨Nat.le_of_ble_eq_true rfl, Nat.le_of_ble_eq_true rfl⟩) ⟨pw_blind, fun U hU hW => ⟨rfl, by rw [hU], by rw [hU]; exact hP, va_K.moved hW.alike hK⟩⟩ rfl rfl hl.1 rfl (lv_room (Nat.le_of_ble_eq_true rfl)) d_Highest_compare_35 ⟨Nat.le_of_ble_eq_true rfl, Nat.le_of_ble_eq_true rfl⟩) hS hF hA (fun r17 u16 H locs hP hS h => ?_)
   exact W.iret (v := r17) hx hb hr (fun t ht hW => ⟨⟨r17, u16, rfl, h, by rw [ht]; exact hP, va_K.moved hW.alike hK⟩, hS.F ht⟩) hS.2.2 d_Highest_compare_38 hlocks
set_option maxHeartbeats 4000000 in
set_option maxRecDepth 100000 in
theorem ct_Highest_compare (l : Launch) (D : va_G) (a : Nat → Nat) (cA cZ : ClassId) (G : pG) (sz : Nat) (x1 x2 : Int32) (u : pS) (Q : Int32 → pS → Prop) (hI : pw_I 40 a) (h : wp_Highest_compare G x1 x2 u Q) : Met l y_Highest_compare w_Highest_compare ({ frames := 3, cells := 0, slots := 0, locals := 63 } : Room) (va_Pc [.ref (a 10), .int x1, .int x2] (pw_pre D (cw a cA cZ G) (cT cA cZ) sz u)) (va_Qi (fun (r : Int32) (u : pS) => Q r u) (pw_B D (cw a cA cZ G) (cT cA cZ)) (pw_F 40 a sz)) 0 0 (pw_F 40 a sz) := by
 refine Met.ofW (cc := b_Highest_compare) (maxL := 3) (ret := (some .int)) (by decide) rfl ?_
 intro p e s m args below meth c s₁ B hml hv
 obtain ⟨rfl, hsz, hP, hK⟩ := hv
 subst hsz
 have hl := lv_entry ([.ref (a 10), .int x1, .int x2]) (n := 3) (Nat.le_of_ble_eq_true rfl)
 rw [lg_entry_eq]
 generalize (lg_sl ([.ref (a 10), .int x1, .int x2]) ++ List.replicate (3 - (lg_sl ([.ref (a 10), .int x1, .int x2])).length) Slot.unset).toArray = ls at hl ⊢
 exact st_Highest_compare (A := (pw_F 40 a s.heap.size)) ⟨B.exec, B.bytes, B.returns, hml, findClass_of_methodNamed B.named, atoms_spec (ws := w_Highest_compare) B.pre, B.notSynchronized, fun q hq => Or.inr hq⟩ ⟨hK, hI, fun k hk => Or.inl ⟨k, hk, rfl⟩⟩ x1 x2 u ls hP hl h
set_option maxHeartbeats 4000000 in
set_option maxRecDepth 100000 in
theorem cp_Ranking_rank_highest_18 {p : Program} {l : Launch} {e : Env} {s : State} {m : MethodId} {args : Array Value} {below : List Frame} {meth : Method} {c : Code} {D : va_G} {a : Nat → Nat} {cA cZ : ClassId} {G : pG} {A : Nat → Prop} {Q : pS → Prop} (C : pw_C p s m args meth c b_Ranking_rank 4 R_Ranking none w_Ranking_rank A) (K : pw_K s D 40 a (cT cA cZ) A) (EX : cw_Ex A s) {k2 : Int32 → Int32 → pS → Prop} (hk2 : ∀ (x1 x2 : Int32) (u : pS) (H : Heap) (locs : List Loc) (ls : Array Slot), va_P D vwCl (cw a cA cZ G u) H → va_S A s.heap H locs → lv_has ls 4 [(0, .ref (a 10)), (1, .int x1), (2, .int x2)] → k2 x1 x2 u → W p l e ({ frames := 4, cells := 0, slots := 0, locals := 85 } : Room) s m args below meth c H locs 0 0 (pw_Ev below args s D (cw a cA cZ G) (cT cA cZ) A Q) (F0 m 2 ls [])) : ∀ (n : Nat), ∀ (x1 x2 x3 : Int32) (u : pS) (H : Heap) (locs : List Loc) (ls : Array Slot), va_P D vwCl (cw a cA cZ G u) H → va_S A s.heap H locs → lv_has ls 4 [(0, .ref (a 10)), (1, .int x1), (2, .int x2), (3, .int x3)] → lp_Ranking_rank_highest_18 G Q k2 n x1 x2 x3 u → W p l e ({ frames := 4, cells := 0, slots := 0, locals := 85 } : Room) s m args below meth c H locs 0 0 (pw_Ev below args s D (cw a cA cZ G) (cT cA cZ) A Q) (F0 m 18 ls []) := by
 obtain ⟨hx, hb, hr, hml, hown, hts, hlocks, hA⟩ := id C
 obtain ⟨hK, hI, hF⟩ := id K
 have hD : ∀ u, va_D A (cw a cA cZ G u) := fun u => cw_D hI hF
 intro n
 induction n with
 | zero => intro x1 x2 x3 u H locs ls hP hS hl h; exact h.elim
 | succ n ih =>
   intro x1 x2 x3 u H locs ls hP hS hl h
   refine lv_iload_n hx hb d_Ranking_rank_18 rfl (lv_at hl 3 rfl) ?_
   refine lv_if_le (tgt := 58) hx hb d_Ranking_rank_19 (by decide) (fun c3 => ?_) (fun c3 => ?_)
   · have h := h.1 c3
     refine lv_aload_n hx hb d_Ranking_rank_58 rfl (lv_at hl 0 rfl) ?_
     refine va_get (D := D) (ci := 5) (v := .ref (a 31)) (C := R_Highest) (T := T_Highest) (N := 2) hx hb hts in_Highest hown hK hP 10 cw_at_10 rfl 0 (by decide) (hts _ (List.mem_cons_of_mem _ kw_197)) (fun _ h9 => h9) rfl d_Ranking_rank_59 ?_
     refine lv_iload_n hx hb d_Ranking_rank_62 rfl (lv_at hl 3 rfl) ?_
     refine lv_iload_n hx hb d_Ranking_rank_63 rfl (lv_at hl 2 rfl) ?_
     refine va_iast hx hb hK hP (hD _) hS 31 0 cw_at_31 rfl h.1 d_Ranking_rank_64 (fun H locs hP _ hS => ?_)
     obtain ⟨u4, eu4⟩ : ∃ z, z = pw_sa u 17 (upd (u.2 17) x3.toNatClampNeg x2) := ⟨_, rfl⟩
     rw [cw_sa_31, ← eu4] at hP
     have h := h.2 u4 eu4
     obtain ⟨t5, et5⟩ : ∃ y : Int32, y = x2 + 1 := ⟨_, rfl⟩
     have h := h t5 et5
     refine lv_iinc (v := t5) (lv' := [(2, .int t5), (0, .ref (a 10)), (1, .int x1), (3, .int x3)]) hx hb d_Ranking_rank_65 hl (k := 2) rfl (by rw [et5]; rfl) (by decide) rfl (fun ls hl => ?_)
     refine lv_goto (tgt := 2) hx hb d_Ranking_rank_68 (by decide) ?_
     exact hk2 x1 t5 u4 _ _ _ hP hS (lv_sub hl [1, 2, 0] rfl) h
   · have h := h.2 c3
     refine lv_aload_n hx hb d_Ranking_rank_22 rfl (lv_at hl 0 rfl) ?_
     refine lv_iload_n hx hb d_Ranking_rank_23 rfl (lv_at hl 2 rfl) ?_
     refine lv_aload_n hx hb d_Ranking_rank_24 rfl (lv_at hl 0 rfl) ?_
     refine va_get (D := D) (ci := 5) (v := .ref (a 31)) (C := R_Highest) (T := T_Highest) (N := 2) hx hb hts in_Highest hown hK hP 10 cw_at_10 rfl 0 (by decide) (hts _ (List.mem_cons_of_mem _ kw_197)) (fun _ h9 => h9) rfl d_Ranking_rank_25 ?_
     refine lv_iload_n hx hb d_Ranking_rank_28 rfl (lv_at hl 3 rfl) ?_
     refine lv_iconst (v := 1) hx hb d_Ranking_rank_29 (by decide) ?_
     refine lv_isub hx hb d_Ranking_rank_30 ?_
     refine va_iald hx hb hK hP 31 0 cw_at_31 rfl h.1 d_Ranking_rank_31 ?_
     have h := h.2
     refine cc_i (va_runU (As := [.int x2, .int (u.2 17 (x3 - 1).toNatClampNeg)]) (rest := []) ⟨hx, hb, hml, hown, hts⟩ (ct_Highest_compare l D a cA cZ G _ x2 (u.2 17 (x3 - 1).toNatClampNeg) u _ hI h) (pw_cwO (owner := "PictureInlays$Ranking") 2 hts kw_574 kw_56 kw_559 kw_561 kw_572 kw_573 (EX.1.1.2 _ (by decide)) (by decide +kernel) ⟨Nat.le_of_ble_eq_true rfl, Nat.le_of_ble_eq_true rfl⟩) ⟨pw_blind, va_recv hK hP (ci := 5) (q0 := 10) rfl cw_at_10, fun U hU hW => ⟨rfl, by rw [hU], by rw [hU]; exact hP, va_K.moved hW.alike hK⟩⟩ rfl rfl hl.1 rfl (lv_room (Nat.le_of_ble_eq_true rfl)) d_Ranking_rank_32 ⟨Nat.le_of_ble_eq_true rfl, Nat.le_of_ble_eq_true rfl⟩) hS hF hA (fun r7 u6 H locs hP hS h => ?_)
     refine lv_if_ge (tgt := 58) hx hb d_Ranking_rank_35 (by decide) (fun c8 => ?_) (fun c8 => ?_)
     · have h := h.1 c8
       refine lv_aload_n hx hb d_Ranking_rank_58 rfl (lv_at hl 0 rfl) ?_
       refine va_get (D := D) (ci := 5) (v := .ref (a 31)) (C := R_Highest) (T := T_Highest) (N := 2) hx hb hts in_Highest hown hK hP 10 cw_at_10 rfl 0 (by decide) (hts _ (List.mem_cons_of_mem _ kw_197)) (fun _ h9 => h9) rfl d_Ranking_rank_59 ?_
       refine lv_iload_n hx hb d_Ranking_rank_62 rfl (lv_at hl 3 rfl) ?_
       refine lv_iload_n hx hb d_Ranking_rank_63 rfl (lv_at hl 2 rfl) ?_
       refine va_iast hx hb hK hP (hD _) hS 31 0 cw_at_31 rfl h.1 d_Ranking_rank_64 (fun H locs hP _ hS => ?_)
       obtain ⟨u9, eu9⟩ : ∃ z, z = pw_sa u6 17 (upd (u6.2 17) x3.toNatClampNeg x2) := ⟨_, rfl⟩
       rw [cw_sa_31, ← eu9] at hP
       have h := h.2 u9 eu9
       obtain ⟨t10, et10⟩ : ∃ y : Int32, y = x2 + 1 := ⟨_, rfl⟩
       have h := h t10 et10
       refine lv_iinc (v := t10) (lv' := [(2, .int t10), (0, .ref (a 10)), (1, .int x1), (3, .int x3)]) hx hb d_Ranking_rank_65 hl (k := 2) rfl (by rw [et10]; rfl) (by decide) rfl (fun ls hl => ?_)
       refine lv_goto (tgt := 2) hx hb d_Ranking_rank_68 (by decide) ?_
       exact hk2 x1 t10 u9 _ _ _ hP hS (lv_sub hl [1, 2, 0] rfl) h
     · have h := h.2 c8
       refine lv_aload_n hx hb d_Ranking_rank_38 rfl (lv_at hl 0 rfl) ?_
       refine va_get (D := D) (ci := 5) (v := .ref (a 31)) (C := R_Highest) (T := T_Highest) (N := 2) hx hb hts in_Highest hown hK hP 10 cw_at_10 rfl 0 (by decide) (hts _ (List.mem_cons_of_mem _ kw_197)) (fun _ h9 => h9) rfl d_Ranking_rank_39 ?_
       refine lv_iload_n hx hb d_Ranking_rank_42 rfl (lv_at hl 3 rfl) ?_
       refine lv_aload_n hx hb d_Ranking_rank_43 rfl (lv_at hl 0 rfl) ?_
       refine va_get (D := D) (ci := 5) (v := .ref (a 31)) (C := R_Highest) (T := T_Highest) (N := 2) hx hb hts in_Highest hown hK hP 10 cw_at_10 rfl 0 (by decide) (hts _ (List.mem_cons_of_mem _ kw_197)) (fun _ h9 => h9) rfl d_Ranking_rank_44 ?_
       refine lv_iload_n hx hb d_Ranking_rank_47 rfl (lv_at hl 3 rfl) ?_
       refine lv_iconst (v := 1) hx hb d_Ranking_rank_48 (by decide) ?_
       refine lv_isub hx hb d_Ranking_rank_49 ?_
       refine va_iald hx hb hK hP 31 0 cw_at_31 rfl h.1 d_Ranking_rank_50 ?_
       have h := h.2
       refine va_iast hx hb hK hP (hD _) hS 31 0 cw_at_31 rfl h.1 d_Ranking_rank_51 (fun H locs hP _ hS => ?_)
       obtain ⟨u11, eu11⟩ : ∃ z, z = pw_sa u6 17 (upd (u6.2 17) x3.toNatClampNeg (u6.2 17 (x3 - 1).toNatClampNeg)) := ⟨_, rfl⟩
       rw [cw_sa_31, ← eu11] at hP
       have h := h.2 u11 eu11
       obtain ⟨t12, et12⟩ : ∃ y : Int32, y = x3 + (-1) := ⟨_, rfl⟩
       have h := h t12 et12
       refine lv_iinc (v := t12) (lv' := [(3, .int t12), (0, .ref (a 10)), (1, .int x1), (2, .int x2)]) hx hb d_Ranking_rank_52 hl (k := 3) rfl (by rw [et12]; rfl) (by decide) rfl (fun ls hl => ?_)
       refine lv_goto (tgt := 18) hx hb d_Ranking_rank_55 (by decide) ?_
       exact ih x1 x2 t12 u11 _ _ _ hP hS (lv_sub hl [1, 2, 3, 0] rfl) h
set_option maxHeartbeats 4000000 in
set_option maxRecDepth 100000 in
theorem cp_Ranking_rank_highest_2 {p : Program} {l : Launch} {e : Env} {s : State} {m : MethodId} {args : Array Value} {below : List Frame} {meth : Method} {c : Code} {D : va_G} {a : Nat → Nat} {cA cZ : ClassId} {G : pG} {A : Nat → Prop} {Q : pS → Prop} (C : pw_C p s m args meth c b_Ranking_rank 4 R_Ranking none w_Ranking_rank A) (K : pw_K s D 40 a (cT cA cZ) A) (EX : cw_Ex A s) : ∀ (n : Nat), ∀ (x1 x2 : Int32) (u : pS) (H : Heap) (locs : List Loc) (ls : Array Slot), va_P D vwCl (cw a cA cZ G u) H → va_S A s.heap H locs → lv_has ls 4 [(0, .ref (a 10)), (1, .int x1), (2, .int x2)] → lp_Ranking_rank_highest_2 G Q n x1 x2 u → W p l e ({ frames := 4, cells := 0, slots := 0, locals := 85 } : Room) s m args below meth c H locs 0 0 (pw_Ev below args s D (cw a cA cZ G) (cT cA cZ) A Q) (F0 m 2 ls []) := by
 obtain ⟨hx, hb, hr, hml, hown, hts, hlocks, hA⟩ := id C
 obtain ⟨hK, hI, hF⟩ := id K
 have hD : ∀ u, va_D A (cw a cA cZ G u) := fun u => cw_D hI hF
 intro n
 induction n with
 | zero => intro x1 x2 u H locs ls hP hS hl h; exact h.elim
 | succ n ih =>
   intro x1 x2 u H locs ls hP hS hl h
   refine lv_iload_n hx hb d_Ranking_rank_2 rfl (lv_at hl 2 rfl) ?_
   refine lv_iload_n hx hb d_Ranking_rank_3 rfl (lv_at hl 1 rfl) ?_
   refine lv_icmp_ge (tgt := 71) hx hb d_Ranking_rank_4 (by decide) (fun c1 => ?_) (fun c1 => ?_)
   · have h := h.1 c1
     exact W.vret hx hb hr (fun t ht hW => ⟨⟨u, rfl, h, by rw [ht]; exact hP, va_K.moved hW.alike hK⟩, hS.F ht⟩) hS.2.2 d_Ranking_rank_71 hlocks
   · have h := h.2 c1
     refine lv_iload_n hx hb d_Ranking_rank_7 rfl (lv_at hl 2 rfl) ?_
     refine lv_aload_n hx hb d_Ranking_rank_8 rfl (lv_at hl 0 rfl) ?_
     refine va_get (D := D) (ci := 5) (v := .ref (a 31)) (C := R_Highest) (T := T_Highest) (N := 2) hx hb hts in_Highest hown hK hP 10 cw_at_10 rfl 0 (by decide) (hts _ (List.mem_cons_of_mem _ kw_197)) (fun _ h9 => h9) rfl d_Ranking_rank_9 ?_
     refine va_alen (v := nI (G.1 31)) hx hb hK hP 31 0 cw_at_31 rfl rfl d_Ranking_rank_12 ?_
     refine lv_icmp_ge (tgt := 71) hx hb d_Ranking_rank_13 (by decide) (fun c2 => ?_) (fun c2 => ?_)
     · have h := h.1 c2
       exact W.vret hx hb hr (fun t ht hW => ⟨⟨u, rfl, h, by rw [ht]; exact hP, va_K.moved hW.alike hK⟩, hS.F ht⟩) hS.2.2 d_Ranking_rank_71 hlocks
     · have h := h.2 c2
       refine lv_iload_n hx hb d_Ranking_rank_16 rfl (lv_at hl 2 rfl) ?_
       refine lv_istore_n (lv' := [(3, .int x2), (0, .ref (a 10)), (1, .int x1), (2, .int x2)]) hx hb d_Ranking_rank_17 rfl hl (by decide) rfl (fun ls hl => ?_)
       obtain ⟨n1, h⟩ := h
       exact cp_Ranking_rank_highest_18 C K EX ih n1 x1 x2 x2 u _ _ _ hP hS (lv_sub hl [1, 2, 3, 0] rfl) h
set_option maxHeartbeats 4000000 in
set_option maxRecDepth 100000 in
theorem st_Ranking_rank_highest {p : Program} {l : Launch} {e : Env} {s : State} {m : MethodId} {args : Array Value} {below : List Frame} {meth : Method} {c : Code} {D : va_G} {a : Nat → Nat} {cA cZ : ClassId} {G : pG} {A : Nat → Prop} {Q : pS → Prop} (C : pw_C p s m args meth c b_Ranking_rank 4 R_Ranking none w_Ranking_rank A) (K : pw_K s D 40 a (cT cA cZ) A) (EX : cw_Ex A s) (x1 : Int32) (u : pS) (ls : Array Slot) (hP : va_P D vwCl (cw a cA cZ G u) s.heap) (hl : lv_has ls 4 [(0, .ref (a 10)), (1, .int x1)]) (h : wp_Ranking_rank_highest G x1 u Q) : W p l e ({ frames := 4, cells := 0, slots := 0, locals := 85 } : Room) s m args below meth c s.heap [] 0 0 (pw_Ev below args s D (cw a cA cZ G) (cT cA cZ) A Q) (F0 m 0 ls []) := by
 obtain ⟨hx, hb, hr, hml, hown, hts, hlocks, hA⟩ := id C
 obtain ⟨hK, hI, hF⟩ := id K
 have hD : ∀ u, va_D A (cw a cA cZ G u) := fun u => cw_D hI hF
 have hS : va_S A s.heap s.heap [] := va_S.rf
 have h : wp_Ranking_rank_highest G x1 u Q := h
 refine lv_iconst (v := 0) hx hb d_Ranking_rank_0 (by decide) ?_
 refine lv_istore_n (lv' := [(2, .int 0), (0, .ref (a 10)), (1, .int x1)]) hx hb d_Ranking_rank_1 rfl hl (by decide) rfl (fun ls hl => ?_)
 obtain ⟨n1, h⟩ := h
 exact cp_Ranking_rank_highest_2 C K EX n1 x1 0 u _ _ _ hP hS (lv_sub hl [1, 2, 0] rfl) h
set_option maxHeartbeats 4000000 in
set_option maxRecDepth 100000 in
theorem ct_Ranking_rank_highest (l : Launch) (D : va_G) (a : Nat → Nat) (cA cZ : ClassId) (G : pG) (sz : Nat) (x1 : Int32) (u : pS) (Q : pS → Prop) (hI : pw_I 40 a) (h : wp_Ranking_rank_highest G x1 u Q) : Met l y_Ranking_rank w_Ranking_rank ({ frames := 4, cells := 0, slots := 0, locals := 85 } : Room) (va_Pc [.ref (a 10), .int x1] (fun U => pw_pre D (cw a cA cZ G) (cT cA cZ) sz u U ∧ cw_Ex (pw_F 40 a sz) U)) (va_Qv (fun (u : pS) => Q u) (pw_B D (cw a cA cZ G) (cT cA cZ)) (pw_F 40 a sz)) 0 0 (pw_F 40 a sz) := by
 refine Met.ofW (cc := b_Ranking_rank) (maxL := 4) (ret := none) (by decide) rfl ?_
 intro p e s m args below meth c s₁ B hml hv
 obtain ⟨rfl, ⟨hsz, hP, hK⟩, EX⟩ := hv
 subst hsz
 have hl := lv_entry ([.ref (a 10), .int x1]) (n := 4) (Nat.le_of_ble_eq_true rfl)
 rw [lg_entry_eq]
 generalize (lg_sl ([.ref (a 10), .int x1]) ++ List.replicate (4 - (lg_sl ([.ref (a 10), .int x1])).length) Slot.unset).toArray = ls at hl ⊢
 exact st_Ranking_rank_highest (A := (pw_F 40 a s.heap.size)) ⟨B.exec, B.bytes, B.returns, hml, findClass_of_methodNamed B.named, atoms_spec (ws := w_Ranking_rank) B.pre, B.notSynchronized, fun q hq => Or.inr hq⟩ ⟨hK, hI, fun k hk => Or.inl ⟨k, hk, rfl⟩⟩ EX x1 u ls hP hl h
set_option maxHeartbeats 4000000 in
set_option maxRecDepth 100000 in
theorem st_Ranking_ranked_highest {p : Program} {l : Launch} {e : Env} {s : State} {m : MethodId} {args : Array Value} {below : List Frame} {meth : Method} {c : Code} {D : va_G} {a : Nat → Nat} {cA cZ : ClassId} {G : pG} {A : Nat → Prop} {Q : Int32 → pS → Prop} (C : pw_C p s m args meth c b_Ranking_ranked 2 R_Ranking (some .int) w_Ranking_ranked A) (K : pw_K s D 40 a (cT cA cZ) A) (x1 : Int32) (u : pS) (ls : Array Slot) (hP : va_P D vwCl (cw a cA cZ G u) s.heap) (hl : lv_has ls 2 [(0, .ref (a 10)), (1, .int x1)]) (h : wp_Ranking_ranked_highest G x1 u Q) : W p l e ({ frames := 0, cells := 0, slots := 0, locals := 0 } : Room) s m args below meth c s.heap [] 0 0 (pw_Ei below args s D (cw a cA cZ G) (cT cA cZ) A Q) (F0 m 0 ls []) := by
 obtain ⟨hx, hb, hr, hml, hown, hts, hlocks, hA⟩ := id C
 obtain ⟨hK, hI, hF⟩ := id K
 have hD : ∀ u, va_D A (cw a cA cZ G u) := fun u => cw_D hI hF
 have hS : va_S A s.heap s.heap [] := va_S.rf
 have h : wp_Ranking_ranked_highest G x1 u Q := h
 refine lv_aload_n hx hb d_Ranking_ranked_0 rfl (lv_at hl 0 rfl) ?_
 refine va_get (D := D) (ci := 5) (v := .ref (a 31)) (C := R_Highest) (T := T_Highest) (N := 2) hx hb hts in_Highest hown hK hP 10 cw_at_10 rfl 0 (by decide) (hts _ (List.mem_cons_of_mem _ kw_197)) (fun _ h9 => h9) rfl d_Ranking_ranked_1 ?_
 refine lv_iload_n hx hb d_Ranking_ranked_4 rfl (lv_at hl 1 rfl) ?_
 refine va_iald hx hb hK hP 31 0 cw_at_31 rfl h.1 d_Ranking_ranked_5 ?_
 have h := h.2
 exact W.iret (v := (u.2 17 x1.toNatClampNeg)) hx hb hr (fun t ht hW => ⟨⟨(u.2 17 x1.toNatClampNeg), u, rfl, h, by rw [ht]; exact hP, va_K.moved hW.alike hK⟩, hS.F ht⟩) hS.2.2 d_Ranking_ranked_6 hlocks
set_option maxHeartbeats 4000000 in
set_option maxRecDepth 100000 in
theorem ct_Ranking_ranked_highest (l : Launch) (D : va_G) (a : Nat → Nat) (cA cZ : ClassId) (G : pG) (sz : Nat) (x1 : Int32) (u : pS) (Q : Int32 → pS → Prop) (hI : pw_I 40 a) (h : wp_Ranking_ranked_highest G x1 u Q) : Met l y_Ranking_ranked w_Ranking_ranked ({ frames := 0, cells := 0, slots := 0, locals := 0 } : Room) (va_Pc [.ref (a 10), .int x1] (pw_pre D (cw a cA cZ G) (cT cA cZ) sz u)) (va_Qi (fun (r : Int32) (u : pS) => Q r u) (pw_B D (cw a cA cZ G) (cT cA cZ)) (pw_F 40 a sz)) 0 0 (pw_F 40 a sz) := by
 refine Met.ofW (cc := b_Ranking_ranked) (maxL := 2) (ret := (some .int)) (by decide) rfl ?_
 intro p e s m args below meth c s₁ B hml hv
 obtain ⟨rfl, hsz, hP, hK⟩ := hv
 subst hsz
 have hl := lv_entry ([.ref (a 10), .int x1]) (n := 2) (Nat.le_of_ble_eq_true rfl)
 rw [lg_entry_eq]
 generalize (lg_sl ([.ref (a 10), .int x1]) ++ List.replicate (2 - (lg_sl ([.ref (a 10), .int x1])).length) Slot.unset).toArray = ls at hl ⊢
 exact st_Ranking_ranked_highest (A := (pw_F 40 a s.heap.size)) ⟨B.exec, B.bytes, B.returns, hml, findClass_of_methodNamed B.named, atoms_spec (ws := w_Ranking_ranked) B.pre, B.notSynchronized, fun q hq => Or.inr hq⟩ ⟨hK, hI, fun k hk => Or.inl ⟨k, hk, rfl⟩⟩ x1 u ls hP hl h
set_option maxHeartbeats 4000000 in
set_option maxRecDepth 100000 in
theorem st_Sheet_newRow {p : Program} {l : Launch} {e : Env} {s : State} {m : MethodId} {args : Array Value} {below : List Frame} {meth : Method} {c : Code} {D : va_G} {a : Nat → Nat} {cA cZ : ClassId} {G : pG} {A : Nat → Prop} {Q : Int32 → pS → Prop} (C : pw_C p s m args meth c b_Sheet_newRow 2 R_Sheet (some .int) w_Sheet_newRow A) (K : pw_K s D 40 a (cT cA cZ) A) (x1 : Int32) (u : pS) (ls : Array Slot) (hP : va_P D vwCl (cw a cA cZ G u) s.heap) (hl : lv_has ls 2 [(0, .ref (a 9)), (1, .int x1)]) (h : wp_Sheet_newRow G x1 u Q) : W p l e ({ frames := 0, cells := 0, slots := 0, locals := 0 } : Room) s m args below meth c s.heap [] 0 0 (pw_Ei below args s D (cw a cA cZ G) (cT cA cZ) A Q) (F0 m 0 ls []) := by
 obtain ⟨hx, hb, hr, hml, hown, hts, hlocks, hA⟩ := id C
 obtain ⟨hK, hI, hF⟩ := id K
 have hD : ∀ u, va_D A (cw a cA cZ G u) := fun u => cw_D hI hF
 have hS : va_S A s.heap s.heap [] := va_S.rf
 have h : wp_Sheet_newRow G x1 u Q := h
 refine lv_aload_n hx hb d_Sheet_newRow_0 rfl (lv_at hl 0 rfl) ?_
 refine va_get (D := D) (ci := 8) (v := .int (u.1 8)) (C := R_Sheet) (T := T_Sheet) (N := 9) hx hb hts in_Sheet hown hK hP 9 cw_at_9 rfl 7 (by decide) (hts _ (List.mem_cons_of_mem _ kw_291)) (fun _ h9 => h9) rfl d_Sheet_newRow_1 ?_
 refine lv_aload_n hx hb d_Sheet_newRow_4 rfl (lv_at hl 0 rfl) ?_
 refine va_get (D := D) (ci := 8) (v := .ref (a 37)) (C := R_Sheet) (T := T_Sheet) (N := 9) hx hb hts in_Sheet hown hK hP 9 cw_at_9 rfl 4 (by decide) (hts _ (List.mem_cons_of_mem _ kw_288)) (fun _ h9 => h9) rfl d_Sheet_newRow_5 ?_
 refine va_alen (v := nI (G.1 37)) hx hb hK hP 37 0 cw_at_37 rfl rfl d_Sheet_newRow_8 ?_
 refine lv_icmp_lt (tgt := 14) hx hb d_Sheet_newRow_9 (by decide) (fun c1 => ?_) (fun c1 => ?_)
 · have h := h.1 c1
   refine lv_aload_n hx hb d_Sheet_newRow_14 rfl (lv_at hl 0 rfl) ?_
   refine va_get (D := D) (ci := 8) (v := .ref (a 37)) (C := R_Sheet) (T := T_Sheet) (N := 9) hx hb hts in_Sheet hown hK hP 9 cw_at_9 rfl 4 (by decide) (hts _ (List.mem_cons_of_mem _ kw_288)) (fun _ h9 => h9) rfl d_Sheet_newRow_15 ?_
   refine lv_aload_n hx hb d_Sheet_newRow_18 rfl (lv_at hl 0 rfl) ?_
   refine va_get (D := D) (ci := 8) (v := .int (u.1 8)) (C := R_Sheet) (T := T_Sheet) (N := 9) hx hb hts in_Sheet hown hK hP 9 cw_at_9 rfl 7 (by decide) (hts _ (List.mem_cons_of_mem _ kw_291)) (fun _ h9 => h9) rfl d_Sheet_newRow_19 ?_
   refine lv_aload_n hx hb d_Sheet_newRow_22 rfl (lv_at hl 0 rfl) ?_
   refine va_get (D := D) (ci := 8) (v := .int (u.1 9)) (C := R_Sheet) (T := T_Sheet) (N := 9) hx hb hts in_Sheet hown hK hP 9 cw_at_9 rfl 8 (by decide) (hts _ (List.mem_cons_of_mem _ kw_292)) (fun _ h9 => h9) rfl d_Sheet_newRow_23 ?_
   refine va_iast hx hb hK hP (hD _) hS 37 0 cw_at_37 rfl h.1 d_Sheet_newRow_26 (fun H locs hP _ hS => ?_)
   obtain ⟨u2, eu2⟩ : ∃ z, z = pw_sa u 23 (upd (u.2 23) (u.1 8).toNatClampNeg (u.1 9)) := ⟨_, rfl⟩
   rw [cw_sa_37, ← eu2] at hP
   have h := h.2 u2 eu2
   refine lv_aload_n hx hb d_Sheet_newRow_27 rfl (lv_at hl 0 rfl) ?_
   refine va_get (D := D) (ci := 8) (v := .ref (a 38)) (C := R_Sheet) (T := T_Sheet) (N := 9) hx hb hts in_Sheet hown hK hP 9 cw_at_9 rfl 5 (by decide) (hts _ (List.mem_cons_of_mem _ kw_289)) (fun _ h9 => h9) rfl d_Sheet_newRow_28 ?_
   refine lv_aload_n hx hb d_Sheet_newRow_31 rfl (lv_at hl 0 rfl) ?_
   refine va_get (D := D) (ci := 8) (v := .int (u2.1 8)) (C := R_Sheet) (T := T_Sheet) (N := 9) hx hb hts in_Sheet hown hK hP 9 cw_at_9 rfl 7 (by decide) (hts _ (List.mem_cons_of_mem _ kw_291)) (fun _ h9 => h9) rfl d_Sheet_newRow_32 ?_
   refine lv_iload_n hx hb d_Sheet_newRow_35 rfl (lv_at hl 1 rfl) ?_
   refine va_iast hx hb hK hP (hD _) hS 38 0 cw_at_38 rfl h.1 d_Sheet_newRow_36 (fun H locs hP _ hS => ?_)
   obtain ⟨u3, eu3⟩ : ∃ z, z = pw_sa u2 24 (upd (u2.2 24) (u2.1 8).toNatClampNeg x1) := ⟨_, rfl⟩
   rw [cw_sa_38, ← eu3] at hP
   have h := h.2 u3 eu3
   refine lv_aload_n hx hb d_Sheet_newRow_37 rfl (lv_at hl 0 rfl) ?_
   refine va_get (D := D) (ci := 8) (v := .ref (a 39)) (C := R_Sheet) (T := T_Sheet) (N := 9) hx hb hts in_Sheet hown hK hP 9 cw_at_9 rfl 6 (by decide) (hts _ (List.mem_cons_of_mem _ kw_290)) (fun _ h9 => h9) rfl d_Sheet_newRow_38 ?_
   refine lv_aload_n hx hb d_Sheet_newRow_41 rfl (lv_at hl 0 rfl) ?_
   refine va_get (D := D) (ci := 8) (v := .int (u3.1 8)) (C := R_Sheet) (T := T_Sheet) (N := 9) hx hb hts in_Sheet hown hK hP 9 cw_at_9 rfl 7 (by decide) (hts _ (List.mem_cons_of_mem _ kw_291)) (fun _ h9 => h9) rfl d_Sheet_newRow_42 ?_
   refine lv_iconst (v := 0) hx hb d_Sheet_newRow_45 (by decide) ?_
   refine va_iast hx hb hK hP (hD _) hS 39 0 cw_at_39 rfl h.1 d_Sheet_newRow_46 (fun H locs hP _ hS => ?_)
   obtain ⟨u4, eu4⟩ : ∃ z, z = pw_sa u3 25 (upd (u3.2 25) (u3.1 8).toNatClampNeg 0) := ⟨_, rfl⟩
   rw [cw_sa_39, ← eu4] at hP
   have h := h.2 u4 eu4
   refine lv_aload_n hx hb d_Sheet_newRow_47 rfl (lv_at hl 0 rfl) ?_
   refine lv_dup hx hb d_Sheet_newRow_48 rfl ?_
   refine va_get (D := D) (ci := 8) (v := .int (u4.1 9)) (C := R_Sheet) (T := T_Sheet) (N := 9) hx hb hts in_Sheet hown hK hP 9 cw_at_9 rfl 8 (by decide) (hts _ (List.mem_cons_of_mem _ kw_292)) (fun _ h9 => h9) rfl d_Sheet_newRow_49 ?_
   refine lv_iload_n hx hb d_Sheet_newRow_52 rfl (lv_at hl 1 rfl) ?_
   refine lv_iadd hx hb d_Sheet_newRow_53 ?_
   refine va_put (D := D) (ci := 8) (v := .int ((u4.1 9) + x1)) (ty := .int) (C := R_Sheet) (T := T_Sheet) (N := 9) hx hb hts in_Sheet ty_Sheet tyok_Sheet nm_Sheet hown hK hP (hD _) hS 9 cw_at_9 rfl 8 (by decide) (hts _ (List.mem_cons_of_mem _ kw_292)) (fun _ h9 => h9) rfl (by decide +kernel) rfl rfl (Nat.le_of_ble_eq_true rfl) d_Sheet_newRow_54 (fun H locs hP _ hS => ?_)
   obtain ⟨u5, eu5⟩ : ∃ z, z = pw_si u4 9 ((u4.1 9) + x1) := ⟨_, rfl⟩
   rw [cw_si_9_8, ← eu5] at hP
   have h := h u5 eu5
   refine lv_aload_n hx hb d_Sheet_newRow_57 rfl (lv_at hl 0 rfl) ?_
   refine lv_dup hx hb d_Sheet_newRow_58 rfl ?_
   refine va_get (D := D) (ci := 8) (v := .int (u5.1 8)) (C := R_Sheet) (T := T_Sheet) (N := 9) hx hb hts in_Sheet hown hK hP 9 cw_at_9 rfl 7 (by decide) (hts _ (List.mem_cons_of_mem _ kw_291)) (fun _ h9 => h9) rfl d_Sheet_newRow_59 ?_
   refine lv_iconst (v := 1) hx hb d_Sheet_newRow_62 (by decide) ?_
   refine lv_iadd hx hb d_Sheet_newRow_63 ?_
   refine va_put (D := D) (ci := 8) (v := .int ((u5.1 8) + 1)) (ty := .int) (C := R_Sheet) (T := T_Sheet) (N := 9) hx hb hts in_Sheet ty_Sheet tyok_Sheet nm_Sheet hown hK hP (hD _) hS 9 cw_at_9 rfl 7 (by decide) (hts _ (List.mem_cons_of_mem _ kw_291)) (fun _ h9 => h9) rfl (by decide +kernel) rfl rfl (Nat.le_of_ble_eq_true rfl) d_Sheet_newRow_64 (fun H locs hP _ hS => ?_)
   obtain ⟨u6, eu6⟩ : ∃ z, z = pw_si u5 8 ((u5.1 8) + 1) := ⟨_, rfl⟩
   rw [cw_si_9_7, ← eu6] at hP
   have h := h u6 eu6
   refine lv_aload_n hx hb d_Sheet_newRow_67 rfl (lv_at hl 0 rfl) ?_
   refine va_get (D := D) (ci := 8) (v := .int (u6.1 8)) (C := R_Sheet) (T := T_Sheet) (N := 9) hx hb hts in_Sheet hown hK hP 9 cw_at_9 rfl 7 (by decide) (hts _ (List.mem_cons_of_mem _ kw_291)) (fun _ h9 => h9) rfl d_Sheet_newRow_68 ?_
   refine lv_iconst (v := 1) hx hb d_Sheet_newRow_71 (by decide) ?_
   refine lv_isub hx hb d_Sheet_newRow_72 ?_
   exact W.iret (v := ((u6.1 8) - 1)) hx hb hr (fun t ht hW => ⟨⟨((u6.1 8) - 1), u6, rfl, h, by rw [ht]; exact hP, va_K.moved hW.alike hK⟩, hS.F ht⟩) hS.2.2 d_Sheet_newRow_73 hlocks
 · have h := h.2 c1
   refine lv_iconst (v := -1) hx hb d_Sheet_newRow_12 (by decide) ?_
   exact W.iret (v := (-1)) hx hb hr (fun t ht hW => ⟨⟨(-1), u, rfl, h, by rw [ht]; exact hP, va_K.moved hW.alike hK⟩, hS.F ht⟩) hS.2.2 d_Sheet_newRow_13 hlocks
set_option maxHeartbeats 4000000 in
set_option maxRecDepth 100000 in
theorem ct_Sheet_newRow (l : Launch) (D : va_G) (a : Nat → Nat) (cA cZ : ClassId) (G : pG) (sz : Nat) (x1 : Int32) (u : pS) (Q : Int32 → pS → Prop) (hI : pw_I 40 a) (h : wp_Sheet_newRow G x1 u Q) : Met l y_Sheet_newRow w_Sheet_newRow ({ frames := 0, cells := 0, slots := 0, locals := 0 } : Room) (va_Pc [.ref (a 9), .int x1] (pw_pre D (cw a cA cZ G) (cT cA cZ) sz u)) (va_Qi (fun (r : Int32) (u : pS) => Q r u) (pw_B D (cw a cA cZ G) (cT cA cZ)) (pw_F 40 a sz)) 0 0 (pw_F 40 a sz) := by
 refine Met.ofW (cc := b_Sheet_newRow) (maxL := 2) (ret := (some .int)) (by decide) rfl ?_
 intro p e s m args below meth c s₁ B hml hv
 obtain ⟨rfl, hsz, hP, hK⟩ := hv
 subst hsz
 have hl := lv_entry ([.ref (a 9), .int x1]) (n := 2) (Nat.le_of_ble_eq_true rfl)
 rw [lg_entry_eq]
 generalize (lg_sl ([.ref (a 9), .int x1]) ++ List.replicate (2 - (lg_sl ([.ref (a 9), .int x1])).length) Slot.unset).toArray = ls at hl ⊢
 exact st_Sheet_newRow (A := (pw_F 40 a s.heap.size)) ⟨B.exec, B.bytes, B.returns, hml, findClass_of_methodNamed B.named, atoms_spec (ws := w_Sheet_newRow) B.pre, B.notSynchronized, fun q hq => Or.inr hq⟩ ⟨hK, hI, fun k hk => Or.inl ⟨k, hk, rfl⟩⟩ x1 u ls hP hl h
set_option maxHeartbeats 4000000 in
set_option maxRecDepth 100000 in
theorem cp_Sheet_rowFor_23 {p : Program} {l : Launch} {e : Env} {s : State} {m : MethodId} {args : Array Value} {below : List Frame} {meth : Method} {c : Code} {D : va_G} {a : Nat → Nat} {cA cZ : ClassId} {G : pG} {A : Nat → Prop} {Q : Int32 → pS → Prop} (C : pw_C p s m args meth c b_Sheet_rowFor 7 R_Sheet (some .int) w_Sheet_rowFor A) (K : pw_K s D 40 a (cT cA cZ) A) : ∀ (n : Nat), ∀ (x2 x3 x4 x5 x6 : Int32) (u : pS) (H : Heap) (locs : List Loc) (ls : Array Slot), va_P D vwCl (cw a cA cZ G u) H → va_S A s.heap H locs → lv_has ls 7 [(0, .ref (a 9)), (2, .int x2), (3, .int x3), (4, .int x4), (5, .int x5), (6, .int x6)] → lp_Sheet_rowFor_23 G Q n x2 x3 x4 x5 x6 u → W p l e ({ frames := 3, cells := 0, slots := 0, locals := 63 } : Room) s m args below meth c H locs 0 0 (pw_Ei below args s D (cw a cA cZ G) (cT cA cZ) A Q) (F0 m 23 ls []) := by
 obtain ⟨hx, hb, hr, hml, hown, hts, hlocks, hA⟩ := id C
 obtain ⟨hK, hI, hF⟩ := id K
 have hD : ∀ u, va_D A (cw a cA cZ G u) := fun u => cw_D hI hF
 intro n
 induction n with
 | zero => intro x2 x3 x4 x5 x6 u H locs ls hP hS hl h; exact h.elim
 | succ n ih =>
   intro x2 x3 x4 x5 x6 u H locs ls hP hS hl h
   refine lv_iload hx hb d_Sheet_rowFor_23 (lv_at hl 5 rfl) ?_
   refine lv_aload_n hx hb d_Sheet_rowFor_25 rfl (lv_at hl 0 rfl) ?_
   refine va_get (D := D) (ci := 8) (v := .int (u.1 8)) (C := R_Sheet) (T := T_Sheet) (N := 9) hx hb hts in_Sheet hown hK hP 9 cw_at_9 rfl 7 (by decide) (hts _ (List.mem_cons_of_mem _ kw_291)) (fun _ h9 => h9) rfl d_Sheet_rowFor_26 ?_
   refine lv_icmp_ge (tgt := 67) hx hb d_Sheet_rowFor_29 (by decide) (fun c5 => ?_) (fun c5 => ?_)
   · have h := h.1 c5
     refine lv_iload hx hb d_Sheet_rowFor_67 (lv_at hl 3 rfl) ?_
     refine lv_iload_n hx hb d_Sheet_rowFor_69 rfl (lv_at hl 1 rfl) ?_
     refine lv_icmp_gt (tgt := 93) hx hb d_Sheet_rowFor_70 (by decide) (fun c6 => ?_) (fun c6 => ?_)
     · have h := h.1 c6
       refine lv_iconst (v := -1) hx hb d_Sheet_rowFor_93 (by decide) ?_
       exact W.iret (v := (-1)) hx hb hr (fun t ht hW => ⟨⟨(-1), u, rfl, h, by rw [ht]; exact hP, va_K.moved hW.alike hK⟩, hS.F ht⟩) hS.2.2 d_Sheet_rowFor_94 hlocks
     · have h := h.2 c6
       refine lv_aload_n hx hb d_Sheet_rowFor_73 rfl (lv_at hl 0 rfl) ?_
       refine va_get (D := D) (ci := 8) (v := .int (u.1 9)) (C := R_Sheet) (T := T_Sheet) (N := 9) hx hb hts in_Sheet hown hK hP 9 cw_at_9 rfl 8 (by decide) (hts _ (List.mem_cons_of_mem _ kw_292)) (fun _ h9 => h9) rfl d_Sheet_rowFor_74 ?_
       refine lv_iload hx hb d_Sheet_rowFor_77 (lv_at hl 4 rfl) ?_
       refine lv_iadd hx hb d_Sheet_rowFor_79 ?_
       refine lv_iload_n hx hb d_Sheet_rowFor_80 rfl (lv_at hl 2 rfl) ?_
       refine lv_icmp_gt (tgt := 93) hx hb d_Sheet_rowFor_81 (by decide) (fun c7 => ?_) (fun c7 => ?_)
       · have h := h.1 c7
         refine lv_iconst (v := -1) hx hb d_Sheet_rowFor_93 (by decide) ?_
         exact W.iret (v := (-1)) hx hb hr (fun t ht hW => ⟨⟨(-1), u, rfl, h, by rw [ht]; exact hP, va_K.moved hW.alike hK⟩, hS.F ht⟩) hS.2.2 d_Sheet_rowFor_94 hlocks
       · have h := h.2 c7
         refine lv_aload_n hx hb d_Sheet_rowFor_84 rfl (lv_at hl 0 rfl) ?_
         refine lv_iload hx hb d_Sheet_rowFor_85 (lv_at hl 4 rfl) ?_
         refine cc_i (va_runV (As := [.int x5]) (rest := []) ⟨hx, hb, hml, hown, hts⟩ (ct_Sheet_newRow l D a cA cZ G _ x5 u _ hI h) (pw_cwV 1 hts kw_783 kw_55 kw_780 kw_782 kw_20 (by decide +kernel) ⟨Nat.le_of_ble_eq_true rfl, Nat.le_of_ble_eq_true rfl⟩) ⟨pw_blind, va_recv hK hP (ci := 8) (q0 := 9) rfl cw_at_9, fun U hU hW => ⟨rfl, by rw [hU], by rw [hU]; exact hP, va_K.moved hW.alike hK⟩⟩ rfl rfl hl.1 rfl (lv_room (Nat.le_of_ble_eq_true rfl)) d_Sheet_rowFor_87 ⟨Nat.le_of_ble_eq_true rfl, Nat.le_of_ble_eq_true rfl⟩) hS hF hA (fun r9 u8 H locs hP hS h => ?_)
         refine lv_goto (tgt := 94) hx hb d_Sheet_rowFor_90 (by decide) ?_
         exact W.iret (v := r9) hx hb hr (fun t ht hW => ⟨⟨r9, u8, rfl, h, by rw [ht]; exact hP, va_K.moved hW.alike hK⟩, hS.F ht⟩) hS.2.2 d_Sheet_rowFor_94 hlocks
   · have h := h.2 c5
     refine lv_aload_n hx hb d_Sheet_rowFor_32 rfl (lv_at hl 0 rfl) ?_
     refine va_get (D := D) (ci := 8) (v := .ref (a 39)) (C := R_Sheet) (T := T_Sheet) (N := 9) hx hb hts in_Sheet hown hK hP 9 cw_at_9 rfl 6 (by decide) (hts _ (List.mem_cons_of_mem _ kw_290)) (fun _ h9 => h9) rfl d_Sheet_rowFor_33 ?_
     refine lv_iload hx hb d_Sheet_rowFor_36 (lv_at hl 5 rfl) ?_
     refine va_iald hx hb hK hP 39 0 cw_at_39 rfl h.1 d_Sheet_rowFor_38 ?_
     have h := h.2
     refine lv_iload hx hb d_Sheet_rowFor_39 (lv_at hl 3 rfl) ?_
     refine lv_iadd hx hb d_Sheet_rowFor_41 ?_
     refine lv_iload_n hx hb d_Sheet_rowFor_42 rfl (lv_at hl 1 rfl) ?_
     refine lv_icmp_gt (tgt := 61) hx hb d_Sheet_rowFor_43 (by decide) (fun c10 => ?_) (fun c10 => ?_)
     · have h := h.1 c10
       obtain ⟨t11, et11⟩ : ∃ y : Int32, y = x6 + 1 := ⟨_, rfl⟩
       have h := h t11 et11
       refine lv_iinc (v := t11) (lv' := [(6, .int t11), (0, .ref (a 9)), (2, .int x2), (3, .int x3), (4, .int x4), (5, .int x5)]) hx hb d_Sheet_rowFor_61 hl (k := 5) rfl (by rw [et11]; rfl) (by decide) rfl (fun ls hl => ?_)
       refine lv_goto (tgt := 23) hx hb d_Sheet_rowFor_64 (by decide) ?_
       exact ih x2 x3 x4 x5 t11 u _ _ _ hP hS (lv_sub hl [1, 2, 3, 4, 5, 0] rfl) h
     · have h := h.2 c10
       refine lv_iload hx hb d_Sheet_rowFor_46 (lv_at hl 4 rfl) ?_
       refine lv_aload_n hx hb d_Sheet_rowFor_48 rfl (lv_at hl 0 rfl) ?_
       refine va_get (D := D) (ci := 8) (v := .ref (a 38)) (C := R_Sheet) (T := T_Sheet) (N := 9) hx hb hts in_Sheet hown hK hP 9 cw_at_9 rfl 5 (by decide) (hts _ (List.mem_cons_of_mem _ kw_289)) (fun _ h9 => h9) rfl d_Sheet_rowFor_49 ?_
       refine lv_iload hx hb d_Sheet_rowFor_52 (lv_at hl 5 rfl) ?_
       refine va_iald hx hb hK hP 38 0 cw_at_38 rfl h.1 d_Sheet_rowFor_54 ?_
       have h := h.2
       refine lv_icmp_gt (tgt := 61) hx hb d_Sheet_rowFor_55 (by decide) (fun c12 => ?_) (fun c12 => ?_)
       · have h := h.1 c12
         obtain ⟨t13, et13⟩ : ∃ y : Int32, y = x6 + 1 := ⟨_, rfl⟩
         have h := h t13 et13
         refine lv_iinc (v := t13) (lv' := [(6, .int t13), (0, .ref (a 9)), (2, .int x2), (3, .int x3), (4, .int x4), (5, .int x5)]) hx hb d_Sheet_rowFor_61 hl (k := 5) rfl (by rw [et13]; rfl) (by decide) rfl (fun ls hl => ?_)
         refine lv_goto (tgt := 23) hx hb d_Sheet_rowFor_64 (by decide) ?_
         exact ih x2 x3 x4 x5 t13 u _ _ _ hP hS (lv_sub hl [1, 2, 3, 4, 5, 0] rfl) h
       · have h := h.2 c12
         refine lv_iload hx hb d_Sheet_rowFor_58 (lv_at hl 5 rfl) ?_
         exact W.iret (v := x6) hx hb hr (fun t ht hW => ⟨⟨x6, u, rfl, h, by rw [ht]; exact hP, va_K.moved hW.alike hK⟩, hS.F ht⟩) hS.2.2 d_Sheet_rowFor_60 hlocks
set_option maxHeartbeats 4000000 in
set_option maxRecDepth 100000 in
theorem st_Sheet_rowFor {p : Program} {l : Launch} {e : Env} {s : State} {m : MethodId} {args : Array Value} {below : List Frame} {meth : Method} {c : Code} {D : va_G} {a : Nat → Nat} {cA cZ : ClassId} {G : pG} {A : Nat → Prop} {Q : Int32 → pS → Prop} (C : pw_C p s m args meth c b_Sheet_rowFor 7 R_Sheet (some .int) w_Sheet_rowFor A) (K : pw_K s D 40 a (cT cA cZ) A) (x1 x2 x3 : Int32) (u : pS) (ls : Array Slot) (hP : va_P D vwCl (cw a cA cZ G u) s.heap) (hl : lv_has ls 7 [(0, .ref (a 9)), (1, .int x1), (2, .int x2), (3, .int x3)]) (h : wp_Sheet_rowFor G x1 x2 x3 u Q) : W p l e ({ frames := 3, cells := 0, slots := 0, locals := 63 } : Room) s m args below meth c s.heap [] 0 0 (pw_Ei below args s D (cw a cA cZ G) (cT cA cZ) A Q) (F0 m 0 ls []) := by
 obtain ⟨hx, hb, hr, hml, hown, hts, hlocks, hA⟩ := id C
 obtain ⟨hK, hI, hF⟩ := id K
 have hD : ∀ u, va_D A (cw a cA cZ G u) := fun u => cw_D hI hF
 have hS : va_S A s.heap s.heap [] := va_S.rf
 have h : wp_Sheet_rowFor G x1 x2 x3 u Q := h
 refine lv_aload_n hx hb d_Sheet_rowFor_0 rfl (lv_at hl 0 rfl) ?_
 refine va_get (D := D) (ci := 8) (v := .ref (a 4)) (C := R_Sheet) (T := T_Sheet) (N := 9) hx hb hts in_Sheet hown hK hP 9 cw_at_9 rfl 0 (by decide) (hts _ (List.mem_cons_of_mem _ kw_284)) (fun _ h9 => h9) rfl d_Sheet_rowFor_1 ?_
 refine lv_iload_n hx hb d_Sheet_rowFor_4 rfl (lv_at hl 1 rfl) ?_
 refine cc_i (va_runV (As := [.int x1]) (rest := []) ⟨hx, hb, hml, hown, hts⟩ (ct_Pieces_columnsOf l D a cA cZ G _ x1 u _ hI h) (pw_cwV 1 hts kw_587 kw_49 kw_778 kw_585 kw_586 (by decide +kernel) ⟨Nat.le_of_ble_eq_true rfl, Nat.le_of_ble_eq_true rfl⟩) ⟨pw_blind, va_recv hK hP (ci := 7) (q0 := 4) rfl cw_at_4, fun U hU hW => ⟨rfl, by rw [hU], by rw [hU]; exact hP, va_K.moved hW.alike hK⟩⟩ rfl rfl hl.1 rfl (lv_room (Nat.le_of_ble_eq_true rfl)) d_Sheet_rowFor_5 ⟨Nat.le_of_ble_eq_true rfl, Nat.le_of_ble_eq_true rfl⟩) hS hF hA (fun r2 u1 H locs hP hS h => ?_)
 refine lv_istore (lv' := [(4, .int r2), (0, .ref (a 9)), (1, .int x1), (2, .int x2), (3, .int x3)]) hx hb d_Sheet_rowFor_8 hl (by decide) rfl (fun ls hl => ?_)
 refine lv_aload_n hx hb d_Sheet_rowFor_10 rfl (lv_at hl 1 rfl) ?_
 refine va_get (D := D) (ci := 8) (v := .ref (a 4)) (C := R_Sheet) (T := T_Sheet) (N := 9) hx hb hts in_Sheet hown hK hP 9 cw_at_9 rfl 0 (by decide) (hts _ (List.mem_cons_of_mem _ kw_284)) (fun _ h9 => h9) rfl d_Sheet_rowFor_11 ?_
 refine lv_iload_n hx hb d_Sheet_rowFor_14 rfl (lv_at hl 2 rfl) ?_
 refine cc_i (va_runV (As := [.int x1]) (rest := []) ⟨hx, hb, hml, hown, hts⟩ (ct_Pieces_rowsOf l D a cA cZ G _ x1 u1 _ hI h) (pw_cwV 1 hts kw_578 kw_49 kw_779 kw_576 kw_577 (by decide +kernel) ⟨Nat.le_of_ble_eq_true rfl, Nat.le_of_ble_eq_true rfl⟩) ⟨pw_blind, va_recv hK hP (ci := 7) (q0 := 4) rfl cw_at_4, fun U hU hW => ⟨rfl, by rw [hU], by rw [hU]; exact hP, va_K.moved hW.alike hK⟩⟩ rfl rfl hl.1 rfl (lv_room (Nat.le_of_ble_eq_true rfl)) d_Sheet_rowFor_15 ⟨Nat.le_of_ble_eq_true rfl, Nat.le_of_ble_eq_true rfl⟩) hS hF hA (fun r4 u3 H locs hP hS h => ?_)
 refine lv_istore (lv' := [(5, .int r4), (4, .int r2), (0, .ref (a 9)), (1, .int x1), (2, .int x2), (3, .int x3)]) hx hb d_Sheet_rowFor_18 hl (by decide) rfl (fun ls hl => ?_)
 refine lv_iconst (v := 0) hx hb d_Sheet_rowFor_20 (by decide) ?_
 refine lv_istore (lv' := [(6, .int 0), (5, .int r4), (4, .int r2), (0, .ref (a 9)), (1, .int x1), (2, .int x2), (3, .int x3)]) hx hb d_Sheet_rowFor_21 hl (by decide) rfl (fun ls hl => ?_)
 obtain ⟨n1, h⟩ := h
 exact cp_Sheet_rowFor_23 C K n1 x2 x3 r2 r4 0 u3 _ _ _ hP hS (lv_sub hl [3, 5, 6, 2, 1, 0] rfl) h
set_option maxHeartbeats 4000000 in
set_option maxRecDepth 100000 in
theorem ct_Sheet_rowFor (l : Launch) (D : va_G) (a : Nat → Nat) (cA cZ : ClassId) (G : pG) (sz : Nat) (x1 x2 x3 : Int32) (u : pS) (Q : Int32 → pS → Prop) (hI : pw_I 40 a) (h : wp_Sheet_rowFor G x1 x2 x3 u Q) : Met l y_Sheet_rowFor w_Sheet_rowFor ({ frames := 3, cells := 0, slots := 0, locals := 63 } : Room) (va_Pc [.ref (a 9), .int x1, .int x2, .int x3] (pw_pre D (cw a cA cZ G) (cT cA cZ) sz u)) (va_Qi (fun (r : Int32) (u : pS) => Q r u) (pw_B D (cw a cA cZ G) (cT cA cZ)) (pw_F 40 a sz)) 0 0 (pw_F 40 a sz) := by
 refine Met.ofW (cc := b_Sheet_rowFor) (maxL := 7) (ret := (some .int)) (by decide) rfl ?_
 intro p e s m args below meth c s₁ B hml hv
 obtain ⟨rfl, hsz, hP, hK⟩ := hv
 subst hsz
 have hl := lv_entry ([.ref (a 9), .int x1, .int x2, .int x3]) (n := 7) (Nat.le_of_ble_eq_true rfl)
 rw [lg_entry_eq]
 generalize (lg_sl ([.ref (a 9), .int x1, .int x2, .int x3]) ++ List.replicate (7 - (lg_sl ([.ref (a 9), .int x1, .int x2, .int x3])).length) Slot.unset).toArray = ls at hl ⊢
 exact st_Sheet_rowFor (A := (pw_F 40 a s.heap.size)) ⟨B.exec, B.bytes, B.returns, hml, findClass_of_methodNamed B.named, atoms_spec (ws := w_Sheet_rowFor) B.pre, B.notSynchronized, fun q hq => Or.inr hq⟩ ⟨hK, hI, fun k hk => Or.inl ⟨k, hk, rfl⟩⟩ x1 x2 x3 u ls hP hl h
