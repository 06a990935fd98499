set_option maxHeartbeats 4000000 in
set_option maxRecDepth 100000 in
theorem cp_Tool_fits_21 {p : Program} {l : Launch} {e : Env} {s : State} {m : MethodId} {args : Array Value} {below : List Frame} {meth : Method} {c : Code} {D : va_G} {a : Nat → Nat} {cA cZ : ClassId} {G : pG} {A : Nat → Prop} {Q : Int32 → pS → Prop} (C : pw_C p s m args meth c b_Tool_fits 7 R_Tool (some .boolean) w_Tool_fits A) (K : pw_K s D 40 a (cT cA cZ) A) {k6 : Int32 → Int32 → Int32 → Int32 → Int32 → pS → Prop} (hk6 : ∀ (x1 x2 x3 x4 x5 : Int32) (u : pS) (H : Heap) (locs : List Loc) (ls : Array Slot), va_P D vwCl (cw a cA cZ G u) H → va_S A s.heap H locs → lv_has ls 7 [(0, .ref (a 8)), (1, .int x1), (2, .int x2), (3, .int x3), (4, .int x4), (5, .int x5)] → k6 x1 x2 x3 x4 x5 u → W p l e ({ frames := 2, cells := 0, slots := 0, locals := 46 } : Room) s m args below meth c H locs 0 0 (pw_Ei below args s D (cw a cA cZ G) (cT cA cZ) A Q) (F0 m 6 ls [])) : ∀ (n : Nat), ∀ (x1 x2 x3 x4 x5 x6 : Int32) (u : pS) (H : Heap) (locs : List Loc) (ls : Array Slot), va_P D vwCl (cw a cA cZ G u) H → va_S A s.heap H locs → lv_has ls 7 [(0, .ref (a 8)), (1, .int x1), (2, .int x2), (3, .int x3), (4, .int x4), (5, .int x5), (6, .int x6)] → lp_Tool_fits_21 G Q k6 n x1 x2 x3 x4 x5 x6 u → W p l e ({ frames := 2, cells := 0, slots := 0, locals := 46 } : Room) s m args below meth c H locs 0 0 (pw_Ei below args s D (cw a cA cZ G) (cT cA cZ) A Q) (F0 m 21 ls []) := by
 obtain ⟨hx, hb, hr, hml, hown, hts, hlocks, hA⟩ := id C
 obtain ⟨hK, hI, hF⟩ := id K
 have hD : ∀ u, va_D A (cw a cA cZ G u) := fun u => cw_D hI hF
 intro n
 induction n with
 | zero => intro x1 x2 x3 x4 x5 x6 u H locs ls hP hS hl h; exact h.elim
 | succ n ih =>
   intro x1 x2 x3 x4 x5 x6 u H locs ls hP hS hl h
   refine lv_iload hx hb d_Tool_fits_21 (lv_at hl 6 rfl) ?_
   refine lv_iload_n hx hb d_Tool_fits_23 rfl (lv_at hl 2 rfl) ?_
   refine lv_iload hx hb d_Tool_fits_24 (lv_at hl 4 rfl) ?_
   refine lv_iadd hx hb d_Tool_fits_26 ?_
   refine lv_icmp_gt (tgt := 53) hx hb d_Tool_fits_27 (by decide) (fun c4 => ?_) (fun c4 => ?_)
   · have h := h.1 c4
     obtain ⟨t5, et5⟩ : ∃ y : Int32, y = x5 + 1 := ⟨_, rfl⟩
     have h := h t5 et5
     refine lv_iinc (v := t5) (lv' := [(5, .int t5), (0, .ref (a 8)), (1, .int x1), (2, .int x2), (3, .int x3), (4, .int x4), (6, .int x6)]) hx hb d_Tool_fits_53 hl (k := 5) rfl (by rw [et5]; rfl) (by decide) rfl (fun ls hl => ?_)
     refine lv_goto (tgt := 6) hx hb d_Tool_fits_56 (by decide) ?_
     exact hk6 x1 x2 x3 x4 t5 u _ _ _ hP hS (lv_sub hl [1, 2, 3, 4, 5, 0] rfl) h
   · have h := h.2 c4
     refine lv_aload_n hx hb d_Tool_fits_30 rfl (lv_at hl 0 rfl) ?_
     refine va_get (D := D) (ci := 9) (v := .ref (a 4)) (C := R_Tool) (T := T_Tool) (N := 4) hx hb hts in_Tool hown hK hP 8 cw_at_8 rfl 1 (by decide) (hts _ (List.mem_cons_of_mem _ kw_253)) (fun _ h9 => h9) rfl d_Tool_fits_31 ?_
     refine lv_iload hx hb d_Tool_fits_34 (lv_at hl 6 rfl) ?_
     refine lv_iload hx hb d_Tool_fits_36 (lv_at hl 5 rfl) ?_
     refine cc_i (va_runV (As := [.int x6, .int x5]) (rest := []) ⟨hx, hb, hml, hown, hts⟩ (ct_Pieces_numberOf l D a cA cZ G _ x6 x5 u _ hI h) (pw_cwV 2 hts kw_631 kw_49 kw_730 kw_629 kw_630 (by decide +kernel) ⟨Nat.le_of_ble_eq_true rfl, Nat.le_of_ble_eq_true rfl⟩) ⟨pw_blind, va_recv hK hP (ci := 7) (q0 := 4) rfl cw_at_4, fun U hU hW => ⟨rfl, by rw [hU], by rw [hU]; exact hP, va_K.moved hW.alike hK⟩⟩ rfl rfl hl.1 rfl (lv_room (Nat.le_of_ble_eq_true rfl)) d_Tool_fits_38 ⟨Nat.le_of_ble_eq_true rfl, Nat.le_of_ble_eq_true rfl⟩) hS hF hA (fun r7 u6 H locs hP hS h => ?_)
     refine lv_iload_n hx hb d_Tool_fits_41 rfl (lv_at hl 1 rfl) ?_
     refine lv_icmp_eq (tgt := 47) hx hb d_Tool_fits_42 (by decide) (fun c8 => ?_) (fun c8 => ?_)
     · have h := h.1 c8
       obtain ⟨t9, et9⟩ : ∃ y : Int32, y = x6 + 1 := ⟨_, rfl⟩
       have h := h t9 et9
       refine lv_iinc (v := t9) (lv' := [(6, .int t9), (0, .ref (a 8)), (1, .int x1), (2, .int x2), (3, .int x3), (4, .int x4), (5, .int x5)]) hx hb d_Tool_fits_47 hl (k := 6) rfl (by rw [et9]; rfl) (by decide) rfl (fun ls hl => ?_)
       refine lv_goto (tgt := 21) hx hb d_Tool_fits_50 (by decide) ?_
       exact ih x1 x2 x3 x4 x5 t9 u6 _ _ _ hP hS (lv_sub hl [1, 2, 3, 4, 5, 6, 0] rfl) h
     · have h := h.2 c8
       refine lv_iconst (v := 0) hx hb d_Tool_fits_45 (by decide) ?_
       exact W.zret (v := 0) hx hb hr rfl (fun t ht hW => ⟨⟨0, u6, rfl, h, by rw [ht]; exact hP, va_K.moved hW.alike hK⟩, hS.F ht⟩) hS.2.2 d_Tool_fits_46 hlocks
set_option maxHeartbeats 4000000 in
set_option maxRecDepth 100000 in
theorem cp_Tool_fits_6 {p : Program} {l : Launch} {e : Env} {s : State} {m : MethodId} {args : Array Value} {below : List Frame} {meth : Method} {c : Code} {D : va_G} {a : Nat → Nat} {cA cZ : ClassId} {G : pG} {A : Nat → Prop} {Q : Int32 → pS → Prop} (C : pw_C p s m args meth c b_Tool_fits 7 R_Tool (some .boolean) w_Tool_fits A) (K : pw_K s D 40 a (cT cA cZ) A) : ∀ (n : Nat), ∀ (x1 x2 x3 x4 x5 : Int32) (u : pS) (H : Heap) (locs : List Loc) (ls : Array Slot), va_P D vwCl (cw a cA cZ G u) H → va_S A s.heap H locs → lv_has ls 7 [(0, .ref (a 8)), (1, .int x1), (2, .int x2), (3, .int x3), (4, .int x4), (5, .int x5)] → lp_Tool_fits_6 G Q n x1 x2 x3 x4 x5 u → W p l e ({ frames := 2, cells := 0, slots := 0, locals := 46 } : Room) s m args below meth c H locs 0 0 (pw_Ei below args s D (cw a cA cZ G) (cT cA cZ) A Q) (F0 m 6 ls []) := by
 obtain ⟨hx, hb, hr, hml, hown, hts, hlocks, hA⟩ := id C
 obtain ⟨hK, hI, hF⟩ := id K
 have hD : ∀ u, va_D A (cw a cA cZ G u) := fun u => cw_D hI hF
 intro n
 induction n with
 | zero => intro x1 x2 x3 x4 x5 u H locs ls hP hS hl h; exact h.elim
 | succ n ih =>
   intro x1 x2 x3 x4 x5 u H locs ls hP hS hl h
   refine lv_iload hx hb d_Tool_fits_6 (lv_at hl 5 rfl) ?_
   refine lv_iload_n hx hb d_Tool_fits_8 rfl (lv_at hl 3 rfl) ?_
   refine lv_iload hx hb d_Tool_fits_9 (lv_at hl 4 rfl) ?_
   refine lv_iadd hx hb d_Tool_fits_11 ?_
   refine lv_icmp_gt (tgt := 59) hx hb d_Tool_fits_12 (by decide) (fun c2 => ?_) (fun c2 => ?_)
   · have h := h.1 c2
     refine lv_iconst (v := 1) hx hb d_Tool_fits_59 (by decide) ?_
     exact W.zret (v := 1) hx hb hr rfl (fun t ht hW => ⟨⟨1, u, rfl, h, by rw [ht]; exact hP, va_K.moved hW.alike hK⟩, hS.F ht⟩) hS.2.2 d_Tool_fits_60 hlocks
   · have h := h.2 c2
     refine lv_iload_n hx hb d_Tool_fits_15 rfl (lv_at hl 2 rfl) ?_
     refine lv_iload hx hb d_Tool_fits_16 (lv_at hl 4 rfl) ?_
     refine lv_isub hx hb d_Tool_fits_18 ?_
     refine lv_topi (fun t3 et3 => ?_)
     have h := h t3 et3
     refine lv_istore (lv' := [(6, .int t3), (0, .ref (a 8)), (1, .int x1), (2, .int x2), (3, .int x3), (4, .int x4), (5, .int x5)]) hx hb d_Tool_fits_19 hl (by decide) rfl (fun ls hl => ?_)
     obtain ⟨n1, h⟩ := h
     exact cp_Tool_fits_21 C K ih n1 x1 x2 x3 x4 x5 t3 u _ _ _ hP hS (lv_sub hl [1, 2, 3, 4, 5, 6, 0] rfl) h
set_option maxHeartbeats 4000000 in
set_option maxRecDepth 100000 in
theorem st_Tool_fits {p : Program} {l : Launch} {e : Env} {s : State} {m : MethodId} {args : Array Value} {below : List Frame} {meth : Method} {c : Code} {D : va_G} {a : Nat → Nat} {cA cZ : ClassId} {G : pG} {A : Nat → Prop} {Q : Int32 → pS → Prop} (C : pw_C p s m args meth c b_Tool_fits 7 R_Tool (some .boolean) w_Tool_fits A) (K : pw_K s D 40 a (cT cA cZ) A) (x1 x2 x3 x4 : Int32) (u : pS) (ls : Array Slot) (hP : va_P D vwCl (cw a cA cZ G u) s.heap) (hl : lv_has ls 7 [(0, .ref (a 8)), (1, .int x1), (2, .int x2), (3, .int x3), (4, .int x4)]) (h : wp_Tool_fits G x1 x2 x3 x4 u Q) : W p l e ({ frames := 2, cells := 0, slots := 0, locals := 46 } : Room) s m args below meth c s.heap [] 0 0 (pw_Ei below args s D (cw a cA cZ G) (cT cA cZ) A Q) (F0 m 0 ls []) := by
 obtain ⟨hx, hb, hr, hml, hown, hts, hlocks, hA⟩ := id C
 obtain ⟨hK, hI, hF⟩ := id K
 have hD : ∀ u, va_D A (cw a cA cZ G u) := fun u => cw_D hI hF
 have hS : va_S A s.heap s.heap [] := va_S.rf
 have h : wp_Tool_fits G x1 x2 x3 x4 u Q := h
 refine lv_iload_n hx hb d_Tool_fits_0 rfl (lv_at hl 3 rfl) ?_
 refine lv_iload hx hb d_Tool_fits_1 (lv_at hl 4 rfl) ?_
 refine lv_isub hx hb d_Tool_fits_3 ?_
 refine lv_topi (fun t1 et1 => ?_)
 have h := h t1 et1
 refine lv_istore (lv' := [(5, .int t1), (0, .ref (a 8)), (1, .int x1), (2, .int x2), (3, .int x3), (4, .int x4)]) hx hb d_Tool_fits_4 hl (by decide) rfl (fun ls hl => ?_)
 obtain ⟨n1, h⟩ := h
 exact cp_Tool_fits_6 C K n1 x1 x2 x3 x4 t1 u _ _ _ hP hS (lv_sub hl [1, 2, 3, 4, 5, 0] rfl) h
set_option maxHeartbeats 4000000 in
set_option maxRecDepth 100000 in
theorem ct_Tool_fits (l : Launch) (D : va_G) (a : Nat → Nat) (cA cZ : ClassId) (G : pG) (sz : Nat) (x1 x2 x3 x4 : Int32) (u : pS) (Q : Int32 → pS → Prop) (hI : pw_I 40 a) (h : wp_Tool_fits G x1 x2 x3 x4 u Q) : Met l y_Tool_fits w_Tool_fits ({ frames := 2, cells := 0, slots := 0, locals := 46 } : Room) (va_Pc [.ref (a 8), .int x1, .int x2, .int x3, .int x4] (pw_pre D (cw a cA cZ G) (cT cA cZ) sz u)) (va_Qi (fun (r : Int32) (u : pS) => Q r u) (pw_B D (cw a cA cZ G) (cT cA cZ)) (pw_F 40 a sz)) 0 0 (pw_F 40 a sz) := by
 refine Met.ofW (cc := b_Tool_fits) (maxL := 7) (ret := (some .boolean)) (by decide) rfl ?_
 intro p e s m args below meth c s₁ B hml hv
 obtain ⟨rfl, hsz, hP, hK⟩ := hv
 subst hsz
 have hl := lv_entry ([.ref (a 8), .int x1, .int x2, .int x3, .int x4]) (n := 7) (Nat.le_of_ble_eq_true rfl)
 rw [lg_entry_eq]
 generalize (lg_sl ([.ref (a 8), .int x1, .int x2, .int x3, .int x4]) ++ List.replicate (7 - (lg_sl ([.ref (a 8), .int x1, .int x2, .int x3, .int x4])).length) Slot.unset).toArray = ls at hl ⊢
 exact st_Tool_fits (A := (pw_F 40 a s.heap.size)) ⟨B.exec, B.bytes, B.returns, hml, findClass_of_methodNamed B.named, atoms_spec (ws := w_Tool_fits) B.pre, B.notSynchronized, fun q hq => Or.inr hq⟩ ⟨hK, hI, fun k hk => Or.inl ⟨k, hk, rfl⟩⟩ x1 x2 x3 x4 u ls hP hl h
set_option maxHeartbeats 4000000 in
set_option maxRecDepth 100000 in
theorem cp_Tool_mark_18 {p : Program} {l : Launch} {e : Env} {s : State} {m : MethodId} {args : Array Value} {below : List Frame} {meth : Method} {c : Code} {D : va_G} {a : Nat → Nat} {cA cZ : ClassId} {G : pG} {A : Nat → Prop} {Q : pS → Prop} (C : pw_C p s m args meth c b_Tool_mark 7 R_Tool none w_Tool_mark A) (K : pw_K s D 40 a (cT cA cZ) A) {k5 : Int32 → Int32 → Int32 → Int32 → pS → Prop} (hk5 : ∀ (x1 x2 x3 x4 : Int32) (u : pS) (H : Heap) (locs : List Loc) (ls : Array Slot), va_P D vwCl (cw a cA cZ G u) H → va_S A s.heap H locs → lv_has ls 7 [(0, .ref (a 8)), (1, .int x1), (2, .int x2), (3, .int x3), (4, .int x4)] → k5 x1 x2 x3 x4 u → W p l e ({ frames := 1, cells := 0, slots := 0, locals := 23 } : Room) s m args below meth c H locs 0 0 (pw_Ev below args s D (cw a cA cZ G) (cT cA cZ) A Q) (F0 m 5 ls [])) : ∀ (n : Nat), ∀ (x1 x2 x3 x4 x5 : Int32) (u : pS) (H : Heap) (locs : List Loc) (ls : Array Slot), va_P D vwCl (cw a cA cZ G u) H → va_S A s.heap H locs → lv_has ls 7 [(0, .ref (a 8)), (1, .int x1), (2, .int x2), (3, .int x3), (4, .int x4), (5, .int x5)] → lp_Tool_mark_18 G Q k5 n x1 x2 x3 x4 x5 u → W p l e ({ frames := 1, cells := 0, slots := 0, locals := 23 } : Room) s m args below meth c H locs 0 0 (pw_Ev below args s D (cw a cA cZ G) (cT cA cZ) A Q) (F0 m 18 ls []) := by
 obtain ⟨hx, hb, hr, hml, hown, hts, hlocks, hA⟩ := id C
 obtain ⟨hK, hI, hF⟩ := id K
 have hD : ∀ u, va_D A (cw a cA cZ G u) := fun u => cw_D hI hF
 intro n
 induction n with
 | zero => intro x1 x2 x3 x4 x5 u H locs ls hP hS hl h; exact h.elim
 | succ n ih =>
   intro x1 x2 x3 x4 x5 u H locs ls hP hS hl h
   refine lv_iload hx hb d_Tool_mark_18 (lv_at hl 5 rfl) ?_
   refine lv_iload_n hx hb d_Tool_mark_20 rfl (lv_at hl 1 rfl) ?_
   refine lv_iload_n hx hb d_Tool_mark_21 rfl (lv_at hl 3 rfl) ?_
   refine lv_iadd hx hb d_Tool_mark_22 ?_
   refine lv_icmp_gt (tgt := 79) hx hb d_Tool_mark_23 (by decide) (fun c4 => ?_) (fun c4 => ?_)
   · have h := h.1 c4
     obtain ⟨t5, et5⟩ : ∃ y : Int32, y = x4 + 1 := ⟨_, rfl⟩
     have h := h t5 et5
     refine lv_iinc (v := t5) (lv' := [(4, .int t5), (0, .ref (a 8)), (1, .int x1), (2, .int x2), (3, .int x3), (5, .int x5)]) hx hb d_Tool_mark_79 hl (k := 4) rfl (by rw [et5]; rfl) (by decide) rfl (fun ls hl => ?_)
     refine lv_goto (tgt := 5) hx hb d_Tool_mark_82 (by decide) ?_
     exact hk5 x1 x2 x3 t5 u _ _ _ hP hS (lv_sub hl [1, 2, 3, 4, 0] rfl) h
   · have h := h.2 c4
     refine lv_aload_n hx hb d_Tool_mark_26 rfl (lv_at hl 0 rfl) ?_
     refine va_get (D := D) (ci := 9) (v := .ref (a 1)) (C := R_Tool) (T := T_Tool) (N := 4) hx hb hts in_Tool hown hK hP 8 cw_at_8 rfl 0 (by decide) (hts _ (List.mem_cons_of_mem _ kw_252)) (fun _ h9 => h9) rfl d_Tool_mark_27 ?_
     refine lv_iload hx hb d_Tool_mark_30 (lv_at hl 5 rfl) ?_
     refine lv_iload hx hb d_Tool_mark_32 (lv_at hl 4 rfl) ?_
     refine cc_i (va_runV (As := [.int x5, .int x4]) (rest := []) ⟨hx, hb, hml, hown, hts⟩ (ct_Grid_placeOf l D a cA cZ G _ x5 x4 u _ hI h) (pw_cwV 2 hts kw_96 kw_46 kw_735 kw_94 kw_95 (by decide +kernel) ⟨Nat.le_of_ble_eq_true rfl, Nat.le_of_ble_eq_true rfl⟩) ⟨pw_blind, va_recv hK hP (ci := 4) (q0 := 1) rfl cw_at_1, fun U hU hW => ⟨rfl, by rw [hU], by rw [hU]; exact hP, va_K.moved hW.alike hK⟩⟩ rfl rfl hl.1 rfl (lv_room (Nat.le_of_ble_eq_true rfl)) d_Tool_mark_34 ⟨Nat.le_of_ble_eq_true rfl, Nat.le_of_ble_eq_true rfl⟩) hS hF hA (fun r7 u6 H locs hP hS h => ?_)
     refine lv_istore (lv' := [(6, .int r7), (0, .ref (a 8)), (1, .int x1), (2, .int x2), (3, .int x3), (4, .int x4), (5, .int x5)]) hx hb d_Tool_mark_37 hl (by decide) rfl (fun ls hl => ?_)
     refine lv_iload hx hb d_Tool_mark_39 (lv_at hl 0 rfl) ?_
     refine lv_iconst (v := -1) hx hb d_Tool_mark_41 (by decide) ?_
     refine lv_icmp_eq (tgt := 73) hx hb d_Tool_mark_42 (by decide) (fun c8 => ?_) (fun c8 => ?_)
     · have h := h.1 c8
       obtain ⟨t9, et9⟩ : ∃ y : Int32, y = x5 + 1 := ⟨_, rfl⟩
       have h := h t9 et9
       refine lv_iinc (v := t9) (lv' := [(5, .int t9), (6, .int r7), (0, .ref (a 8)), (1, .int x1), (2, .int x2), (3, .int x3), (4, .int x4)]) hx hb d_Tool_mark_73 hl (k := 6) rfl (by rw [et9]; rfl) (by decide) rfl (fun ls hl => ?_)
       refine lv_goto (tgt := 18) hx hb d_Tool_mark_76 (by decide) ?_
       exact ih x1 x2 x3 x4 t9 u6 _ _ _ hP hS (lv_sub hl [2, 3, 4, 5, 6, 0] rfl) h
     · have h := h.2 c8
       refine lv_aload_n hx hb d_Tool_mark_45 rfl (lv_at hl 1 rfl) ?_
       refine va_get (D := D) (ci := 9) (v := .ref (a 34)) (C := R_Tool) (T := T_Tool) (N := 4) hx hb hts in_Tool hown hK hP 8 cw_at_8 rfl 2 (by decide) (hts _ (List.mem_cons_of_mem _ kw_254)) (fun _ h9 => h9) rfl d_Tool_mark_46 ?_
       refine lv_iload hx hb d_Tool_mark_49 (lv_at hl 0 rfl) ?_
       refine va_zald hx hb hK hP 34 1 cw_at_34 rfl h.1 d_Tool_mark_51 ?_
       have h := h.2
       refine lv_if_ne (tgt := 73) hx hb d_Tool_mark_52 (by decide) (fun c10 => ?_) (fun c10 => ?_)
       · have h := h.2 c10
         obtain ⟨t11, et11⟩ : ∃ y : Int32, y = x5 + 1 := ⟨_, rfl⟩
         have h := h t11 et11
         refine lv_iinc (v := t11) (lv' := [(5, .int t11), (6, .int r7), (0, .ref (a 8)), (1, .int x1), (2, .int x2), (3, .int x3), (4, .int x4)]) hx hb d_Tool_mark_73 hl (k := 6) rfl (by rw [et11]; rfl) (by decide) rfl (fun ls hl => ?_)
         refine lv_goto (tgt := 18) hx hb d_Tool_mark_76 (by decide) ?_
         exact ih x1 x2 x3 x4 t11 u6 _ _ _ hP hS (lv_sub hl [2, 3, 4, 5, 6, 0] rfl) h
       · have h := h.1 c10
         refine lv_aload_n hx hb d_Tool_mark_55 rfl (lv_at hl 1 rfl) ?_
         refine va_get (D := D) (ci := 9) (v := .ref (a 34)) (C := R_Tool) (T := T_Tool) (N := 4) hx hb hts in_Tool hown hK hP 8 cw_at_8 rfl 2 (by decide) (hts _ (List.mem_cons_of_mem _ kw_254)) (fun _ h9 => h9) rfl d_Tool_mark_56 ?_
         refine lv_iload hx hb d_Tool_mark_59 (lv_at hl 0 rfl) ?_
         refine lv_iconst (v := 1) hx hb d_Tool_mark_61 (by decide) ?_
         refine va_zast hx hb hK hP (hD _) hS 34 1 cw_at_34 rfl h.1 d_Tool_mark_62 (fun H locs hP _ hS => ?_)
         obtain ⟨u12, eu12⟩ : ∃ z, z = pw_sa u6 20 (upd (u6.2 20) r7.toNatClampNeg (vp_nar .boolean 1)) := ⟨_, rfl⟩
         rw [cw_sa_34, ← eu12] at hP
         have h := h.2 u12 eu12
         refine lv_aload_n hx hb d_Tool_mark_63 rfl (lv_at hl 1 rfl) ?_
         refine lv_dup hx hb d_Tool_mark_64 rfl ?_
         refine va_get (D := D) (ci := 9) (v := .int (u12.1 7)) (C := R_Tool) (T := T_Tool) (N := 4) hx hb hts in_Tool hown hK hP 8 cw_at_8 rfl 3 (by decide) (hts _ (List.mem_cons_of_mem _ kw_255)) (fun _ h9 => h9) rfl d_Tool_mark_65 ?_
         refine lv_iconst (v := 1) hx hb d_Tool_mark_68 (by decide) ?_
         refine lv_iadd hx hb d_Tool_mark_69 ?_
         refine va_put (D := D) (ci := 9) (v := .int ((u12.1 7) + 1)) (ty := .int) (C := R_Tool) (T := T_Tool) (N := 4) hx hb hts in_Tool ty_Tool tyok_Tool nm_Tool hown hK hP (hD _) hS 8 cw_at_8 rfl 3 (by decide) (hts _ (List.mem_cons_of_mem _ kw_255)) (fun _ h9 => h9) rfl (by decide +kernel) rfl rfl (Nat.le_of_ble_eq_true rfl) d_Tool_mark_70 (fun H locs hP _ hS => ?_)
         obtain ⟨u13, eu13⟩ : ∃ z, z = pw_si u12 7 ((u12.1 7) + 1) := ⟨_, rfl⟩
         rw [cw_si_8_3, ← eu13] at hP
         have h := h u13 eu13
         obtain ⟨t14, et14⟩ : ∃ y : Int32, y = x5 + 1 := ⟨_, rfl⟩
         have h := h t14 et14
         refine lv_iinc (v := t14) (lv' := [(5, .int t14), (6, .int r7), (0, .ref (a 8)), (1, .int x1), (2, .int x2), (3, .int x3), (4, .int x4)]) hx hb d_Tool_mark_73 hl (k := 6) rfl (by rw [et14]; rfl) (by decide) rfl (fun ls hl => ?_)
         refine lv_goto (tgt := 18) hx hb d_Tool_mark_76 (by decide) ?_
         exact ih x1 x2 x3 x4 t14 u13 _ _ _ hP hS (lv_sub hl [2, 3, 4, 5, 6, 0] rfl) h
set_option maxHeartbeats 4000000 in
set_option maxRecDepth 100000 in
theorem cp_Tool_mark_5 {p : Program} {l : Launch} {e : Env} {s : State} {m : MethodId} {args : Array Value} {below : List Frame} {meth : Method} {c : Code} {D : va_G} {a : Nat → Nat} {cA cZ : ClassId} {G : pG} {A : Nat → Prop} {Q : pS → Prop} (C : pw_C p s m args meth c b_Tool_mark 7 R_Tool none w_Tool_mark A) (K : pw_K s D 40 a (cT cA cZ) A) : ∀ (n : Nat), ∀ (x1 x2 x3 x4 : Int32) (u : pS) (H : Heap) (locs : List Loc) (ls : Array Slot), va_P D vwCl (cw a cA cZ G u) H → va_S A s.heap H locs → lv_has ls 7 [(0, .ref (a 8)), (1, .int x1), (2, .int x2), (3, .int x3), (4, .int x4)] → lp_Tool_mark_5 G Q n x1 x2 x3 x4 u → W p l e ({ frames := 1, cells := 0, slots := 0, locals := 23 } : Room) s m args below meth c H locs 0 0 (pw_Ev below args s D (cw a cA cZ G) (cT cA cZ) A Q) (F0 m 5 ls []) := by
 obtain ⟨hx, hb, hr, hml, hown, hts, hlocks, hA⟩ := id C
 obtain ⟨hK, hI, hF⟩ := id K
 have hD : ∀ u, va_D A (cw a cA cZ G u) := fun u => cw_D hI hF
 intro n
 induction n with
 | zero => intro x1 x2 x3 x4 u H locs ls hP hS hl h; exact h.elim
 | succ n ih =>
   intro x1 x2 x3 x4 u H locs ls hP hS hl h
   refine lv_iload hx hb d_Tool_mark_5 (lv_at hl 4 rfl) ?_
   refine lv_iload_n hx hb d_Tool_mark_7 rfl (lv_at hl 2 rfl) ?_
   refine lv_iload_n hx hb d_Tool_mark_8 rfl (lv_at hl 3 rfl) ?_
   refine lv_iadd hx hb d_Tool_mark_9 ?_
   refine lv_icmp_gt (tgt := 85) hx hb d_Tool_mark_10 (by decide) (fun c2 => ?_) (fun c2 => ?_)
   · have h := h.1 c2
     exact W.vret hx hb hr (fun t ht hW => ⟨⟨u, rfl, h, by rw [ht]; exact hP, va_K.moved hW.alike hK⟩, hS.F ht⟩) hS.2.2 d_Tool_mark_85 hlocks
   · have h := h.2 c2
     refine lv_iload_n hx hb d_Tool_mark_13 rfl (lv_at hl 1 rfl) ?_
     refine lv_iload_n hx hb d_Tool_mark_14 rfl (lv_at hl 3 rfl) ?_
     refine lv_isub hx hb d_Tool_mark_15 ?_
     refine lv_topi (fun t3 et3 => ?_)
     have h := h t3 et3
     refine lv_istore (lv' := [(5, .int t3), (0, .ref (a 8)), (1, .int x1), (2, .int x2), (3, .int x3), (4, .int x4)]) hx hb d_Tool_mark_16 hl (by decide) rfl (fun ls hl => ?_)
     obtain ⟨n1, h⟩ := h
     exact cp_Tool_mark_18 C K ih n1 x1 x2 x3 x4 t3 u _ _ _ hP hS (lv_sub hl [1, 2, 3, 4, 5, 0] rfl) h
set_option maxHeartbeats 4000000 in
set_option maxRecDepth 100000 in
theorem st_Tool_mark {p : Program} {l : Launch} {e : Env} {s : State} {m : MethodId} {args : Array Value} {below : List Frame} {meth : Method} {c : Code} {D : va_G} {a : Nat → Nat} {cA cZ : ClassId} {G : pG} {A : Nat → Prop} {Q : pS → Prop} (C : pw_C p s m args meth c b_Tool_mark 7 R_Tool none w_Tool_mark A) (K : pw_K s D 40 a (cT cA cZ) A) (x1 x2 x3 : Int32) (u : pS) (ls : Array Slot) (hP : va_P D vwCl (cw a cA cZ G u) s.heap) (hl : lv_has ls 7 [(0, .ref (a 8)), (1, .int x1), (2, .int x2), (3, .int x3)]) (h : wp_Tool_mark G x1 x2 x3 u Q) : W p l e ({ frames := 1, cells := 0, slots := 0, locals := 23 } : Room) s m args below meth c s.heap [] 0 0 (pw_Ev below args s D (cw a cA cZ G) (cT cA cZ) A Q) (F0 m 0 ls []) := by
 obtain ⟨hx, hb, hr, hml, hown, hts, hlocks, hA⟩ := id C
 obtain ⟨hK, hI, hF⟩ := id K
 have hD : ∀ u, va_D A (cw a cA cZ G u) := fun u => cw_D hI hF
 have hS : va_S A s.heap s.heap [] := va_S.rf
 have h : wp_Tool_mark G x1 x2 x3 u Q := h
 refine lv_iload_n hx hb d_Tool_mark_0 rfl (lv_at hl 2 rfl) ?_
 refine lv_iload_n hx hb d_Tool_mark_1 rfl (lv_at hl 3 rfl) ?_
 refine lv_isub hx hb d_Tool_mark_2 ?_
 refine lv_topi (fun t1 et1 => ?_)
 have h := h t1 et1
 refine lv_istore (lv' := [(4, .int t1), (0, .ref (a 8)), (1, .int x1), (2, .int x2), (3, .int x3)]) hx hb d_Tool_mark_3 hl (by decide) rfl (fun ls hl => ?_)
 obtain ⟨n1, h⟩ := h
 exact cp_Tool_mark_5 C K n1 x1 x2 x3 t1 u _ _ _ hP hS (lv_sub hl [1, 2, 3, 4, 0] rfl) h
set_option maxHeartbeats 4000000 in
set_option maxRecDepth 100000 in
theorem ct_Tool_mark (l : Launch) (D : va_G) (a : Nat → Nat) (cA cZ : ClassId) (G : pG) (sz : Nat) (x1 x2 x3 : Int32) (u : pS) (Q : pS → Prop) (hI : pw_I 40 a) (h : wp_Tool_mark G x1 x2 x3 u Q) : Met l y_Tool_mark w_Tool_mark ({ frames := 1, cells := 0, slots := 0, locals := 23 } : Room) (va_Pc [.ref (a 8), .int x1, .int x2, .int x3] (pw_pre D (cw a cA cZ G) (cT cA cZ) sz u)) (va_Qv (fun (u : pS) => Q u) (pw_B D (cw a cA cZ G) (cT cA cZ)) (pw_F 40 a sz)) 0 0 (pw_F 40 a sz) := by
 refine Met.ofW (cc := b_Tool_mark) (maxL := 7) (ret := none) (by decide) rfl ?_
 intro p e s m args below meth c s₁ B hml hv
 obtain ⟨rfl, hsz, hP, hK⟩ := hv
 subst hsz
 have hl := lv_entry ([.ref (a 8), .int x1, .int x2, .int x3]) (n := 7) (Nat.le_of_ble_eq_true rfl)
 rw [lg_entry_eq]
 generalize (lg_sl ([.ref (a 8), .int x1, .int x2, .int x3]) ++ List.replicate (7 - (lg_sl ([.ref (a 8), .int x1, .int x2, .int x3])).length) Slot.unset).toArray = ls at hl ⊢
 exact st_Tool_mark (A := (pw_F 40 a s.heap.size)) ⟨B.exec, B.bytes, B.returns, hml, findClass_of_methodNamed B.named, atoms_spec (ws := w_Tool_mark) B.pre, B.notSynchronized, fun q hq => Or.inr hq⟩ ⟨hK, hI, fun k hk => Or.inl ⟨k, hk, rfl⟩⟩ x1 x2 x3 u ls hP hl h
set_option maxHeartbeats 4000000 in
set_option maxRecDepth 100000 in
theorem cp_Tool_cover_49 {p : Program} {l : Launch} {e : Env} {s : State} {m : MethodId} {args : Array Value} {below : List Frame} {meth : Method} {c : Code} {D : va_G} {a : Nat → Nat} {cA cZ : ClassId} {G : pG} {A : Nat → Prop} {Q : pS → Prop} (C : pw_C p s m args meth c b_Tool_cover 5 R_Tool none w_Tool_cover A) (K : pw_K s D 40 a (cT cA cZ) A) {k33 : Int32 → Int32 → Int32 → pS → Prop} (hk33 : ∀ (x1 x2 x3 : Int32) (u : pS) (H : Heap) (locs : List Loc) (ls : Array Slot), va_P D vwCl (cw a cA cZ G u) H → va_S A s.heap H locs → lv_has ls 5 [(0, .ref (a 8)), (1, .int x1), (2, .int x2), (3, .int x3)] → k33 x1 x2 x3 u → W p l e ({ frames := 3, cells := 0, slots := 0, locals := 72 } : Room) s m args below meth c H locs 0 0 (pw_Ev below args s D (cw a cA cZ G) (cT cA cZ) A Q) (F0 m 33 ls [])) : ∀ (n : Nat), ∀ (x1 x2 x3 x4 : Int32) (u : pS) (H : Heap) (locs : List Loc) (ls : Array Slot), va_P D vwCl (cw a cA cZ G u) H → va_S A s.heap H locs → lv_has ls 5 [(0, .ref (a 8)), (1, .int x1), (2, .int x2), (3, .int x3), (4, .int x4)] → lp_Tool_cover_49 G Q k33 n x1 x2 x3 x4 u → W p l e ({ frames := 3, cells := 0, slots := 0, locals := 72 } : Room) s m args below meth c H locs 0 0 (pw_Ev below args s D (cw a cA cZ G) (cT cA cZ) A Q) (F0 m 49 ls []) := by
 obtain ⟨hx, hb, hr, hml, hown, hts, hlocks, hA⟩ := id C
 obtain ⟨hK, hI, hF⟩ := id K
 have hD : ∀ u, va_D A (cw a cA cZ G u) := fun u => cw_D hI hF
 intro n
 induction n with
 | zero => intro x1 x2 x3 x4 u H locs ls hP hS hl h; exact h.elim
 | succ n ih =>
   intro x1 x2 x3 x4 u H locs ls hP hS hl h
   refine lv_iload hx hb d_Tool_cover_49 (lv_at hl 4 rfl) ?_
   refine lv_aload_n hx hb d_Tool_cover_51 rfl (lv_at hl 0 rfl) ?_
   refine va_get (D := D) (ci := 9) (v := .ref (a 1)) (C := R_Tool) (T := T_Tool) (N := 4) hx hb hts in_Tool hown hK hP 8 cw_at_8 rfl 0 (by decide) (hts _ (List.mem_cons_of_mem _ kw_252)) (fun _ h9 => h9) rfl d_Tool_cover_52 ?_
   refine va_get (D := D) (ci := 4) (v := .int (G.2.1 1)) (C := R_Grid) (T := T_Grid) (N := 6) hx hb hts in_Grid hown hK hP 1 cw_at_1 rfl 0 (by decide) (hts _ (List.mem_cons_of_mem _ kw_99)) (fun _ h9 => h9) rfl d_Tool_cover_55 ?_
   refine lv_iload_n hx hb d_Tool_cover_58 rfl (lv_at hl 2 rfl) ?_
   refine lv_isub hx hb d_Tool_cover_59 ?_
   refine lv_icmp_ge (tgt := 89) hx hb d_Tool_cover_60 (by decide) (fun c4 => ?_) (fun c4 => ?_)
   · have h := h.1 c4
     obtain ⟨t5, et5⟩ : ∃ y : Int32, y = x3 + 1 := ⟨_, rfl⟩
     have h := h t5 et5
     refine lv_iinc (v := t5) (lv' := [(3, .int t5), (0, .ref (a 8)), (1, .int x1), (2, .int x2), (4, .int x4)]) hx hb d_Tool_cover_89 hl (k := 3) rfl (by rw [et5]; rfl) (by decide) rfl (fun ls hl => ?_)
     refine lv_goto (tgt := 33) hx hb d_Tool_cover_92 (by decide) ?_
     exact hk33 x1 x2 t5 u _ _ _ hP hS (lv_sub hl [1, 2, 3, 0] rfl) h
   · have h := h.2 c4
     refine lv_aload_n hx hb d_Tool_cover_63 rfl (lv_at hl 0 rfl) ?_
     refine lv_iload_n hx hb d_Tool_cover_64 rfl (lv_at hl 1 rfl) ?_
     refine lv_iload hx hb d_Tool_cover_65 (lv_at hl 4 rfl) ?_
     refine lv_iload_n hx hb d_Tool_cover_67 rfl (lv_at hl 3 rfl) ?_
     refine lv_iload_n hx hb d_Tool_cover_68 rfl (lv_at hl 2 rfl) ?_
     refine cc_i (va_runV (As := [.int x1, .int x4, .int x3, .int x2]) (rest := []) ⟨hx, hb, hml, hown, hts⟩ (ct_Tool_fits l D a cA cZ G _ x1 x4 x3 x2 u _ hI h) (pw_cwV 4 hts kw_729 kw_54 kw_726 kw_728 kw_17 (by decide +kernel) ⟨Nat.le_of_ble_eq_true rfl, Nat.le_of_ble_eq_true rfl⟩) ⟨pw_blind, va_recv hK hP (ci := 9) (q0 := 8) rfl cw_at_8, fun U hU hW => ⟨rfl, by rw [hU], by rw [hU]; exact hP, va_K.moved hW.alike hK⟩⟩ rfl rfl hl.1 rfl (lv_room (Nat.le_of_ble_eq_true rfl)) d_Tool_cover_69 ⟨Nat.le_of_ble_eq_true rfl, Nat.le_of_ble_eq_true rfl⟩) hS hF hA (fun r7 u6 H locs hP hS h => ?_)
     refine lv_if_eq (tgt := 83) hx hb d_Tool_cover_72 (by decide) (fun c8 => ?_) (fun c8 => ?_)
     · have h := h.1 c8
       obtain ⟨t9, et9⟩ : ∃ y : Int32, y = x4 + 1 := ⟨_, rfl⟩
       have h := h t9 et9
       refine lv_iinc (v := t9) (lv' := [(4, .int t9), (0, .ref (a 8)), (1, .int x1), (2, .int x2), (3, .int x3)]) hx hb d_Tool_cover_83 hl (k := 4) rfl (by rw [et9]; rfl) (by decide) rfl (fun ls hl => ?_)
       refine lv_goto (tgt := 49) hx hb d_Tool_cover_86 (by decide) ?_
       exact ih x1 x2 x3 t9 u6 _ _ _ hP hS (lv_sub hl [1, 2, 3, 4, 0] rfl) h
     · have h := h.2 c8
       refine lv_aload_n hx hb d_Tool_cover_75 rfl (lv_at hl 0 rfl) ?_
       refine lv_iload hx hb d_Tool_cover_76 (lv_at hl 4 rfl) ?_
       refine lv_iload_n hx hb d_Tool_cover_78 rfl (lv_at hl 3 rfl) ?_
       refine lv_iload_n hx hb d_Tool_cover_79 rfl (lv_at hl 2 rfl) ?_
       refine cc_v (va_runV (As := [.int x4, .int x3, .int x2]) (rest := []) ⟨hx, hb, hml, hown, hts⟩ (ct_Tool_mark l D a cA cZ G _ x4 x3 x2 u6 _ hI h) (pw_cwV 3 hts kw_734 kw_54 kw_731 kw_733 kw_18 (by decide +kernel) ⟨Nat.le_of_ble_eq_true rfl, Nat.le_of_ble_eq_true rfl⟩) ⟨pw_blind, va_recv hK hP (ci := 9) (q0 := 8) rfl cw_at_8, fun U hU hW => ⟨rfl, by rw [hU], by rw [hU]; exact hP, va_K.moved hW.alike hK⟩⟩ rfl rfl hl.1 rfl (lv_room (Nat.le_of_ble_eq_true rfl)) d_Tool_cover_80 ⟨Nat.le_of_ble_eq_true rfl, Nat.le_of_ble_eq_true rfl⟩) hS hF hA (fun u10 H locs hP hS h => ?_)
       obtain ⟨t11, et11⟩ : ∃ y : Int32, y = x4 + 1 := ⟨_, rfl⟩
       have h := h t11 et11
       refine lv_iinc (v := t11) (lv' := [(4, .int t11), (0, .ref (a 8)), (1, .int x1), (2, .int x2), (3, .int x3)]) hx hb d_Tool_cover_83 hl (k := 4) rfl (by rw [et11]; rfl) (by decide) rfl (fun ls hl => ?_)
       refine lv_goto (tgt := 49) hx hb d_Tool_cover_86 (by decide) ?_
       exact ih x1 x2 x3 t11 u10 _ _ _ hP hS (lv_sub hl [1, 2, 3, 4, 0] rfl) h
set_option maxHeartbeats 4000000 in
set_option maxRecDepth 100000 in
theorem cp_Tool_cover_33 {p : Program} {l : Launch} {e : Env} {s : State} {m : MethodId} {args : Array Value} {below : List Frame} {meth : Method} {c : Code} {D : va_G} {a : Nat → Nat} {cA cZ : ClassId} {G : pG} {A : Nat → Prop} {Q : pS → Prop} (C : pw_C p s m args meth c b_Tool_cover 5 R_Tool none w_Tool_cover A) (K : pw_K s D 40 a (cT cA cZ) A) : ∀ (n : Nat), ∀ (x1 x2 x3 : Int32) (u : pS) (H : Heap) (locs : List Loc) (ls : Array Slot), va_P D vwCl (cw a cA cZ G u) H → va_S A s.heap H locs → lv_has ls 5 [(0, .ref (a 8)), (1, .int x1), (2, .int x2), (3, .int x3)] → lp_Tool_cover_33 G Q n x1 x2 x3 u → W p l e ({ frames := 3, cells := 0, slots := 0, locals := 72 } : Room) s m args below meth c H locs 0 0 (pw_Ev below args s D (cw a cA cZ G) (cT cA cZ) A Q) (F0 m 33 ls []) := by
 obtain ⟨hx, hb, hr, hml, hown, hts, hlocks, hA⟩ := id C
 obtain ⟨hK, hI, hF⟩ := id K
 have hD : ∀ u, va_D A (cw a cA cZ G u) := fun u => cw_D hI hF
 intro n
 induction n with
 | zero => intro x1 x2 x3 u H locs ls hP hS hl h; exact h.elim
 | succ n ih =>
   intro x1 x2 x3 u H locs ls hP hS hl h
   refine lv_iload_n hx hb d_Tool_cover_33 rfl (lv_at hl 3 rfl) ?_
   refine lv_aload_n hx hb d_Tool_cover_34 rfl (lv_at hl 0 rfl) ?_
   refine va_get (D := D) (ci := 9) (v := .ref (a 1)) (C := R_Tool) (T := T_Tool) (N := 4) hx hb hts in_Tool hown hK hP 8 cw_at_8 rfl 0 (by decide) (hts _ (List.mem_cons_of_mem _ kw_252)) (fun _ h9 => h9) rfl d_Tool_cover_35 ?_
   refine va_get (D := D) (ci := 4) (v := .int (G.2.1 2)) (C := R_Grid) (T := T_Grid) (N := 6) hx hb hts in_Grid hown hK hP 1 cw_at_1 rfl 1 (by decide) (hts _ (List.mem_cons_of_mem _ kw_104)) (fun _ h9 => h9) rfl d_Tool_cover_38 ?_
   refine lv_iload_n hx hb d_Tool_cover_41 rfl (lv_at hl 2 rfl) ?_
   refine lv_isub hx hb d_Tool_cover_42 ?_
   refine lv_icmp_ge (tgt := 95) hx hb d_Tool_cover_43 (by decide) (fun c3 => ?_) (fun c3 => ?_)
   · have h := h.1 c3
     exact W.vret hx hb hr (fun t ht hW => ⟨⟨u, rfl, h, by rw [ht]; exact hP, va_K.moved hW.alike hK⟩, hS.F ht⟩) hS.2.2 d_Tool_cover_95 hlocks
   · have h := h.2 c3
     refine lv_iload_n hx hb d_Tool_cover_46 rfl (lv_at hl 2 rfl) ?_
     refine lv_istore (lv' := [(4, .int x2), (0, .ref (a 8)), (1, .int x1), (2, .int x2), (3, .int x3)]) hx hb d_Tool_cover_47 hl (by decide) rfl (fun ls hl => ?_)
     obtain ⟨n1, h⟩ := h
     exact cp_Tool_cover_49 C K ih n1 x1 x2 x3 x2 u _ _ _ hP hS (lv_sub hl [1, 2, 3, 4, 0] rfl) h
set_option maxHeartbeats 4000000 in
set_option maxRecDepth 100000 in
theorem cp_Tool_cover_2 {p : Program} {l : Launch} {e : Env} {s : State} {m : MethodId} {args : Array Value} {below : List Frame} {meth : Method} {c : Code} {D : va_G} {a : Nat → Nat} {cA cZ : ClassId} {G : pG} {A : Nat → Prop} {Q : pS → Prop} (C : pw_C p s m args meth c b_Tool_cover 5 R_Tool none w_Tool_cover A) (K : pw_K s D 40 a (cT cA cZ) A) : ∀ (n : Nat), ∀ (x1 x2 x3 : Int32) (u : pS) (H : Heap) (locs : List Loc) (ls : Array Slot), va_P D vwCl (cw a cA cZ G u) H → va_S A s.heap H locs → lv_has ls 5 [(0, .ref (a 8)), (1, .int x1), (2, .int x2), (3, .int x3)] → lp_Tool_cover_2 G Q n x1 x2 x3 u → W p l e ({ frames := 3, cells := 0, slots := 0, locals := 72 } : Room) s m args below meth c H locs 0 0 (pw_Ev below args s D (cw a cA cZ G) (cT cA cZ) A Q) (F0 m 2 ls []) := by
 obtain ⟨hx, hb, hr, hml, hown, hts, hlocks, hA⟩ := id C
 obtain ⟨hK, hI, hF⟩ := id K
 have hD : ∀ u, va_D A (cw a cA cZ G u) := fun u => cw_D hI hF
 intro n
 induction n with
 | zero => intro x1 x2 x3 u H locs ls hP hS hl h; exact h.elim
 | succ n ih =>
   intro x1 x2 x3 u H locs ls hP hS hl h
   refine lv_iload_n hx hb d_Tool_cover_2 rfl (lv_at hl 3 rfl) ?_
   refine lv_aload_n hx hb d_Tool_cover_3 rfl (lv_at hl 0 rfl) ?_
   refine va_get (D := D) (ci := 9) (v := .ref (a 1)) (C := R_Tool) (T := T_Tool) (N := 4) hx hb hts in_Tool hown hK hP 8 cw_at_8 rfl 0 (by decide) (hts _ (List.mem_cons_of_mem _ kw_252)) (fun _ h9 => h9) rfl d_Tool_cover_4 ?_
   refine va_get (D := D) (ci := 4) (v := .int (G.2.1 3)) (C := R_Grid) (T := T_Grid) (N := 6) hx hb hts in_Grid hown hK hP 1 cw_at_1 rfl 2 (by decide) (hts _ (List.mem_cons_of_mem _ kw_109)) (fun _ h9 => h9) rfl d_Tool_cover_7 ?_
   refine lv_icmp_ge (tgt := 26) hx hb d_Tool_cover_10 (by decide) (fun c1 => ?_) (fun c1 => ?_)
   · have h := h.1 c1
     refine lv_aload_n hx hb d_Tool_cover_26 rfl (lv_at hl 0 rfl) ?_
     refine lv_iconst (v := 0) hx hb d_Tool_cover_27 (by decide) ?_
     refine va_put (D := D) (ci := 9) (v := .int 0) (ty := .int) (C := R_Tool) (T := T_Tool) (N := 4) hx hb hts in_Tool ty_Tool tyok_Tool nm_Tool hown hK hP (hD _) hS 8 cw_at_8 rfl 3 (by decide) (hts _ (List.mem_cons_of_mem _ kw_255)) (fun _ h9 => h9) rfl (by decide +kernel) rfl rfl (Nat.le_of_ble_eq_true rfl) d_Tool_cover_28 (fun H locs hP _ hS => ?_)
     obtain ⟨u2, eu2⟩ : ∃ z, z = pw_si u 7 0 := ⟨_, rfl⟩
     rw [cw_si_8_3, ← eu2] at hP
     have h := h u2 eu2
     refine lv_iload_n hx hb d_Tool_cover_31 rfl (lv_at hl 2 rfl) ?_
     refine lv_istore_n (lv' := [(3, .int x2), (0, .ref (a 8)), (1, .int x1), (2, .int x2)]) hx hb d_Tool_cover_32 rfl hl (by decide) rfl (fun ls hl => ?_)
     obtain ⟨n1, h⟩ := h
     exact cp_Tool_cover_33 C K n1 x1 x2 x2 u2 _ _ _ hP hS (lv_sub hl [1, 2, 3, 0] rfl) h
   · have h := h.2 c1
     refine lv_aload_n hx hb d_Tool_cover_13 rfl (lv_at hl 0 rfl) ?_
     refine va_get (D := D) (ci := 9) (v := .ref (a 34)) (C := R_Tool) (T := T_Tool) (N := 4) hx hb hts in_Tool hown hK hP 8 cw_at_8 rfl 2 (by decide) (hts _ (List.mem_cons_of_mem _ kw_254)) (fun _ h9 => h9) rfl d_Tool_cover_14 ?_
     refine lv_iload_n hx hb d_Tool_cover_17 rfl (lv_at hl 3 rfl) ?_
     refine lv_iconst (v := 0) hx hb d_Tool_cover_18 (by decide) ?_
     refine va_zast hx hb hK hP (hD _) hS 34 1 cw_at_34 rfl h.1 d_Tool_cover_19 (fun H locs hP _ hS => ?_)
     obtain ⟨u12, eu12⟩ : ∃ z, z = pw_sa u 20 (upd (u.2 20) x3.toNatClampNeg (vp_nar .boolean 0)) := ⟨_, rfl⟩
     rw [cw_sa_34, ← eu12] at hP
     have h := h.2 u12 eu12
     obtain ⟨t13, et13⟩ : ∃ y : Int32, y = x3 + 1 := ⟨_, rfl⟩
     have h := h t13 et13
     refine lv_iinc (v := t13) (lv' := [(3, .int t13), (0, .ref (a 8)), (1, .int x1), (2, .int x2)]) hx hb d_Tool_cover_20 hl (k := 3) rfl (by rw [et13]; rfl) (by decide) rfl (fun ls hl => ?_)
     refine lv_goto (tgt := 2) hx hb d_Tool_cover_23 (by decide) ?_
     exact ih x1 x2 t13 u12 _ _ _ hP hS (lv_sub hl [1, 2, 3, 0] rfl) h
set_option maxHeartbeats 4000000 in
set_option maxRecDepth 100000 in
theorem st_Tool_cover {p : Program} {l : Launch} {e : Env} {s : State} {m : MethodId} {args : Array Value} {below : List Frame} {meth : Method} {c : Code} {D : va_G} {a : Nat → Nat} {cA cZ : ClassId} {G : pG} {A : Nat → Prop} {Q : pS → Prop} (C : pw_C p s m args meth c b_Tool_cover 5 R_Tool none w_Tool_cover A) (K : pw_K s D 40 a (cT cA cZ) A) (x1 x2 : Int32) (u : pS) (ls : Array Slot) (hP : va_P D vwCl (cw a cA cZ G u) s.heap) (hl : lv_has ls 5 [(0, .ref (a 8)), (1, .int x1), (2, .int x2)]) (h : wp_Tool_cover G x1 x2 u Q) : W p l e ({ frames := 3, cells := 0, slots := 0, locals := 72 } : Room) s m args below meth c s.heap [] 0 0 (pw_Ev below args s D (cw a cA cZ G) (cT cA cZ) A Q) (F0 m 0 ls []) := by
 obtain ⟨hx, hb, hr, hml, hown, hts, hlocks, hA⟩ := id C
 obtain ⟨hK, hI, hF⟩ := id K
 have hD : ∀ u, va_D A (cw a cA cZ G u) := fun u => cw_D hI hF
 have hS : va_S A s.heap s.heap [] := va_S.rf
 have h : wp_Tool_cover G x1 x2 u Q := h
 refine lv_iconst (v := 0) hx hb d_Tool_cover_0 (by decide) ?_
 refine lv_istore_n (lv' := [(3, .int 0), (0, .ref (a 8)), (1, .int x1), (2, .int x2)]) hx hb d_Tool_cover_1 rfl hl (by decide) rfl (fun ls hl => ?_)
 obtain ⟨n1, h⟩ := h
 exact cp_Tool_cover_2 C K n1 x1 x2 0 u _ _ _ hP hS (lv_sub hl [1, 2, 3, 0] rfl) h
set_option maxHeartbeats 4000000 in
set_option maxRecDepth 100000 in
theorem ct_Tool_cover (l : Launch) (D : va_G) (a : Nat → Nat) (cA cZ : ClassId) (G : pG) (sz : Nat) (x1 x2 : Int32) (u : pS) (Q : pS → Prop) (hI : pw_I 40 a) (h : wp_Tool_cover G x1 x2 u Q) : Met l y_Tool_cover w_Tool_cover ({ frames := 3, cells := 0, slots := 0, locals := 72 } : Room) (va_Pc [.ref (a 8), .int x1, .int x2] (pw_pre D (cw a cA cZ G) (cT cA cZ) sz u)) (va_Qv (fun (u : pS) => Q u) (pw_B D (cw a cA cZ G) (cT cA cZ)) (pw_F 40 a sz)) 0 0 (pw_F 40 a sz) := by
 refine Met.ofW (cc := b_Tool_cover) (maxL := 5) (ret := none) (by decide) rfl ?_
 intro p e s m args below meth c s₁ B hml hv
 obtain ⟨rfl, hsz, hP, hK⟩ := hv
 subst hsz
 have hl := lv_entry ([.ref (a 8), .int x1, .int x2]) (n := 5) (Nat.le_of_ble_eq_true rfl)
 rw [lg_entry_eq]
 generalize (lg_sl ([.ref (a 8), .int x1, .int x2]) ++ List.replicate (5 - (lg_sl ([.ref (a 8), .int x1, .int x2])).length) Slot.unset).toArray = ls at hl ⊢
 exact st_Tool_cover (A := (pw_F 40 a s.heap.size)) ⟨B.exec, B.bytes, B.returns, hml, findClass_of_methodNamed B.named, atoms_spec (ws := w_Tool_cover) B.pre, B.notSynchronized, fun q hq => Or.inr hq⟩ ⟨hK, hI, fun k hk => Or.inl ⟨k, hk, rfl⟩⟩ x1 x2 u ls hP hl h
set_option maxHeartbeats 4000000 in
set_option maxRecDepth 100000 in
theorem st_PI_left {p : Program} {l : Launch} {e : Env} {s : State} {m : MethodId} {args : Array Value} {below : List Frame} {meth : Method} {c : Code} {D : va_G} {a : Nat → Nat} {cA cZ : ClassId} {G : pG} {A : Nat → Prop} {Q : Int32 → pS → Prop} {X : Nat → pS → Prop} (C : pw_C p s m args meth c b_PI_left 3 R_PI (some .int) w_PI_left A) (K : pw_K s D 40 a (cT cA cZ) A) (EX : cw_Ex A s) (hL : px_L l) (htr : e.platform.stackTraces = false) (hE : ∀ (pc : Nat), ∀ x ∈ c.exceptionTable.toList, covers x pc = false) (x1 x2 : Int32) (u : pS) (ls : Array Slot) (hP : va_P D vwCl (cw a cA cZ G u) s.heap) (hl : lv_has ls 3 [(0, .ref (a 0)), (1, .int x1), (2, .int x2)]) (h : wp_PI_left G x1 x2 u Q X) : W p l e ({ frames := 8, cells := 1, slots := 6, locals := 124 } : Room) s m args below meth c s.heap [] 0 0 (px_Ei below args s D (cw a cA cZ G) (cT cA cZ) A Q X) (F0 m 0 ls []) := by
 obtain ⟨hx, hb, hr, hml, hown, hts, hlocks, hA⟩ := id C
 obtain ⟨hK, hI, hF⟩ := id K
 have hD : ∀ u, va_D A (cw a cA cZ G u) := fun u => cw_D hI hF
 have hz : ∀ oc t, px_T X (pw_B D (cw a cA cZ G) (cT cA cZ)) oc t → va_F A s t → (px_Qi Q X (pw_B D (cw a cA cZ G) (cT cA cZ)) A) args s oc t := fun oc t h1 h2 => ⟨Or.inr h1, h2⟩
 have hS : va_S A s.heap s.heap [] := va_S.rf
 have h : wp_PI_left G x1 x2 u Q X := h
 refine lv_aload_n hx hb d_PI_left_0 rfl (lv_at hl 0 rfl) ?_
 refine lv_iload_n hx hb d_PI_left_1 rfl (lv_at hl 1 rfl) ?_
 refine cx_v (px_runV (As := [.int x1]) (rest := []) ⟨hx, hb, hml, hown, hts⟩ (ct_PI_needPiece l D a cA cZ G _ x1 u _ _ hL hI h) (pw_cwV 1 hts kw_643 kw_45 kw_640 kw_642 kw_13 (by decide +kernel) ⟨Nat.le_of_ble_eq_true rfl, Nat.le_of_ble_eq_true rfl⟩) ⟨cw_blindX, va_recv hK hP (ci := 0) (q0 := 0) rfl cw_at_0, fun U hU hW => ⟨rfl, ⟨by rw [hU], by rw [hU]; exact hP, va_K.moved hW.alike hK⟩, cw_Ex_call EX hS (pw_FA hS hF hA) hU hW⟩⟩ rfl rfl hl.1 rfl (lv_room (Nat.le_of_ble_eq_true rfl)) d_PI_left_2 ⟨Nat.le_of_ble_eq_true rfl, Nat.le_of_ble_eq_true rfl⟩) hS hF hA (hE _) hlocks hz (fun u1 H locs hP hS h => ?_)
 refine lv_iload_n hx hb d_PI_left_5 rfl (lv_at hl 2 rfl) ?_
 refine lv_iconst (v := 0) hx hb d_PI_left_6 (by decide) ?_
 refine lv_bipush (v := 10) hx hb d_PI_left_7 (by decide) ?_
 refine cx_v (px_runS (As := [.int x2, .int 0, .int 10]) (rest := []) ⟨hx, hb, hml, hown, hts⟩ (ct_PI_needNumber l D a cA cZ G _ x2 0 10 u1 _ _ hL hI h) (pw_cwS 3 hts kw_441 kw_45 kw_439 kw_440 (by decide +kernel) ⟨Nat.le_of_ble_eq_true rfl, Nat.le_of_ble_eq_true rfl⟩) ⟨cw_blindX, fun U hU hW => ⟨rfl, ⟨by rw [hU], by rw [hU]; exact hP, va_K.moved hW.alike hK⟩, cw_Ex_call EX hS (pw_FA hS hF hA) hU hW⟩⟩ rfl rfl hl.1 rfl (lv_room (Nat.le_of_ble_eq_true rfl)) d_PI_left_9 ⟨Nat.le_of_ble_eq_true rfl, Nat.le_of_ble_eq_true rfl⟩) hS hF hA (hE _) hlocks hz (fun u2 H locs hP hS h => ?_)
 refine lv_aload_n hx hb d_PI_left_12 rfl (lv_at hl 0 rfl) ?_
 refine va_get (D := D) (ci := 0) (v := .ref (a 8)) (C := R_PI) (T := T_PI) (N := 12) hx hb hts in_PI hown hK hP 0 cw_at_0 rfl 8 (by decide) (hts _ (List.mem_cons_of_mem _ kw_320)) (fun _ h9 => h9) rfl d_PI_left_13 ?_
 refine lv_iload_n hx hb d_PI_left_16 rfl (lv_at hl 1 rfl) ?_
 refine lv_iload_n hx hb d_PI_left_17 rfl (lv_at hl 2 rfl) ?_
 refine cc_v (va_runV (As := [.int x1, .int x2]) (rest := []) ⟨hx, hb, hml, hown, hts⟩ (ct_Tool_cover l D a cA cZ G _ x1 x2 u2 _ hI h) (pw_cwV 2 hts kw_725 kw_54 kw_722 kw_723 kw_724 (by decide +kernel) ⟨Nat.le_of_ble_eq_true rfl, Nat.le_of_ble_eq_true rfl⟩) ⟨pw_blind, va_recv hK hP (ci := 9) (q0 := 8) rfl cw_at_8, fun U hU hW => ⟨rfl, by rw [hU], by rw [hU]; exact hP, va_K.moved hW.alike hK⟩⟩ rfl rfl hl.1 rfl (lv_room (Nat.le_of_ble_eq_true rfl)) d_PI_left_18 ⟨Nat.le_of_ble_eq_true rfl, Nat.le_of_ble_eq_true rfl⟩) hS hF hA (fun u3 H locs hP hS h => ?_)
 refine lv_aload_n hx hb d_PI_left_21 rfl (lv_at hl 0 rfl) ?_
 refine va_get (D := D) (ci := 0) (v := .ref (a 4)) (C := R_PI) (T := T_PI) (N := 12) hx hb hts in_PI hown hK hP 0 cw_at_0 rfl 4 (by decide) (hts _ (List.mem_cons_of_mem _ kw_316)) (fun _ h9 => h9) rfl d_PI_left_22 ?_
 refine lv_iload_n hx hb d_PI_left_25 rfl (lv_at hl 1 rfl) ?_
 refine cc_i (va_runV (As := [.int x1]) (rest := []) ⟨hx, hb, hml, hown, hts⟩ (ct_Pieces_sizeOf l D a cA cZ G _ x1 u3 _ hI h) (pw_cwV 1 hts kw_598 kw_49 kw_645 kw_596 kw_597 (by decide +kernel) ⟨Nat.le_of_ble_eq_true rfl, Nat.le_of_ble_eq_true rfl⟩) ⟨pw_blind, va_recv hK hP (ci := 7) (q0 := 4) rfl cw_at_4, fun U hU hW => ⟨rfl, by rw [hU], by rw [hU]; exact hP, va_K.moved hW.alike hK⟩⟩ rfl rfl hl.1 rfl (lv_room (Nat.le_of_ble_eq_true rfl)) d_PI_left_26 ⟨Nat.le_of_ble_eq_true rfl, Nat.le_of_ble_eq_true rfl⟩) hS hF hA (fun r5 u4 H locs hP hS h => ?_)
 refine lv_aload_n hx hb d_PI_left_29 rfl (lv_at hl 0 rfl) ?_
 refine va_get (D := D) (ci := 0) (v := .ref (a 8)) (C := R_PI) (T := T_PI) (N := 12) hx hb hts in_PI hown hK hP 0 cw_at_0 rfl 8 (by decide) (hts _ (List.mem_cons_of_mem _ kw_320)) (fun _ h9 => h9) rfl d_PI_left_30 ?_
 refine va_get (D := D) (ci := 9) (v := .int (u4.1 7)) (C := R_Tool) (T := T_Tool) (N := 4) hx hb hts in_Tool hown hK hP 8 cw_at_8 rfl 3 (by decide) (hts _ (List.mem_cons_of_mem _ kw_256)) (fun _ h9 => h9) rfl d_PI_left_33 ?_
 refine lv_isub hx hb d_PI_left_36 ?_
 exact px_mono (fun t h => px_ofMQ (fun _ _ h => h) h) (W.iret (Qc := px_Qi Q X (pw_B D (cw a cA cZ G) (cT cA cZ)) A) (v := (r5 - (u4.1 7))) hx hb hr (fun t ht hW => ⟨Or.inl ⟨(r5 - (u4.1 7)), u4, rfl, h, by rw [ht]; exact hP, va_K.moved hW.alike hK⟩, hS.F ht⟩) hS.2.2 d_PI_left_37 hlocks)
set_option maxHeartbeats 4000000 in
set_option maxRecDepth 100000 in
theorem ct_PI_left (l : Launch) (D : va_G) (a : Nat → Nat) (cA cZ : ClassId) (G : pG) (sz : Nat) (x1 x2 : Int32) (u : pS) (Q : Int32 → pS → Prop) (X : Nat → pS → Prop) (hL : px_L l) (hI : pw_I 40 a) (h : wp_PI_left G x1 x2 u Q X) : px_Met l y_PI_left w_PI_left ({ frames := 8, cells := 1, slots := 6, locals := 124 } : Room) (va_Pc [.ref (a 0), .int x1, .int x2] (fun U => pw_pre D (cw a cA cZ G) (cT cA cZ) sz u U ∧ cw_Ex (pw_F 40 a sz) U)) (px_Qi Q X (pw_B D (cw a cA cZ G) (cT cA cZ)) (pw_F 40 a sz)) 0 0 1 6 (pw_F 40 a sz) := by
 refine px_ofW (cc := b_PI_left) (maxL := 3) (ret := (some .int)) (by decide) rfl ?_
 intro p e s m args below meth c s₁ B hml hE hv
 obtain ⟨rfl, ⟨hsz, hP, hK⟩, EX⟩ := hv
 subst hsz
 have hl := lv_entry ([.ref (a 0), .int x1, .int x2]) (n := 3) (Nat.le_of_ble_eq_true rfl)
 rw [lg_entry_eq]
 generalize (lg_sl ([.ref (a 0), .int x1, .int x2]) ++ List.replicate (3 - (lg_sl ([.ref (a 0), .int x1, .int x2])).length) Slot.unset).toArray = ls at hl ⊢
 exact st_PI_left (A := (pw_F 40 a s.heap.size)) ⟨B.exec, B.bytes, B.returns, hml, findClass_of_methodNamed B.named, atoms_spec (ws := w_PI_left) B.pre, B.notSynchronized, fun q hq => Or.inr hq⟩ ⟨hK, hI, fun k hk => Or.inl ⟨k, hk, rfl⟩⟩ EX hL (hL e B.admits) (px_none hE) x1 x2 u ls hP hl h
set_option maxHeartbeats 4000000 in
set_option maxRecDepth 100000 in
theorem st_Tool_covers {p : Program} {l : Launch} {e : Env} {s : State} {m : MethodId} {args : Array Value} {below : List Frame} {meth : Method} {c : Code} {D : va_G} {a : Nat → Nat} {cA cZ : ClassId} {G : pG} {A : Nat → Prop} {Q : Int32 → pS → Prop} (C : pw_C p s m args meth c b_Tool_covers 4 R_Tool (some .boolean) w_Tool_covers A) (K : pw_K s D 40 a (cT cA cZ) A) (x1 x2 : Int32) (u : pS) (ls : Array Slot) (hP : va_P D vwCl (cw a cA cZ G u) s.heap) (hl : lv_has ls 4 [(0, .ref (a 8)), (1, .int x1), (2, .int x2)]) (h : wp_Tool_covers G x1 x2 u Q) : W p l e ({ frames := 1, cells := 0, slots := 0, locals := 23 } : Room) s m args below meth c s.heap [] 0 0 (pw_Ei below args s D (cw a cA cZ G) (cT cA cZ) A Q) (F0 m 0 ls []) := by
 obtain ⟨hx, hb, hr, hml, hown, hts, hlocks, hA⟩ := id C
 obtain ⟨hK, hI, hF⟩ := id K
 have hD : ∀ u, va_D A (cw a cA cZ G u) := fun u => cw_D hI hF
 have hS : va_S A s.heap s.heap [] := va_S.rf
 have h : wp_Tool_covers G x1 x2 u Q := h
 refine lv_aload_n hx hb d_Tool_covers_0 rfl (lv_at hl 0 rfl) ?_
 refine va_get (D := D) (ci := 9) (v := .ref (a 1)) (C := R_Tool) (T := T_Tool) (N := 4) hx hb hts in_Tool hown hK hP 8 cw_at_8 rfl 0 (by decide) (hts _ (List.mem_cons_of_mem _ kw_252)) (fun _ h9 => h9) rfl d_Tool_covers_1 ?_
 refine lv_iload_n hx hb d_Tool_covers_4 rfl (lv_at hl 1 rfl) ?_
 refine lv_iload_n hx hb d_Tool_covers_5 rfl (lv_at hl 2 rfl) ?_
 refine cc_i (va_runV (As := [.int x1, .int x2]) (rest := []) ⟨hx, hb, hml, hown, hts⟩ (ct_Grid_placeOf l D a cA cZ G _ x1 x2 u _ hI h) (pw_cwV 2 hts kw_96 kw_46 kw_735 kw_94 kw_95 (by decide +kernel) ⟨Nat.le_of_ble_eq_true rfl, Nat.le_of_ble_eq_true rfl⟩) ⟨pw_blind, va_recv hK hP (ci := 4) (q0 := 1) rfl cw_at_1, fun U hU hW => ⟨rfl, by rw [hU], by rw [hU]; exact hP, va_K.moved hW.alike hK⟩⟩ rfl rfl hl.1 rfl (lv_room (Nat.le_of_ble_eq_true rfl)) d_Tool_covers_6 ⟨Nat.le_of_ble_eq_true rfl, Nat.le_of_ble_eq_true rfl⟩) hS hF hA (fun r2 u1 H locs hP hS h => ?_)
 refine lv_istore_n (lv' := [(3, .int r2), (0, .ref (a 8)), (1, .int x1), (2, .int x2)]) hx hb d_Tool_covers_9 rfl hl (by decide) rfl (fun ls hl => ?_)
 refine lv_iload_n hx hb d_Tool_covers_10 rfl (lv_at hl 0 rfl) ?_
 refine lv_iconst (v := -1) hx hb d_Tool_covers_11 (by decide) ?_
 refine lv_icmp_eq (tgt := 28) hx hb d_Tool_covers_12 (by decide) (fun c3 => ?_) (fun c3 => ?_)
 · have h := h.1 c3
   refine lv_iconst (v := 0) hx hb d_Tool_covers_28 (by decide) ?_
   exact W.zret (v := 0) hx hb hr rfl (fun t ht hW => ⟨⟨0, u1, rfl, h, by rw [ht]; exact hP, va_K.moved hW.alike hK⟩, hS.F ht⟩) hS.2.2 d_Tool_covers_29 hlocks
 · have h := h.2 c3
   refine lv_aload_n hx hb d_Tool_covers_15 rfl (lv_at hl 1 rfl) ?_
   refine va_get (D := D) (ci := 9) (v := .ref (a 34)) (C := R_Tool) (T := T_Tool) (N := 4) hx hb hts in_Tool hown hK hP 8 cw_at_8 rfl 2 (by decide) (hts _ (List.mem_cons_of_mem _ kw_254)) (fun _ h9 => h9) rfl d_Tool_covers_16 ?_
   refine lv_iload_n hx hb d_Tool_covers_19 rfl (lv_at hl 0 rfl) ?_
   refine va_zald hx hb hK hP 34 1 cw_at_34 rfl h.1 d_Tool_covers_20 ?_
   have h := h.2
   refine lv_if_eq (tgt := 28) hx hb d_Tool_covers_21 (by decide) (fun c4 => ?_) (fun c4 => ?_)
   · have h := h.1 c4
     refine lv_iconst (v := 0) hx hb d_Tool_covers_28 (by decide) ?_
     exact W.zret (v := 0) hx hb hr rfl (fun t ht hW => ⟨⟨0, u1, rfl, h, by rw [ht]; exact hP, va_K.moved hW.alike hK⟩, hS.F ht⟩) hS.2.2 d_Tool_covers_29 hlocks
   · have h := h.2 c4
     refine lv_iconst (v := 1) hx hb d_Tool_covers_24 (by decide) ?_
     refine lv_goto (tgt := 29) hx hb d_Tool_covers_25 (by decide) ?_
     exact W.zret (v := 1) hx hb hr rfl (fun t ht hW => ⟨⟨1, u1, rfl, h, by rw [ht]; exact hP, va_K.moved hW.alike hK⟩, hS.F ht⟩) hS.2.2 d_Tool_covers_29 hlocks
set_option maxHeartbeats 4000000 in
set_option maxRecDepth 100000 in
theorem ct_Tool_covers (l : Launch) (D : va_G) (a : Nat → Nat) (cA cZ : ClassId) (G : pG) (sz : Nat) (x1 x2 : Int32) (u : pS) (Q : Int32 → pS → Prop) (hI : pw_I 40 a) (h : wp_Tool_covers G x1 x2 u Q) : Met l y_Tool_covers w_Tool_covers ({ frames := 1, cells := 0, slots := 0, locals := 23 } : Room) (va_Pc [.ref (a 8), .int x1, .int x2] (pw_pre D (cw a cA cZ G) (cT cA cZ) sz u)) (va_Qi (fun (r : Int32) (u : pS) => Q r u) (pw_B D (cw a cA cZ G) (cT cA cZ)) (pw_F 40 a sz)) 0 0 (pw_F 40 a sz) := by
 refine Met.ofW (cc := b_Tool_covers) (maxL := 4) (ret := (some .boolean)) (by decide) rfl ?_
 intro p e s m args below meth c s₁ B hml hv
 obtain ⟨rfl, hsz, hP, hK⟩ := hv
 subst hsz
 have hl := lv_entry ([.ref (a 8), .int x1, .int x2]) (n := 4) (Nat.le_of_ble_eq_true rfl)
 rw [lg_entry_eq]
 generalize (lg_sl ([.ref (a 8), .int x1, .int x2]) ++ List.replicate (4 - (lg_sl ([.ref (a 8), .int x1, .int x2])).length) Slot.unset).toArray = ls at hl ⊢
 exact st_Tool_covers (A := (pw_F 40 a s.heap.size)) ⟨B.exec, B.bytes, B.returns, hml, findClass_of_methodNamed B.named, atoms_spec (ws := w_Tool_covers) B.pre, B.notSynchronized, fun q hq => Or.inr hq⟩ ⟨hK, hI, fun k hk => Or.inl ⟨k, hk, rfl⟩⟩ x1 x2 u ls hP hl h
set_option maxHeartbeats 4000000 in
set_option maxRecDepth 100000 in
theorem st_PI_reached {p : Program} {l : Launch} {e : Env} {s : State} {m : MethodId} {args : Array Value} {below : List Frame} {meth : Method} {c : Code} {D : va_G} {a : Nat → Nat} {cA cZ : ClassId} {G : pG} {A : Nat → Prop} {Q : Int32 → pS → Prop} {X : Nat → pS → Prop} (C : pw_C p s m args meth c b_PI_reached 4 R_PI (some .boolean) w_PI_reached A) (K : pw_K s D 40 a (cT cA cZ) A) (EX : cw_Ex A s) (hL : px_L l) (htr : e.platform.stackTraces = false) (hE : ∀ (pc : Nat), ∀ x ∈ c.exceptionTable.toList, covers x pc = false) (x1 x2 x3 : Int32) (u : pS) (ls : Array Slot) (hP : va_P D vwCl (cw a cA cZ G u) s.heap) (hl : lv_has ls 4 [(0, .ref (a 0)), (1, .int x1), (2, .int x2), (3, .int x3)]) (h : wp_PI_reached G x1 x2 x3 u Q X) : W p l e ({ frames := 8, cells := 1, slots := 6, locals := 125 } : Room) s m args below meth c s.heap [] 0 0 (px_Ei below args s D (cw a cA cZ G) (cT cA cZ) A Q X) (F0 m 0 ls []) := by
 obtain ⟨hx, hb, hr, hml, hown, hts, hlocks, hA⟩ := id C
 obtain ⟨hK, hI, hF⟩ := id K
 have hD : ∀ u, va_D A (cw a cA cZ G u) := fun u => cw_D hI hF
 have hz : ∀ oc t, px_T X (pw_B D (cw a cA cZ G) (cT cA cZ)) oc t → va_F A s t → (px_Qi Q X (pw_B D (cw a cA cZ G) (cT cA cZ)) A) args s oc t := fun oc t h1 h2 => ⟨Or.inr h1, h2⟩
 have hS : va_S A s.heap s.heap [] := va_S.rf
 have h : wp_PI_reached G x1 x2 x3 u Q X := h
 refine lv_aload_n hx hb d_PI_reached_0 rfl (lv_at hl 0 rfl) ?_
 refine cx_v (px_runV (As := []) (rest := []) ⟨hx, hb, hml, hown, hts⟩ (ct_PI_needParted l D a cA cZ G _  u _ _ hL hI h) (pw_cwV 0 hts kw_611 kw_45 kw_608 kw_610 kw_12 (by decide +kernel) ⟨Nat.le_of_ble_eq_true rfl, Nat.le_of_ble_eq_true rfl⟩) ⟨cw_blindX, va_recv hK hP (ci := 0) (q0 := 0) rfl cw_at_0, fun U hU hW => ⟨rfl, ⟨by rw [hU], by rw [hU]; exact hP, va_K.moved hW.alike hK⟩, cw_Ex_call EX hS (pw_FA hS hF hA) hU hW⟩⟩ rfl rfl hl.1 rfl (lv_room (Nat.le_of_ble_eq_true rfl)) d_PI_reached_1 ⟨Nat.le_of_ble_eq_true rfl, Nat.le_of_ble_eq_true rfl⟩) hS hF hA (hE _) hlocks hz (fun u1 H locs hP hS h => ?_)
 refine lv_aload_n hx hb d_PI_reached_4 rfl (lv_at hl 0 rfl) ?_
 refine lv_iload_n hx hb d_PI_reached_5 rfl (lv_at hl 1 rfl) ?_
 refine lv_iload_n hx hb d_PI_reached_6 rfl (lv_at hl 2 rfl) ?_
 refine cx_v (px_runV (As := [.int x1, .int x2]) (rest := []) ⟨hx, hb, hml, hown, hts⟩ (ct_PI_needPlace l D a cA cZ G _ x1 x2 u1 _ _ hL hI h) (pw_cwV 2 hts kw_364 kw_45 kw_361 kw_363 kw_0 (by decide +kernel) ⟨Nat.le_of_ble_eq_true rfl, Nat.le_of_ble_eq_true rfl⟩) ⟨cw_blindX, va_recv hK hP (ci := 0) (q0 := 0) rfl cw_at_0, fun U hU hW => ⟨rfl, ⟨by rw [hU], by rw [hU]; exact hP, va_K.moved hW.alike hK⟩, cw_Ex_call EX hS (pw_FA hS hF hA) hU hW⟩⟩ rfl rfl hl.1 rfl (lv_room (Nat.le_of_ble_eq_true rfl)) d_PI_reached_7 ⟨Nat.le_of_ble_eq_true rfl, Nat.le_of_ble_eq_true rfl⟩) hS hF hA (hE _) hlocks hz (fun u2 H locs hP hS h => ?_)
 refine lv_iload_n hx hb d_PI_reached_10 rfl (lv_at hl 3 rfl) ?_
 refine lv_iconst (v := 0) hx hb d_PI_reached_11 (by decide) ?_
 refine lv_bipush (v := 10) hx hb d_PI_reached_12 (by decide) ?_
 refine cx_v (px_runS (As := [.int x3, .int 0, .int 10]) (rest := []) ⟨hx, hb, hml, hown, hts⟩ (ct_PI_needNumber l D a cA cZ G _ x3 0 10 u2 _ _ hL hI h) (pw_cwS 3 hts kw_441 kw_45 kw_439 kw_440 (by decide +kernel) ⟨Nat.le_of_ble_eq_true rfl, Nat.le_of_ble_eq_true rfl⟩) ⟨cw_blindX, fun U hU hW => ⟨rfl, ⟨by rw [hU], by rw [hU]; exact hP, va_K.moved hW.alike hK⟩, cw_Ex_call EX hS (pw_FA hS hF hA) hU hW⟩⟩ rfl rfl hl.1 rfl (lv_room (Nat.le_of_ble_eq_true rfl)) d_PI_reached_14 ⟨Nat.le_of_ble_eq_true rfl, Nat.le_of_ble_eq_true rfl⟩) hS hF hA (hE _) hlocks hz (fun u3 H locs hP hS h => ?_)
 refine lv_aload_n hx hb d_PI_reached_17 rfl (lv_at hl 0 rfl) ?_
 refine va_get (D := D) (ci := 0) (v := .ref (a 8)) (C := R_PI) (T := T_PI) (N := 12) hx hb hts in_PI hown hK hP 0 cw_at_0 rfl 8 (by decide) (hts _ (List.mem_cons_of_mem _ kw_320)) (fun _ h9 => h9) rfl d_PI_reached_18 ?_
 refine lv_aload_n hx hb d_PI_reached_21 rfl (lv_at hl 0 rfl) ?_
 refine va_get (D := D) (ci := 0) (v := .ref (a 4)) (C := R_PI) (T := T_PI) (N := 12) hx hb hts in_PI hown hK hP 0 cw_at_0 rfl 4 (by decide) (hts _ (List.mem_cons_of_mem _ kw_316)) (fun _ h9 => h9) rfl d_PI_reached_22 ?_
 refine lv_iload_n hx hb d_PI_reached_25 rfl (lv_at hl 1 rfl) ?_
 refine lv_iload_n hx hb d_PI_reached_26 rfl (lv_at hl 2 rfl) ?_
 refine cc_i (va_runV (As := [.int x1, .int x2]) (rest := [.ref (a 8)]) ⟨hx, hb, hml, hown, hts⟩ (ct_Pieces_numberOf l D a cA cZ G _ x1 x2 u3 _ hI h) (pw_cwV 2 hts kw_631 kw_49 kw_628 kw_629 kw_630 (by decide +kernel) ⟨Nat.le_of_ble_eq_true rfl, Nat.le_of_ble_eq_true rfl⟩) ⟨pw_blind, va_recv hK hP (ci := 7) (q0 := 4) rfl cw_at_4, fun U hU hW => ⟨rfl, by rw [hU], by rw [hU]; exact hP, va_K.moved hW.alike hK⟩⟩ rfl rfl hl.1 rfl (lv_room (Nat.le_of_ble_eq_true rfl)) d_PI_reached_27 ⟨Nat.le_of_ble_eq_true rfl, Nat.le_of_ble_eq_true rfl⟩) hS hF hA (fun r5 u4 H locs hP hS h => ?_)
 refine lv_iload_n hx hb d_PI_reached_30 rfl (lv_at hl 3 rfl) ?_
 refine cc_v (va_runV (As := [.int r5, .int x3]) (rest := []) ⟨hx, hb, hml, hown, hts⟩ (ct_Tool_cover l D a cA cZ G _ r5 x3 u4 _ hI h) (pw_cwV 2 hts kw_725 kw_54 kw_722 kw_723 kw_724 (by decide +kernel) ⟨Nat.le_of_ble_eq_true rfl, Nat.le_of_ble_eq_true rfl⟩) ⟨pw_blind, va_recv hK hP (ci := 9) (q0 := 8) rfl cw_at_8, fun U hU hW => ⟨rfl, by rw [hU], by rw [hU]; exact hP, va_K.moved hW.alike hK⟩⟩ rfl rfl hl.1 rfl (lv_room (Nat.le_of_ble_eq_true rfl)) d_PI_reached_31 ⟨Nat.le_of_ble_eq_true rfl, Nat.le_of_ble_eq_true rfl⟩) hS hF hA (fun u6 H locs hP hS h => ?_)
 refine lv_aload_n hx hb d_PI_reached_34 rfl (lv_at hl 0 rfl) ?_
 refine va_get (D := D) (ci := 0) (v := .ref (a 8)) (C := R_PI) (T := T_PI) (N := 12) hx hb hts in_PI hown hK hP 0 cw_at_0 rfl 8 (by decide) (hts _ (List.mem_cons_of_mem _ kw_320)) (fun _ h9 => h9) rfl d_PI_reached_35 ?_
 refine lv_iload_n hx hb d_PI_reached_38 rfl (lv_at hl 1 rfl) ?_
 refine lv_iload_n hx hb d_PI_reached_39 rfl (lv_at hl 2 rfl) ?_
 refine cc_i (va_runV (As := [.int x1, .int x2]) (rest := []) ⟨hx, hb, hml, hown, hts⟩ (ct_Tool_covers l D a cA cZ G _ x1 x2 u6 _ hI h) (pw_cwV 2 hts kw_746 kw_54 kw_743 kw_744 kw_745 (by decide +kernel) ⟨Nat.le_of_ble_eq_true rfl, Nat.le_of_ble_eq_true rfl⟩) ⟨pw_blind, va_recv hK hP (ci := 9) (q0 := 8) rfl cw_at_8, fun U hU hW => ⟨rfl, by rw [hU], by rw [hU]; exact hP, va_K.moved hW.alike hK⟩⟩ rfl rfl hl.1 rfl (lv_room (Nat.le_of_ble_eq_true rfl)) d_PI_reached_40 ⟨Nat.le_of_ble_eq_true rfl, Nat.le_of_ble_eq_true rfl⟩) hS hF hA (fun r8 u7 H locs hP hS h => ?_)
 exact px_mono (fun t h => px_ofMQ (fun _ _ h => h) h) (W.zret (Qc := px_Qi Q X (pw_B D (cw a cA cZ G) (cT cA cZ)) A) (v := r8) hx hb hr h.1 (fun t ht hW => ⟨Or.inl ⟨r8, u7, rfl, h.2, by rw [ht]; exact hP, va_K.moved hW.alike hK⟩, hS.F ht⟩) hS.2.2 d_PI_reached_43 hlocks)
set_option maxHeartbeats 4000000 in
set_option maxRecDepth 100000 in
theorem ct_PI_reached (l : Launch) (D : va_G) (a : Nat → Nat) (cA cZ : ClassId) (G : pG) (sz : Nat) (x1 x2 x3 : Int32) (u : pS) (Q : Int32 → pS → Prop) (X : Nat → pS → Prop) (hL : px_L l) (hI : pw_I 40 a) (h : wp_PI_reached G x1 x2 x3 u Q X) : px_Met l y_PI_reached w_PI_reached ({ frames := 8, cells := 1, slots := 6, locals := 125 } : Room) (va_Pc [.ref (a 0), .int x1, .int x2, .int x3] (fun U => pw_pre D (cw a cA cZ G) (cT cA cZ) sz u U ∧ cw_Ex (pw_F 40 a sz) U)) (px_Qi Q X (pw_B D (cw a cA cZ G) (cT cA cZ)) (pw_F 40 a sz)) 0 0 1 6 (pw_F 40 a sz) := by
 refine px_ofW (cc := b_PI_reached) (maxL := 4) (ret := (some .boolean)) (by decide) rfl ?_
 intro p e s m args below meth c s₁ B hml hE hv
 obtain ⟨rfl, ⟨hsz, hP, hK⟩, EX⟩ := hv
 subst hsz
 have hl := lv_entry ([.ref (a 0), .int x1, .int x2, .int x3]) (n := 4) (Nat.le_of_ble_eq_true rfl)
 rw [lg_entry_eq]
 generalize (lg_sl ([.ref (a 0), .int x1, .int x2, .int x3]) ++ List.replicate (4 - (lg_sl ([.ref (a 0), .int x1, .int x2, .int x3])).length) Slot.unset).toArray = ls at hl ⊢
 exact st_PI_reached (A := (pw_F 40 a s.heap.size)) ⟨B.exec, B.bytes, B.returns, hml, findClass_of_methodNamed B.named, atoms_spec (ws := w_PI_reached) B.pre, B.notSynchronized, fun q hq => Or.inr hq⟩ ⟨hK, hI, fun k hk => Or.inl ⟨k, hk, rfl⟩⟩ EX hL (hL e B.admits) (px_none hE) x1 x2 x3 u ls hP hl h
