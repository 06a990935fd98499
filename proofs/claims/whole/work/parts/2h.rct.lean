set_option maxHeartbeats 4000000 in
set_option maxRecDepth 100000 in
theorem cp_Model_reached_39 {p : Program} {l : Launch} {e : Env} {s : State} {m : MethodId} {args : Array Value} {below : List Frame} {meth : Method} {c : Code} {D : va_G} {a : Nat → Nat} {cA cZ : ClassId} {G : pG} {A : Nat → Prop} {Q : Int32 → pS → Prop} (C : pw_C p s m args meth c b_Model_reached 4 R_Model (some .boolean) w_Model_reached A) (K : pw_K s D 15 a (rT cA cZ) A) {k40 : Int32 → Int32 → Int32 → Int32 → pS → Prop} (hk40 : ∀ (x1 x2 x3 y4 : Int32) (u : pS) (H : Heap) (locs : List Loc) (ls : Array Slot), va_P D vwCl (rw a cA cZ G u) H → va_S A s.heap H locs → lv_has ls 4 [(0, .ref (a 0)), (1, .int x1), (2, .int x2), (3, .int x3)] → k40 x1 x2 x3 y4 u → W p l e ({ frames := 4, cells := 0, slots := 0, locals := 99 } : Room) s m args below meth c H locs 0 0 (pw_Ei below args s D (rw a cA cZ G) (rT cA cZ) A Q) (F0 m 40 ls [.int y4, .ref (a 0)])) : ∀ (x1 x2 x3 : Int32) (u : pS) (H : Heap) (locs : List Loc) (ls : Array Slot), va_P D vwCl (rw a cA cZ G u) H → va_S A s.heap H locs → lv_has ls 4 [(0, .ref (a 0)), (1, .int x1), (2, .int x2), (3, .int x3)] → jn_Model_reached_39 G Q k40 x1 x2 x3 u → W p l e ({ frames := 4, cells := 0, slots := 0, locals := 99 } : Room) s m args below meth c H locs 0 0 (pw_Ei below args s D (rw a cA cZ G) (rT cA cZ) A Q) (F0 m 39 ls [.ref (a 0)]) := by
 obtain ⟨hx, hb, hr, hml, hown, hts, hlocks, hA⟩ := id C
 obtain ⟨hK, hI, hF⟩ := id K
 have hD : ∀ u, va_D A (rw a cA cZ G u) := fun u => rw_D hI hF
 intro x1 x2 x3 u H locs ls hP hS hl h
 refine lv_iconst (v := 3) hx hb d_Model_reached_39 (by decide) ?_
 exact hk40 x1 x2 x3 3 u _ _ _ hP hS (lv_sub hl [0, 1, 2, 3] rfl) h
set_option maxHeartbeats 4000000 in
set_option maxRecDepth 100000 in
theorem cp_Model_reached_40 {p : Program} {l : Launch} {e : Env} {s : State} {m : MethodId} {args : Array Value} {below : List Frame} {meth : Method} {c : Code} {D : va_G} {a : Nat → Nat} {cA cZ : ClassId} {G : pG} {A : Nat → Prop} {Q : Int32 → pS → Prop} (C : pw_C p s m args meth c b_Model_reached 4 R_Model (some .boolean) w_Model_reached A) (K : pw_K s D 15 a (rT cA cZ) A) : ∀ (x1 x2 x3 y4 : Int32) (u : pS) (H : Heap) (locs : List Loc) (ls : Array Slot), va_P D vwCl (rw a cA cZ G u) H → va_S A s.heap H locs → lv_has ls 4 [(0, .ref (a 0)), (1, .int x1), (2, .int x2), (3, .int x3)] → jn_Model_reached_40 G Q x1 x2 x3 y4 u → W p l e ({ frames := 4, cells := 0, slots := 0, locals := 99 } : Room) s m args below meth c H locs 0 0 (pw_Ei below args s D (rw a cA cZ G) (rT cA cZ) A Q) (F0 m 40 ls [.int y4, .ref (a 0)]) := by
 obtain ⟨hx, hb, hr, hml, hown, hts, hlocks, hA⟩ := id C
 obtain ⟨hK, hI, hF⟩ := id K
 have hD : ∀ u, va_D A (rw a cA cZ G u) := fun u => rw_D hI hF
 intro x1 x2 x3 y4 u H locs ls hP hS hl h
 refine va_put (D := D) (ci := 1) (v := .int y4) (ty := .int) (C := R_Model) (T := T_Model) (N := 23) hx hb hts in_Model ty_Model tyok_Model nm_Model hown hK hP (hD _) hS 0 rw_at_0 rfl 0 (by decide) (hts _ (List.mem_cons_of_mem _ kw_835)) (fun _ h9 => h9) rfl (by decide +kernel) rfl rfl (Nat.le_of_ble_eq_true rfl) d_Model_reached_40 (fun H locs hP _ hS => ?_)
 obtain ⟨u6, eu6⟩ : ∃ z, z = pw_si u 0 y4 := ⟨_, rfl⟩
 rw [rw_si_0_0, ← eu6] at hP
 have h := h u6 eu6
 refine lv_aload_n hx hb d_Model_reached_43 rfl (lv_at hl 0 rfl) ?_
 refine va_get (D := D) (ci := 1) (v := .int (u6.1 0)) (C := R_Model) (T := T_Model) (N := 23) hx hb hts in_Model hown hK hP 0 rw_at_0 rfl 0 (by decide) (hts _ (List.mem_cons_of_mem _ kw_835)) (fun _ h9 => h9) rfl d_Model_reached_44 ?_
 refine lv_if_ne (tgt := 76) hx hb d_Model_reached_47 (by decide) (fun c7 => ?_) (fun c7 => ?_)
 · have h := h.2 c7
   refine lv_iconst (v := 0) hx hb d_Model_reached_76 (by decide) ?_
   exact W.zret (v := 0) hx hb hr rfl (fun t ht hW => ⟨⟨0, u6, rfl, h, by rw [ht]; exact hP, va_K.moved hW.alike hK⟩, hS.F ht⟩) hS.2.2 d_Model_reached_77 hlocks
 · have h := h.1 c7
   refine lv_aload_n hx hb d_Model_reached_50 rfl (lv_at hl 0 rfl) ?_
   refine lv_aload_n hx hb d_Model_reached_51 rfl (lv_at hl 0 rfl) ?_
   refine lv_aload_n hx hb d_Model_reached_52 rfl (lv_at hl 0 rfl) ?_
   refine va_get (D := D) (ci := 1) (v := .int (G.2.1 0)) (C := R_Model) (T := T_Model) (N := 23) hx hb hts in_Model hown hK hP 0 rw_at_0 rfl 1 (by decide) (hts _ (List.mem_cons_of_mem _ kw_836)) (fun _ h9 => h9) rfl d_Model_reached_53 ?_
   refine lv_iload_n hx hb d_Model_reached_56 rfl (lv_at hl 2 rfl) ?_
   refine lv_imul hx hb d_Model_reached_57 ?_
   refine lv_iload_n hx hb d_Model_reached_58 rfl (lv_at hl 1 rfl) ?_
   refine lv_iadd hx hb d_Model_reached_59 ?_
   refine cc_i (va_runV (As := [.int (((G.2.1 0) * x2) + x1)]) (rest := [.ref (a 0)]) ⟨hx, hb, hml, hown, hts⟩ (ct_Model_numberOf l D a cA cZ G _ (((G.2.1 0) * x2) + x1) u6 _ hI h) (pw_cwV 1 hts kw_963 kw_57 kw_960 kw_962 kw_31 (by decide +kernel) ⟨Nat.le_of_ble_eq_true rfl, Nat.le_of_ble_eq_true rfl⟩) ⟨pw_blind, va_recv hK hP (ci := 1) (q0 := 0) rfl rw_at_0, fun U hU hW => ⟨rfl, by rw [hU], by rw [hU]; exact hP, va_K.moved hW.alike hK⟩⟩ rfl rfl hl.1 rfl (lv_room (Nat.le_of_ble_eq_true rfl)) d_Model_reached_60 ⟨Nat.le_of_ble_eq_true rfl, Nat.le_of_ble_eq_true rfl⟩) hS hF hA (fun r9 u8 H locs hP hS h => ?_)
   refine lv_iload_n hx hb d_Model_reached_63 rfl (lv_at hl 1 rfl) ?_
   refine lv_iload_n hx hb d_Model_reached_64 rfl (lv_at hl 2 rfl) ?_
   refine lv_iload_n hx hb d_Model_reached_65 rfl (lv_at hl 3 rfl) ?_
   refine cc_i (va_runV (As := [.int r9, .int x1, .int x2, .int x3]) (rest := []) ⟨hx, hb, hml, hown, hts⟩ (ct_Model_isReached l D a cA cZ G _ r9 x1 x2 x3 u8 _ hI h) (pw_cwV 4 hts kw_1011 kw_57 kw_1008 kw_1010 kw_38 (by decide +kernel) ⟨Nat.le_of_ble_eq_true rfl, Nat.le_of_ble_eq_true rfl⟩) ⟨pw_blind, va_recv hK hP (ci := 1) (q0 := 0) rfl rw_at_0, fun U hU hW => ⟨rfl, by rw [hU], by rw [hU]; exact hP, va_K.moved hW.alike hK⟩⟩ rfl rfl hl.1 rfl (lv_room (Nat.le_of_ble_eq_true rfl)) d_Model_reached_66 ⟨Nat.le_of_ble_eq_true rfl, Nat.le_of_ble_eq_true rfl⟩) hS hF hA (fun r11 u10 H locs hP hS h => ?_)
   refine lv_if_eq (tgt := 76) hx hb d_Model_reached_69 (by decide) (fun c12 => ?_) (fun c12 => ?_)
   · have h := h.1 c12
     refine lv_iconst (v := 0) hx hb d_Model_reached_76 (by decide) ?_
     exact W.zret (v := 0) hx hb hr rfl (fun t ht hW => ⟨⟨0, u10, rfl, h, by rw [ht]; exact hP, va_K.moved hW.alike hK⟩, hS.F ht⟩) hS.2.2 d_Model_reached_77 hlocks
   · have h := h.2 c12
     refine lv_iconst (v := 1) hx hb d_Model_reached_72 (by decide) ?_
     refine lv_goto (tgt := 77) hx hb d_Model_reached_73 (by decide) ?_
     exact W.zret (v := 1) hx hb hr rfl (fun t ht hW => ⟨⟨1, u10, rfl, h, by rw [ht]; exact hP, va_K.moved hW.alike hK⟩, hS.F ht⟩) hS.2.2 d_Model_reached_77 hlocks
set_option maxHeartbeats 4000000 in
set_option maxRecDepth 100000 in
theorem st_Model_reached {p : Program} {l : Launch} {e : Env} {s : State} {m : MethodId} {args : Array Value} {below : List Frame} {meth : Method} {c : Code} {D : va_G} {a : Nat → Nat} {cA cZ : ClassId} {G : pG} {A : Nat → Prop} {Q : Int32 → pS → Prop} (C : pw_C p s m args meth c b_Model_reached 4 R_Model (some .boolean) w_Model_reached A) (K : pw_K s D 15 a (rT cA cZ) A) (x1 x2 x3 : Int32) (u : pS) (ls : Array Slot) (hP : va_P D vwCl (rw a cA cZ G u) s.heap) (hl : lv_has ls 4 [(0, .ref (a 0)), (1, .int x1), (2, .int x2), (3, .int x3)]) (h : wp_Model_reached G x1 x2 x3 u Q) : W p l e ({ frames := 4, cells := 0, slots := 0, locals := 99 } : Room) s m args below meth c s.heap [] 0 0 (pw_Ei below args s D (rw a cA cZ G) (rT cA cZ) A Q) (F0 m 0 ls []) := by
 obtain ⟨hx, hb, hr, hml, hown, hts, hlocks, hA⟩ := id C
 obtain ⟨hK, hI, hF⟩ := id K
 have hD : ∀ u, va_D A (rw a cA cZ G u) := fun u => rw_D hI hF
 have hS : va_S A s.heap s.heap [] := va_S.rf
 have h : wp_Model_reached G x1 x2 x3 u Q := h
 refine lv_aload_n hx hb d_Model_reached_0 rfl (lv_at hl 0 rfl) ?_
 refine lv_aload_n hx hb d_Model_reached_1 rfl (lv_at hl 0 rfl) ?_
 refine va_get (D := D) (ci := 1) (v := .int (u.1 2)) (C := R_Model) (T := T_Model) (N := 23) hx hb hts in_Model hown hK hP 0 rw_at_0 rfl 12 (by decide) (hts _ (List.mem_cons_of_mem _ kw_847)) (fun _ h9 => h9) rfl d_Model_reached_2 ?_
 refine lv_if_ne (tgt := 12) hx hb d_Model_reached_5 (by decide) (fun c1 => ?_) (fun c1 => ?_)
 · have h := h.2 c1
   refine lv_aload_n hx hb d_Model_reached_12 rfl (lv_at hl 0 rfl) ?_
   refine lv_iload_n hx hb d_Model_reached_13 rfl (lv_at hl 1 rfl) ?_
   refine lv_iload_n hx hb d_Model_reached_14 rfl (lv_at hl 2 rfl) ?_
   refine cc_i (va_runV (As := [.int x1, .int x2]) (rest := [.ref (a 0)]) ⟨hx, hb, hml, hown, hts⟩ (ct_Model_isPlace l D a cA cZ G _ x1 x2 u _ hI h) (pw_cwV 2 hts kw_916 kw_57 kw_913 kw_915 kw_23 (by decide +kernel) ⟨Nat.le_of_ble_eq_true rfl, Nat.le_of_ble_eq_true rfl⟩) ⟨pw_blind, va_recv hK hP (ci := 1) (q0 := 0) rfl rw_at_0, fun U hU hW => ⟨rfl, by rw [hU], by rw [hU]; exact hP, va_K.moved hW.alike hK⟩⟩ rfl rfl hl.1 rfl (lv_room (Nat.le_of_ble_eq_true rfl)) d_Model_reached_15 ⟨Nat.le_of_ble_eq_true rfl, Nat.le_of_ble_eq_true rfl⟩) hS hF hA (fun r3 u2 H locs hP hS h => ?_)
   refine lv_if_ne (tgt := 25) hx hb d_Model_reached_18 (by decide) (fun c4 => ?_) (fun c4 => ?_)
   · have h := h.2 c4
     refine lv_iload_n hx hb d_Model_reached_25 rfl (lv_at hl 3 rfl) ?_
     refine lv_if_lt (tgt := 39) hx hb d_Model_reached_26 (by decide) (fun c5 => ?_) (fun c5 => ?_)
     · have h := h.1 c5
       exact cp_Model_reached_39 C K (fun x1 x2 x3 y4 u H locs ls hP hS hl h => cp_Model_reached_40 C K x1 x2 x3 y4 u H locs ls hP hS hl h) x1 x2 x3 u2 _ _ _ hP hS (lv_sub hl [0, 1, 2, 3] rfl) h
     · have h := h.2 c5
       refine lv_iload_n hx hb d_Model_reached_29 rfl (lv_at hl 3 rfl) ?_
       refine lv_bipush (v := 10) hx hb d_Model_reached_30 (by decide) ?_
       refine lv_icmp_gt (tgt := 39) hx hb d_Model_reached_32 (by decide) (fun c13 => ?_) (fun c13 => ?_)
       · have h := h.1 c13
         exact cp_Model_reached_39 C K (fun x1 x2 x3 y4 u H locs ls hP hS hl h => cp_Model_reached_40 C K x1 x2 x3 y4 u H locs ls hP hS hl h) x1 x2 x3 u2 _ _ _ hP hS (lv_sub hl [0, 1, 2, 3] rfl) h
       · have h := h.2 c13
         refine lv_iconst (v := 0) hx hb d_Model_reached_35 (by decide) ?_
         refine lv_goto (tgt := 40) hx hb d_Model_reached_36 (by decide) ?_
         exact cp_Model_reached_40 C K x1 x2 x3 0 u2 _ _ _ hP hS (lv_sub hl [0, 1, 2, 3] rfl) h
   · have h := h.1 c4
     refine lv_iconst (v := 2) hx hb d_Model_reached_21 (by decide) ?_
     refine lv_goto (tgt := 40) hx hb d_Model_reached_22 (by decide) ?_
     exact cp_Model_reached_40 C K x1 x2 x3 2 u2 _ _ _ hP hS (lv_sub hl [0, 1, 2, 3] rfl) h
 · have h := h.1 c1
   refine lv_iconst (v := 1) hx hb d_Model_reached_8 (by decide) ?_
   refine lv_goto (tgt := 40) hx hb d_Model_reached_9 (by decide) ?_
   exact cp_Model_reached_40 C K x1 x2 x3 1 u _ _ _ hP hS (lv_sub hl [0, 1, 2, 3] rfl) h
set_option maxHeartbeats 4000000 in
set_option maxRecDepth 100000 in
theorem ct_Model_reached (l : Launch) (D : va_G) (a : Nat → Nat) (cA cZ : ClassId) (G : pG) (sz : Nat) (x1 x2 x3 : Int32) (u : pS) (Q : Int32 → pS → Prop) (hI : pw_I 15 a) (h : wp_Model_reached G x1 x2 x3 u Q) : Met l y_Model_reached w_Model_reached ({ frames := 4, cells := 0, slots := 0, locals := 99 } : Room) (va_Pc [.ref (a 0), .int x1, .int x2, .int x3] (pw_pre D (rw a cA cZ G) (rT cA cZ) sz u)) (va_Qi (fun (r : Int32) (u : pS) => Q r u) (pw_B D (rw a cA cZ G) (rT cA cZ)) (pw_F 15 a sz)) 0 0 (pw_F 15 a sz) := by
 refine Met.ofW (cc := b_Model_reached) (maxL := 4) (ret := (some .boolean)) (by decide) rfl ?_
 intro p e s m args below meth c s₁ B hml hv
 obtain ⟨rfl, hsz, hP, hK⟩ := hv
 subst hsz
 have hl := lv_entry ([.ref (a 0), .int x1, .int x2, .int x3]) (n := 4) (Nat.le_of_ble_eq_true rfl)
 rw [lg_entry_eq]
 generalize (lg_sl ([.ref (a 0), .int x1, .int x2, .int x3]) ++ List.replicate (4 - (lg_sl ([.ref (a 0), .int x1, .int x2, .int x3])).length) Slot.unset).toArray = ls at hl ⊢
 exact st_Model_reached (A := (pw_F 15 a s.heap.size)) ⟨B.exec, B.bytes, B.returns, hml, findClass_of_methodNamed B.named, atoms_spec (ws := w_Model_reached) B.pre, B.notSynchronized, fun q hq => Or.inr hq⟩ ⟨hK, hI, fun k hk => Or.inl ⟨k, hk, rfl⟩⟩ x1 x2 x3 u ls hP hl h
set_option maxHeartbeats 4000000 in
set_option maxRecDepth 100000 in
theorem st_Model_comesBefore {p : Program} {l : Launch} {e : Env} {s : State} {m : MethodId} {args : Array Value} {below : List Frame} {meth : Method} {c : Code} {D : va_G} {a : Nat → Nat} {cA cZ : ClassId} {G : pG} {A : Nat → Prop} {Q : Int32 → pS → Prop} (C : pw_C p s m args meth c b_Model_comesBefore 7 R_Model (some .boolean) w_Model_comesBefore A) (K : pw_K s D 15 a (rT cA cZ) A) (x1 x2 : Int32) (u : pS) (ls : Array Slot) (hP : va_P D vwCl (rw a cA cZ G u) s.heap) (hl : lv_has ls 7 [(0, .ref (a 0)), (1, .int x1), (2, .int x2)]) (h : wp_Model_comesBefore G x1 x2 u Q) : W p l e ({ frames := 2, cells := 0, slots := 0, locals := 46 } : Room) s m args below meth c s.heap [] 0 0 (pw_Ei below args s D (rw a cA cZ G) (rT cA cZ) A Q) (F0 m 0 ls []) := by
 obtain ⟨hx, hb, hr, hml, hown, hts, hlocks, hA⟩ := id C
 obtain ⟨hK, hI, hF⟩ := id K
 have hD : ∀ u, va_D A (rw a cA cZ G u) := fun u => rw_D hI hF
 have hS : va_S A s.heap s.heap [] := va_S.rf
 have h : wp_Model_comesBefore G x1 x2 u Q := h
 refine lv_aload_n hx hb d_Model_comesBefore_0 rfl (lv_at hl 0 rfl) ?_
 refine lv_iload_n hx hb d_Model_comesBefore_1 rfl (lv_at hl 1 rfl) ?_
 refine cc_i (va_runV (As := [.int x1]) (rest := []) ⟨hx, hb, hml, hown, hts⟩ (ct_Model_isAtEdge l D a cA cZ G _ x1 u _ hI h) (pw_cwV 1 hts kw_979 kw_57 kw_976 kw_978 kw_34 (by decide +kernel) ⟨Nat.le_of_ble_eq_true rfl, Nat.le_of_ble_eq_true rfl⟩) ⟨pw_blind, va_recv hK hP (ci := 1) (q0 := 0) rfl rw_at_0, fun U hU hW => ⟨rfl, by rw [hU], by rw [hU]; exact hP, va_K.moved hW.alike hK⟩⟩ rfl rfl hl.1 rfl (lv_room (Nat.le_of_ble_eq_true rfl)) d_Model_comesBefore_2 ⟨Nat.le_of_ble_eq_true rfl, Nat.le_of_ble_eq_true rfl⟩) hS hF hA (fun r2 u1 H locs hP hS h => ?_)
 refine lv_istore_n (lv' := [(3, .int r2), (0, .ref (a 0)), (1, .int x1), (2, .int x2)]) hx hb d_Model_comesBefore_5 rfl hl (by decide) rfl (fun ls hl => ?_)
 refine lv_aload_n hx hb d_Model_comesBefore_6 rfl (lv_at hl 1 rfl) ?_
 refine lv_iload_n hx hb d_Model_comesBefore_7 rfl (lv_at hl 3 rfl) ?_
 refine cc_i (va_runV (As := [.int x2]) (rest := []) ⟨hx, hb, hml, hown, hts⟩ (ct_Model_isAtEdge l D a cA cZ G _ x2 u1 _ hI h) (pw_cwV 1 hts kw_979 kw_57 kw_976 kw_978 kw_34 (by decide +kernel) ⟨Nat.le_of_ble_eq_true rfl, Nat.le_of_ble_eq_true rfl⟩) ⟨pw_blind, va_recv hK hP (ci := 1) (q0 := 0) rfl rw_at_0, fun U hU hW => ⟨rfl, by rw [hU], by rw [hU]; exact hP, va_K.moved hW.alike hK⟩⟩ rfl rfl hl.1 rfl (lv_room (Nat.le_of_ble_eq_true rfl)) d_Model_comesBefore_8 ⟨Nat.le_of_ble_eq_true rfl, Nat.le_of_ble_eq_true rfl⟩) hS hF hA (fun r4 u3 H locs hP hS h => ?_)
 refine lv_istore (lv' := [(4, .int r4), (3, .int r2), (0, .ref (a 0)), (1, .int x1), (2, .int x2)]) hx hb d_Model_comesBefore_11 hl (by decide) rfl (fun ls hl => ?_)
 refine lv_iload_n hx hb d_Model_comesBefore_13 rfl (lv_at hl 1 rfl) ?_
 refine lv_iload hx hb d_Model_comesBefore_14 (lv_at hl 0 rfl) ?_
 refine lv_icmp_eq (tgt := 22) hx hb d_Model_comesBefore_16 (by decide) (fun c5 => ?_) (fun c5 => ?_)
 · have h := h.1 c5
   refine lv_aload_n hx hb d_Model_comesBefore_22 rfl (lv_at hl 2 rfl) ?_
   refine va_get (D := D) (ci := 1) (v := .ref (a 6)) (C := R_Model) (T := T_Model) (N := 23) hx hb hts in_Model hown hK hP 0 rw_at_0 rfl 10 (by decide) (hts _ (List.mem_cons_of_mem _ kw_845)) (fun _ h9 => h9) rfl d_Model_comesBefore_23 ?_
   refine lv_aload_n hx hb d_Model_comesBefore_26 rfl (lv_at hl 2 rfl) ?_
   refine va_get (D := D) (ci := 1) (v := .ref (a 5)) (C := R_Model) (T := T_Model) (N := 23) hx hb hts in_Model hown hK hP 0 rw_at_0 rfl 9 (by decide) (hts _ (List.mem_cons_of_mem _ kw_844)) (fun _ h9 => h9) rfl d_Model_comesBefore_27 ?_
   refine lv_iload_n hx hb d_Model_comesBefore_30 rfl (lv_at hl 3 rfl) ?_
   refine va_iald hx hb hK hP 5 0 rw_at_5 rfl h.1 d_Model_comesBefore_31 ?_
   have h := h.2
   refine va_iald hx hb hK hP 6 0 rw_at_6 rfl h.1 d_Model_comesBefore_32 ?_
   have h := h.2
   refine lv_topi (fun t6 et6 => ?_)
   have h := h t6 et6
   refine lv_istore (lv' := [(5, .int t6), (4, .int r4), (3, .int r2), (0, .ref (a 0)), (1, .int x1), (2, .int x2)]) hx hb d_Model_comesBefore_33 hl (by decide) rfl (fun ls hl => ?_)
   refine lv_aload_n hx hb d_Model_comesBefore_35 rfl (lv_at hl 3 rfl) ?_
   refine va_get (D := D) (ci := 1) (v := .ref (a 6)) (C := R_Model) (T := T_Model) (N := 23) hx hb hts in_Model hown hK hP 0 rw_at_0 rfl 10 (by decide) (hts _ (List.mem_cons_of_mem _ kw_845)) (fun _ h9 => h9) rfl d_Model_comesBefore_36 ?_
   refine lv_aload_n hx hb d_Model_comesBefore_39 rfl (lv_at hl 3 rfl) ?_
   refine va_get (D := D) (ci := 1) (v := .ref (a 5)) (C := R_Model) (T := T_Model) (N := 23) hx hb hts in_Model hown hK hP 0 rw_at_0 rfl 9 (by decide) (hts _ (List.mem_cons_of_mem _ kw_844)) (fun _ h9 => h9) rfl d_Model_comesBefore_40 ?_
   refine lv_iload_n hx hb d_Model_comesBefore_43 rfl (lv_at hl 5 rfl) ?_
   refine va_iald hx hb hK hP 5 0 rw_at_5 rfl h.1 d_Model_comesBefore_44 ?_
   have h := h.2
   refine va_iald hx hb hK hP 6 0 rw_at_6 rfl h.1 d_Model_comesBefore_45 ?_
   have h := h.2
   refine lv_topi (fun t7 et7 => ?_)
   have h := h t7 et7
   refine lv_istore (lv' := [(6, .int t7), (5, .int t6), (4, .int r4), (3, .int r2), (0, .ref (a 0)), (1, .int x1), (2, .int x2)]) hx hb d_Model_comesBefore_46 hl (by decide) rfl (fun ls hl => ?_)
   refine lv_iload hx hb d_Model_comesBefore_48 (lv_at hl 1 rfl) ?_
   refine lv_iload hx hb d_Model_comesBefore_50 (lv_at hl 0 rfl) ?_
   refine lv_icmp_eq (tgt := 70) hx hb d_Model_comesBefore_52 (by decide) (fun c8 => ?_) (fun c8 => ?_)
   · have h := h.1 c8
     refine lv_iload_n hx hb d_Model_comesBefore_70 rfl (lv_at hl 5 rfl) ?_
     refine lv_iload_n hx hb d_Model_comesBefore_71 rfl (lv_at hl 6 rfl) ?_
     refine lv_icmp_ge (tgt := 79) hx hb d_Model_comesBefore_72 (by decide) (fun c9 => ?_) (fun c9 => ?_)
     · have h := h.1 c9
       refine lv_iconst (v := 0) hx hb d_Model_comesBefore_79 (by decide) ?_
       exact W.zret (v := 0) hx hb hr rfl (fun t ht hW => ⟨⟨0, u3, rfl, h, by rw [ht]; exact hP, va_K.moved hW.alike hK⟩, hS.F ht⟩) hS.2.2 d_Model_comesBefore_80 hlocks
     · have h := h.2 c9
       refine lv_iconst (v := 1) hx hb d_Model_comesBefore_75 (by decide) ?_
       refine lv_goto (tgt := 80) hx hb d_Model_comesBefore_76 (by decide) ?_
       exact W.zret (v := 1) hx hb hr rfl (fun t ht hW => ⟨⟨1, u3, rfl, h, by rw [ht]; exact hP, va_K.moved hW.alike hK⟩, hS.F ht⟩) hS.2.2 d_Model_comesBefore_80 hlocks
   · have h := h.2 c8
     refine lv_iload hx hb d_Model_comesBefore_55 (lv_at hl 1 rfl) ?_
     refine lv_iload hx hb d_Model_comesBefore_57 (lv_at hl 0 rfl) ?_
     refine lv_icmp_le (tgt := 66) hx hb d_Model_comesBefore_59 (by decide) (fun c10 => ?_) (fun c10 => ?_)
     · have h := h.1 c10
       refine lv_iconst (v := 0) hx hb d_Model_comesBefore_66 (by decide) ?_
       refine lv_goto (tgt := 80) hx hb d_Model_comesBefore_67 (by decide) ?_
       exact W.zret (v := 0) hx hb hr rfl (fun t ht hW => ⟨⟨0, u3, rfl, h, by rw [ht]; exact hP, va_K.moved hW.alike hK⟩, hS.F ht⟩) hS.2.2 d_Model_comesBefore_80 hlocks
     · have h := h.2 c10
       refine lv_iconst (v := 1) hx hb d_Model_comesBefore_62 (by decide) ?_
       refine lv_goto (tgt := 80) hx hb d_Model_comesBefore_63 (by decide) ?_
       exact W.zret (v := 1) hx hb hr rfl (fun t ht hW => ⟨⟨1, u3, rfl, h, by rw [ht]; exact hP, va_K.moved hW.alike hK⟩, hS.F ht⟩) hS.2.2 d_Model_comesBefore_80 hlocks
 · have h := h.2 c5
   refine lv_iload hx hb d_Model_comesBefore_19 (lv_at hl 0 rfl) ?_
   exact W.zret (v := r4) hx hb hr h.1 (fun t ht hW => ⟨⟨r4, u3, rfl, h.2, by rw [ht]; exact hP, va_K.moved hW.alike hK⟩, hS.F ht⟩) hS.2.2 d_Model_comesBefore_21 hlocks
set_option maxHeartbeats 4000000 in
set_option maxRecDepth 100000 in
theorem ct_Model_comesBefore (l : Launch) (D : va_G) (a : Nat → Nat) (cA cZ : ClassId) (G : pG) (sz : Nat) (x1 x2 : Int32) (u : pS) (Q : Int32 → pS → Prop) (hI : pw_I 15 a) (h : wp_Model_comesBefore G x1 x2 u Q) : Met l y_Model_comesBefore w_Model_comesBefore ({ frames := 2, cells := 0, slots := 0, locals := 46 } : Room) (va_Pc [.ref (a 0), .int x1, .int x2] (pw_pre D (rw a cA cZ G) (rT cA cZ) sz u)) (va_Qi (fun (r : Int32) (u : pS) => Q r u) (pw_B D (rw a cA cZ G) (rT cA cZ)) (pw_F 15 a sz)) 0 0 (pw_F 15 a sz) := by
 refine Met.ofW (cc := b_Model_comesBefore) (maxL := 7) (ret := (some .boolean)) (by decide) rfl ?_
 intro p e s m args below meth c s₁ B hml hv
 obtain ⟨rfl, hsz, hP, hK⟩ := hv
 subst hsz
 have hl := lv_entry ([.ref (a 0), .int x1, .int x2]) (n := 7) (Nat.le_of_ble_eq_true rfl)
 rw [lg_entry_eq]
 generalize (lg_sl ([.ref (a 0), .int x1, .int x2]) ++ List.replicate (7 - (lg_sl ([.ref (a 0), .int x1, .int x2])).length) Slot.unset).toArray = ls at hl ⊢
 exact st_Model_comesBefore (A := (pw_F 15 a s.heap.size)) ⟨B.exec, B.bytes, B.returns, hml, findClass_of_methodNamed B.named, atoms_spec (ws := w_Model_comesBefore) B.pre, B.notSynchronized, fun q hq => Or.inr hq⟩ ⟨hK, hI, fun k hk => Or.inl ⟨k, hk, rfl⟩⟩ x1 x2 u ls hP hl h
set_option maxHeartbeats 4000000 in
set_option maxRecDepth 100000 in
theorem cp_Model_order_28 {p : Program} {l : Launch} {e : Env} {s : State} {m : MethodId} {args : Array Value} {below : List Frame} {meth : Method} {c : Code} {D : va_G} {a : Nat → Nat} {cA cZ : ClassId} {G : pG} {A : Nat → Prop} {Q : Int32 → pS → Prop} (C : pw_C p s m args meth c b_Model_order 6 R_Model (some .int) w_Model_order A) (K : pw_K s D 15 a (rT cA cZ) A) {k14 : Int32 → Int32 → Int32 → pS → Prop} (hk14 : ∀ (x1 x2 x3 : Int32) (u : pS) (H : Heap) (locs : List Loc) (ls : Array Slot), va_P D vwCl (rw a cA cZ G u) H → va_S A s.heap H locs → lv_has ls 6 [(0, .ref (a 0)), (1, .int x1), (2, .int x2), (3, .int x3)] → k14 x1 x2 x3 u → W p l e ({ frames := 3, cells := 0, slots := 0, locals := 72 } : Room) s m args below meth c H locs 0 0 (pw_Ei below args s D (rw a cA cZ G) (rT cA cZ) A Q) (F0 m 14 ls [])) : ∀ (n : Nat), ∀ (x1 x2 x3 x4 x5 : Int32) (u : pS) (H : Heap) (locs : List Loc) (ls : Array Slot), va_P D vwCl (rw a cA cZ G u) H → va_S A s.heap H locs → lv_has ls 6 [(0, .ref (a 0)), (1, .int x1), (2, .int x2), (3, .int x3), (4, .int x4), (5, .int x5)] → lp_Model_order_28 G Q k14 n x1 x2 x3 x4 x5 u → W p l e ({ frames := 3, cells := 0, slots := 0, locals := 72 } : Room) s m args below meth c H locs 0 0 (pw_Ei below args s D (rw a cA cZ G) (rT cA cZ) A Q) (F0 m 28 ls []) := by
 obtain ⟨hx, hb, hr, hml, hown, hts, hlocks, hA⟩ := id C
 obtain ⟨hK, hI, hF⟩ := id K
 have hD : ∀ u, va_D A (rw a cA cZ G u) := fun u => rw_D hI hF
 intro n
 induction n with
 | zero => intro x1 x2 x3 x4 x5 u H locs ls hP hS hl h; exact h.elim
 | succ n ih =>
   intro x1 x2 x3 x4 x5 u H locs ls hP hS hl h
   refine lv_iload hx hb d_Model_order_28 (lv_at hl 5 rfl) ?_
   refine lv_aload_n hx hb d_Model_order_30 rfl (lv_at hl 0 rfl) ?_
   refine va_get (D := D) (ci := 1) (v := .int (u.1 1)) (C := R_Model) (T := T_Model) (N := 23) hx hb hts in_Model hown hK hP 0 rw_at_0 rfl 8 (by decide) (hts _ (List.mem_cons_of_mem _ kw_843)) (fun _ h9 => h9) rfl d_Model_order_31 ?_
   refine lv_icmp_ge (tgt := 70) hx hb d_Model_order_34 (by decide) (fun c5 => ?_) (fun c5 => ?_)
   · have h := h.1 c5
     refine lv_iload hx hb d_Model_order_70 (lv_at hl 4 rfl) ?_
     refine lv_iload_n hx hb d_Model_order_72 rfl (lv_at hl 1 rfl) ?_
     refine lv_icmp_ne (tgt := 80) hx hb d_Model_order_73 (by decide) (fun c6 => ?_) (fun c6 => ?_)
     · have h := h.2 c6
       refine lv_iload_n hx hb d_Model_order_80 rfl (lv_at hl 2 rfl) ?_
       refine lv_istore_n (lv' := [(2, .int x2), (0, .ref (a 0)), (1, .int x1), (3, .int x3), (4, .int x4), (5, .int x5)]) hx hb d_Model_order_81 rfl hl (by decide) rfl (fun ls hl => ?_)
       obtain ⟨t7, et7⟩ : ∃ y : Int32, y = x3 + 1 := ⟨_, rfl⟩
       have h := h t7 et7
       refine lv_iinc (v := t7) (lv' := [(3, .int t7), (2, .int x2), (0, .ref (a 0)), (1, .int x1), (4, .int x4), (5, .int x5)]) hx hb d_Model_order_82 hl (k := 3) rfl (by rw [et7]; rfl) (by decide) rfl (fun ls hl => ?_)
       refine lv_goto (tgt := 14) hx hb d_Model_order_85 (by decide) ?_
       exact hk14 x1 x2 t7 u _ _ _ hP hS (lv_sub hl [2, 3, 1, 0] rfl) h
     · have h := h.1 c6
       refine lv_iload_n hx hb d_Model_order_76 rfl (lv_at hl 3 rfl) ?_
       refine lv_goto (tgt := 81) hx hb d_Model_order_77 (by decide) ?_
       refine lv_istore_n (lv' := [(2, .int x3), (0, .ref (a 0)), (1, .int x1), (3, .int x3), (4, .int x4), (5, .int x5)]) hx hb d_Model_order_81 rfl hl (by decide) rfl (fun ls hl => ?_)
       obtain ⟨t8, et8⟩ : ∃ y : Int32, y = x3 + 1 := ⟨_, rfl⟩
       have h := h t8 et8
       refine lv_iinc (v := t8) (lv' := [(3, .int t8), (2, .int x3), (0, .ref (a 0)), (1, .int x1), (4, .int x4), (5, .int x5)]) hx hb d_Model_order_82 hl (k := 3) rfl (by rw [et8]; rfl) (by decide) rfl (fun ls hl => ?_)
       refine lv_goto (tgt := 14) hx hb d_Model_order_85 (by decide) ?_
       exact hk14 x1 x3 t8 u _ _ _ hP hS (lv_sub hl [2, 3, 1, 0] rfl) h
   · have h := h.2 c5
     refine lv_iload hx hb d_Model_order_37 (lv_at hl 5 rfl) ?_
     refine lv_iload_n hx hb d_Model_order_39 rfl (lv_at hl 3 rfl) ?_
     refine lv_icmp_eq (tgt := 60) hx hb d_Model_order_40 (by decide) (fun c9 => ?_) (fun c9 => ?_)
     · have h := h.1 c9
       refine lv_iload hx hb d_Model_order_60 (lv_at hl 4 rfl) ?_
       refine lv_istore (lv' := [(4, .int x4), (0, .ref (a 0)), (1, .int x1), (2, .int x2), (3, .int x3), (5, .int x5)]) hx hb d_Model_order_62 hl (by decide) rfl (fun ls hl => ?_)
       obtain ⟨t10, et10⟩ : ∃ y : Int32, y = x5 + 1 := ⟨_, rfl⟩
       have h := h t10 et10
       refine lv_iinc (v := t10) (lv' := [(5, .int t10), (4, .int x4), (0, .ref (a 0)), (1, .int x1), (2, .int x2), (3, .int x3)]) hx hb d_Model_order_64 hl (k := 5) rfl (by rw [et10]; rfl) (by decide) rfl (fun ls hl => ?_)
       refine lv_goto (tgt := 28) hx hb d_Model_order_67 (by decide) ?_
       exact ih x1 x2 x3 x4 t10 u _ _ _ hP hS (lv_sub hl [2, 3, 4, 5, 1, 0] rfl) h
     · have h := h.2 c9
       refine lv_aload_n hx hb d_Model_order_43 rfl (lv_at hl 0 rfl) ?_
       refine lv_iload hx hb d_Model_order_44 (lv_at hl 5 rfl) ?_
       refine lv_iload_n hx hb d_Model_order_46 rfl (lv_at hl 3 rfl) ?_
       refine cc_i (va_runV (As := [.int x5, .int x3]) (rest := []) ⟨hx, hb, hml, hown, hts⟩ (ct_Model_comesBefore l D a cA cZ G _ x5 x3 u _ hI h) (pw_cwV 2 hts kw_1027 kw_57 kw_1024 kw_1026 kw_40 (by decide +kernel) ⟨Nat.le_of_ble_eq_true rfl, Nat.le_of_ble_eq_true rfl⟩) ⟨pw_blind, va_recv hK hP (ci := 1) (q0 := 0) rfl rw_at_0, fun U hU hW => ⟨rfl, by rw [hU], by rw [hU]; exact hP, va_K.moved hW.alike hK⟩⟩ rfl rfl hl.1 rfl (lv_room (Nat.le_of_ble_eq_true rfl)) d_Model_order_47 ⟨Nat.le_of_ble_eq_true rfl, Nat.le_of_ble_eq_true rfl⟩) hS hF hA (fun r12 u11 H locs hP hS h => ?_)
       refine lv_if_eq (tgt := 60) hx hb d_Model_order_50 (by decide) (fun c13 => ?_) (fun c13 => ?_)
       · have h := h.1 c13
         refine lv_iload hx hb d_Model_order_60 (lv_at hl 4 rfl) ?_
         refine lv_istore (lv' := [(4, .int x4), (0, .ref (a 0)), (1, .int x1), (2, .int x2), (3, .int x3), (5, .int x5)]) hx hb d_Model_order_62 hl (by decide) rfl (fun ls hl => ?_)
         obtain ⟨t14, et14⟩ : ∃ y : Int32, y = x5 + 1 := ⟨_, rfl⟩
         have h := h t14 et14
         refine lv_iinc (v := t14) (lv' := [(5, .int t14), (4, .int x4), (0, .ref (a 0)), (1, .int x1), (2, .int x2), (3, .int x3)]) hx hb d_Model_order_64 hl (k := 5) rfl (by rw [et14]; rfl) (by decide) rfl (fun ls hl => ?_)
         refine lv_goto (tgt := 28) hx hb d_Model_order_67 (by decide) ?_
         exact ih x1 x2 x3 x4 t14 u11 _ _ _ hP hS (lv_sub hl [2, 3, 4, 5, 1, 0] rfl) h
       · have h := h.2 c13
         refine lv_iload hx hb d_Model_order_53 (lv_at hl 4 rfl) ?_
         refine lv_iconst (v := 1) hx hb d_Model_order_55 (by decide) ?_
         refine lv_iadd hx hb d_Model_order_56 ?_
         refine lv_goto (tgt := 62) hx hb d_Model_order_57 (by decide) ?_
         refine lv_topi (fun t15 et15 => ?_)
         have h := h t15 et15
         refine lv_istore (lv' := [(4, .int t15), (0, .ref (a 0)), (1, .int x1), (2, .int x2), (3, .int x3), (5, .int x5)]) hx hb d_Model_order_62 hl (by decide) rfl (fun ls hl => ?_)
         obtain ⟨t16, et16⟩ : ∃ y : Int32, y = x5 + 1 := ⟨_, rfl⟩
         have h := h t16 et16
         refine lv_iinc (v := t16) (lv' := [(5, .int t16), (4, .int t15), (0, .ref (a 0)), (1, .int x1), (2, .int x2), (3, .int x3)]) hx hb d_Model_order_64 hl (k := 5) rfl (by rw [et16]; rfl) (by decide) rfl (fun ls hl => ?_)
         refine lv_goto (tgt := 28) hx hb d_Model_order_67 (by decide) ?_
         exact ih x1 x2 x3 t15 t16 u11 _ _ _ hP hS (lv_sub hl [2, 3, 4, 5, 1, 0] rfl) h
set_option maxHeartbeats 4000000 in
set_option maxRecDepth 100000 in
theorem cp_Model_order_14 {p : Program} {l : Launch} {e : Env} {s : State} {m : MethodId} {args : Array Value} {below : List Frame} {meth : Method} {c : Code} {D : va_G} {a : Nat → Nat} {cA cZ : ClassId} {G : pG} {A : Nat → Prop} {Q : Int32 → pS → Prop} (C : pw_C p s m args meth c b_Model_order 6 R_Model (some .int) w_Model_order A) (K : pw_K s D 15 a (rT cA cZ) A) : ∀ (n : Nat), ∀ (x1 x2 x3 : Int32) (u : pS) (H : Heap) (locs : List Loc) (ls : Array Slot), va_P D vwCl (rw a cA cZ G u) H → va_S A s.heap H locs → lv_has ls 6 [(0, .ref (a 0)), (1, .int x1), (2, .int x2), (3, .int x3)] → lp_Model_order_14 G Q n x1 x2 x3 u → W p l e ({ frames := 3, cells := 0, slots := 0, locals := 72 } : Room) s m args below meth c H locs 0 0 (pw_Ei below args s D (rw a cA cZ G) (rT cA cZ) A Q) (F0 m 14 ls []) := by
 obtain ⟨hx, hb, hr, hml, hown, hts, hlocks, hA⟩ := id C
 obtain ⟨hK, hI, hF⟩ := id K
 have hD : ∀ u, va_D A (rw a cA cZ G u) := fun u => rw_D hI hF
 intro n
 induction n with
 | zero => intro x1 x2 x3 u H locs ls hP hS hl h; exact h.elim
 | succ n ih =>
   intro x1 x2 x3 u H locs ls hP hS hl h
   refine lv_iload_n hx hb d_Model_order_14 rfl (lv_at hl 3 rfl) ?_
   refine lv_aload_n hx hb d_Model_order_15 rfl (lv_at hl 0 rfl) ?_
   refine va_get (D := D) (ci := 1) (v := .int (u.1 1)) (C := R_Model) (T := T_Model) (N := 23) hx hb hts in_Model hown hK hP 0 rw_at_0 rfl 8 (by decide) (hts _ (List.mem_cons_of_mem _ kw_843)) (fun _ h9 => h9) rfl d_Model_order_16 ?_
   refine lv_icmp_ge (tgt := 88) hx hb d_Model_order_19 (by decide) (fun c4 => ?_) (fun c4 => ?_)
   · have h := h.1 c4
     refine lv_iload_n hx hb d_Model_order_88 rfl (lv_at hl 2 rfl) ?_
     exact W.iret (v := x2) hx hb hr (fun t ht hW => ⟨⟨x2, u, rfl, h, by rw [ht]; exact hP, va_K.moved hW.alike hK⟩, hS.F ht⟩) hS.2.2 d_Model_order_89 hlocks
   · have h := h.2 c4
     refine lv_iconst (v := 0) hx hb d_Model_order_22 (by decide) ?_
     refine lv_istore (lv' := [(4, .int 0), (0, .ref (a 0)), (1, .int x1), (2, .int x2), (3, .int x3)]) hx hb d_Model_order_23 hl (by decide) rfl (fun ls hl => ?_)
     refine lv_iconst (v := 0) hx hb d_Model_order_25 (by decide) ?_
     refine lv_istore (lv' := [(5, .int 0), (4, .int 0), (0, .ref (a 0)), (1, .int x1), (2, .int x2), (3, .int x3)]) hx hb d_Model_order_26 hl (by decide) rfl (fun ls hl => ?_)
     obtain ⟨n1, h⟩ := h
     exact cp_Model_order_28 C K ih n1 x1 x2 x3 0 0 u _ _ _ hP hS (lv_sub hl [2, 3, 4, 5, 1, 0] rfl) h
set_option maxHeartbeats 4000000 in
set_option maxRecDepth 100000 in
theorem st_Model_order {p : Program} {l : Launch} {e : Env} {s : State} {m : MethodId} {args : Array Value} {below : List Frame} {meth : Method} {c : Code} {D : va_G} {a : Nat → Nat} {cA cZ : ClassId} {G : pG} {A : Nat → Prop} {Q : Int32 → pS → Prop} (C : pw_C p s m args meth c b_Model_order 6 R_Model (some .int) w_Model_order A) (K : pw_K s D 15 a (rT cA cZ) A) (x1 : Int32) (u : pS) (ls : Array Slot) (hP : va_P D vwCl (rw a cA cZ G u) s.heap) (hl : lv_has ls 6 [(0, .ref (a 0)), (1, .int x1)]) (h : wp_Model_order G x1 u Q) : W p l e ({ frames := 3, cells := 0, slots := 0, locals := 72 } : Room) s m args below meth c s.heap [] 0 0 (pw_Ei below args s D (rw a cA cZ G) (rT cA cZ) A Q) (F0 m 0 ls []) := by
 obtain ⟨hx, hb, hr, hml, hown, hts, hlocks, hA⟩ := id C
 obtain ⟨hK, hI, hF⟩ := id K
 have hD : ∀ u, va_D A (rw a cA cZ G u) := fun u => rw_D hI hF
 have hS : va_S A s.heap s.heap [] := va_S.rf
 have h : wp_Model_order G x1 u Q := h
 refine lv_aload_n hx hb d_Model_order_0 rfl (lv_at hl 0 rfl) ?_
 refine lv_iload_n hx hb d_Model_order_1 rfl (lv_at hl 1 rfl) ?_
 refine cc_i (va_runV (As := [.int x1]) (rest := []) ⟨hx, hb, hml, hown, hts⟩ (ct_Model_noPiece l D a cA cZ G _ x1 u _ hI h) (pw_cwV 1 hts kw_971 kw_57 kw_968 kw_970 kw_32 (by decide +kernel) ⟨Nat.le_of_ble_eq_true rfl, Nat.le_of_ble_eq_true rfl⟩) ⟨pw_blind, va_recv hK hP (ci := 1) (q0 := 0) rfl rw_at_0, fun U hU hW => ⟨rfl, by rw [hU], by rw [hU]; exact hP, va_K.moved hW.alike hK⟩⟩ rfl rfl hl.1 rfl (lv_room (Nat.le_of_ble_eq_true rfl)) d_Model_order_2 ⟨Nat.le_of_ble_eq_true rfl, Nat.le_of_ble_eq_true rfl⟩) hS hF hA (fun r2 u1 H locs hP hS h => ?_)
 refine lv_if_eq (tgt := 10) hx hb d_Model_order_5 (by decide) (fun c3 => ?_) (fun c3 => ?_)
 · have h := h.1 c3
   refine lv_iconst (v := 0) hx hb d_Model_order_10 (by decide) ?_
   refine lv_istore_n (lv' := [(2, .int 0), (0, .ref (a 0)), (1, .int x1)]) hx hb d_Model_order_11 rfl hl (by decide) rfl (fun ls hl => ?_)
   refine lv_iconst (v := 0) hx hb d_Model_order_12 (by decide) ?_
   refine lv_istore_n (lv' := [(3, .int 0), (2, .int 0), (0, .ref (a 0)), (1, .int x1)]) hx hb d_Model_order_13 rfl hl (by decide) rfl (fun ls hl => ?_)
   obtain ⟨n1, h⟩ := h
   exact cp_Model_order_14 C K n1 x1 0 0 u1 _ _ _ hP hS (lv_sub hl [2, 3, 1, 0] rfl) h
 · have h := h.2 c3
   refine lv_iconst (v := 0) hx hb d_Model_order_8 (by decide) ?_
   exact W.iret (v := 0) hx hb hr (fun t ht hW => ⟨⟨0, u1, rfl, h, by rw [ht]; exact hP, va_K.moved hW.alike hK⟩, hS.F ht⟩) hS.2.2 d_Model_order_9 hlocks
set_option maxHeartbeats 4000000 in
set_option maxRecDepth 100000 in
theorem ct_Model_order (l : Launch) (D : va_G) (a : Nat → Nat) (cA cZ : ClassId) (G : pG) (sz : Nat) (x1 : Int32) (u : pS) (Q : Int32 → pS → Prop) (hI : pw_I 15 a) (h : wp_Model_order G x1 u Q) : Met l y_Model_order w_Model_order ({ frames := 3, cells := 0, slots := 0, locals := 72 } : Room) (va_Pc [.ref (a 0), .int x1] (pw_pre D (rw a cA cZ G) (rT cA cZ) sz u)) (va_Qi (fun (r : Int32) (u : pS) => Q r u) (pw_B D (rw a cA cZ G) (rT cA cZ)) (pw_F 15 a sz)) 0 0 (pw_F 15 a sz) := by
 refine Met.ofW (cc := b_Model_order) (maxL := 6) (ret := (some .int)) (by decide) rfl ?_
 intro p e s m args below meth c s₁ B hml hv
 obtain ⟨rfl, hsz, hP, hK⟩ := hv
 subst hsz
 have hl := lv_entry ([.ref (a 0), .int x1]) (n := 6) (Nat.le_of_ble_eq_true rfl)
 rw [lg_entry_eq]
 generalize (lg_sl ([.ref (a 0), .int x1]) ++ List.replicate (6 - (lg_sl ([.ref (a 0), .int x1])).length) Slot.unset).toArray = ls at hl ⊢
 exact st_Model_order (A := (pw_F 15 a s.heap.size)) ⟨B.exec, B.bytes, B.returns, hml, findClass_of_methodNamed B.named, atoms_spec (ws := w_Model_order) B.pre, B.notSynchronized, fun q hq => Or.inr hq⟩ ⟨hK, hI, fun k hk => Or.inl ⟨k, hk, rfl⟩⟩ x1 u ls hP hl h
