set_option maxHeartbeats 4000000 in
set_option maxRecDepth 100000 in
theorem cp_Pieces_joinSmallest_38 {p : Program} {l : Launch} {e : Env} {s : State} {m : MethodId} {args : Array Value} {below : List Frame} {meth : Method} {c : Code} {D : va_G} {a : Nat → Nat} {cA cZ : ClassId} {G : pG} {A : Nat → Prop} {Q : Int32 → pS → Prop} (C : pw_C p s m args meth c b_Pieces_joinSmallest 5 R_Pieces (some .boolean) w_Pieces_joinSmallest A) (K : pw_K s D 40 a (cT cA cZ) A) : ∀ (n : Nat), ∀ (x2 x3 x4 : Int32) (u : pS) (H : Heap) (locs : List Loc) (ls : Array Slot), va_P D vwCl (cw a cA cZ G u) H → va_S A s.heap H locs → lv_has ls 5 [(0, .ref (a 4)), (2, .int x2), (3, .int x3), (4, .int x4)] → lp_Pieces_joinSmallest_38 G Q n x2 x3 x4 u → W p l e ({ frames := 4, cells := 0, slots := 0, locals := 90 } : Room) s m args below meth c H locs 0 0 (pw_Ei below args s D (cw a cA cZ G) (cT cA cZ) A Q) (F0 m 38 ls []) := by
 obtain ⟨hx, hb, hr, hml, hown, hts, hlocks, hA⟩ := id C
 obtain ⟨hK, hI, hF⟩ := id K
 have hD : ∀ u, va_D A (cw a cA cZ G u) := fun u => cw_D hI hF
 intro n
 induction n with
 | zero => intro x2 x3 x4 u H locs ls hP hS hl h; exact h.elim
 | succ n ih =>
   intro x2 x3 x4 u H locs ls hP hS hl h
   refine lv_iload hx hb d_Pieces_joinSmallest_38 (lv_at hl 3 rfl) ?_
   refine lv_aload_n hx hb d_Pieces_joinSmallest_40 rfl (lv_at hl 0 rfl) ?_
   refine va_get (D := D) (ci := 7) (v := .ref (a 1)) (C := R_Pieces) (T := T_Pieces) (N := 11) hx hb hts in_Pieces hown hK hP 4 cw_at_4 rfl 0 (by decide) (hts _ (List.mem_cons_of_mem _ kw_151)) (fun _ h9 => h9) rfl d_Pieces_joinSmallest_41 ?_
   refine va_get (D := D) (ci := 4) (v := .int (G.2.1 3)) (C := R_Grid) (T := T_Grid) (N := 6) hx hb hts in_Grid hown hK hP 1 cw_at_1 rfl 2 (by decide) (hts _ (List.mem_cons_of_mem _ kw_107)) (fun _ h9 => h9) rfl d_Pieces_joinSmallest_44 ?_
   refine lv_icmp_ge (tgt := 75) hx hb d_Pieces_joinSmallest_47 (by decide) (fun c9 => ?_) (fun c9 => ?_)
   · have h := h.1 c9
     refine lv_iconst (v := 1) hx hb d_Pieces_joinSmallest_75 (by decide) ?_
     exact W.zret (v := 1) hx hb hr rfl (fun t ht hW => ⟨⟨1, u, rfl, h, by rw [ht]; exact hP, va_K.moved hW.alike hK⟩, hS.F ht⟩) hS.2.2 d_Pieces_joinSmallest_76 hlocks
   · have h := h.2 c9
     refine lv_aload_n hx hb d_Pieces_joinSmallest_50 rfl (lv_at hl 0 rfl) ?_
     refine va_get (D := D) (ci := 7) (v := .ref (a 21)) (C := R_Pieces) (T := T_Pieces) (N := 11) hx hb hts in_Pieces hown hK hP 4 cw_at_4 rfl 2 (by decide) (hts _ (List.mem_cons_of_mem _ kw_153)) (fun _ h9 => h9) rfl d_Pieces_joinSmallest_51 ?_
     refine lv_iload hx hb d_Pieces_joinSmallest_54 (lv_at hl 3 rfl) ?_
     refine va_iald hx hb hK hP 21 0 cw_at_21 rfl h.1 d_Pieces_joinSmallest_56 ?_
     have h := h.2
     refine lv_iload_n hx hb d_Pieces_joinSmallest_57 rfl (lv_at hl 1 rfl) ?_
     refine lv_icmp_ne (tgt := 69) hx hb d_Pieces_joinSmallest_58 (by decide) (fun c10 => ?_) (fun c10 => ?_)
     · have h := h.2 c10
       obtain ⟨t11, et11⟩ : ∃ y : Int32, y = x4 + 1 := ⟨_, rfl⟩
       have h := h t11 et11
       refine lv_iinc (v := t11) (lv' := [(4, .int t11), (0, .ref (a 4)), (2, .int x2), (3, .int x3)]) hx hb d_Pieces_joinSmallest_69 hl (k := 3) rfl (by rw [et11]; rfl) (by decide) rfl (fun ls hl => ?_)
       refine lv_goto (tgt := 38) hx hb d_Pieces_joinSmallest_72 (by decide) ?_
       exact ih x2 x3 t11 u _ _ _ hP hS (lv_sub hl [1, 2, 3, 0] rfl) h
     · have h := h.1 c10
       refine lv_aload_n hx hb d_Pieces_joinSmallest_61 rfl (lv_at hl 0 rfl) ?_
       refine va_get (D := D) (ci := 7) (v := .ref (a 20)) (C := R_Pieces) (T := T_Pieces) (N := 11) hx hb hts in_Pieces hown hK hP 4 cw_at_4 rfl 1 (by decide) (hts _ (List.mem_cons_of_mem _ kw_152)) (fun _ h9 => h9) rfl d_Pieces_joinSmallest_62 ?_
       refine lv_iload hx hb d_Pieces_joinSmallest_65 (lv_at hl 3 rfl) ?_
       refine lv_iload_n hx hb d_Pieces_joinSmallest_67 rfl (lv_at hl 2 rfl) ?_
       refine va_iast hx hb hK hP (hD _) hS 20 0 cw_at_20 rfl h.1 d_Pieces_joinSmallest_68 (fun H locs hP _ hS => ?_)
       obtain ⟨u12, eu12⟩ : ∃ z, z = pw_sa u 6 (upd (u.2 6) x4.toNatClampNeg x3) := ⟨_, rfl⟩
       rw [cw_sa_20, ← eu12] at hP
       have h := h.2 u12 eu12
       obtain ⟨t13, et13⟩ : ∃ y : Int32, y = x4 + 1 := ⟨_, rfl⟩
       have h := h t13 et13
       refine lv_iinc (v := t13) (lv' := [(4, .int t13), (0, .ref (a 4)), (2, .int x2), (3, .int x3)]) hx hb d_Pieces_joinSmallest_69 hl (k := 3) rfl (by rw [et13]; rfl) (by decide) rfl (fun ls hl => ?_)
       refine lv_goto (tgt := 38) hx hb d_Pieces_joinSmallest_72 (by decide) ?_
       exact ih x2 x3 t13 u12 _ _ _ hP hS (lv_sub hl [1, 2, 3, 0] rfl) h
set_option maxHeartbeats 4000000 in
set_option maxRecDepth 100000 in
theorem st_Pieces_joinSmallest {p : Program} {l : Launch} {e : Env} {s : State} {m : MethodId} {args : Array Value} {below : List Frame} {meth : Method} {c : Code} {D : va_G} {a : Nat → Nat} {cA cZ : ClassId} {G : pG} {A : Nat → Prop} {Q : Int32 → pS → Prop} (C : pw_C p s m args meth c b_Pieces_joinSmallest 5 R_Pieces (some .boolean) w_Pieces_joinSmallest A) (K : pw_K s D 40 a (cT cA cZ) A) (x1 : Int32) (u : pS) (ls : Array Slot) (hP : va_P D vwCl (cw a cA cZ G u) s.heap) (hl : lv_has ls 5 [(0, .ref (a 4)), (1, .int x1)]) (h : wp_Pieces_joinSmallest G x1 u Q) : W p l e ({ frames := 4, cells := 0, slots := 0, locals := 90 } : Room) s m args below meth c s.heap [] 0 0 (pw_Ei below args s D (cw a cA cZ G) (cT cA cZ) A Q) (F0 m 0 ls []) := by
 obtain ⟨hx, hb, hr, hml, hown, hts, hlocks, hA⟩ := id C
 obtain ⟨hK, hI, hF⟩ := id K
 have hD : ∀ u, va_D A (cw a cA cZ G u) := fun u => cw_D hI hF
 have hS : va_S A s.heap s.heap [] := va_S.rf
 have h : wp_Pieces_joinSmallest G x1 u Q := h
 refine lv_aload_n hx hb d_Pieces_joinSmallest_0 rfl (lv_at hl 0 rfl) ?_
 refine cc_i (va_runV (As := []) (rest := []) ⟨hx, hb, hml, hown, hts⟩ (ct_Pieces_smallest l D a cA cZ G _  u _ hI h) (pw_cwV 0 hts kw_535 kw_49 kw_532 kw_534 kw_8 (by decide +kernel) ⟨Nat.le_of_ble_eq_true rfl, Nat.le_of_ble_eq_true rfl⟩) ⟨pw_blind, va_recv hK hP (ci := 7) (q0 := 4) rfl cw_at_4, fun U hU hW => ⟨rfl, by rw [hU], by rw [hU]; exact hP, va_K.moved hW.alike hK⟩⟩ rfl rfl hl.1 rfl (lv_room (Nat.le_of_ble_eq_true rfl)) d_Pieces_joinSmallest_1 ⟨Nat.le_of_ble_eq_true rfl, Nat.le_of_ble_eq_true rfl⟩) hS hF hA (fun r2 u1 H locs hP hS h => ?_)
 refine lv_istore_n (lv' := [(2, .int r2), (0, .ref (a 4)), (1, .int x1)]) hx hb d_Pieces_joinSmallest_4 rfl hl (by decide) rfl (fun ls hl => ?_)
 refine lv_aload_n hx hb d_Pieces_joinSmallest_5 rfl (lv_at hl 1 rfl) ?_
 refine va_get (D := D) (ci := 7) (v := .int (u1.1 2)) (C := R_Pieces) (T := T_Pieces) (N := 11) hx hb hts in_Pieces hown hK hP 4 cw_at_4 rfl 10 (by decide) (hts _ (List.mem_cons_of_mem _ kw_161)) (fun _ h9 => h9) rfl d_Pieces_joinSmallest_6 ?_
 refine lv_iconst (v := 2) hx hb d_Pieces_joinSmallest_9 (by decide) ?_
 refine lv_icmp_lt (tgt := 23) hx hb d_Pieces_joinSmallest_10 (by decide) (fun c3 => ?_) (fun c3 => ?_)
 · have h := h.1 c3
   refine lv_iconst (v := 0) hx hb d_Pieces_joinSmallest_23 (by decide) ?_
   exact W.zret (v := 0) hx hb hr rfl (fun t ht hW => ⟨⟨0, u1, rfl, h, by rw [ht]; exact hP, va_K.moved hW.alike hK⟩, hS.F ht⟩) hS.2.2 d_Pieces_joinSmallest_24 hlocks
 · have h := h.2 c3
   refine lv_aload_n hx hb d_Pieces_joinSmallest_13 rfl (lv_at hl 1 rfl) ?_
   refine va_get (D := D) (ci := 7) (v := .ref (a 25)) (C := R_Pieces) (T := T_Pieces) (N := 11) hx hb hts in_Pieces hown hK hP 4 cw_at_4 rfl 6 (by decide) (hts _ (List.mem_cons_of_mem _ kw_157)) (fun _ h9 => h9) rfl d_Pieces_joinSmallest_14 ?_
   refine lv_iload_n hx hb d_Pieces_joinSmallest_17 rfl (lv_at hl 0 rfl) ?_
   refine va_iald hx hb hK hP 25 0 cw_at_25 rfl h.1 d_Pieces_joinSmallest_18 ?_
   have h := h.2
   refine lv_iload_n hx hb d_Pieces_joinSmallest_19 rfl (lv_at hl 2 rfl) ?_
   refine lv_icmp_lt (tgt := 25) hx hb d_Pieces_joinSmallest_20 (by decide) (fun c4 => ?_) (fun c4 => ?_)
   · have h := h.1 c4
     refine lv_aload_n hx hb d_Pieces_joinSmallest_25 rfl (lv_at hl 1 rfl) ?_
     refine lv_aload_n hx hb d_Pieces_joinSmallest_26 rfl (lv_at hl 1 rfl) ?_
     refine lv_iload_n hx hb d_Pieces_joinSmallest_27 rfl (lv_at hl 0 rfl) ?_
     refine cc_i (va_runV (As := [.int r2]) (rest := [.ref (a 4)]) ⟨hx, hb, hml, hown, hts⟩ (ct_Pieces_closestTo l D a cA cZ G _ r2 u1 _ hI h) (pw_cwV 1 hts kw_539 kw_49 kw_536 kw_538 kw_9 (by decide +kernel) ⟨Nat.le_of_ble_eq_true rfl, Nat.le_of_ble_eq_true rfl⟩) ⟨pw_blind, va_recv hK hP (ci := 7) (q0 := 4) rfl cw_at_4, fun U hU hW => ⟨rfl, by rw [hU], by rw [hU]; exact hP, va_K.moved hW.alike hK⟩⟩ rfl rfl hl.1 rfl (lv_room (Nat.le_of_ble_eq_true rfl)) d_Pieces_joinSmallest_28 ⟨Nat.le_of_ble_eq_true rfl, Nat.le_of_ble_eq_true rfl⟩) hS hF hA (fun r6 u5 H locs hP hS h => ?_)
     refine cc_i (va_runV (As := [.int r6]) (rest := []) ⟨hx, hb, hml, hown, hts⟩ (ct_Pieces_woodOf l D a cA cZ G _ r6 u5 _ hI h) (pw_cwV 1 hts kw_551 kw_49 kw_548 kw_549 kw_550 (by decide +kernel) ⟨Nat.le_of_ble_eq_true rfl, Nat.le_of_ble_eq_true rfl⟩) ⟨pw_blind, va_recv hK hP (ci := 7) (q0 := 4) rfl cw_at_4, fun U hU hW => ⟨rfl, by rw [hU], by rw [hU]; exact hP, va_K.moved hW.alike hK⟩⟩ rfl rfl hl.1 rfl (lv_room (Nat.le_of_ble_eq_true rfl)) d_Pieces_joinSmallest_31 ⟨Nat.le_of_ble_eq_true rfl, Nat.le_of_ble_eq_true rfl⟩) hS hF hA (fun r8 u7 H locs hP hS h => ?_)
     refine lv_istore_n (lv' := [(3, .int r8), (2, .int r2), (0, .ref (a 4)), (1, .int x1)]) hx hb d_Pieces_joinSmallest_34 rfl hl (by decide) rfl (fun ls hl => ?_)
     refine lv_iconst (v := 0) hx hb d_Pieces_joinSmallest_35 (by decide) ?_
     refine lv_istore (lv' := [(4, .int 0), (3, .int r8), (2, .int r2), (0, .ref (a 4)), (1, .int x1)]) hx hb d_Pieces_joinSmallest_36 hl (by decide) rfl (fun ls hl => ?_)
     obtain ⟨n1, h⟩ := h
     exact cp_Pieces_joinSmallest_38 C K n1 r2 r8 0 u7 _ _ _ hP hS (lv_sub hl [3, 2, 1, 0] rfl) h
   · have h := h.2 c4
     refine lv_iconst (v := 0) hx hb d_Pieces_joinSmallest_23 (by decide) ?_
     exact W.zret (v := 0) hx hb hr rfl (fun t ht hW => ⟨⟨0, u1, rfl, h, by rw [ht]; exact hP, va_K.moved hW.alike hK⟩, hS.F ht⟩) hS.2.2 d_Pieces_joinSmallest_24 hlocks
set_option maxHeartbeats 4000000 in
set_option maxRecDepth 100000 in
theorem ct_Pieces_joinSmallest (l : Launch) (D : va_G) (a : Nat → Nat) (cA cZ : ClassId) (G : pG) (sz : Nat) (x1 : Int32) (u : pS) (Q : Int32 → pS → Prop) (hI : pw_I 40 a) (h : wp_Pieces_joinSmallest G x1 u Q) : Met l y_Pieces_joinSmallest w_Pieces_joinSmallest ({ frames := 4, cells := 0, slots := 0, locals := 90 } : Room) (va_Pc [.ref (a 4), .int x1] (pw_pre D (cw a cA cZ G) (cT cA cZ) sz u)) (va_Qi (fun (r : Int32) (u : pS) => Q r u) (pw_B D (cw a cA cZ G) (cT cA cZ)) (pw_F 40 a sz)) 0 0 (pw_F 40 a sz) := by
 refine Met.ofW (cc := b_Pieces_joinSmallest) (maxL := 5) (ret := (some .boolean)) (by decide) rfl ?_
 intro p e s m args below meth c s₁ B hml hv
 obtain ⟨rfl, hsz, hP, hK⟩ := hv
 subst hsz
 have hl := lv_entry ([.ref (a 4), .int x1]) (n := 5) (Nat.le_of_ble_eq_true rfl)
 rw [lg_entry_eq]
 generalize (lg_sl ([.ref (a 4), .int x1]) ++ List.replicate (5 - (lg_sl ([.ref (a 4), .int x1])).length) Slot.unset).toArray = ls at hl ⊢
 exact st_Pieces_joinSmallest (A := (pw_F 40 a s.heap.size)) ⟨B.exec, B.bytes, B.returns, hml, findClass_of_methodNamed B.named, atoms_spec (ws := w_Pieces_joinSmallest) B.pre, B.notSynchronized, fun q hq => Or.inr hq⟩ ⟨hK, hI, fun k hk => Or.inl ⟨k, hk, rfl⟩⟩ x1 u ls hP hl h
set_option maxHeartbeats 4000000 in
set_option maxRecDepth 100000 in
theorem st_Colours_distance_picture_woods {p : Program} {l : Launch} {e : Env} {s : State} {m : MethodId} {args : Array Value} {below : List Frame} {meth : Method} {c : Code} {D : va_G} {a : Nat → Nat} {cA cZ : ClassId} {G : pG} {A : Nat → Prop} {Q : Int32 → pS → Prop} (C : pw_C p s m args meth c b_Colours_distance 4 R_Colours (some .int) w_Colours_distance A) (K : pw_K s D 40 a (cT cA cZ) A) (x1 x3 : Int32) (u : pS) (ls : Array Slot) (hP : va_P D vwCl (cw a cA cZ G u) s.heap) (hl : lv_has ls 4 [(0, .ref (a 2)), (1, .int x1), (2, .ref (a 3)), (3, .int x3)]) (h : wp_Colours_distance_picture_woods G x1 x3 u Q) : W p l e ({ frames := 1, cells := 0, slots := 0, locals := 14 } : Room) s m args below meth c s.heap [] 0 0 (pw_Ei below args s D (cw a cA cZ G) (cT cA cZ) A Q) (F0 m 0 ls []) := by
 obtain ⟨hx, hb, hr, hml, hown, hts, hlocks, hA⟩ := id C
 obtain ⟨hK, hI, hF⟩ := id K
 have hD : ∀ u, va_D A (cw a cA cZ G u) := fun u => cw_D hI hF
 have hS : va_S A s.heap s.heap [] := va_S.rf
 have h : wp_Colours_distance_picture_woods G x1 x3 u Q := h
 refine lv_aload_n hx hb d_Colours_distance_0 rfl (lv_at hl 0 rfl) ?_
 refine va_get (D := D) (ci := 3) (v := .ref (a 14)) (C := R_Colours) (T := T_Colours) (N := 3) hx hb hts in_Colours hown hK hP 2 cw_at_2 rfl 0 (by decide) (hts _ (List.mem_cons_of_mem _ kw_135)) (fun _ h9 => h9) rfl d_Colours_distance_1 ?_
 refine lv_iload_n hx hb d_Colours_distance_4 rfl (lv_at hl 1 rfl) ?_
 refine va_iald hx hb hK hP 14 0 cw_at_14 rfl h.1 d_Colours_distance_5 ?_
 have h := h.2
 refine lv_aload_n hx hb d_Colours_distance_6 rfl (lv_at hl 2 rfl) ?_
 refine va_get (D := D) (ci := 3) (v := .ref (a 17)) (C := R_Colours) (T := T_Colours) (N := 3) hx hb hts in_Colours hown hK hP 3 cw_at_3 rfl 0 (by decide) (hts _ (List.mem_cons_of_mem _ kw_135)) (fun _ h9 => h9) rfl d_Colours_distance_7 ?_
 refine lv_iload_n hx hb d_Colours_distance_10 rfl (lv_at hl 3 rfl) ?_
 refine va_iald hx hb hK hP 17 0 cw_at_17 rfl h.1 d_Colours_distance_11 ?_
 have h := h.2
 refine lv_isub hx hb d_Colours_distance_12 ?_
 refine va_mabs hx hb (by rw [hml]; exact hl.1.symm) hown (hts _ (List.mem_cons_of_mem _ kw_492)) (hts _ (List.mem_cons_of_mem _ kw_493)) (hts _ (List.mem_cons_of_mem _ kw_47)) (hts _ (List.mem_cons_of_mem _ kw_494)) (Nat.le_of_ble_eq_true rfl) (Nat.le_of_ble_eq_true rfl) (Nat.le_of_ble_eq_true rfl) (Nat.le_of_ble_eq_true rfl) d_Colours_distance_13 ?_
 refine lv_topi (fun t1 et1 => ?_)
 have h := h t1 et1
 refine lv_aload_n hx hb d_Colours_distance_16 rfl (lv_at hl 0 rfl) ?_
 refine va_get (D := D) (ci := 3) (v := .ref (a 15)) (C := R_Colours) (T := T_Colours) (N := 3) hx hb hts in_Colours hown hK hP 2 cw_at_2 rfl 1 (by decide) (hts _ (List.mem_cons_of_mem _ kw_136)) (fun _ h9 => h9) rfl d_Colours_distance_17 ?_
 refine lv_iload_n hx hb d_Colours_distance_20 rfl (lv_at hl 1 rfl) ?_
 refine va_iald hx hb hK hP 15 0 cw_at_15 rfl h.1 d_Colours_distance_21 ?_
 have h := h.2
 refine lv_aload_n hx hb d_Colours_distance_22 rfl (lv_at hl 2 rfl) ?_
 refine va_get (D := D) (ci := 3) (v := .ref (a 18)) (C := R_Colours) (T := T_Colours) (N := 3) hx hb hts in_Colours hown hK hP 3 cw_at_3 rfl 1 (by decide) (hts _ (List.mem_cons_of_mem _ kw_136)) (fun _ h9 => h9) rfl d_Colours_distance_23 ?_
 refine lv_iload_n hx hb d_Colours_distance_26 rfl (lv_at hl 3 rfl) ?_
 refine va_iald hx hb hK hP 18 0 cw_at_18 rfl h.1 d_Colours_distance_27 ?_
 have h := h.2
 refine lv_isub hx hb d_Colours_distance_28 ?_
 refine va_mabs hx hb (by rw [hml]; exact hl.1.symm) hown (hts _ (List.mem_cons_of_mem _ kw_492)) (hts _ (List.mem_cons_of_mem _ kw_493)) (hts _ (List.mem_cons_of_mem _ kw_47)) (hts _ (List.mem_cons_of_mem _ kw_494)) (Nat.le_of_ble_eq_true rfl) (Nat.le_of_ble_eq_true rfl) (Nat.le_of_ble_eq_true rfl) (Nat.le_of_ble_eq_true rfl) d_Colours_distance_29 ?_
 refine lv_topi (fun t2 et2 => ?_)
 have h := h t2 et2
 refine lv_iadd hx hb d_Colours_distance_32 ?_
 refine lv_aload_n hx hb d_Colours_distance_33 rfl (lv_at hl 0 rfl) ?_
 refine va_get (D := D) (ci := 3) (v := .ref (a 16)) (C := R_Colours) (T := T_Colours) (N := 3) hx hb hts in_Colours hown hK hP 2 cw_at_2 rfl 2 (by decide) (hts _ (List.mem_cons_of_mem _ kw_137)) (fun _ h9 => h9) rfl d_Colours_distance_34 ?_
 refine lv_iload_n hx hb d_Colours_distance_37 rfl (lv_at hl 1 rfl) ?_
 refine va_iald hx hb hK hP 16 0 cw_at_16 rfl h.1 d_Colours_distance_38 ?_
 have h := h.2
 refine lv_aload_n hx hb d_Colours_distance_39 rfl (lv_at hl 2 rfl) ?_
 refine va_get (D := D) (ci := 3) (v := .ref (a 19)) (C := R_Colours) (T := T_Colours) (N := 3) hx hb hts in_Colours hown hK hP 3 cw_at_3 rfl 2 (by decide) (hts _ (List.mem_cons_of_mem _ kw_137)) (fun _ h9 => h9) rfl d_Colours_distance_40 ?_
 refine lv_iload_n hx hb d_Colours_distance_43 rfl (lv_at hl 3 rfl) ?_
 refine va_iald hx hb hK hP 19 0 cw_at_19 rfl h.1 d_Colours_distance_44 ?_
 have h := h.2
 refine lv_isub hx hb d_Colours_distance_45 ?_
 refine va_mabs hx hb (by rw [hml]; exact hl.1.symm) hown (hts _ (List.mem_cons_of_mem _ kw_492)) (hts _ (List.mem_cons_of_mem _ kw_493)) (hts _ (List.mem_cons_of_mem _ kw_47)) (hts _ (List.mem_cons_of_mem _ kw_494)) (Nat.le_of_ble_eq_true rfl) (Nat.le_of_ble_eq_true rfl) (Nat.le_of_ble_eq_true rfl) (Nat.le_of_ble_eq_true rfl) d_Colours_distance_46 ?_
 refine lv_topi (fun t3 et3 => ?_)
 have h := h t3 et3
 refine lv_iadd hx hb d_Colours_distance_49 ?_
 exact W.iret (v := ((t1 + t2) + t3)) hx hb hr (fun t ht hW => ⟨⟨((t1 + t2) + t3), u, rfl, h, by rw [ht]; exact hP, va_K.moved hW.alike hK⟩, hS.F ht⟩) hS.2.2 d_Colours_distance_50 hlocks
set_option maxHeartbeats 4000000 in
set_option maxRecDepth 100000 in
theorem ct_Colours_distance_picture_woods (l : Launch) (D : va_G) (a : Nat → Nat) (cA cZ : ClassId) (G : pG) (sz : Nat) (x1 x3 : Int32) (u : pS) (Q : Int32 → pS → Prop) (hI : pw_I 40 a) (h : wp_Colours_distance_picture_woods G x1 x3 u Q) : Met l y_Colours_distance w_Colours_distance ({ frames := 1, cells := 0, slots := 0, locals := 14 } : Room) (va_Pc [.ref (a 2), .int x1, .ref (a 3), .int x3] (pw_pre D (cw a cA cZ G) (cT cA cZ) sz u)) (va_Qi (fun (r : Int32) (u : pS) => Q r u) (pw_B D (cw a cA cZ G) (cT cA cZ)) (pw_F 40 a sz)) 0 0 (pw_F 40 a sz) := by
 refine Met.ofW (cc := b_Colours_distance) (maxL := 4) (ret := (some .int)) (by decide) rfl ?_
 intro p e s m args below meth c s₁ B hml hv
 obtain ⟨rfl, hsz, hP, hK⟩ := hv
 subst hsz
 have hl := lv_entry ([.ref (a 2), .int x1, .ref (a 3), .int x3]) (n := 4) (Nat.le_of_ble_eq_true rfl)
 rw [lg_entry_eq]
 generalize (lg_sl ([.ref (a 2), .int x1, .ref (a 3), .int x3]) ++ List.replicate (4 - (lg_sl ([.ref (a 2), .int x1, .ref (a 3), .int x3])).length) Slot.unset).toArray = ls at hl ⊢
 exact st_Colours_distance_picture_woods (A := (pw_F 40 a s.heap.size)) ⟨B.exec, B.bytes, B.returns, hml, findClass_of_methodNamed B.named, atoms_spec (ws := w_Colours_distance) B.pre, B.notSynchronized, fun q hq => Or.inr hq⟩ ⟨hK, hI, fun k hk => Or.inl ⟨k, hk, rfl⟩⟩ x1 x3 u ls hP hl h
set_option maxHeartbeats 4000000 in
set_option maxRecDepth 100000 in
theorem cp_Pieces_nearestWood_15 {p : Program} {l : Launch} {e : Env} {s : State} {m : MethodId} {args : Array Value} {below : List Frame} {meth : Method} {c : Code} {D : va_G} {a : Nat → Nat} {cA cZ : ClassId} {G : pG} {A : Nat → Prop} {Q : Int32 → pS → Prop} (C : pw_C p s m args meth c b_Pieces_nearestWood 8 R_Pieces (some .int) w_Pieces_nearestWood A) (K : pw_K s D 40 a (cT cA cZ) A) : ∀ (n : Nat), ∀ (x1 x3 x4 x5 x6 : Int32) (u : pS) (H : Heap) (locs : List Loc) (ls : Array Slot), va_P D vwCl (cw a cA cZ G u) H → va_S A s.heap H locs → lv_has ls 8 [(0, .ref (a 2)), (1, .int x1), (2, .ref (a 3)), (3, .int x3), (4, .int x4), (5, .int x5), (6, .int x6)] → lp_Pieces_nearestWood_15 G Q n x1 x3 x4 x5 x6 u → W p l e ({ frames := 2, cells := 0, slots := 0, locals := 37 } : Room) s m args below meth c H locs 0 0 (pw_Ei below args s D (cw a cA cZ G) (cT cA cZ) A Q) (F0 m 15 ls []) := by
 obtain ⟨hx, hb, hr, hml, hown, hts, hlocks, hA⟩ := id C
 obtain ⟨hK, hI, hF⟩ := id K
 have hD : ∀ u, va_D A (cw a cA cZ G u) := fun u => cw_D hI hF
 intro n
 induction n with
 | zero => intro x1 x3 x4 x5 x6 u H locs ls hP hS hl h; exact h.elim
 | succ n ih =>
   intro x1 x3 x4 x5 x6 u H locs ls hP hS hl h
   refine lv_iload hx hb d_Pieces_nearestWood_15 (lv_at hl 6 rfl) ?_
   refine lv_iload_n hx hb d_Pieces_nearestWood_17 rfl (lv_at hl 3 rfl) ?_
   refine lv_icmp_ge (tgt := 52) hx hb d_Pieces_nearestWood_18 (by decide) (fun c3 => ?_) (fun c3 => ?_)
   · have h := h.1 c3
     refine lv_iload hx hb d_Pieces_nearestWood_52 (lv_at hl 4 rfl) ?_
     exact W.iret (v := x4) hx hb hr (fun t ht hW => ⟨⟨x4, u, rfl, h, by rw [ht]; exact hP, va_K.moved hW.alike hK⟩, hS.F ht⟩) hS.2.2 d_Pieces_nearestWood_54 hlocks
   · have h := h.2 c3
     refine lv_aload_n hx hb d_Pieces_nearestWood_21 rfl (lv_at hl 0 rfl) ?_
     refine lv_iload_n hx hb d_Pieces_nearestWood_22 rfl (lv_at hl 1 rfl) ?_
     refine lv_aload_n hx hb d_Pieces_nearestWood_23 rfl (lv_at hl 2 rfl) ?_
     refine lv_iload hx hb d_Pieces_nearestWood_24 (lv_at hl 6 rfl) ?_
     refine cc_i (va_runV (As := [.int x1, .ref (a 3), .int x6]) (rest := []) ⟨hx, hb, hml, hown, hts⟩ (ct_Colours_distance_picture_woods l D a cA cZ G _ x1 x6 u _ hI h) (pw_cwV 3 hts kw_491 kw_48 kw_488 kw_489 kw_490 (by decide +kernel) ⟨Nat.le_of_ble_eq_true rfl, Nat.le_of_ble_eq_true rfl⟩) ⟨pw_blind, va_recv hK hP (ci := 3) (q0 := 2) rfl cw_at_2, fun U hU hW => ⟨rfl, by rw [hU], by rw [hU]; exact hP, va_K.moved hW.alike hK⟩⟩ rfl rfl hl.1 rfl (lv_room (Nat.le_of_ble_eq_true rfl)) d_Pieces_nearestWood_26 ⟨Nat.le_of_ble_eq_true rfl, Nat.le_of_ble_eq_true rfl⟩) hS hF hA (fun r5 u4 H locs hP hS h => ?_)
     refine lv_istore (lv' := [(7, .int r5), (0, .ref (a 2)), (1, .int x1), (2, .ref (a 3)), (3, .int x3), (4, .int x4), (5, .int x5), (6, .int x6)]) hx hb d_Pieces_nearestWood_29 hl (by decide) rfl (fun ls hl => ?_)
     refine lv_iload hx hb d_Pieces_nearestWood_31 (lv_at hl 0 rfl) ?_
     refine lv_iload hx hb d_Pieces_nearestWood_33 (lv_at hl 6 rfl) ?_
     refine lv_icmp_ge (tgt := 46) hx hb d_Pieces_nearestWood_35 (by decide) (fun c6 => ?_) (fun c6 => ?_)
     · have h := h.1 c6
       obtain ⟨t7, et7⟩ : ∃ y : Int32, y = x6 + 1 := ⟨_, rfl⟩
       have h := h t7 et7
       refine lv_iinc (v := t7) (lv' := [(6, .int t7), (7, .int r5), (0, .ref (a 2)), (1, .int x1), (2, .ref (a 3)), (3, .int x3), (4, .int x4), (5, .int x5)]) hx hb d_Pieces_nearestWood_46 hl (k := 7) rfl (by rw [et7]; rfl) (by decide) rfl (fun ls hl => ?_)
       refine lv_goto (tgt := 15) hx hb d_Pieces_nearestWood_49 (by decide) ?_
       exact ih x1 x3 x4 x5 t7 u4 _ _ _ hP hS (lv_sub hl [2, 3, 4, 5, 6, 7, 0] rfl) h
     · have h := h.2 c6
       refine lv_iload hx hb d_Pieces_nearestWood_38 (lv_at hl 7 rfl) ?_
       refine lv_istore (lv' := [(4, .int x6), (7, .int r5), (0, .ref (a 2)), (1, .int x1), (2, .ref (a 3)), (3, .int x3), (5, .int x5), (6, .int x6)]) hx hb d_Pieces_nearestWood_40 hl (by decide) rfl (fun ls hl => ?_)
       refine lv_iload hx hb d_Pieces_nearestWood_42 (lv_at hl 1 rfl) ?_
       refine lv_istore (lv' := [(5, .int r5), (4, .int x6), (7, .int r5), (0, .ref (a 2)), (1, .int x1), (2, .ref (a 3)), (3, .int x3), (6, .int x6)]) hx hb d_Pieces_nearestWood_44 hl (by decide) rfl (fun ls hl => ?_)
       obtain ⟨t8, et8⟩ : ∃ y : Int32, y = x6 + 1 := ⟨_, rfl⟩
       have h := h t8 et8
       refine lv_iinc (v := t8) (lv' := [(6, .int t8), (5, .int r5), (4, .int x6), (7, .int r5), (0, .ref (a 2)), (1, .int x1), (2, .ref (a 3)), (3, .int x3)]) hx hb d_Pieces_nearestWood_46 hl (k := 7) rfl (by rw [et8]; rfl) (by decide) rfl (fun ls hl => ?_)
       refine lv_goto (tgt := 15) hx hb d_Pieces_nearestWood_49 (by decide) ?_
       exact ih x1 x3 x6 r5 t8 u4 _ _ _ hP hS (lv_sub hl [4, 5, 6, 7, 2, 1, 0] rfl) h
set_option maxHeartbeats 4000000 in
set_option maxRecDepth 100000 in
theorem st_Pieces_nearestWood {p : Program} {l : Launch} {e : Env} {s : State} {m : MethodId} {args : Array Value} {below : List Frame} {meth : Method} {c : Code} {D : va_G} {a : Nat → Nat} {cA cZ : ClassId} {G : pG} {A : Nat → Prop} {Q : Int32 → pS → Prop} (C : pw_C p s m args meth c b_Pieces_nearestWood 8 R_Pieces (some .int) w_Pieces_nearestWood A) (K : pw_K s D 40 a (cT cA cZ) A) (x1 x3 : Int32) (u : pS) (ls : Array Slot) (hP : va_P D vwCl (cw a cA cZ G u) s.heap) (hl : lv_has ls 8 [(0, .ref (a 2)), (1, .int x1), (2, .ref (a 3)), (3, .int x3)]) (h : wp_Pieces_nearestWood G x1 x3 u Q) : W p l e ({ frames := 2, cells := 0, slots := 0, locals := 37 } : Room) s m args below meth c s.heap [] 0 0 (pw_Ei below args s D (cw a cA cZ G) (cT cA cZ) A Q) (F0 m 0 ls []) := by
 obtain ⟨hx, hb, hr, hml, hown, hts, hlocks, hA⟩ := id C
 obtain ⟨hK, hI, hF⟩ := id K
 have hD : ∀ u, va_D A (cw a cA cZ G u) := fun u => cw_D hI hF
 have hS : va_S A s.heap s.heap [] := va_S.rf
 have h : wp_Pieces_nearestWood G x1 x3 u Q := h
 refine lv_iconst (v := 0) hx hb d_Pieces_nearestWood_0 (by decide) ?_
 refine lv_istore (lv' := [(4, .int 0), (0, .ref (a 2)), (1, .int x1), (2, .ref (a 3)), (3, .int x3)]) hx hb d_Pieces_nearestWood_1 hl (by decide) rfl (fun ls hl => ?_)
 refine lv_aload_n hx hb d_Pieces_nearestWood_3 rfl (lv_at hl 1 rfl) ?_
 refine lv_iload_n hx hb d_Pieces_nearestWood_4 rfl (lv_at hl 2 rfl) ?_
 refine lv_aload_n hx hb d_Pieces_nearestWood_5 rfl (lv_at hl 3 rfl) ?_
 refine lv_iconst (v := 0) hx hb d_Pieces_nearestWood_6 (by decide) ?_
 refine cc_i (va_runV (As := [.int x1, .ref (a 3), .int 0]) (rest := []) ⟨hx, hb, hml, hown, hts⟩ (ct_Colours_distance_picture_woods l D a cA cZ G _ x1 0 u _ hI h) (pw_cwV 3 hts kw_491 kw_48 kw_488 kw_489 kw_490 (by decide +kernel) ⟨Nat.le_of_ble_eq_true rfl, Nat.le_of_ble_eq_true rfl⟩) ⟨pw_blind, va_recv hK hP (ci := 3) (q0 := 2) rfl cw_at_2, fun U hU hW => ⟨rfl, by rw [hU], by rw [hU]; exact hP, va_K.moved hW.alike hK⟩⟩ rfl rfl hl.1 rfl (lv_room (Nat.le_of_ble_eq_true rfl)) d_Pieces_nearestWood_7 ⟨Nat.le_of_ble_eq_true rfl, Nat.le_of_ble_eq_true rfl⟩) hS hF hA (fun r2 u1 H locs hP hS h => ?_)
 refine lv_istore (lv' := [(5, .int r2), (4, .int 0), (0, .ref (a 2)), (1, .int x1), (2, .ref (a 3)), (3, .int x3)]) hx hb d_Pieces_nearestWood_10 hl (by decide) rfl (fun ls hl => ?_)
 refine lv_iconst (v := 1) hx hb d_Pieces_nearestWood_12 (by decide) ?_
 refine lv_istore (lv' := [(6, .int 1), (5, .int r2), (4, .int 0), (0, .ref (a 2)), (1, .int x1), (2, .ref (a 3)), (3, .int x3)]) hx hb d_Pieces_nearestWood_13 hl (by decide) rfl (fun ls hl => ?_)
 obtain ⟨n1, h⟩ := h
 exact cp_Pieces_nearestWood_15 C K n1 x1 x3 0 r2 1 u1 _ _ _ hP hS (lv_sub hl [3, 4, 5, 6, 2, 1, 0] rfl) h
set_option maxHeartbeats 4000000 in
set_option maxRecDepth 100000 in
theorem ct_Pieces_nearestWood (l : Launch) (D : va_G) (a : Nat → Nat) (cA cZ : ClassId) (G : pG) (sz : Nat) (x1 x3 : Int32) (u : pS) (Q : Int32 → pS → Prop) (hI : pw_I 40 a) (h : wp_Pieces_nearestWood G x1 x3 u Q) : Met l y_Pieces_nearestWood w_Pieces_nearestWood ({ frames := 2, cells := 0, slots := 0, locals := 37 } : Room) (va_Pc [.ref (a 2), .int x1, .ref (a 3), .int x3] (pw_pre D (cw a cA cZ G) (cT cA cZ) sz u)) (va_Qi (fun (r : Int32) (u : pS) => Q r u) (pw_B D (cw a cA cZ G) (cT cA cZ)) (pw_F 40 a sz)) 0 0 (pw_F 40 a sz) := by
 refine Met.ofW (cc := b_Pieces_nearestWood) (maxL := 8) (ret := (some .int)) (by decide) rfl ?_
 intro p e s m args below meth c s₁ B hml hv
 obtain ⟨rfl, hsz, hP, hK⟩ := hv
 subst hsz
 have hl := lv_entry ([.ref (a 2), .int x1, .ref (a 3), .int x3]) (n := 8) (Nat.le_of_ble_eq_true rfl)
 rw [lg_entry_eq]
 generalize (lg_sl ([.ref (a 2), .int x1, .ref (a 3), .int x3]) ++ List.replicate (8 - (lg_sl ([.ref (a 2), .int x1, .ref (a 3), .int x3])).length) Slot.unset).toArray = ls at hl ⊢
 exact st_Pieces_nearestWood (A := (pw_F 40 a s.heap.size)) ⟨B.exec, B.bytes, B.returns, hml, findClass_of_methodNamed B.named, atoms_spec (ws := w_Pieces_nearestWood) B.pre, B.notSynchronized, fun q hq => Or.inr hq⟩ ⟨hK, hI, fun k hk => Or.inl ⟨k, hk, rfl⟩⟩ x1 x3 u ls hP hl h
set_option maxHeartbeats 4000000 in
set_option maxRecDepth 100000 in
theorem cp_Pieces_make_43 {p : Program} {l : Launch} {e : Env} {s : State} {m : MethodId} {args : Array Value} {below : List Frame} {meth : Method} {c : Code} {D : va_G} {a : Nat → Nat} {cA cZ : ClassId} {G : pG} {A : Nat → Prop} {Q : pS → Prop} (C : pw_C p s m args meth c b_Pieces_make 6 R_Pieces none w_Pieces_make A) (K : pw_K s D 40 a (cT cA cZ) A) : ∀ (n : Nat), ∀ (x4 x5 : Int32) (u : pS) (H : Heap) (locs : List Loc) (ls : Array Slot), va_P D vwCl (cw a cA cZ G u) H → va_S A s.heap H locs → lv_has ls 6 [(0, .ref (a 4)), (4, .int x4), (5, .int x5)] → lp_Pieces_make_43 G Q n x4 x5 u → W p l e ({ frames := 5, cells := 0, slots := 0, locals := 114 } : Room) s m args below meth c H locs 0 0 (pw_Ev below args s D (cw a cA cZ G) (cT cA cZ) A Q) (F0 m 43 ls []) := by
 obtain ⟨hx, hb, hr, hml, hown, hts, hlocks, hA⟩ := id C
 obtain ⟨hK, hI, hF⟩ := id K
 have hD : ∀ u, va_D A (cw a cA cZ G u) := fun u => cw_D hI hF
 intro n
 induction n with
 | zero => intro x4 x5 u H locs ls hP hS hl h; exact h.elim
 | succ n ih =>
   intro x4 x5 u H locs ls hP hS hl h
   refine lv_iload hx hb d_Pieces_make_43 (lv_at hl 2 rfl) ?_
   refine lv_aload_n hx hb d_Pieces_make_45 rfl (lv_at hl 0 rfl) ?_
   refine va_get (D := D) (ci := 7) (v := .ref (a 1)) (C := R_Pieces) (T := T_Pieces) (N := 11) hx hb hts in_Pieces hown hK hP 4 cw_at_4 rfl 0 (by decide) (hts _ (List.mem_cons_of_mem _ kw_151)) (fun _ h9 => h9) rfl d_Pieces_make_46 ?_
   refine va_get (D := D) (ci := 4) (v := .int (G.2.1 3)) (C := R_Grid) (T := T_Grid) (N := 6) hx hb hts in_Grid hown hK hP 1 cw_at_1 rfl 2 (by decide) (hts _ (List.mem_cons_of_mem _ kw_107)) (fun _ h9 => h9) rfl d_Pieces_make_49 ?_
   refine lv_icmp_ge (tgt := 74) hx hb d_Pieces_make_52 (by decide) (fun c3 => ?_) (fun c3 => ?_)
   · have h := h.1 c3
     exact W.vret hx hb hr (fun t ht hW => ⟨⟨u, rfl, h, by rw [ht]; exact hP, va_K.moved hW.alike hK⟩, hS.F ht⟩) hS.2.2 d_Pieces_make_74 hlocks
   · have h := h.2 c3
     refine lv_aload_n hx hb d_Pieces_make_55 rfl (lv_at hl 0 rfl) ?_
     refine lv_iload hx hb d_Pieces_make_56 (lv_at hl 1 rfl) ?_
     refine cc_i (va_runV (As := [.int x4]) (rest := []) ⟨hx, hb, hml, hown, hts⟩ (ct_Pieces_joinSmallest l D a cA cZ G _ x4 u _ hI h) (pw_cwV 1 hts kw_531 kw_49 kw_528 kw_530 kw_7 (by decide +kernel) ⟨Nat.le_of_ble_eq_true rfl, Nat.le_of_ble_eq_true rfl⟩) ⟨pw_blind, va_recv hK hP (ci := 7) (q0 := 4) rfl cw_at_4, fun U hU hW => ⟨rfl, by rw [hU], by rw [hU]; exact hP, va_K.moved hW.alike hK⟩⟩ rfl rfl hl.1 rfl (lv_room (Nat.le_of_ble_eq_true rfl)) d_Pieces_make_58 ⟨Nat.le_of_ble_eq_true rfl, Nat.le_of_ble_eq_true rfl⟩) hS hF hA (fun r5 u4 H locs hP hS h => ?_)
     refine lv_if_eq (tgt := 74) hx hb d_Pieces_make_61 (by decide) (fun c6 => ?_) (fun c6 => ?_)
     · have h := h.1 c6
       exact W.vret hx hb hr (fun t ht hW => ⟨⟨u4, rfl, h, by rw [ht]; exact hP, va_K.moved hW.alike hK⟩, hS.F ht⟩) hS.2.2 d_Pieces_make_74 hlocks
     · have h := h.2 c6
       refine lv_aload_n hx hb d_Pieces_make_64 rfl (lv_at hl 0 rfl) ?_
       refine cc_v (va_runV (As := []) (rest := []) ⟨hx, hb, hml, hown, hts⟩ (ct_Pieces_gatherAll l D a cA cZ G _  u4 _ hI h) (pw_cwV 0 hts kw_498 kw_49 kw_495 kw_497 kw_3 (by decide +kernel) ⟨Nat.le_of_ble_eq_true rfl, Nat.le_of_ble_eq_true rfl⟩) ⟨pw_blind, va_recv hK hP (ci := 7) (q0 := 4) rfl cw_at_4, fun U hU hW => ⟨rfl, by rw [hU], by rw [hU]; exact hP, va_K.moved hW.alike hK⟩⟩ rfl rfl hl.1 rfl (lv_room (Nat.le_of_ble_eq_true rfl)) d_Pieces_make_65 ⟨Nat.le_of_ble_eq_true rfl, Nat.le_of_ble_eq_true rfl⟩) hS hF hA (fun u7 H locs hP hS h => ?_)
       obtain ⟨t8, et8⟩ : ∃ y : Int32, y = x5 + 1 := ⟨_, rfl⟩
       have h := h t8 et8
       refine lv_iinc (v := t8) (lv' := [(5, .int t8), (0, .ref (a 4)), (4, .int x4)]) hx hb d_Pieces_make_68 hl (k := 2) rfl (by rw [et8]; rfl) (by decide) rfl (fun ls hl => ?_)
       refine lv_goto (tgt := 43) hx hb d_Pieces_make_71 (by decide) ?_
       exact ih x4 t8 u7 _ _ _ hP hS (lv_sub hl [1, 2, 0] rfl) h
set_option maxHeartbeats 4000000 in
set_option maxRecDepth 100000 in
theorem cp_Pieces_make_3 {p : Program} {l : Launch} {e : Env} {s : State} {m : MethodId} {args : Array Value} {below : List Frame} {meth : Method} {c : Code} {D : va_G} {a : Nat → Nat} {cA cZ : ClassId} {G : pG} {A : Nat → Prop} {Q : pS → Prop} (C : pw_C p s m args meth c b_Pieces_make 6 R_Pieces none w_Pieces_make A) (K : pw_K s D 40 a (cT cA cZ) A) : ∀ (n : Nat), ∀ (x3 x4 x5 : Int32) (u : pS) (H : Heap) (locs : List Loc) (ls : Array Slot), va_P D vwCl (cw a cA cZ G u) H → va_S A s.heap H locs → lv_has ls 6 [(0, .ref (a 4)), (1, .ref (a 2)), (2, .ref (a 3)), (3, .int x3), (4, .int x4), (5, .int x5)] → lp_Pieces_make_3 G Q n x3 x4 x5 u → W p l e ({ frames := 5, cells := 0, slots := 0, locals := 114 } : Room) s m args below meth c H locs 0 0 (pw_Ev below args s D (cw a cA cZ G) (cT cA cZ) A Q) (F0 m 3 ls []) := by
 obtain ⟨hx, hb, hr, hml, hown, hts, hlocks, hA⟩ := id C
 obtain ⟨hK, hI, hF⟩ := id K
 have hD : ∀ u, va_D A (cw a cA cZ G u) := fun u => cw_D hI hF
 intro n
 induction n with
 | zero => intro x3 x4 x5 u H locs ls hP hS hl h; exact h.elim
 | succ n ih =>
   intro x3 x4 x5 u H locs ls hP hS hl h
   refine lv_iload hx hb d_Pieces_make_3 (lv_at hl 5 rfl) ?_
   refine lv_aload_n hx hb d_Pieces_make_5 rfl (lv_at hl 0 rfl) ?_
   refine va_get (D := D) (ci := 7) (v := .ref (a 1)) (C := R_Pieces) (T := T_Pieces) (N := 11) hx hb hts in_Pieces hown hK hP 4 cw_at_4 rfl 0 (by decide) (hts _ (List.mem_cons_of_mem _ kw_151)) (fun _ h9 => h9) rfl d_Pieces_make_6 ?_
   refine va_get (D := D) (ci := 4) (v := .int (G.2.1 3)) (C := R_Grid) (T := T_Grid) (N := 6) hx hb hts in_Grid hown hK hP 1 cw_at_1 rfl 2 (by decide) (hts _ (List.mem_cons_of_mem _ kw_107)) (fun _ h9 => h9) rfl d_Pieces_make_9 ?_
   refine lv_icmp_ge (tgt := 36) hx hb d_Pieces_make_12 (by decide) (fun c1 => ?_) (fun c1 => ?_)
   · have h := h.1 c1
     refine lv_aload_n hx hb d_Pieces_make_36 rfl (lv_at hl 0 rfl) ?_
     refine cc_v (va_runV (As := []) (rest := []) ⟨hx, hb, hml, hown, hts⟩ (ct_Pieces_gatherAll l D a cA cZ G _  u _ hI h) (pw_cwV 0 hts kw_498 kw_49 kw_495 kw_497 kw_3 (by decide +kernel) ⟨Nat.le_of_ble_eq_true rfl, Nat.le_of_ble_eq_true rfl⟩) ⟨pw_blind, va_recv hK hP (ci := 7) (q0 := 4) rfl cw_at_4, fun U hU hW => ⟨rfl, by rw [hU], by rw [hU]; exact hP, va_K.moved hW.alike hK⟩⟩ rfl rfl hl.1 rfl (lv_room (Nat.le_of_ble_eq_true rfl)) d_Pieces_make_37 ⟨Nat.le_of_ble_eq_true rfl, Nat.le_of_ble_eq_true rfl⟩) hS hF hA (fun u2 H locs hP hS h => ?_)
     refine lv_iconst (v := 0) hx hb d_Pieces_make_40 (by decide) ?_
     refine lv_istore (lv' := [(5, .int 0), (0, .ref (a 4)), (1, .ref (a 2)), (2, .ref (a 3)), (3, .int x3), (4, .int x4)]) hx hb d_Pieces_make_41 hl (by decide) rfl (fun ls hl => ?_)
     obtain ⟨n1, h⟩ := h
     exact cp_Pieces_make_43 C K n1 x4 0 u2 _ _ _ hP hS (lv_sub hl [1, 5, 0] rfl) h
   · have h := h.2 c1
     refine lv_aload_n hx hb d_Pieces_make_15 rfl (lv_at hl 0 rfl) ?_
     refine va_get (D := D) (ci := 7) (v := .ref (a 20)) (C := R_Pieces) (T := T_Pieces) (N := 11) hx hb hts in_Pieces hown hK hP 4 cw_at_4 rfl 1 (by decide) (hts _ (List.mem_cons_of_mem _ kw_152)) (fun _ h9 => h9) rfl d_Pieces_make_16 ?_
     refine lv_iload hx hb d_Pieces_make_19 (lv_at hl 5 rfl) ?_
     refine lv_aload_n hx hb d_Pieces_make_21 rfl (lv_at hl 1 rfl) ?_
     refine lv_iload hx hb d_Pieces_make_22 (lv_at hl 5 rfl) ?_
     refine lv_aload_n hx hb d_Pieces_make_24 rfl (lv_at hl 2 rfl) ?_
     refine lv_iload_n hx hb d_Pieces_make_25 rfl (lv_at hl 3 rfl) ?_
     refine cc_i (va_runS (As := [.ref (a 2), .int x5, .ref (a 3), .int x3]) (rest := [.int x5, .ref (a 20)]) ⟨hx, hb, hml, hown, hts⟩ (ct_Pieces_nearestWood l D a cA cZ G _ x5 x3 u _ hI h) (pw_cwS 4 hts kw_487 kw_49 kw_485 kw_486 (by decide +kernel) ⟨Nat.le_of_ble_eq_true rfl, Nat.le_of_ble_eq_true rfl⟩) ⟨pw_blind, fun U hU hW => ⟨rfl, by rw [hU], by rw [hU]; exact hP, va_K.moved hW.alike hK⟩⟩ rfl rfl hl.1 rfl (lv_room (Nat.le_of_ble_eq_true rfl)) d_Pieces_make_26 ⟨Nat.le_of_ble_eq_true rfl, Nat.le_of_ble_eq_true rfl⟩) hS hF hA (fun r10 u9 H locs hP hS h => ?_)
     refine va_iast hx hb hK hP (hD _) hS 20 0 cw_at_20 rfl h.1 d_Pieces_make_29 (fun H locs hP _ hS => ?_)
     obtain ⟨u11, eu11⟩ : ∃ z, z = pw_sa u9 6 (upd (u9.2 6) x5.toNatClampNeg r10) := ⟨_, rfl⟩
     rw [cw_sa_20, ← eu11] at hP
     have h := h.2 u11 eu11
     obtain ⟨t12, et12⟩ : ∃ y : Int32, y = x5 + 1 := ⟨_, rfl⟩
     have h := h t12 et12
     refine lv_iinc (v := t12) (lv' := [(5, .int t12), (0, .ref (a 4)), (1, .ref (a 2)), (2, .ref (a 3)), (3, .int x3), (4, .int x4)]) hx hb d_Pieces_make_30 hl (k := 5) rfl (by rw [et12]; rfl) (by decide) rfl (fun ls hl => ?_)
     refine lv_goto (tgt := 3) hx hb d_Pieces_make_33 (by decide) ?_
     exact ih x3 x4 t12 u11 _ _ _ hP hS (lv_sub hl [1, 2, 3, 4, 5, 0] rfl) h
set_option maxHeartbeats 4000000 in
set_option maxRecDepth 100000 in
theorem st_Pieces_make {p : Program} {l : Launch} {e : Env} {s : State} {m : MethodId} {args : Array Value} {below : List Frame} {meth : Method} {c : Code} {D : va_G} {a : Nat → Nat} {cA cZ : ClassId} {G : pG} {A : Nat → Prop} {Q : pS → Prop} (C : pw_C p s m args meth c b_Pieces_make 6 R_Pieces none w_Pieces_make A) (K : pw_K s D 40 a (cT cA cZ) A) (x3 x4 : Int32) (u : pS) (ls : Array Slot) (hP : va_P D vwCl (cw a cA cZ G u) s.heap) (hl : lv_has ls 6 [(0, .ref (a 4)), (1, .ref (a 2)), (2, .ref (a 3)), (3, .int x3), (4, .int x4)]) (h : wp_Pieces_make G x3 x4 u Q) : W p l e ({ frames := 5, cells := 0, slots := 0, locals := 114 } : Room) s m args below meth c s.heap [] 0 0 (pw_Ev below args s D (cw a cA cZ G) (cT cA cZ) A Q) (F0 m 0 ls []) := by
 obtain ⟨hx, hb, hr, hml, hown, hts, hlocks, hA⟩ := id C
 obtain ⟨hK, hI, hF⟩ := id K
 have hD : ∀ u, va_D A (cw a cA cZ G u) := fun u => cw_D hI hF
 have hS : va_S A s.heap s.heap [] := va_S.rf
 have h : wp_Pieces_make G x3 x4 u Q := h
 refine lv_iconst (v := 0) hx hb d_Pieces_make_0 (by decide) ?_
 refine lv_istore (lv' := [(5, .int 0), (0, .ref (a 4)), (1, .ref (a 2)), (2, .ref (a 3)), (3, .int x3), (4, .int x4)]) hx hb d_Pieces_make_1 hl (by decide) rfl (fun ls hl => ?_)
 obtain ⟨n1, h⟩ := h
 exact cp_Pieces_make_3 C K n1 x3 x4 0 u _ _ _ hP hS (lv_sub hl [1, 2, 3, 4, 5, 0] rfl) h
set_option maxHeartbeats 4000000 in
set_option maxRecDepth 100000 in
theorem ct_Pieces_make (l : Launch) (D : va_G) (a : Nat → Nat) (cA cZ : ClassId) (G : pG) (sz : Nat) (x3 x4 : Int32) (u : pS) (Q : pS → Prop) (hI : pw_I 40 a) (h : wp_Pieces_make G x3 x4 u Q) : Met l y_Pieces_make w_Pieces_make ({ frames := 5, cells := 0, slots := 0, locals := 114 } : Room) (va_Pc [.ref (a 4), .ref (a 2), .ref (a 3), .int x3, .int x4] (pw_pre D (cw a cA cZ G) (cT cA cZ) sz u)) (va_Qv (fun (u : pS) => Q u) (pw_B D (cw a cA cZ G) (cT cA cZ)) (pw_F 40 a sz)) 0 0 (pw_F 40 a sz) := by
 refine Met.ofW (cc := b_Pieces_make) (maxL := 6) (ret := none) (by decide) rfl ?_
 intro p e s m args below meth c s₁ B hml hv
 obtain ⟨rfl, hsz, hP, hK⟩ := hv
 subst hsz
 have hl := lv_entry ([.ref (a 4), .ref (a 2), .ref (a 3), .int x3, .int x4]) (n := 6) (Nat.le_of_ble_eq_true rfl)
 rw [lg_entry_eq]
 generalize (lg_sl ([.ref (a 4), .ref (a 2), .ref (a 3), .int x3, .int x4]) ++ List.replicate (6 - (lg_sl ([.ref (a 4), .ref (a 2), .ref (a 3), .int x3, .int x4])).length) Slot.unset).toArray = ls at hl ⊢
 exact st_Pieces_make (A := (pw_F 40 a s.heap.size)) ⟨B.exec, B.bytes, B.returns, hml, findClass_of_methodNamed B.named, atoms_spec (ws := w_Pieces_make) B.pre, B.notSynchronized, fun q hq => Or.inr hq⟩ ⟨hK, hI, fun k hk => Or.inl ⟨k, hk, rfl⟩⟩ x3 x4 u ls hP hl h
set_option maxHeartbeats 4000000 in
set_option maxRecDepth 100000 in
theorem st_Laying_compare {p : Program} {l : Launch} {e : Env} {s : State} {m : MethodId} {args : Array Value} {below : List Frame} {meth : Method} {c : Code} {D : va_G} {a : Nat → Nat} {cA cZ : ClassId} {G : pG} {A : Nat → Prop} {Q : Int32 → pS → Prop} (C : pw_C p s m args meth c b_Laying_compare 3 R_Laying (some .int) w_Laying_compare A) (K : pw_K s D 40 a (cT cA cZ) A) (x1 x2 : Int32) (u : pS) (ls : Array Slot) (hP : va_P D vwCl (cw a cA cZ G u) s.heap) (hl : lv_has ls 3 [(0, .ref (a 6)), (1, .int x1), (2, .int x2)]) (h : wp_Laying_compare G x1 x2 u Q) : W p l e ({ frames := 3, cells := 0, slots := 0, locals := 63 } : Room) s m args below meth c s.heap [] 0 0 (pw_Ei below args s D (cw a cA cZ G) (cT cA cZ) A Q) (F0 m 0 ls []) := by
 obtain ⟨hx, hb, hr, hml, hown, hts, hlocks, hA⟩ := id C
 obtain ⟨hK, hI, hF⟩ := id K
 have hD : ∀ u, va_D A (cw a cA cZ G u) := fun u => cw_D hI hF
 have hS : va_S A s.heap s.heap [] := va_S.rf
 have h : wp_Laying_compare G x1 x2 u Q := h
 refine lv_aload_n hx hb d_Laying_compare_0 rfl (lv_at hl 0 rfl) ?_
 refine va_get (D := D) (ci := 6) (v := .ref (a 4)) (C := R_Laying) (T := T_Laying) (N := 2) hx hb hts in_Laying hown hK hP 6 cw_at_6 rfl 1 (by decide) (hts _ (List.mem_cons_of_mem _ kw_209)) (fun _ h9 => h9) rfl d_Laying_compare_1 ?_
 refine lv_iload_n hx hb d_Laying_compare_4 rfl (lv_at hl 1 rfl) ?_
 refine cc_i (va_runV (As := [.int x1]) (rest := []) ⟨hx, hb, hml, hown, hts⟩ (ct_Pieces_isAtEdge l D a cA cZ G _ x1 u _ hI h) (pw_cwV 1 hts kw_594 kw_49 kw_591 kw_592 kw_593 (by decide +kernel) ⟨Nat.le_of_ble_eq_true rfl, Nat.le_of_ble_eq_true rfl⟩) ⟨pw_blind, va_recv hK hP (ci := 7) (q0 := 4) rfl cw_at_4, fun U hU hW => ⟨rfl, by rw [hU], by rw [hU]; exact hP, va_K.moved hW.alike hK⟩⟩ rfl rfl hl.1 rfl (lv_room (Nat.le_of_ble_eq_true rfl)) d_Laying_compare_5 ⟨Nat.le_of_ble_eq_true rfl, Nat.le_of_ble_eq_true rfl⟩) hS hF hA (fun r2 u1 H locs hP hS h => ?_)
 refine lv_aload_n hx hb d_Laying_compare_8 rfl (lv_at hl 0 rfl) ?_
 refine va_get (D := D) (ci := 6) (v := .ref (a 4)) (C := R_Laying) (T := T_Laying) (N := 2) hx hb hts in_Laying hown hK hP 6 cw_at_6 rfl 1 (by decide) (hts _ (List.mem_cons_of_mem _ kw_209)) (fun _ h9 => h9) rfl d_Laying_compare_9 ?_
 refine lv_iload_n hx hb d_Laying_compare_12 rfl (lv_at hl 2 rfl) ?_
 refine cc_i (va_runV (As := [.int x2]) (rest := [.int r2]) ⟨hx, hb, hml, hown, hts⟩ (ct_Pieces_isAtEdge l D a cA cZ G _ x2 u1 _ hI h) (pw_cwV 1 hts kw_594 kw_49 kw_591 kw_592 kw_593 (by decide +kernel) ⟨Nat.le_of_ble_eq_true rfl, Nat.le_of_ble_eq_true rfl⟩) ⟨pw_blind, va_recv hK hP (ci := 7) (q0 := 4) rfl cw_at_4, fun U hU hW => ⟨rfl, by rw [hU], by rw [hU]; exact hP, va_K.moved hW.alike hK⟩⟩ rfl rfl hl.1 rfl (lv_room (Nat.le_of_ble_eq_true rfl)) d_Laying_compare_13 ⟨Nat.le_of_ble_eq_true rfl, Nat.le_of_ble_eq_true rfl⟩) hS hF hA (fun r4 u3 H locs hP hS h => ?_)
 refine lv_icmp_eq (tgt := 36) hx hb d_Laying_compare_16 (by decide) (fun c5 => ?_) (fun c5 => ?_)
 · have h := h.1 c5
   refine lv_aload_n hx hb d_Laying_compare_36 rfl (lv_at hl 0 rfl) ?_
   refine va_get (D := D) (ci := 6) (v := .ref (a 4)) (C := R_Laying) (T := T_Laying) (N := 2) hx hb hts in_Laying hown hK hP 6 cw_at_6 rfl 1 (by decide) (hts _ (List.mem_cons_of_mem _ kw_209)) (fun _ h9 => h9) rfl d_Laying_compare_37 ?_
   refine lv_iload_n hx hb d_Laying_compare_40 rfl (lv_at hl 2 rfl) ?_
   refine cc_i (va_runV (As := [.int x2]) (rest := []) ⟨hx, hb, hml, hown, hts⟩ (ct_Pieces_sizeOf l D a cA cZ G _ x2 u3 _ hI h) (pw_cwV 1 hts kw_598 kw_49 kw_595 kw_596 kw_597 (by decide +kernel) ⟨Nat.le_of_ble_eq_true rfl, Nat.le_of_ble_eq_true rfl⟩) ⟨pw_blind, va_recv hK hP (ci := 7) (q0 := 4) rfl cw_at_4, fun U hU hW => ⟨rfl, by rw [hU], by rw [hU]; exact hP, va_K.moved hW.alike hK⟩⟩ rfl rfl hl.1 rfl (lv_room (Nat.le_of_ble_eq_true rfl)) d_Laying_compare_41 ⟨Nat.le_of_ble_eq_true rfl, Nat.le_of_ble_eq_true rfl⟩) hS hF hA (fun r7 u6 H locs hP hS h => ?_)
   refine lv_aload_n hx hb d_Laying_compare_44 rfl (lv_at hl 0 rfl) ?_
   refine va_get (D := D) (ci := 6) (v := .ref (a 4)) (C := R_Laying) (T := T_Laying) (N := 2) hx hb hts in_Laying hown hK hP 6 cw_at_6 rfl 1 (by decide) (hts _ (List.mem_cons_of_mem _ kw_209)) (fun _ h9 => h9) rfl d_Laying_compare_45 ?_
   refine lv_iload_n hx hb d_Laying_compare_48 rfl (lv_at hl 1 rfl) ?_
   refine cc_i (va_runV (As := [.int x1]) (rest := [.int r7]) ⟨hx, hb, hml, hown, hts⟩ (ct_Pieces_sizeOf l D a cA cZ G _ x1 u6 _ hI h) (pw_cwV 1 hts kw_598 kw_49 kw_595 kw_596 kw_597 (by decide +kernel) ⟨Nat.le_of_ble_eq_true rfl, Nat.le_of_ble_eq_true rfl⟩) ⟨pw_blind, va_recv hK hP (ci := 7) (q0 := 4) rfl cw_at_4, fun U hU hW => ⟨rfl, by rw [hU], by rw [hU]; exact hP, va_K.moved hW.alike hK⟩⟩ rfl rfl hl.1 rfl (lv_room (Nat.le_of_ble_eq_true rfl)) d_Laying_compare_49 ⟨Nat.le_of_ble_eq_true rfl, Nat.le_of_ble_eq_true rfl⟩) hS hF hA (fun r9 u8 H locs hP hS h => ?_)
   refine cc_i (va_runS (As := [.int r7, .int r9]) (rest := []) ⟨hx, hb, hml, hown, hts⟩ (ct_Integer_compare l D a cA cZ G _ r7 r9 u8 _ hI h) (pw_cwS 2 hts kw_571 kw_64 kw_599 kw_570 (by decide +kernel) ⟨Nat.le_of_ble_eq_true rfl, Nat.le_of_ble_eq_true rfl⟩) ⟨pw_blind, fun U hU hW => ⟨rfl, by rw [hU], by rw [hU]; exact hP, va_K.moved hW.alike hK⟩⟩ rfl rfl hl.1 rfl (lv_room (Nat.le_of_ble_eq_true rfl)) d_Laying_compare_52 ⟨Nat.le_of_ble_eq_true rfl, Nat.le_of_ble_eq_true rfl⟩) hS hF hA (fun r11 u10 H locs hP hS h => ?_)
   exact W.iret (v := r11) hx hb hr (fun t ht hW => ⟨⟨r11, u10, rfl, h, by rw [ht]; exact hP, va_K.moved hW.alike hK⟩, hS.F ht⟩) hS.2.2 d_Laying_compare_55 hlocks
 · have h := h.2 c5
   refine lv_aload_n hx hb d_Laying_compare_19 rfl (lv_at hl 0 rfl) ?_
   refine va_get (D := D) (ci := 6) (v := .ref (a 4)) (C := R_Laying) (T := T_Laying) (N := 2) hx hb hts in_Laying hown hK hP 6 cw_at_6 rfl 1 (by decide) (hts _ (List.mem_cons_of_mem _ kw_209)) (fun _ h9 => h9) rfl d_Laying_compare_20 ?_
   refine lv_iload_n hx hb d_Laying_compare_23 rfl (lv_at hl 2 rfl) ?_
   refine cc_i (va_runV (As := [.int x2]) (rest := []) ⟨hx, hb, hml, hown, hts⟩ (ct_Pieces_isAtEdge l D a cA cZ G _ x2 u3 _ hI h) (pw_cwV 1 hts kw_594 kw_49 kw_591 kw_592 kw_593 (by decide +kernel) ⟨Nat.le_of_ble_eq_true rfl, Nat.le_of_ble_eq_true rfl⟩) ⟨pw_blind, va_recv hK hP (ci := 7) (q0 := 4) rfl cw_at_4, fun U hU hW => ⟨rfl, by rw [hU], by rw [hU]; exact hP, va_K.moved hW.alike hK⟩⟩ rfl rfl hl.1 rfl (lv_room (Nat.le_of_ble_eq_true rfl)) d_Laying_compare_24 ⟨Nat.le_of_ble_eq_true rfl, Nat.le_of_ble_eq_true rfl⟩) hS hF hA (fun r13 u12 H locs hP hS h => ?_)
   refine lv_if_eq (tgt := 34) hx hb d_Laying_compare_27 (by decide) (fun c14 => ?_) (fun c14 => ?_)
   · have h := h.1 c14
     refine lv_iconst (v := 1) hx hb d_Laying_compare_34 (by decide) ?_
     exact W.iret (v := 1) hx hb hr (fun t ht hW => ⟨⟨1, u12, rfl, h, by rw [ht]; exact hP, va_K.moved hW.alike hK⟩, hS.F ht⟩) hS.2.2 d_Laying_compare_35 hlocks
   · have h := h.2 c14
     refine lv_iconst (v := -1) hx hb d_Laying_compare_30 (by decide) ?_
     refine lv_goto (tgt := 35) hx hb d_Laying_compare_31 (by decide) ?_
     exact W.iret (v := (-1)) hx hb hr (fun t ht hW => ⟨⟨(-1), u12, rfl, h, by rw [ht]; exact hP, va_K.moved hW.alike hK⟩, hS.F ht⟩) hS.2.2 d_Laying_compare_35 hlocks
set_option maxHeartbeats 4000000 in
set_option maxRecDepth 100000 in
theorem ct_Laying_compare (l : Launch) (D : va_G) (a : Nat → Nat) (cA cZ : ClassId) (G : pG) (sz : Nat) (x1 x2 : Int32) (u : pS) (Q : Int32 → pS → Prop) (hI : pw_I 40 a) (h : wp_Laying_compare G x1 x2 u Q) : Met l y_Laying_compare w_Laying_compare ({ frames := 3, cells := 0, slots := 0, locals := 63 } : Room) (va_Pc [.ref (a 6), .int x1, .int x2] (pw_pre D (cw a cA cZ G) (cT cA cZ) sz u)) (va_Qi (fun (r : Int32) (u : pS) => Q r u) (pw_B D (cw a cA cZ G) (cT cA cZ)) (pw_F 40 a sz)) 0 0 (pw_F 40 a sz) := by
 refine Met.ofW (cc := b_Laying_compare) (maxL := 3) (ret := (some .int)) (by decide) rfl ?_
 intro p e s m args below meth c s₁ B hml hv
 obtain ⟨rfl, hsz, hP, hK⟩ := hv
 subst hsz
 have hl := lv_entry ([.ref (a 6), .int x1, .int x2]) (n := 3) (Nat.le_of_ble_eq_true rfl)
 rw [lg_entry_eq]
 generalize (lg_sl ([.ref (a 6), .int x1, .int x2]) ++ List.replicate (3 - (lg_sl ([.ref (a 6), .int x1, .int x2])).length) Slot.unset).toArray = ls at hl ⊢
 exact st_Laying_compare (A := (pw_F 40 a s.heap.size)) ⟨B.exec, B.bytes, B.returns, hml, findClass_of_methodNamed B.named, atoms_spec (ws := w_Laying_compare) B.pre, B.notSynchronized, fun q hq => Or.inr hq⟩ ⟨hK, hI, fun k hk => Or.inl ⟨k, hk, rfl⟩⟩ x1 x2 u ls hP hl h
