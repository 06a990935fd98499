set_option maxHeartbeats 4000000 in
set_option maxRecDepth 100000 in
theorem cp_Model_part_72 {p : Program} {l : Launch} {e : Env} {s : State} {m : MethodId} {args : Array Value} {below : List Frame} {meth : Method} {c : Code} {D : va_G} {a : Nat → Nat} {cA cZ : ClassId} {G : pG} {A : Nat → Prop} {Q : Int32 → pS → Prop} (C : pw_C p s m args meth c b_Model_part 3 R_Model (some .int) w_Model_part A) (K : pw_K s D 15 a (rT cA cZ) A) : ∀ (n : Nat), ∀ (x1 x2 : Int32) (u : pS) (H : Heap) (locs : List Loc) (ls : Array Slot), va_P D vwCl (rw a cA cZ G u) H → va_S A s.heap H locs → lv_has ls 3 [(0, .ref (a 0)), (1, .int x1), (2, .int x2)] → lp_Model_part_72 G Q n x1 x2 u → W p l e ({ frames := 4, cells := 0, slots := 0, locals := 93 } : Room) s m args below meth c H locs 0 0 (pw_Ei below args s D (rw a cA cZ G) (rT cA cZ) A Q) (F0 m 72 ls []) := by
 obtain ⟨hx, hb, hr, hml, hown, hts, hlocks, hA⟩ := id C
 obtain ⟨hK, hI, hF⟩ := id K
 have hD : ∀ u, va_D A (rw a cA cZ G u) := fun u => rw_D hI hF
 intro n
 induction n with
 | zero => intro x1 x2 u H locs ls hP hS hl h; exact h.elim
 | succ n ih =>
   intro x1 x2 u H locs ls hP hS hl h
   refine lv_iload_n hx hb d_Model_part_72 rfl (lv_at hl 2 rfl) ?_
   refine lv_if_lt (tgt := 94) hx hb d_Model_part_73 (by decide) (fun c8 => ?_) (fun c8 => ?_)
   · have h := h.1 c8
     refine lv_aload_n hx hb d_Model_part_94 rfl (lv_at hl 0 rfl) ?_
     refine lv_iconst (v := 1) hx hb d_Model_part_95 (by decide) ?_
     refine va_put (D := D) (ci := 1) (v := .int 1) (ty := .boolean) (C := R_Model) (T := T_Model) (N := 23) hx hb hts in_Model ty_Model tyok_Model nm_Model hown hK hP (hD _) hS 0 rw_at_0 rfl 12 (by decide) (hts _ (List.mem_cons_of_mem _ kw_847)) (fun _ h9 => h9) rfl (by decide +kernel) rfl rfl (Nat.le_of_ble_eq_true rfl) d_Model_part_96 (fun H locs hP _ hS => ?_)
     obtain ⟨u9, eu9⟩ : ∃ z, z = pw_si u 2 1 := ⟨_, rfl⟩
     rw [rw_si_0_12, ← eu9] at hP
     have h := h u9 eu9
     refine lv_aload_n hx hb d_Model_part_99 rfl (lv_at hl 0 rfl) ?_
     refine lv_iconst (v := 0) hx hb d_Model_part_100 (by decide) ?_
     refine va_put (D := D) (ci := 1) (v := .int 0) (ty := .boolean) (C := R_Model) (T := T_Model) (N := 23) hx hb hts in_Model ty_Model tyok_Model nm_Model hown hK hP (hD _) hS 0 rw_at_0 rfl 16 (by decide) (hts _ (List.mem_cons_of_mem _ kw_851)) (fun _ h9 => h9) rfl (by decide +kernel) rfl rfl (Nat.le_of_ble_eq_true rfl) d_Model_part_101 (fun H locs hP _ hS => ?_)
     obtain ⟨u10, eu10⟩ : ∃ z, z = pw_si u9 4 0 := ⟨_, rfl⟩
     rw [rw_si_0_16, ← eu10] at hP
     have h := h u10 eu10
     refine lv_aload_n hx hb d_Model_part_104 rfl (lv_at hl 0 rfl) ?_
     refine va_get (D := D) (ci := 1) (v := .int (u10.1 1)) (C := R_Model) (T := T_Model) (N := 23) hx hb hts in_Model hown hK hP 0 rw_at_0 rfl 8 (by decide) (hts _ (List.mem_cons_of_mem _ kw_843)) (fun _ h9 => h9) rfl d_Model_part_105 ?_
     exact W.iret (v := (u10.1 1)) hx hb hr (fun t ht hW => ⟨⟨(u10.1 1), u10, rfl, h, by rw [ht]; exact hP, va_K.moved hW.alike hK⟩, hS.F ht⟩) hS.2.2 d_Model_part_108 hlocks
   · have h := h.2 c8
     refine lv_aload_n hx hb d_Model_part_76 rfl (lv_at hl 0 rfl) ?_
     refine lv_iload_n hx hb d_Model_part_77 rfl (lv_at hl 2 rfl) ?_
     refine cc_v (va_runV (As := [.int x2]) (rest := []) ⟨hx, hb, hml, hown, hts⟩ (ct_Model_join l D a cA cZ G _ x2 u _ hI h) (pw_cwV 1 hts kw_955 kw_57 kw_952 kw_954 kw_30 (by decide +kernel) ⟨Nat.le_of_ble_eq_true rfl, Nat.le_of_ble_eq_true rfl⟩) ⟨pw_blind, va_recv hK hP (ci := 1) (q0 := 0) rfl rw_at_0, fun U hU hW => ⟨rfl, by rw [hU], by rw [hU]; exact hP, va_K.moved hW.alike hK⟩⟩ rfl rfl hl.1 rfl (lv_room (Nat.le_of_ble_eq_true rfl)) d_Model_part_78 ⟨Nat.le_of_ble_eq_true rfl, Nat.le_of_ble_eq_true rfl⟩) hS hF hA (fun u11 H locs hP hS h => ?_)
     refine lv_aload_n hx hb d_Model_part_81 rfl (lv_at hl 0 rfl) ?_
     refine cc_v (va_runV (As := []) (rest := []) ⟨hx, hb, hml, hown, hts⟩ (ct_Model_makePieces l D a cA cZ G _  u11 _ hI h) (pw_cwV 0 hts kw_939 kw_57 kw_936 kw_938 kw_26 (by decide +kernel) ⟨Nat.le_of_ble_eq_true rfl, Nat.le_of_ble_eq_true rfl⟩) ⟨pw_blind, va_recv hK hP (ci := 1) (q0 := 0) rfl rw_at_0, fun U hU hW => ⟨rfl, by rw [hU], by rw [hU]; exact hP, va_K.moved hW.alike hK⟩⟩ rfl rfl hl.1 rfl (lv_room (Nat.le_of_ble_eq_true rfl)) d_Model_part_82 ⟨Nat.le_of_ble_eq_true rfl, Nat.le_of_ble_eq_true rfl⟩) hS hF hA (fun u12 H locs hP hS h => ?_)
     refine lv_aload_n hx hb d_Model_part_85 rfl (lv_at hl 0 rfl) ?_
     refine lv_iload_n hx hb d_Model_part_86 rfl (lv_at hl 1 rfl) ?_
     refine cc_i (va_runV (As := [.int x1]) (rest := []) ⟨hx, hb, hml, hown, hts⟩ (ct_Model_smallest l D a cA cZ G _ x1 u12 _ hI h) (pw_cwV 1 hts kw_951 kw_57 kw_948 kw_950 kw_29 (by decide +kernel) ⟨Nat.le_of_ble_eq_true rfl, Nat.le_of_ble_eq_true rfl⟩) ⟨pw_blind, va_recv hK hP (ci := 1) (q0 := 0) rfl rw_at_0, fun U hU hW => ⟨rfl, by rw [hU], by rw [hU]; exact hP, va_K.moved hW.alike hK⟩⟩ rfl rfl hl.1 rfl (lv_room (Nat.le_of_ble_eq_true rfl)) d_Model_part_87 ⟨Nat.le_of_ble_eq_true rfl, Nat.le_of_ble_eq_true rfl⟩) hS hF hA (fun r14 u13 H locs hP hS h => ?_)
     refine lv_istore_n (lv' := [(2, .int r14), (0, .ref (a 0)), (1, .int x1)]) hx hb d_Model_part_90 rfl hl (by decide) rfl (fun ls hl => ?_)
     refine lv_goto (tgt := 72) hx hb d_Model_part_91 (by decide) ?_
     exact ih x1 r14 u13 _ _ _ hP hS (lv_sub hl [1, 2, 0] rfl) h
set_option maxHeartbeats 4000000 in
set_option maxRecDepth 100000 in
theorem cp_Model_part_32 {p : Program} {l : Launch} {e : Env} {s : State} {m : MethodId} {args : Array Value} {below : List Frame} {meth : Method} {c : Code} {D : va_G} {a : Nat → Nat} {cA cZ : ClassId} {G : pG} {A : Nat → Prop} {Q : Int32 → pS → Prop} (C : pw_C p s m args meth c b_Model_part 3 R_Model (some .int) w_Model_part A) (K : pw_K s D 15 a (rT cA cZ) A) : ∀ (n : Nat), ∀ (x1 x2 : Int32) (u : pS) (H : Heap) (locs : List Loc) (ls : Array Slot), va_P D vwCl (rw a cA cZ G u) H → va_S A s.heap H locs → lv_has ls 3 [(0, .ref (a 0)), (1, .int x1), (2, .int x2)] → lp_Model_part_32 G Q n x1 x2 u → W p l e ({ frames := 4, cells := 0, slots := 0, locals := 93 } : Room) s m args below meth c H locs 0 0 (pw_Ei below args s D (rw a cA cZ G) (rT cA cZ) A Q) (F0 m 32 ls []) := by
 obtain ⟨hx, hb, hr, hml, hown, hts, hlocks, hA⟩ := id C
 obtain ⟨hK, hI, hF⟩ := id K
 have hD : ∀ u, va_D A (rw a cA cZ G u) := fun u => rw_D hI hF
 intro n
 induction n with
 | zero => intro x1 x2 u H locs ls hP hS hl h; exact h.elim
 | succ n ih =>
   intro x1 x2 u H locs ls hP hS hl h
   refine lv_iload_n hx hb d_Model_part_32 rfl (lv_at hl 2 rfl) ?_
   refine lv_aload_n hx hb d_Model_part_33 rfl (lv_at hl 0 rfl) ?_
   refine va_get (D := D) (ci := 1) (v := .int (G.2.1 0)) (C := R_Model) (T := T_Model) (N := 23) hx hb hts in_Model hown hK hP 0 rw_at_0 rfl 1 (by decide) (hts _ (List.mem_cons_of_mem _ kw_836)) (fun _ h9 => h9) rfl d_Model_part_34 ?_
   refine lv_aload_n hx hb d_Model_part_37 rfl (lv_at hl 0 rfl) ?_
   refine va_get (D := D) (ci := 1) (v := .int (G.2.1 1)) (C := R_Model) (T := T_Model) (N := 23) hx hb hts in_Model hown hK hP 0 rw_at_0 rfl 2 (by decide) (hts _ (List.mem_cons_of_mem _ kw_837)) (fun _ h9 => h9) rfl d_Model_part_38 ?_
   refine lv_imul hx hb d_Model_part_41 ?_
   refine lv_icmp_ge (tgt := 62) hx hb d_Model_part_42 (by decide) (fun c4 => ?_) (fun c4 => ?_)
   · have h := h.1 c4
     refine lv_aload_n hx hb d_Model_part_62 rfl (lv_at hl 0 rfl) ?_
     refine cc_v (va_runV (As := []) (rest := []) ⟨hx, hb, hml, hown, hts⟩ (ct_Model_makePieces l D a cA cZ G _  u _ hI h) (pw_cwV 0 hts kw_939 kw_57 kw_936 kw_938 kw_26 (by decide +kernel) ⟨Nat.le_of_ble_eq_true rfl, Nat.le_of_ble_eq_true rfl⟩) ⟨pw_blind, va_recv hK hP (ci := 1) (q0 := 0) rfl rw_at_0, fun U hU hW => ⟨rfl, by rw [hU], by rw [hU]; exact hP, va_K.moved hW.alike hK⟩⟩ rfl rfl hl.1 rfl (lv_room (Nat.le_of_ble_eq_true rfl)) d_Model_part_63 ⟨Nat.le_of_ble_eq_true rfl, Nat.le_of_ble_eq_true rfl⟩) hS hF hA (fun u5 H locs hP hS h => ?_)
     refine lv_aload_n hx hb d_Model_part_66 rfl (lv_at hl 0 rfl) ?_
     refine lv_iload_n hx hb d_Model_part_67 rfl (lv_at hl 1 rfl) ?_
     refine cc_i (va_runV (As := [.int x1]) (rest := []) ⟨hx, hb, hml, hown, hts⟩ (ct_Model_smallest l D a cA cZ G _ x1 u5 _ hI h) (pw_cwV 1 hts kw_951 kw_57 kw_948 kw_950 kw_29 (by decide +kernel) ⟨Nat.le_of_ble_eq_true rfl, Nat.le_of_ble_eq_true rfl⟩) ⟨pw_blind, va_recv hK hP (ci := 1) (q0 := 0) rfl rw_at_0, fun U hU hW => ⟨rfl, by rw [hU], by rw [hU]; exact hP, va_K.moved hW.alike hK⟩⟩ rfl rfl hl.1 rfl (lv_room (Nat.le_of_ble_eq_true rfl)) d_Model_part_68 ⟨Nat.le_of_ble_eq_true rfl, Nat.le_of_ble_eq_true rfl⟩) hS hF hA (fun r7 u6 H locs hP hS h => ?_)
     refine lv_istore_n (lv' := [(2, .int r7), (0, .ref (a 0)), (1, .int x1)]) hx hb d_Model_part_71 rfl hl (by decide) rfl (fun ls hl => ?_)
     obtain ⟨n1, h⟩ := h
     exact cp_Model_part_72 C K n1 x1 r7 u6 _ _ _ hP hS (lv_sub hl [1, 2, 0] rfl) h
   · have h := h.2 c4
     refine lv_aload_n hx hb d_Model_part_45 rfl (lv_at hl 0 rfl) ?_
     refine va_get (D := D) (ci := 1) (v := .ref (a 3)) (C := R_Model) (T := T_Model) (N := 23) hx hb hts in_Model hown hK hP 0 rw_at_0 rfl 6 (by decide) (hts _ (List.mem_cons_of_mem _ kw_841)) (fun _ h9 => h9) rfl d_Model_part_46 ?_
     refine lv_iload_n hx hb d_Model_part_49 rfl (lv_at hl 2 rfl) ?_
     refine lv_aload_n hx hb d_Model_part_50 rfl (lv_at hl 0 rfl) ?_
     refine lv_iload_n hx hb d_Model_part_51 rfl (lv_at hl 2 rfl) ?_
     refine cc_i (va_runV (As := [.int x2]) (rest := [.int x2, .ref (a 3)]) ⟨hx, hb, hml, hown, hts⟩ (ct_Model_nearestKind l D a cA cZ G _ x2 u _ hI h) (pw_cwV 1 hts kw_931 kw_57 kw_928 kw_930 kw_24 (by decide +kernel) ⟨Nat.le_of_ble_eq_true rfl, Nat.le_of_ble_eq_true rfl⟩) ⟨pw_blind, va_recv hK hP (ci := 1) (q0 := 0) rfl rw_at_0, fun U hU hW => ⟨rfl, by rw [hU], by rw [hU]; exact hP, va_K.moved hW.alike hK⟩⟩ rfl rfl hl.1 rfl (lv_room (Nat.le_of_ble_eq_true rfl)) d_Model_part_52 ⟨Nat.le_of_ble_eq_true rfl, Nat.le_of_ble_eq_true rfl⟩) hS hF hA (fun r16 u15 H locs hP hS h => ?_)
     refine va_iast hx hb hK hP (hD _) hS 3 0 rw_at_3 rfl h.1 d_Model_part_55 (fun H locs hP _ hS => ?_)
     obtain ⟨u17, eu17⟩ : ∃ z, z = pw_sa u15 2 (upd (u15.2 2) x2.toNatClampNeg r16) := ⟨_, rfl⟩
     rw [rw_sa_3, ← eu17] at hP
     have h := h.2 u17 eu17
     obtain ⟨t18, et18⟩ : ∃ y : Int32, y = x2 + 1 := ⟨_, rfl⟩
     have h := h t18 et18
     refine lv_iinc (v := t18) (lv' := [(2, .int t18), (0, .ref (a 0)), (1, .int x1)]) hx hb d_Model_part_56 hl (k := 2) rfl (by rw [et18]; rfl) (by decide) rfl (fun ls hl => ?_)
     refine lv_goto (tgt := 32) hx hb d_Model_part_59 (by decide) ?_
     exact ih x1 t18 u17 _ _ _ hP hS (lv_sub hl [1, 2, 0] rfl) h
set_option maxHeartbeats 4000000 in
set_option maxRecDepth 100000 in
theorem st_Model_part {p : Program} {l : Launch} {e : Env} {s : State} {m : MethodId} {args : Array Value} {below : List Frame} {meth : Method} {c : Code} {D : va_G} {a : Nat → Nat} {cA cZ : ClassId} {G : pG} {A : Nat → Prop} {Q : Int32 → pS → Prop} (C : pw_C p s m args meth c b_Model_part 3 R_Model (some .int) w_Model_part A) (K : pw_K s D 15 a (rT cA cZ) A) (x1 : Int32) (u : pS) (ls : Array Slot) (hP : va_P D vwCl (rw a cA cZ G u) s.heap) (hl : lv_has ls 3 [(0, .ref (a 0)), (1, .int x1)]) (h : wp_Model_part G x1 u Q) : W p l e ({ frames := 4, cells := 0, slots := 0, locals := 93 } : Room) s m args below meth c s.heap [] 0 0 (pw_Ei below args s D (rw a cA cZ G) (rT cA cZ) A Q) (F0 m 0 ls []) := by
 obtain ⟨hx, hb, hr, hml, hown, hts, hlocks, hA⟩ := id C
 obtain ⟨hK, hI, hF⟩ := id K
 have hD : ∀ u, va_D A (rw a cA cZ G u) := fun u => rw_D hI hF
 have hS : va_S A s.heap s.heap [] := va_S.rf
 have h : wp_Model_part G x1 u Q := h
 refine lv_aload_n hx hb d_Model_part_0 rfl (lv_at hl 0 rfl) ?_
 refine lv_iload_n hx hb d_Model_part_1 rfl (lv_at hl 1 rfl) ?_
 refine lv_iconst (v := 1) hx hb d_Model_part_2 (by decide) ?_
 refine lv_icmp_lt (tgt := 17) hx hb d_Model_part_3 (by decide) (fun c1 => ?_) (fun c1 => ?_)
 · have h := h.1 c1
   refine lv_iconst (v := 1) hx hb d_Model_part_17 (by decide) ?_
   refine va_put (D := D) (ci := 1) (v := .int 1) (ty := .int) (C := R_Model) (T := T_Model) (N := 23) hx hb hts in_Model ty_Model tyok_Model nm_Model hown hK hP (hD _) hS 0 rw_at_0 rfl 0 (by decide) (hts _ (List.mem_cons_of_mem _ kw_835)) (fun _ h9 => h9) rfl (by decide +kernel) rfl rfl (Nat.le_of_ble_eq_true rfl) d_Model_part_18 (fun H locs hP _ hS => ?_)
   obtain ⟨u2, eu2⟩ : ∃ z, z = pw_si u 0 1 := ⟨_, rfl⟩
   rw [rw_si_0_0, ← eu2] at hP
   have h := h u2 eu2
   refine lv_aload_n hx hb d_Model_part_21 rfl (lv_at hl 0 rfl) ?_
   refine va_get (D := D) (ci := 1) (v := .int (u2.1 0)) (C := R_Model) (T := T_Model) (N := 23) hx hb hts in_Model hown hK hP 0 rw_at_0 rfl 0 (by decide) (hts _ (List.mem_cons_of_mem _ kw_835)) (fun _ h9 => h9) rfl d_Model_part_22 ?_
   refine lv_if_le (tgt := 30) hx hb d_Model_part_25 (by decide) (fun c3 => ?_) (fun c3 => ?_)
   · have h := h.1 c3
     refine lv_iconst (v := 0) hx hb d_Model_part_30 (by decide) ?_
     refine lv_istore_n (lv' := [(2, .int 0), (0, .ref (a 0)), (1, .int x1)]) hx hb d_Model_part_31 rfl hl (by decide) rfl (fun ls hl => ?_)
     obtain ⟨n1, h⟩ := h
     exact cp_Model_part_32 C K n1 x1 0 u2 _ _ _ hP hS (lv_sub hl [1, 2, 0] rfl) h
   · have h := h.2 c3
     refine lv_iconst (v := 0) hx hb d_Model_part_28 (by decide) ?_
     exact W.iret (v := 0) hx hb hr (fun t ht hW => ⟨⟨0, u2, rfl, h, by rw [ht]; exact hP, va_K.moved hW.alike hK⟩, hS.F ht⟩) hS.2.2 d_Model_part_29 hlocks
 · have h := h.2 c1
   refine lv_iload_n hx hb d_Model_part_6 rfl (lv_at hl 1 rfl) ?_
   refine lv_sipush (v := 400) hx hb d_Model_part_7 (by decide) ?_
   refine lv_icmp_gt (tgt := 17) hx hb d_Model_part_10 (by decide) (fun c19 => ?_) (fun c19 => ?_)
   · have h := h.1 c19
     refine lv_iconst (v := 1) hx hb d_Model_part_17 (by decide) ?_
     refine va_put (D := D) (ci := 1) (v := .int 1) (ty := .int) (C := R_Model) (T := T_Model) (N := 23) hx hb hts in_Model ty_Model tyok_Model nm_Model hown hK hP (hD _) hS 0 rw_at_0 rfl 0 (by decide) (hts _ (List.mem_cons_of_mem _ kw_835)) (fun _ h9 => h9) rfl (by decide +kernel) rfl rfl (Nat.le_of_ble_eq_true rfl) d_Model_part_18 (fun H locs hP _ hS => ?_)
     obtain ⟨u20, eu20⟩ : ∃ z, z = pw_si u 0 1 := ⟨_, rfl⟩
     rw [rw_si_0_0, ← eu20] at hP
     have h := h u20 eu20
     refine lv_aload_n hx hb d_Model_part_21 rfl (lv_at hl 0 rfl) ?_
     refine va_get (D := D) (ci := 1) (v := .int (u20.1 0)) (C := R_Model) (T := T_Model) (N := 23) hx hb hts in_Model hown hK hP 0 rw_at_0 rfl 0 (by decide) (hts _ (List.mem_cons_of_mem _ kw_835)) (fun _ h9 => h9) rfl d_Model_part_22 ?_
     refine lv_if_le (tgt := 30) hx hb d_Model_part_25 (by decide) (fun c21 => ?_) (fun c21 => ?_)
     · have h := h.1 c21
       refine lv_iconst (v := 0) hx hb d_Model_part_30 (by decide) ?_
       refine lv_istore_n (lv' := [(2, .int 0), (0, .ref (a 0)), (1, .int x1)]) hx hb d_Model_part_31 rfl hl (by decide) rfl (fun ls hl => ?_)
       obtain ⟨n1, h⟩ := h
       exact cp_Model_part_32 C K n1 x1 0 u20 _ _ _ hP hS (lv_sub hl [1, 2, 0] rfl) h
     · have h := h.2 c21
       refine lv_iconst (v := 0) hx hb d_Model_part_28 (by decide) ?_
       exact W.iret (v := 0) hx hb hr (fun t ht hW => ⟨⟨0, u20, rfl, h, by rw [ht]; exact hP, va_K.moved hW.alike hK⟩, hS.F ht⟩) hS.2.2 d_Model_part_29 hlocks
   · have h := h.2 c19
     refine lv_iconst (v := 0) hx hb d_Model_part_13 (by decide) ?_
     refine lv_goto (tgt := 18) hx hb d_Model_part_14 (by decide) ?_
     refine va_put (D := D) (ci := 1) (v := .int 0) (ty := .int) (C := R_Model) (T := T_Model) (N := 23) hx hb hts in_Model ty_Model tyok_Model nm_Model hown hK hP (hD _) hS 0 rw_at_0 rfl 0 (by decide) (hts _ (List.mem_cons_of_mem _ kw_835)) (fun _ h9 => h9) rfl (by decide +kernel) rfl rfl (Nat.le_of_ble_eq_true rfl) d_Model_part_18 (fun H locs hP _ hS => ?_)
     obtain ⟨u22, eu22⟩ : ∃ z, z = pw_si u 0 0 := ⟨_, rfl⟩
     rw [rw_si_0_0, ← eu22] at hP
     have h := h u22 eu22
     refine lv_aload_n hx hb d_Model_part_21 rfl (lv_at hl 0 rfl) ?_
     refine va_get (D := D) (ci := 1) (v := .int (u22.1 0)) (C := R_Model) (T := T_Model) (N := 23) hx hb hts in_Model hown hK hP 0 rw_at_0 rfl 0 (by decide) (hts _ (List.mem_cons_of_mem _ kw_835)) (fun _ h9 => h9) rfl d_Model_part_22 ?_
     refine lv_if_le (tgt := 30) hx hb d_Model_part_25 (by decide) (fun c23 => ?_) (fun c23 => ?_)
     · have h := h.1 c23
       refine lv_iconst (v := 0) hx hb d_Model_part_30 (by decide) ?_
       refine lv_istore_n (lv' := [(2, .int 0), (0, .ref (a 0)), (1, .int x1)]) hx hb d_Model_part_31 rfl hl (by decide) rfl (fun ls hl => ?_)
       obtain ⟨n1, h⟩ := h
       exact cp_Model_part_32 C K n1 x1 0 u22 _ _ _ hP hS (lv_sub hl [1, 2, 0] rfl) h
     · have h := h.2 c23
       refine lv_iconst (v := 0) hx hb d_Model_part_28 (by decide) ?_
       exact W.iret (v := 0) hx hb hr (fun t ht hW => ⟨⟨0, u22, rfl, h, by rw [ht]; exact hP, va_K.moved hW.alike hK⟩, hS.F ht⟩) hS.2.2 d_Model_part_29 hlocks
set_option maxHeartbeats 4000000 in
set_option maxRecDepth 100000 in
theorem ct_Model_part (l : Launch) (D : va_G) (a : Nat → Nat) (cA cZ : ClassId) (G : pG) (sz : Nat) (x1 : Int32) (u : pS) (Q : Int32 → pS → Prop) (hI : pw_I 15 a) (h : wp_Model_part G x1 u Q) : Met l y_Model_part w_Model_part ({ frames := 4, cells := 0, slots := 0, locals := 93 } : Room) (va_Pc [.ref (a 0), .int x1] (pw_pre D (rw a cA cZ G) (rT cA cZ) sz u)) (va_Qi (fun (r : Int32) (u : pS) => Q r u) (pw_B D (rw a cA cZ G) (rT cA cZ)) (pw_F 15 a sz)) 0 0 (pw_F 15 a sz) := by
 refine Met.ofW (cc := b_Model_part) (maxL := 3) (ret := (some .int)) (by decide) rfl ?_
 intro p e s m args below meth c s₁ B hml hv
 obtain ⟨rfl, hsz, hP, hK⟩ := hv
 subst hsz
 have hl := lv_entry ([.ref (a 0), .int x1]) (n := 3) (Nat.le_of_ble_eq_true rfl)
 rw [lg_entry_eq]
 generalize (lg_sl ([.ref (a 0), .int x1]) ++ List.replicate (3 - (lg_sl ([.ref (a 0), .int x1])).length) Slot.unset).toArray = ls at hl ⊢
 exact st_Model_part (A := (pw_F 15 a s.heap.size)) ⟨B.exec, B.bytes, B.returns, hml, findClass_of_methodNamed B.named, atoms_spec (ws := w_Model_part) B.pre, B.notSynchronized, fun q hq => Or.inr hq⟩ ⟨hK, hI, fun k hk => Or.inl ⟨k, hk, rfl⟩⟩ x1 u ls hP hl h
set_option maxHeartbeats 4000000 in
set_option maxRecDepth 100000 in
theorem cp_Model_numberOf_2 {p : Program} {l : Launch} {e : Env} {s : State} {m : MethodId} {args : Array Value} {below : List Frame} {meth : Method} {c : Code} {D : va_G} {a : Nat → Nat} {cA cZ : ClassId} {G : pG} {A : Nat → Prop} {Q : Int32 → pS → Prop} (C : pw_C p s m args meth c b_Model_numberOf 3 R_Model (some .int) w_Model_numberOf A) (K : pw_K s D 15 a (rT cA cZ) A) : ∀ (n : Nat), ∀ (x1 x2 : Int32) (u : pS) (H : Heap) (locs : List Loc) (ls : Array Slot), va_P D vwCl (rw a cA cZ G u) H → va_S A s.heap H locs → lv_has ls 3 [(0, .ref (a 0)), (1, .int x1), (2, .int x2)] → lp_Model_numberOf_2 G Q n x1 x2 u → W p l e ({ frames := 0, cells := 0, slots := 0, locals := 0 } : Room) s m args below meth c H locs 0 0 (pw_Ei below args s D (rw a cA cZ G) (rT cA cZ) A Q) (F0 m 2 ls []) := by
 obtain ⟨hx, hb, hr, hml, hown, hts, hlocks, hA⟩ := id C
 obtain ⟨hK, hI, hF⟩ := id K
 have hD : ∀ u, va_D A (rw a cA cZ G u) := fun u => rw_D hI hF
 intro n
 induction n with
 | zero => intro x1 x2 u H locs ls hP hS hl h; exact h.elim
 | succ n ih =>
   intro x1 x2 u H locs ls hP hS hl h
   refine lv_aload_n hx hb d_Model_numberOf_2 rfl (lv_at hl 0 rfl) ?_
   refine va_get (D := D) (ci := 1) (v := .ref (a 5)) (C := R_Model) (T := T_Model) (N := 23) hx hb hts in_Model hown hK hP 0 rw_at_0 rfl 9 (by decide) (hts _ (List.mem_cons_of_mem _ kw_844)) (fun _ h9 => h9) rfl d_Model_numberOf_3 ?_
   refine lv_iload_n hx hb d_Model_numberOf_6 rfl (lv_at hl 2 rfl) ?_
   refine va_iald hx hb hK hP 5 0 rw_at_5 rfl h.1 d_Model_numberOf_7 ?_
   have h := h.2
   refine lv_aload_n hx hb d_Model_numberOf_8 rfl (lv_at hl 0 rfl) ?_
   refine va_get (D := D) (ci := 1) (v := .ref (a 4)) (C := R_Model) (T := T_Model) (N := 23) hx hb hts in_Model hown hK hP 0 rw_at_0 rfl 7 (by decide) (hts _ (List.mem_cons_of_mem _ kw_842)) (fun _ h9 => h9) rfl d_Model_numberOf_9 ?_
   refine lv_iload_n hx hb d_Model_numberOf_12 rfl (lv_at hl 1 rfl) ?_
   refine va_iald hx hb hK hP 4 0 rw_at_4 rfl h.1 d_Model_numberOf_13 ?_
   have h := h.2
   refine lv_icmp_eq (tgt := 23) hx hb d_Model_numberOf_14 (by decide) (fun c1 => ?_) (fun c1 => ?_)
   · have h := h.1 c1
     refine lv_iload_n hx hb d_Model_numberOf_23 rfl (lv_at hl 2 rfl) ?_
     exact W.iret (v := x2) hx hb hr (fun t ht hW => ⟨⟨x2, u, rfl, h, by rw [ht]; exact hP, va_K.moved hW.alike hK⟩, hS.F ht⟩) hS.2.2 d_Model_numberOf_24 hlocks
   · have h := h.2 c1
     obtain ⟨t2, et2⟩ : ∃ y : Int32, y = x2 + 1 := ⟨_, rfl⟩
     have h := h t2 et2
     refine lv_iinc (v := t2) (lv' := [(2, .int t2), (0, .ref (a 0)), (1, .int x1)]) hx hb d_Model_numberOf_17 hl (k := 2) rfl (by rw [et2]; rfl) (by decide) rfl (fun ls hl => ?_)
     refine lv_goto (tgt := 2) hx hb d_Model_numberOf_20 (by decide) ?_
     exact ih x1 t2 u _ _ _ hP hS (lv_sub hl [1, 2, 0] rfl) h
set_option maxHeartbeats 4000000 in
set_option maxRecDepth 100000 in
theorem st_Model_numberOf {p : Program} {l : Launch} {e : Env} {s : State} {m : MethodId} {args : Array Value} {below : List Frame} {meth : Method} {c : Code} {D : va_G} {a : Nat → Nat} {cA cZ : ClassId} {G : pG} {A : Nat → Prop} {Q : Int32 → pS → Prop} (C : pw_C p s m args meth c b_Model_numberOf 3 R_Model (some .int) w_Model_numberOf A) (K : pw_K s D 15 a (rT cA cZ) A) (x1 : Int32) (u : pS) (ls : Array Slot) (hP : va_P D vwCl (rw a cA cZ G u) s.heap) (hl : lv_has ls 3 [(0, .ref (a 0)), (1, .int x1)]) (h : wp_Model_numberOf G x1 u Q) : W p l e ({ frames := 0, cells := 0, slots := 0, locals := 0 } : Room) s m args below meth c s.heap [] 0 0 (pw_Ei below args s D (rw a cA cZ G) (rT cA cZ) A Q) (F0 m 0 ls []) := by
 obtain ⟨hx, hb, hr, hml, hown, hts, hlocks, hA⟩ := id C
 obtain ⟨hK, hI, hF⟩ := id K
 have hD : ∀ u, va_D A (rw a cA cZ G u) := fun u => rw_D hI hF
 have hS : va_S A s.heap s.heap [] := va_S.rf
 have h : wp_Model_numberOf G x1 u Q := h
 refine lv_iconst (v := 0) hx hb d_Model_numberOf_0 (by decide) ?_
 refine lv_istore_n (lv' := [(2, .int 0), (0, .ref (a 0)), (1, .int x1)]) hx hb d_Model_numberOf_1 rfl hl (by decide) rfl (fun ls hl => ?_)
 obtain ⟨n1, h⟩ := h
 exact cp_Model_numberOf_2 C K n1 x1 0 u _ _ _ hP hS (lv_sub hl [1, 2, 0] rfl) h
set_option maxHeartbeats 4000000 in
set_option maxRecDepth 100000 in
theorem ct_Model_numberOf (l : Launch) (D : va_G) (a : Nat → Nat) (cA cZ : ClassId) (G : pG) (sz : Nat) (x1 : Int32) (u : pS) (Q : Int32 → pS → Prop) (hI : pw_I 15 a) (h : wp_Model_numberOf G x1 u Q) : Met l y_Model_numberOf w_Model_numberOf ({ frames := 0, cells := 0, slots := 0, locals := 0 } : Room) (va_Pc [.ref (a 0), .int x1] (pw_pre D (rw a cA cZ G) (rT cA cZ) sz u)) (va_Qi (fun (r : Int32) (u : pS) => Q r u) (pw_B D (rw a cA cZ G) (rT cA cZ)) (pw_F 15 a sz)) 0 0 (pw_F 15 a sz) := by
 refine Met.ofW (cc := b_Model_numberOf) (maxL := 3) (ret := (some .int)) (by decide) rfl ?_
 intro p e s m args below meth c s₁ B hml hv
 obtain ⟨rfl, hsz, hP, hK⟩ := hv
 subst hsz
 have hl := lv_entry ([.ref (a 0), .int x1]) (n := 3) (Nat.le_of_ble_eq_true rfl)
 rw [lg_entry_eq]
 generalize (lg_sl ([.ref (a 0), .int x1]) ++ List.replicate (3 - (lg_sl ([.ref (a 0), .int x1])).length) Slot.unset).toArray = ls at hl ⊢
 exact st_Model_numberOf (A := (pw_F 15 a s.heap.size)) ⟨B.exec, B.bytes, B.returns, hml, findClass_of_methodNamed B.named, atoms_spec (ws := w_Model_numberOf) B.pre, B.notSynchronized, fun q hq => Or.inr hq⟩ ⟨hK, hI, fun k hk => Or.inl ⟨k, hk, rfl⟩⟩ x1 u ls hP hl h
set_option maxHeartbeats 4000000 in
set_option maxRecDepth 100000 in
theorem cp_Model_pieceOf_26 {p : Program} {l : Launch} {e : Env} {s : State} {m : MethodId} {args : Array Value} {below : List Frame} {meth : Method} {c : Code} {D : va_G} {a : Nat → Nat} {cA cZ : ClassId} {G : pG} {A : Nat → Prop} {Q : Int32 → pS → Prop} (C : pw_C p s m args meth c b_Model_pieceOf 3 R_Model (some .int) w_Model_pieceOf A) (K : pw_K s D 15 a (rT cA cZ) A) : ∀ (x1 x2 y3 : Int32) (u : pS) (H : Heap) (locs : List Loc) (ls : Array Slot), va_P D vwCl (rw a cA cZ G u) H → va_S A s.heap H locs → lv_has ls 3 [(0, .ref (a 0)), (1, .int x1), (2, .int x2)] → jn_Model_pieceOf_26 G Q x1 x2 y3 u → W p l e ({ frames := 1, cells := 0, slots := 0, locals := 22 } : Room) s m args below meth c H locs 0 0 (pw_Ei below args s D (rw a cA cZ G) (rT cA cZ) A Q) (F0 m 26 ls [.int y3, .ref (a 0)]) := by
 obtain ⟨hx, hb, hr, hml, hown, hts, hlocks, hA⟩ := id C
 obtain ⟨hK, hI, hF⟩ := id K
 have hD : ∀ u, va_D A (rw a cA cZ G u) := fun u => rw_D hI hF
 intro x1 x2 y3 u H locs ls hP hS hl h
 refine va_put (D := D) (ci := 1) (v := .int y3) (ty := .int) (C := R_Model) (T := T_Model) (N := 23) hx hb hts in_Model ty_Model tyok_Model nm_Model hown hK hP (hD _) hS 0 rw_at_0 rfl 0 (by decide) (hts _ (List.mem_cons_of_mem _ kw_835)) (fun _ h9 => h9) rfl (by decide +kernel) rfl rfl (Nat.le_of_ble_eq_true rfl) d_Model_pieceOf_26 (fun H locs hP _ hS => ?_)
 obtain ⟨u5, eu5⟩ : ∃ z, z = pw_si u 0 y3 := ⟨_, rfl⟩
 rw [rw_si_0_0, ← eu5] at hP
 have h := h u5 eu5
 refine lv_aload_n hx hb d_Model_pieceOf_29 rfl (lv_at hl 0 rfl) ?_
 refine va_get (D := D) (ci := 1) (v := .int (u5.1 0)) (C := R_Model) (T := T_Model) (N := 23) hx hb hts in_Model hown hK hP 0 rw_at_0 rfl 0 (by decide) (hts _ (List.mem_cons_of_mem _ kw_835)) (fun _ h9 => h9) rfl d_Model_pieceOf_30 ?_
 refine lv_if_le (tgt := 40) hx hb d_Model_pieceOf_33 (by decide) (fun c6 => ?_) (fun c6 => ?_)
 · have h := h.1 c6
   refine lv_aload_n hx hb d_Model_pieceOf_40 rfl (lv_at hl 0 rfl) ?_
   refine lv_aload_n hx hb d_Model_pieceOf_41 rfl (lv_at hl 0 rfl) ?_
   refine va_get (D := D) (ci := 1) (v := .int (G.2.1 0)) (C := R_Model) (T := T_Model) (N := 23) hx hb hts in_Model hown hK hP 0 rw_at_0 rfl 1 (by decide) (hts _ (List.mem_cons_of_mem _ kw_836)) (fun _ h9 => h9) rfl d_Model_pieceOf_42 ?_
   refine lv_iload_n hx hb d_Model_pieceOf_45 rfl (lv_at hl 2 rfl) ?_
   refine lv_imul hx hb d_Model_pieceOf_46 ?_
   refine lv_iload_n hx hb d_Model_pieceOf_47 rfl (lv_at hl 1 rfl) ?_
   refine lv_iadd hx hb d_Model_pieceOf_48 ?_
   refine cc_i (va_runV (As := [.int (((G.2.1 0) * x2) + x1)]) (rest := []) ⟨hx, hb, hml, hown, hts⟩ (ct_Model_numberOf l D a cA cZ G _ (((G.2.1 0) * x2) + x1) u5 _ hI h) (pw_cwV 1 hts kw_963 kw_57 kw_960 kw_962 kw_31 (by decide +kernel) ⟨Nat.le_of_ble_eq_true rfl, Nat.le_of_ble_eq_true rfl⟩) ⟨pw_blind, va_recv hK hP (ci := 1) (q0 := 0) rfl rw_at_0, fun U hU hW => ⟨rfl, by rw [hU], by rw [hU]; exact hP, va_K.moved hW.alike hK⟩⟩ rfl rfl hl.1 rfl (lv_room (Nat.le_of_ble_eq_true rfl)) d_Model_pieceOf_49 ⟨Nat.le_of_ble_eq_true rfl, Nat.le_of_ble_eq_true rfl⟩) hS hF hA (fun r8 u7 H locs hP hS h => ?_)
   exact W.iret (v := r8) hx hb hr (fun t ht hW => ⟨⟨r8, u7, rfl, h, by rw [ht]; exact hP, va_K.moved hW.alike hK⟩, hS.F ht⟩) hS.2.2 d_Model_pieceOf_52 hlocks
 · have h := h.2 c6
   refine lv_iconst (v := 0) hx hb d_Model_pieceOf_36 (by decide) ?_
   refine lv_goto (tgt := 52) hx hb d_Model_pieceOf_37 (by decide) ?_
   exact W.iret (v := 0) hx hb hr (fun t ht hW => ⟨⟨0, u5, rfl, h, by rw [ht]; exact hP, va_K.moved hW.alike hK⟩, hS.F ht⟩) hS.2.2 d_Model_pieceOf_52 hlocks
set_option maxHeartbeats 4000000 in
set_option maxRecDepth 100000 in
theorem st_Model_pieceOf {p : Program} {l : Launch} {e : Env} {s : State} {m : MethodId} {args : Array Value} {below : List Frame} {meth : Method} {c : Code} {D : va_G} {a : Nat → Nat} {cA cZ : ClassId} {G : pG} {A : Nat → Prop} {Q : Int32 → pS → Prop} (C : pw_C p s m args meth c b_Model_pieceOf 3 R_Model (some .int) w_Model_pieceOf A) (K : pw_K s D 15 a (rT cA cZ) A) (x1 x2 : Int32) (u : pS) (ls : Array Slot) (hP : va_P D vwCl (rw a cA cZ G u) s.heap) (hl : lv_has ls 3 [(0, .ref (a 0)), (1, .int x1), (2, .int x2)]) (h : wp_Model_pieceOf G x1 x2 u Q) : W p l e ({ frames := 1, cells := 0, slots := 0, locals := 22 } : Room) s m args below meth c s.heap [] 0 0 (pw_Ei below args s D (rw a cA cZ G) (rT cA cZ) A Q) (F0 m 0 ls []) := by
 obtain ⟨hx, hb, hr, hml, hown, hts, hlocks, hA⟩ := id C
 obtain ⟨hK, hI, hF⟩ := id K
 have hD : ∀ u, va_D A (rw a cA cZ G u) := fun u => rw_D hI hF
 have hS : va_S A s.heap s.heap [] := va_S.rf
 have h : wp_Model_pieceOf G x1 x2 u Q := h
 refine lv_aload_n hx hb d_Model_pieceOf_0 rfl (lv_at hl 0 rfl) ?_
 refine lv_aload_n hx hb d_Model_pieceOf_1 rfl (lv_at hl 0 rfl) ?_
 refine va_get (D := D) (ci := 1) (v := .int (u.1 2)) (C := R_Model) (T := T_Model) (N := 23) hx hb hts in_Model hown hK hP 0 rw_at_0 rfl 12 (by decide) (hts _ (List.mem_cons_of_mem _ kw_847)) (fun _ h9 => h9) rfl d_Model_pieceOf_2 ?_
 refine lv_if_ne (tgt := 12) hx hb d_Model_pieceOf_5 (by decide) (fun c1 => ?_) (fun c1 => ?_)
 · have h := h.2 c1
   refine lv_aload_n hx hb d_Model_pieceOf_12 rfl (lv_at hl 0 rfl) ?_
   refine lv_iload_n hx hb d_Model_pieceOf_13 rfl (lv_at hl 1 rfl) ?_
   refine lv_iload_n hx hb d_Model_pieceOf_14 rfl (lv_at hl 2 rfl) ?_
   refine cc_i (va_runV (As := [.int x1, .int x2]) (rest := [.ref (a 0)]) ⟨hx, hb, hml, hown, hts⟩ (ct_Model_isPlace l D a cA cZ G _ x1 x2 u _ hI h) (pw_cwV 2 hts kw_916 kw_57 kw_913 kw_915 kw_23 (by decide +kernel) ⟨Nat.le_of_ble_eq_true rfl, Nat.le_of_ble_eq_true rfl⟩) ⟨pw_blind, va_recv hK hP (ci := 1) (q0 := 0) rfl rw_at_0, fun U hU hW => ⟨rfl, by rw [hU], by rw [hU]; exact hP, va_K.moved hW.alike hK⟩⟩ rfl rfl hl.1 rfl (lv_room (Nat.le_of_ble_eq_true rfl)) d_Model_pieceOf_15 ⟨Nat.le_of_ble_eq_true rfl, Nat.le_of_ble_eq_true rfl⟩) hS hF hA (fun r3 u2 H locs hP hS h => ?_)
   refine lv_if_eq (tgt := 25) hx hb d_Model_pieceOf_18 (by decide) (fun c4 => ?_) (fun c4 => ?_)
   · have h := h.1 c4
     refine lv_iconst (v := 2) hx hb d_Model_pieceOf_25 (by decide) ?_
     exact cp_Model_pieceOf_26 C K x1 x2 2 u2 _ _ _ hP hS (lv_sub hl [0, 1, 2] rfl) h
   · have h := h.2 c4
     refine lv_iconst (v := 0) hx hb d_Model_pieceOf_21 (by decide) ?_
     refine lv_goto (tgt := 26) hx hb d_Model_pieceOf_22 (by decide) ?_
     exact cp_Model_pieceOf_26 C K x1 x2 0 u2 _ _ _ hP hS (lv_sub hl [0, 1, 2] rfl) h
 · have h := h.1 c1
   refine lv_iconst (v := 1) hx hb d_Model_pieceOf_8 (by decide) ?_
   refine lv_goto (tgt := 26) hx hb d_Model_pieceOf_9 (by decide) ?_
   exact cp_Model_pieceOf_26 C K x1 x2 1 u _ _ _ hP hS (lv_sub hl [0, 1, 2] rfl) h
set_option maxHeartbeats 4000000 in
set_option maxRecDepth 100000 in
theorem ct_Model_pieceOf (l : Launch) (D : va_G) (a : Nat → Nat) (cA cZ : ClassId) (G : pG) (sz : Nat) (x1 x2 : Int32) (u : pS) (Q : Int32 → pS → Prop) (hI : pw_I 15 a) (h : wp_Model_pieceOf G x1 x2 u Q) : Met l y_Model_pieceOf w_Model_pieceOf ({ frames := 1, cells := 0, slots := 0, locals := 22 } : Room) (va_Pc [.ref (a 0), .int x1, .int x2] (pw_pre D (rw a cA cZ G) (rT cA cZ) sz u)) (va_Qi (fun (r : Int32) (u : pS) => Q r u) (pw_B D (rw a cA cZ G) (rT cA cZ)) (pw_F 15 a sz)) 0 0 (pw_F 15 a sz) := by
 refine Met.ofW (cc := b_Model_pieceOf) (maxL := 3) (ret := (some .int)) (by decide) rfl ?_
 intro p e s m args below meth c s₁ B hml hv
 obtain ⟨rfl, hsz, hP, hK⟩ := hv
 subst hsz
 have hl := lv_entry ([.ref (a 0), .int x1, .int x2]) (n := 3) (Nat.le_of_ble_eq_true rfl)
 rw [lg_entry_eq]
 generalize (lg_sl ([.ref (a 0), .int x1, .int x2]) ++ List.replicate (3 - (lg_sl ([.ref (a 0), .int x1, .int x2])).length) Slot.unset).toArray = ls at hl ⊢
 exact st_Model_pieceOf (A := (pw_F 15 a s.heap.size)) ⟨B.exec, B.bytes, B.returns, hml, findClass_of_methodNamed B.named, atoms_spec (ws := w_Model_pieceOf) B.pre, B.notSynchronized, fun q hq => Or.inr hq⟩ ⟨hK, hI, fun k hk => Or.inl ⟨k, hk, rfl⟩⟩ x1 x2 u ls hP hl h
set_option maxHeartbeats 4000000 in
set_option maxRecDepth 100000 in
theorem st_Model_noPiece {p : Program} {l : Launch} {e : Env} {s : State} {m : MethodId} {args : Array Value} {below : List Frame} {meth : Method} {c : Code} {D : va_G} {a : Nat → Nat} {cA cZ : ClassId} {G : pG} {A : Nat → Prop} {Q : Int32 → pS → Prop} (C : pw_C p s m args meth c b_Model_noPiece 2 R_Model (some .boolean) w_Model_noPiece A) (K : pw_K s D 15 a (rT cA cZ) A) (x1 : Int32) (u : pS) (ls : Array Slot) (hP : va_P D vwCl (rw a cA cZ G u) s.heap) (hl : lv_has ls 2 [(0, .ref (a 0)), (1, .int x1)]) (h : wp_Model_noPiece G x1 u Q) : W p l e ({ frames := 0, cells := 0, slots := 0, locals := 0 } : Room) s m args below meth c s.heap [] 0 0 (pw_Ei below args s D (rw a cA cZ G) (rT cA cZ) A Q) (F0 m 0 ls []) := by
 obtain ⟨hx, hb, hr, hml, hown, hts, hlocks, hA⟩ := id C
 obtain ⟨hK, hI, hF⟩ := id K
 have hD : ∀ u, va_D A (rw a cA cZ G u) := fun u => rw_D hI hF
 have hS : va_S A s.heap s.heap [] := va_S.rf
 have h : wp_Model_noPiece G x1 u Q := h
 refine lv_aload_n hx hb d_Model_noPiece_0 rfl (lv_at hl 0 rfl) ?_
 refine lv_aload_n hx hb d_Model_noPiece_1 rfl (lv_at hl 0 rfl) ?_
 refine va_get (D := D) (ci := 1) (v := .int (u.1 2)) (C := R_Model) (T := T_Model) (N := 23) hx hb hts in_Model hown hK hP 0 rw_at_0 rfl 12 (by decide) (hts _ (List.mem_cons_of_mem _ kw_847)) (fun _ h9 => h9) rfl d_Model_noPiece_2 ?_
 refine lv_if_ne (tgt := 12) hx hb d_Model_noPiece_5 (by decide) (fun c1 => ?_) (fun c1 => ?_)
 · have h := h.2 c1
   refine lv_iload_n hx hb d_Model_noPiece_12 rfl (lv_at hl 1 rfl) ?_
   refine lv_if_lt (tgt := 24) hx hb d_Model_noPiece_13 (by decide) (fun c2 => ?_) (fun c2 => ?_)
   · have h := h.1 c2
     refine lv_iconst (v := 2) hx hb d_Model_noPiece_24 (by decide) ?_
     refine lv_goto (tgt := 29) hx hb d_Model_noPiece_25 (by decide) ?_
     refine va_put (D := D) (ci := 1) (v := .int 2) (ty := .int) (C := R_Model) (T := T_Model) (N := 23) hx hb hts in_Model ty_Model tyok_Model nm_Model hown hK hP (hD _) hS 0 rw_at_0 rfl 0 (by decide) (hts _ (List.mem_cons_of_mem _ kw_835)) (fun _ h9 => h9) rfl (by decide +kernel) rfl rfl (Nat.le_of_ble_eq_true rfl) d_Model_noPiece_29 (fun H locs hP _ hS => ?_)
     obtain ⟨u3, eu3⟩ : ∃ z, z = pw_si u 0 2 := ⟨_, rfl⟩
     rw [rw_si_0_0, ← eu3] at hP
     have h := h u3 eu3
     refine lv_aload_n hx hb d_Model_noPiece_32 rfl (lv_at hl 0 rfl) ?_
     refine va_get (D := D) (ci := 1) (v := .int (u3.1 0)) (C := R_Model) (T := T_Model) (N := 23) hx hb hts in_Model hown hK hP 0 rw_at_0 rfl 0 (by decide) (hts _ (List.mem_cons_of_mem _ kw_835)) (fun _ h9 => h9) rfl d_Model_noPiece_33 ?_
     refine lv_if_le (tgt := 43) hx hb d_Model_noPiece_36 (by decide) (fun c4 => ?_) (fun c4 => ?_)
     · have h := h.1 c4
       refine lv_iconst (v := 0) hx hb d_Model_noPiece_43 (by decide) ?_
       exact W.zret (v := 0) hx hb hr rfl (fun t ht hW => ⟨⟨0, u3, rfl, h, by rw [ht]; exact hP, va_K.moved hW.alike hK⟩, hS.F ht⟩) hS.2.2 d_Model_noPiece_44 hlocks
     · have h := h.2 c4
       refine lv_iconst (v := 1) hx hb d_Model_noPiece_39 (by decide) ?_
       refine lv_goto (tgt := 44) hx hb d_Model_noPiece_40 (by decide) ?_
       exact W.zret (v := 1) hx hb hr rfl (fun t ht hW => ⟨⟨1, u3, rfl, h, by rw [ht]; exact hP, va_K.moved hW.alike hK⟩, hS.F ht⟩) hS.2.2 d_Model_noPiece_44 hlocks
   · have h := h.2 c2
     refine lv_iload_n hx hb d_Model_noPiece_16 rfl (lv_at hl 1 rfl) ?_
     refine lv_aload_n hx hb d_Model_noPiece_17 rfl (lv_at hl 0 rfl) ?_
     refine va_get (D := D) (ci := 1) (v := .int (u.1 1)) (C := R_Model) (T := T_Model) (N := 23) hx hb hts in_Model hown hK hP 0 rw_at_0 rfl 8 (by decide) (hts _ (List.mem_cons_of_mem _ kw_843)) (fun _ h9 => h9) rfl d_Model_noPiece_18 ?_
     refine lv_icmp_lt (tgt := 28) hx hb d_Model_noPiece_21 (by decide) (fun c5 => ?_) (fun c5 => ?_)
     · have h := h.1 c5
       refine lv_iconst (v := 0) hx hb d_Model_noPiece_28 (by decide) ?_
       refine va_put (D := D) (ci := 1) (v := .int 0) (ty := .int) (C := R_Model) (T := T_Model) (N := 23) hx hb hts in_Model ty_Model tyok_Model nm_Model hown hK hP (hD _) hS 0 rw_at_0 rfl 0 (by decide) (hts _ (List.mem_cons_of_mem _ kw_835)) (fun _ h9 => h9) rfl (by decide +kernel) rfl rfl (Nat.le_of_ble_eq_true rfl) d_Model_noPiece_29 (fun H locs hP _ hS => ?_)
       obtain ⟨u6, eu6⟩ : ∃ z, z = pw_si u 0 0 := ⟨_, rfl⟩
       rw [rw_si_0_0, ← eu6] at hP
       have h := h u6 eu6
       refine lv_aload_n hx hb d_Model_noPiece_32 rfl (lv_at hl 0 rfl) ?_
       refine va_get (D := D) (ci := 1) (v := .int (u6.1 0)) (C := R_Model) (T := T_Model) (N := 23) hx hb hts in_Model hown hK hP 0 rw_at_0 rfl 0 (by decide) (hts _ (List.mem_cons_of_mem _ kw_835)) (fun _ h9 => h9) rfl d_Model_noPiece_33 ?_
       refine lv_if_le (tgt := 43) hx hb d_Model_noPiece_36 (by decide) (fun c7 => ?_) (fun c7 => ?_)
       · have h := h.1 c7
         refine lv_iconst (v := 0) hx hb d_Model_noPiece_43 (by decide) ?_
         exact W.zret (v := 0) hx hb hr rfl (fun t ht hW => ⟨⟨0, u6, rfl, h, by rw [ht]; exact hP, va_K.moved hW.alike hK⟩, hS.F ht⟩) hS.2.2 d_Model_noPiece_44 hlocks
       · have h := h.2 c7
         refine lv_iconst (v := 1) hx hb d_Model_noPiece_39 (by decide) ?_
         refine lv_goto (tgt := 44) hx hb d_Model_noPiece_40 (by decide) ?_
         exact W.zret (v := 1) hx hb hr rfl (fun t ht hW => ⟨⟨1, u6, rfl, h, by rw [ht]; exact hP, va_K.moved hW.alike hK⟩, hS.F ht⟩) hS.2.2 d_Model_noPiece_44 hlocks
     · have h := h.2 c5
       refine lv_iconst (v := 2) hx hb d_Model_noPiece_24 (by decide) ?_
       refine lv_goto (tgt := 29) hx hb d_Model_noPiece_25 (by decide) ?_
       refine va_put (D := D) (ci := 1) (v := .int 2) (ty := .int) (C := R_Model) (T := T_Model) (N := 23) hx hb hts in_Model ty_Model tyok_Model nm_Model hown hK hP (hD _) hS 0 rw_at_0 rfl 0 (by decide) (hts _ (List.mem_cons_of_mem _ kw_835)) (fun _ h9 => h9) rfl (by decide +kernel) rfl rfl (Nat.le_of_ble_eq_true rfl) d_Model_noPiece_29 (fun H locs hP _ hS => ?_)
       obtain ⟨u8, eu8⟩ : ∃ z, z = pw_si u 0 2 := ⟨_, rfl⟩
       rw [rw_si_0_0, ← eu8] at hP
       have h := h u8 eu8
       refine lv_aload_n hx hb d_Model_noPiece_32 rfl (lv_at hl 0 rfl) ?_
       refine va_get (D := D) (ci := 1) (v := .int (u8.1 0)) (C := R_Model) (T := T_Model) (N := 23) hx hb hts in_Model hown hK hP 0 rw_at_0 rfl 0 (by decide) (hts _ (List.mem_cons_of_mem _ kw_835)) (fun _ h9 => h9) rfl d_Model_noPiece_33 ?_
       refine lv_if_le (tgt := 43) hx hb d_Model_noPiece_36 (by decide) (fun c9 => ?_) (fun c9 => ?_)
       · have h := h.1 c9
         refine lv_iconst (v := 0) hx hb d_Model_noPiece_43 (by decide) ?_
         exact W.zret (v := 0) hx hb hr rfl (fun t ht hW => ⟨⟨0, u8, rfl, h, by rw [ht]; exact hP, va_K.moved hW.alike hK⟩, hS.F ht⟩) hS.2.2 d_Model_noPiece_44 hlocks
       · have h := h.2 c9
         refine lv_iconst (v := 1) hx hb d_Model_noPiece_39 (by decide) ?_
         refine lv_goto (tgt := 44) hx hb d_Model_noPiece_40 (by decide) ?_
         exact W.zret (v := 1) hx hb hr rfl (fun t ht hW => ⟨⟨1, u8, rfl, h, by rw [ht]; exact hP, va_K.moved hW.alike hK⟩, hS.F ht⟩) hS.2.2 d_Model_noPiece_44 hlocks
 · have h := h.1 c1
   refine lv_iconst (v := 1) hx hb d_Model_noPiece_8 (by decide) ?_
   refine lv_goto (tgt := 29) hx hb d_Model_noPiece_9 (by decide) ?_
   refine va_put (D := D) (ci := 1) (v := .int 1) (ty := .int) (C := R_Model) (T := T_Model) (N := 23) hx hb hts in_Model ty_Model tyok_Model nm_Model hown hK hP (hD _) hS 0 rw_at_0 rfl 0 (by decide) (hts _ (List.mem_cons_of_mem _ kw_835)) (fun _ h9 => h9) rfl (by decide +kernel) rfl rfl (Nat.le_of_ble_eq_true rfl) d_Model_noPiece_29 (fun H locs hP _ hS => ?_)
   obtain ⟨u10, eu10⟩ : ∃ z, z = pw_si u 0 1 := ⟨_, rfl⟩
   rw [rw_si_0_0, ← eu10] at hP
   have h := h u10 eu10
   refine lv_aload_n hx hb d_Model_noPiece_32 rfl (lv_at hl 0 rfl) ?_
   refine va_get (D := D) (ci := 1) (v := .int (u10.1 0)) (C := R_Model) (T := T_Model) (N := 23) hx hb hts in_Model hown hK hP 0 rw_at_0 rfl 0 (by decide) (hts _ (List.mem_cons_of_mem _ kw_835)) (fun _ h9 => h9) rfl d_Model_noPiece_33 ?_
   refine lv_if_le (tgt := 43) hx hb d_Model_noPiece_36 (by decide) (fun c11 => ?_) (fun c11 => ?_)
   · have h := h.1 c11
     refine lv_iconst (v := 0) hx hb d_Model_noPiece_43 (by decide) ?_
     exact W.zret (v := 0) hx hb hr rfl (fun t ht hW => ⟨⟨0, u10, rfl, h, by rw [ht]; exact hP, va_K.moved hW.alike hK⟩, hS.F ht⟩) hS.2.2 d_Model_noPiece_44 hlocks
   · have h := h.2 c11
     refine lv_iconst (v := 1) hx hb d_Model_noPiece_39 (by decide) ?_
     refine lv_goto (tgt := 44) hx hb d_Model_noPiece_40 (by decide) ?_
     exact W.zret (v := 1) hx hb hr rfl (fun t ht hW => ⟨⟨1, u10, rfl, h, by rw [ht]; exact hP, va_K.moved hW.alike hK⟩, hS.F ht⟩) hS.2.2 d_Model_noPiece_44 hlocks
set_option maxHeartbeats 4000000 in
set_option maxRecDepth 100000 in
theorem ct_Model_noPiece (l : Launch) (D : va_G) (a : Nat → Nat) (cA cZ : ClassId) (G : pG) (sz : Nat) (x1 : Int32) (u : pS) (Q : Int32 → pS → Prop) (hI : pw_I 15 a) (h : wp_Model_noPiece G x1 u Q) : Met l y_Model_noPiece w_Model_noPiece ({ frames := 0, cells := 0, slots := 0, locals := 0 } : Room) (va_Pc [.ref (a 0), .int x1] (pw_pre D (rw a cA cZ G) (rT cA cZ) sz u)) (va_Qi (fun (r : Int32) (u : pS) => Q r u) (pw_B D (rw a cA cZ G) (rT cA cZ)) (pw_F 15 a sz)) 0 0 (pw_F 15 a sz) := by
 refine Met.ofW (cc := b_Model_noPiece) (maxL := 2) (ret := (some .boolean)) (by decide) rfl ?_
 intro p e s m args below meth c s₁ B hml hv
 obtain ⟨rfl, hsz, hP, hK⟩ := hv
 subst hsz
 have hl := lv_entry ([.ref (a 0), .int x1]) (n := 2) (Nat.le_of_ble_eq_true rfl)
 rw [lg_entry_eq]
 generalize (lg_sl ([.ref (a 0), .int x1]) ++ List.replicate (2 - (lg_sl ([.ref (a 0), .int x1])).length) Slot.unset).toArray = ls at hl ⊢
 exact st_Model_noPiece (A := (pw_F 15 a s.heap.size)) ⟨B.exec, B.bytes, B.returns, hml, findClass_of_methodNamed B.named, atoms_spec (ws := w_Model_noPiece) B.pre, B.notSynchronized, fun q hq => Or.inr hq⟩ ⟨hK, hI, fun k hk => Or.inl ⟨k, hk, rfl⟩⟩ x1 u ls hP hl h
set_option maxHeartbeats 4000000 in
set_option maxRecDepth 100000 in
theorem cp_Model_end_68 {p : Program} {l : Launch} {e : Env} {s : State} {m : MethodId} {args : Array Value} {below : List Frame} {meth : Method} {c : Code} {D : va_G} {a : Nat → Nat} {cA cZ : ClassId} {G : pG} {A : Nat → Prop} {Q : Int32 → pS → Prop} (C : pw_C p s m args meth c b_Model_end 6 R_Model (some .int) w_Model_end A) (K : pw_K s D 15 a (rT cA cZ) A) {k15 : Int32 → Int32 → Int32 → Int32 → pS → Prop} (hk15 : ∀ (x1 x2 x3 x4 : Int32) (u : pS) (H : Heap) (locs : List Loc) (ls : Array Slot), va_P D vwCl (rw a cA cZ G u) H → va_S A s.heap H locs → lv_has ls 6 [(0, .ref (a 0)), (1, .int x1), (2, .int x2), (3, .int x3), (4, .int x4)] → k15 x1 x2 x3 x4 u → W p l e ({ frames := 0, cells := 0, slots := 0, locals := 0 } : Room) s m args below meth c H locs 0 0 (pw_Ei below args s D (rw a cA cZ G) (rT cA cZ) A Q) (F0 m 15 ls [])) : ∀ (x1 x2 x3 x4 y5 : Int32) (u : pS) (H : Heap) (locs : List Loc) (ls : Array Slot), va_P D vwCl (rw a cA cZ G u) H → va_S A s.heap H locs → lv_has ls 6 [(0, .ref (a 0)), (1, .int x1), (2, .int x2), (3, .int x3), (4, .int x4)] → jn_Model_end_68 G Q k15 x1 x2 x3 x4 y5 u → W p l e ({ frames := 0, cells := 0, slots := 0, locals := 0 } : Room) s m args below meth c H locs 0 0 (pw_Ei below args s D (rw a cA cZ G) (rT cA cZ) A Q) (F0 m 68 ls [.int y5]) := by
 obtain ⟨hx, hb, hr, hml, hown, hts, hlocks, hA⟩ := id C
 obtain ⟨hK, hI, hF⟩ := id K
 have hD : ∀ u, va_D A (rw a cA cZ G u) := fun u => rw_D hI hF
 intro x1 x2 x3 x4 y5 u H locs ls hP hS hl h
 refine lv_istore (lv' := [(5, .int y5), (0, .ref (a 0)), (1, .int x1), (2, .int x2), (3, .int x3), (4, .int x4)]) hx hb d_Model_end_68 hl (by decide) rfl (fun ls hl => ?_)
 refine lv_iload_n hx hb d_Model_end_70 rfl (lv_at hl 3 rfl) ?_
 refine lv_iconst (v := 2) hx hb d_Model_end_71 (by decide) ?_
 refine lv_icmp_ge (tgt := 90) hx hb d_Model_end_72 (by decide) (fun c6 => ?_) (fun c6 => ?_)
 · have h := h.1 c6
   refine lv_iload hx hb d_Model_end_90 (lv_at hl 0 rfl) ?_
   refine lv_iload_n hx hb d_Model_end_92 rfl (lv_at hl 4 rfl) ?_
   refine lv_icmp_le (tgt := 101) hx hb d_Model_end_93 (by decide) (fun c7 => ?_) (fun c7 => ?_)
   · have h := h.1 c7
     refine lv_iload_n hx hb d_Model_end_101 rfl (lv_at hl 4 rfl) ?_
     refine lv_istore_n (lv' := [(3, .int x3), (5, .int y5), (0, .ref (a 0)), (1, .int x1), (2, .int x2), (4, .int x4)]) hx hb d_Model_end_102 rfl hl (by decide) rfl (fun ls hl => ?_)
     obtain ⟨t8, et8⟩ : ∃ y : Int32, y = x4 + 1 := ⟨_, rfl⟩
     have h := h t8 et8
     refine lv_iinc (v := t8) (lv' := [(4, .int t8), (3, .int x3), (5, .int y5), (0, .ref (a 0)), (1, .int x1), (2, .int x2)]) hx hb d_Model_end_103 hl (k := 5) rfl (by rw [et8]; rfl) (by decide) rfl (fun ls hl => ?_)
     refine lv_goto (tgt := 15) hx hb d_Model_end_106 (by decide) ?_
     exact hk15 x1 x2 x3 t8 u _ _ _ hP hS (lv_sub hl [3, 4, 5, 1, 0] rfl) h
   · have h := h.2 c7
     refine lv_iload hx hb d_Model_end_96 (lv_at hl 0 rfl) ?_
     refine lv_goto (tgt := 102) hx hb d_Model_end_98 (by decide) ?_
     refine lv_istore_n (lv' := [(3, .int y5), (5, .int y5), (0, .ref (a 0)), (1, .int x1), (2, .int x2), (4, .int x4)]) hx hb d_Model_end_102 rfl hl (by decide) rfl (fun ls hl => ?_)
     obtain ⟨t9, et9⟩ : ∃ y : Int32, y = x4 + 1 := ⟨_, rfl⟩
     have h := h t9 et9
     refine lv_iinc (v := t9) (lv' := [(4, .int t9), (3, .int y5), (5, .int y5), (0, .ref (a 0)), (1, .int x1), (2, .int x2)]) hx hb d_Model_end_103 hl (k := 5) rfl (by rw [et9]; rfl) (by decide) rfl (fun ls hl => ?_)
     refine lv_goto (tgt := 15) hx hb d_Model_end_106 (by decide) ?_
     exact hk15 x1 x2 y5 t9 u _ _ _ hP hS (lv_sub hl [3, 4, 5, 1, 0] rfl) h
 · have h := h.2 c6
   refine lv_iload hx hb d_Model_end_75 (lv_at hl 0 rfl) ?_
   refine lv_iload_n hx hb d_Model_end_77 rfl (lv_at hl 4 rfl) ?_
   refine lv_icmp_ge (tgt := 86) hx hb d_Model_end_78 (by decide) (fun c10 => ?_) (fun c10 => ?_)
   · have h := h.1 c10
     refine lv_iload_n hx hb d_Model_end_86 rfl (lv_at hl 4 rfl) ?_
     refine lv_goto (tgt := 102) hx hb d_Model_end_87 (by decide) ?_
     refine lv_istore_n (lv' := [(3, .int x3), (5, .int y5), (0, .ref (a 0)), (1, .int x1), (2, .int x2), (4, .int x4)]) hx hb d_Model_end_102 rfl hl (by decide) rfl (fun ls hl => ?_)
     obtain ⟨t11, et11⟩ : ∃ y : Int32, y = x4 + 1 := ⟨_, rfl⟩
     have h := h t11 et11
     refine lv_iinc (v := t11) (lv' := [(4, .int t11), (3, .int x3), (5, .int y5), (0, .ref (a 0)), (1, .int x1), (2, .int x2)]) hx hb d_Model_end_103 hl (k := 5) rfl (by rw [et11]; rfl) (by decide) rfl (fun ls hl => ?_)
     refine lv_goto (tgt := 15) hx hb d_Model_end_106 (by decide) ?_
     exact hk15 x1 x2 x3 t11 u _ _ _ hP hS (lv_sub hl [3, 4, 5, 1, 0] rfl) h
   · have h := h.2 c10
     refine lv_iload hx hb d_Model_end_81 (lv_at hl 0 rfl) ?_
     refine lv_goto (tgt := 102) hx hb d_Model_end_83 (by decide) ?_
     refine lv_istore_n (lv' := [(3, .int y5), (5, .int y5), (0, .ref (a 0)), (1, .int x1), (2, .int x2), (4, .int x4)]) hx hb d_Model_end_102 rfl hl (by decide) rfl (fun ls hl => ?_)
     obtain ⟨t12, et12⟩ : ∃ y : Int32, y = x4 + 1 := ⟨_, rfl⟩
     have h := h t12 et12
     refine lv_iinc (v := t12) (lv' := [(4, .int t12), (3, .int y5), (5, .int y5), (0, .ref (a 0)), (1, .int x1), (2, .int x2)]) hx hb d_Model_end_103 hl (k := 5) rfl (by rw [et12]; rfl) (by decide) rfl (fun ls hl => ?_)
     refine lv_goto (tgt := 15) hx hb d_Model_end_106 (by decide) ?_
     exact hk15 x1 x2 y5 t12 u _ _ _ hP hS (lv_sub hl [3, 4, 5, 1, 0] rfl) h
set_option maxHeartbeats 4000000 in
set_option maxRecDepth 100000 in
theorem cp_Model_end_15 {p : Program} {l : Launch} {e : Env} {s : State} {m : MethodId} {args : Array Value} {below : List Frame} {meth : Method} {c : Code} {D : va_G} {a : Nat → Nat} {cA cZ : ClassId} {G : pG} {A : Nat → Prop} {Q : Int32 → pS → Prop} (C : pw_C p s m args meth c b_Model_end 6 R_Model (some .int) w_Model_end A) (K : pw_K s D 15 a (rT cA cZ) A) : ∀ (n : Nat), ∀ (x1 x2 x3 x4 : Int32) (u : pS) (H : Heap) (locs : List Loc) (ls : Array Slot), va_P D vwCl (rw a cA cZ G u) H → va_S A s.heap H locs → lv_has ls 6 [(0, .ref (a 0)), (1, .int x1), (2, .int x2), (3, .int x3), (4, .int x4)] → lp_Model_end_15 G Q n x1 x2 x3 x4 u → W p l e ({ frames := 0, cells := 0, slots := 0, locals := 0 } : Room) s m args below meth c H locs 0 0 (pw_Ei below args s D (rw a cA cZ G) (rT cA cZ) A Q) (F0 m 15 ls []) := by
 obtain ⟨hx, hb, hr, hml, hown, hts, hlocks, hA⟩ := id C
 obtain ⟨hK, hI, hF⟩ := id K
 have hD : ∀ u, va_D A (rw a cA cZ G u) := fun u => rw_D hI hF
 intro n
 induction n with
 | zero => intro x1 x2 x3 x4 u H locs ls hP hS hl h; exact h.elim
 | succ n ih =>
   intro x1 x2 x3 x4 u H locs ls hP hS hl h
   refine lv_iload hx hb d_Model_end_15 (lv_at hl 4 rfl) ?_
   refine lv_aload_n hx hb d_Model_end_17 rfl (lv_at hl 0 rfl) ?_
   refine va_get (D := D) (ci := 1) (v := .int (G.2.1 0)) (C := R_Model) (T := T_Model) (N := 23) hx hb hts in_Model hown hK hP 0 rw_at_0 rfl 1 (by decide) (hts _ (List.mem_cons_of_mem _ kw_836)) (fun _ h9 => h9) rfl d_Model_end_18 ?_
   refine lv_aload_n hx hb d_Model_end_21 rfl (lv_at hl 0 rfl) ?_
   refine va_get (D := D) (ci := 1) (v := .int (G.2.1 1)) (C := R_Model) (T := T_Model) (N := 23) hx hb hts in_Model hown hK hP 0 rw_at_0 rfl 2 (by decide) (hts _ (List.mem_cons_of_mem _ kw_837)) (fun _ h9 => h9) rfl d_Model_end_22 ?_
   refine lv_imul hx hb d_Model_end_25 ?_
   refine lv_icmp_ge (tgt := 109) hx hb d_Model_end_26 (by decide) (fun c2 => ?_) (fun c2 => ?_)
   · have h := h.1 c2
     refine lv_iload_n hx hb d_Model_end_109 rfl (lv_at hl 3 rfl) ?_
     exact W.iret (v := x3) hx hb hr (fun t ht hW => ⟨⟨x3, u, rfl, h, by rw [ht]; exact hP, va_K.moved hW.alike hK⟩, hS.F ht⟩) hS.2.2 d_Model_end_110 hlocks
   · have h := h.2 c2
     refine lv_aload_n hx hb d_Model_end_29 rfl (lv_at hl 0 rfl) ?_
     refine va_get (D := D) (ci := 1) (v := .ref (a 4)) (C := R_Model) (T := T_Model) (N := 23) hx hb hts in_Model hown hK hP 0 rw_at_0 rfl 7 (by decide) (hts _ (List.mem_cons_of_mem _ kw_842)) (fun _ h9 => h9) rfl d_Model_end_30 ?_
     refine lv_iload hx hb d_Model_end_33 (lv_at hl 4 rfl) ?_
     refine va_iald hx hb hK hP 4 0 rw_at_4 rfl h.1 d_Model_end_35 ?_
     have h := h.2
     refine lv_aload_n hx hb d_Model_end_36 rfl (lv_at hl 0 rfl) ?_
     refine va_get (D := D) (ci := 1) (v := .ref (a 5)) (C := R_Model) (T := T_Model) (N := 23) hx hb hts in_Model hown hK hP 0 rw_at_0 rfl 9 (by decide) (hts _ (List.mem_cons_of_mem _ kw_844)) (fun _ h9 => h9) rfl d_Model_end_37 ?_
     refine lv_iload_n hx hb d_Model_end_40 rfl (lv_at hl 1 rfl) ?_
     refine va_iald hx hb hK hP 5 0 rw_at_5 rfl h.1 d_Model_end_41 ?_
     have h := h.2
     refine lv_icmp_ne (tgt := 103) hx hb d_Model_end_42 (by decide) (fun c3 => ?_) (fun c3 => ?_)
     · have h := h.2 c3
       obtain ⟨t4, et4⟩ : ∃ y : Int32, y = x4 + 1 := ⟨_, rfl⟩
       have h := h t4 et4
       refine lv_iinc (v := t4) (lv' := [(4, .int t4), (0, .ref (a 0)), (1, .int x1), (2, .int x2), (3, .int x3)]) hx hb d_Model_end_103 hl (k := 4) rfl (by rw [et4]; rfl) (by decide) rfl (fun ls hl => ?_)
       refine lv_goto (tgt := 15) hx hb d_Model_end_106 (by decide) ?_
       exact ih x1 x2 x3 t4 u _ _ _ hP hS (lv_sub hl [1, 2, 3, 4, 0] rfl) h
     · have h := h.1 c3
       refine lv_iload_n hx hb d_Model_end_45 rfl (lv_at hl 2 rfl) ?_
       refine lv_iconst (v := 2) hx hb d_Model_end_46 (by decide) ?_
       refine lv_irem hx hb d_Model_end_47 (by decide) ?_
       refine lv_if_ne (tgt := 61) hx hb d_Model_end_48 (by decide) (fun c5 => ?_) (fun c5 => ?_)
       · have h := h.2 c5
         refine lv_iload hx hb d_Model_end_61 (lv_at hl 4 rfl) ?_
         refine lv_aload_n hx hb d_Model_end_63 rfl (lv_at hl 0 rfl) ?_
         refine va_get (D := D) (ci := 1) (v := .int (G.2.1 0)) (C := R_Model) (T := T_Model) (N := 23) hx hb hts in_Model hown hK hP 0 rw_at_0 rfl 1 (by decide) (hts _ (List.mem_cons_of_mem _ kw_836)) (fun _ h9 => h9) rfl d_Model_end_64 ?_
         refine lv_idiv hx hb d_Model_end_67 h.1 ?_
         have h := h.2
         exact cp_Model_end_68 C K ih x1 x2 x3 x4 (x4 / (G.2.1 0)) u _ _ _ hP hS (lv_sub hl [0, 1, 2, 3, 4] rfl) h
       · have h := h.1 c5
         refine lv_iload hx hb d_Model_end_51 (lv_at hl 4 rfl) ?_
         refine lv_aload_n hx hb d_Model_end_53 rfl (lv_at hl 0 rfl) ?_
         refine va_get (D := D) (ci := 1) (v := .int (G.2.1 0)) (C := R_Model) (T := T_Model) (N := 23) hx hb hts in_Model hown hK hP 0 rw_at_0 rfl 1 (by decide) (hts _ (List.mem_cons_of_mem _ kw_836)) (fun _ h9 => h9) rfl d_Model_end_54 ?_
         refine lv_irem hx hb d_Model_end_57 h.1 ?_
         have h := h.2
         refine lv_goto (tgt := 68) hx hb d_Model_end_58 (by decide) ?_
         exact cp_Model_end_68 C K ih x1 x2 x3 x4 (x4 - x4 / (G.2.1 0) * (G.2.1 0)) u _ _ _ hP hS (lv_sub hl [0, 1, 2, 3, 4] rfl) h
set_option maxHeartbeats 4000000 in
set_option maxRecDepth 100000 in
theorem st_Model_end {p : Program} {l : Launch} {e : Env} {s : State} {m : MethodId} {args : Array Value} {below : List Frame} {meth : Method} {c : Code} {D : va_G} {a : Nat → Nat} {cA cZ : ClassId} {G : pG} {A : Nat → Prop} {Q : Int32 → pS → Prop} (C : pw_C p s m args meth c b_Model_end 6 R_Model (some .int) w_Model_end A) (K : pw_K s D 15 a (rT cA cZ) A) (x1 x2 : Int32) (u : pS) (ls : Array Slot) (hP : va_P D vwCl (rw a cA cZ G u) s.heap) (hl : lv_has ls 6 [(0, .ref (a 0)), (1, .int x1), (2, .int x2)]) (h : wp_Model_end G x1 x2 u Q) : W p l e ({ frames := 0, cells := 0, slots := 0, locals := 0 } : Room) s m args below meth c s.heap [] 0 0 (pw_Ei below args s D (rw a cA cZ G) (rT cA cZ) A Q) (F0 m 0 ls []) := by
 obtain ⟨hx, hb, hr, hml, hown, hts, hlocks, hA⟩ := id C
 obtain ⟨hK, hI, hF⟩ := id K
 have hD : ∀ u, va_D A (rw a cA cZ G u) := fun u => rw_D hI hF
 have hS : va_S A s.heap s.heap [] := va_S.rf
 have h : wp_Model_end G x1 x2 u Q := h
 refine lv_iload_n hx hb d_Model_end_0 rfl (lv_at hl 2 rfl) ?_
 refine lv_iconst (v := 2) hx hb d_Model_end_1 (by decide) ?_
 refine lv_icmp_ge (tgt := 10) hx hb d_Model_end_2 (by decide) (fun c1 => ?_) (fun c1 => ?_)
 · have h := h.1 c1
   refine lv_iconst (v := -1) hx hb d_Model_end_10 (by decide) ?_
   refine lv_istore_n (lv' := [(3, .int (-1)), (0, .ref (a 0)), (1, .int x1), (2, .int x2)]) hx hb d_Model_end_11 rfl hl (by decide) rfl (fun ls hl => ?_)
   refine lv_iconst (v := 0) hx hb d_Model_end_12 (by decide) ?_
   refine lv_istore (lv' := [(4, .int 0), (3, .int (-1)), (0, .ref (a 0)), (1, .int x1), (2, .int x2)]) hx hb d_Model_end_13 hl (by decide) rfl (fun ls hl => ?_)
   obtain ⟨n1, h⟩ := h
   exact cp_Model_end_15 C K n1 x1 x2 (-1) 0 u _ _ _ hP hS (lv_sub hl [2, 3, 4, 1, 0] rfl) h
 · have h := h.2 c1
   refine lv_bipush (v := 100) hx hb d_Model_end_5 (by decide) ?_
   refine lv_goto (tgt := 11) hx hb d_Model_end_7 (by decide) ?_
   refine lv_istore_n (lv' := [(3, .int 100), (0, .ref (a 0)), (1, .int x1), (2, .int x2)]) hx hb d_Model_end_11 rfl hl (by decide) rfl (fun ls hl => ?_)
   refine lv_iconst (v := 0) hx hb d_Model_end_12 (by decide) ?_
   refine lv_istore (lv' := [(4, .int 0), (3, .int 100), (0, .ref (a 0)), (1, .int x1), (2, .int x2)]) hx hb d_Model_end_13 hl (by decide) rfl (fun ls hl => ?_)
   obtain ⟨n1, h⟩ := h
   exact cp_Model_end_15 C K n1 x1 x2 100 0 u _ _ _ hP hS (lv_sub hl [2, 3, 4, 1, 0] rfl) h
set_option maxHeartbeats 4000000 in
set_option maxRecDepth 100000 in
theorem ct_Model_end (l : Launch) (D : va_G) (a : Nat → Nat) (cA cZ : ClassId) (G : pG) (sz : Nat) (x1 x2 : Int32) (u : pS) (Q : Int32 → pS → Prop) (hI : pw_I 15 a) (h : wp_Model_end G x1 x2 u Q) : Met l y_Model_end w_Model_end ({ frames := 0, cells := 0, slots := 0, locals := 0 } : Room) (va_Pc [.ref (a 0), .int x1, .int x2] (pw_pre D (rw a cA cZ G) (rT cA cZ) sz u)) (va_Qi (fun (r : Int32) (u : pS) => Q r u) (pw_B D (rw a cA cZ G) (rT cA cZ)) (pw_F 15 a sz)) 0 0 (pw_F 15 a sz) := by
 refine Met.ofW (cc := b_Model_end) (maxL := 6) (ret := (some .int)) (by decide) rfl ?_
 intro p e s m args below meth c s₁ B hml hv
 obtain ⟨rfl, hsz, hP, hK⟩ := hv
 subst hsz
 have hl := lv_entry ([.ref (a 0), .int x1, .int x2]) (n := 6) (Nat.le_of_ble_eq_true rfl)
 rw [lg_entry_eq]
 generalize (lg_sl ([.ref (a 0), .int x1, .int x2]) ++ List.replicate (6 - (lg_sl ([.ref (a 0), .int x1, .int x2])).length) Slot.unset).toArray = ls at hl ⊢
 exact st_Model_end (A := (pw_F 15 a s.heap.size)) ⟨B.exec, B.bytes, B.returns, hml, findClass_of_methodNamed B.named, atoms_spec (ws := w_Model_end) B.pre, B.notSynchronized, fun q hq => Or.inr hq⟩ ⟨hK, hI, fun k hk => Or.inl ⟨k, hk, rfl⟩⟩ x1 x2 u ls hP hl h
