set_option maxHeartbeats 4000000 in
set_option maxRecDepth 100000 in
theorem st_Pieces_include {p : Program} {l : Launch} {e : Env} {s : State} {m : MethodId} {args : Array Value} {below : List Frame} {meth : Method} {c : Code} {D : va_G} {a : Nat → Nat} {cA cZ : ClassId} {G : pG} {A : Nat → Prop} {Q : pS → Prop} (C : pw_C p s m args meth c b_Pieces_include 3 R_Pieces none w_Pieces_include A) (K : pw_K s D 40 a (cT cA cZ) A) (x1 x2 : Int32) (u : pS) (ls : Array Slot) (hP : va_P D vwCl (cw a cA cZ G u) s.heap) (hl : lv_has ls 3 [(0, .ref (a 4)), (1, .int x1), (2, .int x2)]) (h : wp_Pieces_include G x1 x2 u Q) : W p l e ({ frames := 1, cells := 0, slots := 0, locals := 21 } : Room) s m args below meth c s.heap [] 0 0 (pw_Ev below args s D (cw a cA cZ G) (cT cA cZ) A Q) (F0 m 0 ls []) := by
 obtain ⟨hx, hb, hr, hml, hown, hts, hlocks, hA⟩ := id C
 obtain ⟨hK, hI, hF⟩ := id K
 have hD : ∀ u, va_D A (cw a cA cZ G u) := fun u => cw_D hI hF
 have hS : va_S A s.heap s.heap [] := va_S.rf
 have h : wp_Pieces_include G x1 x2 u Q := h
 refine lv_aload_n hx hb d_Pieces_include_0 rfl (lv_at hl 0 rfl) ?_
 refine va_get (D := D) (ci := 7) (v := .ref (a 25)) (C := R_Pieces) (T := T_Pieces) (N := 11) hx hb hts in_Pieces hown hK hP 4 cw_at_4 rfl 6 (by decide) (hts _ (List.mem_cons_of_mem _ kw_157)) (fun _ h9 => h9) rfl d_Pieces_include_1 ?_
 refine lv_iload_n hx hb d_Pieces_include_4 rfl (lv_at hl 2 rfl) ?_
 refine lv_dup2_11 hx hb d_Pieces_include_5 rfl rfl ?_
 refine va_iald hx hb hK hP 25 0 cw_at_25 rfl h.1 d_Pieces_include_6 ?_
 have h := h.2
 refine lv_iconst (v := 1) hx hb d_Pieces_include_7 (by decide) ?_
 refine lv_iadd hx hb d_Pieces_include_8 ?_
 refine va_iast hx hb hK hP (hD _) hS 25 0 cw_at_25 rfl h.1 d_Pieces_include_9 (fun H locs hP _ hS => ?_)
 obtain ⟨u1, eu1⟩ : ∃ z, z = pw_sa u 11 (upd (u.2 11) x2.toNatClampNeg ((u.2 11 x2.toNatClampNeg) + 1)) := ⟨_, rfl⟩
 rw [cw_sa_25, ← eu1] at hP
 have h := h.2 u1 eu1
 refine lv_aload_n hx hb d_Pieces_include_10 rfl (lv_at hl 0 rfl) ?_
 refine va_get (D := D) (ci := 7) (v := .ref (a 26)) (C := R_Pieces) (T := T_Pieces) (N := 11) hx hb hts in_Pieces hown hK hP 4 cw_at_4 rfl 7 (by decide) (hts _ (List.mem_cons_of_mem _ kw_158)) (fun _ h9 => h9) rfl d_Pieces_include_11 ?_
 refine lv_iload_n hx hb d_Pieces_include_14 rfl (lv_at hl 2 rfl) ?_
 refine lv_aload_n hx hb d_Pieces_include_15 rfl (lv_at hl 0 rfl) ?_
 refine va_get (D := D) (ci := 7) (v := .ref (a 26)) (C := R_Pieces) (T := T_Pieces) (N := 11) hx hb hts in_Pieces hown hK hP 4 cw_at_4 rfl 7 (by decide) (hts _ (List.mem_cons_of_mem _ kw_158)) (fun _ h9 => h9) rfl d_Pieces_include_16 ?_
 refine lv_iload_n hx hb d_Pieces_include_19 rfl (lv_at hl 2 rfl) ?_
 refine va_iald hx hb hK hP 26 0 cw_at_26 rfl h.1 d_Pieces_include_20 ?_
 have h := h.2
 refine lv_aload_n hx hb d_Pieces_include_21 rfl (lv_at hl 0 rfl) ?_
 refine va_get (D := D) (ci := 7) (v := .ref (a 1)) (C := R_Pieces) (T := T_Pieces) (N := 11) hx hb hts in_Pieces hown hK hP 4 cw_at_4 rfl 0 (by decide) (hts _ (List.mem_cons_of_mem _ kw_151)) (fun _ h9 => h9) rfl d_Pieces_include_22 ?_
 refine lv_iload_n hx hb d_Pieces_include_25 rfl (lv_at hl 1 rfl) ?_
 refine cc_i (va_runV (As := [.int x1]) (rest := [.int (u1.2 12 x2.toNatClampNeg), .int x2, .ref (a 26)]) ⟨hx, hb, hml, hown, hts⟩ (ct_Grid_columnOf l D a cA cZ G _ x1 u1 _ hI h) (pw_cwV 1 hts kw_513 kw_46 kw_510 kw_511 kw_512 (by decide +kernel) ⟨Nat.le_of_ble_eq_true rfl, Nat.le_of_ble_eq_true rfl⟩) ⟨pw_blind, va_recv hK hP (ci := 4) (q0 := 1) rfl cw_at_1, fun U hU hW => ⟨rfl, by rw [hU], by rw [hU]; exact hP, va_K.moved hW.alike hK⟩⟩ rfl rfl hl.1 rfl (lv_room (Nat.le_of_ble_eq_true rfl)) d_Pieces_include_26 ⟨Nat.le_of_ble_eq_true rfl, Nat.le_of_ble_eq_true rfl⟩) hS hF hA (fun r3 u2 H locs hP hS h => ?_)
 refine va_mmin hx hb (by rw [hml]; exact hl.1.symm) hown (hts _ (List.mem_cons_of_mem _ kw_522)) (hts _ (List.mem_cons_of_mem _ kw_80)) (hts _ (List.mem_cons_of_mem _ kw_47)) (hts _ (List.mem_cons_of_mem _ kw_81)) (Nat.le_of_ble_eq_true rfl) (Nat.le_of_ble_eq_true rfl) (Nat.le_of_ble_eq_true rfl) (Nat.le_of_ble_eq_true rfl) d_Pieces_include_29 ?_
 refine lv_topi (fun t4 et4 => ?_)
 have h := h t4 et4
 refine va_iast hx hb hK hP (hD _) hS 26 0 cw_at_26 rfl h.1 d_Pieces_include_32 (fun H locs hP _ hS => ?_)
 obtain ⟨u5, eu5⟩ : ∃ z, z = pw_sa u2 12 (upd (u2.2 12) x2.toNatClampNeg t4) := ⟨_, rfl⟩
 rw [cw_sa_26, ← eu5] at hP
 have h := h.2 u5 eu5
 refine lv_aload_n hx hb d_Pieces_include_33 rfl (lv_at hl 0 rfl) ?_
 refine va_get (D := D) (ci := 7) (v := .ref (a 27)) (C := R_Pieces) (T := T_Pieces) (N := 11) hx hb hts in_Pieces hown hK hP 4 cw_at_4 rfl 8 (by decide) (hts _ (List.mem_cons_of_mem _ kw_159)) (fun _ h9 => h9) rfl d_Pieces_include_34 ?_
 refine lv_iload_n hx hb d_Pieces_include_37 rfl (lv_at hl 2 rfl) ?_
 refine lv_aload_n hx hb d_Pieces_include_38 rfl (lv_at hl 0 rfl) ?_
 refine va_get (D := D) (ci := 7) (v := .ref (a 27)) (C := R_Pieces) (T := T_Pieces) (N := 11) hx hb hts in_Pieces hown hK hP 4 cw_at_4 rfl 8 (by decide) (hts _ (List.mem_cons_of_mem _ kw_159)) (fun _ h9 => h9) rfl d_Pieces_include_39 ?_
 refine lv_iload_n hx hb d_Pieces_include_42 rfl (lv_at hl 2 rfl) ?_
 refine va_iald hx hb hK hP 27 0 cw_at_27 rfl h.1 d_Pieces_include_43 ?_
 have h := h.2
 refine lv_aload_n hx hb d_Pieces_include_44 rfl (lv_at hl 0 rfl) ?_
 refine va_get (D := D) (ci := 7) (v := .ref (a 1)) (C := R_Pieces) (T := T_Pieces) (N := 11) hx hb hts in_Pieces hown hK hP 4 cw_at_4 rfl 0 (by decide) (hts _ (List.mem_cons_of_mem _ kw_151)) (fun _ h9 => h9) rfl d_Pieces_include_45 ?_
 refine lv_iload_n hx hb d_Pieces_include_48 rfl (lv_at hl 1 rfl) ?_
 refine cc_i (va_runV (As := [.int x1]) (rest := [.int (u5.2 13 x2.toNatClampNeg), .int x2, .ref (a 27)]) ⟨hx, hb, hml, hown, hts⟩ (ct_Grid_columnOf l D a cA cZ G _ x1 u5 _ hI h) (pw_cwV 1 hts kw_513 kw_46 kw_510 kw_511 kw_512 (by decide +kernel) ⟨Nat.le_of_ble_eq_true rfl, Nat.le_of_ble_eq_true rfl⟩) ⟨pw_blind, va_recv hK hP (ci := 4) (q0 := 1) rfl cw_at_1, fun U hU hW => ⟨rfl, by rw [hU], by rw [hU]; exact hP, va_K.moved hW.alike hK⟩⟩ rfl rfl hl.1 rfl (lv_room (Nat.le_of_ble_eq_true rfl)) d_Pieces_include_49 ⟨Nat.le_of_ble_eq_true rfl, Nat.le_of_ble_eq_true rfl⟩) hS hF hA (fun r7 u6 H locs hP hS h => ?_)
 refine va_mmax hx hb (by rw [hml]; exact hl.1.symm) hown (hts _ (List.mem_cons_of_mem _ kw_523)) (hts _ (List.mem_cons_of_mem _ kw_83)) (hts _ (List.mem_cons_of_mem _ kw_47)) (hts _ (List.mem_cons_of_mem _ kw_84)) (Nat.le_of_ble_eq_true rfl) (Nat.le_of_ble_eq_true rfl) (Nat.le_of_ble_eq_true rfl) (Nat.le_of_ble_eq_true rfl) d_Pieces_include_52 ?_
 refine lv_topi (fun t8 et8 => ?_)
 have h := h t8 et8
 refine va_iast hx hb hK hP (hD _) hS 27 0 cw_at_27 rfl h.1 d_Pieces_include_55 (fun H locs hP _ hS => ?_)
 obtain ⟨u9, eu9⟩ : ∃ z, z = pw_sa u6 13 (upd (u6.2 13) x2.toNatClampNeg t8) := ⟨_, rfl⟩
 rw [cw_sa_27, ← eu9] at hP
 have h := h.2 u9 eu9
 refine lv_aload_n hx hb d_Pieces_include_56 rfl (lv_at hl 0 rfl) ?_
 refine va_get (D := D) (ci := 7) (v := .ref (a 28)) (C := R_Pieces) (T := T_Pieces) (N := 11) hx hb hts in_Pieces hown hK hP 4 cw_at_4 rfl 9 (by decide) (hts _ (List.mem_cons_of_mem _ kw_160)) (fun _ h9 => h9) rfl d_Pieces_include_57 ?_
 refine lv_iload_n hx hb d_Pieces_include_60 rfl (lv_at hl 2 rfl) ?_
 refine lv_aload_n hx hb d_Pieces_include_61 rfl (lv_at hl 0 rfl) ?_
 refine va_get (D := D) (ci := 7) (v := .ref (a 28)) (C := R_Pieces) (T := T_Pieces) (N := 11) hx hb hts in_Pieces hown hK hP 4 cw_at_4 rfl 9 (by decide) (hts _ (List.mem_cons_of_mem _ kw_160)) (fun _ h9 => h9) rfl d_Pieces_include_62 ?_
 refine lv_iload_n hx hb d_Pieces_include_65 rfl (lv_at hl 2 rfl) ?_
 refine va_iald hx hb hK hP 28 0 cw_at_28 rfl h.1 d_Pieces_include_66 ?_
 have h := h.2
 refine lv_aload_n hx hb d_Pieces_include_67 rfl (lv_at hl 0 rfl) ?_
 refine va_get (D := D) (ci := 7) (v := .ref (a 1)) (C := R_Pieces) (T := T_Pieces) (N := 11) hx hb hts in_Pieces hown hK hP 4 cw_at_4 rfl 0 (by decide) (hts _ (List.mem_cons_of_mem _ kw_151)) (fun _ h9 => h9) rfl d_Pieces_include_68 ?_
 refine lv_iload_n hx hb d_Pieces_include_71 rfl (lv_at hl 1 rfl) ?_
 refine cc_i (va_runV (As := [.int x1]) (rest := [.int (u9.2 14 x2.toNatClampNeg), .int x2, .ref (a 28)]) ⟨hx, hb, hml, hown, hts⟩ (ct_Grid_rowOf l D a cA cZ G _ x1 u9 _ hI h) (pw_cwV 1 hts kw_517 kw_46 kw_514 kw_515 kw_516 (by decide +kernel) ⟨Nat.le_of_ble_eq_true rfl, Nat.le_of_ble_eq_true rfl⟩) ⟨pw_blind, va_recv hK hP (ci := 4) (q0 := 1) rfl cw_at_1, fun U hU hW => ⟨rfl, by rw [hU], by rw [hU]; exact hP, va_K.moved hW.alike hK⟩⟩ rfl rfl hl.1 rfl (lv_room (Nat.le_of_ble_eq_true rfl)) d_Pieces_include_72 ⟨Nat.le_of_ble_eq_true rfl, Nat.le_of_ble_eq_true rfl⟩) hS hF hA (fun r11 u10 H locs hP hS h => ?_)
 refine va_mmax hx hb (by rw [hml]; exact hl.1.symm) hown (hts _ (List.mem_cons_of_mem _ kw_523)) (hts _ (List.mem_cons_of_mem _ kw_83)) (hts _ (List.mem_cons_of_mem _ kw_47)) (hts _ (List.mem_cons_of_mem _ kw_84)) (Nat.le_of_ble_eq_true rfl) (Nat.le_of_ble_eq_true rfl) (Nat.le_of_ble_eq_true rfl) (Nat.le_of_ble_eq_true rfl) d_Pieces_include_75 ?_
 refine lv_topi (fun t12 et12 => ?_)
 have h := h t12 et12
 refine va_iast hx hb hK hP (hD _) hS 28 0 cw_at_28 rfl h.1 d_Pieces_include_78 (fun H locs hP _ hS => ?_)
 obtain ⟨u13, eu13⟩ : ∃ z, z = pw_sa u10 14 (upd (u10.2 14) x2.toNatClampNeg t12) := ⟨_, rfl⟩
 rw [cw_sa_28, ← eu13] at hP
 have h := h.2 u13 eu13
 exact W.vret hx hb hr (fun t ht hW => ⟨⟨u13, rfl, h, by rw [ht]; exact hP, va_K.moved hW.alike hK⟩, hS.F ht⟩) hS.2.2 d_Pieces_include_79 hlocks
set_option maxHeartbeats 4000000 in
set_option maxRecDepth 100000 in
theorem ct_Pieces_include (l : Launch) (D : va_G) (a : Nat → Nat) (cA cZ : ClassId) (G : pG) (sz : Nat) (x1 x2 : Int32) (u : pS) (Q : pS → Prop) (hI : pw_I 40 a) (h : wp_Pieces_include G x1 x2 u Q) : Met l y_Pieces_include w_Pieces_include ({ frames := 1, cells := 0, slots := 0, locals := 21 } : Room) (va_Pc [.ref (a 4), .int x1, .int x2] (pw_pre D (cw a cA cZ G) (cT cA cZ) sz u)) (va_Qv (fun (u : pS) => Q u) (pw_B D (cw a cA cZ G) (cT cA cZ)) (pw_F 40 a sz)) 0 0 (pw_F 40 a sz) := by
 refine Met.ofW (cc := b_Pieces_include) (maxL := 3) (ret := none) (by decide) rfl ?_
 intro p e s m args below meth c s₁ B hml hv
 obtain ⟨rfl, hsz, hP, hK⟩ := hv
 subst hsz
 have hl := lv_entry ([.ref (a 4), .int x1, .int x2]) (n := 3) (Nat.le_of_ble_eq_true rfl)
 rw [lg_entry_eq]
 generalize (lg_sl ([.ref (a 4), .int x1, .int x2]) ++ List.replicate (3 - (lg_sl ([.ref (a 4), .int x1, .int x2])).length) Slot.unset).toArray = ls at hl ⊢
 exact st_Pieces_include (A := (pw_F 40 a s.heap.size)) ⟨B.exec, B.bytes, B.returns, hml, findClass_of_methodNamed B.named, atoms_spec (ws := w_Pieces_include) B.pre, B.notSynchronized, fun q hq => Or.inr hq⟩ ⟨hK, hI, fun k hk => Or.inl ⟨k, hk, rfl⟩⟩ x1 x2 u ls hP hl h
set_option maxHeartbeats 4000000 in
set_option maxRecDepth 100000 in
theorem cp_Pieces_gather_62 {p : Program} {l : Launch} {e : Env} {s : State} {m : MethodId} {args : Array Value} {below : List Frame} {meth : Method} {c : Code} {D : va_G} {a : Nat → Nat} {cA cZ : ClassId} {G : pG} {A : Nat → Prop} {Q : pS → Prop} (C : pw_C p s m args meth c b_Pieces_gather 8 R_Pieces none w_Pieces_gather A) (K : pw_K s D 40 a (cT cA cZ) A) {k25 : Int32 → Int32 → Int32 → Int32 → pS → Prop} (hk25 : ∀ (x1 x2 x3 x4 : Int32) (u : pS) (H : Heap) (locs : List Loc) (ls : Array Slot), va_P D vwCl (cw a cA cZ G u) H → va_S A s.heap H locs → lv_has ls 8 [(0, .ref (a 4)), (1, .int x1), (2, .int x2), (3, .int x3), (4, .int x4)] → k25 x1 x2 x3 x4 u → W p l e ({ frames := 2, cells := 0, slots := 0, locals := 43 } : Room) s m args below meth c H locs 0 0 (pw_Ev below args s D (cw a cA cZ G) (cT cA cZ) A Q) (F0 m 25 ls [])) : ∀ (n : Nat), ∀ (x1 x2 x3 x4 x5 x6 : Int32) (u : pS) (H : Heap) (locs : List Loc) (ls : Array Slot), va_P D vwCl (cw a cA cZ G u) H → va_S A s.heap H locs → lv_has ls 8 [(0, .ref (a 4)), (1, .int x1), (2, .int x2), (3, .int x3), (4, .int x4), (5, .int x5), (6, .int x6)] → lp_Pieces_gather_62 G Q k25 n x1 x2 x3 x4 x5 x6 u → W p l e ({ frames := 2, cells := 0, slots := 0, locals := 43 } : Room) s m args below meth c H locs 0 0 (pw_Ev below args s D (cw a cA cZ G) (cT cA cZ) A Q) (F0 m 62 ls []) := by
 obtain ⟨hx, hb, hr, hml, hown, hts, hlocks, hA⟩ := id C
 obtain ⟨hK, hI, hF⟩ := id K
 have hD : ∀ u, va_D A (cw a cA cZ G u) := fun u => cw_D hI hF
 intro n
 induction n with
 | zero => intro x1 x2 x3 x4 x5 x6 u H locs ls hP hS hl h; exact h.elim
 | succ n ih =>
   intro x1 x2 x3 x4 x5 x6 u H locs ls hP hS hl h
   refine lv_iload hx hb d_Pieces_gather_62 (lv_at hl 6 rfl) ?_
   refine lv_iconst (v := 4) hx hb d_Pieces_gather_64 (by decide) ?_
   refine lv_icmp_ge (tgt := 150) hx hb d_Pieces_gather_65 (by decide) (fun c8 => ?_) (fun c8 => ?_)
   · have h := h.1 c8
     obtain ⟨t9, et9⟩ : ∃ y : Int32, y = x4 + 1 := ⟨_, rfl⟩
     have h := h t9 et9
     refine lv_iinc (v := t9) (lv' := [(4, .int t9), (0, .ref (a 4)), (1, .int x1), (2, .int x2), (3, .int x3), (5, .int x5), (6, .int x6)]) hx hb d_Pieces_gather_150 hl (k := 4) rfl (by rw [et9]; rfl) (by decide) rfl (fun ls hl => ?_)
     refine lv_goto (tgt := 25) hx hb d_Pieces_gather_153 (by decide) ?_
     exact hk25 x1 x2 x3 t9 u _ _ _ hP hS (lv_sub hl [1, 2, 3, 4, 0] rfl) h
   · have h := h.2 c8
     refine lv_aload_n hx hb d_Pieces_gather_68 rfl (lv_at hl 0 rfl) ?_
     refine va_get (D := D) (ci := 7) (v := .ref (a 1)) (C := R_Pieces) (T := T_Pieces) (N := 11) hx hb hts in_Pieces hown hK hP 4 cw_at_4 rfl 0 (by decide) (hts _ (List.mem_cons_of_mem _ kw_151)) (fun _ h9 => h9) rfl d_Pieces_gather_69 ?_
     refine lv_iload hx hb d_Pieces_gather_72 (lv_at hl 5 rfl) ?_
     refine lv_iload hx hb d_Pieces_gather_74 (lv_at hl 6 rfl) ?_
     refine cc_i (va_runV (As := [.int x5, .int x6]) (rest := []) ⟨hx, hb, hml, hown, hts⟩ (ct_Grid_besideOf l D a cA cZ G _ x5 x6 u _ hI h) (pw_cwV 2 hts kw_527 kw_46 kw_524 kw_525 kw_526 (by decide +kernel) ⟨Nat.le_of_ble_eq_true rfl, Nat.le_of_ble_eq_true rfl⟩) ⟨pw_blind, va_recv hK hP (ci := 4) (q0 := 1) rfl cw_at_1, fun U hU hW => ⟨rfl, by rw [hU], by rw [hU]; exact hP, va_K.moved hW.alike hK⟩⟩ rfl rfl hl.1 rfl (lv_room (Nat.le_of_ble_eq_true rfl)) d_Pieces_gather_76 ⟨Nat.le_of_ble_eq_true rfl, Nat.le_of_ble_eq_true rfl⟩) hS hF hA (fun r11 u10 H locs hP hS h => ?_)
     refine lv_istore (lv' := [(7, .int r11), (0, .ref (a 4)), (1, .int x1), (2, .int x2), (3, .int x3), (4, .int x4), (5, .int x5), (6, .int x6)]) hx hb d_Pieces_gather_79 hl (by decide) rfl (fun ls hl => ?_)
     refine lv_iload hx hb d_Pieces_gather_81 (lv_at hl 0 rfl) ?_
     refine lv_iconst (v := -1) hx hb d_Pieces_gather_83 (by decide) ?_
     refine lv_icmp_eq (tgt := 144) hx hb d_Pieces_gather_84 (by decide) (fun c12 => ?_) (fun c12 => ?_)
     · have h := h.1 c12
       obtain ⟨t13, et13⟩ : ∃ y : Int32, y = x6 + 1 := ⟨_, rfl⟩
       have h := h t13 et13
       refine lv_iinc (v := t13) (lv' := [(6, .int t13), (7, .int r11), (0, .ref (a 4)), (1, .int x1), (2, .int x2), (3, .int x3), (4, .int x4), (5, .int x5)]) hx hb d_Pieces_gather_144 hl (k := 7) rfl (by rw [et13]; rfl) (by decide) rfl (fun ls hl => ?_)
       refine lv_goto (tgt := 62) hx hb d_Pieces_gather_147 (by decide) ?_
       exact ih x1 x2 x3 x4 x5 t13 u10 _ _ _ hP hS (lv_sub hl [2, 3, 4, 5, 6, 7, 0] rfl) h
     · have h := h.2 c12
       refine lv_aload_n hx hb d_Pieces_gather_87 rfl (lv_at hl 1 rfl) ?_
       refine va_get (D := D) (ci := 7) (v := .ref (a 21)) (C := R_Pieces) (T := T_Pieces) (N := 11) hx hb hts in_Pieces hown hK hP 4 cw_at_4 rfl 2 (by decide) (hts _ (List.mem_cons_of_mem _ kw_153)) (fun _ h9 => h9) rfl d_Pieces_gather_88 ?_
       refine lv_iload hx hb d_Pieces_gather_91 (lv_at hl 0 rfl) ?_
       refine va_iald hx hb hK hP 21 0 cw_at_21 rfl h.1 d_Pieces_gather_93 ?_
       have h := h.2
       refine lv_iconst (v := -1) hx hb d_Pieces_gather_94 (by decide) ?_
       refine lv_icmp_ne (tgt := 144) hx hb d_Pieces_gather_95 (by decide) (fun c14 => ?_) (fun c14 => ?_)
       · have h := h.2 c14
         obtain ⟨t15, et15⟩ : ∃ y : Int32, y = x6 + 1 := ⟨_, rfl⟩
         have h := h t15 et15
         refine lv_iinc (v := t15) (lv' := [(6, .int t15), (7, .int r11), (0, .ref (a 4)), (1, .int x1), (2, .int x2), (3, .int x3), (4, .int x4), (5, .int x5)]) hx hb d_Pieces_gather_144 hl (k := 7) rfl (by rw [et15]; rfl) (by decide) rfl (fun ls hl => ?_)
         refine lv_goto (tgt := 62) hx hb d_Pieces_gather_147 (by decide) ?_
         exact ih x1 x2 x3 x4 x5 t15 u10 _ _ _ hP hS (lv_sub hl [2, 3, 4, 5, 6, 7, 0] rfl) h
       · have h := h.1 c14
         refine lv_aload_n hx hb d_Pieces_gather_98 rfl (lv_at hl 1 rfl) ?_
         refine va_get (D := D) (ci := 7) (v := .ref (a 20)) (C := R_Pieces) (T := T_Pieces) (N := 11) hx hb hts in_Pieces hown hK hP 4 cw_at_4 rfl 1 (by decide) (hts _ (List.mem_cons_of_mem _ kw_152)) (fun _ h9 => h9) rfl d_Pieces_gather_99 ?_
         refine lv_iload hx hb d_Pieces_gather_102 (lv_at hl 0 rfl) ?_
         refine va_iald hx hb hK hP 20 0 cw_at_20 rfl h.1 d_Pieces_gather_104 ?_
         have h := h.2
         refine lv_aload_n hx hb d_Pieces_gather_105 rfl (lv_at hl 1 rfl) ?_
         refine va_get (D := D) (ci := 7) (v := .ref (a 20)) (C := R_Pieces) (T := T_Pieces) (N := 11) hx hb hts in_Pieces hown hK hP 4 cw_at_4 rfl 1 (by decide) (hts _ (List.mem_cons_of_mem _ kw_152)) (fun _ h9 => h9) rfl d_Pieces_gather_106 ?_
         refine lv_iload_n hx hb d_Pieces_gather_109 rfl (lv_at hl 2 rfl) ?_
         refine va_iald hx hb hK hP 20 0 cw_at_20 rfl h.1 d_Pieces_gather_110 ?_
         have h := h.2
         refine lv_icmp_ne (tgt := 144) hx hb d_Pieces_gather_111 (by decide) (fun c16 => ?_) (fun c16 => ?_)
         · have h := h.2 c16
           obtain ⟨t17, et17⟩ : ∃ y : Int32, y = x6 + 1 := ⟨_, rfl⟩
           have h := h t17 et17
           refine lv_iinc (v := t17) (lv' := [(6, .int t17), (7, .int r11), (0, .ref (a 4)), (1, .int x1), (2, .int x2), (3, .int x3), (4, .int x4), (5, .int x5)]) hx hb d_Pieces_gather_144 hl (k := 7) rfl (by rw [et17]; rfl) (by decide) rfl (fun ls hl => ?_)
           refine lv_goto (tgt := 62) hx hb d_Pieces_gather_147 (by decide) ?_
           exact ih x1 x2 x3 x4 x5 t17 u10 _ _ _ hP hS (lv_sub hl [2, 3, 4, 5, 6, 7, 0] rfl) h
         · have h := h.1 c16
           refine lv_iload_n hx hb d_Pieces_gather_114 rfl (lv_at hl 4 rfl) ?_
           refine lv_aload_n hx hb d_Pieces_gather_115 rfl (lv_at hl 1 rfl) ?_
           refine va_get (D := D) (ci := 7) (v := .ref (a 1)) (C := R_Pieces) (T := T_Pieces) (N := 11) hx hb hts in_Pieces hown hK hP 4 cw_at_4 rfl 0 (by decide) (hts _ (List.mem_cons_of_mem _ kw_151)) (fun _ h9 => h9) rfl d_Pieces_gather_116 ?_
           refine va_get (D := D) (ci := 4) (v := .int (G.2.1 3)) (C := R_Grid) (T := T_Grid) (N := 6) hx hb hts in_Grid hown hK hP 1 cw_at_1 rfl 2 (by decide) (hts _ (List.mem_cons_of_mem _ kw_107)) (fun _ h9 => h9) rfl d_Pieces_gather_119 ?_
           refine lv_icmp_ge (tgt := 144) hx hb d_Pieces_gather_122 (by decide) (fun c18 => ?_) (fun c18 => ?_)
           · have h := h.1 c18
             obtain ⟨t19, et19⟩ : ∃ y : Int32, y = x6 + 1 := ⟨_, rfl⟩
             have h := h t19 et19
             refine lv_iinc (v := t19) (lv' := [(6, .int t19), (7, .int r11), (0, .ref (a 4)), (1, .int x1), (2, .int x2), (3, .int x3), (4, .int x4), (5, .int x5)]) hx hb d_Pieces_gather_144 hl (k := 7) rfl (by rw [et19]; rfl) (by decide) rfl (fun ls hl => ?_)
             refine lv_goto (tgt := 62) hx hb d_Pieces_gather_147 (by decide) ?_
             exact ih x1 x2 x3 x4 x5 t19 u10 _ _ _ hP hS (lv_sub hl [2, 3, 4, 5, 6, 7, 0] rfl) h
           · have h := h.2 c18
             refine lv_aload_n hx hb d_Pieces_gather_125 rfl (lv_at hl 1 rfl) ?_
             refine va_get (D := D) (ci := 7) (v := .ref (a 21)) (C := R_Pieces) (T := T_Pieces) (N := 11) hx hb hts in_Pieces hown hK hP 4 cw_at_4 rfl 2 (by decide) (hts _ (List.mem_cons_of_mem _ kw_153)) (fun _ h9 => h9) rfl d_Pieces_gather_126 ?_
             refine lv_iload hx hb d_Pieces_gather_129 (lv_at hl 0 rfl) ?_
             refine lv_iload_n hx hb d_Pieces_gather_131 rfl (lv_at hl 3 rfl) ?_
             refine va_iast hx hb hK hP (hD _) hS 21 0 cw_at_21 rfl h.1 d_Pieces_gather_132 (fun H locs hP _ hS => ?_)
             obtain ⟨u20, eu20⟩ : ∃ z, z = pw_sa u10 7 (upd (u10.2 7) r11.toNatClampNeg x2) := ⟨_, rfl⟩
             rw [cw_sa_21, ← eu20] at hP
             have h := h.2 u20 eu20
             refine lv_aload_n hx hb d_Pieces_gather_133 rfl (lv_at hl 1 rfl) ?_
             refine va_get (D := D) (ci := 7) (v := .ref (a 22)) (C := R_Pieces) (T := T_Pieces) (N := 11) hx hb hts in_Pieces hown hK hP 4 cw_at_4 rfl 3 (by decide) (hts _ (List.mem_cons_of_mem _ kw_154)) (fun _ h9 => h9) rfl d_Pieces_gather_134 ?_
             refine lv_iload_n hx hb d_Pieces_gather_137 rfl (lv_at hl 4 rfl) ?_
             refine lv_iload hx hb d_Pieces_gather_138 (lv_at hl 0 rfl) ?_
             refine va_iast hx hb hK hP (hD _) hS 22 0 cw_at_22 rfl h.1 d_Pieces_gather_140 (fun H locs hP _ hS => ?_)
             obtain ⟨u21, eu21⟩ : ∃ z, z = pw_sa u20 8 (upd (u20.2 8) x3.toNatClampNeg r11) := ⟨_, rfl⟩
             rw [cw_sa_22, ← eu21] at hP
             have h := h.2 u21 eu21
             obtain ⟨t22, et22⟩ : ∃ y : Int32, y = x3 + 1 := ⟨_, rfl⟩
             have h := h t22 et22
             refine lv_iinc (v := t22) (lv' := [(3, .int t22), (7, .int r11), (0, .ref (a 4)), (1, .int x1), (2, .int x2), (4, .int x4), (5, .int x5), (6, .int x6)]) hx hb d_Pieces_gather_141 hl (k := 4) rfl (by rw [et22]; rfl) (by decide) rfl (fun ls hl => ?_)
             obtain ⟨t23, et23⟩ : ∃ y : Int32, y = x6 + 1 := ⟨_, rfl⟩
             have h := h t23 et23
             refine lv_iinc (v := t23) (lv' := [(6, .int t23), (3, .int t22), (7, .int r11), (0, .ref (a 4)), (1, .int x1), (2, .int x2), (4, .int x4), (5, .int x5)]) hx hb d_Pieces_gather_144 hl (k := 7) rfl (by rw [et23]; rfl) (by decide) rfl (fun ls hl => ?_)
             refine lv_goto (tgt := 62) hx hb d_Pieces_gather_147 (by decide) ?_
             exact ih x1 x2 t22 x4 x5 t23 u21 _ _ _ hP hS (lv_sub hl [3, 4, 5, 1, 6, 7, 0] rfl) h
set_option maxHeartbeats 4000000 in
set_option maxRecDepth 100000 in
theorem cp_Pieces_gather_25 {p : Program} {l : Launch} {e : Env} {s : State} {m : MethodId} {args : Array Value} {below : List Frame} {meth : Method} {c : Code} {D : va_G} {a : Nat → Nat} {cA cZ : ClassId} {G : pG} {A : Nat → Prop} {Q : pS → Prop} (C : pw_C p s m args meth c b_Pieces_gather 8 R_Pieces none w_Pieces_gather A) (K : pw_K s D 40 a (cT cA cZ) A) : ∀ (n : Nat), ∀ (x1 x2 x3 x4 : Int32) (u : pS) (H : Heap) (locs : List Loc) (ls : Array Slot), va_P D vwCl (cw a cA cZ G u) H → va_S A s.heap H locs → lv_has ls 8 [(0, .ref (a 4)), (1, .int x1), (2, .int x2), (3, .int x3), (4, .int x4)] → lp_Pieces_gather_25 G Q n x1 x2 x3 x4 u → W p l e ({ frames := 2, cells := 0, slots := 0, locals := 43 } : Room) s m args below meth c H locs 0 0 (pw_Ev below args s D (cw a cA cZ G) (cT cA cZ) A Q) (F0 m 25 ls []) := by
 obtain ⟨hx, hb, hr, hml, hown, hts, hlocks, hA⟩ := id C
 obtain ⟨hK, hI, hF⟩ := id K
 have hD : ∀ u, va_D A (cw a cA cZ G u) := fun u => cw_D hI hF
 intro n
 induction n with
 | zero => intro x1 x2 x3 x4 u H locs ls hP hS hl h; exact h.elim
 | succ n ih =>
   intro x1 x2 x3 x4 u H locs ls hP hS hl h
   refine lv_iload hx hb d_Pieces_gather_25 (lv_at hl 4 rfl) ?_
   refine lv_iload_n hx hb d_Pieces_gather_27 rfl (lv_at hl 3 rfl) ?_
   refine lv_icmp_ge (tgt := 156) hx hb d_Pieces_gather_28 (by decide) (fun c4 => ?_) (fun c4 => ?_)
   · have h := h.1 c4
     exact W.vret hx hb hr (fun t ht hW => ⟨⟨u, rfl, h, by rw [ht]; exact hP, va_K.moved hW.alike hK⟩, hS.F ht⟩) hS.2.2 d_Pieces_gather_156 hlocks
   · have h := h.2 c4
     refine lv_iload hx hb d_Pieces_gather_31 (lv_at hl 4 rfl) ?_
     refine lv_aload_n hx hb d_Pieces_gather_33 rfl (lv_at hl 0 rfl) ?_
     refine va_get (D := D) (ci := 7) (v := .ref (a 1)) (C := R_Pieces) (T := T_Pieces) (N := 11) hx hb hts in_Pieces hown hK hP 4 cw_at_4 rfl 0 (by decide) (hts _ (List.mem_cons_of_mem _ kw_151)) (fun _ h9 => h9) rfl d_Pieces_gather_34 ?_
     refine va_get (D := D) (ci := 4) (v := .int (G.2.1 3)) (C := R_Grid) (T := T_Grid) (N := 6) hx hb hts in_Grid hown hK hP 1 cw_at_1 rfl 2 (by decide) (hts _ (List.mem_cons_of_mem _ kw_107)) (fun _ h9 => h9) rfl d_Pieces_gather_37 ?_
     refine lv_icmp_ge (tgt := 156) hx hb d_Pieces_gather_40 (by decide) (fun c5 => ?_) (fun c5 => ?_)
     · have h := h.1 c5
       exact W.vret hx hb hr (fun t ht hW => ⟨⟨u, rfl, h, by rw [ht]; exact hP, va_K.moved hW.alike hK⟩, hS.F ht⟩) hS.2.2 d_Pieces_gather_156 hlocks
     · have h := h.2 c5
       refine lv_aload_n hx hb d_Pieces_gather_43 rfl (lv_at hl 0 rfl) ?_
       refine va_get (D := D) (ci := 7) (v := .ref (a 22)) (C := R_Pieces) (T := T_Pieces) (N := 11) hx hb hts in_Pieces hown hK hP 4 cw_at_4 rfl 3 (by decide) (hts _ (List.mem_cons_of_mem _ kw_154)) (fun _ h9 => h9) rfl d_Pieces_gather_44 ?_
       refine lv_iload hx hb d_Pieces_gather_47 (lv_at hl 4 rfl) ?_
       refine va_iald hx hb hK hP 22 0 cw_at_22 rfl h.1 d_Pieces_gather_49 ?_
       have h := h.2
       refine lv_topi (fun t6 et6 => ?_)
       have h := h t6 et6
       refine lv_istore (lv' := [(5, .int t6), (0, .ref (a 4)), (1, .int x1), (2, .int x2), (3, .int x3), (4, .int x4)]) hx hb d_Pieces_gather_50 hl (by decide) rfl (fun ls hl => ?_)
       refine lv_aload_n hx hb d_Pieces_gather_52 rfl (lv_at hl 1 rfl) ?_
       refine lv_iload hx hb d_Pieces_gather_53 (lv_at hl 0 rfl) ?_
       refine lv_iload_n hx hb d_Pieces_gather_55 rfl (lv_at hl 3 rfl) ?_
       refine cc_v (va_runV (As := [.int t6, .int x2]) (rest := []) ⟨hx, hb, hml, hown, hts⟩ (ct_Pieces_include l D a cA cZ G _ t6 x2 u _ hI h) (pw_cwV 2 hts kw_521 kw_49 kw_518 kw_520 kw_6 (by decide +kernel) ⟨Nat.le_of_ble_eq_true rfl, Nat.le_of_ble_eq_true rfl⟩) ⟨pw_blind, va_recv hK hP (ci := 7) (q0 := 4) rfl cw_at_4, fun U hU hW => ⟨rfl, by rw [hU], by rw [hU]; exact hP, va_K.moved hW.alike hK⟩⟩ rfl rfl hl.1 rfl (lv_room (Nat.le_of_ble_eq_true rfl)) d_Pieces_gather_56 ⟨Nat.le_of_ble_eq_true rfl, Nat.le_of_ble_eq_true rfl⟩) hS hF hA (fun u7 H locs hP hS h => ?_)
       refine lv_iconst (v := 0) hx hb d_Pieces_gather_59 (by decide) ?_
       refine lv_istore (lv' := [(6, .int 0), (5, .int t6), (0, .ref (a 4)), (1, .int x1), (2, .int x2), (3, .int x3), (4, .int x4)]) hx hb d_Pieces_gather_60 hl (by decide) rfl (fun ls hl => ?_)
       obtain ⟨n1, h⟩ := h
       exact cp_Pieces_gather_62 C K ih n1 x1 x2 x3 x4 t6 0 u7 _ _ _ hP hS (lv_sub hl [2, 3, 4, 5, 6, 1, 0] rfl) h
set_option maxHeartbeats 4000000 in
set_option maxRecDepth 100000 in
theorem st_Pieces_gather {p : Program} {l : Launch} {e : Env} {s : State} {m : MethodId} {args : Array Value} {below : List Frame} {meth : Method} {c : Code} {D : va_G} {a : Nat → Nat} {cA cZ : ClassId} {G : pG} {A : Nat → Prop} {Q : pS → Prop} (C : pw_C p s m args meth c b_Pieces_gather 8 R_Pieces none w_Pieces_gather A) (K : pw_K s D 40 a (cT cA cZ) A) (x1 x2 : Int32) (u : pS) (ls : Array Slot) (hP : va_P D vwCl (cw a cA cZ G u) s.heap) (hl : lv_has ls 8 [(0, .ref (a 4)), (1, .int x1), (2, .int x2)]) (h : wp_Pieces_gather G x1 x2 u Q) : W p l e ({ frames := 2, cells := 0, slots := 0, locals := 43 } : Room) s m args below meth c s.heap [] 0 0 (pw_Ev below args s D (cw a cA cZ G) (cT cA cZ) A Q) (F0 m 0 ls []) := by
 obtain ⟨hx, hb, hr, hml, hown, hts, hlocks, hA⟩ := id C
 obtain ⟨hK, hI, hF⟩ := id K
 have hD : ∀ u, va_D A (cw a cA cZ G u) := fun u => cw_D hI hF
 have hS : va_S A s.heap s.heap [] := va_S.rf
 have h : wp_Pieces_gather G x1 x2 u Q := h
 refine lv_aload_n hx hb d_Pieces_gather_0 rfl (lv_at hl 0 rfl) ?_
 refine lv_iload_n hx hb d_Pieces_gather_1 rfl (lv_at hl 1 rfl) ?_
 refine lv_iload_n hx hb d_Pieces_gather_2 rfl (lv_at hl 2 rfl) ?_
 refine cc_v (va_runV (As := [.int x1, .int x2]) (rest := []) ⟨hx, hb, hml, hown, hts⟩ (ct_Pieces_begin l D a cA cZ G _ x1 x2 u _ hI h) (pw_cwV 2 hts kw_509 kw_49 kw_506 kw_508 kw_5 (by decide +kernel) ⟨Nat.le_of_ble_eq_true rfl, Nat.le_of_ble_eq_true rfl⟩) ⟨pw_blind, va_recv hK hP (ci := 7) (q0 := 4) rfl cw_at_4, fun U hU hW => ⟨rfl, by rw [hU], by rw [hU]; exact hP, va_K.moved hW.alike hK⟩⟩ rfl rfl hl.1 rfl (lv_room (Nat.le_of_ble_eq_true rfl)) d_Pieces_gather_3 ⟨Nat.le_of_ble_eq_true rfl, Nat.le_of_ble_eq_true rfl⟩) hS hF hA (fun u1 H locs hP hS h => ?_)
 refine lv_aload_n hx hb d_Pieces_gather_6 rfl (lv_at hl 0 rfl) ?_
 refine va_get (D := D) (ci := 7) (v := .ref (a 21)) (C := R_Pieces) (T := T_Pieces) (N := 11) hx hb hts in_Pieces hown hK hP 4 cw_at_4 rfl 2 (by decide) (hts _ (List.mem_cons_of_mem _ kw_153)) (fun _ h9 => h9) rfl d_Pieces_gather_7 ?_
 refine lv_iload_n hx hb d_Pieces_gather_10 rfl (lv_at hl 1 rfl) ?_
 refine lv_iload_n hx hb d_Pieces_gather_11 rfl (lv_at hl 2 rfl) ?_
 refine va_iast hx hb hK hP (hD _) hS 21 0 cw_at_21 rfl h.1 d_Pieces_gather_12 (fun H locs hP _ hS => ?_)
 obtain ⟨u2, eu2⟩ : ∃ z, z = pw_sa u1 7 (upd (u1.2 7) x1.toNatClampNeg x2) := ⟨_, rfl⟩
 rw [cw_sa_21, ← eu2] at hP
 have h := h.2 u2 eu2
 refine lv_aload_n hx hb d_Pieces_gather_13 rfl (lv_at hl 0 rfl) ?_
 refine va_get (D := D) (ci := 7) (v := .ref (a 22)) (C := R_Pieces) (T := T_Pieces) (N := 11) hx hb hts in_Pieces hown hK hP 4 cw_at_4 rfl 3 (by decide) (hts _ (List.mem_cons_of_mem _ kw_154)) (fun _ h9 => h9) rfl d_Pieces_gather_14 ?_
 refine lv_iconst (v := 0) hx hb d_Pieces_gather_17 (by decide) ?_
 refine lv_iload_n hx hb d_Pieces_gather_18 rfl (lv_at hl 1 rfl) ?_
 refine va_iast hx hb hK hP (hD _) hS 22 0 cw_at_22 rfl h.1 d_Pieces_gather_19 (fun H locs hP _ hS => ?_)
 obtain ⟨u3, eu3⟩ : ∃ z, z = pw_sa u2 8 (upd (u2.2 8) (0 : Int32).toNatClampNeg x1) := ⟨_, rfl⟩
 rw [cw_sa_22, ← eu3] at hP
 have h := h.2 u3 eu3
 refine lv_iconst (v := 1) hx hb d_Pieces_gather_20 (by decide) ?_
 refine lv_istore_n (lv' := [(3, .int 1), (0, .ref (a 4)), (1, .int x1), (2, .int x2)]) hx hb d_Pieces_gather_21 rfl hl (by decide) rfl (fun ls hl => ?_)
 refine lv_iconst (v := 0) hx hb d_Pieces_gather_22 (by decide) ?_
 refine lv_istore (lv' := [(4, .int 0), (3, .int 1), (0, .ref (a 4)), (1, .int x1), (2, .int x2)]) hx hb d_Pieces_gather_23 hl (by decide) rfl (fun ls hl => ?_)
 obtain ⟨n1, h⟩ := h
 exact cp_Pieces_gather_25 C K n1 x1 x2 1 0 u3 _ _ _ hP hS (lv_sub hl [2, 3, 4, 1, 0] rfl) h
set_option maxHeartbeats 4000000 in
set_option maxRecDepth 100000 in
theorem ct_Pieces_gather (l : Launch) (D : va_G) (a : Nat → Nat) (cA cZ : ClassId) (G : pG) (sz : Nat) (x1 x2 : Int32) (u : pS) (Q : pS → Prop) (hI : pw_I 40 a) (h : wp_Pieces_gather G x1 x2 u Q) : Met l y_Pieces_gather w_Pieces_gather ({ frames := 2, cells := 0, slots := 0, locals := 43 } : Room) (va_Pc [.ref (a 4), .int x1, .int x2] (pw_pre D (cw a cA cZ G) (cT cA cZ) sz u)) (va_Qv (fun (u : pS) => Q u) (pw_B D (cw a cA cZ G) (cT cA cZ)) (pw_F 40 a sz)) 0 0 (pw_F 40 a sz) := by
 refine Met.ofW (cc := b_Pieces_gather) (maxL := 8) (ret := none) (by decide) rfl ?_
 intro p e s m args below meth c s₁ B hml hv
 obtain ⟨rfl, hsz, hP, hK⟩ := hv
 subst hsz
 have hl := lv_entry ([.ref (a 4), .int x1, .int x2]) (n := 8) (Nat.le_of_ble_eq_true rfl)
 rw [lg_entry_eq]
 generalize (lg_sl ([.ref (a 4), .int x1, .int x2]) ++ List.replicate (8 - (lg_sl ([.ref (a 4), .int x1, .int x2])).length) Slot.unset).toArray = ls at hl ⊢
 exact st_Pieces_gather (A := (pw_F 40 a s.heap.size)) ⟨B.exec, B.bytes, B.returns, hml, findClass_of_methodNamed B.named, atoms_spec (ws := w_Pieces_gather) B.pre, B.notSynchronized, fun q hq => Or.inr hq⟩ ⟨hK, hI, fun k hk => Or.inl ⟨k, hk, rfl⟩⟩ x1 x2 u ls hP hl h
set_option maxHeartbeats 4000000 in
set_option maxRecDepth 100000 in
theorem cp_Pieces_gatherAll_15 {p : Program} {l : Launch} {e : Env} {s : State} {m : MethodId} {args : Array Value} {below : List Frame} {meth : Method} {c : Code} {D : va_G} {a : Nat → Nat} {cA cZ : ClassId} {G : pG} {A : Nat → Prop} {Q : pS → Prop} (C : pw_C p s m args meth c b_Pieces_gatherAll 2 R_Pieces none w_Pieces_gatherAll A) (K : pw_K s D 40 a (cT cA cZ) A) : ∀ (n : Nat), ∀ (x1 : Int32) (u : pS) (H : Heap) (locs : List Loc) (ls : Array Slot), va_P D vwCl (cw a cA cZ G u) H → va_S A s.heap H locs → lv_has ls 2 [(0, .ref (a 4)), (1, .int x1)] → lp_Pieces_gatherAll_15 G Q n x1 u → W p l e ({ frames := 3, cells := 0, slots := 0, locals := 70 } : Room) s m args below meth c H locs 0 0 (pw_Ev below args s D (cw a cA cZ G) (cT cA cZ) A Q) (F0 m 15 ls []) := by
 obtain ⟨hx, hb, hr, hml, hown, hts, hlocks, hA⟩ := id C
 obtain ⟨hK, hI, hF⟩ := id K
 have hD : ∀ u, va_D A (cw a cA cZ G u) := fun u => cw_D hI hF
 intro n
 induction n with
 | zero => intro x1 u H locs ls hP hS hl h; exact h.elim
 | succ n ih =>
   intro x1 u H locs ls hP hS hl h
   refine lv_iload_n hx hb d_Pieces_gatherAll_15 rfl (lv_at hl 1 rfl) ?_
   refine lv_aload_n hx hb d_Pieces_gatherAll_16 rfl (lv_at hl 0 rfl) ?_
   refine va_get (D := D) (ci := 7) (v := .ref (a 1)) (C := R_Pieces) (T := T_Pieces) (N := 11) hx hb hts in_Pieces hown hK hP 4 cw_at_4 rfl 0 (by decide) (hts _ (List.mem_cons_of_mem _ kw_151)) (fun _ h9 => h9) rfl d_Pieces_gatherAll_17 ?_
   refine va_get (D := D) (ci := 4) (v := .int (G.2.1 3)) (C := R_Grid) (T := T_Grid) (N := 6) hx hb hts in_Grid hown hK hP 1 cw_at_1 rfl 2 (by decide) (hts _ (List.mem_cons_of_mem _ kw_107)) (fun _ h9 => h9) rfl d_Pieces_gatherAll_20 ?_
   refine lv_icmp_ge (tgt := 61) hx hb d_Pieces_gatherAll_23 (by decide) (fun c3 => ?_) (fun c3 => ?_)
   · have h := h.1 c3
     exact W.vret hx hb hr (fun t ht hW => ⟨⟨u, rfl, h, by rw [ht]; exact hP, va_K.moved hW.alike hK⟩, hS.F ht⟩) hS.2.2 d_Pieces_gatherAll_61 hlocks
   · have h := h.2 c3
     refine lv_aload_n hx hb d_Pieces_gatherAll_26 rfl (lv_at hl 0 rfl) ?_
     refine va_get (D := D) (ci := 7) (v := .ref (a 21)) (C := R_Pieces) (T := T_Pieces) (N := 11) hx hb hts in_Pieces hown hK hP 4 cw_at_4 rfl 2 (by decide) (hts _ (List.mem_cons_of_mem _ kw_153)) (fun _ h9 => h9) rfl d_Pieces_gatherAll_27 ?_
     refine lv_iload_n hx hb d_Pieces_gatherAll_30 rfl (lv_at hl 1 rfl) ?_
     refine va_iald hx hb hK hP 21 0 cw_at_21 rfl h.1 d_Pieces_gatherAll_31 ?_
     have h := h.2
     refine lv_iconst (v := -1) hx hb d_Pieces_gatherAll_32 (by decide) ?_
     refine lv_icmp_ne (tgt := 55) hx hb d_Pieces_gatherAll_33 (by decide) (fun c4 => ?_) (fun c4 => ?_)
     · have h := h.2 c4
       obtain ⟨t5, et5⟩ : ∃ y : Int32, y = x1 + 1 := ⟨_, rfl⟩
       have h := h t5 et5
       refine lv_iinc (v := t5) (lv' := [(1, .int t5), (0, .ref (a 4))]) hx hb d_Pieces_gatherAll_55 hl (k := 1) rfl (by rw [et5]; rfl) (by decide) rfl (fun ls hl => ?_)
       refine lv_goto (tgt := 15) hx hb d_Pieces_gatherAll_58 (by decide) ?_
       exact ih t5 u _ _ _ hP hS (lv_sub hl [1, 0] rfl) h
     · have h := h.1 c4
       refine lv_aload_n hx hb d_Pieces_gatherAll_36 rfl (lv_at hl 0 rfl) ?_
       refine lv_iload_n hx hb d_Pieces_gatherAll_37 rfl (lv_at hl 1 rfl) ?_
       refine lv_aload_n hx hb d_Pieces_gatherAll_38 rfl (lv_at hl 0 rfl) ?_
       refine va_get (D := D) (ci := 7) (v := .int (u.1 2)) (C := R_Pieces) (T := T_Pieces) (N := 11) hx hb hts in_Pieces hown hK hP 4 cw_at_4 rfl 10 (by decide) (hts _ (List.mem_cons_of_mem _ kw_161)) (fun _ h9 => h9) rfl d_Pieces_gatherAll_39 ?_
       refine cc_v (va_runV (As := [.int x1, .int (u.1 2)]) (rest := []) ⟨hx, hb, hml, hown, hts⟩ (ct_Pieces_gather l D a cA cZ G _ x1 (u.1 2) u _ hI h) (pw_cwV 2 hts kw_505 kw_49 kw_502 kw_504 kw_4 (by decide +kernel) ⟨Nat.le_of_ble_eq_true rfl, Nat.le_of_ble_eq_true rfl⟩) ⟨pw_blind, va_recv hK hP (ci := 7) (q0 := 4) rfl cw_at_4, fun U hU hW => ⟨rfl, by rw [hU], by rw [hU]; exact hP, va_K.moved hW.alike hK⟩⟩ rfl rfl hl.1 rfl (lv_room (Nat.le_of_ble_eq_true rfl)) d_Pieces_gatherAll_42 ⟨Nat.le_of_ble_eq_true rfl, Nat.le_of_ble_eq_true rfl⟩) hS hF hA (fun u6 H locs hP hS h => ?_)
       refine lv_aload_n hx hb d_Pieces_gatherAll_45 rfl (lv_at hl 0 rfl) ?_
       refine lv_dup hx hb d_Pieces_gatherAll_46 rfl ?_
       refine va_get (D := D) (ci := 7) (v := .int (u6.1 2)) (C := R_Pieces) (T := T_Pieces) (N := 11) hx hb hts in_Pieces hown hK hP 4 cw_at_4 rfl 10 (by decide) (hts _ (List.mem_cons_of_mem _ kw_161)) (fun _ h9 => h9) rfl d_Pieces_gatherAll_47 ?_
       refine lv_iconst (v := 1) hx hb d_Pieces_gatherAll_50 (by decide) ?_
       refine lv_iadd hx hb d_Pieces_gatherAll_51 ?_
       refine va_put (D := D) (ci := 7) (v := .int ((u6.1 2) + 1)) (ty := .int) (C := R_Pieces) (T := T_Pieces) (N := 11) hx hb hts in_Pieces ty_Pieces tyok_Pieces nm_Pieces hown hK hP (hD _) hS 4 cw_at_4 rfl 10 (by decide) (hts _ (List.mem_cons_of_mem _ kw_161)) (fun _ h9 => h9) rfl (by decide +kernel) rfl rfl (Nat.le_of_ble_eq_true rfl) d_Pieces_gatherAll_52 (fun H locs hP _ hS => ?_)
       obtain ⟨u7, eu7⟩ : ∃ z, z = pw_si u6 2 ((u6.1 2) + 1) := ⟨_, rfl⟩
       rw [cw_si_4_10, ← eu7] at hP
       have h := h u7 eu7
       obtain ⟨t8, et8⟩ : ∃ y : Int32, y = x1 + 1 := ⟨_, rfl⟩
       have h := h t8 et8
       refine lv_iinc (v := t8) (lv' := [(1, .int t8), (0, .ref (a 4))]) hx hb d_Pieces_gatherAll_55 hl (k := 1) rfl (by rw [et8]; rfl) (by decide) rfl (fun ls hl => ?_)
       refine lv_goto (tgt := 15) hx hb d_Pieces_gatherAll_58 (by decide) ?_
       exact ih t8 u7 _ _ _ hP hS (lv_sub hl [1, 0] rfl) h
set_option maxHeartbeats 4000000 in
set_option maxRecDepth 100000 in
theorem st_Pieces_gatherAll {p : Program} {l : Launch} {e : Env} {s : State} {m : MethodId} {args : Array Value} {below : List Frame} {meth : Method} {c : Code} {D : va_G} {a : Nat → Nat} {cA cZ : ClassId} {G : pG} {A : Nat → Prop} {Q : pS → Prop} (C : pw_C p s m args meth c b_Pieces_gatherAll 2 R_Pieces none w_Pieces_gatherAll A) (K : pw_K s D 40 a (cT cA cZ) A) (u : pS) (ls : Array Slot) (hP : va_P D vwCl (cw a cA cZ G u) s.heap) (hl : lv_has ls 2 [(0, .ref (a 4))]) (h : wp_Pieces_gatherAll G u Q) : W p l e ({ frames := 3, cells := 0, slots := 0, locals := 70 } : Room) s m args below meth c s.heap [] 0 0 (pw_Ev below args s D (cw a cA cZ G) (cT cA cZ) A Q) (F0 m 0 ls []) := by
 obtain ⟨hx, hb, hr, hml, hown, hts, hlocks, hA⟩ := id C
 obtain ⟨hK, hI, hF⟩ := id K
 have hD : ∀ u, va_D A (cw a cA cZ G u) := fun u => cw_D hI hF
 have hS : va_S A s.heap s.heap [] := va_S.rf
 have h : wp_Pieces_gatherAll G u Q := h
 refine lv_aload_n hx hb d_Pieces_gatherAll_0 rfl (lv_at hl 0 rfl) ?_
 refine va_get (D := D) (ci := 7) (v := .ref (a 21)) (C := R_Pieces) (T := T_Pieces) (N := 11) hx hb hts in_Pieces hown hK hP 4 cw_at_4 rfl 2 (by decide) (hts _ (List.mem_cons_of_mem _ kw_153)) (fun _ h9 => h9) rfl d_Pieces_gatherAll_1 ?_
 refine lv_iconst (v := -1) hx hb d_Pieces_gatherAll_4 (by decide) ?_
 refine cc_v (va_runS (As := [.ref (a 21), .int (-1)]) (rest := []) ⟨hx, hb, hml, hown, hts⟩ (ct_Arrays_fill_numberAt l D a cA cZ G _ (-1) u _ hI h) (pw_cwS 2 hts kw_501 kw_63 kw_499 kw_500 (by decide +kernel) ⟨Nat.le_of_ble_eq_true rfl, Nat.le_of_ble_eq_true rfl⟩) ⟨pw_blind, fun U hU hW => ⟨rfl, by rw [hU], by rw [hU]; exact hP, va_K.moved hW.alike hK⟩⟩ rfl rfl hl.1 rfl (lv_room (Nat.le_of_ble_eq_true rfl)) d_Pieces_gatherAll_5 ⟨Nat.le_of_ble_eq_true rfl, Nat.le_of_ble_eq_true rfl⟩) hS hF hA (fun u1 H locs hP hS h => ?_)
 refine lv_aload_n hx hb d_Pieces_gatherAll_8 rfl (lv_at hl 0 rfl) ?_
 refine lv_iconst (v := 0) hx hb d_Pieces_gatherAll_9 (by decide) ?_
 refine va_put (D := D) (ci := 7) (v := .int 0) (ty := .int) (C := R_Pieces) (T := T_Pieces) (N := 11) hx hb hts in_Pieces ty_Pieces tyok_Pieces nm_Pieces hown hK hP (hD _) hS 4 cw_at_4 rfl 10 (by decide) (hts _ (List.mem_cons_of_mem _ kw_161)) (fun _ h9 => h9) rfl (by decide +kernel) rfl rfl (Nat.le_of_ble_eq_true rfl) d_Pieces_gatherAll_10 (fun H locs hP _ hS => ?_)
 obtain ⟨u2, eu2⟩ : ∃ z, z = pw_si u1 2 0 := ⟨_, rfl⟩
 rw [cw_si_4_10, ← eu2] at hP
 have h := h u2 eu2
 refine lv_iconst (v := 0) hx hb d_Pieces_gatherAll_13 (by decide) ?_
 refine lv_istore_n (lv' := [(1, .int 0), (0, .ref (a 4))]) hx hb d_Pieces_gatherAll_14 rfl hl (by decide) rfl (fun ls hl => ?_)
 obtain ⟨n1, h⟩ := h
 exact cp_Pieces_gatherAll_15 C K n1 0 u2 _ _ _ hP hS (lv_sub hl [1, 0] rfl) h
set_option maxHeartbeats 4000000 in
set_option maxRecDepth 100000 in
theorem ct_Pieces_gatherAll (l : Launch) (D : va_G) (a : Nat → Nat) (cA cZ : ClassId) (G : pG) (sz : Nat) (u : pS) (Q : pS → Prop) (hI : pw_I 40 a) (h : wp_Pieces_gatherAll G u Q) : Met l y_Pieces_gatherAll w_Pieces_gatherAll ({ frames := 3, cells := 0, slots := 0, locals := 70 } : Room) (va_Pc [.ref (a 4)] (pw_pre D (cw a cA cZ G) (cT cA cZ) sz u)) (va_Qv (fun (u : pS) => Q u) (pw_B D (cw a cA cZ G) (cT cA cZ)) (pw_F 40 a sz)) 0 0 (pw_F 40 a sz) := by
 refine Met.ofW (cc := b_Pieces_gatherAll) (maxL := 2) (ret := none) (by decide) rfl ?_
 intro p e s m args below meth c s₁ B hml hv
 obtain ⟨rfl, hsz, hP, hK⟩ := hv
 subst hsz
 have hl := lv_entry ([.ref (a 4)]) (n := 2) (Nat.le_of_ble_eq_true rfl)
 rw [lg_entry_eq]
 generalize (lg_sl ([.ref (a 4)]) ++ List.replicate (2 - (lg_sl ([.ref (a 4)])).length) Slot.unset).toArray = ls at hl ⊢
 exact st_Pieces_gatherAll (A := (pw_F 40 a s.heap.size)) ⟨B.exec, B.bytes, B.returns, hml, findClass_of_methodNamed B.named, atoms_spec (ws := w_Pieces_gatherAll) B.pre, B.notSynchronized, fun q hq => Or.inr hq⟩ ⟨hK, hI, fun k hk => Or.inl ⟨k, hk, rfl⟩⟩ u ls hP hl h
set_option maxHeartbeats 4000000 in
set_option maxRecDepth 100000 in
theorem cp_Pieces_smallest_4 {p : Program} {l : Launch} {e : Env} {s : State} {m : MethodId} {args : Array Value} {below : List Frame} {meth : Method} {c : Code} {D : va_G} {a : Nat → Nat} {cA cZ : ClassId} {G : pG} {A : Nat → Prop} {Q : Int32 → pS → Prop} (C : pw_C p s m args meth c b_Pieces_smallest 3 R_Pieces (some .int) w_Pieces_smallest A) (K : pw_K s D 40 a (cT cA cZ) A) : ∀ (n : Nat), ∀ (x1 x2 : Int32) (u : pS) (H : Heap) (locs : List Loc) (ls : Array Slot), va_P D vwCl (cw a cA cZ G u) H → va_S A s.heap H locs → lv_has ls 3 [(0, .ref (a 4)), (1, .int x1), (2, .int x2)] → lp_Pieces_smallest_4 G Q n x1 x2 u → W p l e ({ frames := 0, cells := 0, slots := 0, locals := 0 } : Room) s m args below meth c H locs 0 0 (pw_Ei below args s D (cw a cA cZ G) (cT cA cZ) A Q) (F0 m 4 ls []) := by
 obtain ⟨hx, hb, hr, hml, hown, hts, hlocks, hA⟩ := id C
 obtain ⟨hK, hI, hF⟩ := id K
 have hD : ∀ u, va_D A (cw a cA cZ G u) := fun u => cw_D hI hF
 intro n
 induction n with
 | zero => intro x1 x2 u H locs ls hP hS hl h; exact h.elim
 | succ n ih =>
   intro x1 x2 u H locs ls hP hS hl h
   refine lv_iload_n hx hb d_Pieces_smallest_4 rfl (lv_at hl 2 rfl) ?_
   refine lv_aload_n hx hb d_Pieces_smallest_5 rfl (lv_at hl 0 rfl) ?_
   refine va_get (D := D) (ci := 7) (v := .int (u.1 2)) (C := R_Pieces) (T := T_Pieces) (N := 11) hx hb hts in_Pieces hown hK hP 4 cw_at_4 rfl 10 (by decide) (hts _ (List.mem_cons_of_mem _ kw_161)) (fun _ h9 => h9) rfl d_Pieces_smallest_6 ?_
   refine lv_icmp_ge (tgt := 35) hx hb d_Pieces_smallest_9 (by decide) (fun c1 => ?_) (fun c1 => ?_)
   · have h := h.1 c1
     refine lv_iload_n hx hb d_Pieces_smallest_35 rfl (lv_at hl 1 rfl) ?_
     exact W.iret (v := x1) hx hb hr (fun t ht hW => ⟨⟨x1, u, rfl, h, by rw [ht]; exact hP, va_K.moved hW.alike hK⟩, hS.F ht⟩) hS.2.2 d_Pieces_smallest_36 hlocks
   · have h := h.2 c1
     refine lv_aload_n hx hb d_Pieces_smallest_12 rfl (lv_at hl 0 rfl) ?_
     refine va_get (D := D) (ci := 7) (v := .ref (a 25)) (C := R_Pieces) (T := T_Pieces) (N := 11) hx hb hts in_Pieces hown hK hP 4 cw_at_4 rfl 6 (by decide) (hts _ (List.mem_cons_of_mem _ kw_157)) (fun _ h9 => h9) rfl d_Pieces_smallest_13 ?_
     refine lv_iload_n hx hb d_Pieces_smallest_16 rfl (lv_at hl 2 rfl) ?_
     refine va_iald hx hb hK hP 25 0 cw_at_25 rfl h.1 d_Pieces_smallest_17 ?_
     have h := h.2
     refine lv_aload_n hx hb d_Pieces_smallest_18 rfl (lv_at hl 0 rfl) ?_
     refine va_get (D := D) (ci := 7) (v := .ref (a 25)) (C := R_Pieces) (T := T_Pieces) (N := 11) hx hb hts in_Pieces hown hK hP 4 cw_at_4 rfl 6 (by decide) (hts _ (List.mem_cons_of_mem _ kw_157)) (fun _ h9 => h9) rfl d_Pieces_smallest_19 ?_
     refine lv_iload_n hx hb d_Pieces_smallest_22 rfl (lv_at hl 1 rfl) ?_
     refine va_iald hx hb hK hP 25 0 cw_at_25 rfl h.1 d_Pieces_smallest_23 ?_
     have h := h.2
     refine lv_icmp_ge (tgt := 29) hx hb d_Pieces_smallest_24 (by decide) (fun c2 => ?_) (fun c2 => ?_)
     · have h := h.1 c2
       obtain ⟨t3, et3⟩ : ∃ y : Int32, y = x2 + 1 := ⟨_, rfl⟩
       have h := h t3 et3
       refine lv_iinc (v := t3) (lv' := [(2, .int t3), (0, .ref (a 4)), (1, .int x1)]) hx hb d_Pieces_smallest_29 hl (k := 2) rfl (by rw [et3]; rfl) (by decide) rfl (fun ls hl => ?_)
       refine lv_goto (tgt := 4) hx hb d_Pieces_smallest_32 (by decide) ?_
       exact ih x1 t3 u _ _ _ hP hS (lv_sub hl [1, 2, 0] rfl) h
     · have h := h.2 c2
       refine lv_iload_n hx hb d_Pieces_smallest_27 rfl (lv_at hl 2 rfl) ?_
       refine lv_istore_n (lv' := [(1, .int x2), (0, .ref (a 4)), (2, .int x2)]) hx hb d_Pieces_smallest_28 rfl hl (by decide) rfl (fun ls hl => ?_)
       obtain ⟨t4, et4⟩ : ∃ y : Int32, y = x2 + 1 := ⟨_, rfl⟩
       have h := h t4 et4
       refine lv_iinc (v := t4) (lv' := [(2, .int t4), (1, .int x2), (0, .ref (a 4))]) hx hb d_Pieces_smallest_29 hl (k := 2) rfl (by rw [et4]; rfl) (by decide) rfl (fun ls hl => ?_)
       refine lv_goto (tgt := 4) hx hb d_Pieces_smallest_32 (by decide) ?_
       exact ih x2 t4 u _ _ _ hP hS (lv_sub hl [2, 1, 0] rfl) h
set_option maxHeartbeats 4000000 in
set_option maxRecDepth 100000 in
theorem st_Pieces_smallest {p : Program} {l : Launch} {e : Env} {s : State} {m : MethodId} {args : Array Value} {below : List Frame} {meth : Method} {c : Code} {D : va_G} {a : Nat → Nat} {cA cZ : ClassId} {G : pG} {A : Nat → Prop} {Q : Int32 → pS → Prop} (C : pw_C p s m args meth c b_Pieces_smallest 3 R_Pieces (some .int) w_Pieces_smallest A) (K : pw_K s D 40 a (cT cA cZ) A) (u : pS) (ls : Array Slot) (hP : va_P D vwCl (cw a cA cZ G u) s.heap) (hl : lv_has ls 3 [(0, .ref (a 4))]) (h : wp_Pieces_smallest G u Q) : W p l e ({ frames := 0, cells := 0, slots := 0, locals := 0 } : Room) s m args below meth c s.heap [] 0 0 (pw_Ei below args s D (cw a cA cZ G) (cT cA cZ) A Q) (F0 m 0 ls []) := by
 obtain ⟨hx, hb, hr, hml, hown, hts, hlocks, hA⟩ := id C
 obtain ⟨hK, hI, hF⟩ := id K
 have hD : ∀ u, va_D A (cw a cA cZ G u) := fun u => cw_D hI hF
 have hS : va_S A s.heap s.heap [] := va_S.rf
 have h : wp_Pieces_smallest G u Q := h
 refine lv_iconst (v := 0) hx hb d_Pieces_smallest_0 (by decide) ?_
 refine lv_istore_n (lv' := [(1, .int 0), (0, .ref (a 4))]) hx hb d_Pieces_smallest_1 rfl hl (by decide) rfl (fun ls hl => ?_)
 refine lv_iconst (v := 1) hx hb d_Pieces_smallest_2 (by decide) ?_
 refine lv_istore_n (lv' := [(2, .int 1), (1, .int 0), (0, .ref (a 4))]) hx hb d_Pieces_smallest_3 rfl hl (by decide) rfl (fun ls hl => ?_)
 obtain ⟨n1, h⟩ := h
 exact cp_Pieces_smallest_4 C K n1 0 1 u _ _ _ hP hS (lv_sub hl [2, 1, 0] rfl) h
set_option maxHeartbeats 4000000 in
set_option maxRecDepth 100000 in
theorem ct_Pieces_smallest (l : Launch) (D : va_G) (a : Nat → Nat) (cA cZ : ClassId) (G : pG) (sz : Nat) (u : pS) (Q : Int32 → pS → Prop) (hI : pw_I 40 a) (h : wp_Pieces_smallest G u Q) : Met l y_Pieces_smallest w_Pieces_smallest ({ frames := 0, cells := 0, slots := 0, locals := 0 } : Room) (va_Pc [.ref (a 4)] (pw_pre D (cw a cA cZ G) (cT cA cZ) sz u)) (va_Qi (fun (r : Int32) (u : pS) => Q r u) (pw_B D (cw a cA cZ G) (cT cA cZ)) (pw_F 40 a sz)) 0 0 (pw_F 40 a sz) := by
 refine Met.ofW (cc := b_Pieces_smallest) (maxL := 3) (ret := (some .int)) (by decide) rfl ?_
 intro p e s m args below meth c s₁ B hml hv
 obtain ⟨rfl, hsz, hP, hK⟩ := hv
 subst hsz
 have hl := lv_entry ([.ref (a 4)]) (n := 3) (Nat.le_of_ble_eq_true rfl)
 rw [lg_entry_eq]
 generalize (lg_sl ([.ref (a 4)]) ++ List.replicate (3 - (lg_sl ([.ref (a 4)])).length) Slot.unset).toArray = ls at hl ⊢
 exact st_Pieces_smallest (A := (pw_F 40 a s.heap.size)) ⟨B.exec, B.bytes, B.returns, hml, findClass_of_methodNamed B.named, atoms_spec (ws := w_Pieces_smallest) B.pre, B.notSynchronized, fun q hq => Or.inr hq⟩ ⟨hK, hI, fun k hk => Or.inl ⟨k, hk, rfl⟩⟩ u ls hP hl h
set_option maxHeartbeats 4000000 in
set_option maxRecDepth 100000 in
theorem cp_Pieces_closestTo_9 {p : Program} {l : Launch} {e : Env} {s : State} {m : MethodId} {args : Array Value} {below : List Frame} {meth : Method} {c : Code} {D : va_G} {a : Nat → Nat} {cA cZ : ClassId} {G : pG} {A : Nat → Prop} {Q : Int32 → pS → Prop} (C : pw_C p s m args meth c b_Pieces_closestTo 4 R_Pieces (some .int) w_Pieces_closestTo A) (K : pw_K s D 40 a (cT cA cZ) A) : ∀ (n : Nat), ∀ (x2 x3 : Int32) (u : pS) (H : Heap) (locs : List Loc) (ls : Array Slot), va_P D vwCl (cw a cA cZ G u) H → va_S A s.heap H locs → lv_has ls 4 [(0, .ref (a 4)), (2, .int x2), (3, .int x3)] → lp_Pieces_closestTo_9 G Q n x2 x3 u → W p l e ({ frames := 3, cells := 0, slots := 0, locals := 67 } : Room) s m args below meth c H locs 0 0 (pw_Ei below args s D (cw a cA cZ G) (cT cA cZ) A Q) (F0 m 9 ls []) := by
 obtain ⟨hx, hb, hr, hml, hown, hts, hlocks, hA⟩ := id C
 obtain ⟨hK, hI, hF⟩ := id K
 have hD : ∀ u, va_D A (cw a cA cZ G u) := fun u => cw_D hI hF
 intro n
 induction n with
 | zero => intro x2 x3 u H locs ls hP hS hl h; exact h.elim
 | succ n ih =>
   intro x2 x3 u H locs ls hP hS hl h
   refine lv_iload_n hx hb d_Pieces_closestTo_9 rfl (lv_at hl 2 rfl) ?_
   refine lv_aload_n hx hb d_Pieces_closestTo_10 rfl (lv_at hl 0 rfl) ?_
   refine va_get (D := D) (ci := 7) (v := .int (u.1 2)) (C := R_Pieces) (T := T_Pieces) (N := 11) hx hb hts in_Pieces hown hK hP 4 cw_at_4 rfl 10 (by decide) (hts _ (List.mem_cons_of_mem _ kw_161)) (fun _ h9 => h9) rfl d_Pieces_closestTo_11 ?_
   refine lv_icmp_ge (tgt := 40) hx hb d_Pieces_closestTo_14 (by decide) (fun c2 => ?_) (fun c2 => ?_)
   · have h := h.1 c2
     refine lv_iload_n hx hb d_Pieces_closestTo_40 rfl (lv_at hl 1 rfl) ?_
     exact W.iret (v := x2) hx hb hr (fun t ht hW => ⟨⟨x2, u, rfl, h, by rw [ht]; exact hP, va_K.moved hW.alike hK⟩, hS.F ht⟩) hS.2.2 d_Pieces_closestTo_41 hlocks
   · have h := h.2 c2
     refine lv_aload_n hx hb d_Pieces_closestTo_17 rfl (lv_at hl 0 rfl) ?_
     refine va_get (D := D) (ci := 7) (v := .ref (a 23)) (C := R_Pieces) (T := T_Pieces) (N := 11) hx hb hts in_Pieces hown hK hP 4 cw_at_4 rfl 4 (by decide) (hts _ (List.mem_cons_of_mem _ kw_155)) (fun _ h9 => h9) rfl d_Pieces_closestTo_18 ?_
     refine lv_iload_n hx hb d_Pieces_closestTo_21 rfl (lv_at hl 2 rfl) ?_
     refine va_iald hx hb hK hP 23 0 cw_at_23 rfl h.1 d_Pieces_closestTo_22 ?_
     have h := h.2
     refine lv_aload_n hx hb d_Pieces_closestTo_23 rfl (lv_at hl 0 rfl) ?_
     refine va_get (D := D) (ci := 7) (v := .ref (a 23)) (C := R_Pieces) (T := T_Pieces) (N := 11) hx hb hts in_Pieces hown hK hP 4 cw_at_4 rfl 4 (by decide) (hts _ (List.mem_cons_of_mem _ kw_155)) (fun _ h9 => h9) rfl d_Pieces_closestTo_24 ?_
     refine lv_iload_n hx hb d_Pieces_closestTo_27 rfl (lv_at hl 1 rfl) ?_
     refine va_iald hx hb hK hP 23 0 cw_at_23 rfl h.1 d_Pieces_closestTo_28 ?_
     have h := h.2
     refine lv_icmp_le (tgt := 34) hx hb d_Pieces_closestTo_29 (by decide) (fun c3 => ?_) (fun c3 => ?_)
     · have h := h.1 c3
       obtain ⟨t4, et4⟩ : ∃ y : Int32, y = x3 + 1 := ⟨_, rfl⟩
       have h := h t4 et4
       refine lv_iinc (v := t4) (lv' := [(3, .int t4), (0, .ref (a 4)), (2, .int x2)]) hx hb d_Pieces_closestTo_34 hl (k := 2) rfl (by rw [et4]; rfl) (by decide) rfl (fun ls hl => ?_)
       refine lv_goto (tgt := 9) hx hb d_Pieces_closestTo_37 (by decide) ?_
       exact ih x2 t4 u _ _ _ hP hS (lv_sub hl [1, 2, 0] rfl) h
     · have h := h.2 c3
       refine lv_iload_n hx hb d_Pieces_closestTo_32 rfl (lv_at hl 2 rfl) ?_
       refine lv_istore_n (lv' := [(2, .int x3), (0, .ref (a 4)), (3, .int x3)]) hx hb d_Pieces_closestTo_33 rfl hl (by decide) rfl (fun ls hl => ?_)
       obtain ⟨t5, et5⟩ : ∃ y : Int32, y = x3 + 1 := ⟨_, rfl⟩
       have h := h t5 et5
       refine lv_iinc (v := t5) (lv' := [(3, .int t5), (2, .int x3), (0, .ref (a 4))]) hx hb d_Pieces_closestTo_34 hl (k := 2) rfl (by rw [et5]; rfl) (by decide) rfl (fun ls hl => ?_)
       refine lv_goto (tgt := 9) hx hb d_Pieces_closestTo_37 (by decide) ?_
       exact ih x3 t5 u _ _ _ hP hS (lv_sub hl [2, 1, 0] rfl) h
set_option maxHeartbeats 4000000 in
set_option maxRecDepth 100000 in
theorem st_Pieces_closestTo {p : Program} {l : Launch} {e : Env} {s : State} {m : MethodId} {args : Array Value} {below : List Frame} {meth : Method} {c : Code} {D : va_G} {a : Nat → Nat} {cA cZ : ClassId} {G : pG} {A : Nat → Prop} {Q : Int32 → pS → Prop} (C : pw_C p s m args meth c b_Pieces_closestTo 4 R_Pieces (some .int) w_Pieces_closestTo A) (K : pw_K s D 40 a (cT cA cZ) A) (x1 : Int32) (u : pS) (ls : Array Slot) (hP : va_P D vwCl (cw a cA cZ G u) s.heap) (hl : lv_has ls 4 [(0, .ref (a 4)), (1, .int x1)]) (h : wp_Pieces_closestTo G x1 u Q) : W p l e ({ frames := 3, cells := 0, slots := 0, locals := 67 } : Room) s m args below meth c s.heap [] 0 0 (pw_Ei below args s D (cw a cA cZ G) (cT cA cZ) A Q) (F0 m 0 ls []) := by
 obtain ⟨hx, hb, hr, hml, hown, hts, hlocks, hA⟩ := id C
 obtain ⟨hK, hI, hF⟩ := id K
 have hD : ∀ u, va_D A (cw a cA cZ G u) := fun u => cw_D hI hF
 have hS : va_S A s.heap s.heap [] := va_S.rf
 have h : wp_Pieces_closestTo G x1 u Q := h
 refine lv_aload_n hx hb d_Pieces_closestTo_0 rfl (lv_at hl 0 rfl) ?_
 refine lv_iload_n hx hb d_Pieces_closestTo_1 rfl (lv_at hl 1 rfl) ?_
 refine cc_v (va_runV (As := [.int x1]) (rest := []) ⟨hx, hb, hml, hown, hts⟩ (ct_Pieces_countSidesOf l D a cA cZ G _ x1 u _ hI h) (pw_cwV 1 hts kw_543 kw_49 kw_540 kw_542 kw_10 (by decide +kernel) ⟨Nat.le_of_ble_eq_true rfl, Nat.le_of_ble_eq_true rfl⟩) ⟨pw_blind, va_recv hK hP (ci := 7) (q0 := 4) rfl cw_at_4, fun U hU hW => ⟨rfl, by rw [hU], by rw [hU]; exact hP, va_K.moved hW.alike hK⟩⟩ rfl rfl hl.1 rfl (lv_room (Nat.le_of_ble_eq_true rfl)) d_Pieces_closestTo_2 ⟨Nat.le_of_ble_eq_true rfl, Nat.le_of_ble_eq_true rfl⟩) hS hF hA (fun u1 H locs hP hS h => ?_)
 refine lv_iconst (v := 0) hx hb d_Pieces_closestTo_5 (by decide) ?_
 refine lv_istore_n (lv' := [(2, .int 0), (0, .ref (a 4)), (1, .int x1)]) hx hb d_Pieces_closestTo_6 rfl hl (by decide) rfl (fun ls hl => ?_)
 refine lv_iconst (v := 1) hx hb d_Pieces_closestTo_7 (by decide) ?_
 refine lv_istore_n (lv' := [(3, .int 1), (2, .int 0), (0, .ref (a 4)), (1, .int x1)]) hx hb d_Pieces_closestTo_8 rfl hl (by decide) rfl (fun ls hl => ?_)
 obtain ⟨n1, h⟩ := h
 exact cp_Pieces_closestTo_9 C K n1 0 1 u1 _ _ _ hP hS (lv_sub hl [2, 1, 0] rfl) h
set_option maxHeartbeats 4000000 in
set_option maxRecDepth 100000 in
theorem ct_Pieces_closestTo (l : Launch) (D : va_G) (a : Nat → Nat) (cA cZ : ClassId) (G : pG) (sz : Nat) (x1 : Int32) (u : pS) (Q : Int32 → pS → Prop) (hI : pw_I 40 a) (h : wp_Pieces_closestTo G x1 u Q) : Met l y_Pieces_closestTo w_Pieces_closestTo ({ frames := 3, cells := 0, slots := 0, locals := 67 } : Room) (va_Pc [.ref (a 4), .int x1] (pw_pre D (cw a cA cZ G) (cT cA cZ) sz u)) (va_Qi (fun (r : Int32) (u : pS) => Q r u) (pw_B D (cw a cA cZ G) (cT cA cZ)) (pw_F 40 a sz)) 0 0 (pw_F 40 a sz) := by
 refine Met.ofW (cc := b_Pieces_closestTo) (maxL := 4) (ret := (some .int)) (by decide) rfl ?_
 intro p e s m args below meth c s₁ B hml hv
 obtain ⟨rfl, hsz, hP, hK⟩ := hv
 subst hsz
 have hl := lv_entry ([.ref (a 4), .int x1]) (n := 4) (Nat.le_of_ble_eq_true rfl)
 rw [lg_entry_eq]
 generalize (lg_sl ([.ref (a 4), .int x1]) ++ List.replicate (4 - (lg_sl ([.ref (a 4), .int x1])).length) Slot.unset).toArray = ls at hl ⊢
 exact st_Pieces_closestTo (A := (pw_F 40 a s.heap.size)) ⟨B.exec, B.bytes, B.returns, hml, findClass_of_methodNamed B.named, atoms_spec (ws := w_Pieces_closestTo) B.pre, B.notSynchronized, fun q hq => Or.inr hq⟩ ⟨hK, hI, fun k hk => Or.inl ⟨k, hk, rfl⟩⟩ x1 u ls hP hl h
