set_option maxHeartbeats 4000000 in
set_option maxRecDepth 100000 in
theorem cp_Model_beside_51 {p : Program} {l : Launch} {e : Env} {s : State} {m : MethodId} {args : Array Value} {below : List Frame} {meth : Method} {c : Code} {D : va_G} {a : Nat → Nat} {cA cZ : ClassId} {G : pG} {A : Nat → Prop} {Q : Int32 → pS → Prop} (C : pw_C p s m args meth c b_Model_beside 5 R_Model (some .int) w_Model_beside A) (K : pw_K s D 15 a (rT cA cZ) A) : ∀ (x3 y2 y3 : Int32) (u : pS) (H : Heap) (locs : List Loc) (ls : Array Slot), va_P D vwCl (rw a cA cZ G u) H → va_S A s.heap H locs → lv_has ls 5 [(0, .ref (a 0)), (3, .int x3)] → jn_Model_beside_51 G Q x3 y2 y3 u → W p l e ({ frames := 1, cells := 0, slots := 0, locals := 22 } : Room) s m args below meth c H locs 0 0 (pw_Ei below args s D (rw a cA cZ G) (rT cA cZ) A Q) (F0 m 51 ls [.int y2, .int y3]) := by
 obtain ⟨hx, hb, hr, hml, hown, hts, hlocks, hA⟩ := id C
 obtain ⟨hK, hI, hF⟩ := id K
 have hD : ∀ u, va_D A (rw a cA cZ G u) := fun u => rw_D hI hF
 intro x3 y2 y3 u H locs ls hP hS hl h
 refine lv_iadd hx hb d_Model_beside_51 ?_
 refine lv_topi (fun t6 et6 => ?_)
 have h := h t6 et6
 refine lv_istore (lv' := [(4, .int t6), (0, .ref (a 0)), (3, .int x3)]) hx hb d_Model_beside_52 hl (by decide) rfl (fun ls hl => ?_)
 refine lv_aload_n hx hb d_Model_beside_54 rfl (lv_at hl 1 rfl) ?_
 refine lv_iload_n hx hb d_Model_beside_55 rfl (lv_at hl 2 rfl) ?_
 refine lv_iload hx hb d_Model_beside_56 (lv_at hl 0 rfl) ?_
 refine cc_i (va_runV (As := [.int x3, .int t6]) (rest := []) ⟨hx, hb, hml, hown, hts⟩ (ct_Model_isPlace l D a cA cZ G _ x3 t6 u _ hI h) (pw_cwV 2 hts kw_916 kw_57 kw_913 kw_915 kw_23 (by decide +kernel) ⟨Nat.le_of_ble_eq_true rfl, Nat.le_of_ble_eq_true rfl⟩) ⟨pw_blind, va_recv hK hP (ci := 1) (q0 := 0) rfl rw_at_0, fun U hU hW => ⟨rfl, by rw [hU], by rw [hU]; exact hP, va_K.moved hW.alike hK⟩⟩ rfl rfl hl.1 rfl (lv_room (Nat.le_of_ble_eq_true rfl)) d_Model_beside_58 ⟨Nat.le_of_ble_eq_true rfl, Nat.le_of_ble_eq_true rfl⟩) hS hF hA (fun r8 u7 H locs hP hS h => ?_)
 refine lv_if_eq (tgt := 76) hx hb d_Model_beside_61 (by decide) (fun c9 => ?_) (fun c9 => ?_)
 · have h := h.1 c9
   refine lv_iconst (v := -1) hx hb d_Model_beside_76 (by decide) ?_
   exact W.iret (v := (-1)) hx hb hr (fun t ht hW => ⟨⟨(-1), u7, rfl, h, by rw [ht]; exact hP, va_K.moved hW.alike hK⟩, hS.F ht⟩) hS.2.2 d_Model_beside_77 hlocks
 · have h := h.2 c9
   refine lv_aload_n hx hb d_Model_beside_64 rfl (lv_at hl 1 rfl) ?_
   refine va_get (D := D) (ci := 1) (v := .int (G.2.1 0)) (C := R_Model) (T := T_Model) (N := 23) hx hb hts in_Model hown hK hP 0 rw_at_0 rfl 1 (by decide) (hts _ (List.mem_cons_of_mem _ kw_836)) (fun _ h9 => h9) rfl d_Model_beside_65 ?_
   refine lv_iload hx hb d_Model_beside_68 (lv_at hl 0 rfl) ?_
   refine lv_imul hx hb d_Model_beside_70 ?_
   refine lv_iload_n hx hb d_Model_beside_71 rfl (lv_at hl 2 rfl) ?_
   refine lv_iadd hx hb d_Model_beside_72 ?_
   refine lv_goto (tgt := 77) hx hb d_Model_beside_73 (by decide) ?_
   exact W.iret (v := (((G.2.1 0) * t6) + x3)) hx hb hr (fun t ht hW => ⟨⟨(((G.2.1 0) * t6) + x3), u7, rfl, h, by rw [ht]; exact hP, va_K.moved hW.alike hK⟩, hS.F ht⟩) hS.2.2 d_Model_beside_77 hlocks
set_option maxHeartbeats 4000000 in
set_option maxRecDepth 100000 in
theorem cp_Model_beside_24 {p : Program} {l : Launch} {e : Env} {s : State} {m : MethodId} {args : Array Value} {below : List Frame} {meth : Method} {c : Code} {D : va_G} {a : Nat → Nat} {cA cZ : ClassId} {G : pG} {A : Nat → Prop} {Q : Int32 → pS → Prop} (C : pw_C p s m args meth c b_Model_beside 5 R_Model (some .int) w_Model_beside A) (K : pw_K s D 15 a (rT cA cZ) A) : ∀ (x1 x2 y3 y4 : Int32) (u : pS) (H : Heap) (locs : List Loc) (ls : Array Slot), va_P D vwCl (rw a cA cZ G u) H → va_S A s.heap H locs → lv_has ls 5 [(0, .ref (a 0)), (1, .int x1), (2, .int x2)] → jn_Model_beside_24 G Q x1 x2 y3 y4 u → W p l e ({ frames := 1, cells := 0, slots := 0, locals := 22 } : Room) s m args below meth c H locs 0 0 (pw_Ei below args s D (rw a cA cZ G) (rT cA cZ) A Q) (F0 m 24 ls [.int y3, .int y4]) := by
 obtain ⟨hx, hb, hr, hml, hown, hts, hlocks, hA⟩ := id C
 obtain ⟨hK, hI, hF⟩ := id K
 have hD : ∀ u, va_D A (rw a cA cZ G u) := fun u => rw_D hI hF
 intro x1 x2 y3 y4 u H locs ls hP hS hl h
 refine lv_iadd hx hb d_Model_beside_24 ?_
 refine lv_topi (fun t3 et3 => ?_)
 have h := h t3 et3
 refine lv_istore_n (lv' := [(3, .int t3), (0, .ref (a 0)), (1, .int x1), (2, .int x2)]) hx hb d_Model_beside_25 rfl hl (by decide) rfl (fun ls hl => ?_)
 refine lv_iload_n hx hb d_Model_beside_26 rfl (lv_at hl 2 rfl) ?_
 refine lv_aload_n hx hb d_Model_beside_27 rfl (lv_at hl 1 rfl) ?_
 refine va_get (D := D) (ci := 1) (v := .int (G.2.1 0)) (C := R_Model) (T := T_Model) (N := 23) hx hb hts in_Model hown hK hP 0 rw_at_0 rfl 1 (by decide) (hts _ (List.mem_cons_of_mem _ kw_836)) (fun _ h9 => h9) rfl d_Model_beside_28 ?_
 refine lv_idiv hx hb d_Model_beside_31 h.1 ?_
 have h := h.2
 refine lv_iload_n hx hb d_Model_beside_32 rfl (lv_at hl 3 rfl) ?_
 refine lv_iconst (v := 1) hx hb d_Model_beside_33 (by decide) ?_
 refine lv_icmp_ne (tgt := 41) hx hb d_Model_beside_34 (by decide) (fun c4 => ?_) (fun c4 => ?_)
 · have h := h.2 c4
   refine lv_iload_n hx hb d_Model_beside_41 rfl (lv_at hl 3 rfl) ?_
   refine lv_iconst (v := 3) hx hb d_Model_beside_42 (by decide) ?_
   refine lv_icmp_ne (tgt := 50) hx hb d_Model_beside_43 (by decide) (fun c5 => ?_) (fun c5 => ?_)
   · have h := h.2 c5
     refine lv_iconst (v := 0) hx hb d_Model_beside_50 (by decide) ?_
     exact cp_Model_beside_51 C K t3 0 (x1 / (G.2.1 0)) u _ _ _ hP hS (lv_sub hl [1, 0] rfl) h
   · have h := h.1 c5
     refine lv_iconst (v := -1) hx hb d_Model_beside_46 (by decide) ?_
     refine lv_goto (tgt := 51) hx hb d_Model_beside_47 (by decide) ?_
     exact cp_Model_beside_51 C K t3 (-1) (x1 / (G.2.1 0)) u _ _ _ hP hS (lv_sub hl [1, 0] rfl) h
 · have h := h.1 c4
   refine lv_iconst (v := 1) hx hb d_Model_beside_37 (by decide) ?_
   refine lv_goto (tgt := 51) hx hb d_Model_beside_38 (by decide) ?_
   exact cp_Model_beside_51 C K t3 1 (x1 / (G.2.1 0)) u _ _ _ hP hS (lv_sub hl [1, 0] rfl) h
set_option maxHeartbeats 4000000 in
set_option maxRecDepth 100000 in
theorem st_Model_beside {p : Program} {l : Launch} {e : Env} {s : State} {m : MethodId} {args : Array Value} {below : List Frame} {meth : Method} {c : Code} {D : va_G} {a : Nat → Nat} {cA cZ : ClassId} {G : pG} {A : Nat → Prop} {Q : Int32 → pS → Prop} (C : pw_C p s m args meth c b_Model_beside 5 R_Model (some .int) w_Model_beside A) (K : pw_K s D 15 a (rT cA cZ) A) (x1 x2 : Int32) (u : pS) (ls : Array Slot) (hP : va_P D vwCl (rw a cA cZ G u) s.heap) (hl : lv_has ls 5 [(0, .ref (a 0)), (1, .int x1), (2, .int x2)]) (h : wp_Model_beside G x1 x2 u Q) : W p l e ({ frames := 1, cells := 0, slots := 0, locals := 22 } : Room) s m args below meth c s.heap [] 0 0 (pw_Ei below args s D (rw a cA cZ G) (rT cA cZ) A Q) (F0 m 0 ls []) := by
 obtain ⟨hx, hb, hr, hml, hown, hts, hlocks, hA⟩ := id C
 obtain ⟨hK, hI, hF⟩ := id K
 have hD : ∀ u, va_D A (rw a cA cZ G u) := fun u => rw_D hI hF
 have hS : va_S A s.heap s.heap [] := va_S.rf
 have h : wp_Model_beside G x1 x2 u Q := h
 refine lv_iload_n hx hb d_Model_beside_0 rfl (lv_at hl 1 rfl) ?_
 refine lv_aload_n hx hb d_Model_beside_1 rfl (lv_at hl 0 rfl) ?_
 refine va_get (D := D) (ci := 1) (v := .int (G.2.1 0)) (C := R_Model) (T := T_Model) (N := 23) hx hb hts in_Model hown hK hP 0 rw_at_0 rfl 1 (by decide) (hts _ (List.mem_cons_of_mem _ kw_836)) (fun _ h9 => h9) rfl d_Model_beside_2 ?_
 refine lv_irem hx hb d_Model_beside_5 h.1 ?_
 have h := h.2
 refine lv_iload_n hx hb d_Model_beside_6 rfl (lv_at hl 2 rfl) ?_
 refine lv_if_ne (tgt := 14) hx hb d_Model_beside_7 (by decide) (fun c1 => ?_) (fun c1 => ?_)
 · have h := h.2 c1
   refine lv_iload_n hx hb d_Model_beside_14 rfl (lv_at hl 2 rfl) ?_
   refine lv_iconst (v := 2) hx hb d_Model_beside_15 (by decide) ?_
   refine lv_icmp_ne (tgt := 23) hx hb d_Model_beside_16 (by decide) (fun c2 => ?_) (fun c2 => ?_)
   · have h := h.2 c2
     refine lv_iconst (v := 0) hx hb d_Model_beside_23 (by decide) ?_
     exact cp_Model_beside_24 C K x1 x2 0 (x1 - x1 / (G.2.1 0) * (G.2.1 0)) u _ _ _ hP hS (lv_sub hl [0, 1, 2] rfl) h
   · have h := h.1 c2
     refine lv_iconst (v := -1) hx hb d_Model_beside_19 (by decide) ?_
     refine lv_goto (tgt := 24) hx hb d_Model_beside_20 (by decide) ?_
     exact cp_Model_beside_24 C K x1 x2 (-1) (x1 - x1 / (G.2.1 0) * (G.2.1 0)) u _ _ _ hP hS (lv_sub hl [0, 1, 2] rfl) h
 · have h := h.1 c1
   refine lv_iconst (v := 1) hx hb d_Model_beside_10 (by decide) ?_
   refine lv_goto (tgt := 24) hx hb d_Model_beside_11 (by decide) ?_
   exact cp_Model_beside_24 C K x1 x2 1 (x1 - x1 / (G.2.1 0) * (G.2.1 0)) u _ _ _ hP hS (lv_sub hl [0, 1, 2] rfl) h
set_option maxHeartbeats 4000000 in
set_option maxRecDepth 100000 in
theorem ct_Model_beside (l : Launch) (D : va_G) (a : Nat → Nat) (cA cZ : ClassId) (G : pG) (sz : Nat) (x1 x2 : Int32) (u : pS) (Q : Int32 → pS → Prop) (hI : pw_I 15 a) (h : wp_Model_beside G x1 x2 u Q) : Met l y_Model_beside w_Model_beside ({ frames := 1, cells := 0, slots := 0, locals := 22 } : Room) (va_Pc [.ref (a 0), .int x1, .int x2] (pw_pre D (rw a cA cZ G) (rT cA cZ) sz u)) (va_Qi (fun (r : Int32) (u : pS) => Q r u) (pw_B D (rw a cA cZ G) (rT cA cZ)) (pw_F 15 a sz)) 0 0 (pw_F 15 a sz) := by
 refine Met.ofW (cc := b_Model_beside) (maxL := 5) (ret := (some .int)) (by decide) rfl ?_
 intro p e s m args below meth c s₁ B hml hv
 obtain ⟨rfl, hsz, hP, hK⟩ := hv
 subst hsz
 have hl := lv_entry ([.ref (a 0), .int x1, .int x2]) (n := 5) (Nat.le_of_ble_eq_true rfl)
 rw [lg_entry_eq]
 generalize (lg_sl ([.ref (a 0), .int x1, .int x2]) ++ List.replicate (5 - (lg_sl ([.ref (a 0), .int x1, .int x2])).length) Slot.unset).toArray = ls at hl ⊢
 exact st_Model_beside (A := (pw_F 15 a s.heap.size)) ⟨B.exec, B.bytes, B.returns, hml, findClass_of_methodNamed B.named, atoms_spec (ws := w_Model_beside) B.pre, B.notSynchronized, fun q hq => Or.inr hq⟩ ⟨hK, hI, fun k hk => Or.inl ⟨k, hk, rfl⟩⟩ x1 x2 u ls hP hl h
set_option maxHeartbeats 4000000 in
set_option maxRecDepth 100000 in
theorem cp_Model_lower_9 {p : Program} {l : Launch} {e : Env} {s : State} {m : MethodId} {args : Array Value} {below : List Frame} {meth : Method} {c : Code} {D : va_G} {a : Nat → Nat} {cA cZ : ClassId} {G : pG} {A : Nat → Prop} {Q : Int32 → pS → Prop} (C : pw_C p s m args meth c b_Model_lower 5 R_Model (some .boolean) w_Model_lower A) (K : pw_K s D 15 a (rT cA cZ) A) : ∀ (n : Nat), ∀ (x1 x2 x3 : Int32) (u : pS) (H : Heap) (locs : List Loc) (ls : Array Slot), va_P D vwCl (rw a cA cZ G u) H → va_S A s.heap H locs → lv_has ls 5 [(0, .ref (a 0)), (1, .int x1), (2, .int x2), (3, .int x3)] → lp_Model_lower_9 G Q n x1 x2 x3 u → W p l e ({ frames := 2, cells := 0, slots := 0, locals := 46 } : Room) s m args below meth c H locs 0 0 (pw_Ei below args s D (rw a cA cZ G) (rT cA cZ) A Q) (F0 m 9 ls []) := by
 obtain ⟨hx, hb, hr, hml, hown, hts, hlocks, hA⟩ := id C
 obtain ⟨hK, hI, hF⟩ := id K
 have hD : ∀ u, va_D A (rw a cA cZ G u) := fun u => rw_D hI hF
 intro n
 induction n with
 | zero => intro x1 x2 x3 u H locs ls hP hS hl h; exact h.elim
 | succ n ih =>
   intro x1 x2 x3 u H locs ls hP hS hl h
   refine lv_iload_n hx hb d_Model_lower_9 rfl (lv_at hl 3 rfl) ?_
   refine lv_iconst (v := 4) hx hb d_Model_lower_10 (by decide) ?_
   refine lv_icmp_ge (tgt := 68) hx hb d_Model_lower_11 (by decide) (fun c2 => ?_) (fun c2 => ?_)
   · have h := h.1 c2
     refine lv_iload_n hx hb d_Model_lower_68 rfl (lv_at hl 2 rfl) ?_
     refine lv_aload_n hx hb d_Model_lower_69 rfl (lv_at hl 0 rfl) ?_
     refine va_get (D := D) (ci := 1) (v := .ref (a 4)) (C := R_Model) (T := T_Model) (N := 23) hx hb hts in_Model hown hK hP 0 rw_at_0 rfl 7 (by decide) (hts _ (List.mem_cons_of_mem _ kw_842)) (fun _ h9 => h9) rfl d_Model_lower_70 ?_
     refine lv_iload_n hx hb d_Model_lower_73 rfl (lv_at hl 1 rfl) ?_
     refine va_iald hx hb hK hP 4 0 rw_at_4 rfl h.1 d_Model_lower_74 ?_
     have h := h.2
     refine lv_icmp_ge (tgt := 82) hx hb d_Model_lower_75 (by decide) (fun c3 => ?_) (fun c3 => ?_)
     · have h := h.1 c3
       refine lv_iconst (v := 0) hx hb d_Model_lower_82 (by decide) ?_
       refine lv_istore_n (lv' := [(3, .int 0), (0, .ref (a 0)), (1, .int x1), (2, .int x2)]) hx hb d_Model_lower_83 rfl hl (by decide) rfl (fun ls hl => ?_)
       refine lv_aload_n hx hb d_Model_lower_84 rfl (lv_at hl 1 rfl) ?_
       refine va_get (D := D) (ci := 1) (v := .ref (a 4)) (C := R_Model) (T := T_Model) (N := 23) hx hb hts in_Model hown hK hP 0 rw_at_0 rfl 7 (by decide) (hts _ (List.mem_cons_of_mem _ kw_842)) (fun _ h9 => h9) rfl d_Model_lower_85 ?_
       refine lv_iload_n hx hb d_Model_lower_88 rfl (lv_at hl 2 rfl) ?_
       refine lv_iload_n hx hb d_Model_lower_89 rfl (lv_at hl 3 rfl) ?_
       refine va_iast hx hb hK hP (hD _) hS 4 0 rw_at_4 rfl h.1 d_Model_lower_90 (fun H locs hP _ hS => ?_)
       obtain ⟨u4, eu4⟩ : ∃ z, z = pw_sa u 3 (upd (u.2 3) x1.toNatClampNeg x2) := ⟨_, rfl⟩
       rw [rw_sa_4, ← eu4] at hP
       have h := h.2 u4 eu4
       refine lv_iload_n hx hb d_Model_lower_91 rfl (lv_at hl 0 rfl) ?_
       exact W.zret (v := 0) hx hb hr rfl (fun t ht hW => ⟨⟨0, u4, rfl, h, by rw [ht]; exact hP, va_K.moved hW.alike hK⟩, hS.F ht⟩) hS.2.2 d_Model_lower_92 hlocks
     · have h := h.2 c3
       refine lv_iconst (v := 1) hx hb d_Model_lower_78 (by decide) ?_
       refine lv_goto (tgt := 83) hx hb d_Model_lower_79 (by decide) ?_
       refine lv_istore_n (lv' := [(3, .int 1), (0, .ref (a 0)), (1, .int x1), (2, .int x2)]) hx hb d_Model_lower_83 rfl hl (by decide) rfl (fun ls hl => ?_)
       refine lv_aload_n hx hb d_Model_lower_84 rfl (lv_at hl 1 rfl) ?_
       refine va_get (D := D) (ci := 1) (v := .ref (a 4)) (C := R_Model) (T := T_Model) (N := 23) hx hb hts in_Model hown hK hP 0 rw_at_0 rfl 7 (by decide) (hts _ (List.mem_cons_of_mem _ kw_842)) (fun _ h9 => h9) rfl d_Model_lower_85 ?_
       refine lv_iload_n hx hb d_Model_lower_88 rfl (lv_at hl 2 rfl) ?_
       refine lv_iload_n hx hb d_Model_lower_89 rfl (lv_at hl 3 rfl) ?_
       refine va_iast hx hb hK hP (hD _) hS 4 0 rw_at_4 rfl h.1 d_Model_lower_90 (fun H locs hP _ hS => ?_)
       obtain ⟨u5, eu5⟩ : ∃ z, z = pw_sa u 3 (upd (u.2 3) x1.toNatClampNeg x2) := ⟨_, rfl⟩
       rw [rw_sa_4, ← eu5] at hP
       have h := h.2 u5 eu5
       refine lv_iload_n hx hb d_Model_lower_91 rfl (lv_at hl 0 rfl) ?_
       exact W.zret (v := 1) hx hb hr rfl (fun t ht hW => ⟨⟨1, u5, rfl, h, by rw [ht]; exact hP, va_K.moved hW.alike hK⟩, hS.F ht⟩) hS.2.2 d_Model_lower_92 hlocks
   · have h := h.2 c2
     refine lv_aload_n hx hb d_Model_lower_14 rfl (lv_at hl 0 rfl) ?_
     refine lv_iload_n hx hb d_Model_lower_15 rfl (lv_at hl 1 rfl) ?_
     refine lv_iload_n hx hb d_Model_lower_16 rfl (lv_at hl 3 rfl) ?_
     refine cc_i (va_runV (As := [.int x1, .int x3]) (rest := []) ⟨hx, hb, hml, hown, hts⟩ (ct_Model_beside l D a cA cZ G _ x1 x3 u _ hI h) (pw_cwV 2 hts kw_947 kw_57 kw_944 kw_946 kw_28 (by decide +kernel) ⟨Nat.le_of_ble_eq_true rfl, Nat.le_of_ble_eq_true rfl⟩) ⟨pw_blind, va_recv hK hP (ci := 1) (q0 := 0) rfl rw_at_0, fun U hU hW => ⟨rfl, by rw [hU], by rw [hU]; exact hP, va_K.moved hW.alike hK⟩⟩ rfl rfl hl.1 rfl (lv_room (Nat.le_of_ble_eq_true rfl)) d_Model_lower_17 ⟨Nat.le_of_ble_eq_true rfl, Nat.le_of_ble_eq_true rfl⟩) hS hF hA (fun r7 u6 H locs hP hS h => ?_)
     refine lv_istore (lv' := [(4, .int r7), (0, .ref (a 0)), (1, .int x1), (2, .int x2), (3, .int x3)]) hx hb d_Model_lower_20 hl (by decide) rfl (fun ls hl => ?_)
     refine lv_iload hx hb d_Model_lower_22 (lv_at hl 0 rfl) ?_
     refine lv_if_lt (tgt := 62) hx hb d_Model_lower_24 (by decide) (fun c8 => ?_) (fun c8 => ?_)
     · have h := h.1 c8
       obtain ⟨t9, et9⟩ : ∃ y : Int32, y = x3 + 1 := ⟨_, rfl⟩
       have h := h t9 et9
       refine lv_iinc (v := t9) (lv' := [(3, .int t9), (4, .int r7), (0, .ref (a 0)), (1, .int x1), (2, .int x2)]) hx hb d_Model_lower_62 hl (k := 4) rfl (by rw [et9]; rfl) (by decide) rfl (fun ls hl => ?_)
       refine lv_goto (tgt := 9) hx hb d_Model_lower_65 (by decide) ?_
       exact ih x1 x2 t9 u6 _ _ _ hP hS (lv_sub hl [2, 3, 4, 0] rfl) h
     · have h := h.2 c8
       refine lv_aload_n hx hb d_Model_lower_27 rfl (lv_at hl 1 rfl) ?_
       refine va_get (D := D) (ci := 1) (v := .ref (a 3)) (C := R_Model) (T := T_Model) (N := 23) hx hb hts in_Model hown hK hP 0 rw_at_0 rfl 6 (by decide) (hts _ (List.mem_cons_of_mem _ kw_841)) (fun _ h9 => h9) rfl d_Model_lower_28 ?_
       refine lv_iload hx hb d_Model_lower_31 (lv_at hl 0 rfl) ?_
       refine va_iald hx hb hK hP 3 0 rw_at_3 rfl h.1 d_Model_lower_33 ?_
       have h := h.2
       refine lv_aload_n hx hb d_Model_lower_34 rfl (lv_at hl 1 rfl) ?_
       refine va_get (D := D) (ci := 1) (v := .ref (a 3)) (C := R_Model) (T := T_Model) (N := 23) hx hb hts in_Model hown hK hP 0 rw_at_0 rfl 6 (by decide) (hts _ (List.mem_cons_of_mem _ kw_841)) (fun _ h9 => h9) rfl d_Model_lower_35 ?_
       refine lv_iload_n hx hb d_Model_lower_38 rfl (lv_at hl 2 rfl) ?_
       refine va_iald hx hb hK hP 3 0 rw_at_3 rfl h.1 d_Model_lower_39 ?_
       have h := h.2
       refine lv_icmp_ne (tgt := 62) hx hb d_Model_lower_40 (by decide) (fun c10 => ?_) (fun c10 => ?_)
       · have h := h.2 c10
         obtain ⟨t11, et11⟩ : ∃ y : Int32, y = x3 + 1 := ⟨_, rfl⟩
         have h := h t11 et11
         refine lv_iinc (v := t11) (lv' := [(3, .int t11), (4, .int r7), (0, .ref (a 0)), (1, .int x1), (2, .int x2)]) hx hb d_Model_lower_62 hl (k := 4) rfl (by rw [et11]; rfl) (by decide) rfl (fun ls hl => ?_)
         refine lv_goto (tgt := 9) hx hb d_Model_lower_65 (by decide) ?_
         exact ih x1 x2 t11 u6 _ _ _ hP hS (lv_sub hl [2, 3, 4, 0] rfl) h
       · have h := h.1 c10
         refine lv_aload_n hx hb d_Model_lower_43 rfl (lv_at hl 1 rfl) ?_
         refine va_get (D := D) (ci := 1) (v := .ref (a 4)) (C := R_Model) (T := T_Model) (N := 23) hx hb hts in_Model hown hK hP 0 rw_at_0 rfl 7 (by decide) (hts _ (List.mem_cons_of_mem _ kw_842)) (fun _ h9 => h9) rfl d_Model_lower_44 ?_
         refine lv_iload hx hb d_Model_lower_47 (lv_at hl 0 rfl) ?_
         refine va_iald hx hb hK hP 4 0 rw_at_4 rfl h.1 d_Model_lower_49 ?_
         have h := h.2
         refine lv_iload_n hx hb d_Model_lower_50 rfl (lv_at hl 3 rfl) ?_
         refine lv_icmp_ge (tgt := 62) hx hb d_Model_lower_51 (by decide) (fun c12 => ?_) (fun c12 => ?_)
         · have h := h.1 c12
           obtain ⟨t13, et13⟩ : ∃ y : Int32, y = x3 + 1 := ⟨_, rfl⟩
           have h := h t13 et13
           refine lv_iinc (v := t13) (lv' := [(3, .int t13), (4, .int r7), (0, .ref (a 0)), (1, .int x1), (2, .int x2)]) hx hb d_Model_lower_62 hl (k := 4) rfl (by rw [et13]; rfl) (by decide) rfl (fun ls hl => ?_)
           refine lv_goto (tgt := 9) hx hb d_Model_lower_65 (by decide) ?_
           exact ih x1 x2 t13 u6 _ _ _ hP hS (lv_sub hl [2, 3, 4, 0] rfl) h
         · have h := h.2 c12
           refine lv_aload_n hx hb d_Model_lower_54 rfl (lv_at hl 1 rfl) ?_
           refine va_get (D := D) (ci := 1) (v := .ref (a 4)) (C := R_Model) (T := T_Model) (N := 23) hx hb hts in_Model hown hK hP 0 rw_at_0 rfl 7 (by decide) (hts _ (List.mem_cons_of_mem _ kw_842)) (fun _ h9 => h9) rfl d_Model_lower_55 ?_
           refine lv_iload hx hb d_Model_lower_58 (lv_at hl 0 rfl) ?_
           refine va_iald hx hb hK hP 4 0 rw_at_4 rfl h.1 d_Model_lower_60 ?_
           have h := h.2
           refine lv_topi (fun t14 et14 => ?_)
           have h := h t14 et14
           refine lv_istore_n (lv' := [(2, .int t14), (4, .int r7), (0, .ref (a 0)), (1, .int x1), (3, .int x3)]) hx hb d_Model_lower_61 rfl hl (by decide) rfl (fun ls hl => ?_)
           obtain ⟨t15, et15⟩ : ∃ y : Int32, y = x3 + 1 := ⟨_, rfl⟩
           have h := h t15 et15
           refine lv_iinc (v := t15) (lv' := [(3, .int t15), (2, .int t14), (4, .int r7), (0, .ref (a 0)), (1, .int x1)]) hx hb d_Model_lower_62 hl (k := 4) rfl (by rw [et15]; rfl) (by decide) rfl (fun ls hl => ?_)
           refine lv_goto (tgt := 9) hx hb d_Model_lower_65 (by decide) ?_
           exact ih x1 t14 t15 u6 _ _ _ hP hS (lv_sub hl [3, 4, 1, 0] rfl) h
set_option maxHeartbeats 4000000 in
set_option maxRecDepth 100000 in
theorem st_Model_lower {p : Program} {l : Launch} {e : Env} {s : State} {m : MethodId} {args : Array Value} {below : List Frame} {meth : Method} {c : Code} {D : va_G} {a : Nat → Nat} {cA cZ : ClassId} {G : pG} {A : Nat → Prop} {Q : Int32 → pS → Prop} (C : pw_C p s m args meth c b_Model_lower 5 R_Model (some .boolean) w_Model_lower A) (K : pw_K s D 15 a (rT cA cZ) A) (x1 : Int32) (u : pS) (ls : Array Slot) (hP : va_P D vwCl (rw a cA cZ G u) s.heap) (hl : lv_has ls 5 [(0, .ref (a 0)), (1, .int x1)]) (h : wp_Model_lower G x1 u Q) : W p l e ({ frames := 2, cells := 0, slots := 0, locals := 46 } : Room) s m args below meth c s.heap [] 0 0 (pw_Ei below args s D (rw a cA cZ G) (rT cA cZ) A Q) (F0 m 0 ls []) := by
 obtain ⟨hx, hb, hr, hml, hown, hts, hlocks, hA⟩ := id C
 obtain ⟨hK, hI, hF⟩ := id K
 have hD : ∀ u, va_D A (rw a cA cZ G u) := fun u => rw_D hI hF
 have hS : va_S A s.heap s.heap [] := va_S.rf
 have h : wp_Model_lower G x1 u Q := h
 refine lv_aload_n hx hb d_Model_lower_0 rfl (lv_at hl 0 rfl) ?_
 refine va_get (D := D) (ci := 1) (v := .ref (a 4)) (C := R_Model) (T := T_Model) (N := 23) hx hb hts in_Model hown hK hP 0 rw_at_0 rfl 7 (by decide) (hts _ (List.mem_cons_of_mem _ kw_842)) (fun _ h9 => h9) rfl d_Model_lower_1 ?_
 refine lv_iload_n hx hb d_Model_lower_4 rfl (lv_at hl 1 rfl) ?_
 refine va_iald hx hb hK hP 4 0 rw_at_4 rfl h.1 d_Model_lower_5 ?_
 have h := h.2
 refine lv_topi (fun t1 et1 => ?_)
 have h := h t1 et1
 refine lv_istore_n (lv' := [(2, .int t1), (0, .ref (a 0)), (1, .int x1)]) hx hb d_Model_lower_6 rfl hl (by decide) rfl (fun ls hl => ?_)
 refine lv_iconst (v := 0) hx hb d_Model_lower_7 (by decide) ?_
 refine lv_istore_n (lv' := [(3, .int 0), (2, .int t1), (0, .ref (a 0)), (1, .int x1)]) hx hb d_Model_lower_8 rfl hl (by decide) rfl (fun ls hl => ?_)
 obtain ⟨n1, h⟩ := h
 exact cp_Model_lower_9 C K n1 x1 t1 0 u _ _ _ hP hS (lv_sub hl [2, 3, 1, 0] rfl) h
set_option maxHeartbeats 4000000 in
set_option maxRecDepth 100000 in
theorem ct_Model_lower (l : Launch) (D : va_G) (a : Nat → Nat) (cA cZ : ClassId) (G : pG) (sz : Nat) (x1 : Int32) (u : pS) (Q : Int32 → pS → Prop) (hI : pw_I 15 a) (h : wp_Model_lower G x1 u Q) : Met l y_Model_lower w_Model_lower ({ frames := 2, cells := 0, slots := 0, locals := 46 } : Room) (va_Pc [.ref (a 0), .int x1] (pw_pre D (rw a cA cZ G) (rT cA cZ) sz u)) (va_Qi (fun (r : Int32) (u : pS) => Q r u) (pw_B D (rw a cA cZ G) (rT cA cZ)) (pw_F 15 a sz)) 0 0 (pw_F 15 a sz) := by
 refine Met.ofW (cc := b_Model_lower) (maxL := 5) (ret := (some .boolean)) (by decide) rfl ?_
 intro p e s m args below meth c s₁ B hml hv
 obtain ⟨rfl, hsz, hP, hK⟩ := hv
 subst hsz
 have hl := lv_entry ([.ref (a 0), .int x1]) (n := 5) (Nat.le_of_ble_eq_true rfl)
 rw [lg_entry_eq]
 generalize (lg_sl ([.ref (a 0), .int x1]) ++ List.replicate (5 - (lg_sl ([.ref (a 0), .int x1])).length) Slot.unset).toArray = ls at hl ⊢
 exact st_Model_lower (A := (pw_F 15 a s.heap.size)) ⟨B.exec, B.bytes, B.returns, hml, findClass_of_methodNamed B.named, atoms_spec (ws := w_Model_lower) B.pre, B.notSynchronized, fun q hq => Or.inr hq⟩ ⟨hK, hI, fun k hk => Or.inl ⟨k, hk, rfl⟩⟩ x1 u ls hP hl h
set_option maxHeartbeats 4000000 in
set_option maxRecDepth 100000 in
theorem cp_Model_makePieces_80 {p : Program} {l : Launch} {e : Env} {s : State} {m : MethodId} {args : Array Value} {below : List Frame} {meth : Method} {c : Code} {D : va_G} {a : Nat → Nat} {cA cZ : ClassId} {G : pG} {A : Nat → Prop} {Q : pS → Prop} (C : pw_C p s m args meth c b_Model_makePieces 4 R_Model none w_Model_makePieces A) (K : pw_K s D 15 a (rT cA cZ) A) {k39 : Int32 → Int32 → pS → Prop} (hk39 : ∀ (x1 x2 : Int32) (u : pS) (H : Heap) (locs : List Loc) (ls : Array Slot), va_P D vwCl (rw a cA cZ G u) H → va_S A s.heap H locs → lv_has ls 4 [(0, .ref (a 0)), (1, .int x1), (2, .int x2)] → k39 x1 x2 u → W p l e ({ frames := 3, cells := 0, slots := 0, locals := 70 } : Room) s m args below meth c H locs 0 0 (pw_Ev below args s D (rw a cA cZ G) (rT cA cZ) A Q) (F0 m 39 ls [])) : ∀ (n : Nat), ∀ (x1 x2 x3 : Int32) (u : pS) (H : Heap) (locs : List Loc) (ls : Array Slot), va_P D vwCl (rw a cA cZ G u) H → va_S A s.heap H locs → lv_has ls 4 [(0, .ref (a 0)), (1, .int x1), (2, .int x2), (3, .int x3)] → lp_Model_makePieces_80 G Q k39 n x1 x2 x3 u → W p l e ({ frames := 3, cells := 0, slots := 0, locals := 70 } : Room) s m args below meth c H locs 0 0 (pw_Ev below args s D (rw a cA cZ G) (rT cA cZ) A Q) (F0 m 80 ls []) := by
 obtain ⟨hx, hb, hr, hml, hown, hts, hlocks, hA⟩ := id C
 obtain ⟨hK, hI, hF⟩ := id K
 have hD : ∀ u, va_D A (rw a cA cZ G u) := fun u => rw_D hI hF
 intro n
 induction n with
 | zero => intro x1 x2 x3 u H locs ls hP hS hl h; exact h.elim
 | succ n ih =>
   intro x1 x2 x3 u H locs ls hP hS hl h
   refine lv_iload_n hx hb d_Model_makePieces_80 rfl (lv_at hl 3 rfl) ?_
   refine lv_if_lt (tgt := 108) hx hb d_Model_makePieces_81 (by decide) (fun c14 => ?_) (fun c14 => ?_)
   · have h := h.1 c14
     refine lv_goto (tgt := 39) hx hb d_Model_makePieces_108 (by decide) ?_
     exact hk39 x1 x2 u _ _ _ hP hS (lv_sub hl [0, 1, 2] rfl) h
   · have h := h.2 c14
     refine lv_aload_n hx hb d_Model_makePieces_84 rfl (lv_at hl 0 rfl) ?_
     refine lv_iload_n hx hb d_Model_makePieces_85 rfl (lv_at hl 3 rfl) ?_
     refine cc_i (va_runV (As := [.int x3]) (rest := []) ⟨hx, hb, hml, hown, hts⟩ (ct_Model_lower l D a cA cZ G _ x3 u _ hI h) (pw_cwV 1 hts kw_943 kw_57 kw_940 kw_942 kw_27 (by decide +kernel) ⟨Nat.le_of_ble_eq_true rfl, Nat.le_of_ble_eq_true rfl⟩) ⟨pw_blind, va_recv hK hP (ci := 1) (q0 := 0) rfl rw_at_0, fun U hU hW => ⟨rfl, by rw [hU], by rw [hU]; exact hP, va_K.moved hW.alike hK⟩⟩ rfl rfl hl.1 rfl (lv_room (Nat.le_of_ble_eq_true rfl)) d_Model_makePieces_86 ⟨Nat.le_of_ble_eq_true rfl, Nat.le_of_ble_eq_true rfl⟩) hS hF hA (fun r16 u15 H locs hP hS h => ?_)
     refine lv_if_ne (tgt := 96) hx hb d_Model_makePieces_89 (by decide) (fun c17 => ?_) (fun c17 => ?_)
     · have h := h.2 c17
       refine lv_iconst (v := 1) hx hb d_Model_makePieces_96 (by decide) ?_
       refine lv_goto (tgt := 101) hx hb d_Model_makePieces_97 (by decide) ?_
       refine lv_istore_n (lv' := [(2, .int 1), (0, .ref (a 0)), (1, .int x1), (3, .int x3)]) hx hb d_Model_makePieces_101 rfl hl (by decide) rfl (fun ls hl => ?_)
       obtain ⟨t18, et18⟩ : ∃ y : Int32, y = x3 + (-1) := ⟨_, rfl⟩
       have h := h t18 et18
       refine lv_iinc (v := t18) (lv' := [(3, .int t18), (2, .int 1), (0, .ref (a 0)), (1, .int x1)]) hx hb d_Model_makePieces_102 hl (k := 3) rfl (by rw [et18]; rfl) (by decide) rfl (fun ls hl => ?_)
       refine lv_goto (tgt := 80) hx hb d_Model_makePieces_105 (by decide) ?_
       exact ih x1 1 t18 u15 _ _ _ hP hS (lv_sub hl [2, 3, 1, 0] rfl) h
     · have h := h.1 c17
       refine lv_iload_n hx hb d_Model_makePieces_92 rfl (lv_at hl 2 rfl) ?_
       refine lv_if_eq (tgt := 100) hx hb d_Model_makePieces_93 (by decide) (fun c19 => ?_) (fun c19 => ?_)
       · have h := h.1 c19
         refine lv_iconst (v := 0) hx hb d_Model_makePieces_100 (by decide) ?_
         refine lv_istore_n (lv' := [(2, .int 0), (0, .ref (a 0)), (1, .int x1), (3, .int x3)]) hx hb d_Model_makePieces_101 rfl hl (by decide) rfl (fun ls hl => ?_)
         obtain ⟨t20, et20⟩ : ∃ y : Int32, y = x3 + (-1) := ⟨_, rfl⟩
         have h := h t20 et20
         refine lv_iinc (v := t20) (lv' := [(3, .int t20), (2, .int 0), (0, .ref (a 0)), (1, .int x1)]) hx hb d_Model_makePieces_102 hl (k := 3) rfl (by rw [et20]; rfl) (by decide) rfl (fun ls hl => ?_)
         refine lv_goto (tgt := 80) hx hb d_Model_makePieces_105 (by decide) ?_
         exact ih x1 0 t20 u15 _ _ _ hP hS (lv_sub hl [2, 3, 1, 0] rfl) h
       · have h := h.2 c19
         refine lv_iconst (v := 1) hx hb d_Model_makePieces_96 (by decide) ?_
         refine lv_goto (tgt := 101) hx hb d_Model_makePieces_97 (by decide) ?_
         refine lv_istore_n (lv' := [(2, .int 1), (0, .ref (a 0)), (1, .int x1), (3, .int x3)]) hx hb d_Model_makePieces_101 rfl hl (by decide) rfl (fun ls hl => ?_)
         obtain ⟨t21, et21⟩ : ∃ y : Int32, y = x3 + (-1) := ⟨_, rfl⟩
         have h := h t21 et21
         refine lv_iinc (v := t21) (lv' := [(3, .int t21), (2, .int 1), (0, .ref (a 0)), (1, .int x1)]) hx hb d_Model_makePieces_102 hl (k := 3) rfl (by rw [et21]; rfl) (by decide) rfl (fun ls hl => ?_)
         refine lv_goto (tgt := 80) hx hb d_Model_makePieces_105 (by decide) ?_
         exact ih x1 1 t21 u15 _ _ _ hP hS (lv_sub hl [2, 3, 1, 0] rfl) h
set_option maxHeartbeats 4000000 in
set_option maxRecDepth 100000 in
theorem cp_Model_makePieces_118 {p : Program} {l : Launch} {e : Env} {s : State} {m : MethodId} {args : Array Value} {below : List Frame} {meth : Method} {c : Code} {D : va_G} {a : Nat → Nat} {cA cZ : ClassId} {G : pG} {A : Nat → Prop} {Q : pS → Prop} (C : pw_C p s m args meth c b_Model_makePieces 4 R_Model none w_Model_makePieces A) (K : pw_K s D 15 a (rT cA cZ) A) : ∀ (n : Nat), ∀ (x1 x3 : Int32) (u : pS) (H : Heap) (locs : List Loc) (ls : Array Slot), va_P D vwCl (rw a cA cZ G u) H → va_S A s.heap H locs → lv_has ls 4 [(0, .ref (a 0)), (1, .int x1), (3, .int x3)] → lp_Model_makePieces_118 G Q n x1 x3 u → W p l e ({ frames := 3, cells := 0, slots := 0, locals := 70 } : Room) s m args below meth c H locs 0 0 (pw_Ev below args s D (rw a cA cZ G) (rT cA cZ) A Q) (F0 m 118 ls []) := by
 obtain ⟨hx, hb, hr, hml, hown, hts, hlocks, hA⟩ := id C
 obtain ⟨hK, hI, hF⟩ := id K
 have hD : ∀ u, va_D A (rw a cA cZ G u) := fun u => rw_D hI hF
 intro n
 induction n with
 | zero => intro x1 x3 u H locs ls hP hS hl h; exact h.elim
 | succ n ih =>
   intro x1 x3 u H locs ls hP hS hl h
   refine lv_iload_n hx hb d_Model_makePieces_118 rfl (lv_at hl 2 rfl) ?_
   refine lv_iload_n hx hb d_Model_makePieces_119 rfl (lv_at hl 1 rfl) ?_
   refine lv_icmp_ge (tgt := 174) hx hb d_Model_makePieces_120 (by decide) (fun c5 => ?_) (fun c5 => ?_)
   · have h := h.1 c5
     exact W.vret hx hb hr (fun t ht hW => ⟨⟨u, rfl, h, by rw [ht]; exact hP, va_K.moved hW.alike hK⟩, hS.F ht⟩) hS.2.2 d_Model_makePieces_174 hlocks
   · have h := h.2 c5
     refine lv_aload_n hx hb d_Model_makePieces_123 rfl (lv_at hl 0 rfl) ?_
     refine va_get (D := D) (ci := 1) (v := .ref (a 6)) (C := R_Model) (T := T_Model) (N := 23) hx hb hts in_Model hown hK hP 0 rw_at_0 rfl 10 (by decide) (hts _ (List.mem_cons_of_mem _ kw_845)) (fun _ h9 => h9) rfl d_Model_makePieces_124 ?_
     refine lv_aload_n hx hb d_Model_makePieces_127 rfl (lv_at hl 0 rfl) ?_
     refine va_get (D := D) (ci := 1) (v := .ref (a 4)) (C := R_Model) (T := T_Model) (N := 23) hx hb hts in_Model hown hK hP 0 rw_at_0 rfl 7 (by decide) (hts _ (List.mem_cons_of_mem _ kw_842)) (fun _ h9 => h9) rfl d_Model_makePieces_128 ?_
     refine lv_iload_n hx hb d_Model_makePieces_131 rfl (lv_at hl 2 rfl) ?_
     refine va_iald hx hb hK hP 4 0 rw_at_4 rfl h.1 d_Model_makePieces_132 ?_
     have h := h.2
     refine lv_dup2_11 hx hb d_Model_makePieces_133 rfl rfl ?_
     refine va_iald hx hb hK hP 6 0 rw_at_6 rfl h.1 d_Model_makePieces_134 ?_
     have h := h.2
     refine lv_iconst (v := 1) hx hb d_Model_makePieces_135 (by decide) ?_
     refine lv_iadd hx hb d_Model_makePieces_136 ?_
     refine va_iast hx hb hK hP (hD _) hS 6 0 rw_at_6 rfl h.1 d_Model_makePieces_137 (fun H locs hP _ hS => ?_)
     obtain ⟨u6, eu6⟩ : ∃ z, z = pw_sa u 5 (upd (u.2 5) (u.2 3 x3.toNatClampNeg).toNatClampNeg ((u.2 5 (u.2 3 x3.toNatClampNeg).toNatClampNeg) + 1)) := ⟨_, rfl⟩
     rw [rw_sa_6, ← eu6] at hP
     have h := h.2 u6 eu6
     refine lv_aload_n hx hb d_Model_makePieces_138 rfl (lv_at hl 0 rfl) ?_
     refine va_get (D := D) (ci := 1) (v := .ref (a 4)) (C := R_Model) (T := T_Model) (N := 23) hx hb hts in_Model hown hK hP 0 rw_at_0 rfl 7 (by decide) (hts _ (List.mem_cons_of_mem _ kw_842)) (fun _ h9 => h9) rfl d_Model_makePieces_139 ?_
     refine lv_iload_n hx hb d_Model_makePieces_142 rfl (lv_at hl 2 rfl) ?_
     refine va_iald hx hb hK hP 4 0 rw_at_4 rfl h.1 d_Model_makePieces_143 ?_
     have h := h.2
     refine lv_iload_n hx hb d_Model_makePieces_144 rfl (lv_at hl 2 rfl) ?_
     refine lv_icmp_ne (tgt := 168) hx hb d_Model_makePieces_145 (by decide) (fun c7 => ?_) (fun c7 => ?_)
     · have h := h.2 c7
       obtain ⟨t8, et8⟩ : ∃ y : Int32, y = x3 + 1 := ⟨_, rfl⟩
       have h := h t8 et8
       refine lv_iinc (v := t8) (lv' := [(3, .int t8), (0, .ref (a 0)), (1, .int x1)]) hx hb d_Model_makePieces_168 hl (k := 2) rfl (by rw [et8]; rfl) (by decide) rfl (fun ls hl => ?_)
       refine lv_goto (tgt := 118) hx hb d_Model_makePieces_171 (by decide) ?_
       exact ih x1 t8 u6 _ _ _ hP hS (lv_sub hl [1, 2, 0] rfl) h
     · have h := h.1 c7
       refine lv_aload_n hx hb d_Model_makePieces_148 rfl (lv_at hl 0 rfl) ?_
       refine va_get (D := D) (ci := 1) (v := .ref (a 5)) (C := R_Model) (T := T_Model) (N := 23) hx hb hts in_Model hown hK hP 0 rw_at_0 rfl 9 (by decide) (hts _ (List.mem_cons_of_mem _ kw_844)) (fun _ h9 => h9) rfl d_Model_makePieces_149 ?_
       refine lv_aload_n hx hb d_Model_makePieces_152 rfl (lv_at hl 0 rfl) ?_
       refine va_get (D := D) (ci := 1) (v := .int (u6.1 1)) (C := R_Model) (T := T_Model) (N := 23) hx hb hts in_Model hown hK hP 0 rw_at_0 rfl 8 (by decide) (hts _ (List.mem_cons_of_mem _ kw_843)) (fun _ h9 => h9) rfl d_Model_makePieces_153 ?_
       refine lv_iload_n hx hb d_Model_makePieces_156 rfl (lv_at hl 2 rfl) ?_
       refine va_iast hx hb hK hP (hD _) hS 5 0 rw_at_5 rfl h.1 d_Model_makePieces_157 (fun H locs hP _ hS => ?_)
       obtain ⟨u9, eu9⟩ : ∃ z, z = pw_sa u6 4 (upd (u6.2 4) (u6.1 1).toNatClampNeg x3) := ⟨_, rfl⟩
       rw [rw_sa_5, ← eu9] at hP
       have h := h.2 u9 eu9
       refine lv_aload_n hx hb d_Model_makePieces_158 rfl (lv_at hl 0 rfl) ?_
       refine lv_dup hx hb d_Model_makePieces_159 rfl ?_
       refine va_get (D := D) (ci := 1) (v := .int (u9.1 1)) (C := R_Model) (T := T_Model) (N := 23) hx hb hts in_Model hown hK hP 0 rw_at_0 rfl 8 (by decide) (hts _ (List.mem_cons_of_mem _ kw_843)) (fun _ h9 => h9) rfl d_Model_makePieces_160 ?_
       refine lv_iconst (v := 1) hx hb d_Model_makePieces_163 (by decide) ?_
       refine lv_iadd hx hb d_Model_makePieces_164 ?_
       refine va_put (D := D) (ci := 1) (v := .int ((u9.1 1) + 1)) (ty := .int) (C := R_Model) (T := T_Model) (N := 23) hx hb hts in_Model ty_Model tyok_Model nm_Model hown hK hP (hD _) hS 0 rw_at_0 rfl 8 (by decide) (hts _ (List.mem_cons_of_mem _ kw_843)) (fun _ h9 => h9) rfl (by decide +kernel) rfl rfl (Nat.le_of_ble_eq_true rfl) d_Model_makePieces_165 (fun H locs hP _ hS => ?_)
       obtain ⟨u10, eu10⟩ : ∃ z, z = pw_si u9 1 ((u9.1 1) + 1) := ⟨_, rfl⟩
       rw [rw_si_0_8, ← eu10] at hP
       have h := h u10 eu10
       obtain ⟨t11, et11⟩ : ∃ y : Int32, y = x3 + 1 := ⟨_, rfl⟩
       have h := h t11 et11
       refine lv_iinc (v := t11) (lv' := [(3, .int t11), (0, .ref (a 0)), (1, .int x1)]) hx hb d_Model_makePieces_168 hl (k := 2) rfl (by rw [et11]; rfl) (by decide) rfl (fun ls hl => ?_)
       refine lv_goto (tgt := 118) hx hb d_Model_makePieces_171 (by decide) ?_
       exact ih x1 t11 u10 _ _ _ hP hS (lv_sub hl [1, 2, 0] rfl) h
set_option maxHeartbeats 4000000 in
set_option maxRecDepth 100000 in
theorem cp_Model_makePieces_47 {p : Program} {l : Launch} {e : Env} {s : State} {m : MethodId} {args : Array Value} {below : List Frame} {meth : Method} {c : Code} {D : va_G} {a : Nat → Nat} {cA cZ : ClassId} {G : pG} {A : Nat → Prop} {Q : pS → Prop} (C : pw_C p s m args meth c b_Model_makePieces 4 R_Model none w_Model_makePieces A) (K : pw_K s D 15 a (rT cA cZ) A) {k39 : Int32 → Int32 → pS → Prop} (hk39 : ∀ (x1 x2 : Int32) (u : pS) (H : Heap) (locs : List Loc) (ls : Array Slot), va_P D vwCl (rw a cA cZ G u) H → va_S A s.heap H locs → lv_has ls 4 [(0, .ref (a 0)), (1, .int x1), (2, .int x2)] → k39 x1 x2 u → W p l e ({ frames := 3, cells := 0, slots := 0, locals := 70 } : Room) s m args below meth c H locs 0 0 (pw_Ev below args s D (rw a cA cZ G) (rT cA cZ) A Q) (F0 m 39 ls [])) : ∀ (n : Nat), ∀ (x1 x2 x3 : Int32) (u : pS) (H : Heap) (locs : List Loc) (ls : Array Slot), va_P D vwCl (rw a cA cZ G u) H → va_S A s.heap H locs → lv_has ls 4 [(0, .ref (a 0)), (1, .int x1), (2, .int x2), (3, .int x3)] → lp_Model_makePieces_47 G Q k39 n x1 x2 x3 u → W p l e ({ frames := 3, cells := 0, slots := 0, locals := 70 } : Room) s m args below meth c H locs 0 0 (pw_Ev below args s D (rw a cA cZ G) (rT cA cZ) A Q) (F0 m 47 ls []) := by
 obtain ⟨hx, hb, hr, hml, hown, hts, hlocks, hA⟩ := id C
 obtain ⟨hK, hI, hF⟩ := id K
 have hD : ∀ u, va_D A (rw a cA cZ G u) := fun u => rw_D hI hF
 intro n
 induction n with
 | zero => intro x1 x2 x3 u H locs ls hP hS hl h; exact h.elim
 | succ n ih =>
   intro x1 x2 x3 u H locs ls hP hS hl h
   refine lv_iload_n hx hb d_Model_makePieces_47 rfl (lv_at hl 3 rfl) ?_
   refine lv_iload_n hx hb d_Model_makePieces_48 rfl (lv_at hl 1 rfl) ?_
   refine lv_icmp_ge (tgt := 76) hx hb d_Model_makePieces_49 (by decide) (fun c12 => ?_) (fun c12 => ?_)
   · have h := h.1 c12
     refine lv_iload_n hx hb d_Model_makePieces_76 rfl (lv_at hl 1 rfl) ?_
     refine lv_iconst (v := 1) hx hb d_Model_makePieces_77 (by decide) ?_
     refine lv_isub hx hb d_Model_makePieces_78 ?_
     refine lv_topi (fun t13 et13 => ?_)
     have h := h t13 et13
     refine lv_istore_n (lv' := [(3, .int t13), (0, .ref (a 0)), (1, .int x1), (2, .int x2)]) hx hb d_Model_makePieces_79 rfl hl (by decide) rfl (fun ls hl => ?_)
     obtain ⟨n1, h⟩ := h
     exact cp_Model_makePieces_80 C K hk39 n1 x1 x2 t13 u _ _ _ hP hS (lv_sub hl [1, 2, 3, 0] rfl) h
   · have h := h.2 c12
     refine lv_aload_n hx hb d_Model_makePieces_52 rfl (lv_at hl 0 rfl) ?_
     refine lv_iload_n hx hb d_Model_makePieces_53 rfl (lv_at hl 3 rfl) ?_
     refine cc_i (va_runV (As := [.int x3]) (rest := []) ⟨hx, hb, hml, hown, hts⟩ (ct_Model_lower l D a cA cZ G _ x3 u _ hI h) (pw_cwV 1 hts kw_943 kw_57 kw_940 kw_942 kw_27 (by decide +kernel) ⟨Nat.le_of_ble_eq_true rfl, Nat.le_of_ble_eq_true rfl⟩) ⟨pw_blind, va_recv hK hP (ci := 1) (q0 := 0) rfl rw_at_0, fun U hU hW => ⟨rfl, by rw [hU], by rw [hU]; exact hP, va_K.moved hW.alike hK⟩⟩ rfl rfl hl.1 rfl (lv_room (Nat.le_of_ble_eq_true rfl)) d_Model_makePieces_54 ⟨Nat.le_of_ble_eq_true rfl, Nat.le_of_ble_eq_true rfl⟩) hS hF hA (fun r23 u22 H locs hP hS h => ?_)
     refine lv_if_ne (tgt := 64) hx hb d_Model_makePieces_57 (by decide) (fun c24 => ?_) (fun c24 => ?_)
     · have h := h.2 c24
       refine lv_iconst (v := 1) hx hb d_Model_makePieces_64 (by decide) ?_
       refine lv_goto (tgt := 69) hx hb d_Model_makePieces_65 (by decide) ?_
       refine lv_istore_n (lv' := [(2, .int 1), (0, .ref (a 0)), (1, .int x1), (3, .int x3)]) hx hb d_Model_makePieces_69 rfl hl (by decide) rfl (fun ls hl => ?_)
       obtain ⟨t25, et25⟩ : ∃ y : Int32, y = x3 + 1 := ⟨_, rfl⟩
       have h := h t25 et25
       refine lv_iinc (v := t25) (lv' := [(3, .int t25), (2, .int 1), (0, .ref (a 0)), (1, .int x1)]) hx hb d_Model_makePieces_70 hl (k := 3) rfl (by rw [et25]; rfl) (by decide) rfl (fun ls hl => ?_)
       refine lv_goto (tgt := 47) hx hb d_Model_makePieces_73 (by decide) ?_
       exact ih x1 1 t25 u22 _ _ _ hP hS (lv_sub hl [2, 3, 1, 0] rfl) h
     · have h := h.1 c24
       refine lv_iload_n hx hb d_Model_makePieces_60 rfl (lv_at hl 2 rfl) ?_
       refine lv_if_eq (tgt := 68) hx hb d_Model_makePieces_61 (by decide) (fun c26 => ?_) (fun c26 => ?_)
       · have h := h.1 c26
         refine lv_iconst (v := 0) hx hb d_Model_makePieces_68 (by decide) ?_
         refine lv_istore_n (lv' := [(2, .int 0), (0, .ref (a 0)), (1, .int x1), (3, .int x3)]) hx hb d_Model_makePieces_69 rfl hl (by decide) rfl (fun ls hl => ?_)
         obtain ⟨t27, et27⟩ : ∃ y : Int32, y = x3 + 1 := ⟨_, rfl⟩
         have h := h t27 et27
         refine lv_iinc (v := t27) (lv' := [(3, .int t27), (2, .int 0), (0, .ref (a 0)), (1, .int x1)]) hx hb d_Model_makePieces_70 hl (k := 3) rfl (by rw [et27]; rfl) (by decide) rfl (fun ls hl => ?_)
         refine lv_goto (tgt := 47) hx hb d_Model_makePieces_73 (by decide) ?_
         exact ih x1 0 t27 u22 _ _ _ hP hS (lv_sub hl [2, 3, 1, 0] rfl) h
       · have h := h.2 c26
         refine lv_iconst (v := 1) hx hb d_Model_makePieces_64 (by decide) ?_
         refine lv_goto (tgt := 69) hx hb d_Model_makePieces_65 (by decide) ?_
         refine lv_istore_n (lv' := [(2, .int 1), (0, .ref (a 0)), (1, .int x1), (3, .int x3)]) hx hb d_Model_makePieces_69 rfl hl (by decide) rfl (fun ls hl => ?_)
         obtain ⟨t28, et28⟩ : ∃ y : Int32, y = x3 + 1 := ⟨_, rfl⟩
         have h := h t28 et28
         refine lv_iinc (v := t28) (lv' := [(3, .int t28), (2, .int 1), (0, .ref (a 0)), (1, .int x1)]) hx hb d_Model_makePieces_70 hl (k := 3) rfl (by rw [et28]; rfl) (by decide) rfl (fun ls hl => ?_)
         refine lv_goto (tgt := 47) hx hb d_Model_makePieces_73 (by decide) ?_
         exact ih x1 1 t28 u22 _ _ _ hP hS (lv_sub hl [2, 3, 1, 0] rfl) h
set_option maxHeartbeats 4000000 in
set_option maxRecDepth 100000 in
theorem cp_Model_makePieces_39 {p : Program} {l : Launch} {e : Env} {s : State} {m : MethodId} {args : Array Value} {below : List Frame} {meth : Method} {c : Code} {D : va_G} {a : Nat → Nat} {cA cZ : ClassId} {G : pG} {A : Nat → Prop} {Q : pS → Prop} (C : pw_C p s m args meth c b_Model_makePieces 4 R_Model none w_Model_makePieces A) (K : pw_K s D 15 a (rT cA cZ) A) : ∀ (n : Nat), ∀ (x1 x2 : Int32) (u : pS) (H : Heap) (locs : List Loc) (ls : Array Slot), va_P D vwCl (rw a cA cZ G u) H → va_S A s.heap H locs → lv_has ls 4 [(0, .ref (a 0)), (1, .int x1), (2, .int x2)] → lp_Model_makePieces_39 G Q n x1 x2 u → W p l e ({ frames := 3, cells := 0, slots := 0, locals := 70 } : Room) s m args below meth c H locs 0 0 (pw_Ev below args s D (rw a cA cZ G) (rT cA cZ) A Q) (F0 m 39 ls []) := by
 obtain ⟨hx, hb, hr, hml, hown, hts, hlocks, hA⟩ := id C
 obtain ⟨hK, hI, hF⟩ := id K
 have hD : ∀ u, va_D A (rw a cA cZ G u) := fun u => rw_D hI hF
 intro n
 induction n with
 | zero => intro x1 x2 u H locs ls hP hS hl h; exact h.elim
 | succ n ih =>
   intro x1 x2 u H locs ls hP hS hl h
   refine lv_iload_n hx hb d_Model_makePieces_39 rfl (lv_at hl 2 rfl) ?_
   refine lv_if_eq (tgt := 111) hx hb d_Model_makePieces_40 (by decide) (fun c3 => ?_) (fun c3 => ?_)
   · have h := h.1 c3
     refine lv_aload_n hx hb d_Model_makePieces_111 rfl (lv_at hl 0 rfl) ?_
     refine lv_iconst (v := 0) hx hb d_Model_makePieces_112 (by decide) ?_
     refine va_put (D := D) (ci := 1) (v := .int 0) (ty := .int) (C := R_Model) (T := T_Model) (N := 23) hx hb hts in_Model ty_Model tyok_Model nm_Model hown hK hP (hD _) hS 0 rw_at_0 rfl 8 (by decide) (hts _ (List.mem_cons_of_mem _ kw_843)) (fun _ h9 => h9) rfl (by decide +kernel) rfl rfl (Nat.le_of_ble_eq_true rfl) d_Model_makePieces_113 (fun H locs hP _ hS => ?_)
     obtain ⟨u4, eu4⟩ : ∃ z, z = pw_si u 1 0 := ⟨_, rfl⟩
     rw [rw_si_0_8, ← eu4] at hP
     have h := h u4 eu4
     refine lv_iconst (v := 0) hx hb d_Model_makePieces_116 (by decide) ?_
     refine lv_istore_n (lv' := [(3, .int 0), (0, .ref (a 0)), (1, .int x1), (2, .int x2)]) hx hb d_Model_makePieces_117 rfl hl (by decide) rfl (fun ls hl => ?_)
     obtain ⟨n1, h⟩ := h
     exact cp_Model_makePieces_118 C K n1 x1 0 u4 _ _ _ hP hS (lv_sub hl [1, 2, 0] rfl) h
   · have h := h.2 c3
     refine lv_iconst (v := 0) hx hb d_Model_makePieces_43 (by decide) ?_
     refine lv_istore_n (lv' := [(2, .int 0), (0, .ref (a 0)), (1, .int x1)]) hx hb d_Model_makePieces_44 rfl hl (by decide) rfl (fun ls hl => ?_)
     refine lv_iconst (v := 0) hx hb d_Model_makePieces_45 (by decide) ?_
     refine lv_istore_n (lv' := [(3, .int 0), (2, .int 0), (0, .ref (a 0)), (1, .int x1)]) hx hb d_Model_makePieces_46 rfl hl (by decide) rfl (fun ls hl => ?_)
     obtain ⟨n1, h⟩ := h
     exact cp_Model_makePieces_47 C K ih n1 x1 0 0 u _ _ _ hP hS (lv_sub hl [2, 3, 1, 0] rfl) h
set_option maxHeartbeats 4000000 in
set_option maxRecDepth 100000 in
theorem cp_Model_makePieces_12 {p : Program} {l : Launch} {e : Env} {s : State} {m : MethodId} {args : Array Value} {below : List Frame} {meth : Method} {c : Code} {D : va_G} {a : Nat → Nat} {cA cZ : ClassId} {G : pG} {A : Nat → Prop} {Q : pS → Prop} (C : pw_C p s m args meth c b_Model_makePieces 4 R_Model none w_Model_makePieces A) (K : pw_K s D 15 a (rT cA cZ) A) : ∀ (n : Nat), ∀ (x1 x2 : Int32) (u : pS) (H : Heap) (locs : List Loc) (ls : Array Slot), va_P D vwCl (rw a cA cZ G u) H → va_S A s.heap H locs → lv_has ls 4 [(0, .ref (a 0)), (1, .int x1), (2, .int x2)] → lp_Model_makePieces_12 G Q n x1 x2 u → W p l e ({ frames := 3, cells := 0, slots := 0, locals := 70 } : Room) s m args below meth c H locs 0 0 (pw_Ev below args s D (rw a cA cZ G) (rT cA cZ) A Q) (F0 m 12 ls []) := by
 obtain ⟨hx, hb, hr, hml, hown, hts, hlocks, hA⟩ := id C
 obtain ⟨hK, hI, hF⟩ := id K
 have hD : ∀ u, va_D A (rw a cA cZ G u) := fun u => rw_D hI hF
 intro n
 induction n with
 | zero => intro x1 x2 u H locs ls hP hS hl h; exact h.elim
 | succ n ih =>
   intro x1 x2 u H locs ls hP hS hl h
   refine lv_iload_n hx hb d_Model_makePieces_12 rfl (lv_at hl 2 rfl) ?_
   refine lv_iload_n hx hb d_Model_makePieces_13 rfl (lv_at hl 1 rfl) ?_
   refine lv_icmp_ge (tgt := 37) hx hb d_Model_makePieces_14 (by decide) (fun c2 => ?_) (fun c2 => ?_)
   · have h := h.1 c2
     refine lv_iconst (v := 1) hx hb d_Model_makePieces_37 (by decide) ?_
     refine lv_istore_n (lv' := [(2, .int 1), (0, .ref (a 0)), (1, .int x1)]) hx hb d_Model_makePieces_38 rfl hl (by decide) rfl (fun ls hl => ?_)
     obtain ⟨n1, h⟩ := h
     exact cp_Model_makePieces_39 C K n1 x1 1 u _ _ _ hP hS (lv_sub hl [1, 2, 0] rfl) h
   · have h := h.2 c2
     refine lv_aload_n hx hb d_Model_makePieces_17 rfl (lv_at hl 0 rfl) ?_
     refine va_get (D := D) (ci := 1) (v := .ref (a 4)) (C := R_Model) (T := T_Model) (N := 23) hx hb hts in_Model hown hK hP 0 rw_at_0 rfl 7 (by decide) (hts _ (List.mem_cons_of_mem _ kw_842)) (fun _ h9 => h9) rfl d_Model_makePieces_18 ?_
     refine lv_iload_n hx hb d_Model_makePieces_21 rfl (lv_at hl 2 rfl) ?_
     refine lv_iload_n hx hb d_Model_makePieces_22 rfl (lv_at hl 2 rfl) ?_
     refine va_iast hx hb hK hP (hD _) hS 4 0 rw_at_4 rfl h.1 d_Model_makePieces_23 (fun H locs hP _ hS => ?_)
     obtain ⟨u29, eu29⟩ : ∃ z, z = pw_sa u 3 (upd (u.2 3) x2.toNatClampNeg x2) := ⟨_, rfl⟩
     rw [rw_sa_4, ← eu29] at hP
     have h := h.2 u29 eu29
     refine lv_aload_n hx hb d_Model_makePieces_24 rfl (lv_at hl 0 rfl) ?_
     refine va_get (D := D) (ci := 1) (v := .ref (a 6)) (C := R_Model) (T := T_Model) (N := 23) hx hb hts in_Model hown hK hP 0 rw_at_0 rfl 10 (by decide) (hts _ (List.mem_cons_of_mem _ kw_845)) (fun _ h9 => h9) rfl d_Model_makePieces_25 ?_
     refine lv_iload_n hx hb d_Model_makePieces_28 rfl (lv_at hl 2 rfl) ?_
     refine lv_iconst (v := 0) hx hb d_Model_makePieces_29 (by decide) ?_
     refine va_iast hx hb hK hP (hD _) hS 6 0 rw_at_6 rfl h.1 d_Model_makePieces_30 (fun H locs hP _ hS => ?_)
     obtain ⟨u30, eu30⟩ : ∃ z, z = pw_sa u29 5 (upd (u29.2 5) x2.toNatClampNeg 0) := ⟨_, rfl⟩
     rw [rw_sa_6, ← eu30] at hP
     have h := h.2 u30 eu30
     obtain ⟨t31, et31⟩ : ∃ y : Int32, y = x2 + 1 := ⟨_, rfl⟩
     have h := h t31 et31
     refine lv_iinc (v := t31) (lv' := [(2, .int t31), (0, .ref (a 0)), (1, .int x1)]) hx hb d_Model_makePieces_31 hl (k := 2) rfl (by rw [et31]; rfl) (by decide) rfl (fun ls hl => ?_)
     refine lv_goto (tgt := 12) hx hb d_Model_makePieces_34 (by decide) ?_
     exact ih x1 t31 u30 _ _ _ hP hS (lv_sub hl [1, 2, 0] rfl) h
set_option maxHeartbeats 4000000 in
set_option maxRecDepth 100000 in
theorem st_Model_makePieces {p : Program} {l : Launch} {e : Env} {s : State} {m : MethodId} {args : Array Value} {below : List Frame} {meth : Method} {c : Code} {D : va_G} {a : Nat → Nat} {cA cZ : ClassId} {G : pG} {A : Nat → Prop} {Q : pS → Prop} (C : pw_C p s m args meth c b_Model_makePieces 4 R_Model none w_Model_makePieces A) (K : pw_K s D 15 a (rT cA cZ) A) (u : pS) (ls : Array Slot) (hP : va_P D vwCl (rw a cA cZ G u) s.heap) (hl : lv_has ls 4 [(0, .ref (a 0))]) (h : wp_Model_makePieces G u Q) : W p l e ({ frames := 3, cells := 0, slots := 0, locals := 70 } : Room) s m args below meth c s.heap [] 0 0 (pw_Ev below args s D (rw a cA cZ G) (rT cA cZ) A Q) (F0 m 0 ls []) := by
 obtain ⟨hx, hb, hr, hml, hown, hts, hlocks, hA⟩ := id C
 obtain ⟨hK, hI, hF⟩ := id K
 have hD : ∀ u, va_D A (rw a cA cZ G u) := fun u => rw_D hI hF
 have hS : va_S A s.heap s.heap [] := va_S.rf
 have h : wp_Model_makePieces G u Q := h
 refine lv_aload_n hx hb d_Model_makePieces_0 rfl (lv_at hl 0 rfl) ?_
 refine va_get (D := D) (ci := 1) (v := .int (G.2.1 0)) (C := R_Model) (T := T_Model) (N := 23) hx hb hts in_Model hown hK hP 0 rw_at_0 rfl 1 (by decide) (hts _ (List.mem_cons_of_mem _ kw_836)) (fun _ h9 => h9) rfl d_Model_makePieces_1 ?_
 refine lv_aload_n hx hb d_Model_makePieces_4 rfl (lv_at hl 0 rfl) ?_
 refine va_get (D := D) (ci := 1) (v := .int (G.2.1 1)) (C := R_Model) (T := T_Model) (N := 23) hx hb hts in_Model hown hK hP 0 rw_at_0 rfl 2 (by decide) (hts _ (List.mem_cons_of_mem _ kw_837)) (fun _ h9 => h9) rfl d_Model_makePieces_5 ?_
 refine lv_imul hx hb d_Model_makePieces_8 ?_
 refine lv_topi (fun t1 et1 => ?_)
 have h := h t1 et1
 refine lv_istore_n (lv' := [(1, .int t1), (0, .ref (a 0))]) hx hb d_Model_makePieces_9 rfl hl (by decide) rfl (fun ls hl => ?_)
 refine lv_iconst (v := 0) hx hb d_Model_makePieces_10 (by decide) ?_
 refine lv_istore_n (lv' := [(2, .int 0), (1, .int t1), (0, .ref (a 0))]) hx hb d_Model_makePieces_11 rfl hl (by decide) rfl (fun ls hl => ?_)
 obtain ⟨n1, h⟩ := h
 exact cp_Model_makePieces_12 C K n1 t1 0 u _ _ _ hP hS (lv_sub hl [2, 1, 0] rfl) h
set_option maxHeartbeats 4000000 in
set_option maxRecDepth 100000 in
theorem ct_Model_makePieces (l : Launch) (D : va_G) (a : Nat → Nat) (cA cZ : ClassId) (G : pG) (sz : Nat) (u : pS) (Q : pS → Prop) (hI : pw_I 15 a) (h : wp_Model_makePieces G u Q) : Met l y_Model_makePieces w_Model_makePieces ({ frames := 3, cells := 0, slots := 0, locals := 70 } : Room) (va_Pc [.ref (a 0)] (pw_pre D (rw a cA cZ G) (rT cA cZ) sz u)) (va_Qv (fun (u : pS) => Q u) (pw_B D (rw a cA cZ G) (rT cA cZ)) (pw_F 15 a sz)) 0 0 (pw_F 15 a sz) := by
 refine Met.ofW (cc := b_Model_makePieces) (maxL := 4) (ret := none) (by decide) rfl ?_
 intro p e s m args below meth c s₁ B hml hv
 obtain ⟨rfl, hsz, hP, hK⟩ := hv
 subst hsz
 have hl := lv_entry ([.ref (a 0)]) (n := 4) (Nat.le_of_ble_eq_true rfl)
 rw [lg_entry_eq]
 generalize (lg_sl ([.ref (a 0)]) ++ List.replicate (4 - (lg_sl ([.ref (a 0)])).length) Slot.unset).toArray = ls at hl ⊢
 exact st_Model_makePieces (A := (pw_F 15 a s.heap.size)) ⟨B.exec, B.bytes, B.returns, hml, findClass_of_methodNamed B.named, atoms_spec (ws := w_Model_makePieces) B.pre, B.notSynchronized, fun q hq => Or.inr hq⟩ ⟨hK, hI, fun k hk => Or.inl ⟨k, hk, rfl⟩⟩ u ls hP hl h
