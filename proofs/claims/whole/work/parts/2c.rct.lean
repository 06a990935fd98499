set_option maxHeartbeats 4000000 in
set_option maxRecDepth 100000 in
theorem cp_Model_smallest_4 {p : Program} {l : Launch} {e : Env} {s : State} {m : MethodId} {args : Array Value} {below : List Frame} {meth : Method} {c : Code} {D : va_G} {a : Nat → Nat} {cA cZ : ClassId} {G : pG} {A : Nat → Prop} {Q : Int32 → pS → Prop} (C : pw_C p s m args meth c b_Model_smallest 5 R_Model (some .int) w_Model_smallest A) (K : pw_K s D 15 a (rT cA cZ) A) : ∀ (n : Nat), ∀ (x1 x2 x3 : Int32) (u : pS) (H : Heap) (locs : List Loc) (ls : Array Slot), va_P D vwCl (rw a cA cZ G u) H → va_S A s.heap H locs → lv_has ls 5 [(0, .ref (a 0)), (1, .int x1), (2, .int x2), (3, .int x3)] → lp_Model_smallest_4 G Q n x1 x2 x3 u → W p l e ({ frames := 0, cells := 0, slots := 0, locals := 0 } : Room) s m args below meth c H locs 0 0 (pw_Ei below args s D (rw a cA cZ G) (rT cA cZ) A Q) (F0 m 4 ls []) := by
 obtain ⟨hx, hb, hr, hml, hown, hts, hlocks, hA⟩ := id C
 obtain ⟨hK, hI, hF⟩ := id K
 have hD : ∀ u, va_D A (rw a cA cZ G u) := fun u => rw_D hI hF
 intro n
 induction n with
 | zero => intro x1 x2 x3 u H locs ls hP hS hl h; exact h.elim
 | succ n ih =>
   intro x1 x2 x3 u H locs ls hP hS hl h
   refine lv_iload_n hx hb d_Model_smallest_4 rfl (lv_at hl 3 rfl) ?_
   refine lv_aload_n hx hb d_Model_smallest_5 rfl (lv_at hl 0 rfl) ?_
   refine va_get (D := D) (ci := 1) (v := .int (u.1 1)) (C := R_Model) (T := T_Model) (N := 23) hx hb hts in_Model hown hK hP 0 rw_at_0 rfl 8 (by decide) (hts _ (List.mem_cons_of_mem _ kw_843)) (fun _ h9 => h9) rfl d_Model_smallest_6 ?_
   refine lv_icmp_ge (tgt := 60) hx hb d_Model_smallest_9 (by decide) (fun c1 => ?_) (fun c1 => ?_)
   · have h := h.1 c1
     refine lv_aload_n hx hb d_Model_smallest_60 rfl (lv_at hl 0 rfl) ?_
     refine va_get (D := D) (ci := 1) (v := .int (u.1 1)) (C := R_Model) (T := T_Model) (N := 23) hx hb hts in_Model hown hK hP 0 rw_at_0 rfl 8 (by decide) (hts _ (List.mem_cons_of_mem _ kw_843)) (fun _ h9 => h9) rfl d_Model_smallest_61 ?_
     refine lv_iconst (v := 1) hx hb d_Model_smallest_64 (by decide) ?_
     refine lv_icmp_le (tgt := 72) hx hb d_Model_smallest_65 (by decide) (fun c2 => ?_) (fun c2 => ?_)
     · have h := h.1 c2
       refine lv_iconst (v := -1) hx hb d_Model_smallest_72 (by decide) ?_
       exact W.iret (v := (-1)) hx hb hr (fun t ht hW => ⟨⟨(-1), u, rfl, h, by rw [ht]; exact hP, va_K.moved hW.alike hK⟩, hS.F ht⟩) hS.2.2 d_Model_smallest_73 hlocks
     · have h := h.2 c2
       refine lv_iload_n hx hb d_Model_smallest_68 rfl (lv_at hl 2 rfl) ?_
       refine lv_goto (tgt := 73) hx hb d_Model_smallest_69 (by decide) ?_
       exact W.iret (v := x2) hx hb hr (fun t ht hW => ⟨⟨x2, u, rfl, h, by rw [ht]; exact hP, va_K.moved hW.alike hK⟩, hS.F ht⟩) hS.2.2 d_Model_smallest_73 hlocks
   · have h := h.2 c1
     refine lv_aload_n hx hb d_Model_smallest_12 rfl (lv_at hl 0 rfl) ?_
     refine va_get (D := D) (ci := 1) (v := .ref (a 5)) (C := R_Model) (T := T_Model) (N := 23) hx hb hts in_Model hown hK hP 0 rw_at_0 rfl 9 (by decide) (hts _ (List.mem_cons_of_mem _ kw_844)) (fun _ h9 => h9) rfl d_Model_smallest_13 ?_
     refine lv_iload_n hx hb d_Model_smallest_16 rfl (lv_at hl 3 rfl) ?_
     refine va_iald hx hb hK hP 5 0 rw_at_5 rfl h.1 d_Model_smallest_17 ?_
     have h := h.2
     refine lv_topi (fun t3 et3 => ?_)
     have h := h t3 et3
     refine lv_istore (lv' := [(4, .int t3), (0, .ref (a 0)), (1, .int x1), (2, .int x2), (3, .int x3)]) hx hb d_Model_smallest_18 hl (by decide) rfl (fun ls hl => ?_)
     refine lv_aload_n hx hb d_Model_smallest_20 rfl (lv_at hl 1 rfl) ?_
     refine va_get (D := D) (ci := 1) (v := .ref (a 6)) (C := R_Model) (T := T_Model) (N := 23) hx hb hts in_Model hown hK hP 0 rw_at_0 rfl 10 (by decide) (hts _ (List.mem_cons_of_mem _ kw_845)) (fun _ h9 => h9) rfl d_Model_smallest_21 ?_
     refine lv_iload hx hb d_Model_smallest_24 (lv_at hl 0 rfl) ?_
     refine va_iald hx hb hK hP 6 0 rw_at_6 rfl h.1 d_Model_smallest_26 ?_
     have h := h.2
     refine lv_iload_n hx hb d_Model_smallest_27 rfl (lv_at hl 2 rfl) ?_
     refine lv_icmp_ge (tgt := 54) hx hb d_Model_smallest_28 (by decide) (fun c4 => ?_) (fun c4 => ?_)
     · have h := h.1 c4
       obtain ⟨t5, et5⟩ : ∃ y : Int32, y = x3 + 1 := ⟨_, rfl⟩
       have h := h t5 et5
       refine lv_iinc (v := t5) (lv' := [(3, .int t5), (4, .int t3), (0, .ref (a 0)), (1, .int x1), (2, .int x2)]) hx hb d_Model_smallest_54 hl (k := 4) rfl (by rw [et5]; rfl) (by decide) rfl (fun ls hl => ?_)
       refine lv_goto (tgt := 4) hx hb d_Model_smallest_57 (by decide) ?_
       exact ih x1 x2 t5 u _ _ _ hP hS (lv_sub hl [2, 3, 4, 0] rfl) h
     · have h := h.2 c4
       refine lv_iload_n hx hb d_Model_smallest_31 rfl (lv_at hl 3 rfl) ?_
       refine lv_if_lt (tgt := 51) hx hb d_Model_smallest_32 (by decide) (fun c6 => ?_) (fun c6 => ?_)
       · have h := h.1 c6
         refine lv_iload hx hb d_Model_smallest_51 (lv_at hl 0 rfl) ?_
         refine lv_istore_n (lv' := [(2, .int t3), (4, .int t3), (0, .ref (a 0)), (1, .int x1), (3, .int x3)]) hx hb d_Model_smallest_53 rfl hl (by decide) rfl (fun ls hl => ?_)
         obtain ⟨t7, et7⟩ : ∃ y : Int32, y = x3 + 1 := ⟨_, rfl⟩
         have h := h t7 et7
         refine lv_iinc (v := t7) (lv' := [(3, .int t7), (2, .int t3), (4, .int t3), (0, .ref (a 0)), (1, .int x1)]) hx hb d_Model_smallest_54 hl (k := 4) rfl (by rw [et7]; rfl) (by decide) rfl (fun ls hl => ?_)
         refine lv_goto (tgt := 4) hx hb d_Model_smallest_57 (by decide) ?_
         exact ih x1 t3 t7 u _ _ _ hP hS (lv_sub hl [3, 4, 1, 0] rfl) h
       · have h := h.2 c6
         refine lv_aload_n hx hb d_Model_smallest_35 rfl (lv_at hl 1 rfl) ?_
         refine va_get (D := D) (ci := 1) (v := .ref (a 6)) (C := R_Model) (T := T_Model) (N := 23) hx hb hts in_Model hown hK hP 0 rw_at_0 rfl 10 (by decide) (hts _ (List.mem_cons_of_mem _ kw_845)) (fun _ h9 => h9) rfl d_Model_smallest_36 ?_
         refine lv_iload hx hb d_Model_smallest_39 (lv_at hl 0 rfl) ?_
         refine va_iald hx hb hK hP 6 0 rw_at_6 rfl h.1 d_Model_smallest_41 ?_
         have h := h.2
         refine lv_aload_n hx hb d_Model_smallest_42 rfl (lv_at hl 1 rfl) ?_
         refine va_get (D := D) (ci := 1) (v := .ref (a 6)) (C := R_Model) (T := T_Model) (N := 23) hx hb hts in_Model hown hK hP 0 rw_at_0 rfl 10 (by decide) (hts _ (List.mem_cons_of_mem _ kw_845)) (fun _ h9 => h9) rfl d_Model_smallest_43 ?_
         refine lv_iload_n hx hb d_Model_smallest_46 rfl (lv_at hl 3 rfl) ?_
         refine va_iald hx hb hK hP 6 0 rw_at_6 rfl h.1 d_Model_smallest_47 ?_
         have h := h.2
         refine lv_icmp_ge (tgt := 54) hx hb d_Model_smallest_48 (by decide) (fun c8 => ?_) (fun c8 => ?_)
         · have h := h.1 c8
           obtain ⟨t9, et9⟩ : ∃ y : Int32, y = x3 + 1 := ⟨_, rfl⟩
           have h := h t9 et9
           refine lv_iinc (v := t9) (lv' := [(3, .int t9), (4, .int t3), (0, .ref (a 0)), (1, .int x1), (2, .int x2)]) hx hb d_Model_smallest_54 hl (k := 4) rfl (by rw [et9]; rfl) (by decide) rfl (fun ls hl => ?_)
           refine lv_goto (tgt := 4) hx hb d_Model_smallest_57 (by decide) ?_
           exact ih x1 x2 t9 u _ _ _ hP hS (lv_sub hl [2, 3, 4, 0] rfl) h
         · have h := h.2 c8
           refine lv_iload hx hb d_Model_smallest_51 (lv_at hl 0 rfl) ?_
           refine lv_istore_n (lv' := [(2, .int t3), (4, .int t3), (0, .ref (a 0)), (1, .int x1), (3, .int x3)]) hx hb d_Model_smallest_53 rfl hl (by decide) rfl (fun ls hl => ?_)
           obtain ⟨t10, et10⟩ : ∃ y : Int32, y = x3 + 1 := ⟨_, rfl⟩
           have h := h t10 et10
           refine lv_iinc (v := t10) (lv' := [(3, .int t10), (2, .int t3), (4, .int t3), (0, .ref (a 0)), (1, .int x1)]) hx hb d_Model_smallest_54 hl (k := 4) rfl (by rw [et10]; rfl) (by decide) rfl (fun ls hl => ?_)
           refine lv_goto (tgt := 4) hx hb d_Model_smallest_57 (by decide) ?_
           exact ih x1 t3 t10 u _ _ _ hP hS (lv_sub hl [3, 4, 1, 0] rfl) h
set_option maxHeartbeats 4000000 in
set_option maxRecDepth 100000 in
theorem st_Model_smallest {p : Program} {l : Launch} {e : Env} {s : State} {m : MethodId} {args : Array Value} {below : List Frame} {meth : Method} {c : Code} {D : va_G} {a : Nat → Nat} {cA cZ : ClassId} {G : pG} {A : Nat → Prop} {Q : Int32 → pS → Prop} (C : pw_C p s m args meth c b_Model_smallest 5 R_Model (some .int) w_Model_smallest A) (K : pw_K s D 15 a (rT cA cZ) A) (x1 : Int32) (u : pS) (ls : Array Slot) (hP : va_P D vwCl (rw a cA cZ G u) s.heap) (hl : lv_has ls 5 [(0, .ref (a 0)), (1, .int x1)]) (h : wp_Model_smallest G x1 u Q) : W p l e ({ frames := 0, cells := 0, slots := 0, locals := 0 } : Room) s m args below meth c s.heap [] 0 0 (pw_Ei below args s D (rw a cA cZ G) (rT cA cZ) A Q) (F0 m 0 ls []) := by
 obtain ⟨hx, hb, hr, hml, hown, hts, hlocks, hA⟩ := id C
 obtain ⟨hK, hI, hF⟩ := id K
 have hD : ∀ u, va_D A (rw a cA cZ G u) := fun u => rw_D hI hF
 have hS : va_S A s.heap s.heap [] := va_S.rf
 have h : wp_Model_smallest G x1 u Q := h
 refine lv_iconst (v := -1) hx hb d_Model_smallest_0 (by decide) ?_
 refine lv_istore_n (lv' := [(2, .int (-1)), (0, .ref (a 0)), (1, .int x1)]) hx hb d_Model_smallest_1 rfl hl (by decide) rfl (fun ls hl => ?_)
 refine lv_iconst (v := 0) hx hb d_Model_smallest_2 (by decide) ?_
 refine lv_istore_n (lv' := [(3, .int 0), (2, .int (-1)), (0, .ref (a 0)), (1, .int x1)]) hx hb d_Model_smallest_3 rfl hl (by decide) rfl (fun ls hl => ?_)
 obtain ⟨n1, h⟩ := h
 exact cp_Model_smallest_4 C K n1 x1 (-1) 0 u _ _ _ hP hS (lv_sub hl [2, 3, 1, 0] rfl) h
set_option maxHeartbeats 4000000 in
set_option maxRecDepth 100000 in
theorem ct_Model_smallest (l : Launch) (D : va_G) (a : Nat → Nat) (cA cZ : ClassId) (G : pG) (sz : Nat) (x1 : Int32) (u : pS) (Q : Int32 → pS → Prop) (hI : pw_I 15 a) (h : wp_Model_smallest G x1 u Q) : Met l y_Model_smallest w_Model_smallest ({ frames := 0, cells := 0, slots := 0, locals := 0 } : Room) (va_Pc [.ref (a 0), .int x1] (pw_pre D (rw a cA cZ G) (rT cA cZ) sz u)) (va_Qi (fun (r : Int32) (u : pS) => Q r u) (pw_B D (rw a cA cZ G) (rT cA cZ)) (pw_F 15 a sz)) 0 0 (pw_F 15 a sz) := by
 refine Met.ofW (cc := b_Model_smallest) (maxL := 5) (ret := (some .int)) (by decide) rfl ?_
 intro p e s m args below meth c s₁ B hml hv
 obtain ⟨rfl, hsz, hP, hK⟩ := hv
 subst hsz
 have hl := lv_entry ([.ref (a 0), .int x1]) (n := 5) (Nat.le_of_ble_eq_true rfl)
 rw [lg_entry_eq]
 generalize (lg_sl ([.ref (a 0), .int x1]) ++ List.replicate (5 - (lg_sl ([.ref (a 0), .int x1])).length) Slot.unset).toArray = ls at hl ⊢
 exact st_Model_smallest (A := (pw_F 15 a s.heap.size)) ⟨B.exec, B.bytes, B.returns, hml, findClass_of_methodNamed B.named, atoms_spec (ws := w_Model_smallest) B.pre, B.notSynchronized, fun q hq => Or.inr hq⟩ ⟨hK, hI, fun k hk => Or.inl ⟨k, hk, rfl⟩⟩ x1 u ls hP hl h
set_option maxHeartbeats 4000000 in
set_option maxRecDepth 100000 in
theorem cp_Model_join_40 {p : Program} {l : Launch} {e : Env} {s : State} {m : MethodId} {args : Array Value} {below : List Frame} {meth : Method} {c : Code} {D : va_G} {a : Nat → Nat} {cA cZ : ClassId} {G : pG} {A : Nat → Prop} {Q : pS → Prop} (C : pw_C p s m args meth c b_Model_join 6 R_Model none w_Model_join A) (K : pw_K s D 15 a (rT cA cZ) A) {k32 : Int32 → Int32 → Int32 → pS → Prop} (hk32 : ∀ (x1 x2 x3 : Int32) (u : pS) (H : Heap) (locs : List Loc) (ls : Array Slot), va_P D vwCl (rw a cA cZ G u) H → va_S A s.heap H locs → lv_has ls 6 [(0, .ref (a 0)), (1, .int x1), (2, .int x2), (3, .int x3)] → k32 x1 x2 x3 u → W p l e ({ frames := 2, cells := 0, slots := 0, locals := 46 } : Room) s m args below meth c H locs 0 0 (pw_Ev below args s D (rw a cA cZ G) (rT cA cZ) A Q) (F0 m 32 ls [])) : ∀ (n : Nat), ∀ (x1 x2 x3 x4 : Int32) (u : pS) (H : Heap) (locs : List Loc) (ls : Array Slot), va_P D vwCl (rw a cA cZ G u) H → va_S A s.heap H locs → lv_has ls 6 [(0, .ref (a 0)), (1, .int x1), (2, .int x2), (3, .int x3), (4, .int x4)] → lp_Model_join_40 G Q k32 n x1 x2 x3 x4 u → W p l e ({ frames := 2, cells := 0, slots := 0, locals := 46 } : Room) s m args below meth c H locs 0 0 (pw_Ev below args s D (rw a cA cZ G) (rT cA cZ) A Q) (F0 m 40 ls []) := by
 obtain ⟨hx, hb, hr, hml, hown, hts, hlocks, hA⟩ := id C
 obtain ⟨hK, hI, hF⟩ := id K
 have hD : ∀ u, va_D A (rw a cA cZ G u) := fun u => rw_D hI hF
 intro n
 induction n with
 | zero => intro x1 x2 x3 x4 u H locs ls hP hS hl h; exact h.elim
 | succ n ih =>
   intro x1 x2 x3 x4 u H locs ls hP hS hl h
   refine lv_iload hx hb d_Model_join_40 (lv_at hl 4 rfl) ?_
   refine lv_iconst (v := 4) hx hb d_Model_join_42 (by decide) ?_
   refine lv_icmp_ge (tgt := 103) hx hb d_Model_join_43 (by decide) (fun c15 => ?_) (fun c15 => ?_)
   · have h := h.1 c15
     obtain ⟨t16, et16⟩ : ∃ y : Int32, y = x3 + 1 := ⟨_, rfl⟩
     have h := h t16 et16
     refine lv_iinc (v := t16) (lv' := [(3, .int t16), (0, .ref (a 0)), (1, .int x1), (2, .int x2), (4, .int x4)]) hx hb d_Model_join_103 hl (k := 3) rfl (by rw [et16]; rfl) (by decide) rfl (fun ls hl => ?_)
     refine lv_goto (tgt := 32) hx hb d_Model_join_106 (by decide) ?_
     exact hk32 x1 x2 t16 u _ _ _ hP hS (lv_sub hl [1, 2, 3, 0] rfl) h
   · have h := h.2 c15
     refine lv_aload_n hx hb d_Model_join_46 rfl (lv_at hl 0 rfl) ?_
     refine lv_iload_n hx hb d_Model_join_47 rfl (lv_at hl 3 rfl) ?_
     refine lv_iload hx hb d_Model_join_48 (lv_at hl 4 rfl) ?_
     refine cc_i (va_runV (As := [.int x3, .int x4]) (rest := []) ⟨hx, hb, hml, hown, hts⟩ (ct_Model_beside l D a cA cZ G _ x3 x4 u _ hI h) (pw_cwV 2 hts kw_947 kw_57 kw_944 kw_946 kw_28 (by decide +kernel) ⟨Nat.le_of_ble_eq_true rfl, Nat.le_of_ble_eq_true rfl⟩) ⟨pw_blind, va_recv hK hP (ci := 1) (q0 := 0) rfl rw_at_0, fun U hU hW => ⟨rfl, by rw [hU], by rw [hU]; exact hP, va_K.moved hW.alike hK⟩⟩ rfl rfl hl.1 rfl (lv_room (Nat.le_of_ble_eq_true rfl)) d_Model_join_50 ⟨Nat.le_of_ble_eq_true rfl, Nat.le_of_ble_eq_true rfl⟩) hS hF hA (fun r18 u17 H locs hP hS h => ?_)
     refine lv_istore (lv' := [(5, .int r18), (0, .ref (a 0)), (1, .int x1), (2, .int x2), (3, .int x3), (4, .int x4)]) hx hb d_Model_join_53 hl (by decide) rfl (fun ls hl => ?_)
     refine lv_aload_n hx hb d_Model_join_55 rfl (lv_at hl 1 rfl) ?_
     refine va_get (D := D) (ci := 1) (v := .ref (a 4)) (C := R_Model) (T := T_Model) (N := 23) hx hb hts in_Model hown hK hP 0 rw_at_0 rfl 7 (by decide) (hts _ (List.mem_cons_of_mem _ kw_842)) (fun _ h9 => h9) rfl d_Model_join_56 ?_
     refine lv_iload_n hx hb d_Model_join_59 rfl (lv_at hl 4 rfl) ?_
     refine va_iald hx hb hK hP 4 0 rw_at_4 rfl h.1 d_Model_join_60 ?_
     have h := h.2
     refine lv_iload_n hx hb d_Model_join_61 rfl (lv_at hl 2 rfl) ?_
     refine lv_icmp_ne (tgt := 97) hx hb d_Model_join_62 (by decide) (fun c19 => ?_) (fun c19 => ?_)
     · have h := h.2 c19
       obtain ⟨t20, et20⟩ : ∃ y : Int32, y = x4 + 1 := ⟨_, rfl⟩
       have h := h t20 et20
       refine lv_iinc (v := t20) (lv' := [(4, .int t20), (5, .int r18), (0, .ref (a 0)), (1, .int x1), (2, .int x2), (3, .int x3)]) hx hb d_Model_join_97 hl (k := 5) rfl (by rw [et20]; rfl) (by decide) rfl (fun ls hl => ?_)
       refine lv_goto (tgt := 40) hx hb d_Model_join_100 (by decide) ?_
       exact ih x1 x2 x3 t20 u17 _ _ _ hP hS (lv_sub hl [2, 3, 4, 5, 0] rfl) h
     · have h := h.1 c19
       refine lv_iload hx hb d_Model_join_65 (lv_at hl 0 rfl) ?_
       refine lv_if_lt (tgt := 97) hx hb d_Model_join_67 (by decide) (fun c21 => ?_) (fun c21 => ?_)
       · have h := h.1 c21
         obtain ⟨t22, et22⟩ : ∃ y : Int32, y = x4 + 1 := ⟨_, rfl⟩
         have h := h t22 et22
         refine lv_iinc (v := t22) (lv' := [(4, .int t22), (5, .int r18), (0, .ref (a 0)), (1, .int x1), (2, .int x2), (3, .int x3)]) hx hb d_Model_join_97 hl (k := 5) rfl (by rw [et22]; rfl) (by decide) rfl (fun ls hl => ?_)
         refine lv_goto (tgt := 40) hx hb d_Model_join_100 (by decide) ?_
         exact ih x1 x2 x3 t22 u17 _ _ _ hP hS (lv_sub hl [2, 3, 4, 5, 0] rfl) h
       · have h := h.2 c21
         refine lv_aload_n hx hb d_Model_join_70 rfl (lv_at hl 1 rfl) ?_
         refine va_get (D := D) (ci := 1) (v := .ref (a 4)) (C := R_Model) (T := T_Model) (N := 23) hx hb hts in_Model hown hK hP 0 rw_at_0 rfl 7 (by decide) (hts _ (List.mem_cons_of_mem _ kw_842)) (fun _ h9 => h9) rfl d_Model_join_71 ?_
         refine lv_iload hx hb d_Model_join_74 (lv_at hl 0 rfl) ?_
         refine va_iald hx hb hK hP 4 0 rw_at_4 rfl h.1 d_Model_join_76 ?_
         have h := h.2
         refine lv_iload_n hx hb d_Model_join_77 rfl (lv_at hl 2 rfl) ?_
         refine lv_icmp_eq (tgt := 97) hx hb d_Model_join_78 (by decide) (fun c23 => ?_) (fun c23 => ?_)
         · have h := h.1 c23
           obtain ⟨t24, et24⟩ : ∃ y : Int32, y = x4 + 1 := ⟨_, rfl⟩
           have h := h t24 et24
           refine lv_iinc (v := t24) (lv' := [(4, .int t24), (5, .int r18), (0, .ref (a 0)), (1, .int x1), (2, .int x2), (3, .int x3)]) hx hb d_Model_join_97 hl (k := 5) rfl (by rw [et24]; rfl) (by decide) rfl (fun ls hl => ?_)
           refine lv_goto (tgt := 40) hx hb d_Model_join_100 (by decide) ?_
           exact ih x1 x2 x3 t24 u17 _ _ _ hP hS (lv_sub hl [2, 3, 4, 5, 0] rfl) h
         · have h := h.2 c23
           refine lv_aload_n hx hb d_Model_join_81 rfl (lv_at hl 1 rfl) ?_
           refine va_get (D := D) (ci := 1) (v := .ref (a 7)) (C := R_Model) (T := T_Model) (N := 23) hx hb hts in_Model hown hK hP 0 rw_at_0 rfl 11 (by decide) (hts _ (List.mem_cons_of_mem _ kw_846)) (fun _ h9 => h9) rfl d_Model_join_82 ?_
           refine lv_aload_n hx hb d_Model_join_85 rfl (lv_at hl 1 rfl) ?_
           refine va_get (D := D) (ci := 1) (v := .ref (a 4)) (C := R_Model) (T := T_Model) (N := 23) hx hb hts in_Model hown hK hP 0 rw_at_0 rfl 7 (by decide) (hts _ (List.mem_cons_of_mem _ kw_842)) (fun _ h9 => h9) rfl d_Model_join_86 ?_
           refine lv_iload hx hb d_Model_join_89 (lv_at hl 0 rfl) ?_
           refine va_iald hx hb hK hP 4 0 rw_at_4 rfl h.1 d_Model_join_91 ?_
           have h := h.2
           refine lv_dup2_11 hx hb d_Model_join_92 rfl rfl ?_
           refine va_iald hx hb hK hP 7 0 rw_at_7 rfl h.1 d_Model_join_93 ?_
           have h := h.2
           refine lv_iconst (v := 1) hx hb d_Model_join_94 (by decide) ?_
           refine lv_iadd hx hb d_Model_join_95 ?_
           refine va_iast hx hb hK hP (hD _) hS 7 0 rw_at_7 rfl h.1 d_Model_join_96 (fun H locs hP _ hS => ?_)
           obtain ⟨u25, eu25⟩ : ∃ z, z = pw_sa u17 6 (upd (u17.2 6) (u17.2 3 r18.toNatClampNeg).toNatClampNeg ((u17.2 6 (u17.2 3 r18.toNatClampNeg).toNatClampNeg) + 1)) := ⟨_, rfl⟩
           rw [rw_sa_7, ← eu25] at hP
           have h := h.2 u25 eu25
           obtain ⟨t26, et26⟩ : ∃ y : Int32, y = x4 + 1 := ⟨_, rfl⟩
           have h := h t26 et26
           refine lv_iinc (v := t26) (lv' := [(4, .int t26), (5, .int r18), (0, .ref (a 0)), (1, .int x1), (2, .int x2), (3, .int x3)]) hx hb d_Model_join_97 hl (k := 5) rfl (by rw [et26]; rfl) (by decide) rfl (fun ls hl => ?_)
           refine lv_goto (tgt := 40) hx hb d_Model_join_100 (by decide) ?_
           exact ih x1 x2 x3 t26 u25 _ _ _ hP hS (lv_sub hl [2, 3, 4, 5, 0] rfl) h
set_option maxHeartbeats 4000000 in
set_option maxRecDepth 100000 in
theorem cp_Model_join_160 {p : Program} {l : Launch} {e : Env} {s : State} {m : MethodId} {args : Array Value} {below : List Frame} {meth : Method} {c : Code} {D : va_G} {a : Nat → Nat} {cA cZ : ClassId} {G : pG} {A : Nat → Prop} {Q : pS → Prop} (C : pw_C p s m args meth c b_Model_join 6 R_Model none w_Model_join A) (K : pw_K s D 15 a (rT cA cZ) A) : ∀ (n : Nat), ∀ (x1 x2 x4 x5 : Int32) (u : pS) (H : Heap) (locs : List Loc) (ls : Array Slot), va_P D vwCl (rw a cA cZ G u) H → va_S A s.heap H locs → lv_has ls 6 [(0, .ref (a 0)), (1, .int x1), (2, .int x2), (4, .int x4), (5, .int x5)] → lp_Model_join_160 G Q n x1 x2 x4 x5 u → W p l e ({ frames := 2, cells := 0, slots := 0, locals := 46 } : Room) s m args below meth c H locs 0 0 (pw_Ev below args s D (rw a cA cZ G) (rT cA cZ) A Q) (F0 m 160 ls []) := by
 obtain ⟨hx, hb, hr, hml, hown, hts, hlocks, hA⟩ := id C
 obtain ⟨hK, hI, hF⟩ := id K
 have hD : ∀ u, va_D A (rw a cA cZ G u) := fun u => rw_D hI hF
 intro n
 induction n with
 | zero => intro x1 x2 x4 x5 u H locs ls hP hS hl h; exact h.elim
 | succ n ih =>
   intro x1 x2 x4 x5 u H locs ls hP hS hl h
   refine lv_iload hx hb d_Model_join_160 (lv_at hl 4 rfl) ?_
   refine lv_iload_n hx hb d_Model_join_162 rfl (lv_at hl 2 rfl) ?_
   refine lv_icmp_ge (tgt := 202) hx hb d_Model_join_163 (by decide) (fun c6 => ?_) (fun c6 => ?_)
   · have h := h.1 c6
     exact W.vret hx hb hr (fun t ht hW => ⟨⟨u, rfl, h, by rw [ht]; exact hP, va_K.moved hW.alike hK⟩, hS.F ht⟩) hS.2.2 d_Model_join_202 hlocks
   · have h := h.2 c6
     refine lv_aload_n hx hb d_Model_join_166 rfl (lv_at hl 0 rfl) ?_
     refine va_get (D := D) (ci := 1) (v := .ref (a 3)) (C := R_Model) (T := T_Model) (N := 23) hx hb hts in_Model hown hK hP 0 rw_at_0 rfl 6 (by decide) (hts _ (List.mem_cons_of_mem _ kw_841)) (fun _ h9 => h9) rfl d_Model_join_167 ?_
     refine lv_iload hx hb d_Model_join_170 (lv_at hl 4 rfl) ?_
     refine lv_aload_n hx hb d_Model_join_172 rfl (lv_at hl 0 rfl) ?_
     refine va_get (D := D) (ci := 1) (v := .ref (a 4)) (C := R_Model) (T := T_Model) (N := 23) hx hb hts in_Model hown hK hP 0 rw_at_0 rfl 7 (by decide) (hts _ (List.mem_cons_of_mem _ kw_842)) (fun _ h9 => h9) rfl d_Model_join_173 ?_
     refine lv_iload hx hb d_Model_join_176 (lv_at hl 4 rfl) ?_
     refine va_iald hx hb hK hP 4 0 rw_at_4 rfl h.1 d_Model_join_178 ?_
     have h := h.2
     refine lv_iload_n hx hb d_Model_join_179 rfl (lv_at hl 1 rfl) ?_
     refine lv_icmp_ne (tgt := 188) hx hb d_Model_join_180 (by decide) (fun c7 => ?_) (fun c7 => ?_)
     · have h := h.2 c7
       refine lv_aload_n hx hb d_Model_join_188 rfl (lv_at hl 0 rfl) ?_
       refine va_get (D := D) (ci := 1) (v := .ref (a 3)) (C := R_Model) (T := T_Model) (N := 23) hx hb hts in_Model hown hK hP 0 rw_at_0 rfl 6 (by decide) (hts _ (List.mem_cons_of_mem _ kw_841)) (fun _ h9 => h9) rfl d_Model_join_189 ?_
       refine lv_iload hx hb d_Model_join_192 (lv_at hl 4 rfl) ?_
       refine va_iald hx hb hK hP 3 0 rw_at_3 rfl h.1 d_Model_join_194 ?_
       have h := h.2
       refine va_iast hx hb hK hP (hD _) hS 3 0 rw_at_3 rfl h.1 d_Model_join_195 (fun H locs hP _ hS => ?_)
       obtain ⟨u8, eu8⟩ : ∃ z, z = pw_sa u 2 (upd (u.2 2) x5.toNatClampNeg (u.2 2 x5.toNatClampNeg)) := ⟨_, rfl⟩
       rw [rw_sa_3, ← eu8] at hP
       have h := h.2 u8 eu8
       obtain ⟨t9, et9⟩ : ∃ y : Int32, y = x5 + 1 := ⟨_, rfl⟩
       have h := h t9 et9
       refine lv_iinc (v := t9) (lv' := [(5, .int t9), (0, .ref (a 0)), (1, .int x1), (2, .int x2), (4, .int x4)]) hx hb d_Model_join_196 hl (k := 4) rfl (by rw [et9]; rfl) (by decide) rfl (fun ls hl => ?_)
       refine lv_goto (tgt := 160) hx hb d_Model_join_199 (by decide) ?_
       exact ih x1 x2 x4 t9 u8 _ _ _ hP hS (lv_sub hl [1, 2, 3, 4, 0] rfl) h
     · have h := h.1 c7
       refine lv_iload hx hb d_Model_join_183 (lv_at hl 3 rfl) ?_
       refine lv_goto (tgt := 195) hx hb d_Model_join_185 (by decide) ?_
       refine va_iast hx hb hK hP (hD _) hS 3 0 rw_at_3 rfl h.1 d_Model_join_195 (fun H locs hP _ hS => ?_)
       obtain ⟨u10, eu10⟩ : ∃ z, z = pw_sa u 2 (upd (u.2 2) x5.toNatClampNeg x4) := ⟨_, rfl⟩
       rw [rw_sa_3, ← eu10] at hP
       have h := h.2 u10 eu10
       obtain ⟨t11, et11⟩ : ∃ y : Int32, y = x5 + 1 := ⟨_, rfl⟩
       have h := h t11 et11
       refine lv_iinc (v := t11) (lv' := [(5, .int t11), (0, .ref (a 0)), (1, .int x1), (2, .int x2), (4, .int x4)]) hx hb d_Model_join_196 hl (k := 4) rfl (by rw [et11]; rfl) (by decide) rfl (fun ls hl => ?_)
       refine lv_goto (tgt := 160) hx hb d_Model_join_199 (by decide) ?_
       exact ih x1 x2 x4 t11 u10 _ _ _ hP hS (lv_sub hl [1, 2, 3, 4, 0] rfl) h
set_option maxHeartbeats 4000000 in
set_option maxRecDepth 100000 in
theorem cp_Model_join_114 {p : Program} {l : Launch} {e : Env} {s : State} {m : MethodId} {args : Array Value} {below : List Frame} {meth : Method} {c : Code} {D : va_G} {a : Nat → Nat} {cA cZ : ClassId} {G : pG} {A : Nat → Prop} {Q : pS → Prop} (C : pw_C p s m args meth c b_Model_join 6 R_Model none w_Model_join A) (K : pw_K s D 15 a (rT cA cZ) A) : ∀ (n : Nat), ∀ (x1 x2 x3 x4 : Int32) (u : pS) (H : Heap) (locs : List Loc) (ls : Array Slot), va_P D vwCl (rw a cA cZ G u) H → va_S A s.heap H locs → lv_has ls 6 [(0, .ref (a 0)), (1, .int x1), (2, .int x2), (3, .int x3), (4, .int x4)] → lp_Model_join_114 G Q n x1 x2 x3 x4 u → W p l e ({ frames := 2, cells := 0, slots := 0, locals := 46 } : Room) s m args below meth c H locs 0 0 (pw_Ev below args s D (rw a cA cZ G) (rT cA cZ) A Q) (F0 m 114 ls []) := by
 obtain ⟨hx, hb, hr, hml, hown, hts, hlocks, hA⟩ := id C
 obtain ⟨hK, hI, hF⟩ := id K
 have hD : ∀ u, va_D A (rw a cA cZ G u) := fun u => rw_D hI hF
 intro n
 induction n with
 | zero => intro x1 x2 x3 x4 u H locs ls hP hS hl h; exact h.elim
 | succ n ih =>
   intro x1 x2 x3 x4 u H locs ls hP hS hl h
   refine lv_iload hx hb d_Model_join_114 (lv_at hl 4 rfl) ?_
   refine lv_iload_n hx hb d_Model_join_116 rfl (lv_at hl 2 rfl) ?_
   refine lv_icmp_ge (tgt := 149) hx hb d_Model_join_117 (by decide) (fun c4 => ?_) (fun c4 => ?_)
   · have h := h.1 c4
     refine lv_aload_n hx hb d_Model_join_149 rfl (lv_at hl 0 rfl) ?_
     refine va_get (D := D) (ci := 1) (v := .ref (a 3)) (C := R_Model) (T := T_Model) (N := 23) hx hb hts in_Model hown hK hP 0 rw_at_0 rfl 6 (by decide) (hts _ (List.mem_cons_of_mem _ kw_841)) (fun _ h9 => h9) rfl d_Model_join_150 ?_
     refine lv_iload_n hx hb d_Model_join_153 rfl (lv_at hl 3 rfl) ?_
     refine va_iald hx hb hK hP 3 0 rw_at_3 rfl h.1 d_Model_join_154 ?_
     have h := h.2
     refine lv_topi (fun t5 et5 => ?_)
     have h := h t5 et5
     refine lv_istore (lv' := [(4, .int t5), (0, .ref (a 0)), (1, .int x1), (2, .int x2), (3, .int x3)]) hx hb d_Model_join_155 hl (by decide) rfl (fun ls hl => ?_)
     refine lv_iconst (v := 0) hx hb d_Model_join_157 (by decide) ?_
     refine lv_istore (lv' := [(5, .int 0), (4, .int t5), (0, .ref (a 0)), (1, .int x1), (2, .int x2), (3, .int x3)]) hx hb d_Model_join_158 hl (by decide) rfl (fun ls hl => ?_)
     obtain ⟨n1, h⟩ := h
     exact cp_Model_join_160 C K n1 x1 x2 t5 0 u _ _ _ hP hS (lv_sub hl [2, 3, 4, 1, 0] rfl) h
   · have h := h.2 c4
     refine lv_aload_n hx hb d_Model_join_120 rfl (lv_at hl 0 rfl) ?_
     refine va_get (D := D) (ci := 1) (v := .ref (a 7)) (C := R_Model) (T := T_Model) (N := 23) hx hb hts in_Model hown hK hP 0 rw_at_0 rfl 11 (by decide) (hts _ (List.mem_cons_of_mem _ kw_846)) (fun _ h9 => h9) rfl d_Model_join_121 ?_
     refine lv_iload hx hb d_Model_join_124 (lv_at hl 4 rfl) ?_
     refine va_iald hx hb hK hP 7 0 rw_at_7 rfl h.1 d_Model_join_126 ?_
     have h := h.2
     refine lv_aload_n hx hb d_Model_join_127 rfl (lv_at hl 0 rfl) ?_
     refine va_get (D := D) (ci := 1) (v := .ref (a 7)) (C := R_Model) (T := T_Model) (N := 23) hx hb hts in_Model hown hK hP 0 rw_at_0 rfl 11 (by decide) (hts _ (List.mem_cons_of_mem _ kw_846)) (fun _ h9 => h9) rfl d_Model_join_128 ?_
     refine lv_iload_n hx hb d_Model_join_131 rfl (lv_at hl 3 rfl) ?_
     refine va_iald hx hb hK hP 7 0 rw_at_7 rfl h.1 d_Model_join_132 ?_
     have h := h.2
     refine lv_icmp_le (tgt := 141) hx hb d_Model_join_133 (by decide) (fun c12 => ?_) (fun c12 => ?_)
     · have h := h.1 c12
       refine lv_iload_n hx hb d_Model_join_141 rfl (lv_at hl 3 rfl) ?_
       refine lv_istore_n (lv' := [(3, .int x3), (0, .ref (a 0)), (1, .int x1), (2, .int x2), (4, .int x4)]) hx hb d_Model_join_142 rfl hl (by decide) rfl (fun ls hl => ?_)
       obtain ⟨t13, et13⟩ : ∃ y : Int32, y = x4 + 1 := ⟨_, rfl⟩
       have h := h t13 et13
       refine lv_iinc (v := t13) (lv' := [(4, .int t13), (3, .int x3), (0, .ref (a 0)), (1, .int x1), (2, .int x2)]) hx hb d_Model_join_143 hl (k := 4) rfl (by rw [et13]; rfl) (by decide) rfl (fun ls hl => ?_)
       refine lv_goto (tgt := 114) hx hb d_Model_join_146 (by decide) ?_
       exact ih x1 x2 x3 t13 u _ _ _ hP hS (lv_sub hl [2, 3, 4, 1, 0] rfl) h
     · have h := h.2 c12
       refine lv_iload hx hb d_Model_join_136 (lv_at hl 4 rfl) ?_
       refine lv_goto (tgt := 142) hx hb d_Model_join_138 (by decide) ?_
       refine lv_istore_n (lv' := [(3, .int x4), (0, .ref (a 0)), (1, .int x1), (2, .int x2), (4, .int x4)]) hx hb d_Model_join_142 rfl hl (by decide) rfl (fun ls hl => ?_)
       obtain ⟨t14, et14⟩ : ∃ y : Int32, y = x4 + 1 := ⟨_, rfl⟩
       have h := h t14 et14
       refine lv_iinc (v := t14) (lv' := [(4, .int t14), (3, .int x4), (0, .ref (a 0)), (1, .int x1), (2, .int x2)]) hx hb d_Model_join_143 hl (k := 4) rfl (by rw [et14]; rfl) (by decide) rfl (fun ls hl => ?_)
       refine lv_goto (tgt := 114) hx hb d_Model_join_146 (by decide) ?_
       exact ih x1 x2 x4 t14 u _ _ _ hP hS (lv_sub hl [2, 3, 4, 1, 0] rfl) h
set_option maxHeartbeats 4000000 in
set_option maxRecDepth 100000 in
theorem cp_Model_join_32 {p : Program} {l : Launch} {e : Env} {s : State} {m : MethodId} {args : Array Value} {below : List Frame} {meth : Method} {c : Code} {D : va_G} {a : Nat → Nat} {cA cZ : ClassId} {G : pG} {A : Nat → Prop} {Q : pS → Prop} (C : pw_C p s m args meth c b_Model_join 6 R_Model none w_Model_join A) (K : pw_K s D 15 a (rT cA cZ) A) : ∀ (n : Nat), ∀ (x1 x2 x3 : Int32) (u : pS) (H : Heap) (locs : List Loc) (ls : Array Slot), va_P D vwCl (rw a cA cZ G u) H → va_S A s.heap H locs → lv_has ls 6 [(0, .ref (a 0)), (1, .int x1), (2, .int x2), (3, .int x3)] → lp_Model_join_32 G Q n x1 x2 x3 u → W p l e ({ frames := 2, cells := 0, slots := 0, locals := 46 } : Room) s m args below meth c H locs 0 0 (pw_Ev below args s D (rw a cA cZ G) (rT cA cZ) A Q) (F0 m 32 ls []) := by
 obtain ⟨hx, hb, hr, hml, hown, hts, hlocks, hA⟩ := id C
 obtain ⟨hK, hI, hF⟩ := id K
 have hD : ∀ u, va_D A (rw a cA cZ G u) := fun u => rw_D hI hF
 intro n
 induction n with
 | zero => intro x1 x2 x3 u H locs ls hP hS hl h; exact h.elim
 | succ n ih =>
   intro x1 x2 x3 u H locs ls hP hS hl h
   refine lv_iload_n hx hb d_Model_join_32 rfl (lv_at hl 3 rfl) ?_
   refine lv_iload_n hx hb d_Model_join_33 rfl (lv_at hl 2 rfl) ?_
   refine lv_icmp_ge (tgt := 109) hx hb d_Model_join_34 (by decide) (fun c3 => ?_) (fun c3 => ?_)
   · have h := h.1 c3
     refine lv_iconst (v := 0) hx hb d_Model_join_109 (by decide) ?_
     refine lv_istore_n (lv' := [(3, .int 0), (0, .ref (a 0)), (1, .int x1), (2, .int x2)]) hx hb d_Model_join_110 rfl hl (by decide) rfl (fun ls hl => ?_)
     refine lv_iconst (v := 1) hx hb d_Model_join_111 (by decide) ?_
     refine lv_istore (lv' := [(4, .int 1), (3, .int 0), (0, .ref (a 0)), (1, .int x1), (2, .int x2)]) hx hb d_Model_join_112 hl (by decide) rfl (fun ls hl => ?_)
     obtain ⟨n1, h⟩ := h
     exact cp_Model_join_114 C K n1 x1 x2 0 1 u _ _ _ hP hS (lv_sub hl [2, 3, 4, 1, 0] rfl) h
   · have h := h.2 c3
     refine lv_iconst (v := 0) hx hb d_Model_join_37 (by decide) ?_
     refine lv_istore (lv' := [(4, .int 0), (0, .ref (a 0)), (1, .int x1), (2, .int x2), (3, .int x3)]) hx hb d_Model_join_38 hl (by decide) rfl (fun ls hl => ?_)
     obtain ⟨n1, h⟩ := h
     exact cp_Model_join_40 C K ih n1 x1 x2 x3 0 u _ _ _ hP hS (lv_sub hl [1, 2, 3, 4, 0] rfl) h
set_option maxHeartbeats 4000000 in
set_option maxRecDepth 100000 in
theorem cp_Model_join_12 {p : Program} {l : Launch} {e : Env} {s : State} {m : MethodId} {args : Array Value} {below : List Frame} {meth : Method} {c : Code} {D : va_G} {a : Nat → Nat} {cA cZ : ClassId} {G : pG} {A : Nat → Prop} {Q : pS → Prop} (C : pw_C p s m args meth c b_Model_join 6 R_Model none w_Model_join A) (K : pw_K s D 15 a (rT cA cZ) A) : ∀ (n : Nat), ∀ (x1 x2 x3 : Int32) (u : pS) (H : Heap) (locs : List Loc) (ls : Array Slot), va_P D vwCl (rw a cA cZ G u) H → va_S A s.heap H locs → lv_has ls 6 [(0, .ref (a 0)), (1, .int x1), (2, .int x2), (3, .int x3)] → lp_Model_join_12 G Q n x1 x2 x3 u → W p l e ({ frames := 2, cells := 0, slots := 0, locals := 46 } : Room) s m args below meth c H locs 0 0 (pw_Ev below args s D (rw a cA cZ G) (rT cA cZ) A Q) (F0 m 12 ls []) := by
 obtain ⟨hx, hb, hr, hml, hown, hts, hlocks, hA⟩ := id C
 obtain ⟨hK, hI, hF⟩ := id K
 have hD : ∀ u, va_D A (rw a cA cZ G u) := fun u => rw_D hI hF
 intro n
 induction n with
 | zero => intro x1 x2 x3 u H locs ls hP hS hl h; exact h.elim
 | succ n ih =>
   intro x1 x2 x3 u H locs ls hP hS hl h
   refine lv_iload_n hx hb d_Model_join_12 rfl (lv_at hl 3 rfl) ?_
   refine lv_iload_n hx hb d_Model_join_13 rfl (lv_at hl 2 rfl) ?_
   refine lv_icmp_ge (tgt := 30) hx hb d_Model_join_14 (by decide) (fun c2 => ?_) (fun c2 => ?_)
   · have h := h.1 c2
     refine lv_iconst (v := 0) hx hb d_Model_join_30 (by decide) ?_
     refine lv_istore_n (lv' := [(3, .int 0), (0, .ref (a 0)), (1, .int x1), (2, .int x2)]) hx hb d_Model_join_31 rfl hl (by decide) rfl (fun ls hl => ?_)
     obtain ⟨n1, h⟩ := h
     exact cp_Model_join_32 C K n1 x1 x2 0 u _ _ _ hP hS (lv_sub hl [1, 2, 3, 0] rfl) h
   · have h := h.2 c2
     refine lv_aload_n hx hb d_Model_join_17 rfl (lv_at hl 0 rfl) ?_
     refine va_get (D := D) (ci := 1) (v := .ref (a 7)) (C := R_Model) (T := T_Model) (N := 23) hx hb hts in_Model hown hK hP 0 rw_at_0 rfl 11 (by decide) (hts _ (List.mem_cons_of_mem _ kw_846)) (fun _ h9 => h9) rfl d_Model_join_18 ?_
     refine lv_iload_n hx hb d_Model_join_21 rfl (lv_at hl 3 rfl) ?_
     refine lv_iconst (v := 0) hx hb d_Model_join_22 (by decide) ?_
     refine va_iast hx hb hK hP (hD _) hS 7 0 rw_at_7 rfl h.1 d_Model_join_23 (fun H locs hP _ hS => ?_)
     obtain ⟨u27, eu27⟩ : ∃ z, z = pw_sa u 6 (upd (u.2 6) x3.toNatClampNeg 0) := ⟨_, rfl⟩
     rw [rw_sa_7, ← eu27] at hP
     have h := h.2 u27 eu27
     obtain ⟨t28, et28⟩ : ∃ y : Int32, y = x3 + 1 := ⟨_, rfl⟩
     have h := h t28 et28
     refine lv_iinc (v := t28) (lv' := [(3, .int t28), (0, .ref (a 0)), (1, .int x1), (2, .int x2)]) hx hb d_Model_join_24 hl (k := 3) rfl (by rw [et28]; rfl) (by decide) rfl (fun ls hl => ?_)
     refine lv_goto (tgt := 12) hx hb d_Model_join_27 (by decide) ?_
     exact ih x1 x2 t28 u27 _ _ _ hP hS (lv_sub hl [1, 2, 3, 0] rfl) h
set_option maxHeartbeats 4000000 in
set_option maxRecDepth 100000 in
theorem st_Model_join {p : Program} {l : Launch} {e : Env} {s : State} {m : MethodId} {args : Array Value} {below : List Frame} {meth : Method} {c : Code} {D : va_G} {a : Nat → Nat} {cA cZ : ClassId} {G : pG} {A : Nat → Prop} {Q : pS → Prop} (C : pw_C p s m args meth c b_Model_join 6 R_Model none w_Model_join A) (K : pw_K s D 15 a (rT cA cZ) A) (x1 : Int32) (u : pS) (ls : Array Slot) (hP : va_P D vwCl (rw a cA cZ G u) s.heap) (hl : lv_has ls 6 [(0, .ref (a 0)), (1, .int x1)]) (h : wp_Model_join G x1 u Q) : W p l e ({ frames := 2, cells := 0, slots := 0, locals := 46 } : Room) s m args below meth c s.heap [] 0 0 (pw_Ev below args s D (rw a cA cZ G) (rT cA cZ) A Q) (F0 m 0 ls []) := by
 obtain ⟨hx, hb, hr, hml, hown, hts, hlocks, hA⟩ := id C
 obtain ⟨hK, hI, hF⟩ := id K
 have hD : ∀ u, va_D A (rw a cA cZ G u) := fun u => rw_D hI hF
 have hS : va_S A s.heap s.heap [] := va_S.rf
 have h : wp_Model_join G x1 u Q := h
 refine lv_aload_n hx hb d_Model_join_0 rfl (lv_at hl 0 rfl) ?_
 refine va_get (D := D) (ci := 1) (v := .int (G.2.1 0)) (C := R_Model) (T := T_Model) (N := 23) hx hb hts in_Model hown hK hP 0 rw_at_0 rfl 1 (by decide) (hts _ (List.mem_cons_of_mem _ kw_836)) (fun _ h9 => h9) rfl d_Model_join_1 ?_
 refine lv_aload_n hx hb d_Model_join_4 rfl (lv_at hl 0 rfl) ?_
 refine va_get (D := D) (ci := 1) (v := .int (G.2.1 1)) (C := R_Model) (T := T_Model) (N := 23) hx hb hts in_Model hown hK hP 0 rw_at_0 rfl 2 (by decide) (hts _ (List.mem_cons_of_mem _ kw_837)) (fun _ h9 => h9) rfl d_Model_join_5 ?_
 refine lv_imul hx hb d_Model_join_8 ?_
 refine lv_topi (fun t1 et1 => ?_)
 have h := h t1 et1
 refine lv_istore_n (lv' := [(2, .int t1), (0, .ref (a 0)), (1, .int x1)]) hx hb d_Model_join_9 rfl hl (by decide) rfl (fun ls hl => ?_)
 refine lv_iconst (v := 0) hx hb d_Model_join_10 (by decide) ?_
 refine lv_istore_n (lv' := [(3, .int 0), (2, .int t1), (0, .ref (a 0)), (1, .int x1)]) hx hb d_Model_join_11 rfl hl (by decide) rfl (fun ls hl => ?_)
 obtain ⟨n1, h⟩ := h
 exact cp_Model_join_12 C K n1 x1 t1 0 u _ _ _ hP hS (lv_sub hl [2, 3, 1, 0] rfl) h
set_option maxHeartbeats 4000000 in
set_option maxRecDepth 100000 in
theorem ct_Model_join (l : Launch) (D : va_G) (a : Nat → Nat) (cA cZ : ClassId) (G : pG) (sz : Nat) (x1 : Int32) (u : pS) (Q : pS → Prop) (hI : pw_I 15 a) (h : wp_Model_join G x1 u Q) : Met l y_Model_join w_Model_join ({ frames := 2, cells := 0, slots := 0, locals := 46 } : Room) (va_Pc [.ref (a 0), .int x1] (pw_pre D (rw a cA cZ G) (rT cA cZ) sz u)) (va_Qv (fun (u : pS) => Q u) (pw_B D (rw a cA cZ G) (rT cA cZ)) (pw_F 15 a sz)) 0 0 (pw_F 15 a sz) := by
 refine Met.ofW (cc := b_Model_join) (maxL := 6) (ret := none) (by decide) rfl ?_
 intro p e s m args below meth c s₁ B hml hv
 obtain ⟨rfl, hsz, hP, hK⟩ := hv
 subst hsz
 have hl := lv_entry ([.ref (a 0), .int x1]) (n := 6) (Nat.le_of_ble_eq_true rfl)
 rw [lg_entry_eq]
 generalize (lg_sl ([.ref (a 0), .int x1]) ++ List.replicate (6 - (lg_sl ([.ref (a 0), .int x1])).length) Slot.unset).toArray = ls at hl ⊢
 exact st_Model_join (A := (pw_F 15 a s.heap.size)) ⟨B.exec, B.bytes, B.returns, hml, findClass_of_methodNamed B.named, atoms_spec (ws := w_Model_join) B.pre, B.notSynchronized, fun q hq => Or.inr hq⟩ ⟨hK, hI, fun k hk => Or.inl ⟨k, hk, rfl⟩⟩ x1 u ls hP hl h
set_option maxHeartbeats 4000000 in
set_option maxRecDepth 100000 in
theorem cp_Model_apart_5 {p : Program} {l : Launch} {e : Env} {s : State} {m : MethodId} {args : Array Value} {below : List Frame} {meth : Method} {c : Code} {D : va_G} {a : Nat → Nat} {cA cZ : ClassId} {G : pG} {A : Nat → Prop} {Q : Int32 → pS → Prop} (C : pw_C p s m args meth c b_Model_apart 6 R_Model (some .int) w_Model_apart A) (K : pw_K s D 15 a (rT cA cZ) A) : ∀ (n : Nat), ∀ (x1 x2 x3 x4 : Int32) (u : pS) (H : Heap) (locs : List Loc) (ls : Array Slot), va_P D vwCl (rw a cA cZ G u) H → va_S A s.heap H locs → lv_has ls 6 [(0, .ref (a 0)), (1, .int x1), (2, .int x2), (3, .int x3), (4, .int x4)] → lp_Model_apart_5 G Q n x1 x2 x3 x4 u → W p l e ({ frames := 0, cells := 0, slots := 0, locals := 0 } : Room) s m args below meth c H locs 0 0 (pw_Ei below args s D (rw a cA cZ G) (rT cA cZ) A Q) (F0 m 5 ls []) := by
 obtain ⟨hx, hb, hr, hml, hown, hts, hlocks, hA⟩ := id C
 obtain ⟨hK, hI, hF⟩ := id K
 have hD : ∀ u, va_D A (rw a cA cZ G u) := fun u => rw_D hI hF
 intro n
 induction n with
 | zero => intro x1 x2 x3 x4 u H locs ls hP hS hl h; exact h.elim
 | succ n ih =>
   intro x1 x2 x3 x4 u H locs ls hP hS hl h
   refine lv_iload hx hb d_Model_apart_5 (lv_at hl 4 rfl) ?_
   refine lv_iconst (v := 3) hx hb d_Model_apart_7 (by decide) ?_
   refine lv_icmp_ge (tgt := 58) hx hb d_Model_apart_8 (by decide) (fun c1 => ?_) (fun c1 => ?_)
   · have h := h.1 c1
     refine lv_iload_n hx hb d_Model_apart_58 rfl (lv_at hl 3 rfl) ?_
     exact W.iret (v := x3) hx hb hr (fun t ht hW => ⟨⟨x3, u, rfl, h, by rw [ht]; exact hP, va_K.moved hW.alike hK⟩, hS.F ht⟩) hS.2.2 d_Model_apart_59 hlocks
   · have h := h.2 c1
     refine lv_aload_n hx hb d_Model_apart_11 rfl (lv_at hl 0 rfl) ?_
     refine va_get (D := D) (ci := 1) (v := .ref (a 1)) (C := R_Model) (T := T_Model) (N := 23) hx hb hts in_Model hown hK hP 0 rw_at_0 rfl 4 (by decide) (hts _ (List.mem_cons_of_mem _ kw_839)) (fun _ h9 => h9) rfl d_Model_apart_12 ?_
     refine lv_iconst (v := 3) hx hb d_Model_apart_15 (by decide) ?_
     refine lv_iload_n hx hb d_Model_apart_16 rfl (lv_at hl 1 rfl) ?_
     refine lv_imul hx hb d_Model_apart_17 ?_
     refine lv_iload hx hb d_Model_apart_18 (lv_at hl 4 rfl) ?_
     refine lv_iadd hx hb d_Model_apart_20 ?_
     refine va_iald hx hb hK hP 1 0 rw_at_1 rfl h.1 d_Model_apart_21 ?_
     have h := h.2
     refine lv_aload_n hx hb d_Model_apart_22 rfl (lv_at hl 0 rfl) ?_
     refine va_get (D := D) (ci := 1) (v := .ref (a 2)) (C := R_Model) (T := T_Model) (N := 23) hx hb hts in_Model hown hK hP 0 rw_at_0 rfl 5 (by decide) (hts _ (List.mem_cons_of_mem _ kw_840)) (fun _ h9 => h9) rfl d_Model_apart_23 ?_
     refine lv_iconst (v := 3) hx hb d_Model_apart_26 (by decide) ?_
     refine lv_iload_n hx hb d_Model_apart_27 rfl (lv_at hl 2 rfl) ?_
     refine lv_imul hx hb d_Model_apart_28 ?_
     refine lv_iload hx hb d_Model_apart_29 (lv_at hl 4 rfl) ?_
     refine lv_iadd hx hb d_Model_apart_31 ?_
     refine va_iald hx hb hK hP 2 0 rw_at_2 rfl h.1 d_Model_apart_32 ?_
     have h := h.2
     refine lv_isub hx hb d_Model_apart_33 ?_
     refine lv_topi (fun t2 et2 => ?_)
     have h := h t2 et2
     refine lv_istore (lv' := [(5, .int t2), (0, .ref (a 0)), (1, .int x1), (2, .int x2), (3, .int x3), (4, .int x4)]) hx hb d_Model_apart_34 hl (by decide) rfl (fun ls hl => ?_)
     refine lv_iload_n hx hb d_Model_apart_36 rfl (lv_at hl 4 rfl) ?_
     refine lv_iload hx hb d_Model_apart_37 (lv_at hl 0 rfl) ?_
     refine lv_if_ge (tgt := 48) hx hb d_Model_apart_39 (by decide) (fun c3 => ?_) (fun c3 => ?_)
     · have h := h.1 c3
       refine lv_iload hx hb d_Model_apart_48 (lv_at hl 0 rfl) ?_
       refine lv_iadd hx hb d_Model_apart_50 ?_
       refine lv_topi (fun t4 et4 => ?_)
       have h := h t4 et4
       refine lv_istore_n (lv' := [(3, .int t4), (5, .int t2), (0, .ref (a 0)), (1, .int x1), (2, .int x2), (4, .int x4)]) hx hb d_Model_apart_51 rfl hl (by decide) rfl (fun ls hl => ?_)
       obtain ⟨t5, et5⟩ : ∃ y : Int32, y = x4 + 1 := ⟨_, rfl⟩
       have h := h t5 et5
       refine lv_iinc (v := t5) (lv' := [(4, .int t5), (3, .int t4), (5, .int t2), (0, .ref (a 0)), (1, .int x1), (2, .int x2)]) hx hb d_Model_apart_52 hl (k := 5) rfl (by rw [et5]; rfl) (by decide) rfl (fun ls hl => ?_)
       refine lv_goto (tgt := 5) hx hb d_Model_apart_55 (by decide) ?_
       exact ih x1 x2 t4 t5 u _ _ _ hP hS (lv_sub hl [3, 4, 5, 1, 0] rfl) h
     · have h := h.2 c3
       refine lv_iload hx hb d_Model_apart_42 (lv_at hl 0 rfl) ?_
       refine lv_ineg hx hb d_Model_apart_44 ?_
       refine lv_goto (tgt := 50) hx hb d_Model_apart_45 (by decide) ?_
       refine lv_iadd hx hb d_Model_apart_50 ?_
       refine lv_topi (fun t6 et6 => ?_)
       have h := h t6 et6
       refine lv_istore_n (lv' := [(3, .int t6), (5, .int t2), (0, .ref (a 0)), (1, .int x1), (2, .int x2), (4, .int x4)]) hx hb d_Model_apart_51 rfl hl (by decide) rfl (fun ls hl => ?_)
       obtain ⟨t7, et7⟩ : ∃ y : Int32, y = x4 + 1 := ⟨_, rfl⟩
       have h := h t7 et7
       refine lv_iinc (v := t7) (lv' := [(4, .int t7), (3, .int t6), (5, .int t2), (0, .ref (a 0)), (1, .int x1), (2, .int x2)]) hx hb d_Model_apart_52 hl (k := 5) rfl (by rw [et7]; rfl) (by decide) rfl (fun ls hl => ?_)
       refine lv_goto (tgt := 5) hx hb d_Model_apart_55 (by decide) ?_
       exact ih x1 x2 t6 t7 u _ _ _ hP hS (lv_sub hl [3, 4, 5, 1, 0] rfl) h
set_option maxHeartbeats 4000000 in
set_option maxRecDepth 100000 in
theorem st_Model_apart {p : Program} {l : Launch} {e : Env} {s : State} {m : MethodId} {args : Array Value} {below : List Frame} {meth : Method} {c : Code} {D : va_G} {a : Nat → Nat} {cA cZ : ClassId} {G : pG} {A : Nat → Prop} {Q : Int32 → pS → Prop} (C : pw_C p s m args meth c b_Model_apart 6 R_Model (some .int) w_Model_apart A) (K : pw_K s D 15 a (rT cA cZ) A) (x1 x2 : Int32) (u : pS) (ls : Array Slot) (hP : va_P D vwCl (rw a cA cZ G u) s.heap) (hl : lv_has ls 6 [(0, .ref (a 0)), (1, .int x1), (2, .int x2)]) (h : wp_Model_apart G x1 x2 u Q) : W p l e ({ frames := 0, cells := 0, slots := 0, locals := 0 } : Room) s m args below meth c s.heap [] 0 0 (pw_Ei below args s D (rw a cA cZ G) (rT cA cZ) A Q) (F0 m 0 ls []) := by
 obtain ⟨hx, hb, hr, hml, hown, hts, hlocks, hA⟩ := id C
 obtain ⟨hK, hI, hF⟩ := id K
 have hD : ∀ u, va_D A (rw a cA cZ G u) := fun u => rw_D hI hF
 have hS : va_S A s.heap s.heap [] := va_S.rf
 have h : wp_Model_apart G x1 x2 u Q := h
 refine lv_iconst (v := 0) hx hb d_Model_apart_0 (by decide) ?_
 refine lv_istore_n (lv' := [(3, .int 0), (0, .ref (a 0)), (1, .int x1), (2, .int x2)]) hx hb d_Model_apart_1 rfl hl (by decide) rfl (fun ls hl => ?_)
 refine lv_iconst (v := 0) hx hb d_Model_apart_2 (by decide) ?_
 refine lv_istore (lv' := [(4, .int 0), (3, .int 0), (0, .ref (a 0)), (1, .int x1), (2, .int x2)]) hx hb d_Model_apart_3 hl (by decide) rfl (fun ls hl => ?_)
 obtain ⟨n1, h⟩ := h
 exact cp_Model_apart_5 C K n1 x1 x2 0 0 u _ _ _ hP hS (lv_sub hl [2, 3, 4, 1, 0] rfl) h
set_option maxHeartbeats 4000000 in
set_option maxRecDepth 100000 in
theorem ct_Model_apart (l : Launch) (D : va_G) (a : Nat → Nat) (cA cZ : ClassId) (G : pG) (sz : Nat) (x1 x2 : Int32) (u : pS) (Q : Int32 → pS → Prop) (hI : pw_I 15 a) (h : wp_Model_apart G x1 x2 u Q) : Met l y_Model_apart w_Model_apart ({ frames := 0, cells := 0, slots := 0, locals := 0 } : Room) (va_Pc [.ref (a 0), .int x1, .int x2] (pw_pre D (rw a cA cZ G) (rT cA cZ) sz u)) (va_Qi (fun (r : Int32) (u : pS) => Q r u) (pw_B D (rw a cA cZ G) (rT cA cZ)) (pw_F 15 a sz)) 0 0 (pw_F 15 a sz) := by
 refine Met.ofW (cc := b_Model_apart) (maxL := 6) (ret := (some .int)) (by decide) rfl ?_
 intro p e s m args below meth c s₁ B hml hv
 obtain ⟨rfl, hsz, hP, hK⟩ := hv
 subst hsz
 have hl := lv_entry ([.ref (a 0), .int x1, .int x2]) (n := 6) (Nat.le_of_ble_eq_true rfl)
 rw [lg_entry_eq]
 generalize (lg_sl ([.ref (a 0), .int x1, .int x2]) ++ List.replicate (6 - (lg_sl ([.ref (a 0), .int x1, .int x2])).length) Slot.unset).toArray = ls at hl ⊢
 exact st_Model_apart (A := (pw_F 15 a s.heap.size)) ⟨B.exec, B.bytes, B.returns, hml, findClass_of_methodNamed B.named, atoms_spec (ws := w_Model_apart) B.pre, B.notSynchronized, fun q hq => Or.inr hq⟩ ⟨hK, hI, fun k hk => Or.inl ⟨k, hk, rfl⟩⟩ x1 x2 u ls hP hl h
set_option maxHeartbeats 4000000 in
set_option maxRecDepth 100000 in
theorem cp_Model_nearestKind_4 {p : Program} {l : Launch} {e : Env} {s : State} {m : MethodId} {args : Array Value} {below : List Frame} {meth : Method} {c : Code} {D : va_G} {a : Nat → Nat} {cA cZ : ClassId} {G : pG} {A : Nat → Prop} {Q : Int32 → pS → Prop} (C : pw_C p s m args meth c b_Model_nearestKind 4 R_Model (some .int) w_Model_nearestKind A) (K : pw_K s D 15 a (rT cA cZ) A) : ∀ (n : Nat), ∀ (x1 x2 x3 : Int32) (u : pS) (H : Heap) (locs : List Loc) (ls : Array Slot), va_P D vwCl (rw a cA cZ G u) H → va_S A s.heap H locs → lv_has ls 4 [(0, .ref (a 0)), (1, .int x1), (2, .int x2), (3, .int x3)] → lp_Model_nearestKind_4 G Q n x1 x2 x3 u → W p l e ({ frames := 1, cells := 0, slots := 0, locals := 25 } : Room) s m args below meth c H locs 0 0 (pw_Ei below args s D (rw a cA cZ G) (rT cA cZ) A Q) (F0 m 4 ls []) := by
 obtain ⟨hx, hb, hr, hml, hown, hts, hlocks, hA⟩ := id C
 obtain ⟨hK, hI, hF⟩ := id K
 have hD : ∀ u, va_D A (rw a cA cZ G u) := fun u => rw_D hI hF
 intro n
 induction n with
 | zero => intro x1 x2 x3 u H locs ls hP hS hl h; exact h.elim
 | succ n ih =>
   intro x1 x2 x3 u H locs ls hP hS hl h
   refine lv_iload_n hx hb d_Model_nearestKind_4 rfl (lv_at hl 3 rfl) ?_
   refine lv_aload_n hx hb d_Model_nearestKind_5 rfl (lv_at hl 0 rfl) ?_
   refine va_get (D := D) (ci := 1) (v := .int (G.2.1 2)) (C := R_Model) (T := T_Model) (N := 23) hx hb hts in_Model hown hK hP 0 rw_at_0 rfl 3 (by decide) (hts _ (List.mem_cons_of_mem _ kw_838)) (fun _ h9 => h9) rfl d_Model_nearestKind_6 ?_
   refine lv_icmp_ge (tgt := 39) hx hb d_Model_nearestKind_9 (by decide) (fun c1 => ?_) (fun c1 => ?_)
   · have h := h.1 c1
     refine lv_iload_n hx hb d_Model_nearestKind_39 rfl (lv_at hl 2 rfl) ?_
     exact W.iret (v := x2) hx hb hr (fun t ht hW => ⟨⟨x2, u, rfl, h, by rw [ht]; exact hP, va_K.moved hW.alike hK⟩, hS.F ht⟩) hS.2.2 d_Model_nearestKind_40 hlocks
   · have h := h.2 c1
     refine lv_aload_n hx hb d_Model_nearestKind_12 rfl (lv_at hl 0 rfl) ?_
     refine lv_iload_n hx hb d_Model_nearestKind_13 rfl (lv_at hl 1 rfl) ?_
     refine lv_iload_n hx hb d_Model_nearestKind_14 rfl (lv_at hl 3 rfl) ?_
     refine cc_i (va_runV (As := [.int x1, .int x3]) (rest := []) ⟨hx, hb, hml, hown, hts⟩ (ct_Model_apart l D a cA cZ G _ x1 x3 u _ hI h) (pw_cwV 2 hts kw_935 kw_57 kw_932 kw_934 kw_25 (by decide +kernel) ⟨Nat.le_of_ble_eq_true rfl, Nat.le_of_ble_eq_true rfl⟩) ⟨pw_blind, va_recv hK hP (ci := 1) (q0 := 0) rfl rw_at_0, fun U hU hW => ⟨rfl, by rw [hU], by rw [hU]; exact hP, va_K.moved hW.alike hK⟩⟩ rfl rfl hl.1 rfl (lv_room (Nat.le_of_ble_eq_true rfl)) d_Model_nearestKind_15 ⟨Nat.le_of_ble_eq_true rfl, Nat.le_of_ble_eq_true rfl⟩) hS hF hA (fun r3 u2 H locs hP hS h => ?_)
     refine lv_aload_n hx hb d_Model_nearestKind_18 rfl (lv_at hl 0 rfl) ?_
     refine lv_iload_n hx hb d_Model_nearestKind_19 rfl (lv_at hl 1 rfl) ?_
     refine lv_iload_n hx hb d_Model_nearestKind_20 rfl (lv_at hl 2 rfl) ?_
     refine cc_i (va_runV (As := [.int x1, .int x2]) (rest := [.int r3]) ⟨hx, hb, hml, hown, hts⟩ (ct_Model_apart l D a cA cZ G _ x1 x2 u2 _ hI h) (pw_cwV 2 hts kw_935 kw_57 kw_932 kw_934 kw_25 (by decide +kernel) ⟨Nat.le_of_ble_eq_true rfl, Nat.le_of_ble_eq_true rfl⟩) ⟨pw_blind, va_recv hK hP (ci := 1) (q0 := 0) rfl rw_at_0, fun U hU hW => ⟨rfl, by rw [hU], by rw [hU]; exact hP, va_K.moved hW.alike hK⟩⟩ rfl rfl hl.1 rfl (lv_room (Nat.le_of_ble_eq_true rfl)) d_Model_nearestKind_21 ⟨Nat.le_of_ble_eq_true rfl, Nat.le_of_ble_eq_true rfl⟩) hS hF hA (fun r5 u4 H locs hP hS h => ?_)
     refine lv_icmp_ge (tgt := 31) hx hb d_Model_nearestKind_24 (by decide) (fun c6 => ?_) (fun c6 => ?_)
     · have h := h.1 c6
       refine lv_iload_n hx hb d_Model_nearestKind_31 rfl (lv_at hl 2 rfl) ?_
       refine lv_istore_n (lv' := [(2, .int x2), (0, .ref (a 0)), (1, .int x1), (3, .int x3)]) hx hb d_Model_nearestKind_32 rfl hl (by decide) rfl (fun ls hl => ?_)
       obtain ⟨t7, et7⟩ : ∃ y : Int32, y = x3 + 1 := ⟨_, rfl⟩
       have h := h t7 et7
       refine lv_iinc (v := t7) (lv' := [(3, .int t7), (2, .int x2), (0, .ref (a 0)), (1, .int x1)]) hx hb d_Model_nearestKind_33 hl (k := 3) rfl (by rw [et7]; rfl) (by decide) rfl (fun ls hl => ?_)
       refine lv_goto (tgt := 4) hx hb d_Model_nearestKind_36 (by decide) ?_
       exact ih x1 x2 t7 u4 _ _ _ hP hS (lv_sub hl [2, 3, 1, 0] rfl) h
     · have h := h.2 c6
       refine lv_iload_n hx hb d_Model_nearestKind_27 rfl (lv_at hl 3 rfl) ?_
       refine lv_goto (tgt := 32) hx hb d_Model_nearestKind_28 (by decide) ?_
       refine lv_istore_n (lv' := [(2, .int x3), (0, .ref (a 0)), (1, .int x1), (3, .int x3)]) hx hb d_Model_nearestKind_32 rfl hl (by decide) rfl (fun ls hl => ?_)
       obtain ⟨t8, et8⟩ : ∃ y : Int32, y = x3 + 1 := ⟨_, rfl⟩
       have h := h t8 et8
       refine lv_iinc (v := t8) (lv' := [(3, .int t8), (2, .int x3), (0, .ref (a 0)), (1, .int x1)]) hx hb d_Model_nearestKind_33 hl (k := 3) rfl (by rw [et8]; rfl) (by decide) rfl (fun ls hl => ?_)
       refine lv_goto (tgt := 4) hx hb d_Model_nearestKind_36 (by decide) ?_
       exact ih x1 x3 t8 u4 _ _ _ hP hS (lv_sub hl [2, 3, 1, 0] rfl) h
set_option maxHeartbeats 4000000 in
set_option maxRecDepth 100000 in
theorem st_Model_nearestKind {p : Program} {l : Launch} {e : Env} {s : State} {m : MethodId} {args : Array Value} {below : List Frame} {meth : Method} {c : Code} {D : va_G} {a : Nat → Nat} {cA cZ : ClassId} {G : pG} {A : Nat → Prop} {Q : Int32 → pS → Prop} (C : pw_C p s m args meth c b_Model_nearestKind 4 R_Model (some .int) w_Model_nearestKind A) (K : pw_K s D 15 a (rT cA cZ) A) (x1 : Int32) (u : pS) (ls : Array Slot) (hP : va_P D vwCl (rw a cA cZ G u) s.heap) (hl : lv_has ls 4 [(0, .ref (a 0)), (1, .int x1)]) (h : wp_Model_nearestKind G x1 u Q) : W p l e ({ frames := 1, cells := 0, slots := 0, locals := 25 } : Room) s m args below meth c s.heap [] 0 0 (pw_Ei below args s D (rw a cA cZ G) (rT cA cZ) A Q) (F0 m 0 ls []) := by
 obtain ⟨hx, hb, hr, hml, hown, hts, hlocks, hA⟩ := id C
 obtain ⟨hK, hI, hF⟩ := id K
 have hD : ∀ u, va_D A (rw a cA cZ G u) := fun u => rw_D hI hF
 have hS : va_S A s.heap s.heap [] := va_S.rf
 have h : wp_Model_nearestKind G x1 u Q := h
 refine lv_iconst (v := 0) hx hb d_Model_nearestKind_0 (by decide) ?_
 refine lv_istore_n (lv' := [(2, .int 0), (0, .ref (a 0)), (1, .int x1)]) hx hb d_Model_nearestKind_1 rfl hl (by decide) rfl (fun ls hl => ?_)
 refine lv_iconst (v := 1) hx hb d_Model_nearestKind_2 (by decide) ?_
 refine lv_istore_n (lv' := [(3, .int 1), (2, .int 0), (0, .ref (a 0)), (1, .int x1)]) hx hb d_Model_nearestKind_3 rfl hl (by decide) rfl (fun ls hl => ?_)
 obtain ⟨n1, h⟩ := h
 exact cp_Model_nearestKind_4 C K n1 x1 0 1 u _ _ _ hP hS (lv_sub hl [2, 3, 1, 0] rfl) h
set_option maxHeartbeats 4000000 in
set_option maxRecDepth 100000 in
theorem ct_Model_nearestKind (l : Launch) (D : va_G) (a : Nat → Nat) (cA cZ : ClassId) (G : pG) (sz : Nat) (x1 : Int32) (u : pS) (Q : Int32 → pS → Prop) (hI : pw_I 15 a) (h : wp_Model_nearestKind G x1 u Q) : Met l y_Model_nearestKind w_Model_nearestKind ({ frames := 1, cells := 0, slots := 0, locals := 25 } : Room) (va_Pc [.ref (a 0), .int x1] (pw_pre D (rw a cA cZ G) (rT cA cZ) sz u)) (va_Qi (fun (r : Int32) (u : pS) => Q r u) (pw_B D (rw a cA cZ G) (rT cA cZ)) (pw_F 15 a sz)) 0 0 (pw_F 15 a sz) := by
 refine Met.ofW (cc := b_Model_nearestKind) (maxL := 4) (ret := (some .int)) (by decide) rfl ?_
 intro p e s m args below meth c s₁ B hml hv
 obtain ⟨rfl, hsz, hP, hK⟩ := hv
 subst hsz
 have hl := lv_entry ([.ref (a 0), .int x1]) (n := 4) (Nat.le_of_ble_eq_true rfl)
 rw [lg_entry_eq]
 generalize (lg_sl ([.ref (a 0), .int x1]) ++ List.replicate (4 - (lg_sl ([.ref (a 0), .int x1])).length) Slot.unset).toArray = ls at hl ⊢
 exact st_Model_nearestKind (A := (pw_F 15 a s.heap.size)) ⟨B.exec, B.bytes, B.returns, hml, findClass_of_methodNamed B.named, atoms_spec (ws := w_Model_nearestKind) B.pre, B.notSynchronized, fun q hq => Or.inr hq⟩ ⟨hK, hI, fun k hk => Or.inl ⟨k, hk, rfl⟩⟩ x1 u ls hP hl h
