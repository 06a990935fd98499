set_option maxHeartbeats 4000000 in
set_option maxRecDepth 100000 in
theorem st_Model_thrown {p : Program} {l : Launch} {e : Env} {s : State} {m : MethodId} {args : Array Value} {below : List Frame} {meth : Method} {c : Code} {D : va_G} {a : Nat → Nat} {cA cZ : ClassId} {G : pG} {A : Nat → Prop} {Q : Int32 → pS → Prop} (C : pw_C p s m args meth c b_Model_thrown 1 R_Model (some .int) w_Model_thrown A) (K : pw_K s D 15 a (rT cA cZ) A) (u : pS) (ls : Array Slot) (hP : va_P D vwCl (rw a cA cZ G u) s.heap) (hl : lv_has ls 1 [(0, .ref (a 0))]) (h : wp_Model_thrown G u Q) : W p l e ({ frames := 0, cells := 0, slots := 0, locals := 0 } : Room) s m args below meth c s.heap [] 0 0 (pw_Ei below args s D (rw a cA cZ G) (rT cA cZ) A Q) (F0 m 0 ls []) := by
 obtain ⟨hx, hb, hr, hml, hown, hts, hlocks, hA⟩ := id C
 obtain ⟨hK, hI, hF⟩ := id K
 have hD : ∀ u, va_D A (rw a cA cZ G u) := fun u => rw_D hI hF
 have hS : va_S A s.heap s.heap [] := va_S.rf
 have h : wp_Model_thrown G u Q := h
 refine lv_aload_n hx hb d_Model_thrown_0 rfl (lv_at hl 0 rfl) ?_
 refine va_get (D := D) (ci := 1) (v := .int (u.1 0)) (C := R_Model) (T := T_Model) (N := 23) hx hb hts in_Model hown hK hP 0 rw_at_0 rfl 0 (by decide) (hts _ (List.mem_cons_of_mem _ kw_835)) (fun _ h9 => h9) rfl d_Model_thrown_1 ?_
 exact W.iret (v := (u.1 0)) hx hb hr (fun t ht hW => ⟨⟨(u.1 0), u, rfl, h, by rw [ht]; exact hP, va_K.moved hW.alike hK⟩, hS.F ht⟩) hS.2.2 d_Model_thrown_4 hlocks
set_option maxHeartbeats 4000000 in
set_option maxRecDepth 100000 in
theorem ct_Model_thrown (l : Launch) (D : va_G) (a : Nat → Nat) (cA cZ : ClassId) (G : pG) (sz : Nat) (u : pS) (Q : Int32 → pS → Prop) (hI : pw_I 15 a) (h : wp_Model_thrown G u Q) : Met l y_Model_thrown w_Model_thrown ({ frames := 0, cells := 0, slots := 0, locals := 0 } : Room) (va_Pc [.ref (a 0)] (pw_pre D (rw a cA cZ G) (rT cA cZ) sz u)) (va_Qi (fun (r : Int32) (u : pS) => Q r u) (pw_B D (rw a cA cZ G) (rT cA cZ)) (pw_F 15 a sz)) 0 0 (pw_F 15 a sz) := by
 refine Met.ofW (cc := b_Model_thrown) (maxL := 1) (ret := (some .int)) (by decide) rfl ?_
 intro p e s m args below meth c s₁ B hml hv
 obtain ⟨rfl, hsz, hP, hK⟩ := hv
 subst hsz
 have hl := lv_entry ([.ref (a 0)]) (n := 1) (Nat.le_of_ble_eq_true rfl)
 rw [lg_entry_eq]
 generalize (lg_sl ([.ref (a 0)]) ++ List.replicate (1 - (lg_sl ([.ref (a 0)])).length) Slot.unset).toArray = ls at hl ⊢
 exact st_Model_thrown (A := (pw_F 15 a s.heap.size)) ⟨B.exec, B.bytes, B.returns, hml, findClass_of_methodNamed B.named, atoms_spec (ws := w_Model_thrown) B.pre, B.notSynchronized, fun q hq => Or.inr hq⟩ ⟨hK, hI, fun k hk => Or.inl ⟨k, hk, rfl⟩⟩ u ls hP hl h
set_option maxHeartbeats 4000000 in
set_option maxRecDepth 100000 in
theorem st_Model_isPlace {p : Program} {l : Launch} {e : Env} {s : State} {m : MethodId} {args : Array Value} {below : List Frame} {meth : Method} {c : Code} {D : va_G} {a : Nat → Nat} {cA cZ : ClassId} {G : pG} {A : Nat → Prop} {Q : Int32 → pS → Prop} (C : pw_C p s m args meth c b_Model_isPlace 3 R_Model (some .boolean) w_Model_isPlace A) (K : pw_K s D 15 a (rT cA cZ) A) (x1 x2 : Int32) (u : pS) (ls : Array Slot) (hP : va_P D vwCl (rw a cA cZ G u) s.heap) (hl : lv_has ls 3 [(0, .ref (a 0)), (1, .int x1), (2, .int x2)]) (h : wp_Model_isPlace G x1 x2 u Q) : W p l e ({ frames := 0, cells := 0, slots := 0, locals := 0 } : Room) s m args below meth c s.heap [] 0 0 (pw_Ei below args s D (rw a cA cZ G) (rT cA cZ) A Q) (F0 m 0 ls []) := by
 obtain ⟨hx, hb, hr, hml, hown, hts, hlocks, hA⟩ := id C
 obtain ⟨hK, hI, hF⟩ := id K
 have hD : ∀ u, va_D A (rw a cA cZ G u) := fun u => rw_D hI hF
 have hS : va_S A s.heap s.heap [] := va_S.rf
 have h : wp_Model_isPlace G x1 x2 u Q := h
 refine lv_iload_n hx hb d_Model_isPlace_0 rfl (lv_at hl 1 rfl) ?_
 refine lv_if_lt (tgt := 28) hx hb d_Model_isPlace_1 (by decide) (fun c1 => ?_) (fun c1 => ?_)
 · have h := h.1 c1
   refine lv_iconst (v := 0) hx hb d_Model_isPlace_28 (by decide) ?_
   exact W.zret (v := 0) hx hb hr rfl (fun t ht hW => ⟨⟨0, u, rfl, h, by rw [ht]; exact hP, va_K.moved hW.alike hK⟩, hS.F ht⟩) hS.2.2 d_Model_isPlace_29 hlocks
 · have h := h.2 c1
   refine lv_iload_n hx hb d_Model_isPlace_4 rfl (lv_at hl 1 rfl) ?_
   refine lv_aload_n hx hb d_Model_isPlace_5 rfl (lv_at hl 0 rfl) ?_
   refine va_get (D := D) (ci := 1) (v := .int (G.2.1 0)) (C := R_Model) (T := T_Model) (N := 23) hx hb hts in_Model hown hK hP 0 rw_at_0 rfl 1 (by decide) (hts _ (List.mem_cons_of_mem _ kw_836)) (fun _ h9 => h9) rfl d_Model_isPlace_6 ?_
   refine lv_icmp_ge (tgt := 28) hx hb d_Model_isPlace_9 (by decide) (fun c2 => ?_) (fun c2 => ?_)
   · have h := h.1 c2
     refine lv_iconst (v := 0) hx hb d_Model_isPlace_28 (by decide) ?_
     exact W.zret (v := 0) hx hb hr rfl (fun t ht hW => ⟨⟨0, u, rfl, h, by rw [ht]; exact hP, va_K.moved hW.alike hK⟩, hS.F ht⟩) hS.2.2 d_Model_isPlace_29 hlocks
   · have h := h.2 c2
     refine lv_iload_n hx hb d_Model_isPlace_12 rfl (lv_at hl 2 rfl) ?_
     refine lv_if_lt (tgt := 28) hx hb d_Model_isPlace_13 (by decide) (fun c3 => ?_) (fun c3 => ?_)
     · have h := h.1 c3
       refine lv_iconst (v := 0) hx hb d_Model_isPlace_28 (by decide) ?_
       exact W.zret (v := 0) hx hb hr rfl (fun t ht hW => ⟨⟨0, u, rfl, h, by rw [ht]; exact hP, va_K.moved hW.alike hK⟩, hS.F ht⟩) hS.2.2 d_Model_isPlace_29 hlocks
     · have h := h.2 c3
       refine lv_iload_n hx hb d_Model_isPlace_16 rfl (lv_at hl 2 rfl) ?_
       refine lv_aload_n hx hb d_Model_isPlace_17 rfl (lv_at hl 0 rfl) ?_
       refine va_get (D := D) (ci := 1) (v := .int (G.2.1 1)) (C := R_Model) (T := T_Model) (N := 23) hx hb hts in_Model hown hK hP 0 rw_at_0 rfl 2 (by decide) (hts _ (List.mem_cons_of_mem _ kw_837)) (fun _ h9 => h9) rfl d_Model_isPlace_18 ?_
       refine lv_icmp_ge (tgt := 28) hx hb d_Model_isPlace_21 (by decide) (fun c4 => ?_) (fun c4 => ?_)
       · have h := h.1 c4
         refine lv_iconst (v := 0) hx hb d_Model_isPlace_28 (by decide) ?_
         exact W.zret (v := 0) hx hb hr rfl (fun t ht hW => ⟨⟨0, u, rfl, h, by rw [ht]; exact hP, va_K.moved hW.alike hK⟩, hS.F ht⟩) hS.2.2 d_Model_isPlace_29 hlocks
       · have h := h.2 c4
         refine lv_iconst (v := 1) hx hb d_Model_isPlace_24 (by decide) ?_
         refine lv_goto (tgt := 29) hx hb d_Model_isPlace_25 (by decide) ?_
         exact W.zret (v := 1) hx hb hr rfl (fun t ht hW => ⟨⟨1, u, rfl, h, by rw [ht]; exact hP, va_K.moved hW.alike hK⟩, hS.F ht⟩) hS.2.2 d_Model_isPlace_29 hlocks
set_option maxHeartbeats 4000000 in
set_option maxRecDepth 100000 in
theorem ct_Model_isPlace (l : Launch) (D : va_G) (a : Nat → Nat) (cA cZ : ClassId) (G : pG) (sz : Nat) (x1 x2 : Int32) (u : pS) (Q : Int32 → pS → Prop) (hI : pw_I 15 a) (h : wp_Model_isPlace G x1 x2 u Q) : Met l y_Model_isPlace w_Model_isPlace ({ frames := 0, cells := 0, slots := 0, locals := 0 } : Room) (va_Pc [.ref (a 0), .int x1, .int x2] (pw_pre D (rw a cA cZ G) (rT cA cZ) sz u)) (va_Qi (fun (r : Int32) (u : pS) => Q r u) (pw_B D (rw a cA cZ G) (rT cA cZ)) (pw_F 15 a sz)) 0 0 (pw_F 15 a sz) := by
 refine Met.ofW (cc := b_Model_isPlace) (maxL := 3) (ret := (some .boolean)) (by decide) rfl ?_
 intro p e s m args below meth c s₁ B hml hv
 obtain ⟨rfl, hsz, hP, hK⟩ := hv
 subst hsz
 have hl := lv_entry ([.ref (a 0), .int x1, .int x2]) (n := 3) (Nat.le_of_ble_eq_true rfl)
 rw [lg_entry_eq]
 generalize (lg_sl ([.ref (a 0), .int x1, .int x2]) ++ List.replicate (3 - (lg_sl ([.ref (a 0), .int x1, .int x2])).length) Slot.unset).toArray = ls at hl ⊢
 exact st_Model_isPlace (A := (pw_F 15 a s.heap.size)) ⟨B.exec, B.bytes, B.returns, hml, findClass_of_methodNamed B.named, atoms_spec (ws := w_Model_isPlace) B.pre, B.notSynchronized, fun q hq => Or.inr hq⟩ ⟨hK, hI, fun k hk => Or.inl ⟨k, hk, rfl⟩⟩ x1 x2 u ls hP hl h
set_option maxHeartbeats 4000000 in
set_option maxRecDepth 100000 in
theorem st_Model_isColour {p : Program} {l : Launch} {e : Env} {s : State} {m : MethodId} {args : Array Value} {below : List Frame} {meth : Method} {c : Code} {D : va_G} {a : Nat → Nat} {cA cZ : ClassId} {G : pG} {A : Nat → Prop} {Q : Int32 → pS → Prop} (C : pw_C p s m args meth c b_Model_isColour 1 R_Model (some .boolean) w_Model_isColour A) (K : pw_K s D 15 a (rT cA cZ) A) (x0 : Int32) (u : pS) (ls : Array Slot) (hP : va_P D vwCl (rw a cA cZ G u) s.heap) (hl : lv_has ls 1 [(0, .int x0)]) (h : wp_Model_isColour G x0 u Q) : W p l e ({ frames := 0, cells := 0, slots := 0, locals := 0 } : Room) s m args below meth c s.heap [] 0 0 (pw_Ei below args s D (rw a cA cZ G) (rT cA cZ) A Q) (F0 m 0 ls []) := by
 obtain ⟨hx, hb, hr, hml, hown, hts, hlocks, hA⟩ := id C
 obtain ⟨hK, hI, hF⟩ := id K
 have hD : ∀ u, va_D A (rw a cA cZ G u) := fun u => rw_D hI hF
 have hS : va_S A s.heap s.heap [] := va_S.rf
 have h : wp_Model_isColour G x0 u Q := h
 refine lv_iload_n hx hb d_Model_isColour_0 rfl (lv_at hl 0 rfl) ?_
 refine lv_if_lt (tgt := 15) hx hb d_Model_isColour_1 (by decide) (fun c1 => ?_) (fun c1 => ?_)
 · have h := h.1 c1
   refine lv_iconst (v := 0) hx hb d_Model_isColour_15 (by decide) ?_
   exact W.zret (v := 0) hx hb hr rfl (fun t ht hW => ⟨⟨0, u, rfl, h, by rw [ht]; exact hP, va_K.moved hW.alike hK⟩, hS.F ht⟩) hS.2.2 d_Model_isColour_16 hlocks
 · have h := h.2 c1
   refine lv_iload_n hx hb d_Model_isColour_4 rfl (lv_at hl 0 rfl) ?_
   refine lv_sipush (v := 255) hx hb d_Model_isColour_5 (by decide) ?_
   refine lv_icmp_gt (tgt := 15) hx hb d_Model_isColour_8 (by decide) (fun c2 => ?_) (fun c2 => ?_)
   · have h := h.1 c2
     refine lv_iconst (v := 0) hx hb d_Model_isColour_15 (by decide) ?_
     exact W.zret (v := 0) hx hb hr rfl (fun t ht hW => ⟨⟨0, u, rfl, h, by rw [ht]; exact hP, va_K.moved hW.alike hK⟩, hS.F ht⟩) hS.2.2 d_Model_isColour_16 hlocks
   · have h := h.2 c2
     refine lv_iconst (v := 1) hx hb d_Model_isColour_11 (by decide) ?_
     refine lv_goto (tgt := 16) hx hb d_Model_isColour_12 (by decide) ?_
     exact W.zret (v := 1) hx hb hr rfl (fun t ht hW => ⟨⟨1, u, rfl, h, by rw [ht]; exact hP, va_K.moved hW.alike hK⟩, hS.F ht⟩) hS.2.2 d_Model_isColour_16 hlocks
set_option maxHeartbeats 4000000 in
set_option maxRecDepth 100000 in
theorem ct_Model_isColour (l : Launch) (D : va_G) (a : Nat → Nat) (cA cZ : ClassId) (G : pG) (sz : Nat) (x0 : Int32) (u : pS) (Q : Int32 → pS → Prop) (hI : pw_I 15 a) (h : wp_Model_isColour G x0 u Q) : Met l y_Model_isColour w_Model_isColour ({ frames := 0, cells := 0, slots := 0, locals := 0 } : Room) (va_Pc [.int x0] (pw_pre D (rw a cA cZ G) (rT cA cZ) sz u)) (va_Qi (fun (r : Int32) (u : pS) => Q r u) (pw_B D (rw a cA cZ G) (rT cA cZ)) (pw_F 15 a sz)) 0 0 (pw_F 15 a sz) := by
 refine Met.ofW (cc := b_Model_isColour) (maxL := 1) (ret := (some .boolean)) (by decide) rfl ?_
 intro p e s m args below meth c s₁ B hml hv
 obtain ⟨rfl, hsz, hP, hK⟩ := hv
 subst hsz
 have hl := lv_entry ([.int x0]) (n := 1) (Nat.le_of_ble_eq_true rfl)
 rw [lg_entry_eq]
 generalize (lg_sl ([.int x0]) ++ List.replicate (1 - (lg_sl ([.int x0])).length) Slot.unset).toArray = ls at hl ⊢
 exact st_Model_isColour (A := (pw_F 15 a s.heap.size)) ⟨B.exec, B.bytes, B.returns, hml, findClass_of_methodNamed B.named, atoms_spec (ws := w_Model_isColour) B.pre, B.notSynchronized, fun q hq => Or.inr hq⟩ ⟨hK, hI, fun k hk => Or.inl ⟨k, hk, rfl⟩⟩ x0 u ls hP hl h
set_option maxHeartbeats 4000000 in
set_option maxRecDepth 100000 in
theorem cp_Model_pixel_41 {p : Program} {l : Launch} {e : Env} {s : State} {m : MethodId} {args : Array Value} {below : List Frame} {meth : Method} {c : Code} {D : va_G} {a : Nat → Nat} {cA cZ : ClassId} {G : pG} {A : Nat → Prop} {Q : Int32 → pS → Prop} (C : pw_C p s m args meth c b_Model_pixel 7 R_Model (some .boolean) w_Model_pixel A) (K : pw_K s D 15 a (rT cA cZ) A) {k42 : Int32 → Int32 → Int32 → Int32 → Int32 → Int32 → pS → Prop} (hk42 : ∀ (x1 x2 x3 x4 x5 y6 : Int32) (u : pS) (H : Heap) (locs : List Loc) (ls : Array Slot), va_P D vwCl (rw a cA cZ G u) H → va_S A s.heap H locs → lv_has ls 7 [(0, .ref (a 0)), (1, .int x1), (2, .int x2), (3, .int x3), (4, .int x4), (5, .int x5)] → k42 x1 x2 x3 x4 x5 y6 u → W p l e ({ frames := 1, cells := 0, slots := 0, locals := 22 } : Room) s m args below meth c H locs 0 0 (pw_Ei below args s D (rw a cA cZ G) (rT cA cZ) A Q) (F0 m 42 ls [.int y6, .ref (a 0)])) : ∀ (x1 x2 x3 x4 x5 : Int32) (u : pS) (H : Heap) (locs : List Loc) (ls : Array Slot), va_P D vwCl (rw a cA cZ G u) H → va_S A s.heap H locs → lv_has ls 7 [(0, .ref (a 0)), (1, .int x1), (2, .int x2), (3, .int x3), (4, .int x4), (5, .int x5)] → jn_Model_pixel_41 G Q k42 x1 x2 x3 x4 x5 u → W p l e ({ frames := 1, cells := 0, slots := 0, locals := 22 } : Room) s m args below meth c H locs 0 0 (pw_Ei below args s D (rw a cA cZ G) (rT cA cZ) A Q) (F0 m 41 ls [.ref (a 0)]) := by
 obtain ⟨hx, hb, hr, hml, hown, hts, hlocks, hA⟩ := id C
 obtain ⟨hK, hI, hF⟩ := id K
 have hD : ∀ u, va_D A (rw a cA cZ G u) := fun u => rw_D hI hF
 intro x1 x2 x3 x4 x5 u H locs ls hP hS hl h
 refine lv_iconst (v := 2) hx hb d_Model_pixel_41 (by decide) ?_
 exact hk42 x1 x2 x3 x4 x5 2 u _ _ _ hP hS (lv_sub hl [0, 1, 2, 3, 4, 5] rfl) h
set_option maxHeartbeats 4000000 in
set_option maxRecDepth 100000 in
theorem cp_Model_pixel_107 {p : Program} {l : Launch} {e : Env} {s : State} {m : MethodId} {args : Array Value} {below : List Frame} {meth : Method} {c : Code} {D : va_G} {a : Nat → Nat} {cA cZ : ClassId} {G : pG} {A : Nat → Prop} {Q : Int32 → pS → Prop} (C : pw_C p s m args meth c b_Model_pixel 7 R_Model (some .boolean) w_Model_pixel A) (K : pw_K s D 15 a (rT cA cZ) A) : ∀ (x3 x4 x5 x6 : Int32) (u : pS) (H : Heap) (locs : List Loc) (ls : Array Slot), va_P D vwCl (rw a cA cZ G u) H → va_S A s.heap H locs → lv_has ls 7 [(0, .ref (a 0)), (3, .int x3), (4, .int x4), (5, .int x5), (6, .int x6)] → jn_Model_pixel_107 G Q x3 x4 x5 x6 u → W p l e ({ frames := 1, cells := 0, slots := 0, locals := 22 } : Room) s m args below meth c H locs 0 0 (pw_Ei below args s D (rw a cA cZ G) (rT cA cZ) A Q) (F0 m 107 ls []) := by
 obtain ⟨hx, hb, hr, hml, hown, hts, hlocks, hA⟩ := id C
 obtain ⟨hK, hI, hF⟩ := id K
 have hD : ∀ u, va_D A (rw a cA cZ G u) := fun u => rw_D hI hF
 intro x3 x4 x5 x6 u H locs ls hP hS hl h
 refine lv_aload_n hx hb d_Model_pixel_107 rfl (lv_at hl 0 rfl) ?_
 refine va_get (D := D) (ci := 1) (v := .ref (a 1)) (C := R_Model) (T := T_Model) (N := 23) hx hb hts in_Model hown hK hP 0 rw_at_0 rfl 4 (by decide) (hts _ (List.mem_cons_of_mem _ kw_839)) (fun _ h9 => h9) rfl d_Model_pixel_108 ?_
 refine lv_iload hx hb d_Model_pixel_111 (lv_at hl 4 rfl) ?_
 refine lv_iload_n hx hb d_Model_pixel_113 rfl (lv_at hl 1 rfl) ?_
 refine va_iast hx hb hK hP (hD _) hS 1 0 rw_at_1 rfl h.1 d_Model_pixel_114 (fun H locs hP _ hS => ?_)
 obtain ⟨u11, eu11⟩ : ∃ z, z = pw_sa u 0 (upd (u.2 0) x6.toNatClampNeg x3) := ⟨_, rfl⟩
 rw [rw_sa_1, ← eu11] at hP
 have h := h.2 u11 eu11
 refine lv_aload_n hx hb d_Model_pixel_115 rfl (lv_at hl 0 rfl) ?_
 refine va_get (D := D) (ci := 1) (v := .ref (a 1)) (C := R_Model) (T := T_Model) (N := 23) hx hb hts in_Model hown hK hP 0 rw_at_0 rfl 4 (by decide) (hts _ (List.mem_cons_of_mem _ kw_839)) (fun _ h9 => h9) rfl d_Model_pixel_116 ?_
 refine lv_iload hx hb d_Model_pixel_119 (lv_at hl 4 rfl) ?_
 refine lv_iconst (v := 1) hx hb d_Model_pixel_121 (by decide) ?_
 refine lv_iadd hx hb d_Model_pixel_122 ?_
 refine lv_iload hx hb d_Model_pixel_123 (lv_at hl 2 rfl) ?_
 refine va_iast hx hb hK hP (hD _) hS 1 0 rw_at_1 rfl h.1 d_Model_pixel_125 (fun H locs hP _ hS => ?_)
 obtain ⟨u12, eu12⟩ : ∃ z, z = pw_sa u11 0 (upd (u11.2 0) (x6 + 1).toNatClampNeg x4) := ⟨_, rfl⟩
 rw [rw_sa_1, ← eu12] at hP
 have h := h.2 u12 eu12
 refine lv_aload_n hx hb d_Model_pixel_126 rfl (lv_at hl 0 rfl) ?_
 refine va_get (D := D) (ci := 1) (v := .ref (a 1)) (C := R_Model) (T := T_Model) (N := 23) hx hb hts in_Model hown hK hP 0 rw_at_0 rfl 4 (by decide) (hts _ (List.mem_cons_of_mem _ kw_839)) (fun _ h9 => h9) rfl d_Model_pixel_127 ?_
 refine lv_iload hx hb d_Model_pixel_130 (lv_at hl 4 rfl) ?_
 refine lv_iconst (v := 2) hx hb d_Model_pixel_132 (by decide) ?_
 refine lv_iadd hx hb d_Model_pixel_133 ?_
 refine lv_iload hx hb d_Model_pixel_134 (lv_at hl 3 rfl) ?_
 refine va_iast hx hb hK hP (hD _) hS 1 0 rw_at_1 rfl h.1 d_Model_pixel_136 (fun H locs hP _ hS => ?_)
 obtain ⟨u13, eu13⟩ : ∃ z, z = pw_sa u12 0 (upd (u12.2 0) (x6 + 2).toNatClampNeg x5) := ⟨_, rfl⟩
 rw [rw_sa_1, ← eu13] at hP
 have h := h.2 u13 eu13
 refine lv_aload_n hx hb d_Model_pixel_137 rfl (lv_at hl 0 rfl) ?_
 refine lv_iconst (v := 0) hx hb d_Model_pixel_138 (by decide) ?_
 refine va_put (D := D) (ci := 1) (v := .int 0) (ty := .boolean) (C := R_Model) (T := T_Model) (N := 23) hx hb hts in_Model ty_Model tyok_Model nm_Model hown hK hP (hD _) hS 0 rw_at_0 rfl 12 (by decide) (hts _ (List.mem_cons_of_mem _ kw_847)) (fun _ h9 => h9) rfl (by decide +kernel) rfl rfl (Nat.le_of_ble_eq_true rfl) d_Model_pixel_139 (fun H locs hP _ hS => ?_)
 obtain ⟨u14, eu14⟩ : ∃ z, z = pw_si u13 2 0 := ⟨_, rfl⟩
 rw [rw_si_0_12, ← eu14] at hP
 have h := h u14 eu14
 refine lv_iconst (v := 1) hx hb d_Model_pixel_142 (by decide) ?_
 exact W.zret (v := 1) hx hb hr rfl (fun t ht hW => ⟨⟨1, u14, rfl, h, by rw [ht]; exact hP, va_K.moved hW.alike hK⟩, hS.F ht⟩) hS.2.2 d_Model_pixel_143 hlocks
set_option maxHeartbeats 4000000 in
set_option maxRecDepth 100000 in
theorem cp_Model_pixel_42 {p : Program} {l : Launch} {e : Env} {s : State} {m : MethodId} {args : Array Value} {below : List Frame} {meth : Method} {c : Code} {D : va_G} {a : Nat → Nat} {cA cZ : ClassId} {G : pG} {A : Nat → Prop} {Q : Int32 → pS → Prop} (C : pw_C p s m args meth c b_Model_pixel 7 R_Model (some .boolean) w_Model_pixel A) (K : pw_K s D 15 a (rT cA cZ) A) : ∀ (x1 x2 x3 x4 x5 y6 : Int32) (u : pS) (H : Heap) (locs : List Loc) (ls : Array Slot), va_P D vwCl (rw a cA cZ G u) H → va_S A s.heap H locs → lv_has ls 7 [(0, .ref (a 0)), (1, .int x1), (2, .int x2), (3, .int x3), (4, .int x4), (5, .int x5)] → jn_Model_pixel_42 G Q x1 x2 x3 x4 x5 y6 u → W p l e ({ frames := 1, cells := 0, slots := 0, locals := 22 } : Room) s m args below meth c H locs 0 0 (pw_Ei below args s D (rw a cA cZ G) (rT cA cZ) A Q) (F0 m 42 ls [.int y6, .ref (a 0)]) := by
 obtain ⟨hx, hb, hr, hml, hown, hts, hlocks, hA⟩ := id C
 obtain ⟨hK, hI, hF⟩ := id K
 have hD : ∀ u, va_D A (rw a cA cZ G u) := fun u => rw_D hI hF
 intro x1 x2 x3 x4 x5 y6 u H locs ls hP hS hl h
 refine va_put (D := D) (ci := 1) (v := .int y6) (ty := .int) (C := R_Model) (T := T_Model) (N := 23) hx hb hts in_Model ty_Model tyok_Model nm_Model hown hK hP (hD _) hS 0 rw_at_0 rfl 0 (by decide) (hts _ (List.mem_cons_of_mem _ kw_835)) (fun _ h9 => h9) rfl (by decide +kernel) rfl rfl (Nat.le_of_ble_eq_true rfl) d_Model_pixel_42 (fun H locs hP _ hS => ?_)
 obtain ⟨u7, eu7⟩ : ∃ z, z = pw_si u 0 y6 := ⟨_, rfl⟩
 rw [rw_si_0_0, ← eu7] at hP
 have h := h u7 eu7
 refine lv_aload_n hx hb d_Model_pixel_45 rfl (lv_at hl 0 rfl) ?_
 refine va_get (D := D) (ci := 1) (v := .int (u7.1 0)) (C := R_Model) (T := T_Model) (N := 23) hx hb hts in_Model hown hK hP 0 rw_at_0 rfl 0 (by decide) (hts _ (List.mem_cons_of_mem _ kw_835)) (fun _ h9 => h9) rfl d_Model_pixel_46 ?_
 refine lv_if_le (tgt := 54) hx hb d_Model_pixel_49 (by decide) (fun c8 => ?_) (fun c8 => ?_)
 · have h := h.1 c8
   refine lv_iconst (v := 3) hx hb d_Model_pixel_54 (by decide) ?_
   refine lv_aload_n hx hb d_Model_pixel_55 rfl (lv_at hl 0 rfl) ?_
   refine va_get (D := D) (ci := 1) (v := .int (G.2.1 0)) (C := R_Model) (T := T_Model) (N := 23) hx hb hts in_Model hown hK hP 0 rw_at_0 rfl 1 (by decide) (hts _ (List.mem_cons_of_mem _ kw_836)) (fun _ h9 => h9) rfl d_Model_pixel_56 ?_
   refine lv_iload_n hx hb d_Model_pixel_59 rfl (lv_at hl 2 rfl) ?_
   refine lv_imul hx hb d_Model_pixel_60 ?_
   refine lv_iload_n hx hb d_Model_pixel_61 rfl (lv_at hl 1 rfl) ?_
   refine lv_iadd hx hb d_Model_pixel_62 ?_
   refine lv_imul hx hb d_Model_pixel_63 ?_
   refine lv_topi (fun t9 et9 => ?_)
   have h := h t9 et9
   refine lv_istore (lv' := [(6, .int t9), (0, .ref (a 0)), (1, .int x1), (2, .int x2), (3, .int x3), (4, .int x4), (5, .int x5)]) hx hb d_Model_pixel_64 hl (by decide) rfl (fun ls hl => ?_)
   refine lv_aload_n hx hb d_Model_pixel_66 rfl (lv_at hl 1 rfl) ?_
   refine va_get (D := D) (ci := 1) (v := .ref (a 1)) (C := R_Model) (T := T_Model) (N := 23) hx hb hts in_Model hown hK hP 0 rw_at_0 rfl 4 (by decide) (hts _ (List.mem_cons_of_mem _ kw_839)) (fun _ h9 => h9) rfl d_Model_pixel_67 ?_
   refine lv_iload hx hb d_Model_pixel_70 (lv_at hl 0 rfl) ?_
   refine va_iald hx hb hK hP 1 0 rw_at_1 rfl h.1 d_Model_pixel_72 ?_
   have h := h.2
   refine lv_iload_n hx hb d_Model_pixel_73 rfl (lv_at hl 4 rfl) ?_
   refine lv_icmp_ne (tgt := 107) hx hb d_Model_pixel_74 (by decide) (fun c10 => ?_) (fun c10 => ?_)
   · have h := h.2 c10
     exact cp_Model_pixel_107 C K x3 x4 x5 t9 u7 _ _ _ hP hS (lv_sub hl [1, 4, 5, 6, 0] rfl) h
   · have h := h.1 c10
     refine lv_aload_n hx hb d_Model_pixel_77 rfl (lv_at hl 1 rfl) ?_
     refine va_get (D := D) (ci := 1) (v := .ref (a 1)) (C := R_Model) (T := T_Model) (N := 23) hx hb hts in_Model hown hK hP 0 rw_at_0 rfl 4 (by decide) (hts _ (List.mem_cons_of_mem _ kw_839)) (fun _ h9 => h9) rfl d_Model_pixel_78 ?_
     refine lv_iload hx hb d_Model_pixel_81 (lv_at hl 0 rfl) ?_
     refine lv_iconst (v := 1) hx hb d_Model_pixel_83 (by decide) ?_
     refine lv_iadd hx hb d_Model_pixel_84 ?_
     refine va_iald hx hb hK hP 1 0 rw_at_1 rfl h.1 d_Model_pixel_85 ?_
     have h := h.2
     refine lv_iload hx hb d_Model_pixel_86 (lv_at hl 5 rfl) ?_
     refine lv_icmp_ne (tgt := 107) hx hb d_Model_pixel_88 (by decide) (fun c15 => ?_) (fun c15 => ?_)
     · have h := h.2 c15
       exact cp_Model_pixel_107 C K x3 x4 x5 t9 u7 _ _ _ hP hS (lv_sub hl [1, 4, 5, 6, 0] rfl) h
     · have h := h.1 c15
       refine lv_aload_n hx hb d_Model_pixel_91 rfl (lv_at hl 1 rfl) ?_
       refine va_get (D := D) (ci := 1) (v := .ref (a 1)) (C := R_Model) (T := T_Model) (N := 23) hx hb hts in_Model hown hK hP 0 rw_at_0 rfl 4 (by decide) (hts _ (List.mem_cons_of_mem _ kw_839)) (fun _ h9 => h9) rfl d_Model_pixel_92 ?_
       refine lv_iload hx hb d_Model_pixel_95 (lv_at hl 0 rfl) ?_
       refine lv_iconst (v := 2) hx hb d_Model_pixel_97 (by decide) ?_
       refine lv_iadd hx hb d_Model_pixel_98 ?_
       refine va_iald hx hb hK hP 1 0 rw_at_1 rfl h.1 d_Model_pixel_99 ?_
       have h := h.2
       refine lv_iload hx hb d_Model_pixel_100 (lv_at hl 6 rfl) ?_
       refine lv_icmp_ne (tgt := 107) hx hb d_Model_pixel_102 (by decide) (fun c16 => ?_) (fun c16 => ?_)
       · have h := h.2 c16
         exact cp_Model_pixel_107 C K x3 x4 x5 t9 u7 _ _ _ hP hS (lv_sub hl [1, 4, 5, 6, 0] rfl) h
       · have h := h.1 c16
         refine lv_iconst (v := 0) hx hb d_Model_pixel_105 (by decide) ?_
         exact W.zret (v := 0) hx hb hr rfl (fun t ht hW => ⟨⟨0, u7, rfl, h, by rw [ht]; exact hP, va_K.moved hW.alike hK⟩, hS.F ht⟩) hS.2.2 d_Model_pixel_106 hlocks
 · have h := h.2 c8
   refine lv_iconst (v := 0) hx hb d_Model_pixel_52 (by decide) ?_
   exact W.zret (v := 0) hx hb hr rfl (fun t ht hW => ⟨⟨0, u7, rfl, h, by rw [ht]; exact hP, va_K.moved hW.alike hK⟩, hS.F ht⟩) hS.2.2 d_Model_pixel_53 hlocks
set_option maxHeartbeats 4000000 in
set_option maxRecDepth 100000 in
theorem st_Model_pixel {p : Program} {l : Launch} {e : Env} {s : State} {m : MethodId} {args : Array Value} {below : List Frame} {meth : Method} {c : Code} {D : va_G} {a : Nat → Nat} {cA cZ : ClassId} {G : pG} {A : Nat → Prop} {Q : Int32 → pS → Prop} (C : pw_C p s m args meth c b_Model_pixel 7 R_Model (some .boolean) w_Model_pixel A) (K : pw_K s D 15 a (rT cA cZ) A) (x1 x2 x3 x4 x5 : Int32) (u : pS) (ls : Array Slot) (hP : va_P D vwCl (rw a cA cZ G u) s.heap) (hl : lv_has ls 7 [(0, .ref (a 0)), (1, .int x1), (2, .int x2), (3, .int x3), (4, .int x4), (5, .int x5)]) (h : wp_Model_pixel G x1 x2 x3 x4 x5 u Q) : W p l e ({ frames := 1, cells := 0, slots := 0, locals := 22 } : Room) s m args below meth c s.heap [] 0 0 (pw_Ei below args s D (rw a cA cZ G) (rT cA cZ) A Q) (F0 m 0 ls []) := by
 obtain ⟨hx, hb, hr, hml, hown, hts, hlocks, hA⟩ := id C
 obtain ⟨hK, hI, hF⟩ := id K
 have hD : ∀ u, va_D A (rw a cA cZ G u) := fun u => rw_D hI hF
 have hS : va_S A s.heap s.heap [] := va_S.rf
 have h : wp_Model_pixel G x1 x2 x3 x4 x5 u Q := h
 refine lv_aload_n hx hb d_Model_pixel_0 rfl (lv_at hl 0 rfl) ?_
 refine lv_aload_n hx hb d_Model_pixel_1 rfl (lv_at hl 0 rfl) ?_
 refine lv_iload_n hx hb d_Model_pixel_2 rfl (lv_at hl 1 rfl) ?_
 refine lv_iload_n hx hb d_Model_pixel_3 rfl (lv_at hl 2 rfl) ?_
 refine cc_i (va_runV (As := [.int x1, .int x2]) (rest := [.ref (a 0)]) ⟨hx, hb, hml, hown, hts⟩ (ct_Model_isPlace l D a cA cZ G _ x1 x2 u _ hI h) (pw_cwV 2 hts kw_916 kw_57 kw_913 kw_915 kw_23 (by decide +kernel) ⟨Nat.le_of_ble_eq_true rfl, Nat.le_of_ble_eq_true rfl⟩) ⟨pw_blind, va_recv hK hP (ci := 1) (q0 := 0) rfl rw_at_0, fun U hU hW => ⟨rfl, by rw [hU], by rw [hU]; exact hP, va_K.moved hW.alike hK⟩⟩ rfl rfl hl.1 rfl (lv_room (Nat.le_of_ble_eq_true rfl)) d_Model_pixel_4 ⟨Nat.le_of_ble_eq_true rfl, Nat.le_of_ble_eq_true rfl⟩) hS hF hA (fun r2 u1 H locs hP hS h => ?_)
 refine lv_if_ne (tgt := 14) hx hb d_Model_pixel_7 (by decide) (fun c3 => ?_) (fun c3 => ?_)
 · have h := h.2 c3
   refine lv_iload_n hx hb d_Model_pixel_14 rfl (lv_at hl 3 rfl) ?_
   refine cc_i (va_runS (As := [.int x3]) (rest := [.ref (a 0)]) ⟨hx, hb, hml, hown, hts⟩ (ct_Model_isColour l D a cA cZ G _ x3 u1 _ hI h) (pw_cwS 1 hts kw_919 kw_57 kw_917 kw_918 (by decide +kernel) ⟨Nat.le_of_ble_eq_true rfl, Nat.le_of_ble_eq_true rfl⟩) ⟨pw_blind, fun U hU hW => ⟨rfl, by rw [hU], by rw [hU]; exact hP, va_K.moved hW.alike hK⟩⟩ rfl rfl hl.1 rfl (lv_room (Nat.le_of_ble_eq_true rfl)) d_Model_pixel_15 ⟨Nat.le_of_ble_eq_true rfl, Nat.le_of_ble_eq_true rfl⟩) hS hF hA (fun r5 u4 H locs hP hS h => ?_)
   refine lv_if_eq (tgt := 41) hx hb d_Model_pixel_18 (by decide) (fun c6 => ?_) (fun c6 => ?_)
   · have h := h.1 c6
     exact cp_Model_pixel_41 C K (fun x1 x2 x3 x4 x5 y6 u H locs ls hP hS hl h => cp_Model_pixel_42 C K x1 x2 x3 x4 x5 y6 u H locs ls hP hS hl h) x1 x2 x3 x4 x5 u4 _ _ _ hP hS (lv_sub hl [0, 1, 2, 3, 4, 5] rfl) h
   · have h := h.2 c6
     refine lv_iload hx hb d_Model_pixel_21 (lv_at hl 4 rfl) ?_
     refine cc_i (va_runS (As := [.int x4]) (rest := [.ref (a 0)]) ⟨hx, hb, hml, hown, hts⟩ (ct_Model_isColour l D a cA cZ G _ x4 u4 _ hI h) (pw_cwS 1 hts kw_919 kw_57 kw_917 kw_918 (by decide +kernel) ⟨Nat.le_of_ble_eq_true rfl, Nat.le_of_ble_eq_true rfl⟩) ⟨pw_blind, fun U hU hW => ⟨rfl, by rw [hU], by rw [hU]; exact hP, va_K.moved hW.alike hK⟩⟩ rfl rfl hl.1 rfl (lv_room (Nat.le_of_ble_eq_true rfl)) d_Model_pixel_23 ⟨Nat.le_of_ble_eq_true rfl, Nat.le_of_ble_eq_true rfl⟩) hS hF hA (fun r18 u17 H locs hP hS h => ?_)
     refine lv_if_eq (tgt := 41) hx hb d_Model_pixel_26 (by decide) (fun c19 => ?_) (fun c19 => ?_)
     · have h := h.1 c19
       exact cp_Model_pixel_41 C K (fun x1 x2 x3 x4 x5 y6 u H locs ls hP hS hl h => cp_Model_pixel_42 C K x1 x2 x3 x4 x5 y6 u H locs ls hP hS hl h) x1 x2 x3 x4 x5 u17 _ _ _ hP hS (lv_sub hl [0, 1, 2, 3, 4, 5] rfl) h
     · have h := h.2 c19
       refine lv_iload hx hb d_Model_pixel_29 (lv_at hl 5 rfl) ?_
       refine cc_i (va_runS (As := [.int x5]) (rest := [.ref (a 0)]) ⟨hx, hb, hml, hown, hts⟩ (ct_Model_isColour l D a cA cZ G _ x5 u17 _ hI h) (pw_cwS 1 hts kw_919 kw_57 kw_917 kw_918 (by decide +kernel) ⟨Nat.le_of_ble_eq_true rfl, Nat.le_of_ble_eq_true rfl⟩) ⟨pw_blind, fun U hU hW => ⟨rfl, by rw [hU], by rw [hU]; exact hP, va_K.moved hW.alike hK⟩⟩ rfl rfl hl.1 rfl (lv_room (Nat.le_of_ble_eq_true rfl)) d_Model_pixel_31 ⟨Nat.le_of_ble_eq_true rfl, Nat.le_of_ble_eq_true rfl⟩) hS hF hA (fun r21 u20 H locs hP hS h => ?_)
       refine lv_if_eq (tgt := 41) hx hb d_Model_pixel_34 (by decide) (fun c22 => ?_) (fun c22 => ?_)
       · have h := h.1 c22
         exact cp_Model_pixel_41 C K (fun x1 x2 x3 x4 x5 y6 u H locs ls hP hS hl h => cp_Model_pixel_42 C K x1 x2 x3 x4 x5 y6 u H locs ls hP hS hl h) x1 x2 x3 x4 x5 u20 _ _ _ hP hS (lv_sub hl [0, 1, 2, 3, 4, 5] rfl) h
       · have h := h.2 c22
         refine lv_iconst (v := 0) hx hb d_Model_pixel_37 (by decide) ?_
         refine lv_goto (tgt := 42) hx hb d_Model_pixel_38 (by decide) ?_
         exact cp_Model_pixel_42 C K x1 x2 x3 x4 x5 0 u20 _ _ _ hP hS (lv_sub hl [0, 1, 2, 3, 4, 5] rfl) h
 · have h := h.1 c3
   refine lv_iconst (v := 1) hx hb d_Model_pixel_10 (by decide) ?_
   refine lv_goto (tgt := 42) hx hb d_Model_pixel_11 (by decide) ?_
   exact cp_Model_pixel_42 C K x1 x2 x3 x4 x5 1 u1 _ _ _ hP hS (lv_sub hl [0, 1, 2, 3, 4, 5] rfl) h
set_option maxHeartbeats 4000000 in
set_option maxRecDepth 100000 in
theorem ct_Model_pixel (l : Launch) (D : va_G) (a : Nat → Nat) (cA cZ : ClassId) (G : pG) (sz : Nat) (x1 x2 x3 x4 x5 : Int32) (u : pS) (Q : Int32 → pS → Prop) (hI : pw_I 15 a) (h : wp_Model_pixel G x1 x2 x3 x4 x5 u Q) : Met l y_Model_pixel w_Model_pixel ({ frames := 1, cells := 0, slots := 0, locals := 22 } : Room) (va_Pc [.ref (a 0), .int x1, .int x2, .int x3, .int x4, .int x5] (pw_pre D (rw a cA cZ G) (rT cA cZ) sz u)) (va_Qi (fun (r : Int32) (u : pS) => Q r u) (pw_B D (rw a cA cZ G) (rT cA cZ)) (pw_F 15 a sz)) 0 0 (pw_F 15 a sz) := by
 refine Met.ofW (cc := b_Model_pixel) (maxL := 7) (ret := (some .boolean)) (by decide) rfl ?_
 intro p e s m args below meth c s₁ B hml hv
 obtain ⟨rfl, hsz, hP, hK⟩ := hv
 subst hsz
 have hl := lv_entry ([.ref (a 0), .int x1, .int x2, .int x3, .int x4, .int x5]) (n := 7) (Nat.le_of_ble_eq_true rfl)
 rw [lg_entry_eq]
 generalize (lg_sl ([.ref (a 0), .int x1, .int x2, .int x3, .int x4, .int x5]) ++ List.replicate (7 - (lg_sl ([.ref (a 0), .int x1, .int x2, .int x3, .int x4, .int x5])).length) Slot.unset).toArray = ls at hl ⊢
 exact st_Model_pixel (A := (pw_F 15 a s.heap.size)) ⟨B.exec, B.bytes, B.returns, hml, findClass_of_methodNamed B.named, atoms_spec (ws := w_Model_pixel) B.pre, B.notSynchronized, fun q hq => Or.inr hq⟩ ⟨hK, hI, fun k hk => Or.inl ⟨k, hk, rfl⟩⟩ x1 x2 x3 x4 x5 u ls hP hl h
set_option maxHeartbeats 4000000 in
set_option maxRecDepth 100000 in
theorem cp_Model_kind_13 {p : Program} {l : Launch} {e : Env} {s : State} {m : MethodId} {args : Array Value} {below : List Frame} {meth : Method} {c : Code} {D : va_G} {a : Nat → Nat} {cA cZ : ClassId} {G : pG} {A : Nat → Prop} {Q : Int32 → pS → Prop} (C : pw_C p s m args meth c b_Model_kind 5 R_Model (some .boolean) w_Model_kind A) (K : pw_K s D 15 a (rT cA cZ) A) {k44 : Int32 → Int32 → Int32 → Int32 → Int32 → pS → Prop} (hk44 : ∀ (x1 x2 x3 x4 y5 : Int32) (u : pS) (H : Heap) (locs : List Loc) (ls : Array Slot), va_P D vwCl (rw a cA cZ G u) H → va_S A s.heap H locs → lv_has ls 5 [(0, .ref (a 0)), (1, .int x1), (2, .int x2), (3, .int x3), (4, .int x4)] → k44 x1 x2 x3 x4 y5 u → W p l e ({ frames := 1, cells := 0, slots := 0, locals := 20 } : Room) s m args below meth c H locs 0 0 (pw_Ei below args s D (rw a cA cZ G) (rT cA cZ) A Q) (F0 m 44 ls [.int y5, .ref (a 0)])) : ∀ (x1 x2 x3 x4 : Int32) (u : pS) (H : Heap) (locs : List Loc) (ls : Array Slot), va_P D vwCl (rw a cA cZ G u) H → va_S A s.heap H locs → lv_has ls 5 [(0, .ref (a 0)), (1, .int x1), (2, .int x2), (3, .int x3), (4, .int x4)] → jn_Model_kind_13 G Q k44 x1 x2 x3 x4 u → W p l e ({ frames := 1, cells := 0, slots := 0, locals := 20 } : Room) s m args below meth c H locs 0 0 (pw_Ei below args s D (rw a cA cZ G) (rT cA cZ) A Q) (F0 m 13 ls [.ref (a 0)]) := by
 obtain ⟨hx, hb, hr, hml, hown, hts, hlocks, hA⟩ := id C
 obtain ⟨hK, hI, hF⟩ := id K
 have hD : ∀ u, va_D A (rw a cA cZ G u) := fun u => rw_D hI hF
 intro x1 x2 x3 x4 u H locs ls hP hS hl h
 refine lv_iconst (v := 1) hx hb d_Model_kind_13 (by decide) ?_
 refine lv_goto (tgt := 44) hx hb d_Model_kind_14 (by decide) ?_
 exact hk44 x1 x2 x3 x4 1 u _ _ _ hP hS (lv_sub hl [0, 1, 2, 3, 4] rfl) h
set_option maxHeartbeats 4000000 in
set_option maxRecDepth 100000 in
theorem cp_Model_kind_43 {p : Program} {l : Launch} {e : Env} {s : State} {m : MethodId} {args : Array Value} {below : List Frame} {meth : Method} {c : Code} {D : va_G} {a : Nat → Nat} {cA cZ : ClassId} {G : pG} {A : Nat → Prop} {Q : Int32 → pS → Prop} (C : pw_C p s m args meth c b_Model_kind 5 R_Model (some .boolean) w_Model_kind A) (K : pw_K s D 15 a (rT cA cZ) A) {k44 : Int32 → Int32 → Int32 → Int32 → Int32 → pS → Prop} (hk44 : ∀ (x1 x2 x3 x4 y5 : Int32) (u : pS) (H : Heap) (locs : List Loc) (ls : Array Slot), va_P D vwCl (rw a cA cZ G u) H → va_S A s.heap H locs → lv_has ls 5 [(0, .ref (a 0)), (1, .int x1), (2, .int x2), (3, .int x3), (4, .int x4)] → k44 x1 x2 x3 x4 y5 u → W p l e ({ frames := 1, cells := 0, slots := 0, locals := 20 } : Room) s m args below meth c H locs 0 0 (pw_Ei below args s D (rw a cA cZ G) (rT cA cZ) A Q) (F0 m 44 ls [.int y5, .ref (a 0)])) : ∀ (x1 x2 x3 x4 : Int32) (u : pS) (H : Heap) (locs : List Loc) (ls : Array Slot), va_P D vwCl (rw a cA cZ G u) H → va_S A s.heap H locs → lv_has ls 5 [(0, .ref (a 0)), (1, .int x1), (2, .int x2), (3, .int x3), (4, .int x4)] → jn_Model_kind_43 G Q k44 x1 x2 x3 x4 u → W p l e ({ frames := 1, cells := 0, slots := 0, locals := 20 } : Room) s m args below meth c H locs 0 0 (pw_Ei below args s D (rw a cA cZ G) (rT cA cZ) A Q) (F0 m 43 ls [.ref (a 0)]) := by
 obtain ⟨hx, hb, hr, hml, hown, hts, hlocks, hA⟩ := id C
 obtain ⟨hK, hI, hF⟩ := id K
 have hD : ∀ u, va_D A (rw a cA cZ G u) := fun u => rw_D hI hF
 intro x1 x2 x3 x4 u H locs ls hP hS hl h
 refine lv_iconst (v := 2) hx hb d_Model_kind_43 (by decide) ?_
 exact hk44 x1 x2 x3 x4 2 u _ _ _ hP hS (lv_sub hl [0, 1, 2, 3, 4] rfl) h
set_option maxHeartbeats 4000000 in
set_option maxRecDepth 100000 in
theorem cp_Model_kind_99 {p : Program} {l : Launch} {e : Env} {s : State} {m : MethodId} {args : Array Value} {below : List Frame} {meth : Method} {c : Code} {D : va_G} {a : Nat → Nat} {cA cZ : ClassId} {G : pG} {A : Nat → Prop} {Q : Int32 → pS → Prop} (C : pw_C p s m args meth c b_Model_kind 5 R_Model (some .boolean) w_Model_kind A) (K : pw_K s D 15 a (rT cA cZ) A) : ∀ (x1 x2 x3 x4 : Int32) (u : pS) (H : Heap) (locs : List Loc) (ls : Array Slot), va_P D vwCl (rw a cA cZ G u) H → va_S A s.heap H locs → lv_has ls 5 [(0, .ref (a 0)), (1, .int x1), (2, .int x2), (3, .int x3), (4, .int x4)] → jn_Model_kind_99 G Q x1 x2 x3 x4 u → W p l e ({ frames := 1, cells := 0, slots := 0, locals := 20 } : Room) s m args below meth c H locs 0 0 (pw_Ei below args s D (rw a cA cZ G) (rT cA cZ) A Q) (F0 m 99 ls []) := by
 obtain ⟨hx, hb, hr, hml, hown, hts, hlocks, hA⟩ := id C
 obtain ⟨hK, hI, hF⟩ := id K
 have hD : ∀ u, va_D A (rw a cA cZ G u) := fun u => rw_D hI hF
 intro x1 x2 x3 x4 u H locs ls hP hS hl h
 refine lv_aload_n hx hb d_Model_kind_99 rfl (lv_at hl 0 rfl) ?_
 refine va_get (D := D) (ci := 1) (v := .ref (a 2)) (C := R_Model) (T := T_Model) (N := 23) hx hb hts in_Model hown hK hP 0 rw_at_0 rfl 5 (by decide) (hts _ (List.mem_cons_of_mem _ kw_840)) (fun _ h9 => h9) rfl d_Model_kind_100 ?_
 refine lv_iconst (v := 3) hx hb d_Model_kind_103 (by decide) ?_
 refine lv_iload_n hx hb d_Model_kind_104 rfl (lv_at hl 1 rfl) ?_
 refine lv_imul hx hb d_Model_kind_105 ?_
 refine lv_iload_n hx hb d_Model_kind_106 rfl (lv_at hl 2 rfl) ?_
 refine va_iast hx hb hK hP (hD _) hS 2 0 rw_at_2 rfl h.1 d_Model_kind_107 (fun H locs hP _ hS => ?_)
 obtain ⟨u5, eu5⟩ : ∃ z, z = pw_sa u 1 (upd (u.2 1) (3 * x1).toNatClampNeg x2) := ⟨_, rfl⟩
 rw [rw_sa_2, ← eu5] at hP
 have h := h.2 u5 eu5
 refine lv_aload_n hx hb d_Model_kind_108 rfl (lv_at hl 0 rfl) ?_
 refine va_get (D := D) (ci := 1) (v := .ref (a 2)) (C := R_Model) (T := T_Model) (N := 23) hx hb hts in_Model hown hK hP 0 rw_at_0 rfl 5 (by decide) (hts _ (List.mem_cons_of_mem _ kw_840)) (fun _ h9 => h9) rfl d_Model_kind_109 ?_
 refine lv_iconst (v := 3) hx hb d_Model_kind_112 (by decide) ?_
 refine lv_iload_n hx hb d_Model_kind_113 rfl (lv_at hl 1 rfl) ?_
 refine lv_imul hx hb d_Model_kind_114 ?_
 refine lv_iconst (v := 1) hx hb d_Model_kind_115 (by decide) ?_
 refine lv_iadd hx hb d_Model_kind_116 ?_
 refine lv_iload_n hx hb d_Model_kind_117 rfl (lv_at hl 3 rfl) ?_
 refine va_iast hx hb hK hP (hD _) hS 2 0 rw_at_2 rfl h.1 d_Model_kind_118 (fun H locs hP _ hS => ?_)
 obtain ⟨u6, eu6⟩ : ∃ z, z = pw_sa u5 1 (upd (u5.2 1) ((3 * x1) + 1).toNatClampNeg x3) := ⟨_, rfl⟩
 rw [rw_sa_2, ← eu6] at hP
 have h := h.2 u6 eu6
 refine lv_aload_n hx hb d_Model_kind_119 rfl (lv_at hl 0 rfl) ?_
 refine va_get (D := D) (ci := 1) (v := .ref (a 2)) (C := R_Model) (T := T_Model) (N := 23) hx hb hts in_Model hown hK hP 0 rw_at_0 rfl 5 (by decide) (hts _ (List.mem_cons_of_mem _ kw_840)) (fun _ h9 => h9) rfl d_Model_kind_120 ?_
 refine lv_iconst (v := 3) hx hb d_Model_kind_123 (by decide) ?_
 refine lv_iload_n hx hb d_Model_kind_124 rfl (lv_at hl 1 rfl) ?_
 refine lv_imul hx hb d_Model_kind_125 ?_
 refine lv_iconst (v := 2) hx hb d_Model_kind_126 (by decide) ?_
 refine lv_iadd hx hb d_Model_kind_127 ?_
 refine lv_iload hx hb d_Model_kind_128 (lv_at hl 4 rfl) ?_
 refine va_iast hx hb hK hP (hD _) hS 2 0 rw_at_2 rfl h.1 d_Model_kind_130 (fun H locs hP _ hS => ?_)
 obtain ⟨u7, eu7⟩ : ∃ z, z = pw_sa u6 1 (upd (u6.2 1) ((3 * x1) + 2).toNatClampNeg x4) := ⟨_, rfl⟩
 rw [rw_sa_2, ← eu7] at hP
 have h := h.2 u7 eu7
 refine lv_aload_n hx hb d_Model_kind_131 rfl (lv_at hl 0 rfl) ?_
 refine lv_iconst (v := 0) hx hb d_Model_kind_132 (by decide) ?_
 refine va_put (D := D) (ci := 1) (v := .int 0) (ty := .boolean) (C := R_Model) (T := T_Model) (N := 23) hx hb hts in_Model ty_Model tyok_Model nm_Model hown hK hP (hD _) hS 0 rw_at_0 rfl 12 (by decide) (hts _ (List.mem_cons_of_mem _ kw_847)) (fun _ h9 => h9) rfl (by decide +kernel) rfl rfl (Nat.le_of_ble_eq_true rfl) d_Model_kind_133 (fun H locs hP _ hS => ?_)
 obtain ⟨u8, eu8⟩ : ∃ z, z = pw_si u7 2 0 := ⟨_, rfl⟩
 rw [rw_si_0_12, ← eu8] at hP
 have h := h u8 eu8
 refine lv_iconst (v := 1) hx hb d_Model_kind_136 (by decide) ?_
 exact W.zret (v := 1) hx hb hr rfl (fun t ht hW => ⟨⟨1, u8, rfl, h, by rw [ht]; exact hP, va_K.moved hW.alike hK⟩, hS.F ht⟩) hS.2.2 d_Model_kind_137 hlocks
set_option maxHeartbeats 4000000 in
set_option maxRecDepth 100000 in
theorem cp_Model_kind_44 {p : Program} {l : Launch} {e : Env} {s : State} {m : MethodId} {args : Array Value} {below : List Frame} {meth : Method} {c : Code} {D : va_G} {a : Nat → Nat} {cA cZ : ClassId} {G : pG} {A : Nat → Prop} {Q : Int32 → pS → Prop} (C : pw_C p s m args meth c b_Model_kind 5 R_Model (some .boolean) w_Model_kind A) (K : pw_K s D 15 a (rT cA cZ) A) : ∀ (x1 x2 x3 x4 y5 : Int32) (u : pS) (H : Heap) (locs : List Loc) (ls : Array Slot), va_P D vwCl (rw a cA cZ G u) H → va_S A s.heap H locs → lv_has ls 5 [(0, .ref (a 0)), (1, .int x1), (2, .int x2), (3, .int x3), (4, .int x4)] → jn_Model_kind_44 G Q x1 x2 x3 x4 y5 u → W p l e ({ frames := 1, cells := 0, slots := 0, locals := 20 } : Room) s m args below meth c H locs 0 0 (pw_Ei below args s D (rw a cA cZ G) (rT cA cZ) A Q) (F0 m 44 ls [.int y5, .ref (a 0)]) := by
 obtain ⟨hx, hb, hr, hml, hown, hts, hlocks, hA⟩ := id C
 obtain ⟨hK, hI, hF⟩ := id K
 have hD : ∀ u, va_D A (rw a cA cZ G u) := fun u => rw_D hI hF
 intro x1 x2 x3 x4 y5 u H locs ls hP hS hl h
 refine va_put (D := D) (ci := 1) (v := .int y5) (ty := .int) (C := R_Model) (T := T_Model) (N := 23) hx hb hts in_Model ty_Model tyok_Model nm_Model hown hK hP (hD _) hS 0 rw_at_0 rfl 0 (by decide) (hts _ (List.mem_cons_of_mem _ kw_835)) (fun _ h9 => h9) rfl (by decide +kernel) rfl rfl (Nat.le_of_ble_eq_true rfl) d_Model_kind_44 (fun H locs hP _ hS => ?_)
 obtain ⟨u2, eu2⟩ : ∃ z, z = pw_si u 0 y5 := ⟨_, rfl⟩
 rw [rw_si_0_0, ← eu2] at hP
 have h := h u2 eu2
 refine lv_aload_n hx hb d_Model_kind_47 rfl (lv_at hl 0 rfl) ?_
 refine va_get (D := D) (ci := 1) (v := .int (u2.1 0)) (C := R_Model) (T := T_Model) (N := 23) hx hb hts in_Model hown hK hP 0 rw_at_0 rfl 0 (by decide) (hts _ (List.mem_cons_of_mem _ kw_835)) (fun _ h9 => h9) rfl d_Model_kind_48 ?_
 refine lv_if_le (tgt := 56) hx hb d_Model_kind_51 (by decide) (fun c3 => ?_) (fun c3 => ?_)
 · have h := h.1 c3
   refine lv_aload_n hx hb d_Model_kind_56 rfl (lv_at hl 0 rfl) ?_
   refine va_get (D := D) (ci := 1) (v := .ref (a 2)) (C := R_Model) (T := T_Model) (N := 23) hx hb hts in_Model hown hK hP 0 rw_at_0 rfl 5 (by decide) (hts _ (List.mem_cons_of_mem _ kw_840)) (fun _ h9 => h9) rfl d_Model_kind_57 ?_
   refine lv_iconst (v := 3) hx hb d_Model_kind_60 (by decide) ?_
   refine lv_iload_n hx hb d_Model_kind_61 rfl (lv_at hl 1 rfl) ?_
   refine lv_imul hx hb d_Model_kind_62 ?_
   refine va_iald hx hb hK hP 2 0 rw_at_2 rfl h.1 d_Model_kind_63 ?_
   have h := h.2
   refine lv_iload_n hx hb d_Model_kind_64 rfl (lv_at hl 2 rfl) ?_
   refine lv_icmp_ne (tgt := 99) hx hb d_Model_kind_65 (by decide) (fun c4 => ?_) (fun c4 => ?_)
   · have h := h.2 c4
     exact cp_Model_kind_99 C K x1 x2 x3 x4 u2 _ _ _ hP hS (lv_sub hl [0, 1, 2, 3, 4] rfl) h
   · have h := h.1 c4
     refine lv_aload_n hx hb d_Model_kind_68 rfl (lv_at hl 0 rfl) ?_
     refine va_get (D := D) (ci := 1) (v := .ref (a 2)) (C := R_Model) (T := T_Model) (N := 23) hx hb hts in_Model hown hK hP 0 rw_at_0 rfl 5 (by decide) (hts _ (List.mem_cons_of_mem _ kw_840)) (fun _ h9 => h9) rfl d_Model_kind_69 ?_
     refine lv_iconst (v := 3) hx hb d_Model_kind_72 (by decide) ?_
     refine lv_iload_n hx hb d_Model_kind_73 rfl (lv_at hl 1 rfl) ?_
     refine lv_imul hx hb d_Model_kind_74 ?_
     refine lv_iconst (v := 1) hx hb d_Model_kind_75 (by decide) ?_
     refine lv_iadd hx hb d_Model_kind_76 ?_
     refine va_iald hx hb hK hP 2 0 rw_at_2 rfl h.1 d_Model_kind_77 ?_
     have h := h.2
     refine lv_iload_n hx hb d_Model_kind_78 rfl (lv_at hl 3 rfl) ?_
     refine lv_icmp_ne (tgt := 99) hx hb d_Model_kind_79 (by decide) (fun c9 => ?_) (fun c9 => ?_)
     · have h := h.2 c9
       exact cp_Model_kind_99 C K x1 x2 x3 x4 u2 _ _ _ hP hS (lv_sub hl [0, 1, 2, 3, 4] rfl) h
     · have h := h.1 c9
       refine lv_aload_n hx hb d_Model_kind_82 rfl (lv_at hl 0 rfl) ?_
       refine va_get (D := D) (ci := 1) (v := .ref (a 2)) (C := R_Model) (T := T_Model) (N := 23) hx hb hts in_Model hown hK hP 0 rw_at_0 rfl 5 (by decide) (hts _ (List.mem_cons_of_mem _ kw_840)) (fun _ h9 => h9) rfl d_Model_kind_83 ?_
       refine lv_iconst (v := 3) hx hb d_Model_kind_86 (by decide) ?_
       refine lv_iload_n hx hb d_Model_kind_87 rfl (lv_at hl 1 rfl) ?_
       refine lv_imul hx hb d_Model_kind_88 ?_
       refine lv_iconst (v := 2) hx hb d_Model_kind_89 (by decide) ?_
       refine lv_iadd hx hb d_Model_kind_90 ?_
       refine va_iald hx hb hK hP 2 0 rw_at_2 rfl h.1 d_Model_kind_91 ?_
       have h := h.2
       refine lv_iload hx hb d_Model_kind_92 (lv_at hl 4 rfl) ?_
       refine lv_icmp_ne (tgt := 99) hx hb d_Model_kind_94 (by decide) (fun c10 => ?_) (fun c10 => ?_)
       · have h := h.2 c10
         exact cp_Model_kind_99 C K x1 x2 x3 x4 u2 _ _ _ hP hS (lv_sub hl [0, 1, 2, 3, 4] rfl) h
       · have h := h.1 c10
         refine lv_iconst (v := 0) hx hb d_Model_kind_97 (by decide) ?_
         exact W.zret (v := 0) hx hb hr rfl (fun t ht hW => ⟨⟨0, u2, rfl, h, by rw [ht]; exact hP, va_K.moved hW.alike hK⟩, hS.F ht⟩) hS.2.2 d_Model_kind_98 hlocks
 · have h := h.2 c3
   refine lv_iconst (v := 0) hx hb d_Model_kind_54 (by decide) ?_
   exact W.zret (v := 0) hx hb hr rfl (fun t ht hW => ⟨⟨0, u2, rfl, h, by rw [ht]; exact hP, va_K.moved hW.alike hK⟩, hS.F ht⟩) hS.2.2 d_Model_kind_55 hlocks
set_option maxHeartbeats 4000000 in
set_option maxRecDepth 100000 in
theorem st_Model_kind {p : Program} {l : Launch} {e : Env} {s : State} {m : MethodId} {args : Array Value} {below : List Frame} {meth : Method} {c : Code} {D : va_G} {a : Nat → Nat} {cA cZ : ClassId} {G : pG} {A : Nat → Prop} {Q : Int32 → pS → Prop} (C : pw_C p s m args meth c b_Model_kind 5 R_Model (some .boolean) w_Model_kind A) (K : pw_K s D 15 a (rT cA cZ) A) (x1 x2 x3 x4 : Int32) (u : pS) (ls : Array Slot) (hP : va_P D vwCl (rw a cA cZ G u) s.heap) (hl : lv_has ls 5 [(0, .ref (a 0)), (1, .int x1), (2, .int x2), (3, .int x3), (4, .int x4)]) (h : wp_Model_kind G x1 x2 x3 x4 u Q) : W p l e ({ frames := 1, cells := 0, slots := 0, locals := 20 } : Room) s m args below meth c s.heap [] 0 0 (pw_Ei below args s D (rw a cA cZ G) (rT cA cZ) A Q) (F0 m 0 ls []) := by
 obtain ⟨hx, hb, hr, hml, hown, hts, hlocks, hA⟩ := id C
 obtain ⟨hK, hI, hF⟩ := id K
 have hD : ∀ u, va_D A (rw a cA cZ G u) := fun u => rw_D hI hF
 have hS : va_S A s.heap s.heap [] := va_S.rf
 have h : wp_Model_kind G x1 x2 x3 x4 u Q := h
 refine lv_aload_n hx hb d_Model_kind_0 rfl (lv_at hl 0 rfl) ?_
 refine lv_iload_n hx hb d_Model_kind_1 rfl (lv_at hl 1 rfl) ?_
 refine lv_if_lt (tgt := 13) hx hb d_Model_kind_2 (by decide) (fun c1 => ?_) (fun c1 => ?_)
 · have h := h.1 c1
   exact cp_Model_kind_13 C K (fun x1 x2 x3 x4 y5 u H locs ls hP hS hl h => cp_Model_kind_44 C K x1 x2 x3 x4 y5 u H locs ls hP hS hl h) x1 x2 x3 x4 u _ _ _ hP hS (lv_sub hl [0, 1, 2, 3, 4] rfl) h
 · have h := h.2 c1
   refine lv_iload_n hx hb d_Model_kind_5 rfl (lv_at hl 1 rfl) ?_
   refine lv_aload_n hx hb d_Model_kind_6 rfl (lv_at hl 0 rfl) ?_
   refine va_get (D := D) (ci := 1) (v := .int (G.2.1 2)) (C := R_Model) (T := T_Model) (N := 23) hx hb hts in_Model hown hK hP 0 rw_at_0 rfl 3 (by decide) (hts _ (List.mem_cons_of_mem _ kw_838)) (fun _ h9 => h9) rfl d_Model_kind_7 ?_
   refine lv_icmp_lt (tgt := 17) hx hb d_Model_kind_10 (by decide) (fun c11 => ?_) (fun c11 => ?_)
   · have h := h.1 c11
     refine lv_iload_n hx hb d_Model_kind_17 rfl (lv_at hl 2 rfl) ?_
     refine cc_i (va_runS (As := [.int x2]) (rest := [.ref (a 0)]) ⟨hx, hb, hml, hown, hts⟩ (ct_Model_isColour l D a cA cZ G _ x2 u _ hI h) (pw_cwS 1 hts kw_919 kw_57 kw_917 kw_918 (by decide +kernel) ⟨Nat.le_of_ble_eq_true rfl, Nat.le_of_ble_eq_true rfl⟩) ⟨pw_blind, fun U hU hW => ⟨rfl, by rw [hU], by rw [hU]; exact hP, va_K.moved hW.alike hK⟩⟩ rfl rfl hl.1 rfl (lv_room (Nat.le_of_ble_eq_true rfl)) d_Model_kind_18 ⟨Nat.le_of_ble_eq_true rfl, Nat.le_of_ble_eq_true rfl⟩) hS hF hA (fun r13 u12 H locs hP hS h => ?_)
     refine lv_if_eq (tgt := 43) hx hb d_Model_kind_21 (by decide) (fun c14 => ?_) (fun c14 => ?_)
     · have h := h.1 c14
       exact cp_Model_kind_43 C K (fun x1 x2 x3 x4 y5 u H locs ls hP hS hl h => cp_Model_kind_44 C K x1 x2 x3 x4 y5 u H locs ls hP hS hl h) x1 x2 x3 x4 u12 _ _ _ hP hS (lv_sub hl [0, 1, 2, 3, 4] rfl) h
     · have h := h.2 c14
       refine lv_iload_n hx hb d_Model_kind_24 rfl (lv_at hl 3 rfl) ?_
       refine cc_i (va_runS (As := [.int x3]) (rest := [.ref (a 0)]) ⟨hx, hb, hml, hown, hts⟩ (ct_Model_isColour l D a cA cZ G _ x3 u12 _ hI h) (pw_cwS 1 hts kw_919 kw_57 kw_917 kw_918 (by decide +kernel) ⟨Nat.le_of_ble_eq_true rfl, Nat.le_of_ble_eq_true rfl⟩) ⟨pw_blind, fun U hU hW => ⟨rfl, by rw [hU], by rw [hU]; exact hP, va_K.moved hW.alike hK⟩⟩ rfl rfl hl.1 rfl (lv_room (Nat.le_of_ble_eq_true rfl)) d_Model_kind_25 ⟨Nat.le_of_ble_eq_true rfl, Nat.le_of_ble_eq_true rfl⟩) hS hF hA (fun r16 u15 H locs hP hS h => ?_)
       refine lv_if_eq (tgt := 43) hx hb d_Model_kind_28 (by decide) (fun c17 => ?_) (fun c17 => ?_)
       · have h := h.1 c17
         exact cp_Model_kind_43 C K (fun x1 x2 x3 x4 y5 u H locs ls hP hS hl h => cp_Model_kind_44 C K x1 x2 x3 x4 y5 u H locs ls hP hS hl h) x1 x2 x3 x4 u15 _ _ _ hP hS (lv_sub hl [0, 1, 2, 3, 4] rfl) h
       · have h := h.2 c17
         refine lv_iload hx hb d_Model_kind_31 (lv_at hl 4 rfl) ?_
         refine cc_i (va_runS (As := [.int x4]) (rest := [.ref (a 0)]) ⟨hx, hb, hml, hown, hts⟩ (ct_Model_isColour l D a cA cZ G _ x4 u15 _ hI h) (pw_cwS 1 hts kw_919 kw_57 kw_917 kw_918 (by decide +kernel) ⟨Nat.le_of_ble_eq_true rfl, Nat.le_of_ble_eq_true rfl⟩) ⟨pw_blind, fun U hU hW => ⟨rfl, by rw [hU], by rw [hU]; exact hP, va_K.moved hW.alike hK⟩⟩ rfl rfl hl.1 rfl (lv_room (Nat.le_of_ble_eq_true rfl)) d_Model_kind_33 ⟨Nat.le_of_ble_eq_true rfl, Nat.le_of_ble_eq_true rfl⟩) hS hF hA (fun r19 u18 H locs hP hS h => ?_)
         refine lv_if_eq (tgt := 43) hx hb d_Model_kind_36 (by decide) (fun c20 => ?_) (fun c20 => ?_)
         · have h := h.1 c20
           exact cp_Model_kind_43 C K (fun x1 x2 x3 x4 y5 u H locs ls hP hS hl h => cp_Model_kind_44 C K x1 x2 x3 x4 y5 u H locs ls hP hS hl h) x1 x2 x3 x4 u18 _ _ _ hP hS (lv_sub hl [0, 1, 2, 3, 4] rfl) h
         · have h := h.2 c20
           refine lv_iconst (v := 0) hx hb d_Model_kind_39 (by decide) ?_
           refine lv_goto (tgt := 44) hx hb d_Model_kind_40 (by decide) ?_
           exact cp_Model_kind_44 C K x1 x2 x3 x4 0 u18 _ _ _ hP hS (lv_sub hl [0, 1, 2, 3, 4] rfl) h
   · have h := h.2 c11
     exact cp_Model_kind_13 C K (fun x1 x2 x3 x4 y5 u H locs ls hP hS hl h => cp_Model_kind_44 C K x1 x2 x3 x4 y5 u H locs ls hP hS hl h) x1 x2 x3 x4 u _ _ _ hP hS (lv_sub hl [0, 1, 2, 3, 4] rfl) h
set_option maxHeartbeats 4000000 in
set_option maxRecDepth 100000 in
theorem ct_Model_kind (l : Launch) (D : va_G) (a : Nat → Nat) (cA cZ : ClassId) (G : pG) (sz : Nat) (x1 x2 x3 x4 : Int32) (u : pS) (Q : Int32 → pS → Prop) (hI : pw_I 15 a) (h : wp_Model_kind G x1 x2 x3 x4 u Q) : Met l y_Model_kind w_Model_kind ({ frames := 1, cells := 0, slots := 0, locals := 20 } : Room) (va_Pc [.ref (a 0), .int x1, .int x2, .int x3, .int x4] (pw_pre D (rw a cA cZ G) (rT cA cZ) sz u)) (va_Qi (fun (r : Int32) (u : pS) => Q r u) (pw_B D (rw a cA cZ G) (rT cA cZ)) (pw_F 15 a sz)) 0 0 (pw_F 15 a sz) := by
 refine Met.ofW (cc := b_Model_kind) (maxL := 5) (ret := (some .boolean)) (by decide) rfl ?_
 intro p e s m args below meth c s₁ B hml hv
 obtain ⟨rfl, hsz, hP, hK⟩ := hv
 subst hsz
 have hl := lv_entry ([.ref (a 0), .int x1, .int x2, .int x3, .int x4]) (n := 5) (Nat.le_of_ble_eq_true rfl)
 rw [lg_entry_eq]
 generalize (lg_sl ([.ref (a 0), .int x1, .int x2, .int x3, .int x4]) ++ List.replicate (5 - (lg_sl ([.ref (a 0), .int x1, .int x2, .int x3, .int x4])).length) Slot.unset).toArray = ls at hl ⊢
 exact st_Model_kind (A := (pw_F 15 a s.heap.size)) ⟨B.exec, B.bytes, B.returns, hml, findClass_of_methodNamed B.named, atoms_spec (ws := w_Model_kind) B.pre, B.notSynchronized, fun q hq => Or.inr hq⟩ ⟨hK, hI, fun k hk => Or.inl ⟨k, hk, rfl⟩⟩ x1 x2 x3 x4 u ls hP hl h
