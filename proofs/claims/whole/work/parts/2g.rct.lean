set_option maxHeartbeats 4000000 in
set_option maxRecDepth 100000 in
theorem st_Model_outline {p : Program} {l : Launch} {e : Env} {s : State} {m : MethodId} {args : Array Value} {below : List Frame} {meth : Method} {c : Code} {D : va_G} {a : Nat → Nat} {cA cZ : ClassId} {G : pG} {A : Nat → Prop} {Q : Int32 → pS → Prop} (C : pw_C p s m args meth c b_Model_outline 2 R_Model (some .int) w_Model_outline A) (K : pw_K s D 15 a (rT cA cZ) A) (x1 : Int32) (u : pS) (ls : Array Slot) (hP : va_P D vwCl (rw a cA cZ G u) s.heap) (hl : lv_has ls 2 [(0, .ref (a 0)), (1, .int x1)]) (h : wp_Model_outline G x1 u Q) : W p l e ({ frames := 4, cells := 0, slots := 0, locals := 100 } : Room) s m args below meth c s.heap [] 0 0 (pw_Ei below args s D (rw a cA cZ G) (rT cA cZ) A Q) (F0 m 0 ls []) := by
 obtain ⟨hx, hb, hr, hml, hown, hts, hlocks, hA⟩ := id C
 obtain ⟨hK, hI, hF⟩ := id K
 have hD : ∀ u, va_D A (rw a cA cZ G u) := fun u => rw_D hI hF
 have hS : va_S A s.heap s.heap [] := va_S.rf
 have h : wp_Model_outline G x1 u Q := h
 refine lv_aload_n hx hb d_Model_outline_0 rfl (lv_at hl 0 rfl) ?_
 refine lv_iload_n hx hb d_Model_outline_1 rfl (lv_at hl 1 rfl) ?_
 refine cc_i (va_runV (As := [.int x1]) (rest := []) ⟨hx, hb, hml, hown, hts⟩ (ct_Model_noPiece l D a cA cZ G _ x1 u _ hI h) (pw_cwV 1 hts kw_971 kw_57 kw_968 kw_970 kw_32 (by decide +kernel) ⟨Nat.le_of_ble_eq_true rfl, Nat.le_of_ble_eq_true rfl⟩) ⟨pw_blind, va_recv hK hP (ci := 1) (q0 := 0) rfl rw_at_0, fun U hU hW => ⟨rfl, by rw [hU], by rw [hU]; exact hP, va_K.moved hW.alike hK⟩⟩ rfl rfl hl.1 rfl (lv_room (Nat.le_of_ble_eq_true rfl)) d_Model_outline_2 ⟨Nat.le_of_ble_eq_true rfl, Nat.le_of_ble_eq_true rfl⟩) hS hF hA (fun r2 u1 H locs hP hS h => ?_)
 refine lv_if_eq (tgt := 10) hx hb d_Model_outline_5 (by decide) (fun c3 => ?_) (fun c3 => ?_)
 · have h := h.1 c3
   refine lv_aload_n hx hb d_Model_outline_10 rfl (lv_at hl 0 rfl) ?_
   refine lv_iload_n hx hb d_Model_outline_11 rfl (lv_at hl 1 rfl) ?_
   refine cc_v (va_runV (As := [.int x1]) (rest := []) ⟨hx, hb, hml, hown, hts⟩ (ct_Model_walk l D a cA cZ G _ x1 u1 _ hI h) (pw_cwV 1 hts kw_991 kw_57 kw_988 kw_990 kw_35 (by decide +kernel) ⟨Nat.le_of_ble_eq_true rfl, Nat.le_of_ble_eq_true rfl⟩) ⟨pw_blind, va_recv hK hP (ci := 1) (q0 := 0) rfl rw_at_0, fun U hU hW => ⟨rfl, by rw [hU], by rw [hU]; exact hP, va_K.moved hW.alike hK⟩⟩ rfl rfl hl.1 rfl (lv_room (Nat.le_of_ble_eq_true rfl)) d_Model_outline_12 ⟨Nat.le_of_ble_eq_true rfl, Nat.le_of_ble_eq_true rfl⟩) hS hF hA (fun u4 H locs hP hS h => ?_)
   refine lv_aload_n hx hb d_Model_outline_15 rfl (lv_at hl 0 rfl) ?_
   refine va_get (D := D) (ci := 1) (v := .int (u4.1 3)) (C := R_Model) (T := T_Model) (N := 23) hx hb hts in_Model hown hK hP 0 rw_at_0 rfl 15 (by decide) (hts _ (List.mem_cons_of_mem _ kw_850)) (fun _ h9 => h9) rfl d_Model_outline_16 ?_
   exact W.iret (v := (u4.1 3)) hx hb hr (fun t ht hW => ⟨⟨(u4.1 3), u4, rfl, h, by rw [ht]; exact hP, va_K.moved hW.alike hK⟩, hS.F ht⟩) hS.2.2 d_Model_outline_19 hlocks
 · have h := h.2 c3
   refine lv_iconst (v := 0) hx hb d_Model_outline_8 (by decide) ?_
   exact W.iret (v := 0) hx hb hr (fun t ht hW => ⟨⟨0, u1, rfl, h, by rw [ht]; exact hP, va_K.moved hW.alike hK⟩, hS.F ht⟩) hS.2.2 d_Model_outline_9 hlocks
set_option maxHeartbeats 4000000 in
set_option maxRecDepth 100000 in
theorem ct_Model_outline (l : Launch) (D : va_G) (a : Nat → Nat) (cA cZ : ClassId) (G : pG) (sz : Nat) (x1 : Int32) (u : pS) (Q : Int32 → pS → Prop) (hI : pw_I 15 a) (h : wp_Model_outline G x1 u Q) : Met l y_Model_outline w_Model_outline ({ frames := 4, cells := 0, slots := 0, locals := 100 } : Room) (va_Pc [.ref (a 0), .int x1] (pw_pre D (rw a cA cZ G) (rT cA cZ) sz u)) (va_Qi (fun (r : Int32) (u : pS) => Q r u) (pw_B D (rw a cA cZ G) (rT cA cZ)) (pw_F 15 a sz)) 0 0 (pw_F 15 a sz) := by
 refine Met.ofW (cc := b_Model_outline) (maxL := 2) (ret := (some .int)) (by decide) rfl ?_
 intro p e s m args below meth c s₁ B hml hv
 obtain ⟨rfl, hsz, hP, hK⟩ := hv
 subst hsz
 have hl := lv_entry ([.ref (a 0), .int x1]) (n := 2) (Nat.le_of_ble_eq_true rfl)
 rw [lg_entry_eq]
 generalize (lg_sl ([.ref (a 0), .int x1]) ++ List.replicate (2 - (lg_sl ([.ref (a 0), .int x1])).length) Slot.unset).toArray = ls at hl ⊢
 exact st_Model_outline (A := (pw_F 15 a s.heap.size)) ⟨B.exec, B.bytes, B.returns, hml, findClass_of_methodNamed B.named, atoms_spec (ws := w_Model_outline) B.pre, B.notSynchronized, fun q hq => Or.inr hq⟩ ⟨hK, hI, fun k hk => Or.inl ⟨k, hk, rfl⟩⟩ x1 u ls hP hl h
set_option maxHeartbeats 4000000 in
set_option maxRecDepth 100000 in
theorem cp_Model_corner_37 {p : Program} {l : Launch} {e : Env} {s : State} {m : MethodId} {args : Array Value} {below : List Frame} {meth : Method} {c : Code} {D : va_G} {a : Nat → Nat} {cA cZ : ClassId} {G : pG} {A : Nat → Prop} {Q : Int32 → pS → Prop} (C : pw_C p s m args meth c b_Model_corner 4 R_Model (some .int) w_Model_corner A) (K : pw_K s D 15 a (rT cA cZ) A) {k42 : Int32 → Int32 → Int32 → pS → Prop} (hk42 : ∀ (x2 x3 y3 : Int32) (u : pS) (H : Heap) (locs : List Loc) (ls : Array Slot), va_P D vwCl (rw a cA cZ G u) H → va_S A s.heap H locs → lv_has ls 4 [(0, .ref (a 0)), (2, .int x2), (3, .int x3)] → k42 x2 x3 y3 u → W p l e ({ frames := 4, cells := 0, slots := 0, locals := 100 } : Room) s m args below meth c H locs 0 0 (pw_Ei below args s D (rw a cA cZ G) (rT cA cZ) A Q) (F0 m 42 ls [.int y3, .ref (a 0)])) : ∀ (x2 x3 : Int32) (u : pS) (H : Heap) (locs : List Loc) (ls : Array Slot), va_P D vwCl (rw a cA cZ G u) H → va_S A s.heap H locs → lv_has ls 4 [(0, .ref (a 0)), (2, .int x2), (3, .int x3)] → jn_Model_corner_37 G Q k42 x2 x3 u → W p l e ({ frames := 4, cells := 0, slots := 0, locals := 100 } : Room) s m args below meth c H locs 0 0 (pw_Ei below args s D (rw a cA cZ G) (rT cA cZ) A Q) (F0 m 37 ls [.ref (a 0)]) := by
 obtain ⟨hx, hb, hr, hml, hown, hts, hlocks, hA⟩ := id C
 obtain ⟨hK, hI, hF⟩ := id K
 have hD : ∀ u, va_D A (rw a cA cZ G u) := fun u => rw_D hI hF
 intro x2 x3 u H locs ls hP hS hl h
 refine lv_iconst (v := 2) hx hb d_Model_corner_37 (by decide) ?_
 refine lv_goto (tgt := 42) hx hb d_Model_corner_38 (by decide) ?_
 exact hk42 x2 x3 2 u _ _ _ hP hS (lv_sub hl [0, 1, 2] rfl) h
set_option maxHeartbeats 4000000 in
set_option maxRecDepth 100000 in
theorem cp_Model_corner_42 {p : Program} {l : Launch} {e : Env} {s : State} {m : MethodId} {args : Array Value} {below : List Frame} {meth : Method} {c : Code} {D : va_G} {a : Nat → Nat} {cA cZ : ClassId} {G : pG} {A : Nat → Prop} {Q : Int32 → pS → Prop} (C : pw_C p s m args meth c b_Model_corner 4 R_Model (some .int) w_Model_corner A) (K : pw_K s D 15 a (rT cA cZ) A) : ∀ (x2 x3 y3 : Int32) (u : pS) (H : Heap) (locs : List Loc) (ls : Array Slot), va_P D vwCl (rw a cA cZ G u) H → va_S A s.heap H locs → lv_has ls 4 [(0, .ref (a 0)), (2, .int x2), (3, .int x3)] → jn_Model_corner_42 G Q x2 x3 y3 u → W p l e ({ frames := 4, cells := 0, slots := 0, locals := 100 } : Room) s m args below meth c H locs 0 0 (pw_Ei below args s D (rw a cA cZ G) (rT cA cZ) A Q) (F0 m 42 ls [.int y3, .ref (a 0)]) := by
 obtain ⟨hx, hb, hr, hml, hown, hts, hlocks, hA⟩ := id C
 obtain ⟨hK, hI, hF⟩ := id K
 have hD : ∀ u, va_D A (rw a cA cZ G u) := fun u => rw_D hI hF
 intro x2 x3 y3 u H locs ls hP hS hl h
 refine va_put (D := D) (ci := 1) (v := .int y3) (ty := .int) (C := R_Model) (T := T_Model) (N := 23) hx hb hts in_Model ty_Model tyok_Model nm_Model hown hK hP (hD _) hS 0 rw_at_0 rfl 0 (by decide) (hts _ (List.mem_cons_of_mem _ kw_835)) (fun _ h9 => h9) rfl (by decide +kernel) rfl rfl (Nat.le_of_ble_eq_true rfl) d_Model_corner_42 (fun H locs hP _ hS => ?_)
 obtain ⟨u6, eu6⟩ : ∃ z, z = pw_si u 0 y3 := ⟨_, rfl⟩
 rw [rw_si_0_0, ← eu6] at hP
 have h := h u6 eu6
 refine lv_aload_n hx hb d_Model_corner_45 rfl (lv_at hl 0 rfl) ?_
 refine va_get (D := D) (ci := 1) (v := .int (u6.1 0)) (C := R_Model) (T := T_Model) (N := 23) hx hb hts in_Model hown hK hP 0 rw_at_0 rfl 0 (by decide) (hts _ (List.mem_cons_of_mem _ kw_835)) (fun _ h9 => h9) rfl d_Model_corner_46 ?_
 refine lv_if_le (tgt := 56) hx hb d_Model_corner_49 (by decide) (fun c7 => ?_) (fun c7 => ?_)
 · have h := h.1 c7
   refine lv_iload_n hx hb d_Model_corner_56 rfl (lv_at hl 2 rfl) ?_
   refine lv_if_ne (tgt := 69) hx hb d_Model_corner_57 (by decide) (fun c8 => ?_) (fun c8 => ?_)
   · have h := h.2 c8
     refine lv_aload_n hx hb d_Model_corner_69 rfl (lv_at hl 0 rfl) ?_
     refine va_get (D := D) (ci := 1) (v := .ref (a 9)) (C := R_Model) (T := T_Model) (N := 23) hx hb hts in_Model hown hK hP 0 rw_at_0 rfl 14 (by decide) (hts _ (List.mem_cons_of_mem _ kw_849)) (fun _ h9 => h9) rfl d_Model_corner_70 ?_
     refine lv_iload_n hx hb d_Model_corner_73 rfl (lv_at hl 1 rfl) ?_
     refine va_iald hx hb hK hP 9 0 rw_at_9 rfl h.1 d_Model_corner_74 ?_
     have h := h.2
     exact W.iret (v := (u6.2 8 x2.toNatClampNeg)) hx hb hr (fun t ht hW => ⟨⟨(u6.2 8 x2.toNatClampNeg), u6, rfl, h, by rw [ht]; exact hP, va_K.moved hW.alike hK⟩, hS.F ht⟩) hS.2.2 d_Model_corner_75 hlocks
   · have h := h.1 c8
     refine lv_aload_n hx hb d_Model_corner_60 rfl (lv_at hl 0 rfl) ?_
     refine va_get (D := D) (ci := 1) (v := .ref (a 8)) (C := R_Model) (T := T_Model) (N := 23) hx hb hts in_Model hown hK hP 0 rw_at_0 rfl 13 (by decide) (hts _ (List.mem_cons_of_mem _ kw_848)) (fun _ h9 => h9) rfl d_Model_corner_61 ?_
     refine lv_iload_n hx hb d_Model_corner_64 rfl (lv_at hl 1 rfl) ?_
     refine va_iald hx hb hK hP 8 0 rw_at_8 rfl h.1 d_Model_corner_65 ?_
     have h := h.2
     refine lv_goto (tgt := 75) hx hb d_Model_corner_66 (by decide) ?_
     exact W.iret (v := (u6.2 7 x2.toNatClampNeg)) hx hb hr (fun t ht hW => ⟨⟨(u6.2 7 x2.toNatClampNeg), u6, rfl, h, by rw [ht]; exact hP, va_K.moved hW.alike hK⟩, hS.F ht⟩) hS.2.2 d_Model_corner_75 hlocks
 · have h := h.2 c7
   refine lv_iconst (v := 0) hx hb d_Model_corner_52 (by decide) ?_
   refine lv_goto (tgt := 75) hx hb d_Model_corner_53 (by decide) ?_
   exact W.iret (v := 0) hx hb hr (fun t ht hW => ⟨⟨0, u6, rfl, h, by rw [ht]; exact hP, va_K.moved hW.alike hK⟩, hS.F ht⟩) hS.2.2 d_Model_corner_75 hlocks
set_option maxHeartbeats 4000000 in
set_option maxRecDepth 100000 in
theorem st_Model_corner {p : Program} {l : Launch} {e : Env} {s : State} {m : MethodId} {args : Array Value} {below : List Frame} {meth : Method} {c : Code} {D : va_G} {a : Nat → Nat} {cA cZ : ClassId} {G : pG} {A : Nat → Prop} {Q : Int32 → pS → Prop} (C : pw_C p s m args meth c b_Model_corner 4 R_Model (some .int) w_Model_corner A) (K : pw_K s D 15 a (rT cA cZ) A) (x1 x2 x3 : Int32) (u : pS) (ls : Array Slot) (hP : va_P D vwCl (rw a cA cZ G u) s.heap) (hl : lv_has ls 4 [(0, .ref (a 0)), (1, .int x1), (2, .int x2), (3, .int x3)]) (h : wp_Model_corner G x1 x2 x3 u Q) : W p l e ({ frames := 4, cells := 0, slots := 0, locals := 100 } : Room) s m args below meth c s.heap [] 0 0 (pw_Ei below args s D (rw a cA cZ G) (rT cA cZ) A Q) (F0 m 0 ls []) := by
 obtain ⟨hx, hb, hr, hml, hown, hts, hlocks, hA⟩ := id C
 obtain ⟨hK, hI, hF⟩ := id K
 have hD : ∀ u, va_D A (rw a cA cZ G u) := fun u => rw_D hI hF
 have hS : va_S A s.heap s.heap [] := va_S.rf
 have h : wp_Model_corner G x1 x2 x3 u Q := h
 refine lv_aload_n hx hb d_Model_corner_0 rfl (lv_at hl 0 rfl) ?_
 refine lv_iload_n hx hb d_Model_corner_1 rfl (lv_at hl 1 rfl) ?_
 refine cc_i (va_runV (As := [.int x1]) (rest := []) ⟨hx, hb, hml, hown, hts⟩ (ct_Model_noPiece l D a cA cZ G _ x1 u _ hI h) (pw_cwV 1 hts kw_971 kw_57 kw_968 kw_970 kw_32 (by decide +kernel) ⟨Nat.le_of_ble_eq_true rfl, Nat.le_of_ble_eq_true rfl⟩) ⟨pw_blind, va_recv hK hP (ci := 1) (q0 := 0) rfl rw_at_0, fun U hU hW => ⟨rfl, by rw [hU], by rw [hU]; exact hP, va_K.moved hW.alike hK⟩⟩ rfl rfl hl.1 rfl (lv_room (Nat.le_of_ble_eq_true rfl)) d_Model_corner_2 ⟨Nat.le_of_ble_eq_true rfl, Nat.le_of_ble_eq_true rfl⟩) hS hF hA (fun r2 u1 H locs hP hS h => ?_)
 refine lv_if_eq (tgt := 10) hx hb d_Model_corner_5 (by decide) (fun c3 => ?_) (fun c3 => ?_)
 · have h := h.1 c3
   refine lv_aload_n hx hb d_Model_corner_10 rfl (lv_at hl 0 rfl) ?_
   refine lv_iload_n hx hb d_Model_corner_11 rfl (lv_at hl 1 rfl) ?_
   refine cc_v (va_runV (As := [.int x1]) (rest := []) ⟨hx, hb, hml, hown, hts⟩ (ct_Model_walk l D a cA cZ G _ x1 u1 _ hI h) (pw_cwV 1 hts kw_991 kw_57 kw_988 kw_990 kw_35 (by decide +kernel) ⟨Nat.le_of_ble_eq_true rfl, Nat.le_of_ble_eq_true rfl⟩) ⟨pw_blind, va_recv hK hP (ci := 1) (q0 := 0) rfl rw_at_0, fun U hU hW => ⟨rfl, by rw [hU], by rw [hU]; exact hP, va_K.moved hW.alike hK⟩⟩ rfl rfl hl.1 rfl (lv_room (Nat.le_of_ble_eq_true rfl)) d_Model_corner_12 ⟨Nat.le_of_ble_eq_true rfl, Nat.le_of_ble_eq_true rfl⟩) hS hF hA (fun u4 H locs hP hS h => ?_)
   refine lv_aload_n hx hb d_Model_corner_15 rfl (lv_at hl 0 rfl) ?_
   refine lv_iload_n hx hb d_Model_corner_16 rfl (lv_at hl 2 rfl) ?_
   refine lv_if_lt (tgt := 37) hx hb d_Model_corner_17 (by decide) (fun c5 => ?_) (fun c5 => ?_)
   · have h := h.1 c5
     exact cp_Model_corner_37 C K (fun x2 x3 y3 u H locs ls hP hS hl h => cp_Model_corner_42 C K x2 x3 y3 u H locs ls hP hS hl h) x2 x3 u4 _ _ _ hP hS (lv_sub hl [0, 2, 3] rfl) h
   · have h := h.2 c5
     refine lv_iload_n hx hb d_Model_corner_20 rfl (lv_at hl 2 rfl) ?_
     refine lv_aload_n hx hb d_Model_corner_21 rfl (lv_at hl 0 rfl) ?_
     refine va_get (D := D) (ci := 1) (v := .int (u4.1 3)) (C := R_Model) (T := T_Model) (N := 23) hx hb hts in_Model hown hK hP 0 rw_at_0 rfl 15 (by decide) (hts _ (List.mem_cons_of_mem _ kw_850)) (fun _ h9 => h9) rfl d_Model_corner_22 ?_
     refine lv_icmp_ge (tgt := 37) hx hb d_Model_corner_25 (by decide) (fun c9 => ?_) (fun c9 => ?_)
     · have h := h.1 c9
       exact cp_Model_corner_37 C K (fun x2 x3 y3 u H locs ls hP hS hl h => cp_Model_corner_42 C K x2 x3 y3 u H locs ls hP hS hl h) x2 x3 u4 _ _ _ hP hS (lv_sub hl [0, 2, 3] rfl) h
     · have h := h.2 c9
       refine lv_iload_n hx hb d_Model_corner_28 rfl (lv_at hl 3 rfl) ?_
       refine lv_if_lt (tgt := 37) hx hb d_Model_corner_29 (by decide) (fun c10 => ?_) (fun c10 => ?_)
       · have h := h.1 c10
         exact cp_Model_corner_37 C K (fun x2 x3 y3 u H locs ls hP hS hl h => cp_Model_corner_42 C K x2 x3 y3 u H locs ls hP hS hl h) x2 x3 u4 _ _ _ hP hS (lv_sub hl [0, 2, 3] rfl) h
       · have h := h.2 c10
         refine lv_iload_n hx hb d_Model_corner_32 rfl (lv_at hl 3 rfl) ?_
         refine lv_iconst (v := 1) hx hb d_Model_corner_33 (by decide) ?_
         refine lv_icmp_le (tgt := 41) hx hb d_Model_corner_34 (by decide) (fun c11 => ?_) (fun c11 => ?_)
         · have h := h.1 c11
           refine lv_iconst (v := 0) hx hb d_Model_corner_41 (by decide) ?_
           exact cp_Model_corner_42 C K x2 x3 0 u4 _ _ _ hP hS (lv_sub hl [0, 2, 3] rfl) h
         · have h := h.2 c11
           exact cp_Model_corner_37 C K (fun x2 x3 y3 u H locs ls hP hS hl h => cp_Model_corner_42 C K x2 x3 y3 u H locs ls hP hS hl h) x2 x3 u4 _ _ _ hP hS (lv_sub hl [0, 2, 3] rfl) h
 · have h := h.2 c3
   refine lv_iconst (v := 0) hx hb d_Model_corner_8 (by decide) ?_
   exact W.iret (v := 0) hx hb hr (fun t ht hW => ⟨⟨0, u1, rfl, h, by rw [ht]; exact hP, va_K.moved hW.alike hK⟩, hS.F ht⟩) hS.2.2 d_Model_corner_9 hlocks
set_option maxHeartbeats 4000000 in
set_option maxRecDepth 100000 in
theorem ct_Model_corner (l : Launch) (D : va_G) (a : Nat → Nat) (cA cZ : ClassId) (G : pG) (sz : Nat) (x1 x2 x3 : Int32) (u : pS) (Q : Int32 → pS → Prop) (hI : pw_I 15 a) (h : wp_Model_corner G x1 x2 x3 u Q) : Met l y_Model_corner w_Model_corner ({ frames := 4, cells := 0, slots := 0, locals := 100 } : Room) (va_Pc [.ref (a 0), .int x1, .int x2, .int x3] (pw_pre D (rw a cA cZ G) (rT cA cZ) sz u)) (va_Qi (fun (r : Int32) (u : pS) => Q r u) (pw_B D (rw a cA cZ G) (rT cA cZ)) (pw_F 15 a sz)) 0 0 (pw_F 15 a sz) := by
 refine Met.ofW (cc := b_Model_corner) (maxL := 4) (ret := (some .int)) (by decide) rfl ?_
 intro p e s m args below meth c s₁ B hml hv
 obtain ⟨rfl, hsz, hP, hK⟩ := hv
 subst hsz
 have hl := lv_entry ([.ref (a 0), .int x1, .int x2, .int x3]) (n := 4) (Nat.le_of_ble_eq_true rfl)
 rw [lg_entry_eq]
 generalize (lg_sl ([.ref (a 0), .int x1, .int x2, .int x3]) ++ List.replicate (4 - (lg_sl ([.ref (a 0), .int x1, .int x2, .int x3])).length) Slot.unset).toArray = ls at hl ⊢
 exact st_Model_corner (A := (pw_F 15 a s.heap.size)) ⟨B.exec, B.bytes, B.returns, hml, findClass_of_methodNamed B.named, atoms_spec (ws := w_Model_corner) B.pre, B.notSynchronized, fun q hq => Or.inr hq⟩ ⟨hK, hI, fun k hk => Or.inl ⟨k, hk, rfl⟩⟩ x1 x2 x3 u ls hP hl h
set_option maxHeartbeats 4000000 in
set_option maxRecDepth 100000 in
theorem cp_Model_isRoom_29 {p : Program} {l : Launch} {e : Env} {s : State} {m : MethodId} {args : Array Value} {below : List Frame} {meth : Method} {c : Code} {D : va_G} {a : Nat → Nat} {cA cZ : ClassId} {G : pG} {A : Nat → Prop} {Q : Int32 → pS → Prop} (C : pw_C p s m args meth c b_Model_isRoom 8 R_Model (some .boolean) w_Model_isRoom A) (K : pw_K s D 15 a (rT cA cZ) A) {k9 : Int32 → Int32 → Int32 → Int32 → Int32 → Int32 → pS → Prop} (hk9 : ∀ (x1 x2 x3 x4 x5 x6 : Int32) (u : pS) (H : Heap) (locs : List Loc) (ls : Array Slot), va_P D vwCl (rw a cA cZ G u) H → va_S A s.heap H locs → lv_has ls 8 [(0, .ref (a 0)), (1, .int x1), (2, .int x2), (3, .int x3), (4, .int x4), (5, .int x5), (6, .int x6)] → k9 x1 x2 x3 x4 x5 x6 u → W p l e ({ frames := 2, cells := 0, slots := 0, locals := 45 } : Room) s m args below meth c H locs 0 0 (pw_Ei below args s D (rw a cA cZ G) (rT cA cZ) A Q) (F0 m 9 ls [])) : ∀ (n : Nat), ∀ (x1 x2 x3 x4 x5 x6 x7 : Int32) (u : pS) (H : Heap) (locs : List Loc) (ls : Array Slot), va_P D vwCl (rw a cA cZ G u) H → va_S A s.heap H locs → lv_has ls 8 [(0, .ref (a 0)), (1, .int x1), (2, .int x2), (3, .int x3), (4, .int x4), (5, .int x5), (6, .int x6), (7, .int x7)] → lp_Model_isRoom_29 G Q k9 n x1 x2 x3 x4 x5 x6 x7 u → W p l e ({ frames := 2, cells := 0, slots := 0, locals := 45 } : Room) s m args below meth c H locs 0 0 (pw_Ei below args s D (rw a cA cZ G) (rT cA cZ) A Q) (F0 m 29 ls []) := by
 obtain ⟨hx, hb, hr, hml, hown, hts, hlocks, hA⟩ := id C
 obtain ⟨hK, hI, hF⟩ := id K
 have hD : ∀ u, va_D A (rw a cA cZ G u) := fun u => rw_D hI hF
 intro n
 induction n with
 | zero => intro x1 x2 x3 x4 x5 x6 x7 u H locs ls hP hS hl h; exact h.elim
 | succ n ih =>
   intro x1 x2 x3 x4 x5 x6 x7 u H locs ls hP hS hl h
   refine lv_iload hx hb d_Model_isRoom_29 (lv_at hl 7 rfl) ?_
   refine lv_iload_n hx hb d_Model_isRoom_31 rfl (lv_at hl 3 rfl) ?_
   refine lv_iload hx hb d_Model_isRoom_32 (lv_at hl 4 rfl) ?_
   refine lv_iadd hx hb d_Model_isRoom_34 ?_
   refine lv_icmp_gt (tgt := 60) hx hb d_Model_isRoom_35 (by decide) (fun c5 => ?_) (fun c5 => ?_)
   · have h := h.1 c5
     obtain ⟨t6, et6⟩ : ∃ y : Int32, y = x6 + 1 := ⟨_, rfl⟩
     have h := h t6 et6
     refine lv_iinc (v := t6) (lv' := [(6, .int t6), (0, .ref (a 0)), (1, .int x1), (2, .int x2), (3, .int x3), (4, .int x4), (5, .int x5), (7, .int x7)]) hx hb d_Model_isRoom_60 hl (k := 6) rfl (by rw [et6]; rfl) (by decide) rfl (fun ls hl => ?_)
     refine lv_goto (tgt := 9) hx hb d_Model_isRoom_63 (by decide) ?_
     exact hk9 x1 x2 x3 x4 x5 t6 u _ _ _ hP hS (lv_sub hl [1, 2, 3, 4, 5, 6, 0] rfl) h
   · have h := h.2 c5
     refine lv_iload hx hb d_Model_isRoom_38 (lv_at hl 5 rfl) ?_
     refine lv_if_eq (tgt := 60) hx hb d_Model_isRoom_40 (by decide) (fun c7 => ?_) (fun c7 => ?_)
     · have h := h.1 c7
       obtain ⟨t8, et8⟩ : ∃ y : Int32, y = x6 + 1 := ⟨_, rfl⟩
       have h := h t8 et8
       refine lv_iinc (v := t8) (lv' := [(6, .int t8), (0, .ref (a 0)), (1, .int x1), (2, .int x2), (3, .int x3), (4, .int x4), (5, .int x5), (7, .int x7)]) hx hb d_Model_isRoom_60 hl (k := 6) rfl (by rw [et8]; rfl) (by decide) rfl (fun ls hl => ?_)
       refine lv_goto (tgt := 9) hx hb d_Model_isRoom_63 (by decide) ?_
       exact hk9 x1 x2 x3 x4 x5 t8 u _ _ _ hP hS (lv_sub hl [1, 2, 3, 4, 5, 6, 0] rfl) h
     · have h := h.2 c7
       refine lv_aload_n hx hb d_Model_isRoom_43 rfl (lv_at hl 0 rfl) ?_
       refine lv_iload_n hx hb d_Model_isRoom_44 rfl (lv_at hl 1 rfl) ?_
       refine lv_iload hx hb d_Model_isRoom_45 (lv_at hl 6 rfl) ?_
       refine lv_iload hx hb d_Model_isRoom_47 (lv_at hl 7 rfl) ?_
       refine cc_i (va_runV (As := [.int x1, .int x6, .int x7]) (rest := []) ⟨hx, hb, hml, hown, hts⟩ (ct_Model_isOf l D a cA cZ G _ x1 x6 x7 u _ hI h) (pw_cwV 3 hts kw_999 kw_57 kw_996 kw_998 kw_37 (by decide +kernel) ⟨Nat.le_of_ble_eq_true rfl, Nat.le_of_ble_eq_true rfl⟩) ⟨pw_blind, va_recv hK hP (ci := 1) (q0 := 0) rfl rw_at_0, fun U hU hW => ⟨rfl, by rw [hU], by rw [hU]; exact hP, va_K.moved hW.alike hK⟩⟩ rfl rfl hl.1 rfl (lv_room (Nat.le_of_ble_eq_true rfl)) d_Model_isRoom_49 ⟨Nat.le_of_ble_eq_true rfl, Nat.le_of_ble_eq_true rfl⟩) hS hF hA (fun r10 u9 H locs hP hS h => ?_)
       refine lv_istore (lv' := [(5, .int r10), (0, .ref (a 0)), (1, .int x1), (2, .int x2), (3, .int x3), (4, .int x4), (6, .int x6), (7, .int x7)]) hx hb d_Model_isRoom_52 hl (by decide) rfl (fun ls hl => ?_)
       obtain ⟨t11, et11⟩ : ∃ y : Int32, y = x7 + 1 := ⟨_, rfl⟩
       have h := h t11 et11
       refine lv_iinc (v := t11) (lv' := [(7, .int t11), (5, .int r10), (0, .ref (a 0)), (1, .int x1), (2, .int x2), (3, .int x3), (4, .int x4), (6, .int x6)]) hx hb d_Model_isRoom_54 hl (k := 7) rfl (by rw [et11]; rfl) (by decide) rfl (fun ls hl => ?_)
       refine lv_goto (tgt := 29) hx hb d_Model_isRoom_57 (by decide) ?_
       exact ih x1 x2 x3 x4 r10 x6 t11 u9 _ _ _ hP hS (lv_sub hl [2, 3, 4, 5, 6, 1, 7, 0] rfl) h
set_option maxHeartbeats 4000000 in
set_option maxRecDepth 100000 in
theorem cp_Model_isRoom_9 {p : Program} {l : Launch} {e : Env} {s : State} {m : MethodId} {args : Array Value} {below : List Frame} {meth : Method} {c : Code} {D : va_G} {a : Nat → Nat} {cA cZ : ClassId} {G : pG} {A : Nat → Prop} {Q : Int32 → pS → Prop} (C : pw_C p s m args meth c b_Model_isRoom 8 R_Model (some .boolean) w_Model_isRoom A) (K : pw_K s D 15 a (rT cA cZ) A) : ∀ (n : Nat), ∀ (x1 x2 x3 x4 x5 x6 : Int32) (u : pS) (H : Heap) (locs : List Loc) (ls : Array Slot), va_P D vwCl (rw a cA cZ G u) H → va_S A s.heap H locs → lv_has ls 8 [(0, .ref (a 0)), (1, .int x1), (2, .int x2), (3, .int x3), (4, .int x4), (5, .int x5), (6, .int x6)] → lp_Model_isRoom_9 G Q n x1 x2 x3 x4 x5 x6 u → W p l e ({ frames := 2, cells := 0, slots := 0, locals := 45 } : Room) s m args below meth c H locs 0 0 (pw_Ei below args s D (rw a cA cZ G) (rT cA cZ) A Q) (F0 m 9 ls []) := by
 obtain ⟨hx, hb, hr, hml, hown, hts, hlocks, hA⟩ := id C
 obtain ⟨hK, hI, hF⟩ := id K
 have hD : ∀ u, va_D A (rw a cA cZ G u) := fun u => rw_D hI hF
 intro n
 induction n with
 | zero => intro x1 x2 x3 x4 x5 x6 u H locs ls hP hS hl h; exact h.elim
 | succ n ih =>
   intro x1 x2 x3 x4 x5 x6 u H locs ls hP hS hl h
   refine lv_iload hx hb d_Model_isRoom_9 (lv_at hl 6 rfl) ?_
   refine lv_iload_n hx hb d_Model_isRoom_11 rfl (lv_at hl 2 rfl) ?_
   refine lv_iload hx hb d_Model_isRoom_12 (lv_at hl 4 rfl) ?_
   refine lv_iadd hx hb d_Model_isRoom_14 ?_
   refine lv_icmp_gt (tgt := 66) hx hb d_Model_isRoom_15 (by decide) (fun c2 => ?_) (fun c2 => ?_)
   · have h := h.1 c2
     refine lv_iload hx hb d_Model_isRoom_66 (lv_at hl 5 rfl) ?_
     exact W.zret (v := x5) hx hb hr h.1 (fun t ht hW => ⟨⟨x5, u, rfl, h.2, by rw [ht]; exact hP, va_K.moved hW.alike hK⟩, hS.F ht⟩) hS.2.2 d_Model_isRoom_68 hlocks
   · have h := h.2 c2
     refine lv_iload hx hb d_Model_isRoom_18 (lv_at hl 5 rfl) ?_
     refine lv_if_eq (tgt := 66) hx hb d_Model_isRoom_20 (by decide) (fun c3 => ?_) (fun c3 => ?_)
     · have h := h.1 c3
       refine lv_iload hx hb d_Model_isRoom_66 (lv_at hl 5 rfl) ?_
       exact W.zret (v := x5) hx hb hr h.1 (fun t ht hW => ⟨⟨x5, u, rfl, h.2, by rw [ht]; exact hP, va_K.moved hW.alike hK⟩, hS.F ht⟩) hS.2.2 d_Model_isRoom_68 hlocks
     · have h := h.2 c3
       refine lv_iload_n hx hb d_Model_isRoom_23 rfl (lv_at hl 3 rfl) ?_
       refine lv_iload hx hb d_Model_isRoom_24 (lv_at hl 4 rfl) ?_
       refine lv_isub hx hb d_Model_isRoom_26 ?_
       refine lv_topi (fun t4 et4 => ?_)
       have h := h t4 et4
       refine lv_istore (lv' := [(7, .int t4), (0, .ref (a 0)), (1, .int x1), (2, .int x2), (3, .int x3), (4, .int x4), (5, .int x5), (6, .int x6)]) hx hb d_Model_isRoom_27 hl (by decide) rfl (fun ls hl => ?_)
       obtain ⟨n1, h⟩ := h
       exact cp_Model_isRoom_29 C K ih n1 x1 x2 x3 x4 x5 x6 t4 u _ _ _ hP hS (lv_sub hl [1, 2, 3, 4, 5, 6, 7, 0] rfl) h
set_option maxHeartbeats 4000000 in
set_option maxRecDepth 100000 in
theorem st_Model_isRoom {p : Program} {l : Launch} {e : Env} {s : State} {m : MethodId} {args : Array Value} {below : List Frame} {meth : Method} {c : Code} {D : va_G} {a : Nat → Nat} {cA cZ : ClassId} {G : pG} {A : Nat → Prop} {Q : Int32 → pS → Prop} (C : pw_C p s m args meth c b_Model_isRoom 8 R_Model (some .boolean) w_Model_isRoom A) (K : pw_K s D 15 a (rT cA cZ) A) (x1 x2 x3 x4 : Int32) (u : pS) (ls : Array Slot) (hP : va_P D vwCl (rw a cA cZ G u) s.heap) (hl : lv_has ls 8 [(0, .ref (a 0)), (1, .int x1), (2, .int x2), (3, .int x3), (4, .int x4)]) (h : wp_Model_isRoom G x1 x2 x3 x4 u Q) : W p l e ({ frames := 2, cells := 0, slots := 0, locals := 45 } : Room) s m args below meth c s.heap [] 0 0 (pw_Ei below args s D (rw a cA cZ G) (rT cA cZ) A Q) (F0 m 0 ls []) := by
 obtain ⟨hx, hb, hr, hml, hown, hts, hlocks, hA⟩ := id C
 obtain ⟨hK, hI, hF⟩ := id K
 have hD : ∀ u, va_D A (rw a cA cZ G u) := fun u => rw_D hI hF
 have hS : va_S A s.heap s.heap [] := va_S.rf
 have h : wp_Model_isRoom G x1 x2 x3 x4 u Q := h
 refine lv_iconst (v := 1) hx hb d_Model_isRoom_0 (by decide) ?_
 refine lv_istore (lv' := [(5, .int 1), (0, .ref (a 0)), (1, .int x1), (2, .int x2), (3, .int x3), (4, .int x4)]) hx hb d_Model_isRoom_1 hl (by decide) rfl (fun ls hl => ?_)
 refine lv_iload_n hx hb d_Model_isRoom_3 rfl (lv_at hl 3 rfl) ?_
 refine lv_iload hx hb d_Model_isRoom_4 (lv_at hl 5 rfl) ?_
 refine lv_isub hx hb d_Model_isRoom_6 ?_
 refine lv_topi (fun t1 et1 => ?_)
 have h := h t1 et1
 refine lv_istore (lv' := [(6, .int t1), (5, .int 1), (0, .ref (a 0)), (1, .int x1), (2, .int x2), (3, .int x3), (4, .int x4)]) hx hb d_Model_isRoom_7 hl (by decide) rfl (fun ls hl => ?_)
 obtain ⟨n1, h⟩ := h
 exact cp_Model_isRoom_9 C K n1 x1 x2 x3 x4 1 t1 u _ _ _ hP hS (lv_sub hl [2, 3, 4, 5, 6, 1, 0] rfl) h
set_option maxHeartbeats 4000000 in
set_option maxRecDepth 100000 in
theorem ct_Model_isRoom (l : Launch) (D : va_G) (a : Nat → Nat) (cA cZ : ClassId) (G : pG) (sz : Nat) (x1 x2 x3 x4 : Int32) (u : pS) (Q : Int32 → pS → Prop) (hI : pw_I 15 a) (h : wp_Model_isRoom G x1 x2 x3 x4 u Q) : Met l y_Model_isRoom w_Model_isRoom ({ frames := 2, cells := 0, slots := 0, locals := 45 } : Room) (va_Pc [.ref (a 0), .int x1, .int x2, .int x3, .int x4] (pw_pre D (rw a cA cZ G) (rT cA cZ) sz u)) (va_Qi (fun (r : Int32) (u : pS) => Q r u) (pw_B D (rw a cA cZ G) (rT cA cZ)) (pw_F 15 a sz)) 0 0 (pw_F 15 a sz) := by
 refine Met.ofW (cc := b_Model_isRoom) (maxL := 8) (ret := (some .boolean)) (by decide) rfl ?_
 intro p e s m args below meth c s₁ B hml hv
 obtain ⟨rfl, hsz, hP, hK⟩ := hv
 subst hsz
 have hl := lv_entry ([.ref (a 0), .int x1, .int x2, .int x3, .int x4]) (n := 8) (Nat.le_of_ble_eq_true rfl)
 rw [lg_entry_eq]
 generalize (lg_sl ([.ref (a 0), .int x1, .int x2, .int x3, .int x4]) ++ List.replicate (8 - (lg_sl ([.ref (a 0), .int x1, .int x2, .int x3, .int x4])).length) Slot.unset).toArray = ls at hl ⊢
 exact st_Model_isRoom (A := (pw_F 15 a s.heap.size)) ⟨B.exec, B.bytes, B.returns, hml, findClass_of_methodNamed B.named, atoms_spec (ws := w_Model_isRoom) B.pre, B.notSynchronized, fun q hq => Or.inr hq⟩ ⟨hK, hI, fun k hk => Or.inl ⟨k, hk, rfl⟩⟩ x1 x2 x3 x4 u ls hP hl h
set_option maxHeartbeats 4000000 in
set_option maxRecDepth 100000 in
theorem cp_Model_isReached_29 {p : Program} {l : Launch} {e : Env} {s : State} {m : MethodId} {args : Array Value} {below : List Frame} {meth : Method} {c : Code} {D : va_G} {a : Nat → Nat} {cA cZ : ClassId} {G : pG} {A : Nat → Prop} {Q : Int32 → pS → Prop} (C : pw_C p s m args meth c b_Model_isReached 8 R_Model (some .boolean) w_Model_isReached A) (K : pw_K s D 15 a (rT cA cZ) A) {k9 : Int32 → Int32 → Int32 → Int32 → Int32 → Int32 → pS → Prop} (hk9 : ∀ (x1 x2 x3 x4 x5 x6 : Int32) (u : pS) (H : Heap) (locs : List Loc) (ls : Array Slot), va_P D vwCl (rw a cA cZ G u) H → va_S A s.heap H locs → lv_has ls 8 [(0, .ref (a 0)), (1, .int x1), (2, .int x2), (3, .int x3), (4, .int x4), (5, .int x5), (6, .int x6)] → k9 x1 x2 x3 x4 x5 x6 u → W p l e ({ frames := 3, cells := 0, slots := 0, locals := 72 } : Room) s m args below meth c H locs 0 0 (pw_Ei below args s D (rw a cA cZ G) (rT cA cZ) A Q) (F0 m 9 ls [])) : ∀ (n : Nat), ∀ (x1 x2 x3 x4 x5 x6 x7 : Int32) (u : pS) (H : Heap) (locs : List Loc) (ls : Array Slot), va_P D vwCl (rw a cA cZ G u) H → va_S A s.heap H locs → lv_has ls 8 [(0, .ref (a 0)), (1, .int x1), (2, .int x2), (3, .int x3), (4, .int x4), (5, .int x5), (6, .int x6), (7, .int x7)] → lp_Model_isReached_29 G Q k9 n x1 x2 x3 x4 x5 x6 x7 u → W p l e ({ frames := 3, cells := 0, slots := 0, locals := 72 } : Room) s m args below meth c H locs 0 0 (pw_Ei below args s D (rw a cA cZ G) (rT cA cZ) A Q) (F0 m 29 ls []) := by
 obtain ⟨hx, hb, hr, hml, hown, hts, hlocks, hA⟩ := id C
 obtain ⟨hK, hI, hF⟩ := id K
 have hD : ∀ u, va_D A (rw a cA cZ G u) := fun u => rw_D hI hF
 intro n
 induction n with
 | zero => intro x1 x2 x3 x4 x5 x6 x7 u H locs ls hP hS hl h; exact h.elim
 | succ n ih =>
   intro x1 x2 x3 x4 x5 x6 x7 u H locs ls hP hS hl h
   refine lv_iload hx hb d_Model_isReached_29 (lv_at hl 7 rfl) ?_
   refine lv_iload_n hx hb d_Model_isReached_31 rfl (lv_at hl 3 rfl) ?_
   refine lv_iload hx hb d_Model_isReached_32 (lv_at hl 4 rfl) ?_
   refine lv_iadd hx hb d_Model_isReached_34 ?_
   refine lv_icmp_gt (tgt := 62) hx hb d_Model_isReached_35 (by decide) (fun c5 => ?_) (fun c5 => ?_)
   · have h := h.1 c5
     obtain ⟨t6, et6⟩ : ∃ y : Int32, y = x6 + 1 := ⟨_, rfl⟩
     have h := h t6 et6
     refine lv_iinc (v := t6) (lv' := [(6, .int t6), (0, .ref (a 0)), (1, .int x1), (2, .int x2), (3, .int x3), (4, .int x4), (5, .int x5), (7, .int x7)]) hx hb d_Model_isReached_62 hl (k := 6) rfl (by rw [et6]; rfl) (by decide) rfl (fun ls hl => ?_)
     refine lv_goto (tgt := 9) hx hb d_Model_isReached_65 (by decide) ?_
     exact hk9 x1 x2 x3 x4 x5 t6 u _ _ _ hP hS (lv_sub hl [1, 2, 3, 4, 5, 6, 0] rfl) h
   · have h := h.2 c5
     refine lv_iload hx hb d_Model_isReached_38 (lv_at hl 5 rfl) ?_
     refine lv_if_ne (tgt := 62) hx hb d_Model_isReached_40 (by decide) (fun c7 => ?_) (fun c7 => ?_)
     · have h := h.2 c7
       obtain ⟨t8, et8⟩ : ∃ y : Int32, y = x6 + 1 := ⟨_, rfl⟩
       have h := h t8 et8
       refine lv_iinc (v := t8) (lv' := [(6, .int t8), (0, .ref (a 0)), (1, .int x1), (2, .int x2), (3, .int x3), (4, .int x4), (5, .int x5), (7, .int x7)]) hx hb d_Model_isReached_62 hl (k := 6) rfl (by rw [et8]; rfl) (by decide) rfl (fun ls hl => ?_)
       refine lv_goto (tgt := 9) hx hb d_Model_isReached_65 (by decide) ?_
       exact hk9 x1 x2 x3 x4 x5 t8 u _ _ _ hP hS (lv_sub hl [1, 2, 3, 4, 5, 6, 0] rfl) h
     · have h := h.1 c7
       refine lv_aload_n hx hb d_Model_isReached_43 rfl (lv_at hl 0 rfl) ?_
       refine lv_iload_n hx hb d_Model_isReached_44 rfl (lv_at hl 1 rfl) ?_
       refine lv_iload hx hb d_Model_isReached_45 (lv_at hl 6 rfl) ?_
       refine lv_iload hx hb d_Model_isReached_47 (lv_at hl 7 rfl) ?_
       refine lv_iload hx hb d_Model_isReached_49 (lv_at hl 4 rfl) ?_
       refine cc_i (va_runV (As := [.int x1, .int x6, .int x7, .int x4]) (rest := []) ⟨hx, hb, hml, hown, hts⟩ (ct_Model_isRoom l D a cA cZ G _ x1 x6 x7 x4 u _ hI h) (pw_cwV 4 hts kw_1015 kw_57 kw_1012 kw_1014 kw_39 (by decide +kernel) ⟨Nat.le_of_ble_eq_true rfl, Nat.le_of_ble_eq_true rfl⟩) ⟨pw_blind, va_recv hK hP (ci := 1) (q0 := 0) rfl rw_at_0, fun U hU hW => ⟨rfl, by rw [hU], by rw [hU]; exact hP, va_K.moved hW.alike hK⟩⟩ rfl rfl hl.1 rfl (lv_room (Nat.le_of_ble_eq_true rfl)) d_Model_isReached_51 ⟨Nat.le_of_ble_eq_true rfl, Nat.le_of_ble_eq_true rfl⟩) hS hF hA (fun r10 u9 H locs hP hS h => ?_)
       refine lv_istore (lv' := [(5, .int r10), (0, .ref (a 0)), (1, .int x1), (2, .int x2), (3, .int x3), (4, .int x4), (6, .int x6), (7, .int x7)]) hx hb d_Model_isReached_54 hl (by decide) rfl (fun ls hl => ?_)
       obtain ⟨t11, et11⟩ : ∃ y : Int32, y = x7 + 1 := ⟨_, rfl⟩
       have h := h t11 et11
       refine lv_iinc (v := t11) (lv' := [(7, .int t11), (5, .int r10), (0, .ref (a 0)), (1, .int x1), (2, .int x2), (3, .int x3), (4, .int x4), (6, .int x6)]) hx hb d_Model_isReached_56 hl (k := 7) rfl (by rw [et11]; rfl) (by decide) rfl (fun ls hl => ?_)
       refine lv_goto (tgt := 29) hx hb d_Model_isReached_59 (by decide) ?_
       exact ih x1 x2 x3 x4 r10 x6 t11 u9 _ _ _ hP hS (lv_sub hl [2, 3, 4, 5, 6, 1, 7, 0] rfl) h
set_option maxHeartbeats 4000000 in
set_option maxRecDepth 100000 in
theorem cp_Model_isReached_9 {p : Program} {l : Launch} {e : Env} {s : State} {m : MethodId} {args : Array Value} {below : List Frame} {meth : Method} {c : Code} {D : va_G} {a : Nat → Nat} {cA cZ : ClassId} {G : pG} {A : Nat → Prop} {Q : Int32 → pS → Prop} (C : pw_C p s m args meth c b_Model_isReached 8 R_Model (some .boolean) w_Model_isReached A) (K : pw_K s D 15 a (rT cA cZ) A) : ∀ (n : Nat), ∀ (x1 x2 x3 x4 x5 x6 : Int32) (u : pS) (H : Heap) (locs : List Loc) (ls : Array Slot), va_P D vwCl (rw a cA cZ G u) H → va_S A s.heap H locs → lv_has ls 8 [(0, .ref (a 0)), (1, .int x1), (2, .int x2), (3, .int x3), (4, .int x4), (5, .int x5), (6, .int x6)] → lp_Model_isReached_9 G Q n x1 x2 x3 x4 x5 x6 u → W p l e ({ frames := 3, cells := 0, slots := 0, locals := 72 } : Room) s m args below meth c H locs 0 0 (pw_Ei below args s D (rw a cA cZ G) (rT cA cZ) A Q) (F0 m 9 ls []) := by
 obtain ⟨hx, hb, hr, hml, hown, hts, hlocks, hA⟩ := id C
 obtain ⟨hK, hI, hF⟩ := id K
 have hD : ∀ u, va_D A (rw a cA cZ G u) := fun u => rw_D hI hF
 intro n
 induction n with
 | zero => intro x1 x2 x3 x4 x5 x6 u H locs ls hP hS hl h; exact h.elim
 | succ n ih =>
   intro x1 x2 x3 x4 x5 x6 u H locs ls hP hS hl h
   refine lv_iload hx hb d_Model_isReached_9 (lv_at hl 6 rfl) ?_
   refine lv_iload_n hx hb d_Model_isReached_11 rfl (lv_at hl 2 rfl) ?_
   refine lv_iload hx hb d_Model_isReached_12 (lv_at hl 4 rfl) ?_
   refine lv_iadd hx hb d_Model_isReached_14 ?_
   refine lv_icmp_gt (tgt := 68) hx hb d_Model_isReached_15 (by decide) (fun c2 => ?_) (fun c2 => ?_)
   · have h := h.1 c2
     refine lv_iload hx hb d_Model_isReached_68 (lv_at hl 5 rfl) ?_
     exact W.zret (v := x5) hx hb hr h.1 (fun t ht hW => ⟨⟨x5, u, rfl, h.2, by rw [ht]; exact hP, va_K.moved hW.alike hK⟩, hS.F ht⟩) hS.2.2 d_Model_isReached_70 hlocks
   · have h := h.2 c2
     refine lv_iload hx hb d_Model_isReached_18 (lv_at hl 5 rfl) ?_
     refine lv_if_ne (tgt := 68) hx hb d_Model_isReached_20 (by decide) (fun c3 => ?_) (fun c3 => ?_)
     · have h := h.2 c3
       refine lv_iload hx hb d_Model_isReached_68 (lv_at hl 5 rfl) ?_
       exact W.zret (v := x5) hx hb hr h.1 (fun t ht hW => ⟨⟨x5, u, rfl, h.2, by rw [ht]; exact hP, va_K.moved hW.alike hK⟩, hS.F ht⟩) hS.2.2 d_Model_isReached_70 hlocks
     · have h := h.1 c3
       refine lv_iload_n hx hb d_Model_isReached_23 rfl (lv_at hl 3 rfl) ?_
       refine lv_iload hx hb d_Model_isReached_24 (lv_at hl 4 rfl) ?_
       refine lv_isub hx hb d_Model_isReached_26 ?_
       refine lv_topi (fun t4 et4 => ?_)
       have h := h t4 et4
       refine lv_istore (lv' := [(7, .int t4), (0, .ref (a 0)), (1, .int x1), (2, .int x2), (3, .int x3), (4, .int x4), (5, .int x5), (6, .int x6)]) hx hb d_Model_isReached_27 hl (by decide) rfl (fun ls hl => ?_)
       obtain ⟨n1, h⟩ := h
       exact cp_Model_isReached_29 C K ih n1 x1 x2 x3 x4 x5 x6 t4 u _ _ _ hP hS (lv_sub hl [1, 2, 3, 4, 5, 6, 7, 0] rfl) h
set_option maxHeartbeats 4000000 in
set_option maxRecDepth 100000 in
theorem st_Model_isReached {p : Program} {l : Launch} {e : Env} {s : State} {m : MethodId} {args : Array Value} {below : List Frame} {meth : Method} {c : Code} {D : va_G} {a : Nat → Nat} {cA cZ : ClassId} {G : pG} {A : Nat → Prop} {Q : Int32 → pS → Prop} (C : pw_C p s m args meth c b_Model_isReached 8 R_Model (some .boolean) w_Model_isReached A) (K : pw_K s D 15 a (rT cA cZ) A) (x1 x2 x3 x4 : Int32) (u : pS) (ls : Array Slot) (hP : va_P D vwCl (rw a cA cZ G u) s.heap) (hl : lv_has ls 8 [(0, .ref (a 0)), (1, .int x1), (2, .int x2), (3, .int x3), (4, .int x4)]) (h : wp_Model_isReached G x1 x2 x3 x4 u Q) : W p l e ({ frames := 3, cells := 0, slots := 0, locals := 72 } : Room) s m args below meth c s.heap [] 0 0 (pw_Ei below args s D (rw a cA cZ G) (rT cA cZ) A Q) (F0 m 0 ls []) := by
 obtain ⟨hx, hb, hr, hml, hown, hts, hlocks, hA⟩ := id C
 obtain ⟨hK, hI, hF⟩ := id K
 have hD : ∀ u, va_D A (rw a cA cZ G u) := fun u => rw_D hI hF
 have hS : va_S A s.heap s.heap [] := va_S.rf
 have h : wp_Model_isReached G x1 x2 x3 x4 u Q := h
 refine lv_iconst (v := 0) hx hb d_Model_isReached_0 (by decide) ?_
 refine lv_istore (lv' := [(5, .int 0), (0, .ref (a 0)), (1, .int x1), (2, .int x2), (3, .int x3), (4, .int x4)]) hx hb d_Model_isReached_1 hl (by decide) rfl (fun ls hl => ?_)
 refine lv_iload_n hx hb d_Model_isReached_3 rfl (lv_at hl 3 rfl) ?_
 refine lv_iload hx hb d_Model_isReached_4 (lv_at hl 5 rfl) ?_
 refine lv_isub hx hb d_Model_isReached_6 ?_
 refine lv_topi (fun t1 et1 => ?_)
 have h := h t1 et1
 refine lv_istore (lv' := [(6, .int t1), (5, .int 0), (0, .ref (a 0)), (1, .int x1), (2, .int x2), (3, .int x3), (4, .int x4)]) hx hb d_Model_isReached_7 hl (by decide) rfl (fun ls hl => ?_)
 obtain ⟨n1, h⟩ := h
 exact cp_Model_isReached_9 C K n1 x1 x2 x3 x4 0 t1 u _ _ _ hP hS (lv_sub hl [2, 3, 4, 5, 6, 1, 0] rfl) h
set_option maxHeartbeats 4000000 in
set_option maxRecDepth 100000 in
theorem ct_Model_isReached (l : Launch) (D : va_G) (a : Nat → Nat) (cA cZ : ClassId) (G : pG) (sz : Nat) (x1 x2 x3 x4 : Int32) (u : pS) (Q : Int32 → pS → Prop) (hI : pw_I 15 a) (h : wp_Model_isReached G x1 x2 x3 x4 u Q) : Met l y_Model_isReached w_Model_isReached ({ frames := 3, cells := 0, slots := 0, locals := 72 } : Room) (va_Pc [.ref (a 0), .int x1, .int x2, .int x3, .int x4] (pw_pre D (rw a cA cZ G) (rT cA cZ) sz u)) (va_Qi (fun (r : Int32) (u : pS) => Q r u) (pw_B D (rw a cA cZ G) (rT cA cZ)) (pw_F 15 a sz)) 0 0 (pw_F 15 a sz) := by
 refine Met.ofW (cc := b_Model_isReached) (maxL := 8) (ret := (some .boolean)) (by decide) rfl ?_
 intro p e s m args below meth c s₁ B hml hv
 obtain ⟨rfl, hsz, hP, hK⟩ := hv
 subst hsz
 have hl := lv_entry ([.ref (a 0), .int x1, .int x2, .int x3, .int x4]) (n := 8) (Nat.le_of_ble_eq_true rfl)
 rw [lg_entry_eq]
 generalize (lg_sl ([.ref (a 0), .int x1, .int x2, .int x3, .int x4]) ++ List.replicate (8 - (lg_sl ([.ref (a 0), .int x1, .int x2, .int x3, .int x4])).length) Slot.unset).toArray = ls at hl ⊢
 exact st_Model_isReached (A := (pw_F 15 a s.heap.size)) ⟨B.exec, B.bytes, B.returns, hml, findClass_of_methodNamed B.named, atoms_spec (ws := w_Model_isReached) B.pre, B.notSynchronized, fun q hq => Or.inr hq⟩ ⟨hK, hI, fun k hk => Or.inl ⟨k, hk, rfl⟩⟩ x1 x2 x3 x4 u ls hP hl h
set_option maxHeartbeats 4000000 in
set_option maxRecDepth 100000 in
theorem cp_Model_left_34 {p : Program} {l : Launch} {e : Env} {s : State} {m : MethodId} {args : Array Value} {below : List Frame} {meth : Method} {c : Code} {D : va_G} {a : Nat → Nat} {cA cZ : ClassId} {G : pG} {A : Nat → Prop} {Q : Int32 → pS → Prop} (C : pw_C p s m args meth c b_Model_left 5 R_Model (some .int) w_Model_left A) (K : pw_K s D 15 a (rT cA cZ) A) : ∀ (n : Nat), ∀ (x1 x2 x3 x4 : Int32) (u : pS) (H : Heap) (locs : List Loc) (ls : Array Slot), va_P D vwCl (rw a cA cZ G u) H → va_S A s.heap H locs → lv_has ls 5 [(0, .ref (a 0)), (1, .int x1), (2, .int x2), (3, .int x3), (4, .int x4)] → lp_Model_left_34 G Q n x1 x2 x3 x4 u → W p l e ({ frames := 4, cells := 0, slots := 0, locals := 99 } : Room) s m args below meth c H locs 0 0 (pw_Ei below args s D (rw a cA cZ G) (rT cA cZ) A Q) (F0 m 34 ls []) := by
 obtain ⟨hx, hb, hr, hml, hown, hts, hlocks, hA⟩ := id C
 obtain ⟨hK, hI, hF⟩ := id K
 have hD : ∀ u, va_D A (rw a cA cZ G u) := fun u => rw_D hI hF
 intro n
 induction n with
 | zero => intro x1 x2 x3 x4 u H locs ls hP hS hl h; exact h.elim
 | succ n ih =>
   intro x1 x2 x3 x4 u H locs ls hP hS hl h
   refine lv_iload hx hb d_Model_left_34 (lv_at hl 4 rfl) ?_
   refine lv_aload_n hx hb d_Model_left_36 rfl (lv_at hl 0 rfl) ?_
   refine va_get (D := D) (ci := 1) (v := .int (G.2.1 0)) (C := R_Model) (T := T_Model) (N := 23) hx hb hts in_Model hown hK hP 0 rw_at_0 rfl 1 (by decide) (hts _ (List.mem_cons_of_mem _ kw_836)) (fun _ h9 => h9) rfl d_Model_left_37 ?_
   refine lv_aload_n hx hb d_Model_left_40 rfl (lv_at hl 0 rfl) ?_
   refine va_get (D := D) (ci := 1) (v := .int (G.2.1 1)) (C := R_Model) (T := T_Model) (N := 23) hx hb hts in_Model hown hK hP 0 rw_at_0 rfl 2 (by decide) (hts _ (List.mem_cons_of_mem _ kw_837)) (fun _ h9 => h9) rfl d_Model_left_41 ?_
   refine lv_imul hx hb d_Model_left_44 ?_
   refine lv_icmp_ge (tgt := 108) hx hb d_Model_left_45 (by decide) (fun c6 => ?_) (fun c6 => ?_)
   · have h := h.1 c6
     refine lv_iload_n hx hb d_Model_left_108 rfl (lv_at hl 3 rfl) ?_
     exact W.iret (v := x3) hx hb hr (fun t ht hW => ⟨⟨x3, u, rfl, h, by rw [ht]; exact hP, va_K.moved hW.alike hK⟩, hS.F ht⟩) hS.2.2 d_Model_left_109 hlocks
   · have h := h.2 c6
     refine lv_aload_n hx hb d_Model_left_48 rfl (lv_at hl 0 rfl) ?_
     refine va_get (D := D) (ci := 1) (v := .int (u.1 0)) (C := R_Model) (T := T_Model) (N := 23) hx hb hts in_Model hown hK hP 0 rw_at_0 rfl 0 (by decide) (hts _ (List.mem_cons_of_mem _ kw_835)) (fun _ h9 => h9) rfl d_Model_left_49 ?_
     refine lv_if_ne (tgt := 108) hx hb d_Model_left_52 (by decide) (fun c7 => ?_) (fun c7 => ?_)
     · have h := h.2 c7
       refine lv_iload_n hx hb d_Model_left_108 rfl (lv_at hl 3 rfl) ?_
       exact W.iret (v := x3) hx hb hr (fun t ht hW => ⟨⟨x3, u, rfl, h, by rw [ht]; exact hP, va_K.moved hW.alike hK⟩, hS.F ht⟩) hS.2.2 d_Model_left_109 hlocks
     · have h := h.1 c7
       refine lv_aload_n hx hb d_Model_left_55 rfl (lv_at hl 0 rfl) ?_
       refine va_get (D := D) (ci := 1) (v := .ref (a 4)) (C := R_Model) (T := T_Model) (N := 23) hx hb hts in_Model hown hK hP 0 rw_at_0 rfl 7 (by decide) (hts _ (List.mem_cons_of_mem _ kw_842)) (fun _ h9 => h9) rfl d_Model_left_56 ?_
       refine lv_iload hx hb d_Model_left_59 (lv_at hl 4 rfl) ?_
       refine va_iald hx hb hK hP 4 0 rw_at_4 rfl h.1 d_Model_left_61 ?_
       have h := h.2
       refine lv_aload_n hx hb d_Model_left_62 rfl (lv_at hl 0 rfl) ?_
       refine va_get (D := D) (ci := 1) (v := .ref (a 5)) (C := R_Model) (T := T_Model) (N := 23) hx hb hts in_Model hown hK hP 0 rw_at_0 rfl 9 (by decide) (hts _ (List.mem_cons_of_mem _ kw_844)) (fun _ h9 => h9) rfl d_Model_left_63 ?_
       refine lv_iload_n hx hb d_Model_left_66 rfl (lv_at hl 1 rfl) ?_
       refine va_iald hx hb hK hP 5 0 rw_at_5 rfl h.1 d_Model_left_67 ?_
       have h := h.2
       refine lv_icmp_ne (tgt := 100) hx hb d_Model_left_68 (by decide) (fun c8 => ?_) (fun c8 => ?_)
       · have h := h.2 c8
         refine lv_iload_n hx hb d_Model_left_100 rfl (lv_at hl 3 rfl) ?_
         refine lv_istore_n (lv' := [(3, .int x3), (0, .ref (a 0)), (1, .int x1), (2, .int x2), (4, .int x4)]) hx hb d_Model_left_101 rfl hl (by decide) rfl (fun ls hl => ?_)
         obtain ⟨t9, et9⟩ : ∃ y : Int32, y = x4 + 1 := ⟨_, rfl⟩
         have h := h t9 et9
         refine lv_iinc (v := t9) (lv' := [(4, .int t9), (3, .int x3), (0, .ref (a 0)), (1, .int x1), (2, .int x2)]) hx hb d_Model_left_102 hl (k := 4) rfl (by rw [et9]; rfl) (by decide) rfl (fun ls hl => ?_)
         refine lv_goto (tgt := 34) hx hb d_Model_left_105 (by decide) ?_
         exact ih x1 x2 x3 t9 u _ _ _ hP hS (lv_sub hl [2, 3, 4, 1, 0] rfl) h
       · have h := h.1 c8
         refine lv_aload_n hx hb d_Model_left_71 rfl (lv_at hl 0 rfl) ?_
         refine lv_iload_n hx hb d_Model_left_72 rfl (lv_at hl 1 rfl) ?_
         refine lv_iload hx hb d_Model_left_73 (lv_at hl 4 rfl) ?_
         refine lv_aload_n hx hb d_Model_left_75 rfl (lv_at hl 0 rfl) ?_
         refine va_get (D := D) (ci := 1) (v := .int (G.2.1 0)) (C := R_Model) (T := T_Model) (N := 23) hx hb hts in_Model hown hK hP 0 rw_at_0 rfl 1 (by decide) (hts _ (List.mem_cons_of_mem _ kw_836)) (fun _ h9 => h9) rfl d_Model_left_76 ?_
         refine lv_irem hx hb d_Model_left_79 h.1 ?_
         have h := h.2
         refine lv_iload hx hb d_Model_left_80 (lv_at hl 4 rfl) ?_
         refine lv_aload_n hx hb d_Model_left_82 rfl (lv_at hl 0 rfl) ?_
         refine va_get (D := D) (ci := 1) (v := .int (G.2.1 0)) (C := R_Model) (T := T_Model) (N := 23) hx hb hts in_Model hown hK hP 0 rw_at_0 rfl 1 (by decide) (hts _ (List.mem_cons_of_mem _ kw_836)) (fun _ h9 => h9) rfl d_Model_left_83 ?_
         refine lv_idiv hx hb d_Model_left_86 h.1 ?_
         have h := h.2
         refine lv_iload_n hx hb d_Model_left_87 rfl (lv_at hl 2 rfl) ?_
         refine cc_i (va_runV (As := [.int x1, .int (x4 - x4 / (G.2.1 0) * (G.2.1 0)), .int (x4 / (G.2.1 0)), .int x2]) (rest := []) ⟨hx, hb, hml, hown, hts⟩ (ct_Model_isReached l D a cA cZ G _ x1 (x4 - x4 / (G.2.1 0) * (G.2.1 0)) (x4 / (G.2.1 0)) x2 u _ hI h) (pw_cwV 4 hts kw_1011 kw_57 kw_1008 kw_1010 kw_38 (by decide +kernel) ⟨Nat.le_of_ble_eq_true rfl, Nat.le_of_ble_eq_true rfl⟩) ⟨pw_blind, va_recv hK hP (ci := 1) (q0 := 0) rfl rw_at_0, fun U hU hW => ⟨rfl, by rw [hU], by rw [hU]; exact hP, va_K.moved hW.alike hK⟩⟩ rfl rfl hl.1 rfl (lv_room (Nat.le_of_ble_eq_true rfl)) d_Model_left_88 ⟨Nat.le_of_ble_eq_true rfl, Nat.le_of_ble_eq_true rfl⟩) hS hF hA (fun r11 u10 H locs hP hS h => ?_)
         refine lv_if_ne (tgt := 100) hx hb d_Model_left_91 (by decide) (fun c12 => ?_) (fun c12 => ?_)
         · have h := h.2 c12
           refine lv_iload_n hx hb d_Model_left_100 rfl (lv_at hl 3 rfl) ?_
           refine lv_istore_n (lv' := [(3, .int x3), (0, .ref (a 0)), (1, .int x1), (2, .int x2), (4, .int x4)]) hx hb d_Model_left_101 rfl hl (by decide) rfl (fun ls hl => ?_)
           obtain ⟨t13, et13⟩ : ∃ y : Int32, y = x4 + 1 := ⟨_, rfl⟩
           have h := h t13 et13
           refine lv_iinc (v := t13) (lv' := [(4, .int t13), (3, .int x3), (0, .ref (a 0)), (1, .int x1), (2, .int x2)]) hx hb d_Model_left_102 hl (k := 4) rfl (by rw [et13]; rfl) (by decide) rfl (fun ls hl => ?_)
           refine lv_goto (tgt := 34) hx hb d_Model_left_105 (by decide) ?_
           exact ih x1 x2 x3 t13 u10 _ _ _ hP hS (lv_sub hl [2, 3, 4, 1, 0] rfl) h
         · have h := h.1 c12
           refine lv_iload_n hx hb d_Model_left_94 rfl (lv_at hl 3 rfl) ?_
           refine lv_iconst (v := 1) hx hb d_Model_left_95 (by decide) ?_
           refine lv_iadd hx hb d_Model_left_96 ?_
           refine lv_goto (tgt := 101) hx hb d_Model_left_97 (by decide) ?_
           refine lv_topi (fun t14 et14 => ?_)
           have h := h t14 et14
           refine lv_istore_n (lv' := [(3, .int t14), (0, .ref (a 0)), (1, .int x1), (2, .int x2), (4, .int x4)]) hx hb d_Model_left_101 rfl hl (by decide) rfl (fun ls hl => ?_)
           obtain ⟨t15, et15⟩ : ∃ y : Int32, y = x4 + 1 := ⟨_, rfl⟩
           have h := h t15 et15
           refine lv_iinc (v := t15) (lv' := [(4, .int t15), (3, .int t14), (0, .ref (a 0)), (1, .int x1), (2, .int x2)]) hx hb d_Model_left_102 hl (k := 4) rfl (by rw [et15]; rfl) (by decide) rfl (fun ls hl => ?_)
           refine lv_goto (tgt := 34) hx hb d_Model_left_105 (by decide) ?_
           exact ih x1 x2 t14 t15 u10 _ _ _ hP hS (lv_sub hl [2, 3, 4, 1, 0] rfl) h
set_option maxHeartbeats 4000000 in
set_option maxRecDepth 100000 in
theorem st_Model_left {p : Program} {l : Launch} {e : Env} {s : State} {m : MethodId} {args : Array Value} {below : List Frame} {meth : Method} {c : Code} {D : va_G} {a : Nat → Nat} {cA cZ : ClassId} {G : pG} {A : Nat → Prop} {Q : Int32 → pS → Prop} (C : pw_C p s m args meth c b_Model_left 5 R_Model (some .int) w_Model_left A) (K : pw_K s D 15 a (rT cA cZ) A) (x1 x2 : Int32) (u : pS) (ls : Array Slot) (hP : va_P D vwCl (rw a cA cZ G u) s.heap) (hl : lv_has ls 5 [(0, .ref (a 0)), (1, .int x1), (2, .int x2)]) (h : wp_Model_left G x1 x2 u Q) : W p l e ({ frames := 4, cells := 0, slots := 0, locals := 99 } : Room) s m args below meth c s.heap [] 0 0 (pw_Ei below args s D (rw a cA cZ G) (rT cA cZ) A Q) (F0 m 0 ls []) := by
 obtain ⟨hx, hb, hr, hml, hown, hts, hlocks, hA⟩ := id C
 obtain ⟨hK, hI, hF⟩ := id K
 have hD : ∀ u, va_D A (rw a cA cZ G u) := fun u => rw_D hI hF
 have hS : va_S A s.heap s.heap [] := va_S.rf
 have h : wp_Model_left G x1 x2 u Q := h
 refine lv_aload_n hx hb d_Model_left_0 rfl (lv_at hl 0 rfl) ?_
 refine lv_iload_n hx hb d_Model_left_1 rfl (lv_at hl 1 rfl) ?_
 refine cc_i (va_runV (As := [.int x1]) (rest := []) ⟨hx, hb, hml, hown, hts⟩ (ct_Model_noPiece l D a cA cZ G _ x1 u _ hI h) (pw_cwV 1 hts kw_971 kw_57 kw_968 kw_970 kw_32 (by decide +kernel) ⟨Nat.le_of_ble_eq_true rfl, Nat.le_of_ble_eq_true rfl⟩) ⟨pw_blind, va_recv hK hP (ci := 1) (q0 := 0) rfl rw_at_0, fun U hU hW => ⟨rfl, by rw [hU], by rw [hU]; exact hP, va_K.moved hW.alike hK⟩⟩ rfl rfl hl.1 rfl (lv_room (Nat.le_of_ble_eq_true rfl)) d_Model_left_2 ⟨Nat.le_of_ble_eq_true rfl, Nat.le_of_ble_eq_true rfl⟩) hS hF hA (fun r2 u1 H locs hP hS h => ?_)
 refine lv_if_eq (tgt := 10) hx hb d_Model_left_5 (by decide) (fun c3 => ?_) (fun c3 => ?_)
 · have h := h.1 c3
   refine lv_aload_n hx hb d_Model_left_10 rfl (lv_at hl 0 rfl) ?_
   refine lv_iload_n hx hb d_Model_left_11 rfl (lv_at hl 2 rfl) ?_
   refine lv_if_lt (tgt := 25) hx hb d_Model_left_12 (by decide) (fun c4 => ?_) (fun c4 => ?_)
   · have h := h.1 c4
     refine lv_iconst (v := 3) hx hb d_Model_left_25 (by decide) ?_
     refine va_put (D := D) (ci := 1) (v := .int 3) (ty := .int) (C := R_Model) (T := T_Model) (N := 23) hx hb hts in_Model ty_Model tyok_Model nm_Model hown hK hP (hD _) hS 0 rw_at_0 rfl 0 (by decide) (hts _ (List.mem_cons_of_mem _ kw_835)) (fun _ h9 => h9) rfl (by decide +kernel) rfl rfl (Nat.le_of_ble_eq_true rfl) d_Model_left_26 (fun H locs hP _ hS => ?_)
     obtain ⟨u5, eu5⟩ : ∃ z, z = pw_si u1 0 3 := ⟨_, rfl⟩
     rw [rw_si_0_0, ← eu5] at hP
     have h := h u5 eu5
     refine lv_iconst (v := 0) hx hb d_Model_left_29 (by decide) ?_
     refine lv_istore_n (lv' := [(3, .int 0), (0, .ref (a 0)), (1, .int x1), (2, .int x2)]) hx hb d_Model_left_30 rfl hl (by decide) rfl (fun ls hl => ?_)
     refine lv_iconst (v := 0) hx hb d_Model_left_31 (by decide) ?_
     refine lv_istore (lv' := [(4, .int 0), (3, .int 0), (0, .ref (a 0)), (1, .int x1), (2, .int x2)]) hx hb d_Model_left_32 hl (by decide) rfl (fun ls hl => ?_)
     obtain ⟨n1, h⟩ := h
     exact cp_Model_left_34 C K n1 x1 x2 0 0 u5 _ _ _ hP hS (lv_sub hl [2, 3, 4, 1, 0] rfl) h
   · have h := h.2 c4
     refine lv_iload_n hx hb d_Model_left_15 rfl (lv_at hl 2 rfl) ?_
     refine lv_bipush (v := 10) hx hb d_Model_left_16 (by decide) ?_
     refine lv_icmp_gt (tgt := 25) hx hb d_Model_left_18 (by decide) (fun c16 => ?_) (fun c16 => ?_)
     · have h := h.1 c16
       refine lv_iconst (v := 3) hx hb d_Model_left_25 (by decide) ?_
       refine va_put (D := D) (ci := 1) (v := .int 3) (ty := .int) (C := R_Model) (T := T_Model) (N := 23) hx hb hts in_Model ty_Model tyok_Model nm_Model hown hK hP (hD _) hS 0 rw_at_0 rfl 0 (by decide) (hts _ (List.mem_cons_of_mem _ kw_835)) (fun _ h9 => h9) rfl (by decide +kernel) rfl rfl (Nat.le_of_ble_eq_true rfl) d_Model_left_26 (fun H locs hP _ hS => ?_)
       obtain ⟨u17, eu17⟩ : ∃ z, z = pw_si u1 0 3 := ⟨_, rfl⟩
       rw [rw_si_0_0, ← eu17] at hP
       have h := h u17 eu17
       refine lv_iconst (v := 0) hx hb d_Model_left_29 (by decide) ?_
       refine lv_istore_n (lv' := [(3, .int 0), (0, .ref (a 0)), (1, .int x1), (2, .int x2)]) hx hb d_Model_left_30 rfl hl (by decide) rfl (fun ls hl => ?_)
       refine lv_iconst (v := 0) hx hb d_Model_left_31 (by decide) ?_
       refine lv_istore (lv' := [(4, .int 0), (3, .int 0), (0, .ref (a 0)), (1, .int x1), (2, .int x2)]) hx hb d_Model_left_32 hl (by decide) rfl (fun ls hl => ?_)
       obtain ⟨n1, h⟩ := h
       exact cp_Model_left_34 C K n1 x1 x2 0 0 u17 _ _ _ hP hS (lv_sub hl [2, 3, 4, 1, 0] rfl) h
     · have h := h.2 c16
       refine lv_iconst (v := 0) hx hb d_Model_left_21 (by decide) ?_
       refine lv_goto (tgt := 26) hx hb d_Model_left_22 (by decide) ?_
       refine va_put (D := D) (ci := 1) (v := .int 0) (ty := .int) (C := R_Model) (T := T_Model) (N := 23) hx hb hts in_Model ty_Model tyok_Model nm_Model hown hK hP (hD _) hS 0 rw_at_0 rfl 0 (by decide) (hts _ (List.mem_cons_of_mem _ kw_835)) (fun _ h9 => h9) rfl (by decide +kernel) rfl rfl (Nat.le_of_ble_eq_true rfl) d_Model_left_26 (fun H locs hP _ hS => ?_)
       obtain ⟨u18, eu18⟩ : ∃ z, z = pw_si u1 0 0 := ⟨_, rfl⟩
       rw [rw_si_0_0, ← eu18] at hP
       have h := h u18 eu18
       refine lv_iconst (v := 0) hx hb d_Model_left_29 (by decide) ?_
       refine lv_istore_n (lv' := [(3, .int 0), (0, .ref (a 0)), (1, .int x1), (2, .int x2)]) hx hb d_Model_left_30 rfl hl (by decide) rfl (fun ls hl => ?_)
       refine lv_iconst (v := 0) hx hb d_Model_left_31 (by decide) ?_
       refine lv_istore (lv' := [(4, .int 0), (3, .int 0), (0, .ref (a 0)), (1, .int x1), (2, .int x2)]) hx hb d_Model_left_32 hl (by decide) rfl (fun ls hl => ?_)
       obtain ⟨n1, h⟩ := h
       exact cp_Model_left_34 C K n1 x1 x2 0 0 u18 _ _ _ hP hS (lv_sub hl [2, 3, 4, 1, 0] rfl) h
 · have h := h.2 c3
   refine lv_iconst (v := 0) hx hb d_Model_left_8 (by decide) ?_
   exact W.iret (v := 0) hx hb hr (fun t ht hW => ⟨⟨0, u1, rfl, h, by rw [ht]; exact hP, va_K.moved hW.alike hK⟩, hS.F ht⟩) hS.2.2 d_Model_left_9 hlocks
set_option maxHeartbeats 4000000 in
set_option maxRecDepth 100000 in
theorem ct_Model_left (l : Launch) (D : va_G) (a : Nat → Nat) (cA cZ : ClassId) (G : pG) (sz : Nat) (x1 x2 : Int32) (u : pS) (Q : Int32 → pS → Prop) (hI : pw_I 15 a) (h : wp_Model_left G x1 x2 u Q) : Met l y_Model_left w_Model_left ({ frames := 4, cells := 0, slots := 0, locals := 99 } : Room) (va_Pc [.ref (a 0), .int x1, .int x2] (pw_pre D (rw a cA cZ G) (rT cA cZ) sz u)) (va_Qi (fun (r : Int32) (u : pS) => Q r u) (pw_B D (rw a cA cZ G) (rT cA cZ)) (pw_F 15 a sz)) 0 0 (pw_F 15 a sz) := by
 refine Met.ofW (cc := b_Model_left) (maxL := 5) (ret := (some .int)) (by decide) rfl ?_
 intro p e s m args below meth c s₁ B hml hv
 obtain ⟨rfl, hsz, hP, hK⟩ := hv
 subst hsz
 have hl := lv_entry ([.ref (a 0), .int x1, .int x2]) (n := 5) (Nat.le_of_ble_eq_true rfl)
 rw [lg_entry_eq]
 generalize (lg_sl ([.ref (a 0), .int x1, .int x2]) ++ List.replicate (5 - (lg_sl ([.ref (a 0), .int x1, .int x2])).length) Slot.unset).toArray = ls at hl ⊢
 exact st_Model_left (A := (pw_F 15 a s.heap.size)) ⟨B.exec, B.bytes, B.returns, hml, findClass_of_methodNamed B.named, atoms_spec (ws := w_Model_left) B.pre, B.notSynchronized, fun q hq => Or.inr hq⟩ ⟨hK, hI, fun k hk => Or.inl ⟨k, hk, rfl⟩⟩ x1 x2 u ls hP hl h
