set_option maxHeartbeats 4000000 in
set_option maxRecDepth 100000 in
theorem st_Model_isAtEdge {p : Program} {l : Launch} {e : Env} {s : State} {m : MethodId} {args : Array Value} {below : List Frame} {meth : Method} {c : Code} {D : va_G} {a : Nat → Nat} {cA cZ : ClassId} {G : pG} {A : Nat → Prop} {Q : Int32 → pS → Prop} (C : pw_C p s m args meth c b_Model_isAtEdge 2 R_Model (some .boolean) w_Model_isAtEdge A) (K : pw_K s D 15 a (rT cA cZ) A) (x1 : Int32) (u : pS) (ls : Array Slot) (hP : va_P D vwCl (rw a cA cZ G u) s.heap) (hl : lv_has ls 2 [(0, .ref (a 0)), (1, .int x1)]) (h : wp_Model_isAtEdge G x1 u Q) : W p l e ({ frames := 1, cells := 0, slots := 0, locals := 25 } : Room) s m args below meth c s.heap [] 0 0 (pw_Ei below args s D (rw a cA cZ G) (rT cA cZ) A Q) (F0 m 0 ls []) := by
 obtain ⟨hx, hb, hr, hml, hown, hts, hlocks, hA⟩ := id C
 obtain ⟨hK, hI, hF⟩ := id K
 have hD : ∀ u, va_D A (rw a cA cZ G u) := fun u => rw_D hI hF
 have hS : va_S A s.heap s.heap [] := va_S.rf
 have h : wp_Model_isAtEdge G x1 u Q := h
 refine lv_aload_n hx hb d_Model_isAtEdge_0 rfl (lv_at hl 0 rfl) ?_
 refine lv_iload_n hx hb d_Model_isAtEdge_1 rfl (lv_at hl 1 rfl) ?_
 refine lv_iconst (v := 0) hx hb d_Model_isAtEdge_2 (by decide) ?_
 refine cc_i (va_runV (As := [.int x1, .int 0]) (rest := []) ⟨hx, hb, hml, hown, hts⟩ (ct_Model_end l D a cA cZ G _ x1 0 u _ hI h) (pw_cwV 2 hts kw_975 kw_57 kw_972 kw_974 kw_33 (by decide +kernel) ⟨Nat.le_of_ble_eq_true rfl, Nat.le_of_ble_eq_true rfl⟩) ⟨pw_blind, va_recv hK hP (ci := 1) (q0 := 0) rfl rw_at_0, fun U hU hW => ⟨rfl, by rw [hU], by rw [hU]; exact hP, va_K.moved hW.alike hK⟩⟩ rfl rfl hl.1 rfl (lv_room (Nat.le_of_ble_eq_true rfl)) d_Model_isAtEdge_3 ⟨Nat.le_of_ble_eq_true rfl, Nat.le_of_ble_eq_true rfl⟩) hS hF hA (fun r2 u1 H locs hP hS h => ?_)
 refine lv_if_eq (tgt := 48) hx hb d_Model_isAtEdge_6 (by decide) (fun c3 => ?_) (fun c3 => ?_)
 · have h := h.1 c3
   refine lv_iconst (v := 1) hx hb d_Model_isAtEdge_48 (by decide) ?_
   refine lv_goto (tgt := 53) hx hb d_Model_isAtEdge_49 (by decide) ?_
   exact W.zret (v := 1) hx hb hr rfl (fun t ht hW => ⟨⟨1, u1, rfl, h, by rw [ht]; exact hP, va_K.moved hW.alike hK⟩, hS.F ht⟩) hS.2.2 d_Model_isAtEdge_53 hlocks
 · have h := h.2 c3
   refine lv_aload_n hx hb d_Model_isAtEdge_9 rfl (lv_at hl 0 rfl) ?_
   refine lv_iload_n hx hb d_Model_isAtEdge_10 rfl (lv_at hl 1 rfl) ?_
   refine lv_iconst (v := 1) hx hb d_Model_isAtEdge_11 (by decide) ?_
   refine cc_i (va_runV (As := [.int x1, .int 1]) (rest := []) ⟨hx, hb, hml, hown, hts⟩ (ct_Model_end l D a cA cZ G _ x1 1 u1 _ hI h) (pw_cwV 2 hts kw_975 kw_57 kw_972 kw_974 kw_33 (by decide +kernel) ⟨Nat.le_of_ble_eq_true rfl, Nat.le_of_ble_eq_true rfl⟩) ⟨pw_blind, va_recv hK hP (ci := 1) (q0 := 0) rfl rw_at_0, fun U hU hW => ⟨rfl, by rw [hU], by rw [hU]; exact hP, va_K.moved hW.alike hK⟩⟩ rfl rfl hl.1 rfl (lv_room (Nat.le_of_ble_eq_true rfl)) d_Model_isAtEdge_12 ⟨Nat.le_of_ble_eq_true rfl, Nat.le_of_ble_eq_true rfl⟩) hS hF hA (fun r5 u4 H locs hP hS h => ?_)
   refine lv_if_eq (tgt := 48) hx hb d_Model_isAtEdge_15 (by decide) (fun c6 => ?_) (fun c6 => ?_)
   · have h := h.1 c6
     refine lv_iconst (v := 1) hx hb d_Model_isAtEdge_48 (by decide) ?_
     refine lv_goto (tgt := 53) hx hb d_Model_isAtEdge_49 (by decide) ?_
     exact W.zret (v := 1) hx hb hr rfl (fun t ht hW => ⟨⟨1, u4, rfl, h, by rw [ht]; exact hP, va_K.moved hW.alike hK⟩, hS.F ht⟩) hS.2.2 d_Model_isAtEdge_53 hlocks
   · have h := h.2 c6
     refine lv_aload_n hx hb d_Model_isAtEdge_18 rfl (lv_at hl 0 rfl) ?_
     refine lv_iload_n hx hb d_Model_isAtEdge_19 rfl (lv_at hl 1 rfl) ?_
     refine lv_iconst (v := 2) hx hb d_Model_isAtEdge_20 (by decide) ?_
     refine cc_i (va_runV (As := [.int x1, .int 2]) (rest := []) ⟨hx, hb, hml, hown, hts⟩ (ct_Model_end l D a cA cZ G _ x1 2 u4 _ hI h) (pw_cwV 2 hts kw_975 kw_57 kw_972 kw_974 kw_33 (by decide +kernel) ⟨Nat.le_of_ble_eq_true rfl, Nat.le_of_ble_eq_true rfl⟩) ⟨pw_blind, va_recv hK hP (ci := 1) (q0 := 0) rfl rw_at_0, fun U hU hW => ⟨rfl, by rw [hU], by rw [hU]; exact hP, va_K.moved hW.alike hK⟩⟩ rfl rfl hl.1 rfl (lv_room (Nat.le_of_ble_eq_true rfl)) d_Model_isAtEdge_21 ⟨Nat.le_of_ble_eq_true rfl, Nat.le_of_ble_eq_true rfl⟩) hS hF hA (fun r8 u7 H locs hP hS h => ?_)
     refine lv_aload_n hx hb d_Model_isAtEdge_24 rfl (lv_at hl 0 rfl) ?_
     refine va_get (D := D) (ci := 1) (v := .int (G.2.1 0)) (C := R_Model) (T := T_Model) (N := 23) hx hb hts in_Model hown hK hP 0 rw_at_0 rfl 1 (by decide) (hts _ (List.mem_cons_of_mem _ kw_836)) (fun _ h9 => h9) rfl d_Model_isAtEdge_25 ?_
     refine lv_iconst (v := 1) hx hb d_Model_isAtEdge_28 (by decide) ?_
     refine lv_isub hx hb d_Model_isAtEdge_29 ?_
     refine lv_icmp_eq (tgt := 48) hx hb d_Model_isAtEdge_30 (by decide) (fun c9 => ?_) (fun c9 => ?_)
     · have h := h.1 c9
       refine lv_iconst (v := 1) hx hb d_Model_isAtEdge_48 (by decide) ?_
       refine lv_goto (tgt := 53) hx hb d_Model_isAtEdge_49 (by decide) ?_
       exact W.zret (v := 1) hx hb hr rfl (fun t ht hW => ⟨⟨1, u7, rfl, h, by rw [ht]; exact hP, va_K.moved hW.alike hK⟩, hS.F ht⟩) hS.2.2 d_Model_isAtEdge_53 hlocks
     · have h := h.2 c9
       refine lv_aload_n hx hb d_Model_isAtEdge_33 rfl (lv_at hl 0 rfl) ?_
       refine lv_iload_n hx hb d_Model_isAtEdge_34 rfl (lv_at hl 1 rfl) ?_
       refine lv_iconst (v := 3) hx hb d_Model_isAtEdge_35 (by decide) ?_
       refine cc_i (va_runV (As := [.int x1, .int 3]) (rest := []) ⟨hx, hb, hml, hown, hts⟩ (ct_Model_end l D a cA cZ G _ x1 3 u7 _ hI h) (pw_cwV 2 hts kw_975 kw_57 kw_972 kw_974 kw_33 (by decide +kernel) ⟨Nat.le_of_ble_eq_true rfl, Nat.le_of_ble_eq_true rfl⟩) ⟨pw_blind, va_recv hK hP (ci := 1) (q0 := 0) rfl rw_at_0, fun U hU hW => ⟨rfl, by rw [hU], by rw [hU]; exact hP, va_K.moved hW.alike hK⟩⟩ rfl rfl hl.1 rfl (lv_room (Nat.le_of_ble_eq_true rfl)) d_Model_isAtEdge_36 ⟨Nat.le_of_ble_eq_true rfl, Nat.le_of_ble_eq_true rfl⟩) hS hF hA (fun r11 u10 H locs hP hS h => ?_)
       refine lv_aload_n hx hb d_Model_isAtEdge_39 rfl (lv_at hl 0 rfl) ?_
       refine va_get (D := D) (ci := 1) (v := .int (G.2.1 1)) (C := R_Model) (T := T_Model) (N := 23) hx hb hts in_Model hown hK hP 0 rw_at_0 rfl 2 (by decide) (hts _ (List.mem_cons_of_mem _ kw_837)) (fun _ h9 => h9) rfl d_Model_isAtEdge_40 ?_
       refine lv_iconst (v := 1) hx hb d_Model_isAtEdge_43 (by decide) ?_
       refine lv_isub hx hb d_Model_isAtEdge_44 ?_
       refine lv_icmp_ne (tgt := 52) hx hb d_Model_isAtEdge_45 (by decide) (fun c12 => ?_) (fun c12 => ?_)
       · have h := h.2 c12
         refine lv_iconst (v := 0) hx hb d_Model_isAtEdge_52 (by decide) ?_
         exact W.zret (v := 0) hx hb hr rfl (fun t ht hW => ⟨⟨0, u10, rfl, h, by rw [ht]; exact hP, va_K.moved hW.alike hK⟩, hS.F ht⟩) hS.2.2 d_Model_isAtEdge_53 hlocks
       · have h := h.1 c12
         refine lv_iconst (v := 1) hx hb d_Model_isAtEdge_48 (by decide) ?_
         refine lv_goto (tgt := 53) hx hb d_Model_isAtEdge_49 (by decide) ?_
         exact W.zret (v := 1) hx hb hr rfl (fun t ht hW => ⟨⟨1, u10, rfl, h, by rw [ht]; exact hP, va_K.moved hW.alike hK⟩, hS.F ht⟩) hS.2.2 d_Model_isAtEdge_53 hlocks
set_option maxHeartbeats 4000000 in
set_option maxRecDepth 100000 in
theorem ct_Model_isAtEdge (l : Launch) (D : va_G) (a : Nat → Nat) (cA cZ : ClassId) (G : pG) (sz : Nat) (x1 : Int32) (u : pS) (Q : Int32 → pS → Prop) (hI : pw_I 15 a) (h : wp_Model_isAtEdge G x1 u Q) : Met l y_Model_isAtEdge w_Model_isAtEdge ({ frames := 1, cells := 0, slots := 0, locals := 25 } : Room) (va_Pc [.ref (a 0), .int x1] (pw_pre D (rw a cA cZ G) (rT cA cZ) sz u)) (va_Qi (fun (r : Int32) (u : pS) => Q r u) (pw_B D (rw a cA cZ G) (rT cA cZ)) (pw_F 15 a sz)) 0 0 (pw_F 15 a sz) := by
 refine Met.ofW (cc := b_Model_isAtEdge) (maxL := 2) (ret := (some .boolean)) (by decide) rfl ?_
 intro p e s m args below meth c s₁ B hml hv
 obtain ⟨rfl, hsz, hP, hK⟩ := hv
 subst hsz
 have hl := lv_entry ([.ref (a 0), .int x1]) (n := 2) (Nat.le_of_ble_eq_true rfl)
 rw [lg_entry_eq]
 generalize (lg_sl ([.ref (a 0), .int x1]) ++ List.replicate (2 - (lg_sl ([.ref (a 0), .int x1])).length) Slot.unset).toArray = ls at hl ⊢
 exact st_Model_isAtEdge (A := (pw_F 15 a s.heap.size)) ⟨B.exec, B.bytes, B.returns, hml, findClass_of_methodNamed B.named, atoms_spec (ws := w_Model_isAtEdge) B.pre, B.notSynchronized, fun q hq => Or.inr hq⟩ ⟨hK, hI, fun k hk => Or.inl ⟨k, hk, rfl⟩⟩ x1 u ls hP hl h
set_option maxHeartbeats 4000000 in
set_option maxRecDepth 100000 in
theorem cp_Model_piece_25 {p : Program} {l : Launch} {e : Env} {s : State} {m : MethodId} {args : Array Value} {below : List Frame} {meth : Method} {c : Code} {D : va_G} {a : Nat → Nat} {cA cZ : ClassId} {G : pG} {A : Nat → Prop} {Q : Int32 → pS → Prop} (C : pw_C p s m args meth c b_Model_piece 3 R_Model (some .int) w_Model_piece A) (K : pw_K s D 15 a (rT cA cZ) A) {k26 : Int32 → Int32 → Int32 → pS → Prop} (hk26 : ∀ (x1 x2 y3 : Int32) (u : pS) (H : Heap) (locs : List Loc) (ls : Array Slot), va_P D vwCl (rw a cA cZ G u) H → va_S A s.heap H locs → lv_has ls 3 [(0, .ref (a 0)), (1, .int x1), (2, .int x2)] → k26 x1 x2 y3 u → W p l e ({ frames := 2, cells := 0, slots := 0, locals := 46 } : Room) s m args below meth c H locs 0 0 (pw_Ei below args s D (rw a cA cZ G) (rT cA cZ) A Q) (F0 m 26 ls [.int y3, .ref (a 0)])) : ∀ (x1 x2 : Int32) (u : pS) (H : Heap) (locs : List Loc) (ls : Array Slot), va_P D vwCl (rw a cA cZ G u) H → va_S A s.heap H locs → lv_has ls 3 [(0, .ref (a 0)), (1, .int x1), (2, .int x2)] → jn_Model_piece_25 G Q k26 x1 x2 u → W p l e ({ frames := 2, cells := 0, slots := 0, locals := 46 } : Room) s m args below meth c H locs 0 0 (pw_Ei below args s D (rw a cA cZ G) (rT cA cZ) A Q) (F0 m 25 ls [.ref (a 0)]) := by
 obtain ⟨hx, hb, hr, hml, hown, hts, hlocks, hA⟩ := id C
 obtain ⟨hK, hI, hF⟩ := id K
 have hD : ∀ u, va_D A (rw a cA cZ G u) := fun u => rw_D hI hF
 intro x1 x2 u H locs ls hP hS hl h
 refine lv_iconst (v := 3) hx hb d_Model_piece_25 (by decide) ?_
 exact hk26 x1 x2 3 u _ _ _ hP hS (lv_sub hl [0, 1, 2] rfl) h
set_option maxHeartbeats 4000000 in
set_option maxRecDepth 100000 in
theorem cp_Model_piece_26 {p : Program} {l : Launch} {e : Env} {s : State} {m : MethodId} {args : Array Value} {below : List Frame} {meth : Method} {c : Code} {D : va_G} {a : Nat → Nat} {cA cZ : ClassId} {G : pG} {A : Nat → Prop} {Q : Int32 → pS → Prop} (C : pw_C p s m args meth c b_Model_piece 3 R_Model (some .int) w_Model_piece A) (K : pw_K s D 15 a (rT cA cZ) A) : ∀ (x1 x2 y3 : Int32) (u : pS) (H : Heap) (locs : List Loc) (ls : Array Slot), va_P D vwCl (rw a cA cZ G u) H → va_S A s.heap H locs → lv_has ls 3 [(0, .ref (a 0)), (1, .int x1), (2, .int x2)] → jn_Model_piece_26 G Q x1 x2 y3 u → W p l e ({ frames := 2, cells := 0, slots := 0, locals := 46 } : Room) s m args below meth c H locs 0 0 (pw_Ei below args s D (rw a cA cZ G) (rT cA cZ) A Q) (F0 m 26 ls [.int y3, .ref (a 0)]) := by
 obtain ⟨hx, hb, hr, hml, hown, hts, hlocks, hA⟩ := id C
 obtain ⟨hK, hI, hF⟩ := id K
 have hD : ∀ u, va_D A (rw a cA cZ G u) := fun u => rw_D hI hF
 intro x1 x2 y3 u H locs ls hP hS hl h
 refine va_put (D := D) (ci := 1) (v := .int y3) (ty := .int) (C := R_Model) (T := T_Model) (N := 23) hx hb hts in_Model ty_Model tyok_Model nm_Model hown hK hP (hD _) hS 0 rw_at_0 rfl 0 (by decide) (hts _ (List.mem_cons_of_mem _ kw_835)) (fun _ h9 => h9) rfl (by decide +kernel) rfl rfl (Nat.le_of_ble_eq_true rfl) d_Model_piece_26 (fun H locs hP _ hS => ?_)
 obtain ⟨u5, eu5⟩ : ∃ z, z = pw_si u 0 y3 := ⟨_, rfl⟩
 rw [rw_si_0_0, ← eu5] at hP
 have h := h u5 eu5
 refine lv_aload_n hx hb d_Model_piece_29 rfl (lv_at hl 0 rfl) ?_
 refine va_get (D := D) (ci := 1) (v := .int (u5.1 0)) (C := R_Model) (T := T_Model) (N := 23) hx hb hts in_Model hown hK hP 0 rw_at_0 rfl 0 (by decide) (hts _ (List.mem_cons_of_mem _ kw_835)) (fun _ h9 => h9) rfl d_Model_piece_30 ?_
 refine lv_if_le (tgt := 38) hx hb d_Model_piece_33 (by decide) (fun c6 => ?_) (fun c6 => ?_)
 · have h := h.1 c6
   refine lv_iload_n hx hb d_Model_piece_38 rfl (lv_at hl 2 rfl) ?_
   refine lv_iconst (v := 2) hx hb d_Model_piece_39 (by decide) ?_
   refine lv_icmp_ge (tgt := 73) hx hb d_Model_piece_40 (by decide) (fun c7 => ?_) (fun c7 => ?_)
   · have h := h.1 c7
     refine lv_iload_n hx hb d_Model_piece_73 rfl (lv_at hl 2 rfl) ?_
     refine lv_iconst (v := 4) hx hb d_Model_piece_74 (by decide) ?_
     refine lv_icmp_ge (tgt := 87) hx hb d_Model_piece_75 (by decide) (fun c8 => ?_) (fun c8 => ?_)
     · have h := h.1 c8
       refine lv_iload_n hx hb d_Model_piece_87 rfl (lv_at hl 2 rfl) ?_
       refine lv_iconst (v := 4) hx hb d_Model_piece_88 (by decide) ?_
       refine lv_icmp_ne (tgt := 110) hx hb d_Model_piece_89 (by decide) (fun c9 => ?_) (fun c9 => ?_)
       · have h := h.2 c9
         refine lv_iload_n hx hb d_Model_piece_110 rfl (lv_at hl 2 rfl) ?_
         refine lv_iconst (v := 5) hx hb d_Model_piece_111 (by decide) ?_
         refine lv_icmp_ne (tgt := 133) hx hb d_Model_piece_112 (by decide) (fun c10 => ?_) (fun c10 => ?_)
         · have h := h.2 c10
           refine lv_aload_n hx hb d_Model_piece_133 rfl (lv_at hl 0 rfl) ?_
           refine lv_iload_n hx hb d_Model_piece_134 rfl (lv_at hl 1 rfl) ?_
           refine cc_i (va_runV (As := [.int x1]) (rest := []) ⟨hx, hb, hml, hown, hts⟩ (ct_Model_isAtEdge l D a cA cZ G _ x1 u5 _ hI h) (pw_cwV 1 hts kw_979 kw_57 kw_976 kw_978 kw_34 (by decide +kernel) ⟨Nat.le_of_ble_eq_true rfl, Nat.le_of_ble_eq_true rfl⟩) ⟨pw_blind, va_recv hK hP (ci := 1) (q0 := 0) rfl rw_at_0, fun U hU hW => ⟨rfl, by rw [hU], by rw [hU]; exact hP, va_K.moved hW.alike hK⟩⟩ rfl rfl hl.1 rfl (lv_room (Nat.le_of_ble_eq_true rfl)) d_Model_piece_135 ⟨Nat.le_of_ble_eq_true rfl, Nat.le_of_ble_eq_true rfl⟩) hS hF hA (fun r12 u11 H locs hP hS h => ?_)
           refine lv_if_eq (tgt := 145) hx hb d_Model_piece_138 (by decide) (fun c13 => ?_) (fun c13 => ?_)
           · have h := h.1 c13
             refine lv_iconst (v := 0) hx hb d_Model_piece_145 (by decide) ?_
             exact W.iret (v := 0) hx hb hr (fun t ht hW => ⟨⟨0, u11, rfl, h, by rw [ht]; exact hP, va_K.moved hW.alike hK⟩, hS.F ht⟩) hS.2.2 d_Model_piece_146 hlocks
           · have h := h.2 c13
             refine lv_iconst (v := 1) hx hb d_Model_piece_141 (by decide) ?_
             refine lv_goto (tgt := 146) hx hb d_Model_piece_142 (by decide) ?_
             exact W.iret (v := 1) hx hb hr (fun t ht hW => ⟨⟨1, u11, rfl, h, by rw [ht]; exact hP, va_K.moved hW.alike hK⟩, hS.F ht⟩) hS.2.2 d_Model_piece_146 hlocks
         · have h := h.1 c10
           refine lv_aload_n hx hb d_Model_piece_115 rfl (lv_at hl 0 rfl) ?_
           refine lv_iload_n hx hb d_Model_piece_116 rfl (lv_at hl 1 rfl) ?_
           refine lv_iconst (v := 3) hx hb d_Model_piece_117 (by decide) ?_
           refine cc_i (va_runV (As := [.int x1, .int 3]) (rest := []) ⟨hx, hb, hml, hown, hts⟩ (ct_Model_end l D a cA cZ G _ x1 3 u5 _ hI h) (pw_cwV 2 hts kw_975 kw_57 kw_972 kw_974 kw_33 (by decide +kernel) ⟨Nat.le_of_ble_eq_true rfl, Nat.le_of_ble_eq_true rfl⟩) ⟨pw_blind, va_recv hK hP (ci := 1) (q0 := 0) rfl rw_at_0, fun U hU hW => ⟨rfl, by rw [hU], by rw [hU]; exact hP, va_K.moved hW.alike hK⟩⟩ rfl rfl hl.1 rfl (lv_room (Nat.le_of_ble_eq_true rfl)) d_Model_piece_118 ⟨Nat.le_of_ble_eq_true rfl, Nat.le_of_ble_eq_true rfl⟩) hS hF hA (fun r15 u14 H locs hP hS h => ?_)
           refine lv_aload_n hx hb d_Model_piece_121 rfl (lv_at hl 0 rfl) ?_
           refine lv_iload_n hx hb d_Model_piece_122 rfl (lv_at hl 1 rfl) ?_
           refine lv_iconst (v := 1) hx hb d_Model_piece_123 (by decide) ?_
           refine cc_i (va_runV (As := [.int x1, .int 1]) (rest := [.int r15]) ⟨hx, hb, hml, hown, hts⟩ (ct_Model_end l D a cA cZ G _ x1 1 u14 _ hI h) (pw_cwV 2 hts kw_975 kw_57 kw_972 kw_974 kw_33 (by decide +kernel) ⟨Nat.le_of_ble_eq_true rfl, Nat.le_of_ble_eq_true rfl⟩) ⟨pw_blind, va_recv hK hP (ci := 1) (q0 := 0) rfl rw_at_0, fun U hU hW => ⟨rfl, by rw [hU], by rw [hU]; exact hP, va_K.moved hW.alike hK⟩⟩ rfl rfl hl.1 rfl (lv_room (Nat.le_of_ble_eq_true rfl)) d_Model_piece_124 ⟨Nat.le_of_ble_eq_true rfl, Nat.le_of_ble_eq_true rfl⟩) hS hF hA (fun r17 u16 H locs hP hS h => ?_)
           refine lv_isub hx hb d_Model_piece_127 ?_
           refine lv_iconst (v := 1) hx hb d_Model_piece_128 (by decide) ?_
           refine lv_iadd hx hb d_Model_piece_129 ?_
           refine lv_goto (tgt := 146) hx hb d_Model_piece_130 (by decide) ?_
           exact W.iret (v := ((r15 - r17) + 1)) hx hb hr (fun t ht hW => ⟨⟨((r15 - r17) + 1), u16, rfl, h, by rw [ht]; exact hP, va_K.moved hW.alike hK⟩, hS.F ht⟩) hS.2.2 d_Model_piece_146 hlocks
       · have h := h.1 c9
         refine lv_aload_n hx hb d_Model_piece_92 rfl (lv_at hl 0 rfl) ?_
         refine lv_iload_n hx hb d_Model_piece_93 rfl (lv_at hl 1 rfl) ?_
         refine lv_iconst (v := 2) hx hb d_Model_piece_94 (by decide) ?_
         refine cc_i (va_runV (As := [.int x1, .int 2]) (rest := []) ⟨hx, hb, hml, hown, hts⟩ (ct_Model_end l D a cA cZ G _ x1 2 u5 _ hI h) (pw_cwV 2 hts kw_975 kw_57 kw_972 kw_974 kw_33 (by decide +kernel) ⟨Nat.le_of_ble_eq_true rfl, Nat.le_of_ble_eq_true rfl⟩) ⟨pw_blind, va_recv hK hP (ci := 1) (q0 := 0) rfl rw_at_0, fun U hU hW => ⟨rfl, by rw [hU], by rw [hU]; exact hP, va_K.moved hW.alike hK⟩⟩ rfl rfl hl.1 rfl (lv_room (Nat.le_of_ble_eq_true rfl)) d_Model_piece_95 ⟨Nat.le_of_ble_eq_true rfl, Nat.le_of_ble_eq_true rfl⟩) hS hF hA (fun r19 u18 H locs hP hS h => ?_)
         refine lv_aload_n hx hb d_Model_piece_98 rfl (lv_at hl 0 rfl) ?_
         refine lv_iload_n hx hb d_Model_piece_99 rfl (lv_at hl 1 rfl) ?_
         refine lv_iconst (v := 0) hx hb d_Model_piece_100 (by decide) ?_
         refine cc_i (va_runV (As := [.int x1, .int 0]) (rest := [.int r19]) ⟨hx, hb, hml, hown, hts⟩ (ct_Model_end l D a cA cZ G _ x1 0 u18 _ hI h) (pw_cwV 2 hts kw_975 kw_57 kw_972 kw_974 kw_33 (by decide +kernel) ⟨Nat.le_of_ble_eq_true rfl, Nat.le_of_ble_eq_true rfl⟩) ⟨pw_blind, va_recv hK hP (ci := 1) (q0 := 0) rfl rw_at_0, fun U hU hW => ⟨rfl, by rw [hU], by rw [hU]; exact hP, va_K.moved hW.alike hK⟩⟩ rfl rfl hl.1 rfl (lv_room (Nat.le_of_ble_eq_true rfl)) d_Model_piece_101 ⟨Nat.le_of_ble_eq_true rfl, Nat.le_of_ble_eq_true rfl⟩) hS hF hA (fun r21 u20 H locs hP hS h => ?_)
         refine lv_isub hx hb d_Model_piece_104 ?_
         refine lv_iconst (v := 1) hx hb d_Model_piece_105 (by decide) ?_
         refine lv_iadd hx hb d_Model_piece_106 ?_
         refine lv_goto (tgt := 146) hx hb d_Model_piece_107 (by decide) ?_
         exact W.iret (v := ((r19 - r21) + 1)) hx hb hr (fun t ht hW => ⟨⟨((r19 - r21) + 1), u20, rfl, h, by rw [ht]; exact hP, va_K.moved hW.alike hK⟩, hS.F ht⟩) hS.2.2 d_Model_piece_146 hlocks
     · have h := h.2 c8
       refine lv_aload_n hx hb d_Model_piece_78 rfl (lv_at hl 0 rfl) ?_
       refine lv_iload_n hx hb d_Model_piece_79 rfl (lv_at hl 1 rfl) ?_
       refine lv_iload_n hx hb d_Model_piece_80 rfl (lv_at hl 2 rfl) ?_
       refine lv_iconst (v := 2) hx hb d_Model_piece_81 (by decide) ?_
       refine lv_isub hx hb d_Model_piece_82 ?_
       refine cc_i (va_runV (As := [.int x1, .int (x2 - 2)]) (rest := []) ⟨hx, hb, hml, hown, hts⟩ (ct_Model_end l D a cA cZ G _ x1 (x2 - 2) u5 _ hI h) (pw_cwV 2 hts kw_975 kw_57 kw_972 kw_974 kw_33 (by decide +kernel) ⟨Nat.le_of_ble_eq_true rfl, Nat.le_of_ble_eq_true rfl⟩) ⟨pw_blind, va_recv hK hP (ci := 1) (q0 := 0) rfl rw_at_0, fun U hU hW => ⟨rfl, by rw [hU], by rw [hU]; exact hP, va_K.moved hW.alike hK⟩⟩ rfl rfl hl.1 rfl (lv_room (Nat.le_of_ble_eq_true rfl)) d_Model_piece_83 ⟨Nat.le_of_ble_eq_true rfl, Nat.le_of_ble_eq_true rfl⟩) hS hF hA (fun r23 u22 H locs hP hS h => ?_)
       exact W.iret (v := r23) hx hb hr (fun t ht hW => ⟨⟨r23, u22, rfl, h, by rw [ht]; exact hP, va_K.moved hW.alike hK⟩, hS.F ht⟩) hS.2.2 d_Model_piece_86 hlocks
   · have h := h.2 c7
     refine lv_iload_n hx hb d_Model_piece_43 rfl (lv_at hl 2 rfl) ?_
     refine lv_if_ne (tgt := 61) hx hb d_Model_piece_44 (by decide) (fun c24 => ?_) (fun c24 => ?_)
     · have h := h.2 c24
       refine lv_aload_n hx hb d_Model_piece_61 rfl (lv_at hl 0 rfl) ?_
       refine va_get (D := D) (ci := 1) (v := .ref (a 6)) (C := R_Model) (T := T_Model) (N := 23) hx hb hts in_Model hown hK hP 0 rw_at_0 rfl 10 (by decide) (hts _ (List.mem_cons_of_mem _ kw_845)) (fun _ h9 => h9) rfl d_Model_piece_62 ?_
       refine lv_aload_n hx hb d_Model_piece_65 rfl (lv_at hl 0 rfl) ?_
       refine va_get (D := D) (ci := 1) (v := .ref (a 5)) (C := R_Model) (T := T_Model) (N := 23) hx hb hts in_Model hown hK hP 0 rw_at_0 rfl 9 (by decide) (hts _ (List.mem_cons_of_mem _ kw_844)) (fun _ h9 => h9) rfl d_Model_piece_66 ?_
       refine lv_iload_n hx hb d_Model_piece_69 rfl (lv_at hl 1 rfl) ?_
       refine va_iald hx hb hK hP 5 0 rw_at_5 rfl h.1 d_Model_piece_70 ?_
       have h := h.2
       refine va_iald hx hb hK hP 6 0 rw_at_6 rfl h.1 d_Model_piece_71 ?_
       have h := h.2
       exact W.iret (v := (u5.2 5 (u5.2 4 x1.toNatClampNeg).toNatClampNeg)) hx hb hr (fun t ht hW => ⟨⟨(u5.2 5 (u5.2 4 x1.toNatClampNeg).toNatClampNeg), u5, rfl, h, by rw [ht]; exact hP, va_K.moved hW.alike hK⟩, hS.F ht⟩) hS.2.2 d_Model_piece_72 hlocks
     · have h := h.1 c24
       refine lv_aload_n hx hb d_Model_piece_47 rfl (lv_at hl 0 rfl) ?_
       refine va_get (D := D) (ci := 1) (v := .ref (a 3)) (C := R_Model) (T := T_Model) (N := 23) hx hb hts in_Model hown hK hP 0 rw_at_0 rfl 6 (by decide) (hts _ (List.mem_cons_of_mem _ kw_841)) (fun _ h9 => h9) rfl d_Model_piece_48 ?_
       refine lv_aload_n hx hb d_Model_piece_51 rfl (lv_at hl 0 rfl) ?_
       refine va_get (D := D) (ci := 1) (v := .ref (a 5)) (C := R_Model) (T := T_Model) (N := 23) hx hb hts in_Model hown hK hP 0 rw_at_0 rfl 9 (by decide) (hts _ (List.mem_cons_of_mem _ kw_844)) (fun _ h9 => h9) rfl d_Model_piece_52 ?_
       refine lv_iload_n hx hb d_Model_piece_55 rfl (lv_at hl 1 rfl) ?_
       refine va_iald hx hb hK hP 5 0 rw_at_5 rfl h.1 d_Model_piece_56 ?_
       have h := h.2
       refine va_iald hx hb hK hP 3 0 rw_at_3 rfl h.1 d_Model_piece_57 ?_
       have h := h.2
       refine lv_goto (tgt := 72) hx hb d_Model_piece_58 (by decide) ?_
       exact W.iret (v := (u5.2 2 (u5.2 4 x1.toNatClampNeg).toNatClampNeg)) hx hb hr (fun t ht hW => ⟨⟨(u5.2 2 (u5.2 4 x1.toNatClampNeg).toNatClampNeg), u5, rfl, h, by rw [ht]; exact hP, va_K.moved hW.alike hK⟩, hS.F ht⟩) hS.2.2 d_Model_piece_72 hlocks
 · have h := h.2 c6
   refine lv_iconst (v := 0) hx hb d_Model_piece_36 (by decide) ?_
   exact W.iret (v := 0) hx hb hr (fun t ht hW => ⟨⟨0, u5, rfl, h, by rw [ht]; exact hP, va_K.moved hW.alike hK⟩, hS.F ht⟩) hS.2.2 d_Model_piece_37 hlocks
set_option maxHeartbeats 4000000 in
set_option maxRecDepth 100000 in
theorem st_Model_piece {p : Program} {l : Launch} {e : Env} {s : State} {m : MethodId} {args : Array Value} {below : List Frame} {meth : Method} {c : Code} {D : va_G} {a : Nat → Nat} {cA cZ : ClassId} {G : pG} {A : Nat → Prop} {Q : Int32 → pS → Prop} (C : pw_C p s m args meth c b_Model_piece 3 R_Model (some .int) w_Model_piece A) (K : pw_K s D 15 a (rT cA cZ) A) (x1 x2 : Int32) (u : pS) (ls : Array Slot) (hP : va_P D vwCl (rw a cA cZ G u) s.heap) (hl : lv_has ls 3 [(0, .ref (a 0)), (1, .int x1), (2, .int x2)]) (h : wp_Model_piece G x1 x2 u Q) : W p l e ({ frames := 2, cells := 0, slots := 0, locals := 46 } : Room) s m args below meth c s.heap [] 0 0 (pw_Ei below args s D (rw a cA cZ G) (rT cA cZ) A Q) (F0 m 0 ls []) := by
 obtain ⟨hx, hb, hr, hml, hown, hts, hlocks, hA⟩ := id C
 obtain ⟨hK, hI, hF⟩ := id K
 have hD : ∀ u, va_D A (rw a cA cZ G u) := fun u => rw_D hI hF
 have hS : va_S A s.heap s.heap [] := va_S.rf
 have h : wp_Model_piece G x1 x2 u Q := h
 refine lv_aload_n hx hb d_Model_piece_0 rfl (lv_at hl 0 rfl) ?_
 refine lv_iload_n hx hb d_Model_piece_1 rfl (lv_at hl 1 rfl) ?_
 refine cc_i (va_runV (As := [.int x1]) (rest := []) ⟨hx, hb, hml, hown, hts⟩ (ct_Model_noPiece l D a cA cZ G _ x1 u _ hI h) (pw_cwV 1 hts kw_971 kw_57 kw_968 kw_970 kw_32 (by decide +kernel) ⟨Nat.le_of_ble_eq_true rfl, Nat.le_of_ble_eq_true rfl⟩) ⟨pw_blind, va_recv hK hP (ci := 1) (q0 := 0) rfl rw_at_0, fun U hU hW => ⟨rfl, by rw [hU], by rw [hU]; exact hP, va_K.moved hW.alike hK⟩⟩ rfl rfl hl.1 rfl (lv_room (Nat.le_of_ble_eq_true rfl)) d_Model_piece_2 ⟨Nat.le_of_ble_eq_true rfl, Nat.le_of_ble_eq_true rfl⟩) hS hF hA (fun r2 u1 H locs hP hS h => ?_)
 refine lv_if_eq (tgt := 10) hx hb d_Model_piece_5 (by decide) (fun c3 => ?_) (fun c3 => ?_)
 · have h := h.1 c3
   refine lv_aload_n hx hb d_Model_piece_10 rfl (lv_at hl 0 rfl) ?_
   refine lv_iload_n hx hb d_Model_piece_11 rfl (lv_at hl 2 rfl) ?_
   refine lv_if_lt (tgt := 25) hx hb d_Model_piece_12 (by decide) (fun c4 => ?_) (fun c4 => ?_)
   · have h := h.1 c4
     exact cp_Model_piece_25 C K (fun x1 x2 y3 u H locs ls hP hS hl h => cp_Model_piece_26 C K x1 x2 y3 u H locs ls hP hS hl h) x1 x2 u1 _ _ _ hP hS (lv_sub hl [0, 1, 2] rfl) h
   · have h := h.2 c4
     refine lv_iload_n hx hb d_Model_piece_15 rfl (lv_at hl 2 rfl) ?_
     refine lv_bipush (v := 6) hx hb d_Model_piece_16 (by decide) ?_
     refine lv_icmp_gt (tgt := 25) hx hb d_Model_piece_18 (by decide) (fun c25 => ?_) (fun c25 => ?_)
     · have h := h.1 c25
       exact cp_Model_piece_25 C K (fun x1 x2 y3 u H locs ls hP hS hl h => cp_Model_piece_26 C K x1 x2 y3 u H locs ls hP hS hl h) x1 x2 u1 _ _ _ hP hS (lv_sub hl [0, 1, 2] rfl) h
     · have h := h.2 c25
       refine lv_iconst (v := 0) hx hb d_Model_piece_21 (by decide) ?_
       refine lv_goto (tgt := 26) hx hb d_Model_piece_22 (by decide) ?_
       exact cp_Model_piece_26 C K x1 x2 0 u1 _ _ _ hP hS (lv_sub hl [0, 1, 2] rfl) h
 · have h := h.2 c3
   refine lv_iconst (v := 0) hx hb d_Model_piece_8 (by decide) ?_
   exact W.iret (v := 0) hx hb hr (fun t ht hW => ⟨⟨0, u1, rfl, h, by rw [ht]; exact hP, va_K.moved hW.alike hK⟩, hS.F ht⟩) hS.2.2 d_Model_piece_9 hlocks
set_option maxHeartbeats 4000000 in
set_option maxRecDepth 100000 in
theorem ct_Model_piece (l : Launch) (D : va_G) (a : Nat → Nat) (cA cZ : ClassId) (G : pG) (sz : Nat) (x1 x2 : Int32) (u : pS) (Q : Int32 → pS → Prop) (hI : pw_I 15 a) (h : wp_Model_piece G x1 x2 u Q) : Met l y_Model_piece w_Model_piece ({ frames := 2, cells := 0, slots := 0, locals := 46 } : Room) (va_Pc [.ref (a 0), .int x1, .int x2] (pw_pre D (rw a cA cZ G) (rT cA cZ) sz u)) (va_Qi (fun (r : Int32) (u : pS) => Q r u) (pw_B D (rw a cA cZ G) (rT cA cZ)) (pw_F 15 a sz)) 0 0 (pw_F 15 a sz) := by
 refine Met.ofW (cc := b_Model_piece) (maxL := 3) (ret := (some .int)) (by decide) rfl ?_
 intro p e s m args below meth c s₁ B hml hv
 obtain ⟨rfl, hsz, hP, hK⟩ := hv
 subst hsz
 have hl := lv_entry ([.ref (a 0), .int x1, .int x2]) (n := 3) (Nat.le_of_ble_eq_true rfl)
 rw [lg_entry_eq]
 generalize (lg_sl ([.ref (a 0), .int x1, .int x2]) ++ List.replicate (3 - (lg_sl ([.ref (a 0), .int x1, .int x2])).length) Slot.unset).toArray = ls at hl ⊢
 exact st_Model_piece (A := (pw_F 15 a s.heap.size)) ⟨B.exec, B.bytes, B.returns, hml, findClass_of_methodNamed B.named, atoms_spec (ws := w_Model_piece) B.pre, B.notSynchronized, fun q hq => Or.inr hq⟩ ⟨hK, hI, fun k hk => Or.inl ⟨k, hk, rfl⟩⟩ x1 x2 u ls hP hl h
set_option maxHeartbeats 4000000 in
set_option maxRecDepth 100000 in
theorem cp_Model_joined_40 {p : Program} {l : Launch} {e : Env} {s : State} {m : MethodId} {args : Array Value} {below : List Frame} {meth : Method} {c : Code} {D : va_G} {a : Nat → Nat} {cA cZ : ClassId} {G : pG} {A : Nat → Prop} {Q : Int32 → pS → Prop} (C : pw_C p s m args meth c b_Model_joined 7 R_Model (some .int) w_Model_joined A) (K : pw_K s D 15 a (rT cA cZ) A) {k23 : Int32 → Int32 → Int32 → Int32 → pS → Prop} (hk23 : ∀ (x1 x2 x3 x4 : Int32) (u : pS) (H : Heap) (locs : List Loc) (ls : Array Slot), va_P D vwCl (rw a cA cZ G u) H → va_S A s.heap H locs → lv_has ls 7 [(0, .ref (a 0)), (1, .int x1), (2, .int x2), (3, .int x3), (4, .int x4)] → k23 x1 x2 x3 x4 u → W p l e ({ frames := 2, cells := 0, slots := 0, locals := 46 } : Room) s m args below meth c H locs 0 0 (pw_Ei below args s D (rw a cA cZ G) (rT cA cZ) A Q) (F0 m 23 ls [])) : ∀ (n : Nat), ∀ (x1 x2 x3 x4 x5 : Int32) (u : pS) (H : Heap) (locs : List Loc) (ls : Array Slot), va_P D vwCl (rw a cA cZ G u) H → va_S A s.heap H locs → lv_has ls 7 [(0, .ref (a 0)), (1, .int x1), (2, .int x2), (3, .int x3), (4, .int x4), (5, .int x5)] → lp_Model_joined_40 G Q k23 n x1 x2 x3 x4 x5 u → W p l e ({ frames := 2, cells := 0, slots := 0, locals := 46 } : Room) s m args below meth c H locs 0 0 (pw_Ei below args s D (rw a cA cZ G) (rT cA cZ) A Q) (F0 m 40 ls []) := by
 obtain ⟨hx, hb, hr, hml, hown, hts, hlocks, hA⟩ := id C
 obtain ⟨hK, hI, hF⟩ := id K
 have hD : ∀ u, va_D A (rw a cA cZ G u) := fun u => rw_D hI hF
 intro n
 induction n with
 | zero => intro x1 x2 x3 x4 x5 u H locs ls hP hS hl h; exact h.elim
 | succ n ih =>
   intro x1 x2 x3 x4 x5 u H locs ls hP hS hl h
   refine lv_iload hx hb d_Model_joined_40 (lv_at hl 5 rfl) ?_
   refine lv_iconst (v := 4) hx hb d_Model_joined_42 (by decide) ?_
   refine lv_icmp_ge (tgt := 112) hx hb d_Model_joined_43 (by decide) (fun c8 => ?_) (fun c8 => ?_)
   · have h := h.1 c8
     obtain ⟨t9, et9⟩ : ∃ y : Int32, y = x4 + 1 := ⟨_, rfl⟩
     have h := h t9 et9
     refine lv_iinc (v := t9) (lv' := [(4, .int t9), (0, .ref (a 0)), (1, .int x1), (2, .int x2), (3, .int x3), (5, .int x5)]) hx hb d_Model_joined_112 hl (k := 4) rfl (by rw [et9]; rfl) (by decide) rfl (fun ls hl => ?_)
     refine lv_goto (tgt := 23) hx hb d_Model_joined_115 (by decide) ?_
     exact hk23 x1 x2 x3 t9 u _ _ _ hP hS (lv_sub hl [1, 2, 3, 4, 0] rfl) h
   · have h := h.2 c8
     refine lv_aload_n hx hb d_Model_joined_46 rfl (lv_at hl 0 rfl) ?_
     refine lv_iload hx hb d_Model_joined_47 (lv_at hl 4 rfl) ?_
     refine lv_iload hx hb d_Model_joined_49 (lv_at hl 5 rfl) ?_
     refine cc_i (va_runV (As := [.int x4, .int x5]) (rest := []) ⟨hx, hb, hml, hown, hts⟩ (ct_Model_beside l D a cA cZ G _ x4 x5 u _ hI h) (pw_cwV 2 hts kw_947 kw_57 kw_944 kw_946 kw_28 (by decide +kernel) ⟨Nat.le_of_ble_eq_true rfl, Nat.le_of_ble_eq_true rfl⟩) ⟨pw_blind, va_recv hK hP (ci := 1) (q0 := 0) rfl rw_at_0, fun U hU hW => ⟨rfl, by rw [hU], by rw [hU]; exact hP, va_K.moved hW.alike hK⟩⟩ rfl rfl hl.1 rfl (lv_room (Nat.le_of_ble_eq_true rfl)) d_Model_joined_51 ⟨Nat.le_of_ble_eq_true rfl, Nat.le_of_ble_eq_true rfl⟩) hS hF hA (fun r11 u10 H locs hP hS h => ?_)
     refine lv_istore (lv' := [(6, .int r11), (0, .ref (a 0)), (1, .int x1), (2, .int x2), (3, .int x3), (4, .int x4), (5, .int x5)]) hx hb d_Model_joined_54 hl (by decide) rfl (fun ls hl => ?_)
     refine lv_iload_n hx hb d_Model_joined_56 rfl (lv_at hl 2 rfl) ?_
     refine lv_iload_n hx hb d_Model_joined_57 rfl (lv_at hl 3 rfl) ?_
     refine lv_icmp_eq (tgt := 104) hx hb d_Model_joined_58 (by decide) (fun c12 => ?_) (fun c12 => ?_)
     · have h := h.1 c12
       refine lv_iload_n hx hb d_Model_joined_104 rfl (lv_at hl 4 rfl) ?_
       refine lv_istore_n (lv' := [(3, .int x3), (6, .int r11), (0, .ref (a 0)), (1, .int x1), (2, .int x2), (4, .int x4), (5, .int x5)]) hx hb d_Model_joined_105 rfl hl (by decide) rfl (fun ls hl => ?_)
       obtain ⟨t13, et13⟩ : ∃ y : Int32, y = x5 + 1 := ⟨_, rfl⟩
       have h := h t13 et13
       refine lv_iinc (v := t13) (lv' := [(5, .int t13), (3, .int x3), (6, .int r11), (0, .ref (a 0)), (1, .int x1), (2, .int x2), (4, .int x4)]) hx hb d_Model_joined_106 hl (k := 6) rfl (by rw [et13]; rfl) (by decide) rfl (fun ls hl => ?_)
       refine lv_goto (tgt := 40) hx hb d_Model_joined_109 (by decide) ?_
       exact ih x1 x2 x3 x4 t13 u10 _ _ _ hP hS (lv_sub hl [3, 4, 5, 1, 6, 0] rfl) h
     · have h := h.2 c12
       refine lv_iload hx hb d_Model_joined_61 (lv_at hl 0 rfl) ?_
       refine lv_if_lt (tgt := 104) hx hb d_Model_joined_63 (by decide) (fun c14 => ?_) (fun c14 => ?_)
       · have h := h.1 c14
         refine lv_iload_n hx hb d_Model_joined_104 rfl (lv_at hl 4 rfl) ?_
         refine lv_istore_n (lv' := [(3, .int x3), (6, .int r11), (0, .ref (a 0)), (1, .int x1), (2, .int x2), (4, .int x4), (5, .int x5)]) hx hb d_Model_joined_105 rfl hl (by decide) rfl (fun ls hl => ?_)
         obtain ⟨t15, et15⟩ : ∃ y : Int32, y = x5 + 1 := ⟨_, rfl⟩
         have h := h t15 et15
         refine lv_iinc (v := t15) (lv' := [(5, .int t15), (3, .int x3), (6, .int r11), (0, .ref (a 0)), (1, .int x1), (2, .int x2), (4, .int x4)]) hx hb d_Model_joined_106 hl (k := 6) rfl (by rw [et15]; rfl) (by decide) rfl (fun ls hl => ?_)
         refine lv_goto (tgt := 40) hx hb d_Model_joined_109 (by decide) ?_
         exact ih x1 x2 x3 x4 t15 u10 _ _ _ hP hS (lv_sub hl [3, 4, 5, 1, 6, 0] rfl) h
       · have h := h.2 c14
         refine lv_aload_n hx hb d_Model_joined_66 rfl (lv_at hl 1 rfl) ?_
         refine va_get (D := D) (ci := 1) (v := .ref (a 4)) (C := R_Model) (T := T_Model) (N := 23) hx hb hts in_Model hown hK hP 0 rw_at_0 rfl 7 (by decide) (hts _ (List.mem_cons_of_mem _ kw_842)) (fun _ h9 => h9) rfl d_Model_joined_67 ?_
         refine lv_iload hx hb d_Model_joined_70 (lv_at hl 5 rfl) ?_
         refine va_iald hx hb hK hP 4 0 rw_at_4 rfl h.1 d_Model_joined_72 ?_
         have h := h.2
         refine lv_aload_n hx hb d_Model_joined_73 rfl (lv_at hl 1 rfl) ?_
         refine va_get (D := D) (ci := 1) (v := .ref (a 5)) (C := R_Model) (T := T_Model) (N := 23) hx hb hts in_Model hown hK hP 0 rw_at_0 rfl 9 (by decide) (hts _ (List.mem_cons_of_mem _ kw_844)) (fun _ h9 => h9) rfl d_Model_joined_74 ?_
         refine lv_iload_n hx hb d_Model_joined_77 rfl (lv_at hl 2 rfl) ?_
         refine va_iald hx hb hK hP 5 0 rw_at_5 rfl h.1 d_Model_joined_78 ?_
         have h := h.2
         refine lv_icmp_ne (tgt := 104) hx hb d_Model_joined_79 (by decide) (fun c16 => ?_) (fun c16 => ?_)
         · have h := h.2 c16
           refine lv_iload_n hx hb d_Model_joined_104 rfl (lv_at hl 4 rfl) ?_
           refine lv_istore_n (lv' := [(3, .int x3), (6, .int r11), (0, .ref (a 0)), (1, .int x1), (2, .int x2), (4, .int x4), (5, .int x5)]) hx hb d_Model_joined_105 rfl hl (by decide) rfl (fun ls hl => ?_)
           obtain ⟨t17, et17⟩ : ∃ y : Int32, y = x5 + 1 := ⟨_, rfl⟩
           have h := h t17 et17
           refine lv_iinc (v := t17) (lv' := [(5, .int t17), (3, .int x3), (6, .int r11), (0, .ref (a 0)), (1, .int x1), (2, .int x2), (4, .int x4)]) hx hb d_Model_joined_106 hl (k := 6) rfl (by rw [et17]; rfl) (by decide) rfl (fun ls hl => ?_)
           refine lv_goto (tgt := 40) hx hb d_Model_joined_109 (by decide) ?_
           exact ih x1 x2 x3 x4 t17 u10 _ _ _ hP hS (lv_sub hl [3, 4, 5, 1, 6, 0] rfl) h
         · have h := h.1 c16
           refine lv_aload_n hx hb d_Model_joined_82 rfl (lv_at hl 1 rfl) ?_
           refine va_get (D := D) (ci := 1) (v := .ref (a 4)) (C := R_Model) (T := T_Model) (N := 23) hx hb hts in_Model hown hK hP 0 rw_at_0 rfl 7 (by decide) (hts _ (List.mem_cons_of_mem _ kw_842)) (fun _ h9 => h9) rfl d_Model_joined_83 ?_
           refine lv_iload hx hb d_Model_joined_86 (lv_at hl 0 rfl) ?_
           refine va_iald hx hb hK hP 4 0 rw_at_4 rfl h.1 d_Model_joined_88 ?_
           have h := h.2
           refine lv_aload_n hx hb d_Model_joined_89 rfl (lv_at hl 1 rfl) ?_
           refine va_get (D := D) (ci := 1) (v := .ref (a 5)) (C := R_Model) (T := T_Model) (N := 23) hx hb hts in_Model hown hK hP 0 rw_at_0 rfl 9 (by decide) (hts _ (List.mem_cons_of_mem _ kw_844)) (fun _ h9 => h9) rfl d_Model_joined_90 ?_
           refine lv_iload_n hx hb d_Model_joined_93 rfl (lv_at hl 3 rfl) ?_
           refine va_iald hx hb hK hP 5 0 rw_at_5 rfl h.1 d_Model_joined_94 ?_
           have h := h.2
           refine lv_icmp_ne (tgt := 104) hx hb d_Model_joined_95 (by decide) (fun c18 => ?_) (fun c18 => ?_)
           · have h := h.2 c18
             refine lv_iload_n hx hb d_Model_joined_104 rfl (lv_at hl 4 rfl) ?_
             refine lv_istore_n (lv' := [(3, .int x3), (6, .int r11), (0, .ref (a 0)), (1, .int x1), (2, .int x2), (4, .int x4), (5, .int x5)]) hx hb d_Model_joined_105 rfl hl (by decide) rfl (fun ls hl => ?_)
             obtain ⟨t19, et19⟩ : ∃ y : Int32, y = x5 + 1 := ⟨_, rfl⟩
             have h := h t19 et19
             refine lv_iinc (v := t19) (lv' := [(5, .int t19), (3, .int x3), (6, .int r11), (0, .ref (a 0)), (1, .int x1), (2, .int x2), (4, .int x4)]) hx hb d_Model_joined_106 hl (k := 6) rfl (by rw [et19]; rfl) (by decide) rfl (fun ls hl => ?_)
             refine lv_goto (tgt := 40) hx hb d_Model_joined_109 (by decide) ?_
             exact ih x1 x2 x3 x4 t19 u10 _ _ _ hP hS (lv_sub hl [3, 4, 5, 1, 6, 0] rfl) h
           · have h := h.1 c18
             refine lv_iload_n hx hb d_Model_joined_98 rfl (lv_at hl 4 rfl) ?_
             refine lv_iconst (v := 1) hx hb d_Model_joined_99 (by decide) ?_
             refine lv_iadd hx hb d_Model_joined_100 ?_
             refine lv_goto (tgt := 105) hx hb d_Model_joined_101 (by decide) ?_
             refine lv_topi (fun t20 et20 => ?_)
             have h := h t20 et20
             refine lv_istore_n (lv' := [(3, .int t20), (6, .int r11), (0, .ref (a 0)), (1, .int x1), (2, .int x2), (4, .int x4), (5, .int x5)]) hx hb d_Model_joined_105 rfl hl (by decide) rfl (fun ls hl => ?_)
             obtain ⟨t21, et21⟩ : ∃ y : Int32, y = x5 + 1 := ⟨_, rfl⟩
             have h := h t21 et21
             refine lv_iinc (v := t21) (lv' := [(5, .int t21), (3, .int t20), (6, .int r11), (0, .ref (a 0)), (1, .int x1), (2, .int x2), (4, .int x4)]) hx hb d_Model_joined_106 hl (k := 6) rfl (by rw [et21]; rfl) (by decide) rfl (fun ls hl => ?_)
             refine lv_goto (tgt := 40) hx hb d_Model_joined_109 (by decide) ?_
             exact ih x1 x2 t20 x4 t21 u10 _ _ _ hP hS (lv_sub hl [3, 4, 5, 1, 6, 0] rfl) h
set_option maxHeartbeats 4000000 in
set_option maxRecDepth 100000 in
theorem cp_Model_joined_23 {p : Program} {l : Launch} {e : Env} {s : State} {m : MethodId} {args : Array Value} {below : List Frame} {meth : Method} {c : Code} {D : va_G} {a : Nat → Nat} {cA cZ : ClassId} {G : pG} {A : Nat → Prop} {Q : Int32 → pS → Prop} (C : pw_C p s m args meth c b_Model_joined 7 R_Model (some .int) w_Model_joined A) (K : pw_K s D 15 a (rT cA cZ) A) : ∀ (n : Nat), ∀ (x1 x2 x3 x4 : Int32) (u : pS) (H : Heap) (locs : List Loc) (ls : Array Slot), va_P D vwCl (rw a cA cZ G u) H → va_S A s.heap H locs → lv_has ls 7 [(0, .ref (a 0)), (1, .int x1), (2, .int x2), (3, .int x3), (4, .int x4)] → lp_Model_joined_23 G Q n x1 x2 x3 x4 u → W p l e ({ frames := 2, cells := 0, slots := 0, locals := 46 } : Room) s m args below meth c H locs 0 0 (pw_Ei below args s D (rw a cA cZ G) (rT cA cZ) A Q) (F0 m 23 ls []) := by
 obtain ⟨hx, hb, hr, hml, hown, hts, hlocks, hA⟩ := id C
 obtain ⟨hK, hI, hF⟩ := id K
 have hD : ∀ u, va_D A (rw a cA cZ G u) := fun u => rw_D hI hF
 intro n
 induction n with
 | zero => intro x1 x2 x3 x4 u H locs ls hP hS hl h; exact h.elim
 | succ n ih =>
   intro x1 x2 x3 x4 u H locs ls hP hS hl h
   refine lv_iload hx hb d_Model_joined_23 (lv_at hl 4 rfl) ?_
   refine lv_aload_n hx hb d_Model_joined_25 rfl (lv_at hl 0 rfl) ?_
   refine va_get (D := D) (ci := 1) (v := .int (G.2.1 0)) (C := R_Model) (T := T_Model) (N := 23) hx hb hts in_Model hown hK hP 0 rw_at_0 rfl 1 (by decide) (hts _ (List.mem_cons_of_mem _ kw_836)) (fun _ h9 => h9) rfl d_Model_joined_26 ?_
   refine lv_aload_n hx hb d_Model_joined_29 rfl (lv_at hl 0 rfl) ?_
   refine va_get (D := D) (ci := 1) (v := .int (G.2.1 1)) (C := R_Model) (T := T_Model) (N := 23) hx hb hts in_Model hown hK hP 0 rw_at_0 rfl 2 (by decide) (hts _ (List.mem_cons_of_mem _ kw_837)) (fun _ h9 => h9) rfl d_Model_joined_30 ?_
   refine lv_imul hx hb d_Model_joined_33 ?_
   refine lv_icmp_ge (tgt := 118) hx hb d_Model_joined_34 (by decide) (fun c7 => ?_) (fun c7 => ?_)
   · have h := h.1 c7
     refine lv_iload_n hx hb d_Model_joined_118 rfl (lv_at hl 3 rfl) ?_
     exact W.iret (v := x3) hx hb hr (fun t ht hW => ⟨⟨x3, u, rfl, h, by rw [ht]; exact hP, va_K.moved hW.alike hK⟩, hS.F ht⟩) hS.2.2 d_Model_joined_119 hlocks
   · have h := h.2 c7
     refine lv_iconst (v := 0) hx hb d_Model_joined_37 (by decide) ?_
     refine lv_istore (lv' := [(5, .int 0), (0, .ref (a 0)), (1, .int x1), (2, .int x2), (3, .int x3), (4, .int x4)]) hx hb d_Model_joined_38 hl (by decide) rfl (fun ls hl => ?_)
     obtain ⟨n1, h⟩ := h
     exact cp_Model_joined_40 C K ih n1 x1 x2 x3 x4 0 u _ _ _ hP hS (lv_sub hl [1, 2, 3, 4, 5, 0] rfl) h
set_option maxHeartbeats 4000000 in
set_option maxRecDepth 100000 in
theorem st_Model_joined {p : Program} {l : Launch} {e : Env} {s : State} {m : MethodId} {args : Array Value} {below : List Frame} {meth : Method} {c : Code} {D : va_G} {a : Nat → Nat} {cA cZ : ClassId} {G : pG} {A : Nat → Prop} {Q : Int32 → pS → Prop} (C : pw_C p s m args meth c b_Model_joined 7 R_Model (some .int) w_Model_joined A) (K : pw_K s D 15 a (rT cA cZ) A) (x1 x2 : Int32) (u : pS) (ls : Array Slot) (hP : va_P D vwCl (rw a cA cZ G u) s.heap) (hl : lv_has ls 7 [(0, .ref (a 0)), (1, .int x1), (2, .int x2)]) (h : wp_Model_joined G x1 x2 u Q) : W p l e ({ frames := 2, cells := 0, slots := 0, locals := 46 } : Room) s m args below meth c s.heap [] 0 0 (pw_Ei below args s D (rw a cA cZ G) (rT cA cZ) A Q) (F0 m 0 ls []) := by
 obtain ⟨hx, hb, hr, hml, hown, hts, hlocks, hA⟩ := id C
 obtain ⟨hK, hI, hF⟩ := id K
 have hD : ∀ u, va_D A (rw a cA cZ G u) := fun u => rw_D hI hF
 have hS : va_S A s.heap s.heap [] := va_S.rf
 have h : wp_Model_joined G x1 x2 u Q := h
 refine lv_aload_n hx hb d_Model_joined_0 rfl (lv_at hl 0 rfl) ?_
 refine lv_iload_n hx hb d_Model_joined_1 rfl (lv_at hl 1 rfl) ?_
 refine cc_i (va_runV (As := [.int x1]) (rest := []) ⟨hx, hb, hml, hown, hts⟩ (ct_Model_noPiece l D a cA cZ G _ x1 u _ hI h) (pw_cwV 1 hts kw_971 kw_57 kw_968 kw_970 kw_32 (by decide +kernel) ⟨Nat.le_of_ble_eq_true rfl, Nat.le_of_ble_eq_true rfl⟩) ⟨pw_blind, va_recv hK hP (ci := 1) (q0 := 0) rfl rw_at_0, fun U hU hW => ⟨rfl, by rw [hU], by rw [hU]; exact hP, va_K.moved hW.alike hK⟩⟩ rfl rfl hl.1 rfl (lv_room (Nat.le_of_ble_eq_true rfl)) d_Model_joined_2 ⟨Nat.le_of_ble_eq_true rfl, Nat.le_of_ble_eq_true rfl⟩) hS hF hA (fun r2 u1 H locs hP hS h => ?_)
 refine lv_if_ne (tgt := 16) hx hb d_Model_joined_5 (by decide) (fun c3 => ?_) (fun c3 => ?_)
 · have h := h.2 c3
   refine lv_iconst (v := 0) hx hb d_Model_joined_16 (by decide) ?_
   exact W.iret (v := 0) hx hb hr (fun t ht hW => ⟨⟨0, u1, rfl, h, by rw [ht]; exact hP, va_K.moved hW.alike hK⟩, hS.F ht⟩) hS.2.2 d_Model_joined_17 hlocks
 · have h := h.1 c3
   refine lv_aload_n hx hb d_Model_joined_8 rfl (lv_at hl 0 rfl) ?_
   refine lv_iload_n hx hb d_Model_joined_9 rfl (lv_at hl 2 rfl) ?_
   refine cc_i (va_runV (As := [.int x2]) (rest := []) ⟨hx, hb, hml, hown, hts⟩ (ct_Model_noPiece l D a cA cZ G _ x2 u1 _ hI h) (pw_cwV 1 hts kw_971 kw_57 kw_968 kw_970 kw_32 (by decide +kernel) ⟨Nat.le_of_ble_eq_true rfl, Nat.le_of_ble_eq_true rfl⟩) ⟨pw_blind, va_recv hK hP (ci := 1) (q0 := 0) rfl rw_at_0, fun U hU hW => ⟨rfl, by rw [hU], by rw [hU]; exact hP, va_K.moved hW.alike hK⟩⟩ rfl rfl hl.1 rfl (lv_room (Nat.le_of_ble_eq_true rfl)) d_Model_joined_10 ⟨Nat.le_of_ble_eq_true rfl, Nat.le_of_ble_eq_true rfl⟩) hS hF hA (fun r5 u4 H locs hP hS h => ?_)
   refine lv_if_eq (tgt := 18) hx hb d_Model_joined_13 (by decide) (fun c6 => ?_) (fun c6 => ?_)
   · have h := h.1 c6
     refine lv_iconst (v := 0) hx hb d_Model_joined_18 (by decide) ?_
     refine lv_istore_n (lv' := [(3, .int 0), (0, .ref (a 0)), (1, .int x1), (2, .int x2)]) hx hb d_Model_joined_19 rfl hl (by decide) rfl (fun ls hl => ?_)
     refine lv_iconst (v := 0) hx hb d_Model_joined_20 (by decide) ?_
     refine lv_istore (lv' := [(4, .int 0), (3, .int 0), (0, .ref (a 0)), (1, .int x1), (2, .int x2)]) hx hb d_Model_joined_21 hl (by decide) rfl (fun ls hl => ?_)
     obtain ⟨n1, h⟩ := h
     exact cp_Model_joined_23 C K n1 x1 x2 0 0 u4 _ _ _ hP hS (lv_sub hl [2, 3, 4, 1, 0] rfl) h
   · have h := h.2 c6
     refine lv_iconst (v := 0) hx hb d_Model_joined_16 (by decide) ?_
     exact W.iret (v := 0) hx hb hr (fun t ht hW => ⟨⟨0, u4, rfl, h, by rw [ht]; exact hP, va_K.moved hW.alike hK⟩, hS.F ht⟩) hS.2.2 d_Model_joined_17 hlocks
set_option maxHeartbeats 4000000 in
set_option maxRecDepth 100000 in
theorem ct_Model_joined (l : Launch) (D : va_G) (a : Nat → Nat) (cA cZ : ClassId) (G : pG) (sz : Nat) (x1 x2 : Int32) (u : pS) (Q : Int32 → pS → Prop) (hI : pw_I 15 a) (h : wp_Model_joined G x1 x2 u Q) : Met l y_Model_joined w_Model_joined ({ frames := 2, cells := 0, slots := 0, locals := 46 } : Room) (va_Pc [.ref (a 0), .int x1, .int x2] (pw_pre D (rw a cA cZ G) (rT cA cZ) sz u)) (va_Qi (fun (r : Int32) (u : pS) => Q r u) (pw_B D (rw a cA cZ G) (rT cA cZ)) (pw_F 15 a sz)) 0 0 (pw_F 15 a sz) := by
 refine Met.ofW (cc := b_Model_joined) (maxL := 7) (ret := (some .int)) (by decide) rfl ?_
 intro p e s m args below meth c s₁ B hml hv
 obtain ⟨rfl, hsz, hP, hK⟩ := hv
 subst hsz
 have hl := lv_entry ([.ref (a 0), .int x1, .int x2]) (n := 7) (Nat.le_of_ble_eq_true rfl)
 rw [lg_entry_eq]
 generalize (lg_sl ([.ref (a 0), .int x1, .int x2]) ++ List.replicate (7 - (lg_sl ([.ref (a 0), .int x1, .int x2])).length) Slot.unset).toArray = ls at hl ⊢
 exact st_Model_joined (A := (pw_F 15 a s.heap.size)) ⟨B.exec, B.bytes, B.returns, hml, findClass_of_methodNamed B.named, atoms_spec (ws := w_Model_joined) B.pre, B.notSynchronized, fun q hq => Or.inr hq⟩ ⟨hK, hI, fun k hk => Or.inl ⟨k, hk, rfl⟩⟩ x1 x2 u ls hP hl h
set_option maxHeartbeats 4000000 in
set_option maxRecDepth 100000 in
theorem st_Model_isOf {p : Program} {l : Launch} {e : Env} {s : State} {m : MethodId} {args : Array Value} {below : List Frame} {meth : Method} {c : Code} {D : va_G} {a : Nat → Nat} {cA cZ : ClassId} {G : pG} {A : Nat → Prop} {Q : Int32 → pS → Prop} (C : pw_C p s m args meth c b_Model_isOf 4 R_Model (some .boolean) w_Model_isOf A) (K : pw_K s D 15 a (rT cA cZ) A) (x1 x2 x3 : Int32) (u : pS) (ls : Array Slot) (hP : va_P D vwCl (rw a cA cZ G u) s.heap) (hl : lv_has ls 4 [(0, .ref (a 0)), (1, .int x1), (2, .int x2), (3, .int x3)]) (h : wp_Model_isOf G x1 x2 x3 u Q) : W p l e ({ frames := 1, cells := 0, slots := 0, locals := 22 } : Room) s m args below meth c s.heap [] 0 0 (pw_Ei below args s D (rw a cA cZ G) (rT cA cZ) A Q) (F0 m 0 ls []) := by
 obtain ⟨hx, hb, hr, hml, hown, hts, hlocks, hA⟩ := id C
 obtain ⟨hK, hI, hF⟩ := id K
 have hD : ∀ u, va_D A (rw a cA cZ G u) := fun u => rw_D hI hF
 have hS : va_S A s.heap s.heap [] := va_S.rf
 have h : wp_Model_isOf G x1 x2 x3 u Q := h
 refine lv_aload_n hx hb d_Model_isOf_0 rfl (lv_at hl 0 rfl) ?_
 refine lv_iload_n hx hb d_Model_isOf_1 rfl (lv_at hl 2 rfl) ?_
 refine lv_iload_n hx hb d_Model_isOf_2 rfl (lv_at hl 3 rfl) ?_
 refine cc_i (va_runV (As := [.int x2, .int x3]) (rest := []) ⟨hx, hb, hml, hown, hts⟩ (ct_Model_isPlace l D a cA cZ G _ x2 x3 u _ hI h) (pw_cwV 2 hts kw_916 kw_57 kw_913 kw_915 kw_23 (by decide +kernel) ⟨Nat.le_of_ble_eq_true rfl, Nat.le_of_ble_eq_true rfl⟩) ⟨pw_blind, va_recv hK hP (ci := 1) (q0 := 0) rfl rw_at_0, fun U hU hW => ⟨rfl, by rw [hU], by rw [hU]; exact hP, va_K.moved hW.alike hK⟩⟩ rfl rfl hl.1 rfl (lv_room (Nat.le_of_ble_eq_true rfl)) d_Model_isOf_3 ⟨Nat.le_of_ble_eq_true rfl, Nat.le_of_ble_eq_true rfl⟩) hS hF hA (fun r2 u1 H locs hP hS h => ?_)
 refine lv_if_eq (tgt := 35) hx hb d_Model_isOf_6 (by decide) (fun c3 => ?_) (fun c3 => ?_)
 · have h := h.1 c3
   refine lv_iconst (v := 0) hx hb d_Model_isOf_35 (by decide) ?_
   exact W.zret (v := 0) hx hb hr rfl (fun t ht hW => ⟨⟨0, u1, rfl, h, by rw [ht]; exact hP, va_K.moved hW.alike hK⟩, hS.F ht⟩) hS.2.2 d_Model_isOf_36 hlocks
 · have h := h.2 c3
   refine lv_aload_n hx hb d_Model_isOf_9 rfl (lv_at hl 0 rfl) ?_
   refine va_get (D := D) (ci := 1) (v := .ref (a 4)) (C := R_Model) (T := T_Model) (N := 23) hx hb hts in_Model hown hK hP 0 rw_at_0 rfl 7 (by decide) (hts _ (List.mem_cons_of_mem _ kw_842)) (fun _ h9 => h9) rfl d_Model_isOf_10 ?_
   refine lv_aload_n hx hb d_Model_isOf_13 rfl (lv_at hl 0 rfl) ?_
   refine va_get (D := D) (ci := 1) (v := .int (G.2.1 0)) (C := R_Model) (T := T_Model) (N := 23) hx hb hts in_Model hown hK hP 0 rw_at_0 rfl 1 (by decide) (hts _ (List.mem_cons_of_mem _ kw_836)) (fun _ h9 => h9) rfl d_Model_isOf_14 ?_
   refine lv_iload_n hx hb d_Model_isOf_17 rfl (lv_at hl 3 rfl) ?_
   refine lv_imul hx hb d_Model_isOf_18 ?_
   refine lv_iload_n hx hb d_Model_isOf_19 rfl (lv_at hl 2 rfl) ?_
   refine lv_iadd hx hb d_Model_isOf_20 ?_
   refine va_iald hx hb hK hP 4 0 rw_at_4 rfl h.1 d_Model_isOf_21 ?_
   have h := h.2
   refine lv_aload_n hx hb d_Model_isOf_22 rfl (lv_at hl 0 rfl) ?_
   refine va_get (D := D) (ci := 1) (v := .ref (a 5)) (C := R_Model) (T := T_Model) (N := 23) hx hb hts in_Model hown hK hP 0 rw_at_0 rfl 9 (by decide) (hts _ (List.mem_cons_of_mem _ kw_844)) (fun _ h9 => h9) rfl d_Model_isOf_23 ?_
   refine lv_iload_n hx hb d_Model_isOf_26 rfl (lv_at hl 1 rfl) ?_
   refine va_iald hx hb hK hP 5 0 rw_at_5 rfl h.1 d_Model_isOf_27 ?_
   have h := h.2
   refine lv_icmp_ne (tgt := 35) hx hb d_Model_isOf_28 (by decide) (fun c4 => ?_) (fun c4 => ?_)
   · have h := h.2 c4
     refine lv_iconst (v := 0) hx hb d_Model_isOf_35 (by decide) ?_
     exact W.zret (v := 0) hx hb hr rfl (fun t ht hW => ⟨⟨0, u1, rfl, h, by rw [ht]; exact hP, va_K.moved hW.alike hK⟩, hS.F ht⟩) hS.2.2 d_Model_isOf_36 hlocks
   · have h := h.1 c4
     refine lv_iconst (v := 1) hx hb d_Model_isOf_31 (by decide) ?_
     refine lv_goto (tgt := 36) hx hb d_Model_isOf_32 (by decide) ?_
     exact W.zret (v := 1) hx hb hr rfl (fun t ht hW => ⟨⟨1, u1, rfl, h, by rw [ht]; exact hP, va_K.moved hW.alike hK⟩, hS.F ht⟩) hS.2.2 d_Model_isOf_36 hlocks
set_option maxHeartbeats 4000000 in
set_option maxRecDepth 100000 in
theorem ct_Model_isOf (l : Launch) (D : va_G) (a : Nat → Nat) (cA cZ : ClassId) (G : pG) (sz : Nat) (x1 x2 x3 : Int32) (u : pS) (Q : Int32 → pS → Prop) (hI : pw_I 15 a) (h : wp_Model_isOf G x1 x2 x3 u Q) : Met l y_Model_isOf w_Model_isOf ({ frames := 1, cells := 0, slots := 0, locals := 22 } : Room) (va_Pc [.ref (a 0), .int x1, .int x2, .int x3] (pw_pre D (rw a cA cZ G) (rT cA cZ) sz u)) (va_Qi (fun (r : Int32) (u : pS) => Q r u) (pw_B D (rw a cA cZ G) (rT cA cZ)) (pw_F 15 a sz)) 0 0 (pw_F 15 a sz) := by
 refine Met.ofW (cc := b_Model_isOf) (maxL := 4) (ret := (some .boolean)) (by decide) rfl ?_
 intro p e s m args below meth c s₁ B hml hv
 obtain ⟨rfl, hsz, hP, hK⟩ := hv
 subst hsz
 have hl := lv_entry ([.ref (a 0), .int x1, .int x2, .int x3]) (n := 4) (Nat.le_of_ble_eq_true rfl)
 rw [lg_entry_eq]
 generalize (lg_sl ([.ref (a 0), .int x1, .int x2, .int x3]) ++ List.replicate (4 - (lg_sl ([.ref (a 0), .int x1, .int x2, .int x3])).length) Slot.unset).toArray = ls at hl ⊢
 exact st_Model_isOf (A := (pw_F 15 a s.heap.size)) ⟨B.exec, B.bytes, B.returns, hml, findClass_of_methodNamed B.named, atoms_spec (ws := w_Model_isOf) B.pre, B.notSynchronized, fun q hq => Or.inr hq⟩ ⟨hK, hI, fun k hk => Or.inl ⟨k, hk, rfl⟩⟩ x1 x2 x3 u ls hP hl h
