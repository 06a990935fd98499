set_option maxHeartbeats 4000000 in
set_option maxRecDepth 100000 in
theorem cp_PI_border_54 {p : Program} {l : Launch} {e : Env} {s : State} {m : MethodId} {args : Array Value} {below : List Frame} {meth : Method} {c : Code} {D : va_G} {a : Nat → Nat} {cA cZ : ClassId} {G : pG} {A : Nat → Prop} {Q : Int32 → pS → Prop} {X : Nat → pS → Prop} (C : pw_C p s m args meth c b_PI_border 9 R_PI (some .int) w_PI_border A) (K : pw_K s D 40 a (cT cA cZ) A) (EX : cw_Ex A s) (hL : px_L l) (htr : e.platform.stackTraces = false) (hE : ∀ (pc : Nat), ∀ x ∈ c.exceptionTable.toList, covers x pc = false) : ∀ (x3 x4 y2 : Int32) (u : pS) (H : Heap) (locs : List Loc) (ls : Array Slot), va_P D vwCl (cw a cA cZ G u) H → va_S A s.heap H locs → lv_has ls 9 [(3, .int x3), (4, .int x4)] → jn_PI_border_54 G Q X x3 x4 y2 u → W p l e ({ frames := 7, cells := 1, slots := 6, locals := 104 } : Room) s m args below meth c H locs 0 0 (px_Ei below args s D (cw a cA cZ G) (cT cA cZ) A Q X) (F0 m 54 ls [.int y2]) := by
 obtain ⟨hx, hb, hr, hml, hown, hts, hlocks, hA⟩ := id C
 obtain ⟨hK, hI, hF⟩ := id K
 have hD : ∀ u, va_D A (cw a cA cZ G u) := fun u => cw_D hI hF
 have hz : ∀ oc t, px_T X (pw_B D (cw a cA cZ G) (cT cA cZ)) oc t → va_F A s t → (px_Qi Q X (pw_B D (cw a cA cZ G) (cT cA cZ)) A) args s oc t := fun oc t h1 h2 => ⟨Or.inr h1, h2⟩
 intro x3 x4 y2 u H locs ls hP hS hl h
 refine lv_istore (lv' := [(5, .int y2), (3, .int x3), (4, .int x4)]) hx hb d_PI_border_54 hl (by decide) rfl (fun ls hl => ?_)
 refine lv_iload hx hb d_PI_border_56 (lv_at hl 2 rfl) ?_
 refine lv_iconst (v := 1) hx hb d_PI_border_58 (by decide) ?_
 refine va_mmax hx hb (by rw [hml]; exact hl.1.symm) hown (hts _ (List.mem_cons_of_mem _ kw_82)) (hts _ (List.mem_cons_of_mem _ kw_83)) (hts _ (List.mem_cons_of_mem _ kw_47)) (hts _ (List.mem_cons_of_mem _ kw_84)) (Nat.le_of_ble_eq_true rfl) (Nat.le_of_ble_eq_true rfl) (Nat.le_of_ble_eq_true rfl) (Nat.le_of_ble_eq_true rfl) d_PI_border_59 ?_
 refine lv_topi (fun t7 et7 => ?_)
 have h := h t7 et7
 refine lv_istore (lv' := [(6, .int t7), (5, .int y2), (3, .int x3), (4, .int x4)]) hx hb d_PI_border_62 hl (by decide) rfl (fun ls hl => ?_)
 refine lv_iload hx hb d_PI_border_64 (lv_at hl 0 rfl) ?_
 refine lv_iload hx hb d_PI_border_66 (lv_at hl 1 rfl) ?_
 refine cc_i (va_runS (As := [.int t7, .int y2]) (rest := []) ⟨hx, hb, hml, hown, hts⟩ (ct_PI_commonDivisor l D a cA cZ G _ t7 y2 u _ hI h) (pw_cwS 2 hts kw_818 kw_45 kw_816 kw_817 (by decide +kernel) ⟨Nat.le_of_ble_eq_true rfl, Nat.le_of_ble_eq_true rfl⟩) ⟨pw_blind, fun U hU hW => ⟨rfl, by rw [hU], by rw [hU]; exact hP, va_K.moved hW.alike hK⟩⟩ rfl rfl hl.1 rfl (lv_room (Nat.le_of_ble_eq_true rfl)) d_PI_border_68 ⟨Nat.le_of_ble_eq_true rfl, Nat.le_of_ble_eq_true rfl⟩) hS hF hA (fun r9 u8 H locs hP hS h => ?_)
 refine lv_istore (lv' := [(7, .int r9), (6, .int t7), (5, .int y2), (3, .int x3), (4, .int x4)]) hx hb d_PI_border_71 hl (by decide) rfl (fun ls hl => ?_)
 refine lv_iload_n hx hb d_PI_border_73 rfl (lv_at hl 3 rfl) ?_
 refine lv_iconst (v := 1) hx hb d_PI_border_74 (by decide) ?_
 refine lv_icmp_ne (tgt := 83) hx hb d_PI_border_75 (by decide) (fun c10 => ?_) (fun c10 => ?_)
 · have h := h.2 c10
   refine lv_iload hx hb d_PI_border_83 (lv_at hl 1 rfl) ?_
   refine lv_istore (lv' := [(8, .int t7), (7, .int r9), (6, .int t7), (5, .int y2), (3, .int x3), (4, .int x4)]) hx hb d_PI_border_85 hl (by decide) rfl (fun ls hl => ?_)
   refine lv_iload hx hb d_PI_border_87 (lv_at hl 1 rfl) ?_
   refine lv_if_le (tgt := 100) hx hb d_PI_border_89 (by decide) (fun c11 => ?_) (fun c11 => ?_)
   · have h := h.1 c11
     refine lv_iload hx hb d_PI_border_100 (lv_at hl 0 rfl) ?_
     exact px_mono (fun t h => px_ofMQ (fun _ _ h => h) h) (W.iret (Qc := px_Qi Q X (pw_B D (cw a cA cZ G) (cT cA cZ)) A) (v := t7) hx hb hr (fun t ht hW => ⟨Or.inl ⟨t7, u8, rfl, h, by rw [ht]; exact hP, va_K.moved hW.alike hK⟩, hS.F ht⟩) hS.2.2 d_PI_border_102 hlocks)
   · have h := h.2 c11
     refine lv_iload hx hb d_PI_border_92 (lv_at hl 0 rfl) ?_
     refine lv_iload hx hb d_PI_border_94 (lv_at hl 1 rfl) ?_
     refine lv_idiv hx hb d_PI_border_96 h.1 ?_
     have h := h.2
     refine lv_goto (tgt := 102) hx hb d_PI_border_97 (by decide) ?_
     exact px_mono (fun t h => px_ofMQ (fun _ _ h => h) h) (W.iret (Qc := px_Qi Q X (pw_B D (cw a cA cZ G) (cT cA cZ)) A) (v := (t7 / r9)) hx hb hr (fun t ht hW => ⟨Or.inl ⟨(t7 / r9), u8, rfl, h, by rw [ht]; exact hP, va_K.moved hW.alike hK⟩, hS.F ht⟩) hS.2.2 d_PI_border_102 hlocks)
 · have h := h.1 c10
   refine lv_iload hx hb d_PI_border_78 (lv_at hl 2 rfl) ?_
   refine lv_goto (tgt := 85) hx hb d_PI_border_80 (by decide) ?_
   refine lv_istore (lv' := [(8, .int y2), (7, .int r9), (6, .int t7), (5, .int y2), (3, .int x3), (4, .int x4)]) hx hb d_PI_border_85 hl (by decide) rfl (fun ls hl => ?_)
   refine lv_iload hx hb d_PI_border_87 (lv_at hl 1 rfl) ?_
   refine lv_if_le (tgt := 100) hx hb d_PI_border_89 (by decide) (fun c12 => ?_) (fun c12 => ?_)
   · have h := h.1 c12
     refine lv_iload hx hb d_PI_border_100 (lv_at hl 0 rfl) ?_
     exact px_mono (fun t h => px_ofMQ (fun _ _ h => h) h) (W.iret (Qc := px_Qi Q X (pw_B D (cw a cA cZ G) (cT cA cZ)) A) (v := y2) hx hb hr (fun t ht hW => ⟨Or.inl ⟨y2, u8, rfl, h, by rw [ht]; exact hP, va_K.moved hW.alike hK⟩, hS.F ht⟩) hS.2.2 d_PI_border_102 hlocks)
   · have h := h.2 c12
     refine lv_iload hx hb d_PI_border_92 (lv_at hl 0 rfl) ?_
     refine lv_iload hx hb d_PI_border_94 (lv_at hl 1 rfl) ?_
     refine lv_idiv hx hb d_PI_border_96 h.1 ?_
     have h := h.2
     refine lv_goto (tgt := 102) hx hb d_PI_border_97 (by decide) ?_
     exact px_mono (fun t h => px_ofMQ (fun _ _ h => h) h) (W.iret (Qc := px_Qi Q X (pw_B D (cw a cA cZ G) (cT cA cZ)) A) (v := (y2 / r9)) hx hb hr (fun t ht hW => ⟨Or.inl ⟨(y2 / r9), u8, rfl, h, by rw [ht]; exact hP, va_K.moved hW.alike hK⟩, hS.F ht⟩) hS.2.2 d_PI_border_102 hlocks)
set_option maxHeartbeats 4000000 in
set_option maxRecDepth 100000 in
theorem cp_PI_border_30 {p : Program} {l : Launch} {e : Env} {s : State} {m : MethodId} {args : Array Value} {below : List Frame} {meth : Method} {c : Code} {D : va_G} {a : Nat → Nat} {cA cZ : ClassId} {G : pG} {A : Nat → Prop} {Q : Int32 → pS → Prop} {X : Nat → pS → Prop} (C : pw_C p s m args meth c b_PI_border 9 R_PI (some .int) w_PI_border A) (K : pw_K s D 40 a (cT cA cZ) A) (EX : cw_Ex A s) (hL : px_L l) (htr : e.platform.stackTraces = false) (hE : ∀ (pc : Nat), ∀ x ∈ c.exceptionTable.toList, covers x pc = false) : ∀ (x1 x2 x3 y3 : Int32) (u : pS) (H : Heap) (locs : List Loc) (ls : Array Slot), va_P D vwCl (cw a cA cZ G u) H → va_S A s.heap H locs → lv_has ls 9 [(1, .int x1), (2, .int x2), (3, .int x3)] → jn_PI_border_30 G Q X x1 x2 x3 y3 u → W p l e ({ frames := 7, cells := 1, slots := 6, locals := 104 } : Room) s m args below meth c H locs 0 0 (px_Ei below args s D (cw a cA cZ G) (cT cA cZ) A Q X) (F0 m 30 ls [.int y3]) := by
 obtain ⟨hx, hb, hr, hml, hown, hts, hlocks, hA⟩ := id C
 obtain ⟨hK, hI, hF⟩ := id K
 have hD : ∀ u, va_D A (cw a cA cZ G u) := fun u => cw_D hI hF
 have hz : ∀ oc t, px_T X (pw_B D (cw a cA cZ G) (cT cA cZ)) oc t → va_F A s t → (px_Qi Q X (pw_B D (cw a cA cZ G) (cT cA cZ)) A) args s oc t := fun oc t h1 h2 => ⟨Or.inr h1, h2⟩
 intro x1 x2 x3 y3 u H locs ls hP hS hl h
 refine lv_istore (lv' := [(4, .int y3), (1, .int x1), (2, .int x2), (3, .int x3)]) hx hb d_PI_border_30 hl (by decide) rfl (fun ls hl => ?_)
 refine lv_iload_n hx hb d_PI_border_32 rfl (lv_at hl 3 rfl) ?_
 refine lv_if_ne (tgt := 39) hx hb d_PI_border_33 (by decide) (fun c5 => ?_) (fun c5 => ?_)
 · have h := h.2 c5
   refine lv_iload hx hb d_PI_border_39 (lv_at hl 0 rfl) ?_
   refine lv_if_le (tgt := 53) hx hb d_PI_border_41 (by decide) (fun c6 => ?_) (fun c6 => ?_)
   · have h := h.1 c6
     refine lv_iconst (v := 0) hx hb d_PI_border_53 (by decide) ?_
     exact cp_PI_border_54 C K EX hL htr hE x3 y3 0 u _ _ _ hP hS (lv_sub hl [3, 0] rfl) h
   · have h := h.2 c6
     refine lv_iload_n hx hb d_PI_border_44 rfl (lv_at hl 1 rfl) ?_
     refine lv_iload hx hb d_PI_border_45 (lv_at hl 0 rfl) ?_
     refine lv_iload_n hx hb d_PI_border_47 rfl (lv_at hl 2 rfl) ?_
     refine lv_imul hx hb d_PI_border_48 ?_
     refine lv_isub hx hb d_PI_border_49 ?_
     refine lv_goto (tgt := 54) hx hb d_PI_border_50 (by decide) ?_
     exact cp_PI_border_54 C K EX hL htr hE x3 y3 (x1 - (y3 * x2)) u _ _ _ hP hS (lv_sub hl [3, 0] rfl) h
 · have h := h.1 c5
   refine lv_iload hx hb d_PI_border_36 (lv_at hl 0 rfl) ?_
   exact px_mono (fun t h => px_ofMQ (fun _ _ h => h) h) (W.iret (Qc := px_Qi Q X (pw_B D (cw a cA cZ G) (cT cA cZ)) A) (v := y3) hx hb hr (fun t ht hW => ⟨Or.inl ⟨y3, u, rfl, h, by rw [ht]; exact hP, va_K.moved hW.alike hK⟩, hS.F ht⟩) hS.2.2 d_PI_border_38 hlocks)
set_option maxHeartbeats 4000000 in
set_option maxRecDepth 100000 in
theorem st_PI_border {p : Program} {l : Launch} {e : Env} {s : State} {m : MethodId} {args : Array Value} {below : List Frame} {meth : Method} {c : Code} {D : va_G} {a : Nat → Nat} {cA cZ : ClassId} {G : pG} {A : Nat → Prop} {Q : Int32 → pS → Prop} {X : Nat → pS → Prop} (C : pw_C p s m args meth c b_PI_border 9 R_PI (some .int) w_PI_border A) (K : pw_K s D 40 a (cT cA cZ) A) (EX : cw_Ex A s) (hL : px_L l) (htr : e.platform.stackTraces = false) (hE : ∀ (pc : Nat), ∀ x ∈ c.exceptionTable.toList, covers x pc = false) (x1 x2 x3 : Int32) (u : pS) (ls : Array Slot) (hP : va_P D vwCl (cw a cA cZ G u) s.heap) (hl : lv_has ls 9 [(0, .ref (a 0)), (1, .int x1), (2, .int x2), (3, .int x3)]) (h : wp_PI_border G x1 x2 x3 u Q X) : W p l e ({ frames := 7, cells := 1, slots := 6, locals := 104 } : Room) s m args below meth c s.heap [] 0 0 (px_Ei below args s D (cw a cA cZ G) (cT cA cZ) A Q X) (F0 m 0 ls []) := by
 obtain ⟨hx, hb, hr, hml, hown, hts, hlocks, hA⟩ := id C
 obtain ⟨hK, hI, hF⟩ := id K
 have hD : ∀ u, va_D A (cw a cA cZ G u) := fun u => cw_D hI hF
 have hz : ∀ oc t, px_T X (pw_B D (cw a cA cZ G) (cT cA cZ)) oc t → va_F A s t → (px_Qi Q X (pw_B D (cw a cA cZ G) (cT cA cZ)) A) args s oc t := fun oc t h1 h2 => ⟨Or.inr h1, h2⟩
 have hS : va_S A s.heap s.heap [] := va_S.rf
 have h : wp_PI_border G x1 x2 x3 u Q X := h
 refine lv_iload_n hx hb d_PI_border_0 rfl (lv_at hl 3 rfl) ?_
 refine lv_iconst (v := 3) hx hb d_PI_border_1 (by decide) ?_
 refine cx_v (px_runS (As := [.int x3, .int 3]) (rest := []) ⟨hx, hb, hml, hown, hts⟩ (ct_PI_needIndex l D a cA cZ G _ x3 3 u _ _ hL hI h) (pw_cwS 2 hts kw_367 kw_45 kw_365 kw_366 (by decide +kernel) ⟨Nat.le_of_ble_eq_true rfl, Nat.le_of_ble_eq_true rfl⟩) ⟨cw_blindX, fun U hU hW => ⟨rfl, ⟨by rw [hU], by rw [hU]; exact hP, va_K.moved hW.alike hK⟩, cw_Ex_call EX hS (pw_FA hS hF hA) hU hW⟩⟩ rfl rfl hl.1 rfl (lv_room (Nat.le_of_ble_eq_true rfl)) d_PI_border_2 ⟨Nat.le_of_ble_eq_true rfl, Nat.le_of_ble_eq_true rfl⟩) hS hF hA (hE _) hlocks hz (fun u1 H locs hP hS h => ?_)
 refine lv_iload_n hx hb d_PI_border_5 rfl (lv_at hl 1 rfl) ?_
 refine lv_iconst (v := 1) hx hb d_PI_border_6 (by decide) ?_
 refine lv_ldc (v := 1000000) hx hb hown (hts _ (List.mem_cons_of_mem _ kw_815)) d_PI_border_7 ?_
 refine cx_v (px_runS (As := [.int x1, .int 1, .int 1000000]) (rest := []) ⟨hx, hb, hml, hown, hts⟩ (ct_PI_needNumber l D a cA cZ G _ x1 1 1000000 u1 _ _ hL hI h) (pw_cwS 3 hts kw_441 kw_45 kw_439 kw_440 (by decide +kernel) ⟨Nat.le_of_ble_eq_true rfl, Nat.le_of_ble_eq_true rfl⟩) ⟨cw_blindX, fun U hU hW => ⟨rfl, ⟨by rw [hU], by rw [hU]; exact hP, va_K.moved hW.alike hK⟩, cw_Ex_call EX hS (pw_FA hS hF hA) hU hW⟩⟩ rfl rfl hl.1 rfl (lv_room (Nat.le_of_ble_eq_true rfl)) d_PI_border_9 ⟨Nat.le_of_ble_eq_true rfl, Nat.le_of_ble_eq_true rfl⟩) hS hF hA (hE _) hlocks hz (fun u2 H locs hP hS h => ?_)
 refine lv_iload_n hx hb d_PI_border_12 rfl (lv_at hl 2 rfl) ?_
 refine lv_iconst (v := 1) hx hb d_PI_border_13 (by decide) ?_
 refine lv_ldc (v := 1000000) hx hb hown (hts _ (List.mem_cons_of_mem _ kw_815)) d_PI_border_14 ?_
 refine cx_v (px_runS (As := [.int x2, .int 1, .int 1000000]) (rest := []) ⟨hx, hb, hml, hown, hts⟩ (ct_PI_needNumber l D a cA cZ G _ x2 1 1000000 u2 _ _ hL hI h) (pw_cwS 3 hts kw_441 kw_45 kw_439 kw_440 (by decide +kernel) ⟨Nat.le_of_ble_eq_true rfl, Nat.le_of_ble_eq_true rfl⟩) ⟨cw_blindX, fun U hU hW => ⟨rfl, ⟨by rw [hU], by rw [hU]; exact hP, va_K.moved hW.alike hK⟩, cw_Ex_call EX hS (pw_FA hS hF hA) hU hW⟩⟩ rfl rfl hl.1 rfl (lv_room (Nat.le_of_ble_eq_true rfl)) d_PI_border_16 ⟨Nat.le_of_ble_eq_true rfl, Nat.le_of_ble_eq_true rfl⟩) hS hF hA (hE _) hlocks hz (fun u3 H locs hP hS h => ?_)
 refine lv_iload_n hx hb d_PI_border_19 rfl (lv_at hl 2 rfl) ?_
 refine lv_if_le (tgt := 29) hx hb d_PI_border_20 (by decide) (fun c4 => ?_) (fun c4 => ?_)
 · have h := h.1 c4
   refine lv_iconst (v := 0) hx hb d_PI_border_29 (by decide) ?_
   exact cp_PI_border_30 C K EX hL htr hE x1 x2 x3 0 u3 _ _ _ hP hS (lv_sub hl [1, 2, 3] rfl) h
 · have h := h.2 c4
   refine lv_iload_n hx hb d_PI_border_23 rfl (lv_at hl 1 rfl) ?_
   refine lv_iload_n hx hb d_PI_border_24 rfl (lv_at hl 2 rfl) ?_
   refine lv_idiv hx hb d_PI_border_25 h.1 ?_
   have h := h.2
   refine lv_goto (tgt := 30) hx hb d_PI_border_26 (by decide) ?_
   exact cp_PI_border_30 C K EX hL htr hE x1 x2 x3 (x1 / x2) u3 _ _ _ hP hS (lv_sub hl [1, 2, 3] rfl) h
set_option maxHeartbeats 4000000 in
set_option maxRecDepth 100000 in
theorem ct_PI_border (l : Launch) (D : va_G) (a : Nat → Nat) (cA cZ : ClassId) (G : pG) (sz : Nat) (x1 x2 x3 : Int32) (u : pS) (Q : Int32 → pS → Prop) (X : Nat → pS → Prop) (hL : px_L l) (hI : pw_I 40 a) (h : wp_PI_border G x1 x2 x3 u Q X) : px_Met l y_PI_border w_PI_border ({ frames := 7, cells := 1, slots := 6, locals := 104 } : Room) (va_Pc [.ref (a 0), .int x1, .int x2, .int x3] (fun U => pw_pre D (cw a cA cZ G) (cT cA cZ) sz u U ∧ cw_Ex (pw_F 40 a sz) U)) (px_Qi Q X (pw_B D (cw a cA cZ G) (cT cA cZ)) (pw_F 40 a sz)) 0 0 1 6 (pw_F 40 a sz) := by
 refine px_ofW (cc := b_PI_border) (maxL := 9) (ret := (some .int)) (by decide) rfl ?_
 intro p e s m args below meth c s₁ B hml hE hv
 obtain ⟨rfl, ⟨hsz, hP, hK⟩, EX⟩ := hv
 subst hsz
 have hl := lv_entry ([.ref (a 0), .int x1, .int x2, .int x3]) (n := 9) (Nat.le_of_ble_eq_true rfl)
 rw [lg_entry_eq]
 generalize (lg_sl ([.ref (a 0), .int x1, .int x2, .int x3]) ++ List.replicate (9 - (lg_sl ([.ref (a 0), .int x1, .int x2, .int x3])).length) Slot.unset).toArray = ls at hl ⊢
 exact st_PI_border (A := (pw_F 40 a s.heap.size)) ⟨B.exec, B.bytes, B.returns, hml, findClass_of_methodNamed B.named, atoms_spec (ws := w_PI_border) B.pre, B.notSynchronized, fun q hq => Or.inr hq⟩ ⟨hK, hI, fun k hk => Or.inl ⟨k, hk, rfl⟩⟩ EX hL (hL e B.admits) (px_none hE) x1 x2 x3 u ls hP hl h
set_option maxHeartbeats 4000000 in
set_option maxRecDepth 100000 in
theorem st_Colours_brightness_woods {p : Program} {l : Launch} {e : Env} {s : State} {m : MethodId} {args : Array Value} {below : List Frame} {meth : Method} {c : Code} {D : va_G} {a : Nat → Nat} {cA cZ : ClassId} {G : pG} {A : Nat → Prop} {Q : Int32 → pS → Prop} (C : pw_C p s m args meth c b_Colours_brightness 2 R_Colours (some .int) w_Colours_brightness A) (K : pw_K s D 40 a (cT cA cZ) A) (x1 : Int32) (u : pS) (ls : Array Slot) (hP : va_P D vwCl (cw a cA cZ G u) s.heap) (hl : lv_has ls 2 [(0, .ref (a 3)), (1, .int x1)]) (h : wp_Colours_brightness_woods G x1 u Q) : W p l e ({ frames := 0, cells := 0, slots := 0, locals := 0 } : Room) s m args below meth c s.heap [] 0 0 (pw_Ei below args s D (cw a cA cZ G) (cT cA cZ) A Q) (F0 m 0 ls []) := by
 obtain ⟨hx, hb, hr, hml, hown, hts, hlocks, hA⟩ := id C
 obtain ⟨hK, hI, hF⟩ := id K
 have hD : ∀ u, va_D A (cw a cA cZ G u) := fun u => cw_D hI hF
 have hS : va_S A s.heap s.heap [] := va_S.rf
 have h : wp_Colours_brightness_woods G x1 u Q := h
 refine lv_iconst (v := 2) hx hb d_Colours_brightness_0 (by decide) ?_
 refine lv_aload_n hx hb d_Colours_brightness_1 rfl (lv_at hl 0 rfl) ?_
 refine va_get (D := D) (ci := 3) (v := .ref (a 17)) (C := R_Colours) (T := T_Colours) (N := 3) hx hb hts in_Colours hown hK hP 3 cw_at_3 rfl 0 (by decide) (hts _ (List.mem_cons_of_mem _ kw_135)) (fun _ h9 => h9) rfl d_Colours_brightness_2 ?_
 refine lv_iload_n hx hb d_Colours_brightness_5 rfl (lv_at hl 1 rfl) ?_
 refine va_iald hx hb hK hP 17 0 cw_at_17 rfl h.1 d_Colours_brightness_6 ?_
 have h := h.2
 refine lv_imul hx hb d_Colours_brightness_7 ?_
 refine lv_iconst (v := 5) hx hb d_Colours_brightness_8 (by decide) ?_
 refine lv_aload_n hx hb d_Colours_brightness_9 rfl (lv_at hl 0 rfl) ?_
 refine va_get (D := D) (ci := 3) (v := .ref (a 18)) (C := R_Colours) (T := T_Colours) (N := 3) hx hb hts in_Colours hown hK hP 3 cw_at_3 rfl 1 (by decide) (hts _ (List.mem_cons_of_mem _ kw_136)) (fun _ h9 => h9) rfl d_Colours_brightness_10 ?_
 refine lv_iload_n hx hb d_Colours_brightness_13 rfl (lv_at hl 1 rfl) ?_
 refine va_iald hx hb hK hP 18 0 cw_at_18 rfl h.1 d_Colours_brightness_14 ?_
 have h := h.2
 refine lv_imul hx hb d_Colours_brightness_15 ?_
 refine lv_iadd hx hb d_Colours_brightness_16 ?_
 refine lv_aload_n hx hb d_Colours_brightness_17 rfl (lv_at hl 0 rfl) ?_
 refine va_get (D := D) (ci := 3) (v := .ref (a 19)) (C := R_Colours) (T := T_Colours) (N := 3) hx hb hts in_Colours hown hK hP 3 cw_at_3 rfl 2 (by decide) (hts _ (List.mem_cons_of_mem _ kw_137)) (fun _ h9 => h9) rfl d_Colours_brightness_18 ?_
 refine lv_iload_n hx hb d_Colours_brightness_21 rfl (lv_at hl 1 rfl) ?_
 refine va_iald hx hb hK hP 19 0 cw_at_19 rfl h.1 d_Colours_brightness_22 ?_
 have h := h.2
 refine lv_iadd hx hb d_Colours_brightness_23 ?_
 exact W.iret (v := (((2 * (u.2 3 x1.toNatClampNeg)) + (5 * (u.2 4 x1.toNatClampNeg))) + (u.2 5 x1.toNatClampNeg))) hx hb hr (fun t ht hW => ⟨⟨(((2 * (u.2 3 x1.toNatClampNeg)) + (5 * (u.2 4 x1.toNatClampNeg))) + (u.2 5 x1.toNatClampNeg)), u, rfl, h, by rw [ht]; exact hP, va_K.moved hW.alike hK⟩, hS.F ht⟩) hS.2.2 d_Colours_brightness_24 hlocks
set_option maxHeartbeats 4000000 in
set_option maxRecDepth 100000 in
theorem ct_Colours_brightness_woods (l : Launch) (D : va_G) (a : Nat → Nat) (cA cZ : ClassId) (G : pG) (sz : Nat) (x1 : Int32) (u : pS) (Q : Int32 → pS → Prop) (hI : pw_I 40 a) (h : wp_Colours_brightness_woods G x1 u Q) : Met l y_Colours_brightness w_Colours_brightness ({ frames := 0, cells := 0, slots := 0, locals := 0 } : Room) (va_Pc [.ref (a 3), .int x1] (pw_pre D (cw a cA cZ G) (cT cA cZ) sz u)) (va_Qi (fun (r : Int32) (u : pS) => Q r u) (pw_B D (cw a cA cZ G) (cT cA cZ)) (pw_F 40 a sz)) 0 0 (pw_F 40 a sz) := by
 refine Met.ofW (cc := b_Colours_brightness) (maxL := 2) (ret := (some .int)) (by decide) rfl ?_
 intro p e s m args below meth c s₁ B hml hv
 obtain ⟨rfl, hsz, hP, hK⟩ := hv
 subst hsz
 have hl := lv_entry ([.ref (a 3), .int x1]) (n := 2) (Nat.le_of_ble_eq_true rfl)
 rw [lg_entry_eq]
 generalize (lg_sl ([.ref (a 3), .int x1]) ++ List.replicate (2 - (lg_sl ([.ref (a 3), .int x1])).length) Slot.unset).toArray = ls at hl ⊢
 exact st_Colours_brightness_woods (A := (pw_F 40 a s.heap.size)) ⟨B.exec, B.bytes, B.returns, hml, findClass_of_methodNamed B.named, atoms_spec (ws := w_Colours_brightness) B.pre, B.notSynchronized, fun q hq => Or.inr hq⟩ ⟨hK, hI, fun k hk => Or.inl ⟨k, hk, rfl⟩⟩ x1 u ls hP hl h
set_option maxHeartbeats 4000000 in
set_option maxRecDepth 100000 in
theorem st_Brightest_compare {p : Program} {l : Launch} {e : Env} {s : State} {m : MethodId} {args : Array Value} {below : List Frame} {meth : Method} {c : Code} {D : va_G} {a : Nat → Nat} {cA cZ : ClassId} {G : pG} {A : Nat → Prop} {Q : Int32 → pS → Prop} (C : pw_C p s m args meth c b_Brightest_compare 3 R_Brightest (some .int) w_Brightest_compare A) (K : pw_K s D 40 a (cT cA cZ) A) (x1 x2 : Int32) (u : pS) (ls : Array Slot) (hP : va_P D vwCl (cw a cA cZ G u) s.heap) (hl : lv_has ls 3 [(0, .ref (a 5)), (1, .int x1), (2, .int x2)]) (h : wp_Brightest_compare G x1 x2 u Q) : W p l e ({ frames := 1, cells := 0, slots := 0, locals := 21 } : Room) s m args below meth c s.heap [] 0 0 (pw_Ei below args s D (cw a cA cZ G) (cT cA cZ) A Q) (F0 m 0 ls []) := by
 obtain ⟨hx, hb, hr, hml, hown, hts, hlocks, hA⟩ := id C
 obtain ⟨hK, hI, hF⟩ := id K
 have hD : ∀ u, va_D A (cw a cA cZ G u) := fun u => cw_D hI hF
 have hS : va_S A s.heap s.heap [] := va_S.rf
 have h : wp_Brightest_compare G x1 x2 u Q := h
 refine lv_aload_n hx hb d_Brightest_compare_0 rfl (lv_at hl 0 rfl) ?_
 refine va_get (D := D) (ci := 2) (v := .ref (a 3)) (C := R_Brightest) (T := T_Brightest) (N := 2) hx hb hts in_Brightest hown hK hP 5 cw_at_5 rfl 1 (by decide) (hts _ (List.mem_cons_of_mem _ kw_196)) (fun _ h9 => h9) rfl d_Brightest_compare_1 ?_
 refine lv_iload_n hx hb d_Brightest_compare_4 rfl (lv_at hl 2 rfl) ?_
 refine cc_i (va_runV (As := [.int x2]) (rest := []) ⟨hx, hb, hml, hown, hts⟩ (ct_Colours_brightness_woods l D a cA cZ G _ x2 u _ hI h) (pw_cwV 1 hts kw_568 kw_48 kw_565 kw_566 kw_567 (by decide +kernel) ⟨Nat.le_of_ble_eq_true rfl, Nat.le_of_ble_eq_true rfl⟩) ⟨pw_blind, va_recv hK hP (ci := 3) (q0 := 3) rfl cw_at_3, fun U hU hW => ⟨rfl, by rw [hU], by rw [hU]; exact hP, va_K.moved hW.alike hK⟩⟩ rfl rfl hl.1 rfl (lv_room (Nat.le_of_ble_eq_true rfl)) d_Brightest_compare_5 ⟨Nat.le_of_ble_eq_true rfl, Nat.le_of_ble_eq_true rfl⟩) hS hF hA (fun r2 u1 H locs hP hS h => ?_)
 refine lv_aload_n hx hb d_Brightest_compare_8 rfl (lv_at hl 0 rfl) ?_
 refine va_get (D := D) (ci := 2) (v := .ref (a 3)) (C := R_Brightest) (T := T_Brightest) (N := 2) hx hb hts in_Brightest hown hK hP 5 cw_at_5 rfl 1 (by decide) (hts _ (List.mem_cons_of_mem _ kw_196)) (fun _ h9 => h9) rfl d_Brightest_compare_9 ?_
 refine lv_iload_n hx hb d_Brightest_compare_12 rfl (lv_at hl 1 rfl) ?_
 refine cc_i (va_runV (As := [.int x1]) (rest := [.int r2]) ⟨hx, hb, hml, hown, hts⟩ (ct_Colours_brightness_woods l D a cA cZ G _ x1 u1 _ hI h) (pw_cwV 1 hts kw_568 kw_48 kw_565 kw_566 kw_567 (by decide +kernel) ⟨Nat.le_of_ble_eq_true rfl, Nat.le_of_ble_eq_true rfl⟩) ⟨pw_blind, va_recv hK hP (ci := 3) (q0 := 3) rfl cw_at_3, fun U hU hW => ⟨rfl, by rw [hU], by rw [hU]; exact hP, va_K.moved hW.alike hK⟩⟩ rfl rfl hl.1 rfl (lv_room (Nat.le_of_ble_eq_true rfl)) d_Brightest_compare_13 ⟨Nat.le_of_ble_eq_true rfl, Nat.le_of_ble_eq_true rfl⟩) hS hF hA (fun r4 u3 H locs hP hS h => ?_)
 refine cc_i (va_runS (As := [.int r2, .int r4]) (rest := []) ⟨hx, hb, hml, hown, hts⟩ (ct_Integer_compare l D a cA cZ G _ r2 r4 u3 _ hI h) (pw_cwS 2 hts kw_571 kw_64 kw_569 kw_570 (by decide +kernel) ⟨Nat.le_of_ble_eq_true rfl, Nat.le_of_ble_eq_true rfl⟩) ⟨pw_blind, fun U hU hW => ⟨rfl, by rw [hU], by rw [hU]; exact hP, va_K.moved hW.alike hK⟩⟩ rfl rfl hl.1 rfl (lv_room (Nat.le_of_ble_eq_true rfl)) d_Brightest_compare_16 ⟨Nat.le_of_ble_eq_true rfl, Nat.le_of_ble_eq_true rfl⟩) hS hF hA (fun r6 u5 H locs hP hS h => ?_)
 exact W.iret (v := r6) hx hb hr (fun t ht hW => ⟨⟨r6, u5, rfl, h, by rw [ht]; exact hP, va_K.moved hW.alike hK⟩, hS.F ht⟩) hS.2.2 d_Brightest_compare_19 hlocks
set_option maxHeartbeats 4000000 in
set_option maxRecDepth 100000 in
theorem ct_Brightest_compare (l : Launch) (D : va_G) (a : Nat → Nat) (cA cZ : ClassId) (G : pG) (sz : Nat) (x1 x2 : Int32) (u : pS) (Q : Int32 → pS → Prop) (hI : pw_I 40 a) (h : wp_Brightest_compare G x1 x2 u Q) : Met l y_Brightest_compare w_Brightest_compare ({ frames := 1, cells := 0, slots := 0, locals := 21 } : Room) (va_Pc [.ref (a 5), .int x1, .int x2] (pw_pre D (cw a cA cZ G) (cT cA cZ) sz u)) (va_Qi (fun (r : Int32) (u : pS) => Q r u) (pw_B D (cw a cA cZ G) (cT cA cZ)) (pw_F 40 a sz)) 0 0 (pw_F 40 a sz) := by
 refine Met.ofW (cc := b_Brightest_compare) (maxL := 3) (ret := (some .int)) (by decide) rfl ?_
 intro p e s m args below meth c s₁ B hml hv
 obtain ⟨rfl, hsz, hP, hK⟩ := hv
 subst hsz
 have hl := lv_entry ([.ref (a 5), .int x1, .int x2]) (n := 3) (Nat.le_of_ble_eq_true rfl)
 rw [lg_entry_eq]
 generalize (lg_sl ([.ref (a 5), .int x1, .int x2]) ++ List.replicate (3 - (lg_sl ([.ref (a 5), .int x1, .int x2])).length) Slot.unset).toArray = ls at hl ⊢
 exact st_Brightest_compare (A := (pw_F 40 a s.heap.size)) ⟨B.exec, B.bytes, B.returns, hml, findClass_of_methodNamed B.named, atoms_spec (ws := w_Brightest_compare) B.pre, B.notSynchronized, fun q hq => Or.inr hq⟩ ⟨hK, hI, fun k hk => Or.inl ⟨k, hk, rfl⟩⟩ x1 x2 u ls hP hl h
set_option maxHeartbeats 4000000 in
set_option maxRecDepth 100000 in
theorem cp_Ranking_rank_brightest_18 {p : Program} {l : Launch} {e : Env} {s : State} {m : MethodId} {args : Array Value} {below : List Frame} {meth : Method} {c : Code} {D : va_G} {a : Nat → Nat} {cA cZ : ClassId} {G : pG} {A : Nat → Prop} {Q : pS → Prop} (C : pw_C p s m args meth c b_Ranking_rank 4 R_Ranking none w_Ranking_rank A) (K : pw_K s D 40 a (cT cA cZ) A) (EX : cw_Ex A s) {k2 : Int32 → Int32 → pS → Prop} (hk2 : ∀ (x1 x2 : Int32) (u : pS) (H : Heap) (locs : List Loc) (ls : Array Slot), va_P D vwCl (cw a cA cZ G u) H → va_S A s.heap H locs → lv_has ls 4 [(0, .ref (a 5)), (1, .int x1), (2, .int x2)] → k2 x1 x2 u → W p l e ({ frames := 2, cells := 0, slots := 0, locals := 43 } : Room) s m args below meth c H locs 0 0 (pw_Ev below args s D (cw a cA cZ G) (cT cA cZ) A Q) (F0 m 2 ls [])) : ∀ (n : Nat), ∀ (x1 x2 x3 : Int32) (u : pS) (H : Heap) (locs : List Loc) (ls : Array Slot), va_P D vwCl (cw a cA cZ G u) H → va_S A s.heap H locs → lv_has ls 4 [(0, .ref (a 5)), (1, .int x1), (2, .int x2), (3, .int x3)] → lp_Ranking_rank_brightest_18 G Q k2 n x1 x2 x3 u → W p l e ({ frames := 2, cells := 0, slots := 0, locals := 43 } : Room) s m args below meth c H locs 0 0 (pw_Ev below args s D (cw a cA cZ G) (cT cA cZ) A Q) (F0 m 18 ls []) := by
 obtain ⟨hx, hb, hr, hml, hown, hts, hlocks, hA⟩ := id C
 obtain ⟨hK, hI, hF⟩ := id K
 have hD : ∀ u, va_D A (cw a cA cZ G u) := fun u => cw_D hI hF
 intro n
 induction n with
 | zero => intro x1 x2 x3 u H locs ls hP hS hl h; exact h.elim
 | succ n ih =>
   intro x1 x2 x3 u H locs ls hP hS hl h
   refine lv_iload_n hx hb d_Ranking_rank_18 rfl (lv_at hl 3 rfl) ?_
   refine lv_if_le (tgt := 58) hx hb d_Ranking_rank_19 (by decide) (fun c3 => ?_) (fun c3 => ?_)
   · have h := h.1 c3
     refine lv_aload_n hx hb d_Ranking_rank_58 rfl (lv_at hl 0 rfl) ?_
     refine va_get (D := D) (ci := 2) (v := .ref (a 29)) (C := R_Brightest) (T := T_Brightest) (N := 2) hx hb hts in_Brightest hown hK hP 5 cw_at_5 rfl 0 (by decide) (hts _ (List.mem_cons_of_mem _ kw_197)) (fun _ h9 => h9) rfl d_Ranking_rank_59 ?_
     refine lv_iload_n hx hb d_Ranking_rank_62 rfl (lv_at hl 3 rfl) ?_
     refine lv_iload_n hx hb d_Ranking_rank_63 rfl (lv_at hl 2 rfl) ?_
     refine va_iast hx hb hK hP (hD _) hS 29 0 cw_at_29 rfl h.1 d_Ranking_rank_64 (fun H locs hP _ hS => ?_)
     obtain ⟨u4, eu4⟩ : ∃ z, z = pw_sa u 15 (upd (u.2 15) x3.toNatClampNeg x2) := ⟨_, rfl⟩
     rw [cw_sa_29, ← eu4] at hP
     have h := h.2 u4 eu4
     obtain ⟨t5, et5⟩ : ∃ y : Int32, y = x2 + 1 := ⟨_, rfl⟩
     have h := h t5 et5
     refine lv_iinc (v := t5) (lv' := [(2, .int t5), (0, .ref (a 5)), (1, .int x1), (3, .int x3)]) hx hb d_Ranking_rank_65 hl (k := 2) rfl (by rw [et5]; rfl) (by decide) rfl (fun ls hl => ?_)
     refine lv_goto (tgt := 2) hx hb d_Ranking_rank_68 (by decide) ?_
     exact hk2 x1 t5 u4 _ _ _ hP hS (lv_sub hl [1, 2, 0] rfl) h
   · have h := h.2 c3
     refine lv_aload_n hx hb d_Ranking_rank_22 rfl (lv_at hl 0 rfl) ?_
     refine lv_iload_n hx hb d_Ranking_rank_23 rfl (lv_at hl 2 rfl) ?_
     refine lv_aload_n hx hb d_Ranking_rank_24 rfl (lv_at hl 0 rfl) ?_
     refine va_get (D := D) (ci := 2) (v := .ref (a 29)) (C := R_Brightest) (T := T_Brightest) (N := 2) hx hb hts in_Brightest hown hK hP 5 cw_at_5 rfl 0 (by decide) (hts _ (List.mem_cons_of_mem _ kw_197)) (fun _ h9 => h9) rfl d_Ranking_rank_25 ?_
     refine lv_iload_n hx hb d_Ranking_rank_28 rfl (lv_at hl 3 rfl) ?_
     refine lv_iconst (v := 1) hx hb d_Ranking_rank_29 (by decide) ?_
     refine lv_isub hx hb d_Ranking_rank_30 ?_
     refine va_iald hx hb hK hP 29 0 cw_at_29 rfl h.1 d_Ranking_rank_31 ?_
     have h := h.2
     refine cc_i (va_runU (As := [.int x2, .int (u.2 15 (x3 - 1).toNatClampNeg)]) (rest := []) ⟨hx, hb, hml, hown, hts⟩ (ct_Brightest_compare l D a cA cZ G _ x2 (u.2 15 (x3 - 1).toNatClampNeg) u _ hI h) (pw_cwO (owner := "PictureInlays$Ranking") 2 hts kw_564 kw_51 kw_559 kw_561 kw_562 kw_563 (EX.1.1.2 _ (by decide)) (by decide +kernel) ⟨Nat.le_of_ble_eq_true rfl, Nat.le_of_ble_eq_true rfl⟩) ⟨pw_blind, va_recv hK hP (ci := 2) (q0 := 5) rfl cw_at_5, fun U hU hW => ⟨rfl, by rw [hU], by rw [hU]; exact hP, va_K.moved hW.alike hK⟩⟩ rfl rfl hl.1 rfl (lv_room (Nat.le_of_ble_eq_true rfl)) d_Ranking_rank_32 ⟨Nat.le_of_ble_eq_true rfl, Nat.le_of_ble_eq_true rfl⟩) hS hF hA (fun r7 u6 H locs hP hS h => ?_)
     refine lv_if_ge (tgt := 58) hx hb d_Ranking_rank_35 (by decide) (fun c8 => ?_) (fun c8 => ?_)
     · have h := h.1 c8
       refine lv_aload_n hx hb d_Ranking_rank_58 rfl (lv_at hl 0 rfl) ?_
       refine va_get (D := D) (ci := 2) (v := .ref (a 29)) (C := R_Brightest) (T := T_Brightest) (N := 2) hx hb hts in_Brightest hown hK hP 5 cw_at_5 rfl 0 (by decide) (hts _ (List.mem_cons_of_mem _ kw_197)) (fun _ h9 => h9) rfl d_Ranking_rank_59 ?_
       refine lv_iload_n hx hb d_Ranking_rank_62 rfl (lv_at hl 3 rfl) ?_
       refine lv_iload_n hx hb d_Ranking_rank_63 rfl (lv_at hl 2 rfl) ?_
       refine va_iast hx hb hK hP (hD _) hS 29 0 cw_at_29 rfl h.1 d_Ranking_rank_64 (fun H locs hP _ hS => ?_)
       obtain ⟨u9, eu9⟩ : ∃ z, z = pw_sa u6 15 (upd (u6.2 15) x3.toNatClampNeg x2) := ⟨_, rfl⟩
       rw [cw_sa_29, ← eu9] at hP
       have h := h.2 u9 eu9
       obtain ⟨t10, et10⟩ : ∃ y : Int32, y = x2 + 1 := ⟨_, rfl⟩
       have h := h t10 et10
       refine lv_iinc (v := t10) (lv' := [(2, .int t10), (0, .ref (a 5)), (1, .int x1), (3, .int x3)]) hx hb d_Ranking_rank_65 hl (k := 2) rfl (by rw [et10]; rfl) (by decide) rfl (fun ls hl => ?_)
       refine lv_goto (tgt := 2) hx hb d_Ranking_rank_68 (by decide) ?_
       exact hk2 x1 t10 u9 _ _ _ hP hS (lv_sub hl [1, 2, 0] rfl) h
     · have h := h.2 c8
       refine lv_aload_n hx hb d_Ranking_rank_38 rfl (lv_at hl 0 rfl) ?_
       refine va_get (D := D) (ci := 2) (v := .ref (a 29)) (C := R_Brightest) (T := T_Brightest) (N := 2) hx hb hts in_Brightest hown hK hP 5 cw_at_5 rfl 0 (by decide) (hts _ (List.mem_cons_of_mem _ kw_197)) (fun _ h9 => h9) rfl d_Ranking_rank_39 ?_
       refine lv_iload_n hx hb d_Ranking_rank_42 rfl (lv_at hl 3 rfl) ?_
       refine lv_aload_n hx hb d_Ranking_rank_43 rfl (lv_at hl 0 rfl) ?_
       refine va_get (D := D) (ci := 2) (v := .ref (a 29)) (C := R_Brightest) (T := T_Brightest) (N := 2) hx hb hts in_Brightest hown hK hP 5 cw_at_5 rfl 0 (by decide) (hts _ (List.mem_cons_of_mem _ kw_197)) (fun _ h9 => h9) rfl d_Ranking_rank_44 ?_
       refine lv_iload_n hx hb d_Ranking_rank_47 rfl (lv_at hl 3 rfl) ?_
       refine lv_iconst (v := 1) hx hb d_Ranking_rank_48 (by decide) ?_
       refine lv_isub hx hb d_Ranking_rank_49 ?_
       refine va_iald hx hb hK hP 29 0 cw_at_29 rfl h.1 d_Ranking_rank_50 ?_
       have h := h.2
       refine va_iast hx hb hK hP (hD _) hS 29 0 cw_at_29 rfl h.1 d_Ranking_rank_51 (fun H locs hP _ hS => ?_)
       obtain ⟨u11, eu11⟩ : ∃ z, z = pw_sa u6 15 (upd (u6.2 15) x3.toNatClampNeg (u6.2 15 (x3 - 1).toNatClampNeg)) := ⟨_, rfl⟩
       rw [cw_sa_29, ← eu11] at hP
       have h := h.2 u11 eu11
       obtain ⟨t12, et12⟩ : ∃ y : Int32, y = x3 + (-1) := ⟨_, rfl⟩
       have h := h t12 et12
       refine lv_iinc (v := t12) (lv' := [(3, .int t12), (0, .ref (a 5)), (1, .int x1), (2, .int x2)]) hx hb d_Ranking_rank_52 hl (k := 3) rfl (by rw [et12]; rfl) (by decide) rfl (fun ls hl => ?_)
       refine lv_goto (tgt := 18) hx hb d_Ranking_rank_55 (by decide) ?_
       exact ih x1 x2 t12 u11 _ _ _ hP hS (lv_sub hl [1, 2, 3, 0] rfl) h
set_option maxHeartbeats 4000000 in
set_option maxRecDepth 100000 in
theorem cp_Ranking_rank_brightest_2 {p : Program} {l : Launch} {e : Env} {s : State} {m : MethodId} {args : Array Value} {below : List Frame} {meth : Method} {c : Code} {D : va_G} {a : Nat → Nat} {cA cZ : ClassId} {G : pG} {A : Nat → Prop} {Q : pS → Prop} (C : pw_C p s m args meth c b_Ranking_rank 4 R_Ranking none w_Ranking_rank A) (K : pw_K s D 40 a (cT cA cZ) A) (EX : cw_Ex A s) : ∀ (n : Nat), ∀ (x1 x2 : Int32) (u : pS) (H : Heap) (locs : List Loc) (ls : Array Slot), va_P D vwCl (cw a cA cZ G u) H → va_S A s.heap H locs → lv_has ls 4 [(0, .ref (a 5)), (1, .int x1), (2, .int x2)] → lp_Ranking_rank_brightest_2 G Q n x1 x2 u → W p l e ({ frames := 2, cells := 0, slots := 0, locals := 43 } : Room) s m args below meth c H locs 0 0 (pw_Ev below args s D (cw a cA cZ G) (cT cA cZ) A Q) (F0 m 2 ls []) := by
 obtain ⟨hx, hb, hr, hml, hown, hts, hlocks, hA⟩ := id C
 obtain ⟨hK, hI, hF⟩ := id K
 have hD : ∀ u, va_D A (cw a cA cZ G u) := fun u => cw_D hI hF
 intro n
 induction n with
 | zero => intro x1 x2 u H locs ls hP hS hl h; exact h.elim
 | succ n ih =>
   intro x1 x2 u H locs ls hP hS hl h
   refine lv_iload_n hx hb d_Ranking_rank_2 rfl (lv_at hl 2 rfl) ?_
   refine lv_iload_n hx hb d_Ranking_rank_3 rfl (lv_at hl 1 rfl) ?_
   refine lv_icmp_ge (tgt := 71) hx hb d_Ranking_rank_4 (by decide) (fun c1 => ?_) (fun c1 => ?_)
   · have h := h.1 c1
     exact W.vret hx hb hr (fun t ht hW => ⟨⟨u, rfl, h, by rw [ht]; exact hP, va_K.moved hW.alike hK⟩, hS.F ht⟩) hS.2.2 d_Ranking_rank_71 hlocks
   · have h := h.2 c1
     refine lv_iload_n hx hb d_Ranking_rank_7 rfl (lv_at hl 2 rfl) ?_
     refine lv_aload_n hx hb d_Ranking_rank_8 rfl (lv_at hl 0 rfl) ?_
     refine va_get (D := D) (ci := 2) (v := .ref (a 29)) (C := R_Brightest) (T := T_Brightest) (N := 2) hx hb hts in_Brightest hown hK hP 5 cw_at_5 rfl 0 (by decide) (hts _ (List.mem_cons_of_mem _ kw_197)) (fun _ h9 => h9) rfl d_Ranking_rank_9 ?_
     refine va_alen (v := nI (G.1 29)) hx hb hK hP 29 0 cw_at_29 rfl rfl d_Ranking_rank_12 ?_
     refine lv_icmp_ge (tgt := 71) hx hb d_Ranking_rank_13 (by decide) (fun c2 => ?_) (fun c2 => ?_)
     · have h := h.1 c2
       exact W.vret hx hb hr (fun t ht hW => ⟨⟨u, rfl, h, by rw [ht]; exact hP, va_K.moved hW.alike hK⟩, hS.F ht⟩) hS.2.2 d_Ranking_rank_71 hlocks
     · have h := h.2 c2
       refine lv_iload_n hx hb d_Ranking_rank_16 rfl (lv_at hl 2 rfl) ?_
       refine lv_istore_n (lv' := [(3, .int x2), (0, .ref (a 5)), (1, .int x1), (2, .int x2)]) hx hb d_Ranking_rank_17 rfl hl (by decide) rfl (fun ls hl => ?_)
       obtain ⟨n1, h⟩ := h
       exact cp_Ranking_rank_brightest_18 C K EX ih n1 x1 x2 x2 u _ _ _ hP hS (lv_sub hl [1, 2, 3, 0] rfl) h
set_option maxHeartbeats 4000000 in
set_option maxRecDepth 100000 in
theorem st_Ranking_rank_brightest {p : Program} {l : Launch} {e : Env} {s : State} {m : MethodId} {args : Array Value} {below : List Frame} {meth : Method} {c : Code} {D : va_G} {a : Nat → Nat} {cA cZ : ClassId} {G : pG} {A : Nat → Prop} {Q : pS → Prop} (C : pw_C p s m args meth c b_Ranking_rank 4 R_Ranking none w_Ranking_rank A) (K : pw_K s D 40 a (cT cA cZ) A) (EX : cw_Ex A s) (x1 : Int32) (u : pS) (ls : Array Slot) (hP : va_P D vwCl (cw a cA cZ G u) s.heap) (hl : lv_has ls 4 [(0, .ref (a 5)), (1, .int x1)]) (h : wp_Ranking_rank_brightest G x1 u Q) : W p l e ({ frames := 2, cells := 0, slots := 0, locals := 43 } : Room) s m args below meth c s.heap [] 0 0 (pw_Ev below args s D (cw a cA cZ G) (cT cA cZ) A Q) (F0 m 0 ls []) := by
 obtain ⟨hx, hb, hr, hml, hown, hts, hlocks, hA⟩ := id C
 obtain ⟨hK, hI, hF⟩ := id K
 have hD : ∀ u, va_D A (cw a cA cZ G u) := fun u => cw_D hI hF
 have hS : va_S A s.heap s.heap [] := va_S.rf
 have h : wp_Ranking_rank_brightest G x1 u Q := h
 refine lv_iconst (v := 0) hx hb d_Ranking_rank_0 (by decide) ?_
 refine lv_istore_n (lv' := [(2, .int 0), (0, .ref (a 5)), (1, .int x1)]) hx hb d_Ranking_rank_1 rfl hl (by decide) rfl (fun ls hl => ?_)
 obtain ⟨n1, h⟩ := h
 exact cp_Ranking_rank_brightest_2 C K EX n1 x1 0 u _ _ _ hP hS (lv_sub hl [1, 2, 0] rfl) h
set_option maxHeartbeats 4000000 in
set_option maxRecDepth 100000 in
theorem ct_Ranking_rank_brightest (l : Launch) (D : va_G) (a : Nat → Nat) (cA cZ : ClassId) (G : pG) (sz : Nat) (x1 : Int32) (u : pS) (Q : pS → Prop) (hI : pw_I 40 a) (h : wp_Ranking_rank_brightest G x1 u Q) : Met l y_Ranking_rank w_Ranking_rank ({ frames := 2, cells := 0, slots := 0, locals := 43 } : Room) (va_Pc [.ref (a 5), .int x1] (fun U => pw_pre D (cw a cA cZ G) (cT cA cZ) sz u U ∧ cw_Ex (pw_F 40 a sz) U)) (va_Qv (fun (u : pS) => Q u) (pw_B D (cw a cA cZ G) (cT cA cZ)) (pw_F 40 a sz)) 0 0 (pw_F 40 a sz) := by
 refine Met.ofW (cc := b_Ranking_rank) (maxL := 4) (ret := none) (by decide) rfl ?_
 intro p e s m args below meth c s₁ B hml hv
 obtain ⟨rfl, ⟨hsz, hP, hK⟩, EX⟩ := hv
 subst hsz
 have hl := lv_entry ([.ref (a 5), .int x1]) (n := 4) (Nat.le_of_ble_eq_true rfl)
 rw [lg_entry_eq]
 generalize (lg_sl ([.ref (a 5), .int x1]) ++ List.replicate (4 - (lg_sl ([.ref (a 5), .int x1])).length) Slot.unset).toArray = ls at hl ⊢
 exact st_Ranking_rank_brightest (A := (pw_F 40 a s.heap.size)) ⟨B.exec, B.bytes, B.returns, hml, findClass_of_methodNamed B.named, atoms_spec (ws := w_Ranking_rank) B.pre, B.notSynchronized, fun q hq => Or.inr hq⟩ ⟨hK, hI, fun k hk => Or.inl ⟨k, hk, rfl⟩⟩ EX x1 u ls hP hl h
set_option maxHeartbeats 4000000 in
set_option maxRecDepth 100000 in
theorem st_Ranking_ranked_brightest {p : Program} {l : Launch} {e : Env} {s : State} {m : MethodId} {args : Array Value} {below : List Frame} {meth : Method} {c : Code} {D : va_G} {a : Nat → Nat} {cA cZ : ClassId} {G : pG} {A : Nat → Prop} {Q : Int32 → pS → Prop} (C : pw_C p s m args meth c b_Ranking_ranked 2 R_Ranking (some .int) w_Ranking_ranked A) (K : pw_K s D 40 a (cT cA cZ) A) (x1 : Int32) (u : pS) (ls : Array Slot) (hP : va_P D vwCl (cw a cA cZ G u) s.heap) (hl : lv_has ls 2 [(0, .ref (a 5)), (1, .int x1)]) (h : wp_Ranking_ranked_brightest G x1 u Q) : W p l e ({ frames := 0, cells := 0, slots := 0, locals := 0 } : Room) s m args below meth c s.heap [] 0 0 (pw_Ei below args s D (cw a cA cZ G) (cT cA cZ) A Q) (F0 m 0 ls []) := by
 obtain ⟨hx, hb, hr, hml, hown, hts, hlocks, hA⟩ := id C
 obtain ⟨hK, hI, hF⟩ := id K
 have hD : ∀ u, va_D A (cw a cA cZ G u) := fun u => cw_D hI hF
 have hS : va_S A s.heap s.heap [] := va_S.rf
 have h : wp_Ranking_ranked_brightest G x1 u Q := h
 refine lv_aload_n hx hb d_Ranking_ranked_0 rfl (lv_at hl 0 rfl) ?_
 refine va_get (D := D) (ci := 2) (v := .ref (a 29)) (C := R_Brightest) (T := T_Brightest) (N := 2) hx hb hts in_Brightest hown hK hP 5 cw_at_5 rfl 0 (by decide) (hts _ (List.mem_cons_of_mem _ kw_197)) (fun _ h9 => h9) rfl d_Ranking_ranked_1 ?_
 refine lv_iload_n hx hb d_Ranking_ranked_4 rfl (lv_at hl 1 rfl) ?_
 refine va_iald hx hb hK hP 29 0 cw_at_29 rfl h.1 d_Ranking_ranked_5 ?_
 have h := h.2
 exact W.iret (v := (u.2 15 x1.toNatClampNeg)) hx hb hr (fun t ht hW => ⟨⟨(u.2 15 x1.toNatClampNeg), u, rfl, h, by rw [ht]; exact hP, va_K.moved hW.alike hK⟩, hS.F ht⟩) hS.2.2 d_Ranking_ranked_6 hlocks
set_option maxHeartbeats 4000000 in
set_option maxRecDepth 100000 in
theorem ct_Ranking_ranked_brightest (l : Launch) (D : va_G) (a : Nat → Nat) (cA cZ : ClassId) (G : pG) (sz : Nat) (x1 : Int32) (u : pS) (Q : Int32 → pS → Prop) (hI : pw_I 40 a) (h : wp_Ranking_ranked_brightest G x1 u Q) : Met l y_Ranking_ranked w_Ranking_ranked ({ frames := 0, cells := 0, slots := 0, locals := 0 } : Room) (va_Pc [.ref (a 5), .int x1] (pw_pre D (cw a cA cZ G) (cT cA cZ) sz u)) (va_Qi (fun (r : Int32) (u : pS) => Q r u) (pw_B D (cw a cA cZ G) (cT cA cZ)) (pw_F 40 a sz)) 0 0 (pw_F 40 a sz) := by
 refine Met.ofW (cc := b_Ranking_ranked) (maxL := 2) (ret := (some .int)) (by decide) rfl ?_
 intro p e s m args below meth c s₁ B hml hv
 obtain ⟨rfl, hsz, hP, hK⟩ := hv
 subst hsz
 have hl := lv_entry ([.ref (a 5), .int x1]) (n := 2) (Nat.le_of_ble_eq_true rfl)
 rw [lg_entry_eq]
 generalize (lg_sl ([.ref (a 5), .int x1]) ++ List.replicate (2 - (lg_sl ([.ref (a 5), .int x1])).length) Slot.unset).toArray = ls at hl ⊢
 exact st_Ranking_ranked_brightest (A := (pw_F 40 a s.heap.size)) ⟨B.exec, B.bytes, B.returns, hml, findClass_of_methodNamed B.named, atoms_spec (ws := w_Ranking_ranked) B.pre, B.notSynchronized, fun q hq => Or.inr hq⟩ ⟨hK, hI, fun k hk => Or.inl ⟨k, hk, rfl⟩⟩ x1 u ls hP hl h
set_option maxHeartbeats 4000000 in
set_option maxRecDepth 100000 in
theorem st_PI_sorted {p : Program} {l : Launch} {e : Env} {s : State} {m : MethodId} {args : Array Value} {below : List Frame} {meth : Method} {c : Code} {D : va_G} {a : Nat → Nat} {cA cZ : ClassId} {G : pG} {A : Nat → Prop} {Q : Int32 → pS → Prop} {X : Nat → pS → Prop} (C : pw_C p s m args meth c b_PI_sorted 2 R_PI (some .int) w_PI_sorted A) (K : pw_K s D 40 a (cT cA cZ) A) (EX : cw_Ex A s) (hL : px_L l) (htr : e.platform.stackTraces = false) (hE : ∀ (pc : Nat), ∀ x ∈ c.exceptionTable.toList, covers x pc = false) (x1 : Int32) (u : pS) (ls : Array Slot) (hP : va_P D vwCl (cw a cA cZ G u) s.heap) (hl : lv_has ls 2 [(0, .ref (a 0)), (1, .int x1)]) (h : wp_PI_sorted G x1 u Q X) : W p l e ({ frames := 7, cells := 1, slots := 6, locals := 103 } : Room) s m args below meth c s.heap [] 0 0 (px_Ei below args s D (cw a cA cZ G) (cT cA cZ) A Q X) (F0 m 0 ls []) := by
 obtain ⟨hx, hb, hr, hml, hown, hts, hlocks, hA⟩ := id C
 obtain ⟨hK, hI, hF⟩ := id K
 have hD : ∀ u, va_D A (cw a cA cZ G u) := fun u => cw_D hI hF
 have hz : ∀ oc t, px_T X (pw_B D (cw a cA cZ G) (cT cA cZ)) oc t → va_F A s t → (px_Qi Q X (pw_B D (cw a cA cZ G) (cT cA cZ)) A) args s oc t := fun oc t h1 h2 => ⟨Or.inr h1, h2⟩
 have hS : va_S A s.heap s.heap [] := va_S.rf
 have h : wp_PI_sorted G x1 u Q X := h
 refine lv_iload_n hx hb d_PI_sorted_0 rfl (lv_at hl 1 rfl) ?_
 refine lv_aload_n hx hb d_PI_sorted_1 rfl (lv_at hl 0 rfl) ?_
 refine va_get (D := D) (ci := 0) (v := .int (G.2.1 0)) (C := R_PI) (T := T_PI) (N := 12) hx hb hts in_PI hown hK hP 0 cw_at_0 rfl 1 (by decide) (hts _ (List.mem_cons_of_mem _ kw_313)) (fun _ h9 => h9) rfl d_PI_sorted_2 ?_
 refine cx_v (px_runS (As := [.int x1, .int (G.2.1 0)]) (rest := []) ⟨hx, hb, hml, hown, hts⟩ (ct_PI_needIndex l D a cA cZ G _ x1 (G.2.1 0) u _ _ hL hI h) (pw_cwS 2 hts kw_367 kw_45 kw_365 kw_366 (by decide +kernel) ⟨Nat.le_of_ble_eq_true rfl, Nat.le_of_ble_eq_true rfl⟩) ⟨cw_blindX, fun U hU hW => ⟨rfl, ⟨by rw [hU], by rw [hU]; exact hP, va_K.moved hW.alike hK⟩, cw_Ex_call EX hS (pw_FA hS hF hA) hU hW⟩⟩ rfl rfl hl.1 rfl (lv_room (Nat.le_of_ble_eq_true rfl)) d_PI_sorted_5 ⟨Nat.le_of_ble_eq_true rfl, Nat.le_of_ble_eq_true rfl⟩) hS hF hA (hE _) hlocks hz (fun u1 H locs hP hS h => ?_)
 refine lv_aload_n hx hb d_PI_sorted_8 rfl (lv_at hl 0 rfl) ?_
 refine va_get (D := D) (ci := 0) (v := .ref (a 5)) (C := R_PI) (T := T_PI) (N := 12) hx hb hts in_PI hown hK hP 0 cw_at_0 rfl 5 (by decide) (hts _ (List.mem_cons_of_mem _ kw_317)) (fun _ h9 => h9) rfl d_PI_sorted_9 ?_
 refine lv_aload_n hx hb d_PI_sorted_12 rfl (lv_at hl 0 rfl) ?_
 refine va_get (D := D) (ci := 0) (v := .int (G.2.1 0)) (C := R_PI) (T := T_PI) (N := 12) hx hb hts in_PI hown hK hP 0 cw_at_0 rfl 1 (by decide) (hts _ (List.mem_cons_of_mem _ kw_313)) (fun _ h9 => h9) rfl d_PI_sorted_13 ?_
 refine cc_v (va_runU (As := [.int (G.2.1 0)]) (rest := []) ⟨hx, hb, hml, hown, hts⟩ (ct_Ranking_rank_brightest l D a cA cZ G _ (G.2.1 0) u1 _ hI h) (pw_cwU (owner := "PictureInlays$Ranking") 1 hts kw_558 kw_50 kw_552 kw_554 kw_555 kw_553 rfl (by decide +kernel) ⟨Nat.le_of_ble_eq_true rfl, Nat.le_of_ble_eq_true rfl⟩) ⟨cw_blindX, va_recv hK hP (ci := 2) (q0 := 5) rfl cw_at_5, fun U hU hW => ⟨rfl, ⟨by rw [hU], by rw [hU]; exact hP, va_K.moved hW.alike hK⟩, cw_Ex_call EX hS (pw_FA hS hF hA) hU hW⟩⟩ rfl rfl hl.1 rfl (lv_room (Nat.le_of_ble_eq_true rfl)) d_PI_sorted_16 ⟨Nat.le_of_ble_eq_true rfl, Nat.le_of_ble_eq_true rfl⟩) hS hF hA (fun u2 H locs hP hS h => ?_)
 refine lv_aload_n hx hb d_PI_sorted_19 rfl (lv_at hl 0 rfl) ?_
 refine va_get (D := D) (ci := 0) (v := .ref (a 5)) (C := R_PI) (T := T_PI) (N := 12) hx hb hts in_PI hown hK hP 0 cw_at_0 rfl 5 (by decide) (hts _ (List.mem_cons_of_mem _ kw_317)) (fun _ h9 => h9) rfl d_PI_sorted_20 ?_
 refine lv_iload_n hx hb d_PI_sorted_23 rfl (lv_at hl 1 rfl) ?_
 refine cc_i (va_runU (As := [.int x1]) (rest := []) ⟨hx, hb, hml, hown, hts⟩ (ct_Ranking_ranked_brightest l D a cA cZ G _ x1 u2 _ hI h) (pw_cwU (owner := "PictureInlays$Ranking") 1 hts kw_760 kw_50 kw_754 kw_756 kw_757 kw_755 rfl (by decide +kernel) ⟨Nat.le_of_ble_eq_true rfl, Nat.le_of_ble_eq_true rfl⟩) ⟨pw_blind, va_recv hK hP (ci := 2) (q0 := 5) rfl cw_at_5, fun U hU hW => ⟨rfl, by rw [hU], by rw [hU]; exact hP, va_K.moved hW.alike hK⟩⟩ rfl rfl hl.1 rfl (lv_room (Nat.le_of_ble_eq_true rfl)) d_PI_sorted_24 ⟨Nat.le_of_ble_eq_true rfl, Nat.le_of_ble_eq_true rfl⟩) hS hF hA (fun r4 u3 H locs hP hS h => ?_)
 exact px_mono (fun t h => px_ofMQ (fun _ _ h => h) h) (W.iret (Qc := px_Qi Q X (pw_B D (cw a cA cZ G) (cT cA cZ)) A) (v := r4) hx hb hr (fun t ht hW => ⟨Or.inl ⟨r4, u3, rfl, h, by rw [ht]; exact hP, va_K.moved hW.alike hK⟩, hS.F ht⟩) hS.2.2 d_PI_sorted_27 hlocks)
set_option maxHeartbeats 4000000 in
set_option maxRecDepth 100000 in
theorem ct_PI_sorted (l : Launch) (D : va_G) (a : Nat → Nat) (cA cZ : ClassId) (G : pG) (sz : Nat) (x1 : Int32) (u : pS) (Q : Int32 → pS → Prop) (X : Nat → pS → Prop) (hL : px_L l) (hI : pw_I 40 a) (h : wp_PI_sorted G x1 u Q X) : px_Met l y_PI_sorted w_PI_sorted ({ frames := 7, cells := 1, slots := 6, locals := 103 } : Room) (va_Pc [.ref (a 0), .int x1] (fun U => pw_pre D (cw a cA cZ G) (cT cA cZ) sz u U ∧ cw_Ex (pw_F 40 a sz) U)) (px_Qi Q X (pw_B D (cw a cA cZ G) (cT cA cZ)) (pw_F 40 a sz)) 0 0 1 6 (pw_F 40 a sz) := by
 refine px_ofW (cc := b_PI_sorted) (maxL := 2) (ret := (some .int)) (by decide) rfl ?_
 intro p e s m args below meth c s₁ B hml hE hv
 obtain ⟨rfl, ⟨hsz, hP, hK⟩, EX⟩ := hv
 subst hsz
 have hl := lv_entry ([.ref (a 0), .int x1]) (n := 2) (Nat.le_of_ble_eq_true rfl)
 rw [lg_entry_eq]
 generalize (lg_sl ([.ref (a 0), .int x1]) ++ List.replicate (2 - (lg_sl ([.ref (a 0), .int x1])).length) Slot.unset).toArray = ls at hl ⊢
 exact st_PI_sorted (A := (pw_F 40 a s.heap.size)) ⟨B.exec, B.bytes, B.returns, hml, findClass_of_methodNamed B.named, atoms_spec (ws := w_PI_sorted) B.pre, B.notSynchronized, fun q hq => Or.inr hq⟩ ⟨hK, hI, fun k hk => Or.inl ⟨k, hk, rfl⟩⟩ EX hL (hL e B.admits) (px_none hE) x1 u ls hP hl h
set_option maxHeartbeats 4000000 in
set_option maxRecDepth 100000 in
theorem cp_Arrays_fill_numberAt_5 {p : Program} {l : Launch} {e : Env} {s : State} {m : MethodId} {args : Array Value} {below : List Frame} {meth : Method} {c : Code} {D : va_G} {a : Nat → Nat} {cA cZ : ClassId} {G : pG} {A : Nat → Prop} {Q : pS → Prop} (C : pw_C p s m args meth c b_Arrays_fill 4 R_Arrays none w_Arrays_fill A) (K : pw_K s D 40 a (cT cA cZ) A) : ∀ (n : Nat), ∀ (x1 x2 x3 : Int32) (u : pS) (H : Heap) (locs : List Loc) (ls : Array Slot), va_P D vwCl (cw a cA cZ G u) H → va_S A s.heap H locs → lv_has ls 4 [(0, .ref (a 21)), (1, .int x1), (2, .int x2), (3, .int x3)] → lp_Arrays_fill_numberAt_5 G Q n x1 x2 x3 u → W p l e ({ frames := 0, cells := 0, slots := 0, locals := 0 } : Room) s m args below meth c H locs 0 0 (pw_Ev below args s D (cw a cA cZ G) (cT cA cZ) A Q) (F0 m 5 ls []) := by
 obtain ⟨hx, hb, hr, hml, hown, hts, hlocks, hA⟩ := id C
 obtain ⟨hK, hI, hF⟩ := id K
 have hD : ∀ u, va_D A (cw a cA cZ G u) := fun u => cw_D hI hF
 intro n
 induction n with
 | zero => intro x1 x2 x3 u H locs ls hP hS hl h; exact h.elim
 | succ n ih =>
   intro x1 x2 x3 u H locs ls hP hS hl h
   refine lv_iload_n hx hb d_Arrays_fill_5 rfl (lv_at hl 2 rfl) ?_
   refine lv_iload_n hx hb d_Arrays_fill_6 rfl (lv_at hl 3 rfl) ?_
   refine lv_icmp_ge (tgt := 20) hx hb d_Arrays_fill_7 (by decide) (fun c2 => ?_) (fun c2 => ?_)
   · have h := h.1 c2
     exact W.vret hx hb hr (fun t ht hW => ⟨⟨u, rfl, h, by rw [ht]; exact hP, va_K.moved hW.alike hK⟩, hS.F ht⟩) hS.2.2 d_Arrays_fill_20 hlocks
   · have h := h.2 c2
     refine lv_aload_n hx hb d_Arrays_fill_10 rfl (lv_at hl 0 rfl) ?_
     refine lv_iload_n hx hb d_Arrays_fill_11 rfl (lv_at hl 2 rfl) ?_
     refine lv_iload_n hx hb d_Arrays_fill_12 rfl (lv_at hl 1 rfl) ?_
     refine va_iast hx hb hK hP (hD _) hS 21 0 cw_at_21 rfl h.1 d_Arrays_fill_13 (fun H locs hP _ hS => ?_)
     obtain ⟨u3, eu3⟩ : ∃ z, z = pw_sa u 7 (upd (u.2 7) x2.toNatClampNeg x1) := ⟨_, rfl⟩
     rw [cw_sa_21, ← eu3] at hP
     have h := h.2 u3 eu3
     obtain ⟨t4, et4⟩ : ∃ y : Int32, y = x2 + 1 := ⟨_, rfl⟩
     have h := h t4 et4
     refine lv_iinc (v := t4) (lv' := [(2, .int t4), (0, .ref (a 21)), (1, .int x1), (3, .int x3)]) hx hb d_Arrays_fill_14 hl (k := 2) rfl (by rw [et4]; rfl) (by decide) rfl (fun ls hl => ?_)
     refine lv_goto (tgt := 5) hx hb d_Arrays_fill_17 (by decide) ?_
     exact ih x1 t4 x3 u3 _ _ _ hP hS (lv_sub hl [1, 2, 0, 3] rfl) h
set_option maxHeartbeats 4000000 in
set_option maxRecDepth 100000 in
theorem st_Arrays_fill_numberAt {p : Program} {l : Launch} {e : Env} {s : State} {m : MethodId} {args : Array Value} {below : List Frame} {meth : Method} {c : Code} {D : va_G} {a : Nat → Nat} {cA cZ : ClassId} {G : pG} {A : Nat → Prop} {Q : pS → Prop} (C : pw_C p s m args meth c b_Arrays_fill 4 R_Arrays none w_Arrays_fill A) (K : pw_K s D 40 a (cT cA cZ) A) (x1 : Int32) (u : pS) (ls : Array Slot) (hP : va_P D vwCl (cw a cA cZ G u) s.heap) (hl : lv_has ls 4 [(0, .ref (a 21)), (1, .int x1)]) (h : wp_Arrays_fill_numberAt G x1 u Q) : W p l e ({ frames := 0, cells := 0, slots := 0, locals := 0 } : Room) s m args below meth c s.heap [] 0 0 (pw_Ev below args s D (cw a cA cZ G) (cT cA cZ) A Q) (F0 m 0 ls []) := by
 obtain ⟨hx, hb, hr, hml, hown, hts, hlocks, hA⟩ := id C
 obtain ⟨hK, hI, hF⟩ := id K
 have hD : ∀ u, va_D A (cw a cA cZ G u) := fun u => cw_D hI hF
 have hS : va_S A s.heap s.heap [] := va_S.rf
 have h : wp_Arrays_fill_numberAt G x1 u Q := h
 refine lv_iconst (v := 0) hx hb d_Arrays_fill_0 (by decide) ?_
 refine lv_istore_n (lv' := [(2, .int 0), (0, .ref (a 21)), (1, .int x1)]) hx hb d_Arrays_fill_1 rfl hl (by decide) rfl (fun ls hl => ?_)
 refine lv_aload_n hx hb d_Arrays_fill_2 rfl (lv_at hl 1 rfl) ?_
 refine va_alen (v := nI (G.1 21)) hx hb hK hP 21 0 cw_at_21 rfl rfl d_Arrays_fill_3 ?_
 refine lv_topi (fun t1 et1 => ?_)
 have h := h t1 et1
 refine lv_istore_n (lv' := [(3, .int t1), (2, .int 0), (0, .ref (a 21)), (1, .int x1)]) hx hb d_Arrays_fill_4 rfl hl (by decide) rfl (fun ls hl => ?_)
 obtain ⟨n1, h⟩ := h
 exact cp_Arrays_fill_numberAt_5 C K n1 x1 0 t1 u _ _ _ hP hS (lv_sub hl [2, 3, 1, 0] rfl) h
set_option maxHeartbeats 4000000 in
set_option maxRecDepth 100000 in
theorem ct_Arrays_fill_numberAt (l : Launch) (D : va_G) (a : Nat → Nat) (cA cZ : ClassId) (G : pG) (sz : Nat) (x1 : Int32) (u : pS) (Q : pS → Prop) (hI : pw_I 40 a) (h : wp_Arrays_fill_numberAt G x1 u Q) : Met l y_Arrays_fill w_Arrays_fill ({ frames := 0, cells := 0, slots := 0, locals := 0 } : Room) (va_Pc [.ref (a 21), .int x1] (pw_pre D (cw a cA cZ G) (cT cA cZ) sz u)) (va_Qv (fun (u : pS) => Q u) (pw_B D (cw a cA cZ G) (cT cA cZ)) (pw_F 40 a sz)) 0 0 (pw_F 40 a sz) := by
 refine Met.ofW (cc := b_Arrays_fill) (maxL := 4) (ret := none) (by decide) rfl ?_
 intro p e s m args below meth c s₁ B hml hv
 obtain ⟨rfl, hsz, hP, hK⟩ := hv
 subst hsz
 have hl := lv_entry ([.ref (a 21), .int x1]) (n := 4) (Nat.le_of_ble_eq_true rfl)
 rw [lg_entry_eq]
 generalize (lg_sl ([.ref (a 21), .int x1]) ++ List.replicate (4 - (lg_sl ([.ref (a 21), .int x1])).length) Slot.unset).toArray = ls at hl ⊢
 exact st_Arrays_fill_numberAt (A := (pw_F 40 a s.heap.size)) ⟨B.exec, B.bytes, B.returns, hml, findClass_of_methodNamed B.named, atoms_spec (ws := w_Arrays_fill) B.pre, B.notSynchronized, fun q hq => Or.inr hq⟩ ⟨hK, hI, fun k hk => Or.inl ⟨k, hk, rfl⟩⟩ x1 u ls hP hl h
set_option maxHeartbeats 4000000 in
set_option maxRecDepth 100000 in
theorem st_Pieces_begin {p : Program} {l : Launch} {e : Env} {s : State} {m : MethodId} {args : Array Value} {below : List Frame} {meth : Method} {c : Code} {D : va_G} {a : Nat → Nat} {cA cZ : ClassId} {G : pG} {A : Nat → Prop} {Q : pS → Prop} (C : pw_C p s m args meth c b_Pieces_begin 3 R_Pieces none w_Pieces_begin A) (K : pw_K s D 40 a (cT cA cZ) A) (x1 x2 : Int32) (u : pS) (ls : Array Slot) (hP : va_P D vwCl (cw a cA cZ G u) s.heap) (hl : lv_has ls 3 [(0, .ref (a 4)), (1, .int x1), (2, .int x2)]) (h : wp_Pieces_begin G x1 x2 u Q) : W p l e ({ frames := 1, cells := 0, slots := 0, locals := 21 } : Room) s m args below meth c s.heap [] 0 0 (pw_Ev below args s D (cw a cA cZ G) (cT cA cZ) A Q) (F0 m 0 ls []) := by
 obtain ⟨hx, hb, hr, hml, hown, hts, hlocks, hA⟩ := id C
 obtain ⟨hK, hI, hF⟩ := id K
 have hD : ∀ u, va_D A (cw a cA cZ G u) := fun u => cw_D hI hF
 have hS : va_S A s.heap s.heap [] := va_S.rf
 have h : wp_Pieces_begin G x1 x2 u Q := h
 refine lv_aload_n hx hb d_Pieces_begin_0 rfl (lv_at hl 0 rfl) ?_
 refine va_get (D := D) (ci := 7) (v := .ref (a 24)) (C := R_Pieces) (T := T_Pieces) (N := 11) hx hb hts in_Pieces hown hK hP 4 cw_at_4 rfl 5 (by decide) (hts _ (List.mem_cons_of_mem _ kw_156)) (fun _ h9 => h9) rfl d_Pieces_begin_1 ?_
 refine lv_iload_n hx hb d_Pieces_begin_4 rfl (lv_at hl 2 rfl) ?_
 refine lv_iload_n hx hb d_Pieces_begin_5 rfl (lv_at hl 1 rfl) ?_
 refine va_iast hx hb hK hP (hD _) hS 24 0 cw_at_24 rfl h.1 d_Pieces_begin_6 (fun H locs hP _ hS => ?_)
 obtain ⟨u1, eu1⟩ : ∃ z, z = pw_sa u 10 (upd (u.2 10) x2.toNatClampNeg x1) := ⟨_, rfl⟩
 rw [cw_sa_24, ← eu1] at hP
 have h := h.2 u1 eu1
 refine lv_aload_n hx hb d_Pieces_begin_7 rfl (lv_at hl 0 rfl) ?_
 refine va_get (D := D) (ci := 7) (v := .ref (a 25)) (C := R_Pieces) (T := T_Pieces) (N := 11) hx hb hts in_Pieces hown hK hP 4 cw_at_4 rfl 6 (by decide) (hts _ (List.mem_cons_of_mem _ kw_157)) (fun _ h9 => h9) rfl d_Pieces_begin_8 ?_
 refine lv_iload_n hx hb d_Pieces_begin_11 rfl (lv_at hl 2 rfl) ?_
 refine lv_iconst (v := 0) hx hb d_Pieces_begin_12 (by decide) ?_
 refine va_iast hx hb hK hP (hD _) hS 25 0 cw_at_25 rfl h.1 d_Pieces_begin_13 (fun H locs hP _ hS => ?_)
 obtain ⟨u2, eu2⟩ : ∃ z, z = pw_sa u1 11 (upd (u1.2 11) x2.toNatClampNeg 0) := ⟨_, rfl⟩
 rw [cw_sa_25, ← eu2] at hP
 have h := h.2 u2 eu2
 refine lv_aload_n hx hb d_Pieces_begin_14 rfl (lv_at hl 0 rfl) ?_
 refine va_get (D := D) (ci := 7) (v := .ref (a 26)) (C := R_Pieces) (T := T_Pieces) (N := 11) hx hb hts in_Pieces hown hK hP 4 cw_at_4 rfl 7 (by decide) (hts _ (List.mem_cons_of_mem _ kw_158)) (fun _ h9 => h9) rfl d_Pieces_begin_15 ?_
 refine lv_iload_n hx hb d_Pieces_begin_18 rfl (lv_at hl 2 rfl) ?_
 refine lv_aload_n hx hb d_Pieces_begin_19 rfl (lv_at hl 0 rfl) ?_
 refine va_get (D := D) (ci := 7) (v := .ref (a 1)) (C := R_Pieces) (T := T_Pieces) (N := 11) hx hb hts in_Pieces hown hK hP 4 cw_at_4 rfl 0 (by decide) (hts _ (List.mem_cons_of_mem _ kw_151)) (fun _ h9 => h9) rfl d_Pieces_begin_20 ?_
 refine lv_iload_n hx hb d_Pieces_begin_23 rfl (lv_at hl 1 rfl) ?_
 refine cc_i (va_runV (As := [.int x1]) (rest := [.int x2, .ref (a 26)]) ⟨hx, hb, hml, hown, hts⟩ (ct_Grid_columnOf l D a cA cZ G _ x1 u2 _ hI h) (pw_cwV 1 hts kw_513 kw_46 kw_510 kw_511 kw_512 (by decide +kernel) ⟨Nat.le_of_ble_eq_true rfl, Nat.le_of_ble_eq_true rfl⟩) ⟨pw_blind, va_recv hK hP (ci := 4) (q0 := 1) rfl cw_at_1, fun U hU hW => ⟨rfl, by rw [hU], by rw [hU]; exact hP, va_K.moved hW.alike hK⟩⟩ rfl rfl hl.1 rfl (lv_room (Nat.le_of_ble_eq_true rfl)) d_Pieces_begin_24 ⟨Nat.le_of_ble_eq_true rfl, Nat.le_of_ble_eq_true rfl⟩) hS hF hA (fun r4 u3 H locs hP hS h => ?_)
 refine va_iast hx hb hK hP (hD _) hS 26 0 cw_at_26 rfl h.1 d_Pieces_begin_27 (fun H locs hP _ hS => ?_)
 obtain ⟨u5, eu5⟩ : ∃ z, z = pw_sa u3 12 (upd (u3.2 12) x2.toNatClampNeg r4) := ⟨_, rfl⟩
 rw [cw_sa_26, ← eu5] at hP
 have h := h.2 u5 eu5
 refine lv_aload_n hx hb d_Pieces_begin_28 rfl (lv_at hl 0 rfl) ?_
 refine va_get (D := D) (ci := 7) (v := .ref (a 27)) (C := R_Pieces) (T := T_Pieces) (N := 11) hx hb hts in_Pieces hown hK hP 4 cw_at_4 rfl 8 (by decide) (hts _ (List.mem_cons_of_mem _ kw_159)) (fun _ h9 => h9) rfl d_Pieces_begin_29 ?_
 refine lv_iload_n hx hb d_Pieces_begin_32 rfl (lv_at hl 2 rfl) ?_
 refine lv_aload_n hx hb d_Pieces_begin_33 rfl (lv_at hl 0 rfl) ?_
 refine va_get (D := D) (ci := 7) (v := .ref (a 1)) (C := R_Pieces) (T := T_Pieces) (N := 11) hx hb hts in_Pieces hown hK hP 4 cw_at_4 rfl 0 (by decide) (hts _ (List.mem_cons_of_mem _ kw_151)) (fun _ h9 => h9) rfl d_Pieces_begin_34 ?_
 refine lv_iload_n hx hb d_Pieces_begin_37 rfl (lv_at hl 1 rfl) ?_
 refine cc_i (va_runV (As := [.int x1]) (rest := [.int x2, .ref (a 27)]) ⟨hx, hb, hml, hown, hts⟩ (ct_Grid_columnOf l D a cA cZ G _ x1 u5 _ hI h) (pw_cwV 1 hts kw_513 kw_46 kw_510 kw_511 kw_512 (by decide +kernel) ⟨Nat.le_of_ble_eq_true rfl, Nat.le_of_ble_eq_true rfl⟩) ⟨pw_blind, va_recv hK hP (ci := 4) (q0 := 1) rfl cw_at_1, fun U hU hW => ⟨rfl, by rw [hU], by rw [hU]; exact hP, va_K.moved hW.alike hK⟩⟩ rfl rfl hl.1 rfl (lv_room (Nat.le_of_ble_eq_true rfl)) d_Pieces_begin_38 ⟨Nat.le_of_ble_eq_true rfl, Nat.le_of_ble_eq_true rfl⟩) hS hF hA (fun r7 u6 H locs hP hS h => ?_)
 refine va_iast hx hb hK hP (hD _) hS 27 0 cw_at_27 rfl h.1 d_Pieces_begin_41 (fun H locs hP _ hS => ?_)
 obtain ⟨u8, eu8⟩ : ∃ z, z = pw_sa u6 13 (upd (u6.2 13) x2.toNatClampNeg r7) := ⟨_, rfl⟩
 rw [cw_sa_27, ← eu8] at hP
 have h := h.2 u8 eu8
 refine lv_aload_n hx hb d_Pieces_begin_42 rfl (lv_at hl 0 rfl) ?_
 refine va_get (D := D) (ci := 7) (v := .ref (a 28)) (C := R_Pieces) (T := T_Pieces) (N := 11) hx hb hts in_Pieces hown hK hP 4 cw_at_4 rfl 9 (by decide) (hts _ (List.mem_cons_of_mem _ kw_160)) (fun _ h9 => h9) rfl d_Pieces_begin_43 ?_
 refine lv_iload_n hx hb d_Pieces_begin_46 rfl (lv_at hl 2 rfl) ?_
 refine lv_aload_n hx hb d_Pieces_begin_47 rfl (lv_at hl 0 rfl) ?_
 refine va_get (D := D) (ci := 7) (v := .ref (a 1)) (C := R_Pieces) (T := T_Pieces) (N := 11) hx hb hts in_Pieces hown hK hP 4 cw_at_4 rfl 0 (by decide) (hts _ (List.mem_cons_of_mem _ kw_151)) (fun _ h9 => h9) rfl d_Pieces_begin_48 ?_
 refine lv_iload_n hx hb d_Pieces_begin_51 rfl (lv_at hl 1 rfl) ?_
 refine cc_i (va_runV (As := [.int x1]) (rest := [.int x2, .ref (a 28)]) ⟨hx, hb, hml, hown, hts⟩ (ct_Grid_rowOf l D a cA cZ G _ x1 u8 _ hI h) (pw_cwV 1 hts kw_517 kw_46 kw_514 kw_515 kw_516 (by decide +kernel) ⟨Nat.le_of_ble_eq_true rfl, Nat.le_of_ble_eq_true rfl⟩) ⟨pw_blind, va_recv hK hP (ci := 4) (q0 := 1) rfl cw_at_1, fun U hU hW => ⟨rfl, by rw [hU], by rw [hU]; exact hP, va_K.moved hW.alike hK⟩⟩ rfl rfl hl.1 rfl (lv_room (Nat.le_of_ble_eq_true rfl)) d_Pieces_begin_52 ⟨Nat.le_of_ble_eq_true rfl, Nat.le_of_ble_eq_true rfl⟩) hS hF hA (fun r10 u9 H locs hP hS h => ?_)
 refine va_iast hx hb hK hP (hD _) hS 28 0 cw_at_28 rfl h.1 d_Pieces_begin_55 (fun H locs hP _ hS => ?_)
 obtain ⟨u11, eu11⟩ : ∃ z, z = pw_sa u9 14 (upd (u9.2 14) x2.toNatClampNeg r10) := ⟨_, rfl⟩
 rw [cw_sa_28, ← eu11] at hP
 have h := h.2 u11 eu11
 exact W.vret hx hb hr (fun t ht hW => ⟨⟨u11, rfl, h, by rw [ht]; exact hP, va_K.moved hW.alike hK⟩, hS.F ht⟩) hS.2.2 d_Pieces_begin_56 hlocks
set_option maxHeartbeats 4000000 in
set_option maxRecDepth 100000 in
theorem ct_Pieces_begin (l : Launch) (D : va_G) (a : Nat → Nat) (cA cZ : ClassId) (G : pG) (sz : Nat) (x1 x2 : Int32) (u : pS) (Q : pS → Prop) (hI : pw_I 40 a) (h : wp_Pieces_begin G x1 x2 u Q) : Met l y_Pieces_begin w_Pieces_begin ({ frames := 1, cells := 0, slots := 0, locals := 21 } : Room) (va_Pc [.ref (a 4), .int x1, .int x2] (pw_pre D (cw a cA cZ G) (cT cA cZ) sz u)) (va_Qv (fun (u : pS) => Q u) (pw_B D (cw a cA cZ G) (cT cA cZ)) (pw_F 40 a sz)) 0 0 (pw_F 40 a sz) := by
 refine Met.ofW (cc := b_Pieces_begin) (maxL := 3) (ret := none) (by decide) rfl ?_
 intro p e s m args below meth c s₁ B hml hv
 obtain ⟨rfl, hsz, hP, hK⟩ := hv
 subst hsz
 have hl := lv_entry ([.ref (a 4), .int x1, .int x2]) (n := 3) (Nat.le_of_ble_eq_true rfl)
 rw [lg_entry_eq]
 generalize (lg_sl ([.ref (a 4), .int x1, .int x2]) ++ List.replicate (3 - (lg_sl ([.ref (a 4), .int x1, .int x2])).length) Slot.unset).toArray = ls at hl ⊢
 exact st_Pieces_begin (A := (pw_F 40 a s.heap.size)) ⟨B.exec, B.bytes, B.returns, hml, findClass_of_methodNamed B.named, atoms_spec (ws := w_Pieces_begin) B.pre, B.notSynchronized, fun q hq => Or.inr hq⟩ ⟨hK, hI, fun k hk => Or.inl ⟨k, hk, rfl⟩⟩ x1 x2 u ls hP hl h
