set_option maxHeartbeats 4000000 in
set_option maxRecDepth 100000 in
theorem st_PI_piece {p : Program} {l : Launch} {e : Env} {s : State} {m : MethodId} {args : Array Value} {below : List Frame} {meth : Method} {c : Code} {D : va_G} {a : Nat → Nat} {cA cZ : ClassId} {G : pG} {A : Nat → Prop} {Q : Int32 → pS → Prop} {X : Nat → pS → Prop} (C : pw_C p s m args meth c b_PI_piece 3 R_PI (some .int) w_PI_piece A) (K : pw_K s D 40 a (cT cA cZ) A) (EX : cw_Ex A s) (hL : px_L l) (htr : e.platform.stackTraces = false) (hE : ∀ (pc : Nat), ∀ x ∈ c.exceptionTable.toList, covers x pc = false) (x1 x2 : Int32) (u : pS) (ls : Array Slot) (hP : va_P D vwCl (cw a cA cZ G u) s.heap) (hl : lv_has ls 3 [(0, .ref (a 0)), (1, .int x1), (2, .int x2)]) (h : wp_PI_piece G x1 x2 u Q X) : W p l e ({ frames := 8, cells := 1, slots := 6, locals := 124 } : Room) s m args below meth c s.heap [] 0 0 (px_Ei below args s D (cw a cA cZ G) (cT cA cZ) A Q X) (F0 m 0 ls []) := by
 obtain ⟨hx, hb, hr, hml, hown, hts, hlocks, hA⟩ := id C
 obtain ⟨hK, hI, hF⟩ := id K
 have hD : ∀ u, va_D A (cw a cA cZ G u) := fun u => cw_D hI hF
 have hz : ∀ oc t, px_T X (pw_B D (cw a cA cZ G) (cT cA cZ)) oc t → va_F A s t → (px_Qi Q X (pw_B D (cw a cA cZ G) (cT cA cZ)) A) args s oc t := fun oc t h1 h2 => ⟨Or.inr h1, h2⟩
 have hS : va_S A s.heap s.heap [] := va_S.rf
 have h : wp_PI_piece G x1 x2 u Q X := h
 refine lv_aload_n hx hb d_PI_piece_0 rfl (lv_at hl 0 rfl) ?_
 refine lv_iload_n hx hb d_PI_piece_1 rfl (lv_at hl 1 rfl) ?_
 refine cx_v (px_runV (As := [.int x1]) (rest := []) ⟨hx, hb, hml, hown, hts⟩ (ct_PI_needPiece l D a cA cZ G _ x1 u _ _ hL hI h) (pw_cwV 1 hts kw_643 kw_45 kw_640 kw_642 kw_13 (by decide +kernel) ⟨Nat.le_of_ble_eq_true rfl, Nat.le_of_ble_eq_true rfl⟩) ⟨cw_blindX, va_recv hK hP (ci := 0) (q0 := 0) rfl cw_at_0, fun U hU hW => ⟨rfl, ⟨by rw [hU], by rw [hU]; exact hP, va_K.moved hW.alike hK⟩, cw_Ex_call EX hS (pw_FA hS hF hA) hU hW⟩⟩ rfl rfl hl.1 rfl (lv_room (Nat.le_of_ble_eq_true rfl)) d_PI_piece_2 ⟨Nat.le_of_ble_eq_true rfl, Nat.le_of_ble_eq_true rfl⟩) hS hF hA (hE _) hlocks hz (fun u1 H locs hP hS h => ?_)
 refine lv_iload_n hx hb d_PI_piece_5 rfl (lv_at hl 2 rfl) ?_
 refine lv_iconst (v := 0) hx hb d_PI_piece_6 (by decide) ?_
 refine lv_bipush (v := 6) hx hb d_PI_piece_7 (by decide) ?_
 refine cx_v (px_runS (As := [.int x2, .int 0, .int 6]) (rest := []) ⟨hx, hb, hml, hown, hts⟩ (ct_PI_needNumber l D a cA cZ G _ x2 0 6 u1 _ _ hL hI h) (pw_cwS 3 hts kw_441 kw_45 kw_439 kw_440 (by decide +kernel) ⟨Nat.le_of_ble_eq_true rfl, Nat.le_of_ble_eq_true rfl⟩) ⟨cw_blindX, fun U hU hW => ⟨rfl, ⟨by rw [hU], by rw [hU]; exact hP, va_K.moved hW.alike hK⟩, cw_Ex_call EX hS (pw_FA hS hF hA) hU hW⟩⟩ rfl rfl hl.1 rfl (lv_room (Nat.le_of_ble_eq_true rfl)) d_PI_piece_9 ⟨Nat.le_of_ble_eq_true rfl, Nat.le_of_ble_eq_true rfl⟩) hS hF hA (hE _) hlocks hz (fun u2 H locs hP hS h => ?_)
 refine lv_iload_n hx hb d_PI_piece_12 rfl (lv_at hl 2 rfl) ?_
 by_cases c13_0 : x2 = 0
 · have h := h.1 c13_0
   refine lv_tableIn (tgt := 52) (off := 39) hx hb d_PI_piece_13 (by rw [c13_0]; decide) (by rw [c13_0]; decide) (by rw [c13_0]; decide) (by decide) ?_
   refine lv_aload_n hx hb d_PI_piece_52 rfl (lv_at hl 0 rfl) ?_
   refine va_get (D := D) (ci := 0) (v := .ref (a 4)) (C := R_PI) (T := T_PI) (N := 12) hx hb hts in_PI hown hK hP 0 cw_at_0 rfl 4 (by decide) (hts _ (List.mem_cons_of_mem _ kw_316)) (fun _ h9 => h9) rfl d_PI_piece_53 ?_
   refine lv_iload_n hx hb d_PI_piece_56 rfl (lv_at hl 1 rfl) ?_
   refine cc_i (va_runV (As := [.int x1]) (rest := []) ⟨hx, hb, hml, hown, hts⟩ (ct_Pieces_woodOf l D a cA cZ G _ x1 u2 _ hI h) (pw_cwV 1 hts kw_551 kw_49 kw_644 kw_549 kw_550 (by decide +kernel) ⟨Nat.le_of_ble_eq_true rfl, Nat.le_of_ble_eq_true rfl⟩) ⟨pw_blind, va_recv hK hP (ci := 7) (q0 := 4) rfl cw_at_4, fun U hU hW => ⟨rfl, by rw [hU], by rw [hU]; exact hP, va_K.moved hW.alike hK⟩⟩ rfl rfl hl.1 rfl (lv_room (Nat.le_of_ble_eq_true rfl)) d_PI_piece_57 ⟨Nat.le_of_ble_eq_true rfl, Nat.le_of_ble_eq_true rfl⟩) hS hF hA (fun r4 u3 H locs hP hS h => ?_)
   exact px_mono (fun t h => px_ofMQ (fun _ _ h => h) h) (W.iret (Qc := px_Qi Q X (pw_B D (cw a cA cZ G) (cT cA cZ)) A) (v := r4) hx hb hr (fun t ht hW => ⟨Or.inl ⟨r4, u3, rfl, h, by rw [ht]; exact hP, va_K.moved hW.alike hK⟩, hS.F ht⟩) hS.2.2 d_PI_piece_60 hlocks)
 · have h := h.2 c13_0
   by_cases c13_1 : x2 = 1
   · have h := h.1 c13_1
     refine lv_tableIn (tgt := 61) (off := 48) hx hb d_PI_piece_13 (by rw [c13_1]; decide) (by rw [c13_1]; decide) (by rw [c13_1]; decide) (by decide) ?_
     refine lv_aload_n hx hb d_PI_piece_61 rfl (lv_at hl 0 rfl) ?_
     refine va_get (D := D) (ci := 0) (v := .ref (a 4)) (C := R_PI) (T := T_PI) (N := 12) hx hb hts in_PI hown hK hP 0 cw_at_0 rfl 4 (by decide) (hts _ (List.mem_cons_of_mem _ kw_316)) (fun _ h9 => h9) rfl d_PI_piece_62 ?_
     refine lv_iload_n hx hb d_PI_piece_65 rfl (lv_at hl 1 rfl) ?_
     refine cc_i (va_runV (As := [.int x1]) (rest := []) ⟨hx, hb, hml, hown, hts⟩ (ct_Pieces_sizeOf l D a cA cZ G _ x1 u2 _ hI h) (pw_cwV 1 hts kw_598 kw_49 kw_645 kw_596 kw_597 (by decide +kernel) ⟨Nat.le_of_ble_eq_true rfl, Nat.le_of_ble_eq_true rfl⟩) ⟨pw_blind, va_recv hK hP (ci := 7) (q0 := 4) rfl cw_at_4, fun U hU hW => ⟨rfl, by rw [hU], by rw [hU]; exact hP, va_K.moved hW.alike hK⟩⟩ rfl rfl hl.1 rfl (lv_room (Nat.le_of_ble_eq_true rfl)) d_PI_piece_66 ⟨Nat.le_of_ble_eq_true rfl, Nat.le_of_ble_eq_true rfl⟩) hS hF hA (fun r6 u5 H locs hP hS h => ?_)
     exact px_mono (fun t h => px_ofMQ (fun _ _ h => h) h) (W.iret (Qc := px_Qi Q X (pw_B D (cw a cA cZ G) (cT cA cZ)) A) (v := r6) hx hb hr (fun t ht hW => ⟨Or.inl ⟨r6, u5, rfl, h, by rw [ht]; exact hP, va_K.moved hW.alike hK⟩, hS.F ht⟩) hS.2.2 d_PI_piece_69 hlocks)
   · have h := h.2 c13_1
     by_cases c13_2 : x2 = 2
     · have h := h.1 c13_2
       refine lv_tableIn (tgt := 70) (off := 57) hx hb d_PI_piece_13 (by rw [c13_2]; decide) (by rw [c13_2]; decide) (by rw [c13_2]; decide) (by decide) ?_
       refine lv_aload_n hx hb d_PI_piece_70 rfl (lv_at hl 0 rfl) ?_
       refine va_get (D := D) (ci := 0) (v := .ref (a 4)) (C := R_PI) (T := T_PI) (N := 12) hx hb hts in_PI hown hK hP 0 cw_at_0 rfl 4 (by decide) (hts _ (List.mem_cons_of_mem _ kw_316)) (fun _ h9 => h9) rfl d_PI_piece_71 ?_
       refine lv_iload_n hx hb d_PI_piece_74 rfl (lv_at hl 1 rfl) ?_
       refine cc_i (va_runV (As := [.int x1]) (rest := []) ⟨hx, hb, hml, hown, hts⟩ (ct_Pieces_leastXOf l D a cA cZ G _ x1 u2 _ hI h) (pw_cwV 1 hts kw_649 kw_49 kw_646 kw_647 kw_648 (by decide +kernel) ⟨Nat.le_of_ble_eq_true rfl, Nat.le_of_ble_eq_true rfl⟩) ⟨pw_blind, va_recv hK hP (ci := 7) (q0 := 4) rfl cw_at_4, fun U hU hW => ⟨rfl, by rw [hU], by rw [hU]; exact hP, va_K.moved hW.alike hK⟩⟩ rfl rfl hl.1 rfl (lv_room (Nat.le_of_ble_eq_true rfl)) d_PI_piece_75 ⟨Nat.le_of_ble_eq_true rfl, Nat.le_of_ble_eq_true rfl⟩) hS hF hA (fun r8 u7 H locs hP hS h => ?_)
       exact px_mono (fun t h => px_ofMQ (fun _ _ h => h) h) (W.iret (Qc := px_Qi Q X (pw_B D (cw a cA cZ G) (cT cA cZ)) A) (v := r8) hx hb hr (fun t ht hW => ⟨Or.inl ⟨r8, u7, rfl, h, by rw [ht]; exact hP, va_K.moved hW.alike hK⟩, hS.F ht⟩) hS.2.2 d_PI_piece_78 hlocks)
     · have h := h.2 c13_2
       by_cases c13_3 : x2 = 3
       · have h := h.1 c13_3
         refine lv_tableIn (tgt := 79) (off := 66) hx hb d_PI_piece_13 (by rw [c13_3]; decide) (by rw [c13_3]; decide) (by rw [c13_3]; decide) (by decide) ?_
         refine lv_aload_n hx hb d_PI_piece_79 rfl (lv_at hl 0 rfl) ?_
         refine va_get (D := D) (ci := 0) (v := .ref (a 4)) (C := R_PI) (T := T_PI) (N := 12) hx hb hts in_PI hown hK hP 0 cw_at_0 rfl 4 (by decide) (hts _ (List.mem_cons_of_mem _ kw_316)) (fun _ h9 => h9) rfl d_PI_piece_80 ?_
         refine lv_iload_n hx hb d_PI_piece_83 rfl (lv_at hl 1 rfl) ?_
         refine cc_i (va_runV (As := [.int x1]) (rest := []) ⟨hx, hb, hml, hown, hts⟩ (ct_Pieces_leastYOf l D a cA cZ G _ x1 u2 _ hI h) (pw_cwV 1 hts kw_582 kw_49 kw_650 kw_580 kw_581 (by decide +kernel) ⟨Nat.le_of_ble_eq_true rfl, Nat.le_of_ble_eq_true rfl⟩) ⟨pw_blind, va_recv hK hP (ci := 7) (q0 := 4) rfl cw_at_4, fun U hU hW => ⟨rfl, by rw [hU], by rw [hU]; exact hP, va_K.moved hW.alike hK⟩⟩ rfl rfl hl.1 rfl (lv_room (Nat.le_of_ble_eq_true rfl)) d_PI_piece_84 ⟨Nat.le_of_ble_eq_true rfl, Nat.le_of_ble_eq_true rfl⟩) hS hF hA (fun r10 u9 H locs hP hS h => ?_)
         exact px_mono (fun t h => px_ofMQ (fun _ _ h => h) h) (W.iret (Qc := px_Qi Q X (pw_B D (cw a cA cZ G) (cT cA cZ)) A) (v := r10) hx hb hr (fun t ht hW => ⟨Or.inl ⟨r10, u9, rfl, h, by rw [ht]; exact hP, va_K.moved hW.alike hK⟩, hS.F ht⟩) hS.2.2 d_PI_piece_87 hlocks)
       · have h := h.2 c13_3
         by_cases c13_4 : x2 = 4
         · have h := h.1 c13_4
           refine lv_tableIn (tgt := 88) (off := 75) hx hb d_PI_piece_13 (by rw [c13_4]; decide) (by rw [c13_4]; decide) (by rw [c13_4]; decide) (by decide) ?_
           refine lv_aload_n hx hb d_PI_piece_88 rfl (lv_at hl 0 rfl) ?_
           refine va_get (D := D) (ci := 0) (v := .ref (a 4)) (C := R_PI) (T := T_PI) (N := 12) hx hb hts in_PI hown hK hP 0 cw_at_0 rfl 4 (by decide) (hts _ (List.mem_cons_of_mem _ kw_316)) (fun _ h9 => h9) rfl d_PI_piece_89 ?_
           refine lv_iload_n hx hb d_PI_piece_92 rfl (lv_at hl 1 rfl) ?_
           refine cc_i (va_runV (As := [.int x1]) (rest := []) ⟨hx, hb, hml, hown, hts⟩ (ct_Pieces_columnsOf l D a cA cZ G _ x1 u2 _ hI h) (pw_cwV 1 hts kw_587 kw_49 kw_651 kw_585 kw_586 (by decide +kernel) ⟨Nat.le_of_ble_eq_true rfl, Nat.le_of_ble_eq_true rfl⟩) ⟨pw_blind, va_recv hK hP (ci := 7) (q0 := 4) rfl cw_at_4, fun U hU hW => ⟨rfl, by rw [hU], by rw [hU]; exact hP, va_K.moved hW.alike hK⟩⟩ rfl rfl hl.1 rfl (lv_room (Nat.le_of_ble_eq_true rfl)) d_PI_piece_93 ⟨Nat.le_of_ble_eq_true rfl, Nat.le_of_ble_eq_true rfl⟩) hS hF hA (fun r12 u11 H locs hP hS h => ?_)
           exact px_mono (fun t h => px_ofMQ (fun _ _ h => h) h) (W.iret (Qc := px_Qi Q X (pw_B D (cw a cA cZ G) (cT cA cZ)) A) (v := r12) hx hb hr (fun t ht hW => ⟨Or.inl ⟨r12, u11, rfl, h, by rw [ht]; exact hP, va_K.moved hW.alike hK⟩, hS.F ht⟩) hS.2.2 d_PI_piece_96 hlocks)
         · have h := h.2 c13_4
           by_cases c13_5 : x2 = 5
           · have h := h.1 c13_5
             refine lv_tableIn (tgt := 97) (off := 84) hx hb d_PI_piece_13 (by rw [c13_5]; decide) (by rw [c13_5]; decide) (by rw [c13_5]; decide) (by decide) ?_
             refine lv_aload_n hx hb d_PI_piece_97 rfl (lv_at hl 0 rfl) ?_
             refine va_get (D := D) (ci := 0) (v := .ref (a 4)) (C := R_PI) (T := T_PI) (N := 12) hx hb hts in_PI hown hK hP 0 cw_at_0 rfl 4 (by decide) (hts _ (List.mem_cons_of_mem _ kw_316)) (fun _ h9 => h9) rfl d_PI_piece_98 ?_
             refine lv_iload_n hx hb d_PI_piece_101 rfl (lv_at hl 1 rfl) ?_
             refine cc_i (va_runV (As := [.int x1]) (rest := []) ⟨hx, hb, hml, hown, hts⟩ (ct_Pieces_rowsOf l D a cA cZ G _ x1 u2 _ hI h) (pw_cwV 1 hts kw_578 kw_49 kw_652 kw_576 kw_577 (by decide +kernel) ⟨Nat.le_of_ble_eq_true rfl, Nat.le_of_ble_eq_true rfl⟩) ⟨pw_blind, va_recv hK hP (ci := 7) (q0 := 4) rfl cw_at_4, fun U hU hW => ⟨rfl, by rw [hU], by rw [hU]; exact hP, va_K.moved hW.alike hK⟩⟩ rfl rfl hl.1 rfl (lv_room (Nat.le_of_ble_eq_true rfl)) d_PI_piece_102 ⟨Nat.le_of_ble_eq_true rfl, Nat.le_of_ble_eq_true rfl⟩) hS hF hA (fun r14 u13 H locs hP hS h => ?_)
             exact px_mono (fun t h => px_ofMQ (fun _ _ h => h) h) (W.iret (Qc := px_Qi Q X (pw_B D (cw a cA cZ G) (cT cA cZ)) A) (v := r14) hx hb hr (fun t ht hW => ⟨Or.inl ⟨r14, u13, rfl, h, by rw [ht]; exact hP, va_K.moved hW.alike hK⟩, hS.F ht⟩) hS.2.2 d_PI_piece_105 hlocks)
           · have h := h.2 c13_5
             refine lv_tableOut (tgt := 106) hx hb d_PI_piece_13 (sw_out0_5 c13_0 c13_1 c13_2 c13_3 c13_4 c13_5) (by decide) ?_
             refine lv_aload_n hx hb d_PI_piece_106 rfl (lv_at hl 0 rfl) ?_
             refine va_get (D := D) (ci := 0) (v := .ref (a 4)) (C := R_PI) (T := T_PI) (N := 12) hx hb hts in_PI hown hK hP 0 cw_at_0 rfl 4 (by decide) (hts _ (List.mem_cons_of_mem _ kw_316)) (fun _ h9 => h9) rfl d_PI_piece_107 ?_
             refine lv_iload_n hx hb d_PI_piece_110 rfl (lv_at hl 1 rfl) ?_
             refine cc_i (va_runV (As := [.int x1]) (rest := []) ⟨hx, hb, hml, hown, hts⟩ (ct_Pieces_isAtEdge l D a cA cZ G _ x1 u2 _ hI h) (pw_cwV 1 hts kw_594 kw_49 kw_653 kw_592 kw_593 (by decide +kernel) ⟨Nat.le_of_ble_eq_true rfl, Nat.le_of_ble_eq_true rfl⟩) ⟨pw_blind, va_recv hK hP (ci := 7) (q0 := 4) rfl cw_at_4, fun U hU hW => ⟨rfl, by rw [hU], by rw [hU]; exact hP, va_K.moved hW.alike hK⟩⟩ rfl rfl hl.1 rfl (lv_room (Nat.le_of_ble_eq_true rfl)) d_PI_piece_111 ⟨Nat.le_of_ble_eq_true rfl, Nat.le_of_ble_eq_true rfl⟩) hS hF hA (fun r16 u15 H locs hP hS h => ?_)
             refine lv_if_eq (tgt := 121) hx hb d_PI_piece_114 (by decide) (fun c17 => ?_) (fun c17 => ?_)
             · have h := h.1 c17
               refine lv_iconst (v := 0) hx hb d_PI_piece_121 (by decide) ?_
               exact px_mono (fun t h => px_ofMQ (fun _ _ h => h) h) (W.iret (Qc := px_Qi Q X (pw_B D (cw a cA cZ G) (cT cA cZ)) A) (v := 0) hx hb hr (fun t ht hW => ⟨Or.inl ⟨0, u15, rfl, h, by rw [ht]; exact hP, va_K.moved hW.alike hK⟩, hS.F ht⟩) hS.2.2 d_PI_piece_122 hlocks)
             · have h := h.2 c17
               refine lv_iconst (v := 1) hx hb d_PI_piece_117 (by decide) ?_
               refine lv_goto (tgt := 122) hx hb d_PI_piece_118 (by decide) ?_
               exact px_mono (fun t h => px_ofMQ (fun _ _ h => h) h) (W.iret (Qc := px_Qi Q X (pw_B D (cw a cA cZ G) (cT cA cZ)) A) (v := 1) hx hb hr (fun t ht hW => ⟨Or.inl ⟨1, u15, rfl, h, by rw [ht]; exact hP, va_K.moved hW.alike hK⟩, hS.F ht⟩) hS.2.2 d_PI_piece_122 hlocks)
set_option maxHeartbeats 4000000 in
set_option maxRecDepth 100000 in
theorem ct_PI_piece (l : Launch) (D : va_G) (a : Nat → Nat) (cA cZ : ClassId) (G : pG) (sz : Nat) (x1 x2 : Int32) (u : pS) (Q : Int32 → pS → Prop) (X : Nat → pS → Prop) (hL : px_L l) (hI : pw_I 40 a) (h : wp_PI_piece G x1 x2 u Q X) : px_Met l y_PI_piece w_PI_piece ({ frames := 8, cells := 1, slots := 6, locals := 124 } : Room) (va_Pc [.ref (a 0), .int x1, .int x2] (fun U => pw_pre D (cw a cA cZ G) (cT cA cZ) sz u U ∧ cw_Ex (pw_F 40 a sz) U)) (px_Qi Q X (pw_B D (cw a cA cZ G) (cT cA cZ)) (pw_F 40 a sz)) 0 0 1 6 (pw_F 40 a sz) := by
 refine px_ofW (cc := b_PI_piece) (maxL := 3) (ret := (some .int)) (by decide) rfl ?_
 intro p e s m args below meth c s₁ B hml hE hv
 obtain ⟨rfl, ⟨hsz, hP, hK⟩, EX⟩ := hv
 subst hsz
 have hl := lv_entry ([.ref (a 0), .int x1, .int x2]) (n := 3) (Nat.le_of_ble_eq_true rfl)
 rw [lg_entry_eq]
 generalize (lg_sl ([.ref (a 0), .int x1, .int x2]) ++ List.replicate (3 - (lg_sl ([.ref (a 0), .int x1, .int x2])).length) Slot.unset).toArray = ls at hl ⊢
 exact st_PI_piece (A := (pw_F 40 a s.heap.size)) ⟨B.exec, B.bytes, B.returns, hml, findClass_of_methodNamed B.named, atoms_spec (ws := w_PI_piece) B.pre, B.notSynchronized, fun q hq => Or.inr hq⟩ ⟨hK, hI, fun k hk => Or.inl ⟨k, hk, rfl⟩⟩ EX hL (hL e B.admits) (px_none hE) x1 x2 u ls hP hl h
set_option maxHeartbeats 4000000 in
set_option maxRecDepth 100000 in
theorem cp_Arrays_fill_sides_5 {p : Program} {l : Launch} {e : Env} {s : State} {m : MethodId} {args : Array Value} {below : List Frame} {meth : Method} {c : Code} {D : va_G} {a : Nat → Nat} {cA cZ : ClassId} {G : pG} {A : Nat → Prop} {Q : pS → Prop} (C : pw_C p s m args meth c b_Arrays_fill 4 R_Arrays none w_Arrays_fill A) (K : pw_K s D 40 a (cT cA cZ) A) : ∀ (n : Nat), ∀ (x1 x2 x3 : Int32) (u : pS) (H : Heap) (locs : List Loc) (ls : Array Slot), va_P D vwCl (cw a cA cZ G u) H → va_S A s.heap H locs → lv_has ls 4 [(0, .ref (a 23)), (1, .int x1), (2, .int x2), (3, .int x3)] → lp_Arrays_fill_sides_5 G Q n x1 x2 x3 u → W p l e ({ frames := 0, cells := 0, slots := 0, locals := 0 } : Room) s m args below meth c H locs 0 0 (pw_Ev below args s D (cw a cA cZ G) (cT cA cZ) A Q) (F0 m 5 ls []) := by
 obtain ⟨hx, hb, hr, hml, hown, hts, hlocks, hA⟩ := id C
 obtain ⟨hK, hI, hF⟩ := id K
 have hD : ∀ u, va_D A (cw a cA cZ G u) := fun u => cw_D hI hF
 intro n
 induction n with
 | zero => intro x1 x2 x3 u H locs ls hP hS hl h; exact h.elim
 | succ n ih =>
   intro x1 x2 x3 u H locs ls hP hS hl h
   refine lv_iload_n hx hb d_Arrays_fill_5 rfl (lv_at hl 2 rfl) ?_
   refine lv_iload_n hx hb d_Arrays_fill_6 rfl (lv_at hl 3 rfl) ?_
   refine lv_icmp_ge (tgt := 20) hx hb d_Arrays_fill_7 (by decide) (fun c2 => ?_) (fun c2 => ?_)
   · have h := h.1 c2
     exact W.vret hx hb hr (fun t ht hW => ⟨⟨u, rfl, h, by rw [ht]; exact hP, va_K.moved hW.alike hK⟩, hS.F ht⟩) hS.2.2 d_Arrays_fill_20 hlocks
   · have h := h.2 c2
     refine lv_aload_n hx hb d_Arrays_fill_10 rfl (lv_at hl 0 rfl) ?_
     refine lv_iload_n hx hb d_Arrays_fill_11 rfl (lv_at hl 2 rfl) ?_
     refine lv_iload_n hx hb d_Arrays_fill_12 rfl (lv_at hl 1 rfl) ?_
     refine va_iast hx hb hK hP (hD _) hS 23 0 cw_at_23 rfl h.1 d_Arrays_fill_13 (fun H locs hP _ hS => ?_)
     obtain ⟨u3, eu3⟩ : ∃ z, z = pw_sa u 9 (upd (u.2 9) x2.toNatClampNeg x1) := ⟨_, rfl⟩
     rw [cw_sa_23, ← eu3] at hP
     have h := h.2 u3 eu3
     obtain ⟨t4, et4⟩ : ∃ y : Int32, y = x2 + 1 := ⟨_, rfl⟩
     have h := h t4 et4
     refine lv_iinc (v := t4) (lv' := [(2, .int t4), (0, .ref (a 23)), (1, .int x1), (3, .int x3)]) hx hb d_Arrays_fill_14 hl (k := 2) rfl (by rw [et4]; rfl) (by decide) rfl (fun ls hl => ?_)
     refine lv_goto (tgt := 5) hx hb d_Arrays_fill_17 (by decide) ?_
     exact ih x1 t4 x3 u3 _ _ _ hP hS (lv_sub hl [1, 2, 0, 3] rfl) h
set_option maxHeartbeats 4000000 in
set_option maxRecDepth 100000 in
theorem st_Arrays_fill_sides {p : Program} {l : Launch} {e : Env} {s : State} {m : MethodId} {args : Array Value} {below : List Frame} {meth : Method} {c : Code} {D : va_G} {a : Nat → Nat} {cA cZ : ClassId} {G : pG} {A : Nat → Prop} {Q : pS → Prop} (C : pw_C p s m args meth c b_Arrays_fill 4 R_Arrays none w_Arrays_fill A) (K : pw_K s D 40 a (cT cA cZ) A) (x1 : Int32) (u : pS) (ls : Array Slot) (hP : va_P D vwCl (cw a cA cZ G u) s.heap) (hl : lv_has ls 4 [(0, .ref (a 23)), (1, .int x1)]) (h : wp_Arrays_fill_sides G x1 u Q) : W p l e ({ frames := 0, cells := 0, slots := 0, locals := 0 } : Room) s m args below meth c s.heap [] 0 0 (pw_Ev below args s D (cw a cA cZ G) (cT cA cZ) A Q) (F0 m 0 ls []) := by
 obtain ⟨hx, hb, hr, hml, hown, hts, hlocks, hA⟩ := id C
 obtain ⟨hK, hI, hF⟩ := id K
 have hD : ∀ u, va_D A (cw a cA cZ G u) := fun u => cw_D hI hF
 have hS : va_S A s.heap s.heap [] := va_S.rf
 have h : wp_Arrays_fill_sides G x1 u Q := h
 refine lv_iconst (v := 0) hx hb d_Arrays_fill_0 (by decide) ?_
 refine lv_istore_n (lv' := [(2, .int 0), (0, .ref (a 23)), (1, .int x1)]) hx hb d_Arrays_fill_1 rfl hl (by decide) rfl (fun ls hl => ?_)
 refine lv_aload_n hx hb d_Arrays_fill_2 rfl (lv_at hl 1 rfl) ?_
 refine va_alen (v := nI (G.1 23)) hx hb hK hP 23 0 cw_at_23 rfl rfl d_Arrays_fill_3 ?_
 refine lv_topi (fun t1 et1 => ?_)
 have h := h t1 et1
 refine lv_istore_n (lv' := [(3, .int t1), (2, .int 0), (0, .ref (a 23)), (1, .int x1)]) hx hb d_Arrays_fill_4 rfl hl (by decide) rfl (fun ls hl => ?_)
 obtain ⟨n1, h⟩ := h
 exact cp_Arrays_fill_sides_5 C K n1 x1 0 t1 u _ _ _ hP hS (lv_sub hl [2, 3, 1, 0] rfl) h
set_option maxHeartbeats 4000000 in
set_option maxRecDepth 100000 in
theorem ct_Arrays_fill_sides (l : Launch) (D : va_G) (a : Nat → Nat) (cA cZ : ClassId) (G : pG) (sz : Nat) (x1 : Int32) (u : pS) (Q : pS → Prop) (hI : pw_I 40 a) (h : wp_Arrays_fill_sides G x1 u Q) : Met l y_Arrays_fill w_Arrays_fill ({ frames := 0, cells := 0, slots := 0, locals := 0 } : Room) (va_Pc [.ref (a 23), .int x1] (pw_pre D (cw a cA cZ G) (cT cA cZ) sz u)) (va_Qv (fun (u : pS) => Q u) (pw_B D (cw a cA cZ G) (cT cA cZ)) (pw_F 40 a sz)) 0 0 (pw_F 40 a sz) := by
 refine Met.ofW (cc := b_Arrays_fill) (maxL := 4) (ret := none) (by decide) rfl ?_
 intro p e s m args below meth c s₁ B hml hv
 obtain ⟨rfl, hsz, hP, hK⟩ := hv
 subst hsz
 have hl := lv_entry ([.ref (a 23), .int x1]) (n := 4) (Nat.le_of_ble_eq_true rfl)
 rw [lg_entry_eq]
 generalize (lg_sl ([.ref (a 23), .int x1]) ++ List.replicate (4 - (lg_sl ([.ref (a 23), .int x1])).length) Slot.unset).toArray = ls at hl ⊢
 exact st_Arrays_fill_sides (A := (pw_F 40 a s.heap.size)) ⟨B.exec, B.bytes, B.returns, hml, findClass_of_methodNamed B.named, atoms_spec (ws := w_Arrays_fill) B.pre, B.notSynchronized, fun q hq => Or.inr hq⟩ ⟨hK, hI, fun k hk => Or.inl ⟨k, hk, rfl⟩⟩ x1 u ls hP hl h
set_option maxHeartbeats 4000000 in
set_option maxRecDepth 100000 in
theorem st_Grid_besideOf {p : Program} {l : Launch} {e : Env} {s : State} {m : MethodId} {args : Array Value} {below : List Frame} {meth : Method} {c : Code} {D : va_G} {a : Nat → Nat} {cA cZ : ClassId} {G : pG} {A : Nat → Prop} {Q : Int32 → pS → Prop} (C : pw_C p s m args meth c b_Grid_besideOf 3 R_Grid (some .int) w_Grid_besideOf A) (K : pw_K s D 40 a (cT cA cZ) A) (x1 x2 : Int32) (u : pS) (ls : Array Slot) (hP : va_P D vwCl (cw a cA cZ G u) s.heap) (hl : lv_has ls 3 [(0, .ref (a 1)), (1, .int x1), (2, .int x2)]) (h : wp_Grid_besideOf G x1 x2 u Q) : W p l e ({ frames := 0, cells := 0, slots := 0, locals := 0 } : Room) s m args below meth c s.heap [] 0 0 (pw_Ei below args s D (cw a cA cZ G) (cT cA cZ) A Q) (F0 m 0 ls []) := by
 obtain ⟨hx, hb, hr, hml, hown, hts, hlocks, hA⟩ := id C
 obtain ⟨hK, hI, hF⟩ := id K
 have hD : ∀ u, va_D A (cw a cA cZ G u) := fun u => cw_D hI hF
 have hS : va_S A s.heap s.heap [] := va_S.rf
 have h : wp_Grid_besideOf G x1 x2 u Q := h
 refine lv_aload_n hx hb d_Grid_besideOf_0 rfl (lv_at hl 0 rfl) ?_
 refine va_get (D := D) (ci := 4) (v := .ref (a 13)) (C := R_Grid) (T := T_Grid) (N := 6) hx hb hts in_Grid hown hK hP 1 cw_at_1 rfl 5 (by decide) (hts _ (List.mem_cons_of_mem _ kw_114)) (fun _ h9 => h9) rfl d_Grid_besideOf_1 ?_
 refine lv_iload_n hx hb d_Grid_besideOf_4 rfl (lv_at hl 1 rfl) ?_
 refine lv_iconst (v := 4) hx hb d_Grid_besideOf_5 (by decide) ?_
 refine lv_imul hx hb d_Grid_besideOf_6 ?_
 refine lv_iload_n hx hb d_Grid_besideOf_7 rfl (lv_at hl 2 rfl) ?_
 refine lv_iadd hx hb d_Grid_besideOf_8 ?_
 refine va_iald hx hb hK hP 13 0 cw_at_13 rfl h.1 d_Grid_besideOf_9 ?_
 have h := h.2
 exact W.iret (v := (G.2.2 2 ((x1 * 4) + x2).toNatClampNeg)) hx hb hr (fun t ht hW => ⟨⟨(G.2.2 2 ((x1 * 4) + x2).toNatClampNeg), u, rfl, h, by rw [ht]; exact hP, va_K.moved hW.alike hK⟩, hS.F ht⟩) hS.2.2 d_Grid_besideOf_10 hlocks
set_option maxHeartbeats 4000000 in
set_option maxRecDepth 100000 in
theorem ct_Grid_besideOf (l : Launch) (D : va_G) (a : Nat → Nat) (cA cZ : ClassId) (G : pG) (sz : Nat) (x1 x2 : Int32) (u : pS) (Q : Int32 → pS → Prop) (hI : pw_I 40 a) (h : wp_Grid_besideOf G x1 x2 u Q) : Met l y_Grid_besideOf w_Grid_besideOf ({ frames := 0, cells := 0, slots := 0, locals := 0 } : Room) (va_Pc [.ref (a 1), .int x1, .int x2] (pw_pre D (cw a cA cZ G) (cT cA cZ) sz u)) (va_Qi (fun (r : Int32) (u : pS) => Q r u) (pw_B D (cw a cA cZ G) (cT cA cZ)) (pw_F 40 a sz)) 0 0 (pw_F 40 a sz) := by
 refine Met.ofW (cc := b_Grid_besideOf) (maxL := 3) (ret := (some .int)) (by decide) rfl ?_
 intro p e s m args below meth c s₁ B hml hv
 obtain ⟨rfl, hsz, hP, hK⟩ := hv
 subst hsz
 have hl := lv_entry ([.ref (a 1), .int x1, .int x2]) (n := 3) (Nat.le_of_ble_eq_true rfl)
 rw [lg_entry_eq]
 generalize (lg_sl ([.ref (a 1), .int x1, .int x2]) ++ List.replicate (3 - (lg_sl ([.ref (a 1), .int x1, .int x2])).length) Slot.unset).toArray = ls at hl ⊢
 exact st_Grid_besideOf (A := (pw_F 40 a s.heap.size)) ⟨B.exec, B.bytes, B.returns, hml, findClass_of_methodNamed B.named, atoms_spec (ws := w_Grid_besideOf) B.pre, B.notSynchronized, fun q hq => Or.inr hq⟩ ⟨hK, hI, fun k hk => Or.inl ⟨k, hk, rfl⟩⟩ x1 x2 u ls hP hl h
set_option maxHeartbeats 4000000 in
set_option maxRecDepth 100000 in
theorem cp_Pieces_countSidesAt_2 {p : Program} {l : Launch} {e : Env} {s : State} {m : MethodId} {args : Array Value} {below : List Frame} {meth : Method} {c : Code} {D : va_G} {a : Nat → Nat} {cA cZ : ClassId} {G : pG} {A : Nat → Prop} {Q : pS → Prop} (C : pw_C p s m args meth c b_Pieces_countSidesAt 4 R_Pieces none w_Pieces_countSidesAt A) (K : pw_K s D 40 a (cT cA cZ) A) : ∀ (n : Nat), ∀ (x1 x2 : Int32) (u : pS) (H : Heap) (locs : List Loc) (ls : Array Slot), va_P D vwCl (cw a cA cZ G u) H → va_S A s.heap H locs → lv_has ls 4 [(0, .ref (a 4)), (1, .int x1), (2, .int x2)] → lp_Pieces_countSidesAt_2 G Q n x1 x2 u → W p l e ({ frames := 1, cells := 0, slots := 0, locals := 22 } : Room) s m args below meth c H locs 0 0 (pw_Ev below args s D (cw a cA cZ G) (cT cA cZ) A Q) (F0 m 2 ls []) := by
 obtain ⟨hx, hb, hr, hml, hown, hts, hlocks, hA⟩ := id C
 obtain ⟨hK, hI, hF⟩ := id K
 have hD : ∀ u, va_D A (cw a cA cZ G u) := fun u => cw_D hI hF
 intro n
 induction n with
 | zero => intro x1 x2 u H locs ls hP hS hl h; exact h.elim
 | succ n ih =>
   intro x1 x2 u H locs ls hP hS hl h
   refine lv_iload_n hx hb d_Pieces_countSidesAt_2 rfl (lv_at hl 2 rfl) ?_
   refine lv_iconst (v := 4) hx hb d_Pieces_countSidesAt_3 (by decide) ?_
   refine lv_icmp_ge (tgt := 58) hx hb d_Pieces_countSidesAt_4 (by decide) (fun c1 => ?_) (fun c1 => ?_)
   · have h := h.1 c1
     exact W.vret hx hb hr (fun t ht hW => ⟨⟨u, rfl, h, by rw [ht]; exact hP, va_K.moved hW.alike hK⟩, hS.F ht⟩) hS.2.2 d_Pieces_countSidesAt_58 hlocks
   · have h := h.2 c1
     refine lv_aload_n hx hb d_Pieces_countSidesAt_7 rfl (lv_at hl 0 rfl) ?_
     refine va_get (D := D) (ci := 7) (v := .ref (a 1)) (C := R_Pieces) (T := T_Pieces) (N := 11) hx hb hts in_Pieces hown hK hP 4 cw_at_4 rfl 0 (by decide) (hts _ (List.mem_cons_of_mem _ kw_151)) (fun _ h9 => h9) rfl d_Pieces_countSidesAt_8 ?_
     refine lv_iload_n hx hb d_Pieces_countSidesAt_11 rfl (lv_at hl 1 rfl) ?_
     refine lv_iload_n hx hb d_Pieces_countSidesAt_12 rfl (lv_at hl 2 rfl) ?_
     refine cc_i (va_runV (As := [.int x1, .int x2]) (rest := []) ⟨hx, hb, hml, hown, hts⟩ (ct_Grid_besideOf l D a cA cZ G _ x1 x2 u _ hI h) (pw_cwV 2 hts kw_527 kw_46 kw_524 kw_525 kw_526 (by decide +kernel) ⟨Nat.le_of_ble_eq_true rfl, Nat.le_of_ble_eq_true rfl⟩) ⟨pw_blind, va_recv hK hP (ci := 4) (q0 := 1) rfl cw_at_1, fun U hU hW => ⟨rfl, by rw [hU], by rw [hU]; exact hP, va_K.moved hW.alike hK⟩⟩ rfl rfl hl.1 rfl (lv_room (Nat.le_of_ble_eq_true rfl)) d_Pieces_countSidesAt_13 ⟨Nat.le_of_ble_eq_true rfl, Nat.le_of_ble_eq_true rfl⟩) hS hF hA (fun r3 u2 H locs hP hS h => ?_)
     refine lv_istore_n (lv' := [(3, .int r3), (0, .ref (a 4)), (1, .int x1), (2, .int x2)]) hx hb d_Pieces_countSidesAt_16 rfl hl (by decide) rfl (fun ls hl => ?_)
     refine lv_iload_n hx hb d_Pieces_countSidesAt_17 rfl (lv_at hl 0 rfl) ?_
     refine lv_iconst (v := -1) hx hb d_Pieces_countSidesAt_18 (by decide) ?_
     refine lv_icmp_eq (tgt := 52) hx hb d_Pieces_countSidesAt_19 (by decide) (fun c4 => ?_) (fun c4 => ?_)
     · have h := h.1 c4
       obtain ⟨t5, et5⟩ : ∃ y : Int32, y = x2 + 1 := ⟨_, rfl⟩
       have h := h t5 et5
       refine lv_iinc (v := t5) (lv' := [(2, .int t5), (3, .int r3), (0, .ref (a 4)), (1, .int x1)]) hx hb d_Pieces_countSidesAt_52 hl (k := 3) rfl (by rw [et5]; rfl) (by decide) rfl (fun ls hl => ?_)
       refine lv_goto (tgt := 2) hx hb d_Pieces_countSidesAt_55 (by decide) ?_
       exact ih x1 t5 u2 _ _ _ hP hS (lv_sub hl [2, 3, 0] rfl) h
     · have h := h.2 c4
       refine lv_aload_n hx hb d_Pieces_countSidesAt_22 rfl (lv_at hl 1 rfl) ?_
       refine va_get (D := D) (ci := 7) (v := .ref (a 21)) (C := R_Pieces) (T := T_Pieces) (N := 11) hx hb hts in_Pieces hown hK hP 4 cw_at_4 rfl 2 (by decide) (hts _ (List.mem_cons_of_mem _ kw_153)) (fun _ h9 => h9) rfl d_Pieces_countSidesAt_23 ?_
       refine lv_iload_n hx hb d_Pieces_countSidesAt_26 rfl (lv_at hl 0 rfl) ?_
       refine va_iald hx hb hK hP 21 0 cw_at_21 rfl h.1 d_Pieces_countSidesAt_27 ?_
       have h := h.2
       refine lv_aload_n hx hb d_Pieces_countSidesAt_28 rfl (lv_at hl 1 rfl) ?_
       refine va_get (D := D) (ci := 7) (v := .ref (a 21)) (C := R_Pieces) (T := T_Pieces) (N := 11) hx hb hts in_Pieces hown hK hP 4 cw_at_4 rfl 2 (by decide) (hts _ (List.mem_cons_of_mem _ kw_153)) (fun _ h9 => h9) rfl d_Pieces_countSidesAt_29 ?_
       refine lv_iload_n hx hb d_Pieces_countSidesAt_32 rfl (lv_at hl 2 rfl) ?_
       refine va_iald hx hb hK hP 21 0 cw_at_21 rfl h.1 d_Pieces_countSidesAt_33 ?_
       have h := h.2
       refine lv_icmp_eq (tgt := 52) hx hb d_Pieces_countSidesAt_34 (by decide) (fun c6 => ?_) (fun c6 => ?_)
       · have h := h.1 c6
         obtain ⟨t7, et7⟩ : ∃ y : Int32, y = x2 + 1 := ⟨_, rfl⟩
         have h := h t7 et7
         refine lv_iinc (v := t7) (lv' := [(2, .int t7), (3, .int r3), (0, .ref (a 4)), (1, .int x1)]) hx hb d_Pieces_countSidesAt_52 hl (k := 3) rfl (by rw [et7]; rfl) (by decide) rfl (fun ls hl => ?_)
         refine lv_goto (tgt := 2) hx hb d_Pieces_countSidesAt_55 (by decide) ?_
         exact ih x1 t7 u2 _ _ _ hP hS (lv_sub hl [2, 3, 0] rfl) h
       · have h := h.2 c6
         refine lv_aload_n hx hb d_Pieces_countSidesAt_37 rfl (lv_at hl 1 rfl) ?_
         refine va_get (D := D) (ci := 7) (v := .ref (a 23)) (C := R_Pieces) (T := T_Pieces) (N := 11) hx hb hts in_Pieces hown hK hP 4 cw_at_4 rfl 4 (by decide) (hts _ (List.mem_cons_of_mem _ kw_155)) (fun _ h9 => h9) rfl d_Pieces_countSidesAt_38 ?_
         refine lv_aload_n hx hb d_Pieces_countSidesAt_41 rfl (lv_at hl 1 rfl) ?_
         refine va_get (D := D) (ci := 7) (v := .ref (a 21)) (C := R_Pieces) (T := T_Pieces) (N := 11) hx hb hts in_Pieces hown hK hP 4 cw_at_4 rfl 2 (by decide) (hts _ (List.mem_cons_of_mem _ kw_153)) (fun _ h9 => h9) rfl d_Pieces_countSidesAt_42 ?_
         refine lv_iload_n hx hb d_Pieces_countSidesAt_45 rfl (lv_at hl 0 rfl) ?_
         refine va_iald hx hb hK hP 21 0 cw_at_21 rfl h.1 d_Pieces_countSidesAt_46 ?_
         have h := h.2
         refine lv_dup2_11 hx hb d_Pieces_countSidesAt_47 rfl rfl ?_
         refine va_iald hx hb hK hP 23 0 cw_at_23 rfl h.1 d_Pieces_countSidesAt_48 ?_
         have h := h.2
         refine lv_iconst (v := 1) hx hb d_Pieces_countSidesAt_49 (by decide) ?_
         refine lv_iadd hx hb d_Pieces_countSidesAt_50 ?_
         refine va_iast hx hb hK hP (hD _) hS 23 0 cw_at_23 rfl h.1 d_Pieces_countSidesAt_51 (fun H locs hP _ hS => ?_)
         obtain ⟨u8, eu8⟩ : ∃ z, z = pw_sa u2 9 (upd (u2.2 9) (u2.2 7 r3.toNatClampNeg).toNatClampNeg ((u2.2 9 (u2.2 7 r3.toNatClampNeg).toNatClampNeg) + 1)) := ⟨_, rfl⟩
         rw [cw_sa_23, ← eu8] at hP
         have h := h.2 u8 eu8
         obtain ⟨t9, et9⟩ : ∃ y : Int32, y = x2 + 1 := ⟨_, rfl⟩
         have h := h t9 et9
         refine lv_iinc (v := t9) (lv' := [(2, .int t9), (3, .int r3), (0, .ref (a 4)), (1, .int x1)]) hx hb d_Pieces_countSidesAt_52 hl (k := 3) rfl (by rw [et9]; rfl) (by decide) rfl (fun ls hl => ?_)
         refine lv_goto (tgt := 2) hx hb d_Pieces_countSidesAt_55 (by decide) ?_
         exact ih x1 t9 u8 _ _ _ hP hS (lv_sub hl [2, 3, 0] rfl) h
set_option maxHeartbeats 4000000 in
set_option maxRecDepth 100000 in
theorem st_Pieces_countSidesAt {p : Program} {l : Launch} {e : Env} {s : State} {m : MethodId} {args : Array Value} {below : List Frame} {meth : Method} {c : Code} {D : va_G} {a : Nat → Nat} {cA cZ : ClassId} {G : pG} {A : Nat → Prop} {Q : pS → Prop} (C : pw_C p s m args meth c b_Pieces_countSidesAt 4 R_Pieces none w_Pieces_countSidesAt A) (K : pw_K s D 40 a (cT cA cZ) A) (x1 : Int32) (u : pS) (ls : Array Slot) (hP : va_P D vwCl (cw a cA cZ G u) s.heap) (hl : lv_has ls 4 [(0, .ref (a 4)), (1, .int x1)]) (h : wp_Pieces_countSidesAt G x1 u Q) : W p l e ({ frames := 1, cells := 0, slots := 0, locals := 22 } : Room) s m args below meth c s.heap [] 0 0 (pw_Ev below args s D (cw a cA cZ G) (cT cA cZ) A Q) (F0 m 0 ls []) := by
 obtain ⟨hx, hb, hr, hml, hown, hts, hlocks, hA⟩ := id C
 obtain ⟨hK, hI, hF⟩ := id K
 have hD : ∀ u, va_D A (cw a cA cZ G u) := fun u => cw_D hI hF
 have hS : va_S A s.heap s.heap [] := va_S.rf
 have h : wp_Pieces_countSidesAt G x1 u Q := h
 refine lv_iconst (v := 0) hx hb d_Pieces_countSidesAt_0 (by decide) ?_
 refine lv_istore_n (lv' := [(2, .int 0), (0, .ref (a 4)), (1, .int x1)]) hx hb d_Pieces_countSidesAt_1 rfl hl (by decide) rfl (fun ls hl => ?_)
 obtain ⟨n1, h⟩ := h
 exact cp_Pieces_countSidesAt_2 C K n1 x1 0 u _ _ _ hP hS (lv_sub hl [1, 2, 0] rfl) h
set_option maxHeartbeats 4000000 in
set_option maxRecDepth 100000 in
theorem ct_Pieces_countSidesAt (l : Launch) (D : va_G) (a : Nat → Nat) (cA cZ : ClassId) (G : pG) (sz : Nat) (x1 : Int32) (u : pS) (Q : pS → Prop) (hI : pw_I 40 a) (h : wp_Pieces_countSidesAt G x1 u Q) : Met l y_Pieces_countSidesAt w_Pieces_countSidesAt ({ frames := 1, cells := 0, slots := 0, locals := 22 } : Room) (va_Pc [.ref (a 4), .int x1] (pw_pre D (cw a cA cZ G) (cT cA cZ) sz u)) (va_Qv (fun (u : pS) => Q u) (pw_B D (cw a cA cZ G) (cT cA cZ)) (pw_F 40 a sz)) 0 0 (pw_F 40 a sz) := by
 refine Met.ofW (cc := b_Pieces_countSidesAt) (maxL := 4) (ret := none) (by decide) rfl ?_
 intro p e s m args below meth c s₁ B hml hv
 obtain ⟨rfl, hsz, hP, hK⟩ := hv
 subst hsz
 have hl := lv_entry ([.ref (a 4), .int x1]) (n := 4) (Nat.le_of_ble_eq_true rfl)
 rw [lg_entry_eq]
 generalize (lg_sl ([.ref (a 4), .int x1]) ++ List.replicate (4 - (lg_sl ([.ref (a 4), .int x1])).length) Slot.unset).toArray = ls at hl ⊢
 exact st_Pieces_countSidesAt (A := (pw_F 40 a s.heap.size)) ⟨B.exec, B.bytes, B.returns, hml, findClass_of_methodNamed B.named, atoms_spec (ws := w_Pieces_countSidesAt) B.pre, B.notSynchronized, fun q hq => Or.inr hq⟩ ⟨hK, hI, fun k hk => Or.inl ⟨k, hk, rfl⟩⟩ x1 u ls hP hl h
set_option maxHeartbeats 4000000 in
set_option maxRecDepth 100000 in
theorem cp_Pieces_countSidesOf_10 {p : Program} {l : Launch} {e : Env} {s : State} {m : MethodId} {args : Array Value} {below : List Frame} {meth : Method} {c : Code} {D : va_G} {a : Nat → Nat} {cA cZ : ClassId} {G : pG} {A : Nat → Prop} {Q : pS → Prop} (C : pw_C p s m args meth c b_Pieces_countSidesOf 3 R_Pieces none w_Pieces_countSidesOf A) (K : pw_K s D 40 a (cT cA cZ) A) : ∀ (n : Nat), ∀ (x1 x2 : Int32) (u : pS) (H : Heap) (locs : List Loc) (ls : Array Slot), va_P D vwCl (cw a cA cZ G u) H → va_S A s.heap H locs → lv_has ls 3 [(0, .ref (a 4)), (1, .int x1), (2, .int x2)] → lp_Pieces_countSidesOf_10 G Q n x1 x2 u → W p l e ({ frames := 2, cells := 0, slots := 0, locals := 45 } : Room) s m args below meth c H locs 0 0 (pw_Ev below args s D (cw a cA cZ G) (cT cA cZ) A Q) (F0 m 10 ls []) := by
 obtain ⟨hx, hb, hr, hml, hown, hts, hlocks, hA⟩ := id C
 obtain ⟨hK, hI, hF⟩ := id K
 have hD : ∀ u, va_D A (cw a cA cZ G u) := fun u => cw_D hI hF
 intro n
 induction n with
 | zero => intro x1 x2 u H locs ls hP hS hl h; exact h.elim
 | succ n ih =>
   intro x1 x2 u H locs ls hP hS hl h
   refine lv_iload_n hx hb d_Pieces_countSidesOf_10 rfl (lv_at hl 2 rfl) ?_
   refine lv_aload_n hx hb d_Pieces_countSidesOf_11 rfl (lv_at hl 0 rfl) ?_
   refine va_get (D := D) (ci := 7) (v := .ref (a 1)) (C := R_Pieces) (T := T_Pieces) (N := 11) hx hb hts in_Pieces hown hK hP 4 cw_at_4 rfl 0 (by decide) (hts _ (List.mem_cons_of_mem _ kw_151)) (fun _ h9 => h9) rfl d_Pieces_countSidesOf_12 ?_
   refine va_get (D := D) (ci := 4) (v := .int (G.2.1 3)) (C := R_Grid) (T := T_Grid) (N := 6) hx hb hts in_Grid hown hK hP 1 cw_at_1 rfl 2 (by decide) (hts _ (List.mem_cons_of_mem _ kw_107)) (fun _ h9 => h9) rfl d_Pieces_countSidesOf_15 ?_
   refine lv_icmp_ge (tgt := 42) hx hb d_Pieces_countSidesOf_18 (by decide) (fun c2 => ?_) (fun c2 => ?_)
   · have h := h.1 c2
     exact W.vret hx hb hr (fun t ht hW => ⟨⟨u, rfl, h, by rw [ht]; exact hP, va_K.moved hW.alike hK⟩, hS.F ht⟩) hS.2.2 d_Pieces_countSidesOf_42 hlocks
   · have h := h.2 c2
     refine lv_aload_n hx hb d_Pieces_countSidesOf_21 rfl (lv_at hl 0 rfl) ?_
     refine va_get (D := D) (ci := 7) (v := .ref (a 21)) (C := R_Pieces) (T := T_Pieces) (N := 11) hx hb hts in_Pieces hown hK hP 4 cw_at_4 rfl 2 (by decide) (hts _ (List.mem_cons_of_mem _ kw_153)) (fun _ h9 => h9) rfl d_Pieces_countSidesOf_22 ?_
     refine lv_iload_n hx hb d_Pieces_countSidesOf_25 rfl (lv_at hl 2 rfl) ?_
     refine va_iald hx hb hK hP 21 0 cw_at_21 rfl h.1 d_Pieces_countSidesOf_26 ?_
     have h := h.2
     refine lv_iload_n hx hb d_Pieces_countSidesOf_27 rfl (lv_at hl 1 rfl) ?_
     refine lv_icmp_ne (tgt := 36) hx hb d_Pieces_countSidesOf_28 (by decide) (fun c3 => ?_) (fun c3 => ?_)
     · have h := h.2 c3
       obtain ⟨t4, et4⟩ : ∃ y : Int32, y = x2 + 1 := ⟨_, rfl⟩
       have h := h t4 et4
       refine lv_iinc (v := t4) (lv' := [(2, .int t4), (0, .ref (a 4)), (1, .int x1)]) hx hb d_Pieces_countSidesOf_36 hl (k := 2) rfl (by rw [et4]; rfl) (by decide) rfl (fun ls hl => ?_)
       refine lv_goto (tgt := 10) hx hb d_Pieces_countSidesOf_39 (by decide) ?_
       exact ih x1 t4 u _ _ _ hP hS (lv_sub hl [1, 2, 0] rfl) h
     · have h := h.1 c3
       refine lv_aload_n hx hb d_Pieces_countSidesOf_31 rfl (lv_at hl 0 rfl) ?_
       refine lv_iload_n hx hb d_Pieces_countSidesOf_32 rfl (lv_at hl 2 rfl) ?_
       refine cc_v (va_runV (As := [.int x2]) (rest := []) ⟨hx, hb, hml, hown, hts⟩ (ct_Pieces_countSidesAt l D a cA cZ G _ x2 u _ hI h) (pw_cwV 1 hts kw_547 kw_49 kw_544 kw_546 kw_11 (by decide +kernel) ⟨Nat.le_of_ble_eq_true rfl, Nat.le_of_ble_eq_true rfl⟩) ⟨pw_blind, va_recv hK hP (ci := 7) (q0 := 4) rfl cw_at_4, fun U hU hW => ⟨rfl, by rw [hU], by rw [hU]; exact hP, va_K.moved hW.alike hK⟩⟩ rfl rfl hl.1 rfl (lv_room (Nat.le_of_ble_eq_true rfl)) d_Pieces_countSidesOf_33 ⟨Nat.le_of_ble_eq_true rfl, Nat.le_of_ble_eq_true rfl⟩) hS hF hA (fun u5 H locs hP hS h => ?_)
       obtain ⟨t6, et6⟩ : ∃ y : Int32, y = x2 + 1 := ⟨_, rfl⟩
       have h := h t6 et6
       refine lv_iinc (v := t6) (lv' := [(2, .int t6), (0, .ref (a 4)), (1, .int x1)]) hx hb d_Pieces_countSidesOf_36 hl (k := 2) rfl (by rw [et6]; rfl) (by decide) rfl (fun ls hl => ?_)
       refine lv_goto (tgt := 10) hx hb d_Pieces_countSidesOf_39 (by decide) ?_
       exact ih x1 t6 u5 _ _ _ hP hS (lv_sub hl [1, 2, 0] rfl) h
set_option maxHeartbeats 4000000 in
set_option maxRecDepth 100000 in
theorem st_Pieces_countSidesOf {p : Program} {l : Launch} {e : Env} {s : State} {m : MethodId} {args : Array Value} {below : List Frame} {meth : Method} {c : Code} {D : va_G} {a : Nat → Nat} {cA cZ : ClassId} {G : pG} {A : Nat → Prop} {Q : pS → Prop} (C : pw_C p s m args meth c b_Pieces_countSidesOf 3 R_Pieces none w_Pieces_countSidesOf A) (K : pw_K s D 40 a (cT cA cZ) A) (x1 : Int32) (u : pS) (ls : Array Slot) (hP : va_P D vwCl (cw a cA cZ G u) s.heap) (hl : lv_has ls 3 [(0, .ref (a 4)), (1, .int x1)]) (h : wp_Pieces_countSidesOf G x1 u Q) : W p l e ({ frames := 2, cells := 0, slots := 0, locals := 45 } : Room) s m args below meth c s.heap [] 0 0 (pw_Ev below args s D (cw a cA cZ G) (cT cA cZ) A Q) (F0 m 0 ls []) := by
 obtain ⟨hx, hb, hr, hml, hown, hts, hlocks, hA⟩ := id C
 obtain ⟨hK, hI, hF⟩ := id K
 have hD : ∀ u, va_D A (cw a cA cZ G u) := fun u => cw_D hI hF
 have hS : va_S A s.heap s.heap [] := va_S.rf
 have h : wp_Pieces_countSidesOf G x1 u Q := h
 refine lv_aload_n hx hb d_Pieces_countSidesOf_0 rfl (lv_at hl 0 rfl) ?_
 refine va_get (D := D) (ci := 7) (v := .ref (a 23)) (C := R_Pieces) (T := T_Pieces) (N := 11) hx hb hts in_Pieces hown hK hP 4 cw_at_4 rfl 4 (by decide) (hts _ (List.mem_cons_of_mem _ kw_155)) (fun _ h9 => h9) rfl d_Pieces_countSidesOf_1 ?_
 refine lv_iconst (v := 0) hx hb d_Pieces_countSidesOf_4 (by decide) ?_
 refine cc_v (va_runS (As := [.ref (a 23), .int 0]) (rest := []) ⟨hx, hb, hml, hown, hts⟩ (ct_Arrays_fill_sides l D a cA cZ G _ 0 u _ hI h) (pw_cwS 2 hts kw_501 kw_63 kw_499 kw_500 (by decide +kernel) ⟨Nat.le_of_ble_eq_true rfl, Nat.le_of_ble_eq_true rfl⟩) ⟨pw_blind, fun U hU hW => ⟨rfl, by rw [hU], by rw [hU]; exact hP, va_K.moved hW.alike hK⟩⟩ rfl rfl hl.1 rfl (lv_room (Nat.le_of_ble_eq_true rfl)) d_Pieces_countSidesOf_5 ⟨Nat.le_of_ble_eq_true rfl, Nat.le_of_ble_eq_true rfl⟩) hS hF hA (fun u1 H locs hP hS h => ?_)
 refine lv_iconst (v := 0) hx hb d_Pieces_countSidesOf_8 (by decide) ?_
 refine lv_istore_n (lv' := [(2, .int 0), (0, .ref (a 4)), (1, .int x1)]) hx hb d_Pieces_countSidesOf_9 rfl hl (by decide) rfl (fun ls hl => ?_)
 obtain ⟨n1, h⟩ := h
 exact cp_Pieces_countSidesOf_10 C K n1 x1 0 u1 _ _ _ hP hS (lv_sub hl [1, 2, 0] rfl) h
set_option maxHeartbeats 4000000 in
set_option maxRecDepth 100000 in
theorem ct_Pieces_countSidesOf (l : Launch) (D : va_G) (a : Nat → Nat) (cA cZ : ClassId) (G : pG) (sz : Nat) (x1 : Int32) (u : pS) (Q : pS → Prop) (hI : pw_I 40 a) (h : wp_Pieces_countSidesOf G x1 u Q) : Met l y_Pieces_countSidesOf w_Pieces_countSidesOf ({ frames := 2, cells := 0, slots := 0, locals := 45 } : Room) (va_Pc [.ref (a 4), .int x1] (pw_pre D (cw a cA cZ G) (cT cA cZ) sz u)) (va_Qv (fun (u : pS) => Q u) (pw_B D (cw a cA cZ G) (cT cA cZ)) (pw_F 40 a sz)) 0 0 (pw_F 40 a sz) := by
 refine Met.ofW (cc := b_Pieces_countSidesOf) (maxL := 3) (ret := none) (by decide) rfl ?_
 intro p e s m args below meth c s₁ B hml hv
 obtain ⟨rfl, hsz, hP, hK⟩ := hv
 subst hsz
 have hl := lv_entry ([.ref (a 4), .int x1]) (n := 3) (Nat.le_of_ble_eq_true rfl)
 rw [lg_entry_eq]
 generalize (lg_sl ([.ref (a 4), .int x1]) ++ List.replicate (3 - (lg_sl ([.ref (a 4), .int x1])).length) Slot.unset).toArray = ls at hl ⊢
 exact st_Pieces_countSidesOf (A := (pw_F 40 a s.heap.size)) ⟨B.exec, B.bytes, B.returns, hml, findClass_of_methodNamed B.named, atoms_spec (ws := w_Pieces_countSidesOf) B.pre, B.notSynchronized, fun q hq => Or.inr hq⟩ ⟨hK, hI, fun k hk => Or.inl ⟨k, hk, rfl⟩⟩ x1 u ls hP hl h
set_option maxHeartbeats 4000000 in
set_option maxRecDepth 100000 in
theorem st_Pieces_sidesBetween {p : Program} {l : Launch} {e : Env} {s : State} {m : MethodId} {args : Array Value} {below : List Frame} {meth : Method} {c : Code} {D : va_G} {a : Nat → Nat} {cA cZ : ClassId} {G : pG} {A : Nat → Prop} {Q : Int32 → pS → Prop} (C : pw_C p s m args meth c b_Pieces_sidesBetween 3 R_Pieces (some .int) w_Pieces_sidesBetween A) (K : pw_K s D 40 a (cT cA cZ) A) (x1 x2 : Int32) (u : pS) (ls : Array Slot) (hP : va_P D vwCl (cw a cA cZ G u) s.heap) (hl : lv_has ls 3 [(0, .ref (a 4)), (1, .int x1), (2, .int x2)]) (h : wp_Pieces_sidesBetween G x1 x2 u Q) : W p l e ({ frames := 3, cells := 0, slots := 0, locals := 67 } : Room) s m args below meth c s.heap [] 0 0 (pw_Ei below args s D (cw a cA cZ G) (cT cA cZ) A Q) (F0 m 0 ls []) := by
 obtain ⟨hx, hb, hr, hml, hown, hts, hlocks, hA⟩ := id C
 obtain ⟨hK, hI, hF⟩ := id K
 have hD : ∀ u, va_D A (cw a cA cZ G u) := fun u => cw_D hI hF
 have hS : va_S A s.heap s.heap [] := va_S.rf
 have h : wp_Pieces_sidesBetween G x1 x2 u Q := h
 refine lv_aload_n hx hb d_Pieces_sidesBetween_0 rfl (lv_at hl 0 rfl) ?_
 refine lv_iload_n hx hb d_Pieces_sidesBetween_1 rfl (lv_at hl 1 rfl) ?_
 refine cc_v (va_runV (As := [.int x1]) (rest := []) ⟨hx, hb, hml, hown, hts⟩ (ct_Pieces_countSidesOf l D a cA cZ G _ x1 u _ hI h) (pw_cwV 1 hts kw_543 kw_49 kw_540 kw_542 kw_10 (by decide +kernel) ⟨Nat.le_of_ble_eq_true rfl, Nat.le_of_ble_eq_true rfl⟩) ⟨pw_blind, va_recv hK hP (ci := 7) (q0 := 4) rfl cw_at_4, fun U hU hW => ⟨rfl, by rw [hU], by rw [hU]; exact hP, va_K.moved hW.alike hK⟩⟩ rfl rfl hl.1 rfl (lv_room (Nat.le_of_ble_eq_true rfl)) d_Pieces_sidesBetween_2 ⟨Nat.le_of_ble_eq_true rfl, Nat.le_of_ble_eq_true rfl⟩) hS hF hA (fun u1 H locs hP hS h => ?_)
 refine lv_aload_n hx hb d_Pieces_sidesBetween_5 rfl (lv_at hl 0 rfl) ?_
 refine va_get (D := D) (ci := 7) (v := .ref (a 23)) (C := R_Pieces) (T := T_Pieces) (N := 11) hx hb hts in_Pieces hown hK hP 4 cw_at_4 rfl 4 (by decide) (hts _ (List.mem_cons_of_mem _ kw_155)) (fun _ h9 => h9) rfl d_Pieces_sidesBetween_6 ?_
 refine lv_iload_n hx hb d_Pieces_sidesBetween_9 rfl (lv_at hl 2 rfl) ?_
 refine va_iald hx hb hK hP 23 0 cw_at_23 rfl h.1 d_Pieces_sidesBetween_10 ?_
 have h := h.2
 exact W.iret (v := (u1.2 9 x2.toNatClampNeg)) hx hb hr (fun t ht hW => ⟨⟨(u1.2 9 x2.toNatClampNeg), u1, rfl, h, by rw [ht]; exact hP, va_K.moved hW.alike hK⟩, hS.F ht⟩) hS.2.2 d_Pieces_sidesBetween_11 hlocks
set_option maxHeartbeats 4000000 in
set_option maxRecDepth 100000 in
theorem ct_Pieces_sidesBetween (l : Launch) (D : va_G) (a : Nat → Nat) (cA cZ : ClassId) (G : pG) (sz : Nat) (x1 x2 : Int32) (u : pS) (Q : Int32 → pS → Prop) (hI : pw_I 40 a) (h : wp_Pieces_sidesBetween G x1 x2 u Q) : Met l y_Pieces_sidesBetween w_Pieces_sidesBetween ({ frames := 3, cells := 0, slots := 0, locals := 67 } : Room) (va_Pc [.ref (a 4), .int x1, .int x2] (pw_pre D (cw a cA cZ G) (cT cA cZ) sz u)) (va_Qi (fun (r : Int32) (u : pS) => Q r u) (pw_B D (cw a cA cZ G) (cT cA cZ)) (pw_F 40 a sz)) 0 0 (pw_F 40 a sz) := by
 refine Met.ofW (cc := b_Pieces_sidesBetween) (maxL := 3) (ret := (some .int)) (by decide) rfl ?_
 intro p e s m args below meth c s₁ B hml hv
 obtain ⟨rfl, hsz, hP, hK⟩ := hv
 subst hsz
 have hl := lv_entry ([.ref (a 4), .int x1, .int x2]) (n := 3) (Nat.le_of_ble_eq_true rfl)
 rw [lg_entry_eq]
 generalize (lg_sl ([.ref (a 4), .int x1, .int x2]) ++ List.replicate (3 - (lg_sl ([.ref (a 4), .int x1, .int x2])).length) Slot.unset).toArray = ls at hl ⊢
 exact st_Pieces_sidesBetween (A := (pw_F 40 a s.heap.size)) ⟨B.exec, B.bytes, B.returns, hml, findClass_of_methodNamed B.named, atoms_spec (ws := w_Pieces_sidesBetween) B.pre, B.notSynchronized, fun q hq => Or.inr hq⟩ ⟨hK, hI, fun k hk => Or.inl ⟨k, hk, rfl⟩⟩ x1 x2 u ls hP hl h
set_option maxHeartbeats 4000000 in
set_option maxRecDepth 100000 in
theorem st_PI_joined {p : Program} {l : Launch} {e : Env} {s : State} {m : MethodId} {args : Array Value} {below : List Frame} {meth : Method} {c : Code} {D : va_G} {a : Nat → Nat} {cA cZ : ClassId} {G : pG} {A : Nat → Prop} {Q : Int32 → pS → Prop} {X : Nat → pS → Prop} (C : pw_C p s m args meth c b_PI_joined 3 R_PI (some .int) w_PI_joined A) (K : pw_K s D 40 a (cT cA cZ) A) (EX : cw_Ex A s) (hL : px_L l) (htr : e.platform.stackTraces = false) (hE : ∀ (pc : Nat), ∀ x ∈ c.exceptionTable.toList, covers x pc = false) (x1 x2 : Int32) (u : pS) (ls : Array Slot) (hP : va_P D vwCl (cw a cA cZ G u) s.heap) (hl : lv_has ls 3 [(0, .ref (a 0)), (1, .int x1), (2, .int x2)]) (h : wp_PI_joined G x1 x2 u Q X) : W p l e ({ frames := 8, cells := 1, slots := 6, locals := 124 } : Room) s m args below meth c s.heap [] 0 0 (px_Ei below args s D (cw a cA cZ G) (cT cA cZ) A Q X) (F0 m 0 ls []) := by
 obtain ⟨hx, hb, hr, hml, hown, hts, hlocks, hA⟩ := id C
 obtain ⟨hK, hI, hF⟩ := id K
 have hD : ∀ u, va_D A (cw a cA cZ G u) := fun u => cw_D hI hF
 have hz : ∀ oc t, px_T X (pw_B D (cw a cA cZ G) (cT cA cZ)) oc t → va_F A s t → (px_Qi Q X (pw_B D (cw a cA cZ G) (cT cA cZ)) A) args s oc t := fun oc t h1 h2 => ⟨Or.inr h1, h2⟩
 have hS : va_S A s.heap s.heap [] := va_S.rf
 have h : wp_PI_joined G x1 x2 u Q X := h
 refine lv_aload_n hx hb d_PI_joined_0 rfl (lv_at hl 0 rfl) ?_
 refine lv_iload_n hx hb d_PI_joined_1 rfl (lv_at hl 1 rfl) ?_
 refine cx_v (px_runV (As := [.int x1]) (rest := []) ⟨hx, hb, hml, hown, hts⟩ (ct_PI_needPiece l D a cA cZ G _ x1 u _ _ hL hI h) (pw_cwV 1 hts kw_643 kw_45 kw_640 kw_642 kw_13 (by decide +kernel) ⟨Nat.le_of_ble_eq_true rfl, Nat.le_of_ble_eq_true rfl⟩) ⟨cw_blindX, va_recv hK hP (ci := 0) (q0 := 0) rfl cw_at_0, fun U hU hW => ⟨rfl, ⟨by rw [hU], by rw [hU]; exact hP, va_K.moved hW.alike hK⟩, cw_Ex_call EX hS (pw_FA hS hF hA) hU hW⟩⟩ rfl rfl hl.1 rfl (lv_room (Nat.le_of_ble_eq_true rfl)) d_PI_joined_2 ⟨Nat.le_of_ble_eq_true rfl, Nat.le_of_ble_eq_true rfl⟩) hS hF hA (hE _) hlocks hz (fun u1 H locs hP hS h => ?_)
 refine lv_aload_n hx hb d_PI_joined_5 rfl (lv_at hl 0 rfl) ?_
 refine lv_iload_n hx hb d_PI_joined_6 rfl (lv_at hl 2 rfl) ?_
 refine cx_v (px_runV (As := [.int x2]) (rest := []) ⟨hx, hb, hml, hown, hts⟩ (ct_PI_needPiece l D a cA cZ G _ x2 u1 _ _ hL hI h) (pw_cwV 1 hts kw_643 kw_45 kw_640 kw_642 kw_13 (by decide +kernel) ⟨Nat.le_of_ble_eq_true rfl, Nat.le_of_ble_eq_true rfl⟩) ⟨cw_blindX, va_recv hK hP (ci := 0) (q0 := 0) rfl cw_at_0, fun U hU hW => ⟨rfl, ⟨by rw [hU], by rw [hU]; exact hP, va_K.moved hW.alike hK⟩, cw_Ex_call EX hS (pw_FA hS hF hA) hU hW⟩⟩ rfl rfl hl.1 rfl (lv_room (Nat.le_of_ble_eq_true rfl)) d_PI_joined_7 ⟨Nat.le_of_ble_eq_true rfl, Nat.le_of_ble_eq_true rfl⟩) hS hF hA (hE _) hlocks hz (fun u2 H locs hP hS h => ?_)
 refine lv_aload_n hx hb d_PI_joined_10 rfl (lv_at hl 0 rfl) ?_
 refine va_get (D := D) (ci := 0) (v := .ref (a 4)) (C := R_PI) (T := T_PI) (N := 12) hx hb hts in_PI hown hK hP 0 cw_at_0 rfl 4 (by decide) (hts _ (List.mem_cons_of_mem _ kw_316)) (fun _ h9 => h9) rfl d_PI_joined_11 ?_
 refine lv_iload_n hx hb d_PI_joined_14 rfl (lv_at hl 1 rfl) ?_
 refine lv_iload_n hx hb d_PI_joined_15 rfl (lv_at hl 2 rfl) ?_
 refine cc_i (va_runV (As := [.int x1, .int x2]) (rest := []) ⟨hx, hb, hml, hown, hts⟩ (ct_Pieces_sidesBetween l D a cA cZ G _ x1 x2 u2 _ hI h) (pw_cwV 2 hts kw_664 kw_49 kw_661 kw_662 kw_663 (by decide +kernel) ⟨Nat.le_of_ble_eq_true rfl, Nat.le_of_ble_eq_true rfl⟩) ⟨pw_blind, va_recv hK hP (ci := 7) (q0 := 4) rfl cw_at_4, fun U hU hW => ⟨rfl, by rw [hU], by rw [hU]; exact hP, va_K.moved hW.alike hK⟩⟩ rfl rfl hl.1 rfl (lv_room (Nat.le_of_ble_eq_true rfl)) d_PI_joined_16 ⟨Nat.le_of_ble_eq_true rfl, Nat.le_of_ble_eq_true rfl⟩) hS hF hA (fun r4 u3 H locs hP hS h => ?_)
 exact px_mono (fun t h => px_ofMQ (fun _ _ h => h) h) (W.iret (Qc := px_Qi Q X (pw_B D (cw a cA cZ G) (cT cA cZ)) A) (v := r4) hx hb hr (fun t ht hW => ⟨Or.inl ⟨r4, u3, rfl, h, by rw [ht]; exact hP, va_K.moved hW.alike hK⟩, hS.F ht⟩) hS.2.2 d_PI_joined_19 hlocks)
set_option maxHeartbeats 4000000 in
set_option maxRecDepth 100000 in
theorem ct_PI_joined (l : Launch) (D : va_G) (a : Nat → Nat) (cA cZ : ClassId) (G : pG) (sz : Nat) (x1 x2 : Int32) (u : pS) (Q : Int32 → pS → Prop) (X : Nat → pS → Prop) (hL : px_L l) (hI : pw_I 40 a) (h : wp_PI_joined G x1 x2 u Q X) : px_Met l y_PI_joined w_PI_joined ({ frames := 8, cells := 1, slots := 6, locals := 124 } : Room) (va_Pc [.ref (a 0), .int x1, .int x2] (fun U => pw_pre D (cw a cA cZ G) (cT cA cZ) sz u U ∧ cw_Ex (pw_F 40 a sz) U)) (px_Qi Q X (pw_B D (cw a cA cZ G) (cT cA cZ)) (pw_F 40 a sz)) 0 0 1 6 (pw_F 40 a sz) := by
 refine px_ofW (cc := b_PI_joined) (maxL := 3) (ret := (some .int)) (by decide) rfl ?_
 intro p e s m args below meth c s₁ B hml hE hv
 obtain ⟨rfl, ⟨hsz, hP, hK⟩, EX⟩ := hv
 subst hsz
 have hl := lv_entry ([.ref (a 0), .int x1, .int x2]) (n := 3) (Nat.le_of_ble_eq_true rfl)
 rw [lg_entry_eq]
 generalize (lg_sl ([.ref (a 0), .int x1, .int x2]) ++ List.replicate (3 - (lg_sl ([.ref (a 0), .int x1, .int x2])).length) Slot.unset).toArray = ls at hl ⊢
 exact st_PI_joined (A := (pw_F 40 a s.heap.size)) ⟨B.exec, B.bytes, B.returns, hml, findClass_of_methodNamed B.named, atoms_spec (ws := w_PI_joined) B.pre, B.notSynchronized, fun q hq => Or.inr hq⟩ ⟨hK, hI, fun k hk => Or.inl ⟨k, hk, rfl⟩⟩ EX hL (hL e B.admits) (px_none hE) x1 x2 u ls hP hl h
set_option maxHeartbeats 4000000 in
set_option maxRecDepth 100000 in
theorem st_Grid_columnOf {p : Program} {l : Launch} {e : Env} {s : State} {m : MethodId} {args : Array Value} {below : List Frame} {meth : Method} {c : Code} {D : va_G} {a : Nat → Nat} {cA cZ : ClassId} {G : pG} {A : Nat → Prop} {Q : Int32 → pS → Prop} (C : pw_C p s m args meth c b_Grid_columnOf 2 R_Grid (some .int) w_Grid_columnOf A) (K : pw_K s D 40 a (cT cA cZ) A) (x1 : Int32) (u : pS) (ls : Array Slot) (hP : va_P D vwCl (cw a cA cZ G u) s.heap) (hl : lv_has ls 2 [(0, .ref (a 1)), (1, .int x1)]) (h : wp_Grid_columnOf G x1 u Q) : W p l e ({ frames := 0, cells := 0, slots := 0, locals := 0 } : Room) s m args below meth c s.heap [] 0 0 (pw_Ei below args s D (cw a cA cZ G) (cT cA cZ) A Q) (F0 m 0 ls []) := by
 obtain ⟨hx, hb, hr, hml, hown, hts, hlocks, hA⟩ := id C
 obtain ⟨hK, hI, hF⟩ := id K
 have hD : ∀ u, va_D A (cw a cA cZ G u) := fun u => cw_D hI hF
 have hS : va_S A s.heap s.heap [] := va_S.rf
 have h : wp_Grid_columnOf G x1 u Q := h
 refine lv_aload_n hx hb d_Grid_columnOf_0 rfl (lv_at hl 0 rfl) ?_
 refine va_get (D := D) (ci := 4) (v := .ref (a 11)) (C := R_Grid) (T := T_Grid) (N := 6) hx hb hts in_Grid hown hK hP 1 cw_at_1 rfl 3 (by decide) (hts _ (List.mem_cons_of_mem _ kw_112)) (fun _ h9 => h9) rfl d_Grid_columnOf_1 ?_
 refine lv_iload_n hx hb d_Grid_columnOf_4 rfl (lv_at hl 1 rfl) ?_
 refine va_iald hx hb hK hP 11 0 cw_at_11 rfl h.1 d_Grid_columnOf_5 ?_
 have h := h.2
 exact W.iret (v := (G.2.2 0 x1.toNatClampNeg)) hx hb hr (fun t ht hW => ⟨⟨(G.2.2 0 x1.toNatClampNeg), u, rfl, h, by rw [ht]; exact hP, va_K.moved hW.alike hK⟩, hS.F ht⟩) hS.2.2 d_Grid_columnOf_6 hlocks
set_option maxHeartbeats 4000000 in
set_option maxRecDepth 100000 in
theorem ct_Grid_columnOf (l : Launch) (D : va_G) (a : Nat → Nat) (cA cZ : ClassId) (G : pG) (sz : Nat) (x1 : Int32) (u : pS) (Q : Int32 → pS → Prop) (hI : pw_I 40 a) (h : wp_Grid_columnOf G x1 u Q) : Met l y_Grid_columnOf w_Grid_columnOf ({ frames := 0, cells := 0, slots := 0, locals := 0 } : Room) (va_Pc [.ref (a 1), .int x1] (pw_pre D (cw a cA cZ G) (cT cA cZ) sz u)) (va_Qi (fun (r : Int32) (u : pS) => Q r u) (pw_B D (cw a cA cZ G) (cT cA cZ)) (pw_F 40 a sz)) 0 0 (pw_F 40 a sz) := by
 refine Met.ofW (cc := b_Grid_columnOf) (maxL := 2) (ret := (some .int)) (by decide) rfl ?_
 intro p e s m args below meth c s₁ B hml hv
 obtain ⟨rfl, hsz, hP, hK⟩ := hv
 subst hsz
 have hl := lv_entry ([.ref (a 1), .int x1]) (n := 2) (Nat.le_of_ble_eq_true rfl)
 rw [lg_entry_eq]
 generalize (lg_sl ([.ref (a 1), .int x1]) ++ List.replicate (2 - (lg_sl ([.ref (a 1), .int x1])).length) Slot.unset).toArray = ls at hl ⊢
 exact st_Grid_columnOf (A := (pw_F 40 a s.heap.size)) ⟨B.exec, B.bytes, B.returns, hml, findClass_of_methodNamed B.named, atoms_spec (ws := w_Grid_columnOf) B.pre, B.notSynchronized, fun q hq => Or.inr hq⟩ ⟨hK, hI, fun k hk => Or.inl ⟨k, hk, rfl⟩⟩ x1 u ls hP hl h
set_option maxHeartbeats 4000000 in
set_option maxRecDepth 100000 in
theorem st_Pieces_firstXOf {p : Program} {l : Launch} {e : Env} {s : State} {m : MethodId} {args : Array Value} {below : List Frame} {meth : Method} {c : Code} {D : va_G} {a : Nat → Nat} {cA cZ : ClassId} {G : pG} {A : Nat → Prop} {Q : Int32 → pS → Prop} (C : pw_C p s m args meth c b_Pieces_firstXOf 2 R_Pieces (some .int) w_Pieces_firstXOf A) (K : pw_K s D 40 a (cT cA cZ) A) (x1 : Int32) (u : pS) (ls : Array Slot) (hP : va_P D vwCl (cw a cA cZ G u) s.heap) (hl : lv_has ls 2 [(0, .ref (a 4)), (1, .int x1)]) (h : wp_Pieces_firstXOf G x1 u Q) : W p l e ({ frames := 1, cells := 0, slots := 0, locals := 21 } : Room) s m args below meth c s.heap [] 0 0 (pw_Ei below args s D (cw a cA cZ G) (cT cA cZ) A Q) (F0 m 0 ls []) := by
 obtain ⟨hx, hb, hr, hml, hown, hts, hlocks, hA⟩ := id C
 obtain ⟨hK, hI, hF⟩ := id K
 have hD : ∀ u, va_D A (cw a cA cZ G u) := fun u => cw_D hI hF
 have hS : va_S A s.heap s.heap [] := va_S.rf
 have h : wp_Pieces_firstXOf G x1 u Q := h
 refine lv_aload_n hx hb d_Pieces_firstXOf_0 rfl (lv_at hl 0 rfl) ?_
 refine va_get (D := D) (ci := 7) (v := .ref (a 1)) (C := R_Pieces) (T := T_Pieces) (N := 11) hx hb hts in_Pieces hown hK hP 4 cw_at_4 rfl 0 (by decide) (hts _ (List.mem_cons_of_mem _ kw_151)) (fun _ h9 => h9) rfl d_Pieces_firstXOf_1 ?_
 refine lv_aload_n hx hb d_Pieces_firstXOf_4 rfl (lv_at hl 0 rfl) ?_
 refine va_get (D := D) (ci := 7) (v := .ref (a 24)) (C := R_Pieces) (T := T_Pieces) (N := 11) hx hb hts in_Pieces hown hK hP 4 cw_at_4 rfl 5 (by decide) (hts _ (List.mem_cons_of_mem _ kw_156)) (fun _ h9 => h9) rfl d_Pieces_firstXOf_5 ?_
 refine lv_iload_n hx hb d_Pieces_firstXOf_8 rfl (lv_at hl 1 rfl) ?_
 refine va_iald hx hb hK hP 24 0 cw_at_24 rfl h.1 d_Pieces_firstXOf_9 ?_
 have h := h.2
 refine cc_i (va_runV (As := [.int (u.2 10 x1.toNatClampNeg)]) (rest := []) ⟨hx, hb, hml, hown, hts⟩ (ct_Grid_columnOf l D a cA cZ G _ (u.2 10 x1.toNatClampNeg) u _ hI h) (pw_cwV 1 hts kw_513 kw_46 kw_510 kw_511 kw_512 (by decide +kernel) ⟨Nat.le_of_ble_eq_true rfl, Nat.le_of_ble_eq_true rfl⟩) ⟨pw_blind, va_recv hK hP (ci := 4) (q0 := 1) rfl cw_at_1, fun U hU hW => ⟨rfl, by rw [hU], by rw [hU]; exact hP, va_K.moved hW.alike hK⟩⟩ rfl rfl hl.1 rfl (lv_room (Nat.le_of_ble_eq_true rfl)) d_Pieces_firstXOf_10 ⟨Nat.le_of_ble_eq_true rfl, Nat.le_of_ble_eq_true rfl⟩) hS hF hA (fun r2 u1 H locs hP hS h => ?_)
 exact W.iret (v := r2) hx hb hr (fun t ht hW => ⟨⟨r2, u1, rfl, h, by rw [ht]; exact hP, va_K.moved hW.alike hK⟩, hS.F ht⟩) hS.2.2 d_Pieces_firstXOf_13 hlocks
set_option maxHeartbeats 4000000 in
set_option maxRecDepth 100000 in
theorem ct_Pieces_firstXOf (l : Launch) (D : va_G) (a : Nat → Nat) (cA cZ : ClassId) (G : pG) (sz : Nat) (x1 : Int32) (u : pS) (Q : Int32 → pS → Prop) (hI : pw_I 40 a) (h : wp_Pieces_firstXOf G x1 u Q) : Met l y_Pieces_firstXOf w_Pieces_firstXOf ({ frames := 1, cells := 0, slots := 0, locals := 21 } : Room) (va_Pc [.ref (a 4), .int x1] (pw_pre D (cw a cA cZ G) (cT cA cZ) sz u)) (va_Qi (fun (r : Int32) (u : pS) => Q r u) (pw_B D (cw a cA cZ G) (cT cA cZ)) (pw_F 40 a sz)) 0 0 (pw_F 40 a sz) := by
 refine Met.ofW (cc := b_Pieces_firstXOf) (maxL := 2) (ret := (some .int)) (by decide) rfl ?_
 intro p e s m args below meth c s₁ B hml hv
 obtain ⟨rfl, hsz, hP, hK⟩ := hv
 subst hsz
 have hl := lv_entry ([.ref (a 4), .int x1]) (n := 2) (Nat.le_of_ble_eq_true rfl)
 rw [lg_entry_eq]
 generalize (lg_sl ([.ref (a 4), .int x1]) ++ List.replicate (2 - (lg_sl ([.ref (a 4), .int x1])).length) Slot.unset).toArray = ls at hl ⊢
 exact st_Pieces_firstXOf (A := (pw_F 40 a s.heap.size)) ⟨B.exec, B.bytes, B.returns, hml, findClass_of_methodNamed B.named, atoms_spec (ws := w_Pieces_firstXOf) B.pre, B.notSynchronized, fun q hq => Or.inr hq⟩ ⟨hK, hI, fun k hk => Or.inl ⟨k, hk, rfl⟩⟩ x1 u ls hP hl h
