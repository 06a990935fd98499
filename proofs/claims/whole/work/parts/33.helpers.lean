set_option maxHeartbeats 4000000 in
set_option maxRecDepth 100000 in
theorem hp_pixel (l : Launch) (D : va_G) (a : Nat → Nat) (cA cZ cL : ClassId) (G : pG) (o sz : Nat) (x1 x2 x3 x4 x5 : Int32) (u : pS) (f : Nat → Int64) (Z : Int32 → pS → (Nat → Int64) → Prop) (hL : px_L l) (hI : pw_I 40 a) (ho : ∀ k, k < 40 → o ≠ a k)
    (h : wp_PI_pixel G x1 x2 x3 x4 x5 u (fun r u' => (r = 0 → Z 0 u' (vp_updL f 0 0)) ∧ (¬ r = 0 → Z 0 u' (vp_updL f 0 1))) (fun k u' => (k = 1 ∧ Z 1 u' f) ∨ (k = 2 ∧ Z 2 u' f))) : px_Met l y_Law_pixel w_Law_pixel ({ frames := 9, cells := 1, slots := 6, locals := 151 } : Room) (va_Pc [.ref (a 0), .int x1, .int x2, .int x3, .int x4, .int x5, .ref o] (hx_pre D a cA cZ cL G o sz u f)) (hx_Q Z D a cA cZ cL G o (hx_F a o sz)) 1 6 1 6 (hx_F a o sz) := by
 refine px_ofWW (cc := b_Law_pixel) (maxL := 8) (ret := (some .int)) (hs := [(0, 23, 26, 13), (0, 23, 30, 15)]) (by decide) rfl ?_
 intro p e s m args below meth c s₁ B hml hT hv
 obtain ⟨rfl, ⟨hsz, hP, hO, hK⟩, EX, hN⟩ := hv
 subst hsz
 have hx := B.exec
 have hb := B.bytes
 have hr := B.returns
 have hts := atoms_spec (ws := w_Law_pixel) B.pre
 have hown : s.vm.findClass R_Law = some m.cls := findClass_of_methodNamed B.named
 have hlocks := B.notSynchronized
 have hA : ∀ q : Nat, s.heap.size ≤ q → hx_F a o s.heap.size q := fun q h => Or.inl (Or.inr h)
 have hF : ∀ k, k < 40 → hx_F a o s.heap.size (a k) := fun k hk => Or.inl (Or.inl ⟨k, hk, rfl⟩)
 have hS : va_S (hx_F a o s.heap.size) s.heap s.heap [] := va_S.rf
 have hK2 : va_K D vwCl (cT cA cZ) s := hK.sub [0, 1] rfl
 have hl := lv_entry ([.ref (a 0), .int x1, .int x2, .int x3, .int x4, .int x5, .ref o]) (n := 8) (Nat.le_of_ble_eq_true rfl)
 rw [lg_entry_eq]
 generalize (lg_sl ([.ref (a 0), .int x1, .int x2, .int x3, .int x4, .int x5, .ref o]) ++ List.replicate (8 - (lg_sl ([.ref (a 0), .int x1, .int x2, .int x3, .int x4, .int x5, .ref o])).length) Slot.unset).toArray = ls at hl ⊢
 have hl : lv_has ls 8 [(0, .ref (a 0)), (1, .int x1), (2, .int x2), (3, .int x3), (4, .int x4), (5, .int x5), (6, .ref o)] := hl
 refine lv_aload hx hb d_Law_pixel_0 (lv_at hl 6 rfl) ?_
 refine lv_iconst (v := 0) hx hb d_Law_pixel_2 (by decide) ?_
 refine lv_aload_n hx hb d_Law_pixel_3 rfl (lv_at hl 0 rfl) ?_
 refine lv_iload_n hx hb d_Law_pixel_4 rfl (lv_at hl 1 rfl) ?_
 refine lv_iload_n hx hb d_Law_pixel_5 rfl (lv_at hl 2 rfl) ?_
 refine lv_iload_n hx hb d_Law_pixel_6 rfl (lv_at hl 3 rfl) ?_
 refine lv_iload hx hb d_Law_pixel_7 (lv_at hl 4 rfl) ?_
 refine lv_iload hx hb d_Law_pixel_9 (lv_at hl 5 rfl) ?_
 refine hx_call (own := R_Law) (en := 23) (L := [(26, 13, 1), (30, 15, 2)]) (px_runV (As := [.int x1, .int x2, .int x3, .int x4, .int x5]) (rest := [.int 0, .ref o]) ⟨hx, hb, hml, hown, hts⟩ (ct_PI_pixel l D a cA cZ G _ x1 x2 x3 x4 x5 u _ _ hL hI h) (pw_cwV 5 hts kw_360 kw_45 kw_357 kw_358 kw_359 (by decide +kernel) ⟨Nat.le_of_ble_eq_true rfl, Nat.le_of_ble_eq_true rfl⟩) ⟨cw_blindX, va_recv hK2 hP (ci := 0) (q0 := 0) rfl cw_at_0, fun U hU hW => ⟨rfl, ⟨by rw [hU], by rw [hU]; exact hP, va_K.moved hW.alike hK2⟩, cw_Ex_call EX hS (pw_FA hS hF hA) hU hW⟩⟩ rfl rfl hl.1 rfl (lv_room (Nat.le_of_ble_eq_true rfl)) d_Law_pixel_11 ⟨Nat.le_of_ble_eq_true rfl, Nat.le_of_ble_eq_true rfl⟩) hS hF hA hown hN EX.1.2.1.2 (by decide) hT (List.forall_mem_cons.mpr ⟨⟨by decide, by decide, (hts _ (List.mem_cons_of_mem _ kw_355))⟩, List.forall_mem_cons.mpr ⟨⟨by decide, by decide, (hts _ (List.mem_cons_of_mem _ kw_356))⟩, fun _ h => absurd h List.not_mem_nil⟩⟩) (fun k u h => by rcases h with ⟨hk9, -⟩ | ⟨hk9, -⟩ <;> (rw [hk9]; decide)) (fun r u H1 locs hP hS hkp h => ?_) (fun k x u H1 locs hP hS hkp h => ?_)
 · have hO := hx_keep hO ho hkp
   refine lv_if_eq (tgt := 21) hx hb d_Law_pixel_14 (by decide) (fun c1 => ?_) (fun c1 => ?_)
   · have h := h.1 c1
     refine lv_lconst (v := 0) hx hb d_Law_pixel_21 (by decide) ?_
     have hPO := hP.app hO
     refine va_last hx hb hK hPO (hx_D hI ho hF (Or.inr rfl)) hS 40 2 rfl rfl (by unfold vp_in; decide) d_Law_pixel_22 (fun H locs hPO _ hS => ?_)
     obtain ⟨hP, hO⟩ := hx_split (w1 := cw a cA cZ G u) (w2 := hx_o o cL (vp_updL f 0 0)) hPO
     refine lv_goto (tgt := 34) hx hb d_Law_pixel_23 (by decide) ?_
     refine lv_iconst (v := 0) hx hb d_Law_pixel_34 (by decide) ?_
     refine W.widen (k := 1) (n := 6) (by omega) (by omega) ?_
     exact px_mono (fun t h => px_ofMQ (fun _ _ h => h) h) (W.iret (Qc := hx_Q Z D a cA cZ cL G o (hx_F a o s.heap.size)) (v := 0) hx hb hr (fun t ht hW => ⟨⟨0, u, (vp_updL f 0 0), rfl, h, by rw [ht]; exact hP, by rw [ht]; exact hO, va_K.moved hW.alike hK⟩, hS.F ht⟩) hS.2.2 d_Law_pixel_35 hlocks)
   · have h := h.2 c1
     refine lv_lconst (v := 1) hx hb d_Law_pixel_17 (by decide) ?_
     refine lv_goto (tgt := 22) hx hb d_Law_pixel_18 (by decide) ?_
     have hPO := hP.app hO
     refine va_last hx hb hK hPO (hx_D hI ho hF (Or.inr rfl)) hS 40 2 rfl rfl (by unfold vp_in; decide) d_Law_pixel_22 (fun H locs hPO _ hS => ?_)
     obtain ⟨hP, hO⟩ := hx_split (w1 := cw a cA cZ G u) (w2 := hx_o o cL (vp_updL f 0 1)) hPO
     refine lv_goto (tgt := 34) hx hb d_Law_pixel_23 (by decide) ?_
     refine lv_iconst (v := 0) hx hb d_Law_pixel_34 (by decide) ?_
     refine W.widen (k := 1) (n := 6) (by omega) (by omega) ?_
     exact px_mono (fun t h => px_ofMQ (fun _ _ h => h) h) (W.iret (Qc := hx_Q Z D a cA cZ cL G o (hx_F a o s.heap.size)) (v := 0) hx hb hr (fun t ht hW => ⟨⟨0, u, (vp_updL f 0 1), rfl, h, by rw [ht]; exact hP, by rw [ht]; exact hO, va_K.moved hW.alike hK⟩, hS.F ht⟩) hS.2.2 d_Law_pixel_35 hlocks)
 · have hO := hx_keep hO ho hkp
   rcases h with ⟨rfl, h⟩ | ⟨rfl, h⟩
   · refine W.eq (g2 := F0 m 26 ls [.ref x]) rfl ?_
     refine lv_astore (lv' := [(7, .ref x), (0, .ref (a 0)), (1, .int x1), (2, .int x2), (3, .int x3), (4, .int x4), (5, .int x5), (6, .ref o)]) hx hb d_Law_pixel_26 hl (by decide) rfl (fun ls hl => ?_)
     refine lv_iconst (v := 1) hx hb d_Law_pixel_28 (by decide) ?_
     exact px_mono (fun t h => px_ofMQ (fun _ _ h => h) h) (W.iret (Qc := hx_Q Z D a cA cZ cL G o (hx_F a o s.heap.size)) (v := 1) hx hb hr (fun t ht hW => ⟨⟨1, u, f, rfl, h, by rw [ht]; exact hP, by rw [ht]; exact hO, va_K.moved hW.alike hK⟩, hS.F ht⟩) hS.2.2 d_Law_pixel_29 hlocks)
   · refine W.eq (g2 := F0 m 30 ls [.ref x]) rfl ?_
     refine lv_astore (lv' := [(7, .ref x), (0, .ref (a 0)), (1, .int x1), (2, .int x2), (3, .int x3), (4, .int x4), (5, .int x5), (6, .ref o)]) hx hb d_Law_pixel_30 hl (by decide) rfl (fun ls hl => ?_)
     refine lv_iconst (v := 2) hx hb d_Law_pixel_32 (by decide) ?_
     exact px_mono (fun t h => px_ofMQ (fun _ _ h => h) h) (W.iret (Qc := hx_Q Z D a cA cZ cL G o (hx_F a o s.heap.size)) (v := 2) hx hb hr (fun t ht hW => ⟨⟨2, u, f, rfl, h, by rw [ht]; exact hP, by rw [ht]; exact hO, va_K.moved hW.alike hK⟩, hS.F ht⟩) hS.2.2 d_Law_pixel_33 hlocks)
set_option maxHeartbeats 4000000 in
set_option maxRecDepth 100000 in
theorem hp_kind (l : Launch) (D : va_G) (a : Nat → Nat) (cA cZ cL : ClassId) (G : pG) (o sz : Nat) (x1 x2 x3 x4 : Int32) (u : pS) (f : Nat → Int64) (Z : Int32 → pS → (Nat → Int64) → Prop) (hL : px_L l) (hI : pw_I 40 a) (ho : ∀ k, k < 40 → o ≠ a k)
    (h : wp_PI_kind G x1 x2 x3 x4 u (fun r u' => (r = 0 → Z 0 u' (vp_updL f 0 0)) ∧ (¬ r = 0 → Z 0 u' (vp_updL f 0 1))) (fun k u' => (k = 1 ∧ Z 1 u' f) ∨ (k = 2 ∧ Z 2 u' f))) : px_Met l y_Law_kind w_Law_kind ({ frames := 9, cells := 1, slots := 6, locals := 150 } : Room) (va_Pc [.ref (a 0), .int x1, .int x2, .int x3, .int x4, .ref o] (hx_pre D a cA cZ cL G o sz u f)) (hx_Q Z D a cA cZ cL G o (hx_F a o sz)) 1 6 1 6 (hx_F a o sz) := by
 refine px_ofWW (cc := b_Law_kind) (maxL := 7) (ret := (some .int)) (hs := [(0, 21, 24, 13), (0, 21, 28, 15)]) (by decide) rfl ?_
 intro p e s m args below meth c s₁ B hml hT hv
 obtain ⟨rfl, ⟨hsz, hP, hO, hK⟩, EX, hN⟩ := hv
 subst hsz
 have hx := B.exec
 have hb := B.bytes
 have hr := B.returns
 have hts := atoms_spec (ws := w_Law_kind) B.pre
 have hown : s.vm.findClass R_Law = some m.cls := findClass_of_methodNamed B.named
 have hlocks := B.notSynchronized
 have hA : ∀ q : Nat, s.heap.size ≤ q → hx_F a o s.heap.size q := fun q h => Or.inl (Or.inr h)
 have hF : ∀ k, k < 40 → hx_F a o s.heap.size (a k) := fun k hk => Or.inl (Or.inl ⟨k, hk, rfl⟩)
 have hS : va_S (hx_F a o s.heap.size) s.heap s.heap [] := va_S.rf
 have hK2 : va_K D vwCl (cT cA cZ) s := hK.sub [0, 1] rfl
 have hl := lv_entry ([.ref (a 0), .int x1, .int x2, .int x3, .int x4, .ref o]) (n := 7) (Nat.le_of_ble_eq_true rfl)
 rw [lg_entry_eq]
 generalize (lg_sl ([.ref (a 0), .int x1, .int x2, .int x3, .int x4, .ref o]) ++ List.replicate (7 - (lg_sl ([.ref (a 0), .int x1, .int x2, .int x3, .int x4, .ref o])).length) Slot.unset).toArray = ls at hl ⊢
 have hl : lv_has ls 7 [(0, .ref (a 0)), (1, .int x1), (2, .int x2), (3, .int x3), (4, .int x4), (5, .ref o)] := hl
 refine lv_aload hx hb d_Law_kind_0 (lv_at hl 5 rfl) ?_
 refine lv_iconst (v := 0) hx hb d_Law_kind_2 (by decide) ?_
 refine lv_aload_n hx hb d_Law_kind_3 rfl (lv_at hl 0 rfl) ?_
 refine lv_iload_n hx hb d_Law_kind_4 rfl (lv_at hl 1 rfl) ?_
 refine lv_iload_n hx hb d_Law_kind_5 rfl (lv_at hl 2 rfl) ?_
 refine lv_iload_n hx hb d_Law_kind_6 rfl (lv_at hl 3 rfl) ?_
 refine lv_iload hx hb d_Law_kind_7 (lv_at hl 4 rfl) ?_
 refine hx_call (own := R_Law) (en := 21) (L := [(24, 13, 1), (28, 15, 2)]) (px_runV (As := [.int x1, .int x2, .int x3, .int x4]) (rest := [.int 0, .ref o]) ⟨hx, hb, hml, hown, hts⟩ (ct_PI_kind l D a cA cZ G _ x1 x2 x3 x4 u _ _ hL hI h) (pw_cwV 4 hts kw_473 kw_45 kw_470 kw_471 kw_472 (by decide +kernel) ⟨Nat.le_of_ble_eq_true rfl, Nat.le_of_ble_eq_true rfl⟩) ⟨cw_blindX, va_recv hK2 hP (ci := 0) (q0 := 0) rfl cw_at_0, fun U hU hW => ⟨rfl, ⟨by rw [hU], by rw [hU]; exact hP, va_K.moved hW.alike hK2⟩, cw_Ex_call EX hS (pw_FA hS hF hA) hU hW⟩⟩ rfl rfl hl.1 rfl (lv_room (Nat.le_of_ble_eq_true rfl)) d_Law_kind_9 ⟨Nat.le_of_ble_eq_true rfl, Nat.le_of_ble_eq_true rfl⟩) hS hF hA hown hN EX.1.2.1.2 (by decide) hT (List.forall_mem_cons.mpr ⟨⟨by decide, by decide, (hts _ (List.mem_cons_of_mem _ kw_355))⟩, List.forall_mem_cons.mpr ⟨⟨by decide, by decide, (hts _ (List.mem_cons_of_mem _ kw_356))⟩, fun _ h => absurd h List.not_mem_nil⟩⟩) (fun k u h => by rcases h with ⟨hk9, -⟩ | ⟨hk9, -⟩ <;> (rw [hk9]; decide)) (fun r u H1 locs hP hS hkp h => ?_) (fun k x u H1 locs hP hS hkp h => ?_)
 · have hO := hx_keep hO ho hkp
   refine lv_if_eq (tgt := 19) hx hb d_Law_kind_12 (by decide) (fun c1 => ?_) (fun c1 => ?_)
   · have h := h.1 c1
     refine lv_lconst (v := 0) hx hb d_Law_kind_19 (by decide) ?_
     have hPO := hP.app hO
     refine va_last hx hb hK hPO (hx_D hI ho hF (Or.inr rfl)) hS 40 2 rfl rfl (by unfold vp_in; decide) d_Law_kind_20 (fun H locs hPO _ hS => ?_)
     obtain ⟨hP, hO⟩ := hx_split (w1 := cw a cA cZ G u) (w2 := hx_o o cL (vp_updL f 0 0)) hPO
     refine lv_goto (tgt := 32) hx hb d_Law_kind_21 (by decide) ?_
     refine lv_iconst (v := 0) hx hb d_Law_kind_32 (by decide) ?_
     refine W.widen (k := 1) (n := 6) (by omega) (by omega) ?_
     exact px_mono (fun t h => px_ofMQ (fun _ _ h => h) h) (W.iret (Qc := hx_Q Z D a cA cZ cL G o (hx_F a o s.heap.size)) (v := 0) hx hb hr (fun t ht hW => ⟨⟨0, u, (vp_updL f 0 0), rfl, h, by rw [ht]; exact hP, by rw [ht]; exact hO, va_K.moved hW.alike hK⟩, hS.F ht⟩) hS.2.2 d_Law_kind_33 hlocks)
   · have h := h.2 c1
     refine lv_lconst (v := 1) hx hb d_Law_kind_15 (by decide) ?_
     refine lv_goto (tgt := 20) hx hb d_Law_kind_16 (by decide) ?_
     have hPO := hP.app hO
     refine va_last hx hb hK hPO (hx_D hI ho hF (Or.inr rfl)) hS 40 2 rfl rfl (by unfold vp_in; decide) d_Law_kind_20 (fun H locs hPO _ hS => ?_)
     obtain ⟨hP, hO⟩ := hx_split (w1 := cw a cA cZ G u) (w2 := hx_o o cL (vp_updL f 0 1)) hPO
     refine lv_goto (tgt := 32) hx hb d_Law_kind_21 (by decide) ?_
     refine lv_iconst (v := 0) hx hb d_Law_kind_32 (by decide) ?_
     refine W.widen (k := 1) (n := 6) (by omega) (by omega) ?_
     exact px_mono (fun t h => px_ofMQ (fun _ _ h => h) h) (W.iret (Qc := hx_Q Z D a cA cZ cL G o (hx_F a o s.heap.size)) (v := 0) hx hb hr (fun t ht hW => ⟨⟨0, u, (vp_updL f 0 1), rfl, h, by rw [ht]; exact hP, by rw [ht]; exact hO, va_K.moved hW.alike hK⟩, hS.F ht⟩) hS.2.2 d_Law_kind_33 hlocks)
 · have hO := hx_keep hO ho hkp
   rcases h with ⟨rfl, h⟩ | ⟨rfl, h⟩
   · refine W.eq (g2 := F0 m 24 ls [.ref x]) rfl ?_
     refine lv_astore (lv' := [(6, .ref x), (0, .ref (a 0)), (1, .int x1), (2, .int x2), (3, .int x3), (4, .int x4), (5, .ref o)]) hx hb d_Law_kind_24 hl (by decide) rfl (fun ls hl => ?_)
     refine lv_iconst (v := 1) hx hb d_Law_kind_26 (by decide) ?_
     exact px_mono (fun t h => px_ofMQ (fun _ _ h => h) h) (W.iret (Qc := hx_Q Z D a cA cZ cL G o (hx_F a o s.heap.size)) (v := 1) hx hb hr (fun t ht hW => ⟨⟨1, u, f, rfl, h, by rw [ht]; exact hP, by rw [ht]; exact hO, va_K.moved hW.alike hK⟩, hS.F ht⟩) hS.2.2 d_Law_kind_27 hlocks)
   · refine W.eq (g2 := F0 m 28 ls [.ref x]) rfl ?_
     refine lv_astore (lv' := [(6, .ref x), (0, .ref (a 0)), (1, .int x1), (2, .int x2), (3, .int x3), (4, .int x4), (5, .ref o)]) hx hb d_Law_kind_28 hl (by decide) rfl (fun ls hl => ?_)
     refine lv_iconst (v := 2) hx hb d_Law_kind_30 (by decide) ?_
     exact px_mono (fun t h => px_ofMQ (fun _ _ h => h) h) (W.iret (Qc := hx_Q Z D a cA cZ cL G o (hx_F a o s.heap.size)) (v := 2) hx hb hr (fun t ht hW => ⟨⟨2, u, f, rfl, h, by rw [ht]; exact hP, by rw [ht]; exact hO, va_K.moved hW.alike hK⟩, hS.F ht⟩) hS.2.2 d_Law_kind_31 hlocks)
set_option maxHeartbeats 4000000 in
set_option maxRecDepth 100000 in
theorem hp_part (l : Launch) (D : va_G) (a : Nat → Nat) (cA cZ cL : ClassId) (G : pG) (o sz : Nat) (x1 : Int32) (u : pS) (f : Nat → Int64) (Z : Int32 → pS → (Nat → Int64) → Prop) (hL : px_L l) (hI : pw_I 40 a) (ho : ∀ k, k < 40 → o ≠ a k)
    (h : wp_PI_part G x1 u (fun r u' => Z 0 u' (vp_updL f 0 r.toInt64)) (fun k u' => (k = 2 ∧ Z 1 u' f))) : px_Met l y_Law_part w_Law_part ({ frames := 8, cells := 1, slots := 6, locals := 160 } : Room) (va_Pc [.ref (a 0), .int x1, .ref o] (hx_pre D a cA cZ cL G o sz u f)) (hx_Q Z D a cA cZ cL G o (hx_F a o sz)) 1 6 1 6 (hx_F a o sz) := by
 refine px_ofWW (cc := b_Law_part) (maxL := 4) (ret := (some .int)) (hs := [(0, 9, 12, 15)]) (by decide) rfl ?_
 intro p e s m args below meth c s₁ B hml hT hv
 obtain ⟨rfl, ⟨hsz, hP, hO, hK⟩, EX, hN⟩ := hv
 subst hsz
 have hx := B.exec
 have hb := B.bytes
 have hr := B.returns
 have hts := atoms_spec (ws := w_Law_part) B.pre
 have hown : s.vm.findClass R_Law = some m.cls := findClass_of_methodNamed B.named
 have hlocks := B.notSynchronized
 have hA : ∀ q : Nat, s.heap.size ≤ q → hx_F a o s.heap.size q := fun q h => Or.inl (Or.inr h)
 have hF : ∀ k, k < 40 → hx_F a o s.heap.size (a k) := fun k hk => Or.inl (Or.inl ⟨k, hk, rfl⟩)
 have hS : va_S (hx_F a o s.heap.size) s.heap s.heap [] := va_S.rf
 have hK2 : va_K D vwCl (cT cA cZ) s := hK.sub [0, 1] rfl
 have hl := lv_entry ([.ref (a 0), .int x1, .ref o]) (n := 4) (Nat.le_of_ble_eq_true rfl)
 rw [lg_entry_eq]
 generalize (lg_sl ([.ref (a 0), .int x1, .ref o]) ++ List.replicate (4 - (lg_sl ([.ref (a 0), .int x1, .ref o])).length) Slot.unset).toArray = ls at hl ⊢
 have hl : lv_has ls 4 [(0, .ref (a 0)), (1, .int x1), (2, .ref o)] := hl
 refine lv_aload_n hx hb d_Law_part_0 rfl (lv_at hl 2 rfl) ?_
 refine lv_iconst (v := 0) hx hb d_Law_part_1 (by decide) ?_
 refine lv_aload_n hx hb d_Law_part_2 rfl (lv_at hl 0 rfl) ?_
 refine lv_iload_n hx hb d_Law_part_3 rfl (lv_at hl 1 rfl) ?_
 refine hx_call (own := R_Law) (en := 9) (L := [(12, 15, 2)]) (px_runV (As := [.int x1]) (rest := [.int 0, .ref o]) ⟨hx, hb, hml, hown, hts⟩ (ct_PI_part l D a cA cZ G _ x1 u _ _ hL hI h) (pw_cwV 1 hts kw_480 kw_45 kw_477 kw_478 kw_479 (by decide +kernel) ⟨Nat.le_of_ble_eq_true rfl, Nat.le_of_ble_eq_true rfl⟩) ⟨cw_blindX, va_recv hK2 hP (ci := 0) (q0 := 0) rfl cw_at_0, fun U hU hW => ⟨rfl, ⟨by rw [hU], by rw [hU]; exact hP, va_K.moved hW.alike hK2⟩, cw_Ex_call EX hS (pw_FA hS hF hA) hU hW⟩⟩ rfl rfl hl.1 rfl (lv_room (Nat.le_of_ble_eq_true rfl)) d_Law_part_4 ⟨Nat.le_of_ble_eq_true rfl, Nat.le_of_ble_eq_true rfl⟩) hS hF hA hown hN EX.1.2.1.2 (by decide) hT (List.forall_mem_cons.mpr ⟨⟨by decide, by decide, (hts _ (List.mem_cons_of_mem _ kw_356))⟩, fun _ h => absurd h List.not_mem_nil⟩) (fun k u h => by obtain ⟨hk9, -⟩ := h; rw [hk9]; decide) (fun r u H1 locs hP hS hkp h => ?_) (fun k x u H1 locs hP hS hkp h => ?_)
 · have hO := hx_keep hO ho hkp
   refine lv_i2l (v := r.toInt64) hx hb d_Law_part_7 rfl ?_
   have hPO := hP.app hO
   refine va_last hx hb hK hPO (hx_D hI ho hF (Or.inr rfl)) hS 40 2 rfl rfl (by unfold vp_in; decide) d_Law_part_8 (fun H locs hPO _ hS => ?_)
   obtain ⟨hP, hO⟩ := hx_split (w1 := cw a cA cZ G u) (w2 := hx_o o cL (vp_updL f 0 r.toInt64)) hPO
   refine lv_goto (tgt := 15) hx hb d_Law_part_9 (by decide) ?_
   refine lv_iconst (v := 0) hx hb d_Law_part_15 (by decide) ?_
   refine W.widen (k := 1) (n := 6) (by omega) (by omega) ?_
   exact px_mono (fun t h => px_ofMQ (fun _ _ h => h) h) (W.iret (Qc := hx_Q Z D a cA cZ cL G o (hx_F a o s.heap.size)) (v := 0) hx hb hr (fun t ht hW => ⟨⟨0, u, (vp_updL f 0 r.toInt64), rfl, h, by rw [ht]; exact hP, by rw [ht]; exact hO, va_K.moved hW.alike hK⟩, hS.F ht⟩) hS.2.2 d_Law_part_16 hlocks)
 · have hO := hx_keep hO ho hkp
   obtain ⟨rfl, h⟩ := h
   refine W.eq (g2 := F0 m 12 ls [.ref x]) rfl ?_
   refine lv_astore_n (lv' := [(3, .ref x), (0, .ref (a 0)), (1, .int x1), (2, .ref o)]) hx hb d_Law_part_12 rfl hl (by decide) rfl (fun ls hl => ?_)
   refine lv_iconst (v := 1) hx hb d_Law_part_13 (by decide) ?_
   exact px_mono (fun t h => px_ofMQ (fun _ _ h => h) h) (W.iret (Qc := hx_Q Z D a cA cZ cL G o (hx_F a o s.heap.size)) (v := 1) hx hb hr (fun t ht hW => ⟨⟨1, u, f, rfl, h, by rw [ht]; exact hP, by rw [ht]; exact hO, va_K.moved hW.alike hK⟩, hS.F ht⟩) hS.2.2 d_Law_part_14 hlocks)
set_option maxHeartbeats 4000000 in
set_option maxRecDepth 100000 in
theorem hp_pieceOf (l : Launch) (D : va_G) (a : Nat → Nat) (cA cZ cL : ClassId) (G : pG) (o sz : Nat) (x1 x2 : Int32) (u : pS) (f : Nat → Int64) (Z : Int32 → pS → (Nat → Int64) → Prop) (hL : px_L l) (hI : pw_I 40 a) (ho : ∀ k, k < 40 → o ≠ a k)
    (h : wp_PI_pieceOf G x1 x2 u (fun r u' => Z 0 u' (vp_updL f 0 r.toInt64)) (fun k u' => (k = 0 ∧ Z 1 u' f) ∨ (k = 1 ∧ Z 2 u' f))) : px_Met l y_Law_pieceOf w_Law_pieceOf ({ frames := 9, cells := 1, slots := 6, locals := 147 } : Room) (va_Pc [.ref (a 0), .int x1, .int x2, .ref o] (hx_pre D a cA cZ cL G o sz u f)) (hx_Q Z D a cA cZ cL G o (hx_F a o sz)) 1 6 1 6 (hx_F a o sz) := by
 refine px_ofWW (cc := b_Law_pieceOf) (maxL := 5) (ret := (some .int)) (hs := [(0, 10, 13, 29), (0, 10, 17, 13)]) (by decide) rfl ?_
 intro p e s m args below meth c s₁ B hml hT hv
 obtain ⟨rfl, ⟨hsz, hP, hO, hK⟩, EX, hN⟩ := hv
 subst hsz
 have hx := B.exec
 have hb := B.bytes
 have hr := B.returns
 have hts := atoms_spec (ws := w_Law_pieceOf) B.pre
 have hown : s.vm.findClass R_Law = some m.cls := findClass_of_methodNamed B.named
 have hlocks := B.notSynchronized
 have hA : ∀ q : Nat, s.heap.size ≤ q → hx_F a o s.heap.size q := fun q h => Or.inl (Or.inr h)
 have hF : ∀ k, k < 40 → hx_F a o s.heap.size (a k) := fun k hk => Or.inl (Or.inl ⟨k, hk, rfl⟩)
 have hS : va_S (hx_F a o s.heap.size) s.heap s.heap [] := va_S.rf
 have hK2 : va_K D vwCl (cT cA cZ) s := hK.sub [0, 1] rfl
 have hl := lv_entry ([.ref (a 0), .int x1, .int x2, .ref o]) (n := 5) (Nat.le_of_ble_eq_true rfl)
 rw [lg_entry_eq]
 generalize (lg_sl ([.ref (a 0), .int x1, .int x2, .ref o]) ++ List.replicate (5 - (lg_sl ([.ref (a 0), .int x1, .int x2, .ref o])).length) Slot.unset).toArray = ls at hl ⊢
 have hl : lv_has ls 5 [(0, .ref (a 0)), (1, .int x1), (2, .int x2), (3, .ref o)] := hl
 refine lv_aload_n hx hb d_Law_pieceOf_0 rfl (lv_at hl 3 rfl) ?_
 refine lv_iconst (v := 0) hx hb d_Law_pieceOf_1 (by decide) ?_
 refine lv_aload_n hx hb d_Law_pieceOf_2 rfl (lv_at hl 0 rfl) ?_
 refine lv_iload_n hx hb d_Law_pieceOf_3 rfl (lv_at hl 1 rfl) ?_
 refine lv_iload_n hx hb d_Law_pieceOf_4 rfl (lv_at hl 2 rfl) ?_
 refine hx_call (own := R_Law) (en := 10) (L := [(13, 29, 0), (17, 13, 1)]) (px_runV (As := [.int x1, .int x2]) (rest := [.int 0, .ref o]) ⟨hx, hb, hml, hown, hts⟩ (ct_PI_pieceOf l D a cA cZ G _ x1 x2 u _ _ hL hI h) (pw_cwV 2 hts kw_607 kw_45 kw_604 kw_605 kw_606 (by decide +kernel) ⟨Nat.le_of_ble_eq_true rfl, Nat.le_of_ble_eq_true rfl⟩) ⟨cw_blindX, va_recv hK2 hP (ci := 0) (q0 := 0) rfl cw_at_0, fun U hU hW => ⟨rfl, ⟨by rw [hU], by rw [hU]; exact hP, va_K.moved hW.alike hK2⟩, cw_Ex_call EX hS (pw_FA hS hF hA) hU hW⟩⟩ rfl rfl hl.1 rfl (lv_room (Nat.le_of_ble_eq_true rfl)) d_Law_pieceOf_5 ⟨Nat.le_of_ble_eq_true rfl, Nat.le_of_ble_eq_true rfl⟩) hS hF hA hown hN EX.1.2.1.2 (by decide) hT (List.forall_mem_cons.mpr ⟨⟨by decide, by decide, (hts _ (List.mem_cons_of_mem _ kw_603))⟩, List.forall_mem_cons.mpr ⟨⟨by decide, by decide, (hts _ (List.mem_cons_of_mem _ kw_355))⟩, fun _ h => absurd h List.not_mem_nil⟩⟩) (fun k u h => by rcases h with ⟨hk9, -⟩ | ⟨hk9, -⟩ <;> (rw [hk9]; decide)) (fun r u H1 locs hP hS hkp h => ?_) (fun k x u H1 locs hP hS hkp h => ?_)
 · have hO := hx_keep hO ho hkp
   refine lv_i2l (v := r.toInt64) hx hb d_Law_pieceOf_8 rfl ?_
   have hPO := hP.app hO
   refine va_last hx hb hK hPO (hx_D hI ho hF (Or.inr rfl)) hS 40 2 rfl rfl (by unfold vp_in; decide) d_Law_pieceOf_9 (fun H locs hPO _ hS => ?_)
   obtain ⟨hP, hO⟩ := hx_split (w1 := cw a cA cZ G u) (w2 := hx_o o cL (vp_updL f 0 r.toInt64)) hPO
   refine lv_goto (tgt := 21) hx hb d_Law_pieceOf_10 (by decide) ?_
   refine lv_iconst (v := 0) hx hb d_Law_pieceOf_21 (by decide) ?_
   refine W.widen (k := 1) (n := 6) (by omega) (by omega) ?_
   exact px_mono (fun t h => px_ofMQ (fun _ _ h => h) h) (W.iret (Qc := hx_Q Z D a cA cZ cL G o (hx_F a o s.heap.size)) (v := 0) hx hb hr (fun t ht hW => ⟨⟨0, u, (vp_updL f 0 r.toInt64), rfl, h, by rw [ht]; exact hP, by rw [ht]; exact hO, va_K.moved hW.alike hK⟩, hS.F ht⟩) hS.2.2 d_Law_pieceOf_22 hlocks)
 · have hO := hx_keep hO ho hkp
   rcases h with ⟨rfl, h⟩ | ⟨rfl, h⟩
   · refine W.eq (g2 := F0 m 13 ls [.ref x]) rfl ?_
     refine lv_astore (lv' := [(4, .ref x), (0, .ref (a 0)), (1, .int x1), (2, .int x2), (3, .ref o)]) hx hb d_Law_pieceOf_13 hl (by decide) rfl (fun ls hl => ?_)
     refine lv_iconst (v := 1) hx hb d_Law_pieceOf_15 (by decide) ?_
     exact px_mono (fun t h => px_ofMQ (fun _ _ h => h) h) (W.iret (Qc := hx_Q Z D a cA cZ cL G o (hx_F a o s.heap.size)) (v := 1) hx hb hr (fun t ht hW => ⟨⟨1, u, f, rfl, h, by rw [ht]; exact hP, by rw [ht]; exact hO, va_K.moved hW.alike hK⟩, hS.F ht⟩) hS.2.2 d_Law_pieceOf_16 hlocks)
   · refine W.eq (g2 := F0 m 17 ls [.ref x]) rfl ?_
     refine lv_astore (lv' := [(4, .ref x), (0, .ref (a 0)), (1, .int x1), (2, .int x2), (3, .ref o)]) hx hb d_Law_pieceOf_17 hl (by decide) rfl (fun ls hl => ?_)
     refine lv_iconst (v := 2) hx hb d_Law_pieceOf_19 (by decide) ?_
     exact px_mono (fun t h => px_ofMQ (fun _ _ h => h) h) (W.iret (Qc := hx_Q Z D a cA cZ cL G o (hx_F a o s.heap.size)) (v := 2) hx hb hr (fun t ht hW => ⟨⟨2, u, f, rfl, h, by rw [ht]; exact hP, by rw [ht]; exact hO, va_K.moved hW.alike hK⟩, hS.F ht⟩) hS.2.2 d_Law_pieceOf_20 hlocks)
set_option maxHeartbeats 4000000 in
set_option maxRecDepth 100000 in
theorem hp_piece (l : Launch) (D : va_G) (a : Nat → Nat) (cA cZ cL : ClassId) (G : pG) (o sz : Nat) (x1 x2 : Int32) (u : pS) (f : Nat → Int64) (Z : Int32 → pS → (Nat → Int64) → Prop) (hL : px_L l) (hI : pw_I 40 a) (ho : ∀ k, k < 40 → o ≠ a k)
    (h : wp_PI_piece G x1 x2 u (fun r u' => Z 0 u' (vp_updL f 0 r.toInt64)) (fun k u' => (k = 0 ∧ Z 1 u' f) ∨ (k = 1 ∧ Z 2 u' f) ∨ (k = 2 ∧ Z 3 u' f))) : px_Met l y_Law_piece w_Law_piece ({ frames := 9, cells := 1, slots := 6, locals := 146 } : Room) (va_Pc [.ref (a 0), .int x1, .int x2, .ref o] (hx_pre D a cA cZ cL G o sz u f)) (hx_Q Z D a cA cZ cL G o (hx_F a o sz)) 1 6 1 6 (hx_F a o sz) := by
 refine px_ofWW (cc := b_Law_piece) (maxL := 5) (ret := (some .int)) (hs := [(0, 10, 13, 29), (0, 10, 17, 13), (0, 10, 21, 15)]) (by decide) rfl ?_
 intro p e s m args below meth c s₁ B hml hT hv
 obtain ⟨rfl, ⟨hsz, hP, hO, hK⟩, EX, hN⟩ := hv
 subst hsz
 have hx := B.exec
 have hb := B.bytes
 have hr := B.returns
 have hts := atoms_spec (ws := w_Law_piece) B.pre
 have hown : s.vm.findClass R_Law = some m.cls := findClass_of_methodNamed B.named
 have hlocks := B.notSynchronized
 have hA : ∀ q : Nat, s.heap.size ≤ q → hx_F a o s.heap.size q := fun q h => Or.inl (Or.inr h)
 have hF : ∀ k, k < 40 → hx_F a o s.heap.size (a k) := fun k hk => Or.inl (Or.inl ⟨k, hk, rfl⟩)
 have hS : va_S (hx_F a o s.heap.size) s.heap s.heap [] := va_S.rf
 have hK2 : va_K D vwCl (cT cA cZ) s := hK.sub [0, 1] rfl
 have hl := lv_entry ([.ref (a 0), .int x1, .int x2, .ref o]) (n := 5) (Nat.le_of_ble_eq_true rfl)
 rw [lg_entry_eq]
 generalize (lg_sl ([.ref (a 0), .int x1, .int x2, .ref o]) ++ List.replicate (5 - (lg_sl ([.ref (a 0), .int x1, .int x2, .ref o])).length) Slot.unset).toArray = ls at hl ⊢
 have hl : lv_has ls 5 [(0, .ref (a 0)), (1, .int x1), (2, .int x2), (3, .ref o)] := hl
 refine lv_aload_n hx hb d_Law_piece_0 rfl (lv_at hl 3 rfl) ?_
 refine lv_iconst (v := 0) hx hb d_Law_piece_1 (by decide) ?_
 refine lv_aload_n hx hb d_Law_piece_2 rfl (lv_at hl 0 rfl) ?_
 refine lv_iload_n hx hb d_Law_piece_3 rfl (lv_at hl 1 rfl) ?_
 refine lv_iload_n hx hb d_Law_piece_4 rfl (lv_at hl 2 rfl) ?_
 refine hx_call (own := R_Law) (en := 10) (L := [(13, 29, 0), (17, 13, 1), (21, 15, 2)]) (px_runV (As := [.int x1, .int x2]) (rest := [.int 0, .ref o]) ⟨hx, hb, hml, hown, hts⟩ (ct_PI_piece l D a cA cZ G _ x1 x2 u _ _ hL hI h) (pw_cwV 2 hts kw_639 kw_45 kw_636 kw_637 kw_638 (by decide +kernel) ⟨Nat.le_of_ble_eq_true rfl, Nat.le_of_ble_eq_true rfl⟩) ⟨cw_blindX, va_recv hK2 hP (ci := 0) (q0 := 0) rfl cw_at_0, fun U hU hW => ⟨rfl, ⟨by rw [hU], by rw [hU]; exact hP, va_K.moved hW.alike hK2⟩, cw_Ex_call EX hS (pw_FA hS hF hA) hU hW⟩⟩ rfl rfl hl.1 rfl (lv_room (Nat.le_of_ble_eq_true rfl)) d_Law_piece_5 ⟨Nat.le_of_ble_eq_true rfl, Nat.le_of_ble_eq_true rfl⟩) hS hF hA hown hN EX.1.2.1.2 (by decide) hT (List.forall_mem_cons.mpr ⟨⟨by decide, by decide, (hts _ (List.mem_cons_of_mem _ kw_603))⟩, List.forall_mem_cons.mpr ⟨⟨by decide, by decide, (hts _ (List.mem_cons_of_mem _ kw_355))⟩, List.forall_mem_cons.mpr ⟨⟨by decide, by decide, (hts _ (List.mem_cons_of_mem _ kw_356))⟩, fun _ h => absurd h List.not_mem_nil⟩⟩⟩) (fun k u h => by rcases h with ⟨hk9, -⟩ | ⟨hk9, -⟩ | ⟨hk9, -⟩ <;> (rw [hk9]; decide)) (fun r u H1 locs hP hS hkp h => ?_) (fun k x u H1 locs hP hS hkp h => ?_)
 · have hO := hx_keep hO ho hkp
   refine lv_i2l (v := r.toInt64) hx hb d_Law_piece_8 rfl ?_
   have hPO := hP.app hO
   refine va_last hx hb hK hPO (hx_D hI ho hF (Or.inr rfl)) hS 40 2 rfl rfl (by unfold vp_in; decide) d_Law_piece_9 (fun H locs hPO _ hS => ?_)
   obtain ⟨hP, hO⟩ := hx_split (w1 := cw a cA cZ G u) (w2 := hx_o o cL (vp_updL f 0 r.toInt64)) hPO
   refine lv_goto (tgt := 25) hx hb d_Law_piece_10 (by decide) ?_
   refine lv_iconst (v := 0) hx hb d_Law_piece_25 (by decide) ?_
   refine W.widen (k := 1) (n := 6) (by omega) (by omega) ?_
   exact px_mono (fun t h => px_ofMQ (fun _ _ h => h) h) (W.iret (Qc := hx_Q Z D a cA cZ cL G o (hx_F a o s.heap.size)) (v := 0) hx hb hr (fun t ht hW => ⟨⟨0, u, (vp_updL f 0 r.toInt64), rfl, h, by rw [ht]; exact hP, by rw [ht]; exact hO, va_K.moved hW.alike hK⟩, hS.F ht⟩) hS.2.2 d_Law_piece_26 hlocks)
 · have hO := hx_keep hO ho hkp
   rcases h with ⟨rfl, h⟩ | ⟨rfl, h⟩ | ⟨rfl, h⟩
   · refine W.eq (g2 := F0 m 13 ls [.ref x]) rfl ?_
     refine lv_astore (lv' := [(4, .ref x), (0, .ref (a 0)), (1, .int x1), (2, .int x2), (3, .ref o)]) hx hb d_Law_piece_13 hl (by decide) rfl (fun ls hl => ?_)
     refine lv_iconst (v := 1) hx hb d_Law_piece_15 (by decide) ?_
     exact px_mono (fun t h => px_ofMQ (fun _ _ h => h) h) (W.iret (Qc := hx_Q Z D a cA cZ cL G o (hx_F a o s.heap.size)) (v := 1) hx hb hr (fun t ht hW => ⟨⟨1, u, f, rfl, h, by rw [ht]; exact hP, by rw [ht]; exact hO, va_K.moved hW.alike hK⟩, hS.F ht⟩) hS.2.2 d_Law_piece_16 hlocks)
   · refine W.eq (g2 := F0 m 17 ls [.ref x]) rfl ?_
     refine lv_astore (lv' := [(4, .ref x), (0, .ref (a 0)), (1, .int x1), (2, .int x2), (3, .ref o)]) hx hb d_Law_piece_17 hl (by decide) rfl (fun ls hl => ?_)
     refine lv_iconst (v := 2) hx hb d_Law_piece_19 (by decide) ?_
     exact px_mono (fun t h => px_ofMQ (fun _ _ h => h) h) (W.iret (Qc := hx_Q Z D a cA cZ cL G o (hx_F a o s.heap.size)) (v := 2) hx hb hr (fun t ht hW => ⟨⟨2, u, f, rfl, h, by rw [ht]; exact hP, by rw [ht]; exact hO, va_K.moved hW.alike hK⟩, hS.F ht⟩) hS.2.2 d_Law_piece_20 hlocks)
   · refine W.eq (g2 := F0 m 21 ls [.ref x]) rfl ?_
     refine lv_astore (lv' := [(4, .ref x), (0, .ref (a 0)), (1, .int x1), (2, .int x2), (3, .ref o)]) hx hb d_Law_piece_21 hl (by decide) rfl (fun ls hl => ?_)
     refine lv_iconst (v := 3) hx hb d_Law_piece_23 (by decide) ?_
     exact px_mono (fun t h => px_ofMQ (fun _ _ h => h) h) (W.iret (Qc := hx_Q Z D a cA cZ cL G o (hx_F a o s.heap.size)) (v := 3) hx hb hr (fun t ht hW => ⟨⟨3, u, f, rfl, h, by rw [ht]; exact hP, by rw [ht]; exact hO, va_K.moved hW.alike hK⟩, hS.F ht⟩) hS.2.2 d_Law_piece_24 hlocks)
set_option maxHeartbeats 4000000 in
set_option maxRecDepth 100000 in
theorem hp_joined (l : Launch) (D : va_G) (a : Nat → Nat) (cA cZ cL : ClassId) (G : pG) (o sz : Nat) (x1 x2 : Int32) (u : pS) (f : Nat → Int64) (Z : Int32 → pS → (Nat → Int64) → Prop) (hL : px_L l) (hI : pw_I 40 a) (ho : ∀ k, k < 40 → o ≠ a k)
    (h : wp_PI_joined G x1 x2 u (fun r u' => Z 0 u' (vp_updL f 0 r.toInt64)) (fun k u' => (k = 0 ∧ Z 1 u' f) ∨ (k = 1 ∧ Z 2 u' f))) : px_Met l y_Law_joined w_Law_joined ({ frames := 9, cells := 1, slots := 6, locals := 146 } : Room) (va_Pc [.ref (a 0), .int x1, .int x2, .ref o] (hx_pre D a cA cZ cL G o sz u f)) (hx_Q Z D a cA cZ cL G o (hx_F a o sz)) 1 6 1 6 (hx_F a o sz) := by
 refine px_ofWW (cc := b_Law_joined) (maxL := 5) (ret := (some .int)) (hs := [(0, 10, 13, 29), (0, 10, 17, 13)]) (by decide) rfl ?_
 intro p e s m args below meth c s₁ B hml hT hv
 obtain ⟨rfl, ⟨hsz, hP, hO, hK⟩, EX, hN⟩ := hv
 subst hsz
 have hx := B.exec
 have hb := B.bytes
 have hr := B.returns
 have hts := atoms_spec (ws := w_Law_joined) B.pre
 have hown : s.vm.findClass R_Law = some m.cls := findClass_of_methodNamed B.named
 have hlocks := B.notSynchronized
 have hA : ∀ q : Nat, s.heap.size ≤ q → hx_F a o s.heap.size q := fun q h => Or.inl (Or.inr h)
 have hF : ∀ k, k < 40 → hx_F a o s.heap.size (a k) := fun k hk => Or.inl (Or.inl ⟨k, hk, rfl⟩)
 have hS : va_S (hx_F a o s.heap.size) s.heap s.heap [] := va_S.rf
 have hK2 : va_K D vwCl (cT cA cZ) s := hK.sub [0, 1] rfl
 have hl := lv_entry ([.ref (a 0), .int x1, .int x2, .ref o]) (n := 5) (Nat.le_of_ble_eq_true rfl)
 rw [lg_entry_eq]
 generalize (lg_sl ([.ref (a 0), .int x1, .int x2, .ref o]) ++ List.replicate (5 - (lg_sl ([.ref (a 0), .int x1, .int x2, .ref o])).length) Slot.unset).toArray = ls at hl ⊢
 have hl : lv_has ls 5 [(0, .ref (a 0)), (1, .int x1), (2, .int x2), (3, .ref o)] := hl
 refine lv_aload_n hx hb d_Law_joined_0 rfl (lv_at hl 3 rfl) ?_
 refine lv_iconst (v := 0) hx hb d_Law_joined_1 (by decide) ?_
 refine lv_aload_n hx hb d_Law_joined_2 rfl (lv_at hl 0 rfl) ?_
 refine lv_iload_n hx hb d_Law_joined_3 rfl (lv_at hl 1 rfl) ?_
 refine lv_iload_n hx hb d_Law_joined_4 rfl (lv_at hl 2 rfl) ?_
 refine hx_call (own := R_Law) (en := 10) (L := [(13, 29, 0), (17, 13, 1)]) (px_runV (As := [.int x1, .int x2]) (rest := [.int 0, .ref o]) ⟨hx, hb, hml, hown, hts⟩ (ct_PI_joined l D a cA cZ G _ x1 x2 u _ _ hL hI h) (pw_cwV 2 hts kw_660 kw_45 kw_657 kw_658 kw_659 (by decide +kernel) ⟨Nat.le_of_ble_eq_true rfl, Nat.le_of_ble_eq_true rfl⟩) ⟨cw_blindX, va_recv hK2 hP (ci := 0) (q0 := 0) rfl cw_at_0, fun U hU hW => ⟨rfl, ⟨by rw [hU], by rw [hU]; exact hP, va_K.moved hW.alike hK2⟩, cw_Ex_call EX hS (pw_FA hS hF hA) hU hW⟩⟩ rfl rfl hl.1 rfl (lv_room (Nat.le_of_ble_eq_true rfl)) d_Law_joined_5 ⟨Nat.le_of_ble_eq_true rfl, Nat.le_of_ble_eq_true rfl⟩) hS hF hA hown hN EX.1.2.1.2 (by decide) hT (List.forall_mem_cons.mpr ⟨⟨by decide, by decide, (hts _ (List.mem_cons_of_mem _ kw_603))⟩, List.forall_mem_cons.mpr ⟨⟨by decide, by decide, (hts _ (List.mem_cons_of_mem _ kw_355))⟩, fun _ h => absurd h List.not_mem_nil⟩⟩) (fun k u h => by rcases h with ⟨hk9, -⟩ | ⟨hk9, -⟩ <;> (rw [hk9]; decide)) (fun r u H1 locs hP hS hkp h => ?_) (fun k x u H1 locs hP hS hkp h => ?_)
 · have hO := hx_keep hO ho hkp
   refine lv_i2l (v := r.toInt64) hx hb d_Law_joined_8 rfl ?_
   have hPO := hP.app hO
   refine va_last hx hb hK hPO (hx_D hI ho hF (Or.inr rfl)) hS 40 2 rfl rfl (by unfold vp_in; decide) d_Law_joined_9 (fun H locs hPO _ hS => ?_)
   obtain ⟨hP, hO⟩ := hx_split (w1 := cw a cA cZ G u) (w2 := hx_o o cL (vp_updL f 0 r.toInt64)) hPO
   refine lv_goto (tgt := 21) hx hb d_Law_joined_10 (by decide) ?_
   refine lv_iconst (v := 0) hx hb d_Law_joined_21 (by decide) ?_
   refine W.widen (k := 1) (n := 6) (by omega) (by omega) ?_
   exact px_mono (fun t h => px_ofMQ (fun _ _ h => h) h) (W.iret (Qc := hx_Q Z D a cA cZ cL G o (hx_F a o s.heap.size)) (v := 0) hx hb hr (fun t ht hW => ⟨⟨0, u, (vp_updL f 0 r.toInt64), rfl, h, by rw [ht]; exact hP, by rw [ht]; exact hO, va_K.moved hW.alike hK⟩, hS.F ht⟩) hS.2.2 d_Law_joined_22 hlocks)
 · have hO := hx_keep hO ho hkp
   rcases h with ⟨rfl, h⟩ | ⟨rfl, h⟩
   · refine W.eq (g2 := F0 m 13 ls [.ref x]) rfl ?_
     refine lv_astore (lv' := [(4, .ref x), (0, .ref (a 0)), (1, .int x1), (2, .int x2), (3, .ref o)]) hx hb d_Law_joined_13 hl (by decide) rfl (fun ls hl => ?_)
     refine lv_iconst (v := 1) hx hb d_Law_joined_15 (by decide) ?_
     exact px_mono (fun t h => px_ofMQ (fun _ _ h => h) h) (W.iret (Qc := hx_Q Z D a cA cZ cL G o (hx_F a o s.heap.size)) (v := 1) hx hb hr (fun t ht hW => ⟨⟨1, u, f, rfl, h, by rw [ht]; exact hP, by rw [ht]; exact hO, va_K.moved hW.alike hK⟩, hS.F ht⟩) hS.2.2 d_Law_joined_16 hlocks)
   · refine W.eq (g2 := F0 m 17 ls [.ref x]) rfl ?_
     refine lv_astore (lv' := [(4, .ref x), (0, .ref (a 0)), (1, .int x1), (2, .int x2), (3, .ref o)]) hx hb d_Law_joined_17 hl (by decide) rfl (fun ls hl => ?_)
     refine lv_iconst (v := 2) hx hb d_Law_joined_19 (by decide) ?_
     exact px_mono (fun t h => px_ofMQ (fun _ _ h => h) h) (W.iret (Qc := hx_Q Z D a cA cZ cL G o (hx_F a o s.heap.size)) (v := 2) hx hb hr (fun t ht hW => ⟨⟨2, u, f, rfl, h, by rw [ht]; exact hP, by rw [ht]; exact hO, va_K.moved hW.alike hK⟩, hS.F ht⟩) hS.2.2 d_Law_joined_20 hlocks)
set_option maxHeartbeats 4000000 in
set_option maxRecDepth 100000 in
theorem hp_outline (l : Launch) (D : va_G) (a : Nat → Nat) (cA cZ cL : ClassId) (G : pG) (o sz : Nat) (x1 : Int32) (u : pS) (f : Nat → Int64) (Z : Int32 → pS → (Nat → Int64) → Prop) (hL : px_L l) (hI : pw_I 40 a) (ho : ∀ k, k < 40 → o ≠ a k)
    (h : wp_PI_outline G x1 u (fun r u' => Z 0 u' (vp_updL f 0 r.toInt64)) (fun k u' => (k = 0 ∧ Z 1 u' f) ∨ (k = 1 ∧ Z 2 u' f))) : px_Met l y_Law_outline w_Law_outline ({ frames := 9, cells := 1, slots := 6, locals := 145 } : Room) (va_Pc [.ref (a 0), .int x1, .ref o] (hx_pre D a cA cZ cL G o sz u f)) (hx_Q Z D a cA cZ cL G o (hx_F a o sz)) 1 6 1 6 (hx_F a o sz) := by
 refine px_ofWW (cc := b_Law_outline) (maxL := 4) (ret := (some .int)) (hs := [(0, 9, 12, 29), (0, 9, 15, 13)]) (by decide) rfl ?_
 intro p e s m args below meth c s₁ B hml hT hv
 obtain ⟨rfl, ⟨hsz, hP, hO, hK⟩, EX, hN⟩ := hv
 subst hsz
 have hx := B.exec
 have hb := B.bytes
 have hr := B.returns
 have hts := atoms_spec (ws := w_Law_outline) B.pre
 have hown : s.vm.findClass R_Law = some m.cls := findClass_of_methodNamed B.named
 have hlocks := B.notSynchronized
 have hA : ∀ q : Nat, s.heap.size ≤ q → hx_F a o s.heap.size q := fun q h => Or.inl (Or.inr h)
 have hF : ∀ k, k < 40 → hx_F a o s.heap.size (a k) := fun k hk => Or.inl (Or.inl ⟨k, hk, rfl⟩)
 have hS : va_S (hx_F a o s.heap.size) s.heap s.heap [] := va_S.rf
 have hK2 : va_K D vwCl (cT cA cZ) s := hK.sub [0, 1] rfl
 have hl := lv_entry ([.ref (a 0), .int x1, .ref o]) (n := 4) (Nat.le_of_ble_eq_true rfl)
 rw [lg_entry_eq]
 generalize (lg_sl ([.ref (a 0), .int x1, .ref o]) ++ List.replicate (4 - (lg_sl ([.ref (a 0), .int x1, .ref o])).length) Slot.unset).toArray = ls at hl ⊢
 have hl : lv_has ls 4 [(0, .ref (a 0)), (1, .int x1), (2, .ref o)] := hl
 refine lv_aload_n hx hb d_Law_outline_0 rfl (lv_at hl 2 rfl) ?_
 refine lv_iconst (v := 0) hx hb d_Law_outline_1 (by decide) ?_
 refine lv_aload_n hx hb d_Law_outline_2 rfl (lv_at hl 0 rfl) ?_
 refine lv_iload_n hx hb d_Law_outline_3 rfl (lv_at hl 1 rfl) ?_
 refine hx_call (own := R_Law) (en := 9) (L := [(12, 29, 0), (15, 13, 1)]) (px_runV (As := [.int x1]) (rest := [.int 0, .ref o]) ⟨hx, hb, hml, hown, hts⟩ (ct_PI_outline l D a cA cZ G _ x1 u _ _ hL hI h) (pw_cwV 1 hts kw_671 kw_45 kw_668 kw_669 kw_670 (by decide +kernel) ⟨Nat.le_of_ble_eq_true rfl, Nat.le_of_ble_eq_true rfl⟩) ⟨cw_blindX, va_recv hK2 hP (ci := 0) (q0 := 0) rfl cw_at_0, fun U hU hW => ⟨rfl, ⟨by rw [hU], by rw [hU]; exact hP, va_K.moved hW.alike hK2⟩, cw_Ex_call EX hS (pw_FA hS hF hA) hU hW⟩⟩ rfl rfl hl.1 rfl (lv_room (Nat.le_of_ble_eq_true rfl)) d_Law_outline_4 ⟨Nat.le_of_ble_eq_true rfl, Nat.le_of_ble_eq_true rfl⟩) hS hF hA hown hN EX.1.2.1.2 (by decide) hT (List.forall_mem_cons.mpr ⟨⟨by decide, by decide, (hts _ (List.mem_cons_of_mem _ kw_603))⟩, List.forall_mem_cons.mpr ⟨⟨by decide, by decide, (hts _ (List.mem_cons_of_mem _ kw_355))⟩, fun _ h => absurd h List.not_mem_nil⟩⟩) (fun k u h => by rcases h with ⟨hk9, -⟩ | ⟨hk9, -⟩ <;> (rw [hk9]; decide)) (fun r u H1 locs hP hS hkp h => ?_) (fun k x u H1 locs hP hS hkp h => ?_)
 · have hO := hx_keep hO ho hkp
   refine lv_i2l (v := r.toInt64) hx hb d_Law_outline_7 rfl ?_
   have hPO := hP.app hO
   refine va_last hx hb hK hPO (hx_D hI ho hF (Or.inr rfl)) hS 40 2 rfl rfl (by unfold vp_in; decide) d_Law_outline_8 (fun H locs hPO _ hS => ?_)
   obtain ⟨hP, hO⟩ := hx_split (w1 := cw a cA cZ G u) (w2 := hx_o o cL (vp_updL f 0 r.toInt64)) hPO
   refine lv_goto (tgt := 18) hx hb d_Law_outline_9 (by decide) ?_
   refine lv_iconst (v := 0) hx hb d_Law_outline_18 (by decide) ?_
   refine W.widen (k := 1) (n := 6) (by omega) (by omega) ?_
   exact px_mono (fun t h => px_ofMQ (fun _ _ h => h) h) (W.iret (Qc := hx_Q Z D a cA cZ cL G o (hx_F a o s.heap.size)) (v := 0) hx hb hr (fun t ht hW => ⟨⟨0, u, (vp_updL f 0 r.toInt64), rfl, h, by rw [ht]; exact hP, by rw [ht]; exact hO, va_K.moved hW.alike hK⟩, hS.F ht⟩) hS.2.2 d_Law_outline_19 hlocks)
 · have hO := hx_keep hO ho hkp
   rcases h with ⟨rfl, h⟩ | ⟨rfl, h⟩
   · refine W.eq (g2 := F0 m 12 ls [.ref x]) rfl ?_
     refine lv_astore_n (lv' := [(3, .ref x), (0, .ref (a 0)), (1, .int x1), (2, .ref o)]) hx hb d_Law_outline_12 rfl hl (by decide) rfl (fun ls hl => ?_)
     refine lv_iconst (v := 1) hx hb d_Law_outline_13 (by decide) ?_
     exact px_mono (fun t h => px_ofMQ (fun _ _ h => h) h) (W.iret (Qc := hx_Q Z D a cA cZ cL G o (hx_F a o s.heap.size)) (v := 1) hx hb hr (fun t ht hW => ⟨⟨1, u, f, rfl, h, by rw [ht]; exact hP, by rw [ht]; exact hO, va_K.moved hW.alike hK⟩, hS.F ht⟩) hS.2.2 d_Law_outline_14 hlocks)
   · refine W.eq (g2 := F0 m 15 ls [.ref x]) rfl ?_
     refine lv_astore_n (lv' := [(3, .ref x), (0, .ref (a 0)), (1, .int x1), (2, .ref o)]) hx hb d_Law_outline_15 rfl hl (by decide) rfl (fun ls hl => ?_)
     refine lv_iconst (v := 2) hx hb d_Law_outline_16 (by decide) ?_
     exact px_mono (fun t h => px_ofMQ (fun _ _ h => h) h) (W.iret (Qc := hx_Q Z D a cA cZ cL G o (hx_F a o s.heap.size)) (v := 2) hx hb hr (fun t ht hW => ⟨⟨2, u, f, rfl, h, by rw [ht]; exact hP, by rw [ht]; exact hO, va_K.moved hW.alike hK⟩, hS.F ht⟩) hS.2.2 d_Law_outline_17 hlocks)
set_option maxHeartbeats 4000000 in
set_option maxRecDepth 100000 in
theorem hp_corner (l : Launch) (D : va_G) (a : Nat → Nat) (cA cZ cL : ClassId) (G : pG) (o sz : Nat) (x1 x2 x3 : Int32) (u : pS) (f : Nat → Int64) (Z : Int32 → pS → (Nat → Int64) → Prop) (hL : px_L l) (hI : pw_I 40 a) (ho : ∀ k, k < 40 → o ≠ a k)
    (h : wp_PI_corner G x1 x2 x3 u (fun r u' => Z 0 u' (vp_updL f 0 r.toInt64)) (fun k u' => (k = 0 ∧ Z 1 u' f) ∨ (k = 1 ∧ Z 2 u' f))) : px_Met l y_Law_corner w_Law_corner ({ frames := 9, cells := 1, slots := 6, locals := 147 } : Room) (va_Pc [.ref (a 0), .int x1, .int x2, .int x3, .ref o] (hx_pre D a cA cZ cL G o sz u f)) (hx_Q Z D a cA cZ cL G o (hx_F a o sz)) 1 6 1 6 (hx_F a o sz) := by
 refine px_ofWW (cc := b_Law_corner) (maxL := 6) (ret := (some .int)) (hs := [(0, 12, 15, 29), (0, 12, 19, 13)]) (by decide) rfl ?_
 intro p e s m args below meth c s₁ B hml hT hv
 obtain ⟨rfl, ⟨hsz, hP, hO, hK⟩, EX, hN⟩ := hv
 subst hsz
 have hx := B.exec
 have hb := B.bytes
 have hr := B.returns
 have hts := atoms_spec (ws := w_Law_corner) B.pre
 have hown : s.vm.findClass R_Law = some m.cls := findClass_of_methodNamed B.named
 have hlocks := B.notSynchronized
 have hA : ∀ q : Nat, s.heap.size ≤ q → hx_F a o s.heap.size q := fun q h => Or.inl (Or.inr h)
 have hF : ∀ k, k < 40 → hx_F a o s.heap.size (a k) := fun k hk => Or.inl (Or.inl ⟨k, hk, rfl⟩)
 have hS : va_S (hx_F a o s.heap.size) s.heap s.heap [] := va_S.rf
 have hK2 : va_K D vwCl (cT cA cZ) s := hK.sub [0, 1] rfl
 have hl := lv_entry ([.ref (a 0), .int x1, .int x2, .int x3, .ref o]) (n := 6) (Nat.le_of_ble_eq_true rfl)
 rw [lg_entry_eq]
 generalize (lg_sl ([.ref (a 0), .int x1, .int x2, .int x3, .ref o]) ++ List.replicate (6 - (lg_sl ([.ref (a 0), .int x1, .int x2, .int x3, .ref o])).length) Slot.unset).toArray = ls at hl ⊢
 have hl : lv_has ls 6 [(0, .ref (a 0)), (1, .int x1), (2, .int x2), (3, .int x3), (4, .ref o)] := hl
 refine lv_aload hx hb d_Law_corner_0 (lv_at hl 4 rfl) ?_
 refine lv_iconst (v := 0) hx hb d_Law_corner_2 (by decide) ?_
 refine lv_aload_n hx hb d_Law_corner_3 rfl (lv_at hl 0 rfl) ?_
 refine lv_iload_n hx hb d_Law_corner_4 rfl (lv_at hl 1 rfl) ?_
 refine lv_iload_n hx hb d_Law_corner_5 rfl (lv_at hl 2 rfl) ?_
 refine lv_iload_n hx hb d_Law_corner_6 rfl (lv_at hl 3 rfl) ?_
 refine hx_call (own := R_Law) (en := 12) (L := [(15, 29, 0), (19, 13, 1)]) (px_runV (As := [.int x1, .int x2, .int x3]) (rest := [.int 0, .ref o]) ⟨hx, hb, hml, hown, hts⟩ (ct_PI_corner l D a cA cZ G _ x1 x2 x3 u _ _ hL hI h) (pw_cwV 3 hts kw_706 kw_45 kw_703 kw_704 kw_705 (by decide +kernel) ⟨Nat.le_of_ble_eq_true rfl, Nat.le_of_ble_eq_true rfl⟩) ⟨cw_blindX, va_recv hK2 hP (ci := 0) (q0 := 0) rfl cw_at_0, fun U hU hW => ⟨rfl, ⟨by rw [hU], by rw [hU]; exact hP, va_K.moved hW.alike hK2⟩, cw_Ex_call EX hS (pw_FA hS hF hA) hU hW⟩⟩ rfl rfl hl.1 rfl (lv_room (Nat.le_of_ble_eq_true rfl)) d_Law_corner_7 ⟨Nat.le_of_ble_eq_true rfl, Nat.le_of_ble_eq_true rfl⟩) hS hF hA hown hN EX.1.2.1.2 (by decide) hT (List.forall_mem_cons.mpr ⟨⟨by decide, by decide, (hts _ (List.mem_cons_of_mem _ kw_603))⟩, List.forall_mem_cons.mpr ⟨⟨by decide, by decide, (hts _ (List.mem_cons_of_mem _ kw_355))⟩, fun _ h => absurd h List.not_mem_nil⟩⟩) (fun k u h => by rcases h with ⟨hk9, -⟩ | ⟨hk9, -⟩ <;> (rw [hk9]; decide)) (fun r u H1 locs hP hS hkp h => ?_) (fun k x u H1 locs hP hS hkp h => ?_)
 · have hO := hx_keep hO ho hkp
   refine lv_i2l (v := r.toInt64) hx hb d_Law_corner_10 rfl ?_
   have hPO := hP.app hO
   refine va_last hx hb hK hPO (hx_D hI ho hF (Or.inr rfl)) hS 40 2 rfl rfl (by unfold vp_in; decide) d_Law_corner_11 (fun H locs hPO _ hS => ?_)
   obtain ⟨hP, hO⟩ := hx_split (w1 := cw a cA cZ G u) (w2 := hx_o o cL (vp_updL f 0 r.toInt64)) hPO
   refine lv_goto (tgt := 23) hx hb d_Law_corner_12 (by decide) ?_
   refine lv_iconst (v := 0) hx hb d_Law_corner_23 (by decide) ?_
   refine W.widen (k := 1) (n := 6) (by omega) (by omega) ?_
   exact px_mono (fun t h => px_ofMQ (fun _ _ h => h) h) (W.iret (Qc := hx_Q Z D a cA cZ cL G o (hx_F a o s.heap.size)) (v := 0) hx hb hr (fun t ht hW => ⟨⟨0, u, (vp_updL f 0 r.toInt64), rfl, h, by rw [ht]; exact hP, by rw [ht]; exact hO, va_K.moved hW.alike hK⟩, hS.F ht⟩) hS.2.2 d_Law_corner_24 hlocks)
 · have hO := hx_keep hO ho hkp
   rcases h with ⟨rfl, h⟩ | ⟨rfl, h⟩
   · refine W.eq (g2 := F0 m 15 ls [.ref x]) rfl ?_
     refine lv_astore (lv' := [(5, .ref x), (0, .ref (a 0)), (1, .int x1), (2, .int x2), (3, .int x3), (4, .ref o)]) hx hb d_Law_corner_15 hl (by decide) rfl (fun ls hl => ?_)
     refine lv_iconst (v := 1) hx hb d_Law_corner_17 (by decide) ?_
     exact px_mono (fun t h => px_ofMQ (fun _ _ h => h) h) (W.iret (Qc := hx_Q Z D a cA cZ cL G o (hx_F a o s.heap.size)) (v := 1) hx hb hr (fun t ht hW => ⟨⟨1, u, f, rfl, h, by rw [ht]; exact hP, by rw [ht]; exact hO, va_K.moved hW.alike hK⟩, hS.F ht⟩) hS.2.2 d_Law_corner_18 hlocks)
   · refine W.eq (g2 := F0 m 19 ls [.ref x]) rfl ?_
     refine lv_astore (lv' := [(5, .ref x), (0, .ref (a 0)), (1, .int x1), (2, .int x2), (3, .int x3), (4, .ref o)]) hx hb d_Law_corner_19 hl (by decide) rfl (fun ls hl => ?_)
     refine lv_iconst (v := 2) hx hb d_Law_corner_21 (by decide) ?_
     exact px_mono (fun t h => px_ofMQ (fun _ _ h => h) h) (W.iret (Qc := hx_Q Z D a cA cZ cL G o (hx_F a o s.heap.size)) (v := 2) hx hb hr (fun t ht hW => ⟨⟨2, u, f, rfl, h, by rw [ht]; exact hP, by rw [ht]; exact hO, va_K.moved hW.alike hK⟩, hS.F ht⟩) hS.2.2 d_Law_corner_22 hlocks)
set_option maxHeartbeats 4000000 in
set_option maxRecDepth 100000 in
theorem hp_left (l : Launch) (D : va_G) (a : Nat → Nat) (cA cZ cL : ClassId) (G : pG) (o sz : Nat) (x1 x2 : Int32) (u : pS) (f : Nat → Int64) (Z : Int32 → pS → (Nat → Int64) → Prop) (hL : px_L l) (hI : pw_I 40 a) (ho : ∀ k, k < 40 → o ≠ a k)
    (h : wp_PI_left G x1 x2 u (fun r u' => Z 0 u' (vp_updL f 0 r.toInt64)) (fun k u' => (k = 0 ∧ Z 1 u' f) ∨ (k = 1 ∧ Z 2 u' f) ∨ (k = 2 ∧ Z 3 u' f))) : px_Met l y_Law_left w_Law_left ({ frames := 9, cells := 1, slots := 6, locals := 146 } : Room) (va_Pc [.ref (a 0), .int x1, .int x2, .ref o] (hx_pre D a cA cZ cL G o sz u f)) (hx_Q Z D a cA cZ cL G o (hx_F a o sz)) 1 6 1 6 (hx_F a o sz) := by
 refine px_ofWW (cc := b_Law_left) (maxL := 5) (ret := (some .int)) (hs := [(0, 10, 13, 29), (0, 10, 17, 13), (0, 10, 21, 15)]) (by decide) rfl ?_
 intro p e s m args below meth c s₁ B hml hT hv
 obtain ⟨rfl, ⟨hsz, hP, hO, hK⟩, EX, hN⟩ := hv
 subst hsz
 have hx := B.exec
 have hb := B.bytes
 have hr := B.returns
 have hts := atoms_spec (ws := w_Law_left) B.pre
 have hown : s.vm.findClass R_Law = some m.cls := findClass_of_methodNamed B.named
 have hlocks := B.notSynchronized
 have hA : ∀ q : Nat, s.heap.size ≤ q → hx_F a o s.heap.size q := fun q h => Or.inl (Or.inr h)
 have hF : ∀ k, k < 40 → hx_F a o s.heap.size (a k) := fun k hk => Or.inl (Or.inl ⟨k, hk, rfl⟩)
 have hS : va_S (hx_F a o s.heap.size) s.heap s.heap [] := va_S.rf
 have hK2 : va_K D vwCl (cT cA cZ) s := hK.sub [0, 1] rfl
 have hl := lv_entry ([.ref (a 0), .int x1, .int x2, .ref o]) (n := 5) (Nat.le_of_ble_eq_true rfl)
 rw [lg_entry_eq]
 generalize (lg_sl ([.ref (a 0), .int x1, .int x2, .ref o]) ++ List.replicate (5 - (lg_sl ([.ref (a 0), .int x1, .int x2, .ref o])).length) Slot.unset).toArray = ls at hl ⊢
 have hl : lv_has ls 5 [(0, .ref (a 0)), (1, .int x1), (2, .int x2), (3, .ref o)] := hl
 refine lv_aload_n hx hb d_Law_left_0 rfl (lv_at hl 3 rfl) ?_
 refine lv_iconst (v := 0) hx hb d_Law_left_1 (by decide) ?_
 refine lv_aload_n hx hb d_Law_left_2 rfl (lv_at hl 0 rfl) ?_
 refine lv_iload_n hx hb d_Law_left_3 rfl (lv_at hl 1 rfl) ?_
 refine lv_iload_n hx hb d_Law_left_4 rfl (lv_at hl 2 rfl) ?_
 refine hx_call (own := R_Law) (en := 10) (L := [(13, 29, 0), (17, 13, 1), (21, 15, 2)]) (px_runV (As := [.int x1, .int x2]) (rest := [.int 0, .ref o]) ⟨hx, hb, hml, hown, hts⟩ (ct_PI_left l D a cA cZ G _ x1 x2 u _ _ hL hI h) (pw_cwV 2 hts kw_721 kw_45 kw_718 kw_719 kw_720 (by decide +kernel) ⟨Nat.le_of_ble_eq_true rfl, Nat.le_of_ble_eq_true rfl⟩) ⟨cw_blindX, va_recv hK2 hP (ci := 0) (q0 := 0) rfl cw_at_0, fun U hU hW => ⟨rfl, ⟨by rw [hU], by rw [hU]; exact hP, va_K.moved hW.alike hK2⟩, cw_Ex_call EX hS (pw_FA hS hF hA) hU hW⟩⟩ rfl rfl hl.1 rfl (lv_room (Nat.le_of_ble_eq_true rfl)) d_Law_left_5 ⟨Nat.le_of_ble_eq_true rfl, Nat.le_of_ble_eq_true rfl⟩) hS hF hA hown hN EX.1.2.1.2 (by decide) hT (List.forall_mem_cons.mpr ⟨⟨by decide, by decide, (hts _ (List.mem_cons_of_mem _ kw_603))⟩, List.forall_mem_cons.mpr ⟨⟨by decide, by decide, (hts _ (List.mem_cons_of_mem _ kw_355))⟩, List.forall_mem_cons.mpr ⟨⟨by decide, by decide, (hts _ (List.mem_cons_of_mem _ kw_356))⟩, fun _ h => absurd h List.not_mem_nil⟩⟩⟩) (fun k u h => by rcases h with ⟨hk9, -⟩ | ⟨hk9, -⟩ | ⟨hk9, -⟩ <;> (rw [hk9]; decide)) (fun r u H1 locs hP hS hkp h => ?_) (fun k x u H1 locs hP hS hkp h => ?_)
 · have hO := hx_keep hO ho hkp
   refine lv_i2l (v := r.toInt64) hx hb d_Law_left_8 rfl ?_
   have hPO := hP.app hO
   refine va_last hx hb hK hPO (hx_D hI ho hF (Or.inr rfl)) hS 40 2 rfl rfl (by unfold vp_in; decide) d_Law_left_9 (fun H locs hPO _ hS => ?_)
   obtain ⟨hP, hO⟩ := hx_split (w1 := cw a cA cZ G u) (w2 := hx_o o cL (vp_updL f 0 r.toInt64)) hPO
   refine lv_goto (tgt := 25) hx hb d_Law_left_10 (by decide) ?_
   refine lv_iconst (v := 0) hx hb d_Law_left_25 (by decide) ?_
   refine W.widen (k := 1) (n := 6) (by omega) (by omega) ?_
   exact px_mono (fun t h => px_ofMQ (fun _ _ h => h) h) (W.iret (Qc := hx_Q Z D a cA cZ cL G o (hx_F a o s.heap.size)) (v := 0) hx hb hr (fun t ht hW => ⟨⟨0, u, (vp_updL f 0 r.toInt64), rfl, h, by rw [ht]; exact hP, by rw [ht]; exact hO, va_K.moved hW.alike hK⟩, hS.F ht⟩) hS.2.2 d_Law_left_26 hlocks)
 · have hO := hx_keep hO ho hkp
   rcases h with ⟨rfl, h⟩ | ⟨rfl, h⟩ | ⟨rfl, h⟩
   · refine W.eq (g2 := F0 m 13 ls [.ref x]) rfl ?_
     refine lv_astore (lv' := [(4, .ref x), (0, .ref (a 0)), (1, .int x1), (2, .int x2), (3, .ref o)]) hx hb d_Law_left_13 hl (by decide) rfl (fun ls hl => ?_)
     refine lv_iconst (v := 1) hx hb d_Law_left_15 (by decide) ?_
     exact px_mono (fun t h => px_ofMQ (fun _ _ h => h) h) (W.iret (Qc := hx_Q Z D a cA cZ cL G o (hx_F a o s.heap.size)) (v := 1) hx hb hr (fun t ht hW => ⟨⟨1, u, f, rfl, h, by rw [ht]; exact hP, by rw [ht]; exact hO, va_K.moved hW.alike hK⟩, hS.F ht⟩) hS.2.2 d_Law_left_16 hlocks)
   · refine W.eq (g2 := F0 m 17 ls [.ref x]) rfl ?_
     refine lv_astore (lv' := [(4, .ref x), (0, .ref (a 0)), (1, .int x1), (2, .int x2), (3, .ref o)]) hx hb d_Law_left_17 hl (by decide) rfl (fun ls hl => ?_)
     refine lv_iconst (v := 2) hx hb d_Law_left_19 (by decide) ?_
     exact px_mono (fun t h => px_ofMQ (fun _ _ h => h) h) (W.iret (Qc := hx_Q Z D a cA cZ cL G o (hx_F a o s.heap.size)) (v := 2) hx hb hr (fun t ht hW => ⟨⟨2, u, f, rfl, h, by rw [ht]; exact hP, by rw [ht]; exact hO, va_K.moved hW.alike hK⟩, hS.F ht⟩) hS.2.2 d_Law_left_20 hlocks)
   · refine W.eq (g2 := F0 m 21 ls [.ref x]) rfl ?_
     refine lv_astore (lv' := [(4, .ref x), (0, .ref (a 0)), (1, .int x1), (2, .int x2), (3, .ref o)]) hx hb d_Law_left_21 hl (by decide) rfl (fun ls hl => ?_)
     refine lv_iconst (v := 3) hx hb d_Law_left_23 (by decide) ?_
     exact px_mono (fun t h => px_ofMQ (fun _ _ h => h) h) (W.iret (Qc := hx_Q Z D a cA cZ cL G o (hx_F a o s.heap.size)) (v := 3) hx hb hr (fun t ht hW => ⟨⟨3, u, f, rfl, h, by rw [ht]; exact hP, by rw [ht]; exact hO, va_K.moved hW.alike hK⟩, hS.F ht⟩) hS.2.2 d_Law_left_24 hlocks)
set_option maxHeartbeats 4000000 in
set_option maxRecDepth 100000 in
theorem hp_reached (l : Launch) (D : va_G) (a : Nat → Nat) (cA cZ cL : ClassId) (G : pG) (o sz : Nat) (x1 x2 x3 : Int32) (u : pS) (f : Nat → Int64) (Z : Int32 → pS → (Nat → Int64) → Prop) (hL : px_L l) (hI : pw_I 40 a) (ho : ∀ k, k < 40 → o ≠ a k)
    (h : wp_PI_reached G x1 x2 x3 u (fun r u' => (r = 0 → Z 0 u' (vp_updL f 0 0)) ∧ (¬ r = 0 → Z 0 u' (vp_updL f 0 1))) (fun k u' => (k = 0 ∧ Z 1 u' f) ∨ (k = 1 ∧ Z 2 u' f) ∨ (k = 2 ∧ Z 3 u' f))) : px_Met l y_Law_reached w_Law_reached ({ frames := 9, cells := 1, slots := 6, locals := 148 } : Room) (va_Pc [.ref (a 0), .int x1, .int x2, .int x3, .ref o] (hx_pre D a cA cZ cL G o sz u f)) (hx_Q Z D a cA cZ cL G o (hx_F a o sz)) 1 6 1 6 (hx_F a o sz) := by
 refine px_ofWW (cc := b_Law_reached) (maxL := 6) (ret := (some .int)) (hs := [(0, 19, 22, 29), (0, 19, 26, 13), (0, 19, 30, 15)]) (by decide) rfl ?_
 intro p e s m args below meth c s₁ B hml hT hv
 obtain ⟨rfl, ⟨hsz, hP, hO, hK⟩, EX, hN⟩ := hv
 subst hsz
 have hx := B.exec
 have hb := B.bytes
 have hr := B.returns
 have hts := atoms_spec (ws := w_Law_reached) B.pre
 have hown : s.vm.findClass R_Law = some m.cls := findClass_of_methodNamed B.named
 have hlocks := B.notSynchronized
 have hA : ∀ q : Nat, s.heap.size ≤ q → hx_F a o s.heap.size q := fun q h => Or.inl (Or.inr h)
 have hF : ∀ k, k < 40 → hx_F a o s.heap.size (a k) := fun k hk => Or.inl (Or.inl ⟨k, hk, rfl⟩)
 have hS : va_S (hx_F a o s.heap.size) s.heap s.heap [] := va_S.rf
 have hK2 : va_K D vwCl (cT cA cZ) s := hK.sub [0, 1] rfl
 have hl := lv_entry ([.ref (a 0), .int x1, .int x2, .int x3, .ref o]) (n := 6) (Nat.le_of_ble_eq_true rfl)
 rw [lg_entry_eq]
 generalize (lg_sl ([.ref (a 0), .int x1, .int x2, .int x3, .ref o]) ++ List.replicate (6 - (lg_sl ([.ref (a 0), .int x1, .int x2, .int x3, .ref o])).length) Slot.unset).toArray = ls at hl ⊢
 have hl : lv_has ls 6 [(0, .ref (a 0)), (1, .int x1), (2, .int x2), (3, .int x3), (4, .ref o)] := hl
 refine lv_aload hx hb d_Law_reached_0 (lv_at hl 4 rfl) ?_
 refine lv_iconst (v := 0) hx hb d_Law_reached_2 (by decide) ?_
 refine lv_aload_n hx hb d_Law_reached_3 rfl (lv_at hl 0 rfl) ?_
 refine lv_iload_n hx hb d_Law_reached_4 rfl (lv_at hl 1 rfl) ?_
 refine lv_iload_n hx hb d_Law_reached_5 rfl (lv_at hl 2 rfl) ?_
 refine lv_iload_n hx hb d_Law_reached_6 rfl (lv_at hl 3 rfl) ?_
 refine hx_call (own := R_Law) (en := 19) (L := [(22, 29, 0), (26, 13, 1), (30, 15, 2)]) (px_runV (As := [.int x1, .int x2, .int x3]) (rest := [.int 0, .ref o]) ⟨hx, hb, hml, hown, hts⟩ (ct_PI_reached l D a cA cZ G _ x1 x2 x3 u _ _ hL hI h) (pw_cwV 3 hts kw_742 kw_45 kw_739 kw_740 kw_741 (by decide +kernel) ⟨Nat.le_of_ble_eq_true rfl, Nat.le_of_ble_eq_true rfl⟩) ⟨cw_blindX, va_recv hK2 hP (ci := 0) (q0 := 0) rfl cw_at_0, fun U hU hW => ⟨rfl, ⟨by rw [hU], by rw [hU]; exact hP, va_K.moved hW.alike hK2⟩, cw_Ex_call EX hS (pw_FA hS hF hA) hU hW⟩⟩ rfl rfl hl.1 rfl (lv_room (Nat.le_of_ble_eq_true rfl)) d_Law_reached_7 ⟨Nat.le_of_ble_eq_true rfl, Nat.le_of_ble_eq_true rfl⟩) hS hF hA hown hN EX.1.2.1.2 (by decide) hT (List.forall_mem_cons.mpr ⟨⟨by decide, by decide, (hts _ (List.mem_cons_of_mem _ kw_603))⟩, List.forall_mem_cons.mpr ⟨⟨by decide, by decide, (hts _ (List.mem_cons_of_mem _ kw_355))⟩, List.forall_mem_cons.mpr ⟨⟨by decide, by decide, (hts _ (List.mem_cons_of_mem _ kw_356))⟩, fun _ h => absurd h List.not_mem_nil⟩⟩⟩) (fun k u h => by rcases h with ⟨hk9, -⟩ | ⟨hk9, -⟩ | ⟨hk9, -⟩ <;> (rw [hk9]; decide)) (fun r u H1 locs hP hS hkp h => ?_) (fun k x u H1 locs hP hS hkp h => ?_)
 · have hO := hx_keep hO ho hkp
   refine lv_if_eq (tgt := 17) hx hb d_Law_reached_10 (by decide) (fun c1 => ?_) (fun c1 => ?_)
   · have h := h.1 c1
     refine lv_lconst (v := 0) hx hb d_Law_reached_17 (by decide) ?_
     have hPO := hP.app hO
     refine va_last hx hb hK hPO (hx_D hI ho hF (Or.inr rfl)) hS 40 2 rfl rfl (by unfold vp_in; decide) d_Law_reached_18 (fun H locs hPO _ hS => ?_)
     obtain ⟨hP, hO⟩ := hx_split (w1 := cw a cA cZ G u) (w2 := hx_o o cL (vp_updL f 0 0)) hPO
     refine lv_goto (tgt := 34) hx hb d_Law_reached_19 (by decide) ?_
     refine lv_iconst (v := 0) hx hb d_Law_reached_34 (by decide) ?_
     refine W.widen (k := 1) (n := 6) (by omega) (by omega) ?_
     exact px_mono (fun t h => px_ofMQ (fun _ _ h => h) h) (W.iret (Qc := hx_Q Z D a cA cZ cL G o (hx_F a o s.heap.size)) (v := 0) hx hb hr (fun t ht hW => ⟨⟨0, u, (vp_updL f 0 0), rfl, h, by rw [ht]; exact hP, by rw [ht]; exact hO, va_K.moved hW.alike hK⟩, hS.F ht⟩) hS.2.2 d_Law_reached_35 hlocks)
   · have h := h.2 c1
     refine lv_lconst (v := 1) hx hb d_Law_reached_13 (by decide) ?_
     refine lv_goto (tgt := 18) hx hb d_Law_reached_14 (by decide) ?_
     have hPO := hP.app hO
     refine va_last hx hb hK hPO (hx_D hI ho hF (Or.inr rfl)) hS 40 2 rfl rfl (by unfold vp_in; decide) d_Law_reached_18 (fun H locs hPO _ hS => ?_)
     obtain ⟨hP, hO⟩ := hx_split (w1 := cw a cA cZ G u) (w2 := hx_o o cL (vp_updL f 0 1)) hPO
     refine lv_goto (tgt := 34) hx hb d_Law_reached_19 (by decide) ?_
     refine lv_iconst (v := 0) hx hb d_Law_reached_34 (by decide) ?_
     refine W.widen (k := 1) (n := 6) (by omega) (by omega) ?_
     exact px_mono (fun t h => px_ofMQ (fun _ _ h => h) h) (W.iret (Qc := hx_Q Z D a cA cZ cL G o (hx_F a o s.heap.size)) (v := 0) hx hb hr (fun t ht hW => ⟨⟨0, u, (vp_updL f 0 1), rfl, h, by rw [ht]; exact hP, by rw [ht]; exact hO, va_K.moved hW.alike hK⟩, hS.F ht⟩) hS.2.2 d_Law_reached_35 hlocks)
 · have hO := hx_keep hO ho hkp
   rcases h with ⟨rfl, h⟩ | ⟨rfl, h⟩ | ⟨rfl, h⟩
   · refine W.eq (g2 := F0 m 22 ls [.ref x]) rfl ?_
     refine lv_astore (lv' := [(5, .ref x), (0, .ref (a 0)), (1, .int x1), (2, .int x2), (3, .int x3), (4, .ref o)]) hx hb d_Law_reached_22 hl (by decide) rfl (fun ls hl => ?_)
     refine lv_iconst (v := 1) hx hb d_Law_reached_24 (by decide) ?_
     exact px_mono (fun t h => px_ofMQ (fun _ _ h => h) h) (W.iret (Qc := hx_Q Z D a cA cZ cL G o (hx_F a o s.heap.size)) (v := 1) hx hb hr (fun t ht hW => ⟨⟨1, u, f, rfl, h, by rw [ht]; exact hP, by rw [ht]; exact hO, va_K.moved hW.alike hK⟩, hS.F ht⟩) hS.2.2 d_Law_reached_25 hlocks)
   · refine W.eq (g2 := F0 m 26 ls [.ref x]) rfl ?_
     refine lv_astore (lv' := [(5, .ref x), (0, .ref (a 0)), (1, .int x1), (2, .int x2), (3, .int x3), (4, .ref o)]) hx hb d_Law_reached_26 hl (by decide) rfl (fun ls hl => ?_)
     refine lv_iconst (v := 2) hx hb d_Law_reached_28 (by decide) ?_
     exact px_mono (fun t h => px_ofMQ (fun _ _ h => h) h) (W.iret (Qc := hx_Q Z D a cA cZ cL G o (hx_F a o s.heap.size)) (v := 2) hx hb hr (fun t ht hW => ⟨⟨2, u, f, rfl, h, by rw [ht]; exact hP, by rw [ht]; exact hO, va_K.moved hW.alike hK⟩, hS.F ht⟩) hS.2.2 d_Law_reached_29 hlocks)
   · refine W.eq (g2 := F0 m 30 ls [.ref x]) rfl ?_
     refine lv_astore (lv' := [(5, .ref x), (0, .ref (a 0)), (1, .int x1), (2, .int x2), (3, .int x3), (4, .ref o)]) hx hb d_Law_reached_30 hl (by decide) rfl (fun ls hl => ?_)
     refine lv_iconst (v := 3) hx hb d_Law_reached_32 (by decide) ?_
     exact px_mono (fun t h => px_ofMQ (fun _ _ h => h) h) (W.iret (Qc := hx_Q Z D a cA cZ cL G o (hx_F a o s.heap.size)) (v := 3) hx hb hr (fun t ht hW => ⟨⟨3, u, f, rfl, h, by rw [ht]; exact hP, by rw [ht]; exact hO, va_K.moved hW.alike hK⟩, hS.F ht⟩) hS.2.2 d_Law_reached_33 hlocks)
set_option maxHeartbeats 4000000 in
set_option maxRecDepth 100000 in
theorem hp_order (l : Launch) (D : va_G) (a : Nat → Nat) (cA cZ cL : ClassId) (G : pG) (o sz : Nat) (x1 : Int32) (u : pS) (f : Nat → Int64) (Z : Int32 → pS → (Nat → Int64) → Prop) (hL : px_L l) (hI : pw_I 40 a) (ho : ∀ k, k < 40 → o ≠ a k)
    (h : wp_PI_order G x1 u (fun r u' => Z 0 u' (vp_updL f 0 r.toInt64)) (fun k u' => (k = 0 ∧ Z 1 u' f) ∨ (k = 1 ∧ Z 2 u' f))) : px_Met l y_Law_order w_Law_order ({ frames := 9, cells := 1, slots := 6, locals := 145 } : Room) (va_Pc [.ref (a 0), .int x1, .ref o] (hx_pre D a cA cZ cL G o sz u f)) (hx_Q Z D a cA cZ cL G o (hx_F a o sz)) 1 6 1 6 (hx_F a o sz) := by
 refine px_ofWW (cc := b_Law_order) (maxL := 4) (ret := (some .int)) (hs := [(0, 9, 12, 29), (0, 9, 15, 13)]) (by decide) rfl ?_
 intro p e s m args below meth c s₁ B hml hT hv
 obtain ⟨rfl, ⟨hsz, hP, hO, hK⟩, EX, hN⟩ := hv
 subst hsz
 have hx := B.exec
 have hb := B.bytes
 have hr := B.returns
 have hts := atoms_spec (ws := w_Law_order) B.pre
 have hown : s.vm.findClass R_Law = some m.cls := findClass_of_methodNamed B.named
 have hlocks := B.notSynchronized
 have hA : ∀ q : Nat, s.heap.size ≤ q → hx_F a o s.heap.size q := fun q h => Or.inl (Or.inr h)
 have hF : ∀ k, k < 40 → hx_F a o s.heap.size (a k) := fun k hk => Or.inl (Or.inl ⟨k, hk, rfl⟩)
 have hS : va_S (hx_F a o s.heap.size) s.heap s.heap [] := va_S.rf
 have hK2 : va_K D vwCl (cT cA cZ) s := hK.sub [0, 1] rfl
 have hl := lv_entry ([.ref (a 0), .int x1, .ref o]) (n := 4) (Nat.le_of_ble_eq_true rfl)
 rw [lg_entry_eq]
 generalize (lg_sl ([.ref (a 0), .int x1, .ref o]) ++ List.replicate (4 - (lg_sl ([.ref (a 0), .int x1, .ref o])).length) Slot.unset).toArray = ls at hl ⊢
 have hl : lv_has ls 4 [(0, .ref (a 0)), (1, .int x1), (2, .ref o)] := hl
 refine lv_aload_n hx hb d_Law_order_0 rfl (lv_at hl 2 rfl) ?_
 refine lv_iconst (v := 0) hx hb d_Law_order_1 (by decide) ?_
 refine lv_aload_n hx hb d_Law_order_2 rfl (lv_at hl 0 rfl) ?_
 refine lv_iload_n hx hb d_Law_order_3 rfl (lv_at hl 1 rfl) ?_
 refine hx_call (own := R_Law) (en := 9) (L := [(12, 29, 0), (15, 13, 1)]) (px_runV (As := [.int x1]) (rest := [.int 0, .ref o]) ⟨hx, hb, hml, hown, hts⟩ (ct_PI_order l D a cA cZ G _ x1 u _ _ hL hI h) (pw_cwV 1 hts kw_753 kw_45 kw_750 kw_751 kw_752 (by decide +kernel) ⟨Nat.le_of_ble_eq_true rfl, Nat.le_of_ble_eq_true rfl⟩) ⟨cw_blindX, va_recv hK2 hP (ci := 0) (q0 := 0) rfl cw_at_0, fun U hU hW => ⟨rfl, ⟨by rw [hU], by rw [hU]; exact hP, va_K.moved hW.alike hK2⟩, cw_Ex_call EX hS (pw_FA hS hF hA) hU hW⟩⟩ rfl rfl hl.1 rfl (lv_room (Nat.le_of_ble_eq_true rfl)) d_Law_order_4 ⟨Nat.le_of_ble_eq_true rfl, Nat.le_of_ble_eq_true rfl⟩) hS hF hA hown hN EX.1.2.1.2 (by decide) hT (List.forall_mem_cons.mpr ⟨⟨by decide, by decide, (hts _ (List.mem_cons_of_mem _ kw_603))⟩, List.forall_mem_cons.mpr ⟨⟨by decide, by decide, (hts _ (List.mem_cons_of_mem _ kw_355))⟩, fun _ h => absurd h List.not_mem_nil⟩⟩) (fun k u h => by rcases h with ⟨hk9, -⟩ | ⟨hk9, -⟩ <;> (rw [hk9]; decide)) (fun r u H1 locs hP hS hkp h => ?_) (fun k x u H1 locs hP hS hkp h => ?_)
 · have hO := hx_keep hO ho hkp
   refine lv_i2l (v := r.toInt64) hx hb d_Law_order_7 rfl ?_
   have hPO := hP.app hO
   refine va_last hx hb hK hPO (hx_D hI ho hF (Or.inr rfl)) hS 40 2 rfl rfl (by unfold vp_in; decide) d_Law_order_8 (fun H locs hPO _ hS => ?_)
   obtain ⟨hP, hO⟩ := hx_split (w1 := cw a cA cZ G u) (w2 := hx_o o cL (vp_updL f 0 r.toInt64)) hPO
   refine lv_goto (tgt := 18) hx hb d_Law_order_9 (by decide) ?_
   refine lv_iconst (v := 0) hx hb d_Law_order_18 (by decide) ?_
   refine W.widen (k := 1) (n := 6) (by omega) (by omega) ?_
   exact px_mono (fun t h => px_ofMQ (fun _ _ h => h) h) (W.iret (Qc := hx_Q Z D a cA cZ cL G o (hx_F a o s.heap.size)) (v := 0) hx hb hr (fun t ht hW => ⟨⟨0, u, (vp_updL f 0 r.toInt64), rfl, h, by rw [ht]; exact hP, by rw [ht]; exact hO, va_K.moved hW.alike hK⟩, hS.F ht⟩) hS.2.2 d_Law_order_19 hlocks)
 · have hO := hx_keep hO ho hkp
   rcases h with ⟨rfl, h⟩ | ⟨rfl, h⟩
   · refine W.eq (g2 := F0 m 12 ls [.ref x]) rfl ?_
     refine lv_astore_n (lv' := [(3, .ref x), (0, .ref (a 0)), (1, .int x1), (2, .ref o)]) hx hb d_Law_order_12 rfl hl (by decide) rfl (fun ls hl => ?_)
     refine lv_iconst (v := 1) hx hb d_Law_order_13 (by decide) ?_
     exact px_mono (fun t h => px_ofMQ (fun _ _ h => h) h) (W.iret (Qc := hx_Q Z D a cA cZ cL G o (hx_F a o s.heap.size)) (v := 1) hx hb hr (fun t ht hW => ⟨⟨1, u, f, rfl, h, by rw [ht]; exact hP, by rw [ht]; exact hO, va_K.moved hW.alike hK⟩, hS.F ht⟩) hS.2.2 d_Law_order_14 hlocks)
   · refine W.eq (g2 := F0 m 15 ls [.ref x]) rfl ?_
     refine lv_astore_n (lv' := [(3, .ref x), (0, .ref (a 0)), (1, .int x1), (2, .ref o)]) hx hb d_Law_order_15 rfl hl (by decide) rfl (fun ls hl => ?_)
     refine lv_iconst (v := 2) hx hb d_Law_order_16 (by decide) ?_
     exact px_mono (fun t h => px_ofMQ (fun _ _ h => h) h) (W.iret (Qc := hx_Q Z D a cA cZ cL G o (hx_F a o s.heap.size)) (v := 2) hx hb hr (fun t ht hW => ⟨⟨2, u, f, rfl, h, by rw [ht]; exact hP, by rw [ht]; exact hO, va_K.moved hW.alike hK⟩, hS.F ht⟩) hS.2.2 d_Law_order_17 hlocks)
set_option maxHeartbeats 4000000 in
set_option maxRecDepth 100000 in
theorem hp_nest (l : Launch) (D : va_G) (a : Nat → Nat) (cA cZ cL : ClassId) (G : pG) (o sz : Nat) (x1 x2 : Int32) (u : pS) (f : Nat → Int64) (Z : Int32 → pS → (Nat → Int64) → Prop) (hL : px_L l) (hI : pw_I 40 a) (ho : ∀ k, k < 40 → o ≠ a k)
    (h : wp_PI_nest G x1 x2 u (fun r u' => Z 0 u' (vp_updL f 0 r.toInt64)) (fun k u' => (k = 0 ∧ Z 1 u' f) ∨ (k = 2 ∧ Z 2 u' f))) : px_Met l y_Law_nest w_Law_nest ({ frames := 8, cells := 1, slots := 6, locals := 156 } : Room) (va_Pc [.ref (a 0), .int x1, .int x2, .ref o] (hx_pre D a cA cZ cL G o sz u f)) (hx_Q Z D a cA cZ cL G o (hx_F a o sz)) 1 6 1 6 (hx_F a o sz) := by
 refine px_ofWW (cc := b_Law_nest) (maxL := 5) (ret := (some .int)) (hs := [(0, 10, 13, 29), (0, 10, 17, 15)]) (by decide) rfl ?_
 intro p e s m args below meth c s₁ B hml hT hv
 obtain ⟨rfl, ⟨hsz, hP, hO, hK⟩, EX, hN⟩ := hv
 subst hsz
 have hx := B.exec
 have hb := B.bytes
 have hr := B.returns
 have hts := atoms_spec (ws := w_Law_nest) B.pre
 have hown : s.vm.findClass R_Law = some m.cls := findClass_of_methodNamed B.named
 have hlocks := B.notSynchronized
 have hA : ∀ q : Nat, s.heap.size ≤ q → hx_F a o s.heap.size q := fun q h => Or.inl (Or.inr h)
 have hF : ∀ k, k < 40 → hx_F a o s.heap.size (a k) := fun k hk => Or.inl (Or.inl ⟨k, hk, rfl⟩)
 have hS : va_S (hx_F a o s.heap.size) s.heap s.heap [] := va_S.rf
 have hK2 : va_K D vwCl (cT cA cZ) s := hK.sub [0, 1] rfl
 have hl := lv_entry ([.ref (a 0), .int x1, .int x2, .ref o]) (n := 5) (Nat.le_of_ble_eq_true rfl)
 rw [lg_entry_eq]
 generalize (lg_sl ([.ref (a 0), .int x1, .int x2, .ref o]) ++ List.replicate (5 - (lg_sl ([.ref (a 0), .int x1, .int x2, .ref o])).length) Slot.unset).toArray = ls at hl ⊢
 have hl : lv_has ls 5 [(0, .ref (a 0)), (1, .int x1), (2, .int x2), (3, .ref o)] := hl
 refine lv_aload_n hx hb d_Law_nest_0 rfl (lv_at hl 3 rfl) ?_
 refine lv_iconst (v := 0) hx hb d_Law_nest_1 (by decide) ?_
 refine lv_aload_n hx hb d_Law_nest_2 rfl (lv_at hl 0 rfl) ?_
 refine lv_iload_n hx hb d_Law_nest_3 rfl (lv_at hl 1 rfl) ?_
 refine lv_iload_n hx hb d_Law_nest_4 rfl (lv_at hl 2 rfl) ?_
 refine hx_call (own := R_Law) (en := 10) (L := [(13, 29, 0), (17, 15, 2)]) (px_runV (As := [.int x1, .int x2]) (rest := [.int 0, .ref o]) ⟨hx, hb, hml, hown, hts⟩ (ct_PI_nest l D a cA cZ G _ x1 x2 u _ _ hL hI h) (pw_cwV 2 hts kw_767 kw_45 kw_764 kw_765 kw_766 (by decide +kernel) ⟨Nat.le_of_ble_eq_true rfl, Nat.le_of_ble_eq_true rfl⟩) ⟨cw_blindX, va_recv hK2 hP (ci := 0) (q0 := 0) rfl cw_at_0, fun U hU hW => ⟨rfl, ⟨by rw [hU], by rw [hU]; exact hP, va_K.moved hW.alike hK2⟩, cw_Ex_call EX hS (pw_FA hS hF hA) hU hW⟩⟩ rfl rfl hl.1 rfl (lv_room (Nat.le_of_ble_eq_true rfl)) d_Law_nest_5 ⟨Nat.le_of_ble_eq_true rfl, Nat.le_of_ble_eq_true rfl⟩) hS hF hA hown hN EX.1.2.1.2 (by decide) hT (List.forall_mem_cons.mpr ⟨⟨by decide, by decide, (hts _ (List.mem_cons_of_mem _ kw_603))⟩, List.forall_mem_cons.mpr ⟨⟨by decide, by decide, (hts _ (List.mem_cons_of_mem _ kw_356))⟩, fun _ h => absurd h List.not_mem_nil⟩⟩) (fun k u h => by rcases h with ⟨hk9, -⟩ | ⟨hk9, -⟩ <;> (rw [hk9]; decide)) (fun r u H1 locs hP hS hkp h => ?_) (fun k x u H1 locs hP hS hkp h => ?_)
 · have hO := hx_keep hO ho hkp
   refine lv_i2l (v := r.toInt64) hx hb d_Law_nest_8 rfl ?_
   have hPO := hP.app hO
   refine va_last hx hb hK hPO (hx_D hI ho hF (Or.inr rfl)) hS 40 2 rfl rfl (by unfold vp_in; decide) d_Law_nest_9 (fun H locs hPO _ hS => ?_)
   obtain ⟨hP, hO⟩ := hx_split (w1 := cw a cA cZ G u) (w2 := hx_o o cL (vp_updL f 0 r.toInt64)) hPO
   refine lv_goto (tgt := 21) hx hb d_Law_nest_10 (by decide) ?_
   refine lv_iconst (v := 0) hx hb d_Law_nest_21 (by decide) ?_
   refine W.widen (k := 1) (n := 6) (by omega) (by omega) ?_
   exact px_mono (fun t h => px_ofMQ (fun _ _ h => h) h) (W.iret (Qc := hx_Q Z D a cA cZ cL G o (hx_F a o s.heap.size)) (v := 0) hx hb hr (fun t ht hW => ⟨⟨0, u, (vp_updL f 0 r.toInt64), rfl, h, by rw [ht]; exact hP, by rw [ht]; exact hO, va_K.moved hW.alike hK⟩, hS.F ht⟩) hS.2.2 d_Law_nest_22 hlocks)
 · have hO := hx_keep hO ho hkp
   rcases h with ⟨rfl, h⟩ | ⟨rfl, h⟩
   · refine W.eq (g2 := F0 m 13 ls [.ref x]) rfl ?_
     refine lv_astore (lv' := [(4, .ref x), (0, .ref (a 0)), (1, .int x1), (2, .int x2), (3, .ref o)]) hx hb d_Law_nest_13 hl (by decide) rfl (fun ls hl => ?_)
     refine lv_iconst (v := 1) hx hb d_Law_nest_15 (by decide) ?_
     exact px_mono (fun t h => px_ofMQ (fun _ _ h => h) h) (W.iret (Qc := hx_Q Z D a cA cZ cL G o (hx_F a o s.heap.size)) (v := 1) hx hb hr (fun t ht hW => ⟨⟨1, u, f, rfl, h, by rw [ht]; exact hP, by rw [ht]; exact hO, va_K.moved hW.alike hK⟩, hS.F ht⟩) hS.2.2 d_Law_nest_16 hlocks)
   · refine W.eq (g2 := F0 m 17 ls [.ref x]) rfl ?_
     refine lv_astore (lv' := [(4, .ref x), (0, .ref (a 0)), (1, .int x1), (2, .int x2), (3, .ref o)]) hx hb d_Law_nest_17 hl (by decide) rfl (fun ls hl => ?_)
     refine lv_iconst (v := 2) hx hb d_Law_nest_19 (by decide) ?_
     exact px_mono (fun t h => px_ofMQ (fun _ _ h => h) h) (W.iret (Qc := hx_Q Z D a cA cZ cL G o (hx_F a o s.heap.size)) (v := 2) hx hb hr (fun t ht hW => ⟨⟨2, u, f, rfl, h, by rw [ht]; exact hP, by rw [ht]; exact hO, va_K.moved hW.alike hK⟩, hS.F ht⟩) hS.2.2 d_Law_nest_20 hlocks)
set_option maxHeartbeats 4000000 in
set_option maxRecDepth 100000 in
theorem hp_at (l : Launch) (D : va_G) (a : Nat → Nat) (cA cZ cL : ClassId) (G : pG) (o sz : Nat) (x1 x2 : Int32) (u : pS) (f : Nat → Int64) (Z : Int32 → pS → (Nat → Int64) → Prop) (hL : px_L l) (hI : pw_I 40 a) (ho : ∀ k, k < 40 → o ≠ a k)
    (h : wp_PI_at G x1 x2 u (fun r u' => Z 0 u' (vp_updL f 0 r.toInt64)) (fun k u' => (k = 0 ∧ Z 1 u' f) ∨ (k = 1 ∧ Z 2 u' f))) : px_Met l y_Law_at w_Law_at ({ frames := 9, cells := 1, slots := 6, locals := 146 } : Room) (va_Pc [.ref (a 0), .int x1, .int x2, .ref o] (hx_pre D a cA cZ cL G o sz u f)) (hx_Q Z D a cA cZ cL G o (hx_F a o sz)) 1 6 1 6 (hx_F a o sz) := by
 refine px_ofWW (cc := b_Law_at) (maxL := 5) (ret := (some .int)) (hs := [(0, 10, 13, 29), (0, 10, 17, 13)]) (by decide) rfl ?_
 intro p e s m args below meth c s₁ B hml hT hv
 obtain ⟨rfl, ⟨hsz, hP, hO, hK⟩, EX, hN⟩ := hv
 subst hsz
 have hx := B.exec
 have hb := B.bytes
 have hr := B.returns
 have hts := atoms_spec (ws := w_Law_at) B.pre
 have hown : s.vm.findClass R_Law = some m.cls := findClass_of_methodNamed B.named
 have hlocks := B.notSynchronized
 have hA : ∀ q : Nat, s.heap.size ≤ q → hx_F a o s.heap.size q := fun q h => Or.inl (Or.inr h)
 have hF : ∀ k, k < 40 → hx_F a o s.heap.size (a k) := fun k hk => Or.inl (Or.inl ⟨k, hk, rfl⟩)
 have hS : va_S (hx_F a o s.heap.size) s.heap s.heap [] := va_S.rf
 have hK2 : va_K D vwCl (cT cA cZ) s := hK.sub [0, 1] rfl
 have hl := lv_entry ([.ref (a 0), .int x1, .int x2, .ref o]) (n := 5) (Nat.le_of_ble_eq_true rfl)
 rw [lg_entry_eq]
 generalize (lg_sl ([.ref (a 0), .int x1, .int x2, .ref o]) ++ List.replicate (5 - (lg_sl ([.ref (a 0), .int x1, .int x2, .ref o])).length) Slot.unset).toArray = ls at hl ⊢
 have hl : lv_has ls 5 [(0, .ref (a 0)), (1, .int x1), (2, .int x2), (3, .ref o)] := hl
 refine lv_aload_n hx hb d_Law_at_0 rfl (lv_at hl 3 rfl) ?_
 refine lv_iconst (v := 0) hx hb d_Law_at_1 (by decide) ?_
 refine lv_aload_n hx hb d_Law_at_2 rfl (lv_at hl 0 rfl) ?_
 refine lv_iload_n hx hb d_Law_at_3 rfl (lv_at hl 1 rfl) ?_
 refine lv_iload_n hx hb d_Law_at_4 rfl (lv_at hl 2 rfl) ?_
 refine hx_call (own := R_Law) (en := 10) (L := [(13, 29, 0), (17, 13, 1)]) (px_runV (As := [.int x1, .int x2]) (rest := [.int 0, .ref o]) ⟨hx, hb, hml, hown, hts⟩ (ct_PI_at l D a cA cZ G _ x1 x2 u _ _ hL hI h) (pw_cwV 2 hts kw_794 kw_45 kw_791 kw_792 kw_793 (by decide +kernel) ⟨Nat.le_of_ble_eq_true rfl, Nat.le_of_ble_eq_true rfl⟩) ⟨cw_blindX, va_recv hK2 hP (ci := 0) (q0 := 0) rfl cw_at_0, fun U hU hW => ⟨rfl, ⟨by rw [hU], by rw [hU]; exact hP, va_K.moved hW.alike hK2⟩, cw_Ex_call EX hS (pw_FA hS hF hA) hU hW⟩⟩ rfl rfl hl.1 rfl (lv_room (Nat.le_of_ble_eq_true rfl)) d_Law_at_5 ⟨Nat.le_of_ble_eq_true rfl, Nat.le_of_ble_eq_true rfl⟩) hS hF hA hown hN EX.1.2.1.2 (by decide) hT (List.forall_mem_cons.mpr ⟨⟨by decide, by decide, (hts _ (List.mem_cons_of_mem _ kw_603))⟩, List.forall_mem_cons.mpr ⟨⟨by decide, by decide, (hts _ (List.mem_cons_of_mem _ kw_355))⟩, fun _ h => absurd h List.not_mem_nil⟩⟩) (fun k u h => by rcases h with ⟨hk9, -⟩ | ⟨hk9, -⟩ <;> (rw [hk9]; decide)) (fun r u H1 locs hP hS hkp h => ?_) (fun k x u H1 locs hP hS hkp h => ?_)
 · have hO := hx_keep hO ho hkp
   refine lv_i2l (v := r.toInt64) hx hb d_Law_at_8 rfl ?_
   have hPO := hP.app hO
   refine va_last hx hb hK hPO (hx_D hI ho hF (Or.inr rfl)) hS 40 2 rfl rfl (by unfold vp_in; decide) d_Law_at_9 (fun H locs hPO _ hS => ?_)
   obtain ⟨hP, hO⟩ := hx_split (w1 := cw a cA cZ G u) (w2 := hx_o o cL (vp_updL f 0 r.toInt64)) hPO
   refine lv_goto (tgt := 21) hx hb d_Law_at_10 (by decide) ?_
   refine lv_iconst (v := 0) hx hb d_Law_at_21 (by decide) ?_
   refine W.widen (k := 1) (n := 6) (by omega) (by omega) ?_
   exact px_mono (fun t h => px_ofMQ (fun _ _ h => h) h) (W.iret (Qc := hx_Q Z D a cA cZ cL G o (hx_F a o s.heap.size)) (v := 0) hx hb hr (fun t ht hW => ⟨⟨0, u, (vp_updL f 0 r.toInt64), rfl, h, by rw [ht]; exact hP, by rw [ht]; exact hO, va_K.moved hW.alike hK⟩, hS.F ht⟩) hS.2.2 d_Law_at_22 hlocks)
 · have hO := hx_keep hO ho hkp
   rcases h with ⟨rfl, h⟩ | ⟨rfl, h⟩
   · refine W.eq (g2 := F0 m 13 ls [.ref x]) rfl ?_
     refine lv_astore (lv' := [(4, .ref x), (0, .ref (a 0)), (1, .int x1), (2, .int x2), (3, .ref o)]) hx hb d_Law_at_13 hl (by decide) rfl (fun ls hl => ?_)
     refine lv_iconst (v := 1) hx hb d_Law_at_15 (by decide) ?_
     exact px_mono (fun t h => px_ofMQ (fun _ _ h => h) h) (W.iret (Qc := hx_Q Z D a cA cZ cL G o (hx_F a o s.heap.size)) (v := 1) hx hb hr (fun t ht hW => ⟨⟨1, u, f, rfl, h, by rw [ht]; exact hP, by rw [ht]; exact hO, va_K.moved hW.alike hK⟩, hS.F ht⟩) hS.2.2 d_Law_at_16 hlocks)
   · refine W.eq (g2 := F0 m 17 ls [.ref x]) rfl ?_
     refine lv_astore (lv' := [(4, .ref x), (0, .ref (a 0)), (1, .int x1), (2, .int x2), (3, .ref o)]) hx hb d_Law_at_17 hl (by decide) rfl (fun ls hl => ?_)
     refine lv_iconst (v := 2) hx hb d_Law_at_19 (by decide) ?_
     exact px_mono (fun t h => px_ofMQ (fun _ _ h => h) h) (W.iret (Qc := hx_Q Z D a cA cZ cL G o (hx_F a o s.heap.size)) (v := 2) hx hb hr (fun t ht hW => ⟨⟨2, u, f, rfl, h, by rw [ht]; exact hP, by rw [ht]; exact hO, va_K.moved hW.alike hK⟩, hS.F ht⟩) hS.2.2 d_Law_at_20 hlocks)
set_option maxHeartbeats 4000000 in
set_option maxRecDepth 100000 in
theorem hp_border (l : Launch) (D : va_G) (a : Nat → Nat) (cA cZ cL : ClassId) (G : pG) (o sz : Nat) (x1 x2 x3 : Int32) (u : pS) (f : Nat → Int64) (Z : Int32 → pS → (Nat → Int64) → Prop) (hL : px_L l) (hI : pw_I 40 a) (ho : ∀ k, k < 40 → o ≠ a k)
    (h : wp_PI_border G x1 x2 x3 u (fun r u' => Z 0 u' (vp_updL f 0 r.toInt64)) (fun k u' => (k = 1 ∧ Z 1 u' f) ∨ (k = 2 ∧ Z 2 u' f))) : px_Met l y_Law_border w_Law_border ({ frames := 8, cells := 1, slots := 6, locals := 132 } : Room) (va_Pc [.ref (a 0), .int x1, .int x2, .int x3, .ref o] (hx_pre D a cA cZ cL G o sz u f)) (hx_Q Z D a cA cZ cL G o (hx_F a o sz)) 1 6 1 6 (hx_F a o sz) := by
 refine px_ofWW (cc := b_Law_border) (maxL := 6) (ret := (some .int)) (hs := [(0, 12, 15, 13), (0, 12, 19, 15)]) (by decide) rfl ?_
 intro p e s m args below meth c s₁ B hml hT hv
 obtain ⟨rfl, ⟨hsz, hP, hO, hK⟩, EX, hN⟩ := hv
 subst hsz
 have hx := B.exec
 have hb := B.bytes
 have hr := B.returns
 have hts := atoms_spec (ws := w_Law_border) B.pre
 have hown : s.vm.findClass R_Law = some m.cls := findClass_of_methodNamed B.named
 have hlocks := B.notSynchronized
 have hA : ∀ q : Nat, s.heap.size ≤ q → hx_F a o s.heap.size q := fun q h => Or.inl (Or.inr h)
 have hF : ∀ k, k < 40 → hx_F a o s.heap.size (a k) := fun k hk => Or.inl (Or.inl ⟨k, hk, rfl⟩)
 have hS : va_S (hx_F a o s.heap.size) s.heap s.heap [] := va_S.rf
 have hK2 : va_K D vwCl (cT cA cZ) s := hK.sub [0, 1] rfl
 have hl := lv_entry ([.ref (a 0), .int x1, .int x2, .int x3, .ref o]) (n := 6) (Nat.le_of_ble_eq_true rfl)
 rw [lg_entry_eq]
 generalize (lg_sl ([.ref (a 0), .int x1, .int x2, .int x3, .ref o]) ++ List.replicate (6 - (lg_sl ([.ref (a 0), .int x1, .int x2, .int x3, .ref o])).length) Slot.unset).toArray = ls at hl ⊢
 have hl : lv_has ls 6 [(0, .ref (a 0)), (1, .int x1), (2, .int x2), (3, .int x3), (4, .ref o)] := hl
 refine lv_aload hx hb d_Law_border_0 (lv_at hl 4 rfl) ?_
 refine lv_iconst (v := 0) hx hb d_Law_border_2 (by decide) ?_
 refine lv_aload_n hx hb d_Law_border_3 rfl (lv_at hl 0 rfl) ?_
 refine lv_iload_n hx hb d_Law_border_4 rfl (lv_at hl 1 rfl) ?_
 refine lv_iload_n hx hb d_Law_border_5 rfl (lv_at hl 2 rfl) ?_
 refine lv_iload_n hx hb d_Law_border_6 rfl (lv_at hl 3 rfl) ?_
 refine hx_call (own := R_Law) (en := 12) (L := [(15, 13, 1), (19, 15, 2)]) (px_runV (As := [.int x1, .int x2, .int x3]) (rest := [.int 0, .ref o]) ⟨hx, hb, hml, hown, hts⟩ (ct_PI_border l D a cA cZ G _ x1 x2 x3 u _ _ hL hI h) (pw_cwV 3 hts kw_814 kw_45 kw_811 kw_812 kw_813 (by decide +kernel) ⟨Nat.le_of_ble_eq_true rfl, Nat.le_of_ble_eq_true rfl⟩) ⟨cw_blindX, va_recv hK2 hP (ci := 0) (q0 := 0) rfl cw_at_0, fun U hU hW => ⟨rfl, ⟨by rw [hU], by rw [hU]; exact hP, va_K.moved hW.alike hK2⟩, cw_Ex_call EX hS (pw_FA hS hF hA) hU hW⟩⟩ rfl rfl hl.1 rfl (lv_room (Nat.le_of_ble_eq_true rfl)) d_Law_border_7 ⟨Nat.le_of_ble_eq_true rfl, Nat.le_of_ble_eq_true rfl⟩) hS hF hA hown hN EX.1.2.1.2 (by decide) hT (List.forall_mem_cons.mpr ⟨⟨by decide, by decide, (hts _ (List.mem_cons_of_mem _ kw_355))⟩, List.forall_mem_cons.mpr ⟨⟨by decide, by decide, (hts _ (List.mem_cons_of_mem _ kw_356))⟩, fun _ h => absurd h List.not_mem_nil⟩⟩) (fun k u h => by rcases h with ⟨hk9, -⟩ | ⟨hk9, -⟩ <;> (rw [hk9]; decide)) (fun r u H1 locs hP hS hkp h => ?_) (fun k x u H1 locs hP hS hkp h => ?_)
 · have hO := hx_keep hO ho hkp
   refine lv_i2l (v := r.toInt64) hx hb d_Law_border_10 rfl ?_
   have hPO := hP.app hO
   refine va_last hx hb hK hPO (hx_D hI ho hF (Or.inr rfl)) hS 40 2 rfl rfl (by unfold vp_in; decide) d_Law_border_11 (fun H locs hPO _ hS => ?_)
   obtain ⟨hP, hO⟩ := hx_split (w1 := cw a cA cZ G u) (w2 := hx_o o cL (vp_updL f 0 r.toInt64)) hPO
   refine lv_goto (tgt := 23) hx hb d_Law_border_12 (by decide) ?_
   refine lv_iconst (v := 0) hx hb d_Law_border_23 (by decide) ?_
   refine W.widen (k := 1) (n := 6) (by omega) (by omega) ?_
   exact px_mono (fun t h => px_ofMQ (fun _ _ h => h) h) (W.iret (Qc := hx_Q Z D a cA cZ cL G o (hx_F a o s.heap.size)) (v := 0) hx hb hr (fun t ht hW => ⟨⟨0, u, (vp_updL f 0 r.toInt64), rfl, h, by rw [ht]; exact hP, by rw [ht]; exact hO, va_K.moved hW.alike hK⟩, hS.F ht⟩) hS.2.2 d_Law_border_24 hlocks)
 · have hO := hx_keep hO ho hkp
   rcases h with ⟨rfl, h⟩ | ⟨rfl, h⟩
   · refine W.eq (g2 := F0 m 15 ls [.ref x]) rfl ?_
     refine lv_astore (lv' := [(5, .ref x), (0, .ref (a 0)), (1, .int x1), (2, .int x2), (3, .int x3), (4, .ref o)]) hx hb d_Law_border_15 hl (by decide) rfl (fun ls hl => ?_)
     refine lv_iconst (v := 1) hx hb d_Law_border_17 (by decide) ?_
     exact px_mono (fun t h => px_ofMQ (fun _ _ h => h) h) (W.iret (Qc := hx_Q Z D a cA cZ cL G o (hx_F a o s.heap.size)) (v := 1) hx hb hr (fun t ht hW => ⟨⟨1, u, f, rfl, h, by rw [ht]; exact hP, by rw [ht]; exact hO, va_K.moved hW.alike hK⟩, hS.F ht⟩) hS.2.2 d_Law_border_18 hlocks)
   · refine W.eq (g2 := F0 m 19 ls [.ref x]) rfl ?_
     refine lv_astore (lv' := [(5, .ref x), (0, .ref (a 0)), (1, .int x1), (2, .int x2), (3, .int x3), (4, .ref o)]) hx hb d_Law_border_19 hl (by decide) rfl (fun ls hl => ?_)
     refine lv_iconst (v := 2) hx hb d_Law_border_21 (by decide) ?_
     exact px_mono (fun t h => px_ofMQ (fun _ _ h => h) h) (W.iret (Qc := hx_Q Z D a cA cZ cL G o (hx_F a o s.heap.size)) (v := 2) hx hb hr (fun t ht hW => ⟨⟨2, u, f, rfl, h, by rw [ht]; exact hP, by rw [ht]; exact hO, va_K.moved hW.alike hK⟩, hS.F ht⟩) hS.2.2 d_Law_border_22 hlocks)
set_option maxHeartbeats 4000000 in
set_option maxRecDepth 100000 in
theorem hp_sorted (l : Launch) (D : va_G) (a : Nat → Nat) (cA cZ cL : ClassId) (G : pG) (o sz : Nat) (x1 : Int32) (u : pS) (f : Nat → Int64) (Z : Int32 → pS → (Nat → Int64) → Prop) (hL : px_L l) (hI : pw_I 40 a) (ho : ∀ k, k < 40 → o ≠ a k)
    (h : wp_PI_sorted G x1 u (fun r u' => Z 0 u' (vp_updL f 0 r.toInt64)) (fun k u' => (k = 1 ∧ Z 1 u' f))) : px_Met l y_Law_sorted w_Law_sorted ({ frames := 8, cells := 1, slots := 6, locals := 124 } : Room) (va_Pc [.ref (a 0), .int x1, .ref o] (hx_pre D a cA cZ cL G o sz u f)) (hx_Q Z D a cA cZ cL G o (hx_F a o sz)) 1 6 1 6 (hx_F a o sz) := by
 refine px_ofWW (cc := b_Law_sorted) (maxL := 4) (ret := (some .int)) (hs := [(0, 9, 12, 13)]) (by decide) rfl ?_
 intro p e s m args below meth c s₁ B hml hT hv
 obtain ⟨rfl, ⟨hsz, hP, hO, hK⟩, EX, hN⟩ := hv
 subst hsz
 have hx := B.exec
 have hb := B.bytes
 have hr := B.returns
 have hts := atoms_spec (ws := w_Law_sorted) B.pre
 have hown : s.vm.findClass R_Law = some m.cls := findClass_of_methodNamed B.named
 have hlocks := B.notSynchronized
 have hA : ∀ q : Nat, s.heap.size ≤ q → hx_F a o s.heap.size q := fun q h => Or.inl (Or.inr h)
 have hF : ∀ k, k < 40 → hx_F a o s.heap.size (a k) := fun k hk => Or.inl (Or.inl ⟨k, hk, rfl⟩)
 have hS : va_S (hx_F a o s.heap.size) s.heap s.heap [] := va_S.rf
 have hK2 : va_K D vwCl (cT cA cZ) s := hK.sub [0, 1] rfl
 have hl := lv_entry ([.ref (a 0), .int x1, .ref o]) (n := 4) (Nat.le_of_ble_eq_true rfl)
 rw [lg_entry_eq]
 generalize (lg_sl ([.ref (a 0), .int x1, .ref o]) ++ List.replicate (4 - (lg_sl ([.ref (a 0), .int x1, .ref o])).length) Slot.unset).toArray = ls at hl ⊢
 have hl : lv_has ls 4 [(0, .ref (a 0)), (1, .int x1), (2, .ref o)] := hl
 refine lv_aload_n hx hb d_Law_sorted_0 rfl (lv_at hl 2 rfl) ?_
 refine lv_iconst (v := 0) hx hb d_Law_sorted_1 (by decide) ?_
 refine lv_aload_n hx hb d_Law_sorted_2 rfl (lv_at hl 0 rfl) ?_
 refine lv_iload_n hx hb d_Law_sorted_3 rfl (lv_at hl 1 rfl) ?_
 refine hx_call (own := R_Law) (en := 9) (L := [(12, 13, 1)]) (px_runV (As := [.int x1]) (rest := [.int 0, .ref o]) ⟨hx, hb, hml, hown, hts⟩ (ct_PI_sorted l D a cA cZ G _ x1 u _ _ hL hI h) (pw_cwV 1 hts kw_825 kw_45 kw_822 kw_823 kw_824 (by decide +kernel) ⟨Nat.le_of_ble_eq_true rfl, Nat.le_of_ble_eq_true rfl⟩) ⟨cw_blindX, va_recv hK2 hP (ci := 0) (q0 := 0) rfl cw_at_0, fun U hU hW => ⟨rfl, ⟨by rw [hU], by rw [hU]; exact hP, va_K.moved hW.alike hK2⟩, cw_Ex_call EX hS (pw_FA hS hF hA) hU hW⟩⟩ rfl rfl hl.1 rfl (lv_room (Nat.le_of_ble_eq_true rfl)) d_Law_sorted_4 ⟨Nat.le_of_ble_eq_true rfl, Nat.le_of_ble_eq_true rfl⟩) hS hF hA hown hN EX.1.2.1.2 (by decide) hT (List.forall_mem_cons.mpr ⟨⟨by decide, by decide, (hts _ (List.mem_cons_of_mem _ kw_355))⟩, fun _ h => absurd h List.not_mem_nil⟩) (fun k u h => by obtain ⟨hk9, -⟩ := h; rw [hk9]; decide) (fun r u H1 locs hP hS hkp h => ?_) (fun k x u H1 locs hP hS hkp h => ?_)
 · have hO := hx_keep hO ho hkp
   refine lv_i2l (v := r.toInt64) hx hb d_Law_sorted_7 rfl ?_
   have hPO := hP.app hO
   refine va_last hx hb hK hPO (hx_D hI ho hF (Or.inr rfl)) hS 40 2 rfl rfl (by unfold vp_in; decide) d_Law_sorted_8 (fun H locs hPO _ hS => ?_)
   obtain ⟨hP, hO⟩ := hx_split (w1 := cw a cA cZ G u) (w2 := hx_o o cL (vp_updL f 0 r.toInt64)) hPO
   refine lv_goto (tgt := 15) hx hb d_Law_sorted_9 (by decide) ?_
   refine lv_iconst (v := 0) hx hb d_Law_sorted_15 (by decide) ?_
   refine W.widen (k := 1) (n := 6) (by omega) (by omega) ?_
   exact px_mono (fun t h => px_ofMQ (fun _ _ h => h) h) (W.iret (Qc := hx_Q Z D a cA cZ cL G o (hx_F a o s.heap.size)) (v := 0) hx hb hr (fun t ht hW => ⟨⟨0, u, (vp_updL f 0 r.toInt64), rfl, h, by rw [ht]; exact hP, by rw [ht]; exact hO, va_K.moved hW.alike hK⟩, hS.F ht⟩) hS.2.2 d_Law_sorted_16 hlocks)
 · have hO := hx_keep hO ho hkp
   obtain ⟨rfl, h⟩ := h
   refine W.eq (g2 := F0 m 12 ls [.ref x]) rfl ?_
   refine lv_astore_n (lv' := [(3, .ref x), (0, .ref (a 0)), (1, .int x1), (2, .ref o)]) hx hb d_Law_sorted_12 rfl hl (by decide) rfl (fun ls hl => ?_)
   refine lv_iconst (v := 1) hx hb d_Law_sorted_13 (by decide) ?_
   exact px_mono (fun t h => px_ofMQ (fun _ _ h => h) h) (W.iret (Qc := hx_Q Z D a cA cZ cL G o (hx_F a o s.heap.size)) (v := 1) hx hb hr (fun t ht hW => ⟨⟨1, u, f, rfl, h, by rw [ht]; exact hP, by rw [ht]; exact hO, va_K.moved hW.alike hK⟩, hS.F ht⟩) hS.2.2 d_Law_sorted_14 hlocks)
