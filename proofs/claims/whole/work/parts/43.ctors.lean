set_option maxHeartbeats 4000000 in
set_option maxRecDepth 100000 in
theorem kt_Rk_Brightest (l : Launch) (D : va_G) (cA cZ : ClassId) (h0 sz : Nat) (N : Nat) (hN : N ≤ 400) : Met l y_Ranking_init w_Ranking_init ({ frames := 1, cells := 1, slots := 400, locals := 12 } : Room) (va_Pc [.ref h0, .int (nI N)] (pc_pre D [(h0, .inr (2, [.null, .null]))] (cT cA cZ) sz)) (va_Qv (fun _ : Nat → Nat => True) (pc_B D (fun q => [(h0, .inr (2, [.ref (q 0), .null])), ((q 0), .inl (cA, N, .inl (fun _ => 0)))]) (cT cA cZ) (va_A [(h0, .inr (2, [.null, .null]))] sz)) (va_A [(h0, .inr (2, [.null, .null]))] sz)) 1 400 (va_A [(h0, .inr (2, [.null, .null]))] sz) := by
 refine Met.ofW (cc := b_Ranking_init) (maxL := 2) (ret := none) (by decide) rfl ?_
 intro p e s m args below meth c s₁ B hml hv
 obtain ⟨rfl, hsz, hP, hK, hD0⟩ := hv
 have hx := B.exec
 have hb := B.bytes
 have hr := B.returns
 have hts := atoms_spec (ws := w_Ranking_init) B.pre
 have hown : s.vm.findClass R_Ranking = some m.cls := findClass_of_methodNamed B.named
 have hlocks := B.notSynchronized
 have hin : meth.name = "<init>" := (name_of_methodNamed B.named B.method).1
 subst hsz
 have hD := hD0.self (sz := s.heap.size)
 generalize hAe : va_A [(h0, .inr (2, [.null, .null]))] s.heap.size = A at hD ⊢
 have hA : ∀ q : Nat, s.heap.size ≤ q → A q := fun q h => by rw [← hAe]; exact Or.inr h
 have hS : va_S A s.heap s.heap [] := va_S.rf
 have hl := lv_entry ([.ref h0, .int (nI N)]) (n := 2) (Nat.le_of_ble_eq_true rfl)
 rw [lg_entry_eq]
 generalize (lg_sl ([.ref h0, .int (nI N)]) ++ List.replicate (2 - (lg_sl ([.ref h0, .int (nI N)])).length) Slot.unset).toArray = ls at hl ⊢
 have hl : lv_has ls 2 [(0, .ref h0), (1, .int (nI N))] := hl
 refine lv_aload_n hx hb d_Ranking_init_0 rfl (lv_at hl 0 rfl) ?_
 refine W.objInit hx hb hown (hts _ (List.mem_cons_of_mem _ kw_195)) (hts _ (List.mem_cons_of_mem _ kw_72)) (hts _ (List.mem_cons_of_mem _ kw_73)) rfl (by rw [hml]; exact hl.1) rfl d_Ranking_init_1 (Nat.le_of_ble_eq_true rfl) (Nat.le_of_ble_eq_true rfl) ?_
 refine W.eq (g2 := F0 m 4 ls []) rfl ?_
 refine lv_aload_n hx hb d_Ranking_init_4 rfl (lv_at hl 0 rfl) ?_
 refine lv_iload_n hx hb d_Ranking_init_5 rfl (lv_at hl 1 rfl) ?_
 refine pc_newi hx hb (hts _ (List.mem_cons_of_mem _ kw_128)) hK 0 rfl hP hD hS hA N rfl (by omega) (by show 0 + 1 ≤ 1; omega) (by show 0 + N ≤ 400; omega) d_Ranking_init_6 (fun q1 H hP hD hS => ?_)
 refine W.cs (cells' := 1) (slots' := N) (by omega) (by omega) ?_
 have hP : va_P D vwCl [(h0, .inr (2, [.null, .null])), (q1, .inl (cA, N, .inl (fun _ => 0)))] H := hP
 have hD : va_D A [(h0, .inr (2, [.null, .null])), (q1, .inl (cA, N, .inl (fun _ => 0)))] := hD
 refine va_putF (D := D) (ci := 2) (v := .ref q1) (ty := .array .int) (C := R_Brightest) (T := T_Brightest) (N := 2) hx hb hts in_Brightest ty_Brightest tyok_Brightest nm_Brightest hown hK hP hD hS 0 rfl rfl 0 (by decide) (hts _ (List.mem_cons_of_mem _ kw_197)) (fun _ h9 => h9) rfl hin rfl (by decide +kernel) rfl rfl (Nat.le_of_ble_eq_true rfl) d_Ranking_init_8 (fun H locs hP hD hS => ?_)
 have hP : va_P D vwCl [(h0, .inr (2, [.ref q1, .null])), (q1, .inl (cA, N, .inl (fun _ => 0)))] H := hP
 have hD : va_D A [(h0, .inr (2, [.ref q1, .null])), (q1, .inl (cA, N, .inl (fun _ => 0)))] := hD
 refine W.widen (k := 1) (n := 400) (by omega) (by omega) ?_
 exact W.vret hx hb hr (fun t ht hW => ⟨⟨(fun k => if k = 0 then q1 else 0), rfl, trivial, by rw [ht]; exact hP, va_K.moved hW.alike hK, hD⟩, hS.F ht⟩) hS.2.2 d_Ranking_init_11 hlocks
set_option maxHeartbeats 4000000 in
set_option maxRecDepth 100000 in
theorem kt_Rk_Laying (l : Launch) (D : va_G) (cA cZ : ClassId) (h0 sz : Nat) (N : Nat) (hN : N ≤ 400) : Met l y_Ranking_init w_Ranking_init ({ frames := 1, cells := 1, slots := 400, locals := 12 } : Room) (va_Pc [.ref h0, .int (nI N)] (pc_pre D [(h0, .inr (6, [.null, .null]))] (cT cA cZ) sz)) (va_Qv (fun _ : Nat → Nat => True) (pc_B D (fun q => [(h0, .inr (6, [.ref (q 0), .null])), ((q 0), .inl (cA, N, .inl (fun _ => 0)))]) (cT cA cZ) (va_A [(h0, .inr (6, [.null, .null]))] sz)) (va_A [(h0, .inr (6, [.null, .null]))] sz)) 1 400 (va_A [(h0, .inr (6, [.null, .null]))] sz) := by
 refine Met.ofW (cc := b_Ranking_init) (maxL := 2) (ret := none) (by decide) rfl ?_
 intro p e s m args below meth c s₁ B hml hv
 obtain ⟨rfl, hsz, hP, hK, hD0⟩ := hv
 have hx := B.exec
 have hb := B.bytes
 have hr := B.returns
 have hts := atoms_spec (ws := w_Ranking_init) B.pre
 have hown : s.vm.findClass R_Ranking = some m.cls := findClass_of_methodNamed B.named
 have hlocks := B.notSynchronized
 have hin : meth.name = "<init>" := (name_of_methodNamed B.named B.method).1
 subst hsz
 have hD := hD0.self (sz := s.heap.size)
 generalize hAe : va_A [(h0, .inr (6, [.null, .null]))] s.heap.size = A at hD ⊢
 have hA : ∀ q : Nat, s.heap.size ≤ q → A q := fun q h => by rw [← hAe]; exact Or.inr h
 have hS : va_S A s.heap s.heap [] := va_S.rf
 have hl := lv_entry ([.ref h0, .int (nI N)]) (n := 2) (Nat.le_of_ble_eq_true rfl)
 rw [lg_entry_eq]
 generalize (lg_sl ([.ref h0, .int (nI N)]) ++ List.replicate (2 - (lg_sl ([.ref h0, .int (nI N)])).length) Slot.unset).toArray = ls at hl ⊢
 have hl : lv_has ls 2 [(0, .ref h0), (1, .int (nI N))] := hl
 refine lv_aload_n hx hb d_Ranking_init_0 rfl (lv_at hl 0 rfl) ?_
 refine W.objInit hx hb hown (hts _ (List.mem_cons_of_mem _ kw_195)) (hts _ (List.mem_cons_of_mem _ kw_72)) (hts _ (List.mem_cons_of_mem _ kw_73)) rfl (by rw [hml]; exact hl.1) rfl d_Ranking_init_1 (Nat.le_of_ble_eq_true rfl) (Nat.le_of_ble_eq_true rfl) ?_
 refine W.eq (g2 := F0 m 4 ls []) rfl ?_
 refine lv_aload_n hx hb d_Ranking_init_4 rfl (lv_at hl 0 rfl) ?_
 refine lv_iload_n hx hb d_Ranking_init_5 rfl (lv_at hl 1 rfl) ?_
 refine pc_newi hx hb (hts _ (List.mem_cons_of_mem _ kw_128)) hK 0 rfl hP hD hS hA N rfl (by omega) (by show 0 + 1 ≤ 1; omega) (by show 0 + N ≤ 400; omega) d_Ranking_init_6 (fun q1 H hP hD hS => ?_)
 refine W.cs (cells' := 1) (slots' := N) (by omega) (by omega) ?_
 have hP : va_P D vwCl [(h0, .inr (6, [.null, .null])), (q1, .inl (cA, N, .inl (fun _ => 0)))] H := hP
 have hD : va_D A [(h0, .inr (6, [.null, .null])), (q1, .inl (cA, N, .inl (fun _ => 0)))] := hD
 refine va_putF (D := D) (ci := 6) (v := .ref q1) (ty := .array .int) (C := R_Laying) (T := T_Laying) (N := 2) hx hb hts in_Laying ty_Laying tyok_Laying nm_Laying hown hK hP hD hS 0 rfl rfl 0 (by decide) (hts _ (List.mem_cons_of_mem _ kw_197)) (fun _ h9 => h9) rfl hin rfl (by decide +kernel) rfl rfl (Nat.le_of_ble_eq_true rfl) d_Ranking_init_8 (fun H locs hP hD hS => ?_)
 have hP : va_P D vwCl [(h0, .inr (6, [.ref q1, .null])), (q1, .inl (cA, N, .inl (fun _ => 0)))] H := hP
 have hD : va_D A [(h0, .inr (6, [.ref q1, .null])), (q1, .inl (cA, N, .inl (fun _ => 0)))] := hD
 refine W.widen (k := 1) (n := 400) (by omega) (by omega) ?_
 exact W.vret hx hb hr (fun t ht hW => ⟨⟨(fun k => if k = 0 then q1 else 0), rfl, trivial, by rw [ht]; exact hP, va_K.moved hW.alike hK, hD⟩, hS.F ht⟩) hS.2.2 d_Ranking_init_11 hlocks
set_option maxHeartbeats 4000000 in
set_option maxRecDepth 100000 in
theorem kt_Rk_Highest (l : Launch) (D : va_G) (cA cZ : ClassId) (h0 sz : Nat) (N : Nat) (hN : N ≤ 400) : Met l y_Ranking_init w_Ranking_init ({ frames := 1, cells := 1, slots := 400, locals := 12 } : Room) (va_Pc [.ref h0, .int (nI N)] (pc_pre D [(h0, .inr (5, [.null, .null]))] (cT cA cZ) sz)) (va_Qv (fun _ : Nat → Nat => True) (pc_B D (fun q => [(h0, .inr (5, [.ref (q 0), .null])), ((q 0), .inl (cA, N, .inl (fun _ => 0)))]) (cT cA cZ) (va_A [(h0, .inr (5, [.null, .null]))] sz)) (va_A [(h0, .inr (5, [.null, .null]))] sz)) 1 400 (va_A [(h0, .inr (5, [.null, .null]))] sz) := by
 refine Met.ofW (cc := b_Ranking_init) (maxL := 2) (ret := none) (by decide) rfl ?_
 intro p e s m args below meth c s₁ B hml hv
 obtain ⟨rfl, hsz, hP, hK, hD0⟩ := hv
 have hx := B.exec
 have hb := B.bytes
 have hr := B.returns
 have hts := atoms_spec (ws := w_Ranking_init) B.pre
 have hown : s.vm.findClass R_Ranking = some m.cls := findClass_of_methodNamed B.named
 have hlocks := B.notSynchronized
 have hin : meth.name = "<init>" := (name_of_methodNamed B.named B.method).1
 subst hsz
 have hD := hD0.self (sz := s.heap.size)
 generalize hAe : va_A [(h0, .inr (5, [.null, .null]))] s.heap.size = A at hD ⊢
 have hA : ∀ q : Nat, s.heap.size ≤ q → A q := fun q h => by rw [← hAe]; exact Or.inr h
 have hS : va_S A s.heap s.heap [] := va_S.rf
 have hl := lv_entry ([.ref h0, .int (nI N)]) (n := 2) (Nat.le_of_ble_eq_true rfl)
 rw [lg_entry_eq]
 generalize (lg_sl ([.ref h0, .int (nI N)]) ++ List.replicate (2 - (lg_sl ([.ref h0, .int (nI N)])).length) Slot.unset).toArray = ls at hl ⊢
 have hl : lv_has ls 2 [(0, .ref h0), (1, .int (nI N))] := hl
 refine lv_aload_n hx hb d_Ranking_init_0 rfl (lv_at hl 0 rfl) ?_
 refine W.objInit hx hb hown (hts _ (List.mem_cons_of_mem _ kw_195)) (hts _ (List.mem_cons_of_mem _ kw_72)) (hts _ (List.mem_cons_of_mem _ kw_73)) rfl (by rw [hml]; exact hl.1) rfl d_Ranking_init_1 (Nat.le_of_ble_eq_true rfl) (Nat.le_of_ble_eq_true rfl) ?_
 refine W.eq (g2 := F0 m 4 ls []) rfl ?_
 refine lv_aload_n hx hb d_Ranking_init_4 rfl (lv_at hl 0 rfl) ?_
 refine lv_iload_n hx hb d_Ranking_init_5 rfl (lv_at hl 1 rfl) ?_
 refine pc_newi hx hb (hts _ (List.mem_cons_of_mem _ kw_128)) hK 0 rfl hP hD hS hA N rfl (by omega) (by show 0 + 1 ≤ 1; omega) (by show 0 + N ≤ 400; omega) d_Ranking_init_6 (fun q1 H hP hD hS => ?_)
 refine W.cs (cells' := 1) (slots' := N) (by omega) (by omega) ?_
 have hP : va_P D vwCl [(h0, .inr (5, [.null, .null])), (q1, .inl (cA, N, .inl (fun _ => 0)))] H := hP
 have hD : va_D A [(h0, .inr (5, [.null, .null])), (q1, .inl (cA, N, .inl (fun _ => 0)))] := hD
 refine va_putF (D := D) (ci := 5) (v := .ref q1) (ty := .array .int) (C := R_Highest) (T := T_Highest) (N := 2) hx hb hts in_Highest ty_Highest tyok_Highest nm_Highest hown hK hP hD hS 0 rfl rfl 0 (by decide) (hts _ (List.mem_cons_of_mem _ kw_197)) (fun _ h9 => h9) rfl hin rfl (by decide +kernel) rfl rfl (Nat.le_of_ble_eq_true rfl) d_Ranking_init_8 (fun H locs hP hD hS => ?_)
 have hP : va_P D vwCl [(h0, .inr (5, [.ref q1, .null])), (q1, .inl (cA, N, .inl (fun _ => 0)))] H := hP
 have hD : va_D A [(h0, .inr (5, [.ref q1, .null])), (q1, .inl (cA, N, .inl (fun _ => 0)))] := hD
 refine W.widen (k := 1) (n := 400) (by omega) (by omega) ?_
 exact W.vret hx hb hr (fun t ht hW => ⟨⟨(fun k => if k = 0 then q1 else 0), rfl, trivial, by rw [ht]; exact hP, va_K.moved hW.alike hK, hD⟩, hS.F ht⟩) hS.2.2 d_Ranking_init_11 hlocks
set_option maxHeartbeats 4000000 in
set_option maxRecDepth 100000 in
theorem kt_Brightest (l : Launch) (D : va_G) (cA cZ : ClassId) (h0 sz : Nat) (w0 N : Nat) (hN : N ≤ 400) : Met l y_Brightest_init w_Brightest_init ({ frames := 2, cells := 1, slots := 400, locals := 33 } : Room) (va_Pc [.ref h0, .ref w0, .int (nI N)] (pc_pre D [(h0, .inr (2, [.null, .null]))] (cT cA cZ) sz)) (va_Qv (fun _ : Nat → Nat => True) (pc_B D (fun q => [(h0, .inr (2, [.ref (q 0), .ref w0])), ((q 0), .inl (cA, N, .inl (fun _ => 0)))]) (cT cA cZ) (va_A [(h0, .inr (2, [.null, .null]))] sz)) (va_A [(h0, .inr (2, [.null, .null]))] sz)) 1 400 (va_A [(h0, .inr (2, [.null, .null]))] sz) := by
 refine Met.ofW (cc := b_Brightest_init) (maxL := 3) (ret := none) (by decide) rfl ?_
 intro p e s m args below meth c s₁ B hml hv
 obtain ⟨rfl, hsz, hP, hK, hD0⟩ := hv
 have hx := B.exec
 have hb := B.bytes
 have hr := B.returns
 have hts := atoms_spec (ws := w_Brightest_init) B.pre
 have hown : s.vm.findClass R_Brightest = some m.cls := findClass_of_methodNamed B.named
 have hlocks := B.notSynchronized
 have hin : meth.name = "<init>" := (name_of_methodNamed B.named B.method).1
 subst hsz
 have hD := hD0.self (sz := s.heap.size)
 generalize hAe : va_A [(h0, .inr (2, [.null, .null]))] s.heap.size = A at hD ⊢
 have hA : ∀ q : Nat, s.heap.size ≤ q → A q := fun q h => by rw [← hAe]; exact Or.inr h
 have hS : va_S A s.heap s.heap [] := va_S.rf
 have hl := lv_entry ([.ref h0, .ref w0, .int (nI N)]) (n := 3) (Nat.le_of_ble_eq_true rfl)
 rw [lg_entry_eq]
 generalize (lg_sl ([.ref h0, .ref w0, .int (nI N)]) ++ List.replicate (3 - (lg_sl ([.ref h0, .ref w0, .int (nI N)])).length) Slot.unset).toArray = ls at hl ⊢
 have hl : lv_has ls 3 [(0, .ref h0), (1, .ref w0), (2, .int (nI N))] := hl
 refine lv_aload_n hx hb d_Brightest_init_0 rfl (lv_at hl 0 rfl) ?_
 refine lv_iload_n hx hb d_Brightest_init_1 rfl (lv_at hl 2 rfl) ?_
 have hPc := hP.sub (ws' := [(h0, .inr (2, [.null, .null]))]) [0] rfl
 have hDc := hD.sub (ws' := [(h0, .inr (2, [.null, .null]))]) [0] (by decide) rfl
 have hFc := va_free (wc := [(h0, .inr (2, [.null, .null]))]) hD hS hA [0] rfl
 refine va_callv (va_runI (As := [.int (nI N)]) (rest := []) ⟨hx, hb, hml, hown, hts⟩ (kt_Rk_Brightest l D cA cZ h0 _ N (by omega)) (pc_cwI 1 hts kw_194 kw_50 kw_192 kw_193 rfl (by decide +kernel) ⟨Nat.le_of_ble_eq_true rfl, Nat.le_of_ble_eq_true rfl⟩) ⟨pc_blind, fun U hU hW => ⟨rfl, by rw [hU], by rw [hU]; exact hPc, va_K.moved hW.alike hK, hDc.weaken (fun _ _ _ _ => trivial)⟩⟩ rfl rfl hl.1 rfl (lv_room (Nat.le_of_ble_eq_true rfl)) d_Brightest_init_2 ⟨by show 0 + 1 ≤ 1; omega, by show 0 + 400 ≤ 400; omega⟩) hS (fun q _ h => hFc q h) hFc (fun q1 t H1 locs ht hvm hw hB hz1 hk1 hS => ?_)
 obtain ⟨hP1, -, hD1⟩ := hB
 rw [ht] at hP1
 obtain ⟨hP, hD⟩ := va_join (wr := []) (w1 := [(h0, .inr (2, [.ref (q1 0), .null])), ((q1 0), .inl (cA, N, .inl (fun _ => 0)))]) hP hD [0] [] rfl rfl (by decide) (by decide) hk1 hFc hP1 hD1
 generalize H1 = H at hP hS ⊢
 refine W.cs (cells' := 1) (slots' := 400) (by omega) (by omega) ?_
 have hP : va_P D vwCl [(h0, .inr (2, [.ref (q1 0), .null])), ((q1 0), .inl (cA, N, .inl (fun _ => 0)))] H := hP
 have hD : va_D A [(h0, .inr (2, [.ref (q1 0), .null])), ((q1 0), .inl (cA, N, .inl (fun _ => 0)))] := hD
 refine lv_aload_n hx hb d_Brightest_init_5 rfl (lv_at hl 0 rfl) ?_
 refine lv_aload_n hx hb d_Brightest_init_6 rfl (lv_at hl 1 rfl) ?_
 refine va_putF (D := D) (ci := 2) (v := .ref w0) (ty := .object "PictureInlays$Colours") (C := R_Brightest) (T := T_Brightest) (N := 2) hx hb hts in_Brightest ty_Brightest tyok_Brightest nm_Brightest hown hK hP hD hS 0 rfl rfl 1 (by decide) (hts _ (List.mem_cons_of_mem _ kw_196)) (fun _ h9 => h9) rfl hin rfl (by decide +kernel) rfl rfl (Nat.le_of_ble_eq_true rfl) d_Brightest_init_7 (fun H locs hP hD hS => ?_)
 have hP : va_P D vwCl [(h0, .inr (2, [.ref (q1 0), .ref w0])), ((q1 0), .inl (cA, N, .inl (fun _ => 0)))] H := hP
 have hD : va_D A [(h0, .inr (2, [.ref (q1 0), .ref w0])), ((q1 0), .inl (cA, N, .inl (fun _ => 0)))] := hD
 refine W.widen (k := 1) (n := 400) (by omega) (by omega) ?_
 exact W.vret hx hb hr (fun t ht hW => ⟨⟨(fun k => if k = 0 then (q1 0) else 0), rfl, trivial, by rw [ht]; exact hP, va_K.moved hW.alike hK, hD⟩, hS.F ht⟩) hS.2.2 d_Brightest_init_10 hlocks
set_option maxHeartbeats 4000000 in
set_option maxRecDepth 100000 in
theorem kt_Laying (l : Launch) (D : va_G) (cA cZ : ClassId) (h0 sz : Nat) (w0 N : Nat) (hN : N ≤ 400) : Met l y_Laying_init w_Laying_init ({ frames := 2, cells := 1, slots := 400, locals := 33 } : Room) (va_Pc [.ref h0, .ref w0, .int (nI N)] (pc_pre D [(h0, .inr (6, [.null, .null]))] (cT cA cZ) sz)) (va_Qv (fun _ : Nat → Nat => True) (pc_B D (fun q => [(h0, .inr (6, [.ref (q 0), .ref w0])), ((q 0), .inl (cA, N, .inl (fun _ => 0)))]) (cT cA cZ) (va_A [(h0, .inr (6, [.null, .null]))] sz)) (va_A [(h0, .inr (6, [.null, .null]))] sz)) 1 400 (va_A [(h0, .inr (6, [.null, .null]))] sz) := by
 refine Met.ofW (cc := b_Laying_init) (maxL := 3) (ret := none) (by decide) rfl ?_
 intro p e s m args below meth c s₁ B hml hv
 obtain ⟨rfl, hsz, hP, hK, hD0⟩ := hv
 have hx := B.exec
 have hb := B.bytes
 have hr := B.returns
 have hts := atoms_spec (ws := w_Laying_init) B.pre
 have hown : s.vm.findClass R_Laying = some m.cls := findClass_of_methodNamed B.named
 have hlocks := B.notSynchronized
 have hin : meth.name = "<init>" := (name_of_methodNamed B.named B.method).1
 subst hsz
 have hD := hD0.self (sz := s.heap.size)
 generalize hAe : va_A [(h0, .inr (6, [.null, .null]))] s.heap.size = A at hD ⊢
 have hA : ∀ q : Nat, s.heap.size ≤ q → A q := fun q h => by rw [← hAe]; exact Or.inr h
 have hS : va_S A s.heap s.heap [] := va_S.rf
 have hl := lv_entry ([.ref h0, .ref w0, .int (nI N)]) (n := 3) (Nat.le_of_ble_eq_true rfl)
 rw [lg_entry_eq]
 generalize (lg_sl ([.ref h0, .ref w0, .int (nI N)]) ++ List.replicate (3 - (lg_sl ([.ref h0, .ref w0, .int (nI N)])).length) Slot.unset).toArray = ls at hl ⊢
 have hl : lv_has ls 3 [(0, .ref h0), (1, .ref w0), (2, .int (nI N))] := hl
 refine lv_aload_n hx hb d_Laying_init_0 rfl (lv_at hl 0 rfl) ?_
 refine lv_iload_n hx hb d_Laying_init_1 rfl (lv_at hl 2 rfl) ?_
 have hPc := hP.sub (ws' := [(h0, .inr (6, [.null, .null]))]) [0] rfl
 have hDc := hD.sub (ws' := [(h0, .inr (6, [.null, .null]))]) [0] (by decide) rfl
 have hFc := va_free (wc := [(h0, .inr (6, [.null, .null]))]) hD hS hA [0] rfl
 refine va_callv (va_runI (As := [.int (nI N)]) (rest := []) ⟨hx, hb, hml, hown, hts⟩ (kt_Rk_Laying l D cA cZ h0 _ N (by omega)) (pc_cwI 1 hts kw_194 kw_50 kw_208 kw_193 rfl (by decide +kernel) ⟨Nat.le_of_ble_eq_true rfl, Nat.le_of_ble_eq_true rfl⟩) ⟨pc_blind, fun U hU hW => ⟨rfl, by rw [hU], by rw [hU]; exact hPc, va_K.moved hW.alike hK, hDc.weaken (fun _ _ _ _ => trivial)⟩⟩ rfl rfl hl.1 rfl (lv_room (Nat.le_of_ble_eq_true rfl)) d_Laying_init_2 ⟨by show 0 + 1 ≤ 1; omega, by show 0 + 400 ≤ 400; omega⟩) hS (fun q _ h => hFc q h) hFc (fun q1 t H1 locs ht hvm hw hB hz1 hk1 hS => ?_)
 obtain ⟨hP1, -, hD1⟩ := hB
 rw [ht] at hP1
 obtain ⟨hP, hD⟩ := va_join (wr := []) (w1 := [(h0, .inr (6, [.ref (q1 0), .null])), ((q1 0), .inl (cA, N, .inl (fun _ => 0)))]) hP hD [0] [] rfl rfl (by decide) (by decide) hk1 hFc hP1 hD1
 generalize H1 = H at hP hS ⊢
 refine W.cs (cells' := 1) (slots' := 400) (by omega) (by omega) ?_
 have hP : va_P D vwCl [(h0, .inr (6, [.ref (q1 0), .null])), ((q1 0), .inl (cA, N, .inl (fun _ => 0)))] H := hP
 have hD : va_D A [(h0, .inr (6, [.ref (q1 0), .null])), ((q1 0), .inl (cA, N, .inl (fun _ => 0)))] := hD
 refine lv_aload_n hx hb d_Laying_init_5 rfl (lv_at hl 0 rfl) ?_
 refine lv_aload_n hx hb d_Laying_init_6 rfl (lv_at hl 1 rfl) ?_
 refine va_putF (D := D) (ci := 6) (v := .ref w0) (ty := .object "PictureInlays$Pieces") (C := R_Laying) (T := T_Laying) (N := 2) hx hb hts in_Laying ty_Laying tyok_Laying nm_Laying hown hK hP hD hS 0 rfl rfl 1 (by decide) (hts _ (List.mem_cons_of_mem _ kw_209)) (fun _ h9 => h9) rfl hin rfl (by decide +kernel) rfl rfl (Nat.le_of_ble_eq_true rfl) d_Laying_init_7 (fun H locs hP hD hS => ?_)
 have hP : va_P D vwCl [(h0, .inr (6, [.ref (q1 0), .ref w0])), ((q1 0), .inl (cA, N, .inl (fun _ => 0)))] H := hP
 have hD : va_D A [(h0, .inr (6, [.ref (q1 0), .ref w0])), ((q1 0), .inl (cA, N, .inl (fun _ => 0)))] := hD
 refine W.widen (k := 1) (n := 400) (by omega) (by omega) ?_
 exact W.vret hx hb hr (fun t ht hW => ⟨⟨(fun k => if k = 0 then (q1 0) else 0), rfl, trivial, by rw [ht]; exact hP, va_K.moved hW.alike hK, hD⟩, hS.F ht⟩) hS.2.2 d_Laying_init_10 hlocks
set_option maxHeartbeats 4000000 in
set_option maxRecDepth 100000 in
theorem kt_Highest (l : Launch) (D : va_G) (cA cZ : ClassId) (h0 sz : Nat) (w0 N : Nat) (hN : N ≤ 400) : Met l y_Highest_init w_Highest_init ({ frames := 2, cells := 1, slots := 400, locals := 33 } : Room) (va_Pc [.ref h0, .ref w0, .int (nI N)] (pc_pre D [(h0, .inr (5, [.null, .null]))] (cT cA cZ) sz)) (va_Qv (fun _ : Nat → Nat => True) (pc_B D (fun q => [(h0, .inr (5, [.ref (q 0), .ref w0])), ((q 0), .inl (cA, N, .inl (fun _ => 0)))]) (cT cA cZ) (va_A [(h0, .inr (5, [.null, .null]))] sz)) (va_A [(h0, .inr (5, [.null, .null]))] sz)) 1 400 (va_A [(h0, .inr (5, [.null, .null]))] sz) := by
 refine Met.ofW (cc := b_Highest_init) (maxL := 3) (ret := none) (by decide) rfl ?_
 intro p e s m args below meth c s₁ B hml hv
 obtain ⟨rfl, hsz, hP, hK, hD0⟩ := hv
 have hx := B.exec
 have hb := B.bytes
 have hr := B.returns
 have hts := atoms_spec (ws := w_Highest_init) B.pre
 have hown : s.vm.findClass R_Highest = some m.cls := findClass_of_methodNamed B.named
 have hlocks := B.notSynchronized
 have hin : meth.name = "<init>" := (name_of_methodNamed B.named B.method).1
 subst hsz
 have hD := hD0.self (sz := s.heap.size)
 generalize hAe : va_A [(h0, .inr (5, [.null, .null]))] s.heap.size = A at hD ⊢
 have hA : ∀ q : Nat, s.heap.size ≤ q → A q := fun q h => by rw [← hAe]; exact Or.inr h
 have hS : va_S A s.heap s.heap [] := va_S.rf
 have hl := lv_entry ([.ref h0, .ref w0, .int (nI N)]) (n := 3) (Nat.le_of_ble_eq_true rfl)
 rw [lg_entry_eq]
 generalize (lg_sl ([.ref h0, .ref w0, .int (nI N)]) ++ List.replicate (3 - (lg_sl ([.ref h0, .ref w0, .int (nI N)])).length) Slot.unset).toArray = ls at hl ⊢
 have hl : lv_has ls 3 [(0, .ref h0), (1, .ref w0), (2, .int (nI N))] := hl
 refine lv_aload_n hx hb d_Highest_init_0 rfl (lv_at hl 0 rfl) ?_
 refine lv_iload_n hx hb d_Highest_init_1 rfl (lv_at hl 2 rfl) ?_
 have hPc := hP.sub (ws' := [(h0, .inr (5, [.null, .null]))]) [0] rfl
 have hDc := hD.sub (ws' := [(h0, .inr (5, [.null, .null]))]) [0] (by decide) rfl
 have hFc := va_free (wc := [(h0, .inr (5, [.null, .null]))]) hD hS hA [0] rfl
 refine va_callv (va_runI (As := [.int (nI N)]) (rest := []) ⟨hx, hb, hml, hown, hts⟩ (kt_Rk_Highest l D cA cZ h0 _ N (by omega)) (pc_cwI 1 hts kw_194 kw_50 kw_278 kw_193 rfl (by decide +kernel) ⟨Nat.le_of_ble_eq_true rfl, Nat.le_of_ble_eq_true rfl⟩) ⟨pc_blind, fun U hU hW => ⟨rfl, by rw [hU], by rw [hU]; exact hPc, va_K.moved hW.alike hK, hDc.weaken (fun _ _ _ _ => trivial)⟩⟩ rfl rfl hl.1 rfl (lv_room (Nat.le_of_ble_eq_true rfl)) d_Highest_init_2 ⟨by show 0 + 1 ≤ 1; omega, by show 0 + 400 ≤ 400; omega⟩) hS (fun q _ h => hFc q h) hFc (fun q1 t H1 locs ht hvm hw hB hz1 hk1 hS => ?_)
 obtain ⟨hP1, -, hD1⟩ := hB
 rw [ht] at hP1
 obtain ⟨hP, hD⟩ := va_join (wr := []) (w1 := [(h0, .inr (5, [.ref (q1 0), .null])), ((q1 0), .inl (cA, N, .inl (fun _ => 0)))]) hP hD [0] [] rfl rfl (by decide) (by decide) hk1 hFc hP1 hD1
 generalize H1 = H at hP hS ⊢
 refine W.cs (cells' := 1) (slots' := 400) (by omega) (by omega) ?_
 have hP : va_P D vwCl [(h0, .inr (5, [.ref (q1 0), .null])), ((q1 0), .inl (cA, N, .inl (fun _ => 0)))] H := hP
 have hD : va_D A [(h0, .inr (5, [.ref (q1 0), .null])), ((q1 0), .inl (cA, N, .inl (fun _ => 0)))] := hD
 refine lv_aload_n hx hb d_Highest_init_5 rfl (lv_at hl 0 rfl) ?_
 refine lv_aload_n hx hb d_Highest_init_6 rfl (lv_at hl 1 rfl) ?_
 refine va_putF (D := D) (ci := 5) (v := .ref w0) (ty := .object "PictureInlays$Pieces") (C := R_Highest) (T := T_Highest) (N := 2) hx hb hts in_Highest ty_Highest tyok_Highest nm_Highest hown hK hP hD hS 0 rfl rfl 1 (by decide) (hts _ (List.mem_cons_of_mem _ kw_279)) (fun _ h9 => h9) rfl hin rfl (by decide +kernel) rfl rfl (Nat.le_of_ble_eq_true rfl) d_Highest_init_7 (fun H locs hP hD hS => ?_)
 have hP : va_P D vwCl [(h0, .inr (5, [.ref (q1 0), .ref w0])), ((q1 0), .inl (cA, N, .inl (fun _ => 0)))] H := hP
 have hD : va_D A [(h0, .inr (5, [.ref (q1 0), .ref w0])), ((q1 0), .inl (cA, N, .inl (fun _ => 0)))] := hD
 refine W.widen (k := 1) (n := 400) (by omega) (by omega) ?_
 exact W.vret hx hb hr (fun t ht hW => ⟨⟨(fun k => if k = 0 then (q1 0) else 0), rfl, trivial, by rw [ht]; exact hP, va_K.moved hW.alike hK, hD⟩, hS.F ht⟩) hS.2.2 d_Highest_init_10 hlocks
set_option maxHeartbeats 4000000 in
set_option maxRecDepth 100000 in
theorem kt_Colours (l : Launch) (D : va_G) (cA cZ : ClassId) (h0 sz : Nat) (N : Nat) (hN : N ≤ 400) : Met l y_Colours_init w_Colours_init ({ frames := 1, cells := 3, slots := 1200, locals := 12 } : Room) (va_Pc [.ref h0, .int (nI N)] (pc_pre D [(h0, .inr (3, [.null, .null, .null]))] (cT cA cZ) sz)) (va_Qv (fun _ : Nat → Nat => True) (pc_B D (fun q => [(h0, .inr (3, [.ref (q 0), .ref (q 1), .ref (q 2)])), ((q 0), .inl (cA, N, .inl (fun _ => 0))), ((q 1), .inl (cA, N, .inl (fun _ => 0))), ((q 2), .inl (cA, N, .inl (fun _ => 0)))]) (cT cA cZ) (va_A [(h0, .inr (3, [.null, .null, .null]))] sz)) (va_A [(h0, .inr (3, [.null, .null, .null]))] sz)) 3 1200 (va_A [(h0, .inr (3, [.null, .null, .null]))] sz) := by
 refine Met.ofW (cc := b_Colours_init) (maxL := 2) (ret := none) (by decide) rfl ?_
 intro p e s m args below meth c s₁ B hml hv
 obtain ⟨rfl, hsz, hP, hK, hD0⟩ := hv
 have hx := B.exec
 have hb := B.bytes
 have hr := B.returns
 have hts := atoms_spec (ws := w_Colours_init) B.pre
 have hown : s.vm.findClass R_Colours = some m.cls := findClass_of_methodNamed B.named
 have hlocks := B.notSynchronized
 have hin : meth.name = "<init>" := (name_of_methodNamed B.named B.method).1
 subst hsz
 have hD := hD0.self (sz := s.heap.size)
 generalize hAe : va_A [(h0, .inr (3, [.null, .null, .null]))] s.heap.size = A at hD ⊢
 have hA : ∀ q : Nat, s.heap.size ≤ q → A q := fun q h => by rw [← hAe]; exact Or.inr h
 have hS : va_S A s.heap s.heap [] := va_S.rf
 have hl := lv_entry ([.ref h0, .int (nI N)]) (n := 2) (Nat.le_of_ble_eq_true rfl)
 rw [lg_entry_eq]
 generalize (lg_sl ([.ref h0, .int (nI N)]) ++ List.replicate (2 - (lg_sl ([.ref h0, .int (nI N)])).length) Slot.unset).toArray = ls at hl ⊢
 have hl : lv_has ls 2 [(0, .ref h0), (1, .int (nI N))] := hl
 refine lv_aload_n hx hb d_Colours_init_0 rfl (lv_at hl 0 rfl) ?_
 refine W.objInit hx hb hown (hts _ (List.mem_cons_of_mem _ kw_134)) (hts _ (List.mem_cons_of_mem _ kw_72)) (hts _ (List.mem_cons_of_mem _ kw_73)) rfl (by rw [hml]; exact hl.1) rfl d_Colours_init_1 (Nat.le_of_ble_eq_true rfl) (Nat.le_of_ble_eq_true rfl) ?_
 refine W.eq (g2 := F0 m 4 ls []) rfl ?_
 refine lv_aload_n hx hb d_Colours_init_4 rfl (lv_at hl 0 rfl) ?_
 refine lv_iload_n hx hb d_Colours_init_5 rfl (lv_at hl 1 rfl) ?_
 refine pc_newi hx hb (hts _ (List.mem_cons_of_mem _ kw_128)) hK 0 rfl hP hD hS hA N rfl (by omega) (by show 0 + 1 ≤ 3; omega) (by show 0 + N ≤ 1200; omega) d_Colours_init_6 (fun q1 H hP hD hS => ?_)
 refine W.cs (cells' := 1) (slots' := N) (by omega) (by omega) ?_
 have hP : va_P D vwCl [(h0, .inr (3, [.null, .null, .null])), (q1, .inl (cA, N, .inl (fun _ => 0)))] H := hP
 have hD : va_D A [(h0, .inr (3, [.null, .null, .null])), (q1, .inl (cA, N, .inl (fun _ => 0)))] := hD
 refine va_putF (D := D) (ci := 3) (v := .ref q1) (ty := .array .int) (C := R_Colours) (T := T_Colours) (N := 3) hx hb hts in_Colours ty_Colours tyok_Colours nm_Colours hown hK hP hD hS 0 rfl rfl 0 (by decide) (hts _ (List.mem_cons_of_mem _ kw_135)) (fun _ h9 => h9) rfl hin rfl (by decide +kernel) rfl rfl (Nat.le_of_ble_eq_true rfl) d_Colours_init_8 (fun H locs hP hD hS => ?_)
 have hP : va_P D vwCl [(h0, .inr (3, [.ref q1, .null, .null])), (q1, .inl (cA, N, .inl (fun _ => 0)))] H := hP
 have hD : va_D A [(h0, .inr (3, [.ref q1, .null, .null])), (q1, .inl (cA, N, .inl (fun _ => 0)))] := hD
 refine lv_aload_n hx hb d_Colours_init_11 rfl (lv_at hl 0 rfl) ?_
 refine lv_iload_n hx hb d_Colours_init_12 rfl (lv_at hl 1 rfl) ?_
 refine pc_newi hx hb (hts _ (List.mem_cons_of_mem _ kw_128)) hK 0 rfl hP hD hS hA N rfl (by omega) (by show 1 + 1 ≤ 3; omega) (by show N + N ≤ 1200; omega) d_Colours_init_13 (fun q2 H hP hD hS => ?_)
 refine W.cs (cells' := 2) (slots' := N + N) (by omega) (by omega) ?_
 have hP : va_P D vwCl [(h0, .inr (3, [.ref q1, .null, .null])), (q1, .inl (cA, N, .inl (fun _ => 0))), (q2, .inl (cA, N, .inl (fun _ => 0)))] H := hP
 have hD : va_D A [(h0, .inr (3, [.ref q1, .null, .null])), (q1, .inl (cA, N, .inl (fun _ => 0))), (q2, .inl (cA, N, .inl (fun _ => 0)))] := hD
 refine va_putF (D := D) (ci := 3) (v := .ref q2) (ty := .array .int) (C := R_Colours) (T := T_Colours) (N := 3) hx hb hts in_Colours ty_Colours tyok_Colours nm_Colours hown hK hP hD hS 0 rfl rfl 1 (by decide) (hts _ (List.mem_cons_of_mem _ kw_136)) (fun _ h9 => h9) rfl hin rfl (by decide +kernel) rfl rfl (Nat.le_of_ble_eq_true rfl) d_Colours_init_15 (fun H locs hP hD hS => ?_)
 have hP : va_P D vwCl [(h0, .inr (3, [.ref q1, .ref q2, .null])), (q1, .inl (cA, N, .inl (fun _ => 0))), (q2, .inl (cA, N, .inl (fun _ => 0)))] H := hP
 have hD : va_D A [(h0, .inr (3, [.ref q1, .ref q2, .null])), (q1, .inl (cA, N, .inl (fun _ => 0))), (q2, .inl (cA, N, .inl (fun _ => 0)))] := hD
 refine lv_aload_n hx hb d_Colours_init_18 rfl (lv_at hl 0 rfl) ?_
 refine lv_iload_n hx hb d_Colours_init_19 rfl (lv_at hl 1 rfl) ?_
 refine pc_newi hx hb (hts _ (List.mem_cons_of_mem _ kw_128)) hK 0 rfl hP hD hS hA N rfl (by omega) (by show 2 + 1 ≤ 3; omega) (by show N + N + N ≤ 1200; omega) d_Colours_init_20 (fun q3 H hP hD hS => ?_)
 refine W.cs (cells' := 3) (slots' := N + N + N) (by omega) (by omega) ?_
 have hP : va_P D vwCl [(h0, .inr (3, [.ref q1, .ref q2, .null])), (q1, .inl (cA, N, .inl (fun _ => 0))), (q2, .inl (cA, N, .inl (fun _ => 0))), (q3, .inl (cA, N, .inl (fun _ => 0)))] H := hP
 have hD : va_D A [(h0, .inr (3, [.ref q1, .ref q2, .null])), (q1, .inl (cA, N, .inl (fun _ => 0))), (q2, .inl (cA, N, .inl (fun _ => 0))), (q3, .inl (cA, N, .inl (fun _ => 0)))] := hD
 refine va_putF (D := D) (ci := 3) (v := .ref q3) (ty := .array .int) (C := R_Colours) (T := T_Colours) (N := 3) hx hb hts in_Colours ty_Colours tyok_Colours nm_Colours hown hK hP hD hS 0 rfl rfl 2 (by decide) (hts _ (List.mem_cons_of_mem _ kw_137)) (fun _ h9 => h9) rfl hin rfl (by decide +kernel) rfl rfl (Nat.le_of_ble_eq_true rfl) d_Colours_init_22 (fun H locs hP hD hS => ?_)
 have hP : va_P D vwCl [(h0, .inr (3, [.ref q1, .ref q2, .ref q3])), (q1, .inl (cA, N, .inl (fun _ => 0))), (q2, .inl (cA, N, .inl (fun _ => 0))), (q3, .inl (cA, N, .inl (fun _ => 0)))] H := hP
 have hD : va_D A [(h0, .inr (3, [.ref q1, .ref q2, .ref q3])), (q1, .inl (cA, N, .inl (fun _ => 0))), (q2, .inl (cA, N, .inl (fun _ => 0))), (q3, .inl (cA, N, .inl (fun _ => 0)))] := hD
 refine W.widen (k := 3) (n := 1200) (by omega) (by omega) ?_
 exact W.vret hx hb hr (fun t ht hW => ⟨⟨(fun k => if k = 0 then q1 else if k = 1 then q2 else if k = 2 then q3 else 0), rfl, trivial, by rw [ht]; exact hP, va_K.moved hW.alike hK, hD⟩, hS.F ht⟩) hS.2.2 d_Colours_init_25 hlocks
set_option maxHeartbeats 4000000 in
set_option maxRecDepth 100000 in
theorem kt_Pieces (l : Launch) (D : va_G) (cA cZ : ClassId) (h0 sz : Nat) (g0 Ww Hh Pp c1 c2 c3 : Nat) (hN : Pp ≤ 400) : Met l y_Pieces_init w_Pieces_init ({ frames := 1, cells := 9, slots := 3600, locals := 12 } : Room) (va_Pc [.ref h0, .ref g0] (pc_pre D [(h0, .inr (7, [.null, .null, .null, .null, .null, .null, .null, .null, .null, .null, .int 0])), (g0, .inr (4, [.int (nI Ww), .int (nI Hh), .int (nI Pp), .ref c1, .ref c2, .ref c3]))] (cT cA cZ) sz)) (va_Qv (fun _ : Nat → Nat => True) (pc_B D (fun q => [(h0, .inr (7, [.ref g0, .ref (q 0), .ref (q 1), .ref (q 2), .ref (q 3), .ref (q 4), .ref (q 5), .ref (q 6), .ref (q 7), .ref (q 8), .int 0])), (g0, .inr (4, [.int (nI Ww), .int (nI Hh), .int (nI Pp), .ref c1, .ref c2, .ref c3])), ((q 0), .inl (cA, Pp, .inl (fun _ => 0))), ((q 1), .inl (cA, Pp, .inl (fun _ => 0))), ((q 2), .inl (cA, Pp, .inl (fun _ => 0))), ((q 3), .inl (cA, Pp, .inl (fun _ => 0))), ((q 4), .inl (cA, Pp, .inl (fun _ => 0))), ((q 5), .inl (cA, Pp, .inl (fun _ => 0))), ((q 6), .inl (cA, Pp, .inl (fun _ => 0))), ((q 7), .inl (cA, Pp, .inl (fun _ => 0))), ((q 8), .inl (cA, Pp, .inl (fun _ => 0)))]) (cT cA cZ) (va_A [(h0, .inr (7, [.null, .null, .null, .null, .null, .null, .null, .null, .null, .null, .int 0])), (g0, .inr (4, [.int (nI Ww), .int (nI Hh), .int (nI Pp), .ref c1, .ref c2, .ref c3]))] sz)) (va_A [(h0, .inr (7, [.null, .null, .null, .null, .null, .null, .null, .null, .null, .null, .int 0])), (g0, .inr (4, [.int (nI Ww), .int (nI Hh), .int (nI Pp), .ref c1, .ref c2, .ref c3]))] sz)) 9 3600 (va_A [(h0, .inr (7, [.null, .null, .null, .null, .null, .null, .null, .null, .null, .null, .int 0])), (g0, .inr (4, [.int (nI Ww), .int (nI Hh), .int (nI Pp), .ref c1, .ref c2, .ref c3]))] sz) := by
 refine Met.ofW (cc := b_Pieces_init) (maxL := 2) (ret := none) (by decide) rfl ?_
 intro p e s m args below meth c s₁ B hml hv
 obtain ⟨rfl, hsz, hP, hK, hD0⟩ := hv
 have hx := B.exec
 have hb := B.bytes
 have hr := B.returns
 have hts := atoms_spec (ws := w_Pieces_init) B.pre
 have hown : s.vm.findClass R_Pieces = some m.cls := findClass_of_methodNamed B.named
 have hlocks := B.notSynchronized
 have hin : meth.name = "<init>" := (name_of_methodNamed B.named B.method).1
 subst hsz
 have hD := hD0.self (sz := s.heap.size)
 generalize hAe : va_A [(h0, .inr (7, [.null, .null, .null, .null, .null, .null, .null, .null, .null, .null, .int 0])), (g0, .inr (4, [.int (nI Ww), .int (nI Hh), .int (nI Pp), .ref c1, .ref c2, .ref c3]))] s.heap.size = A at hD ⊢
 have hA : ∀ q : Nat, s.heap.size ≤ q → A q := fun q h => by rw [← hAe]; exact Or.inr h
 have hS : va_S A s.heap s.heap [] := va_S.rf
 have hl := lv_entry ([.ref h0, .ref g0]) (n := 2) (Nat.le_of_ble_eq_true rfl)
 rw [lg_entry_eq]
 generalize (lg_sl ([.ref h0, .ref g0]) ++ List.replicate (2 - (lg_sl ([.ref h0, .ref g0])).length) Slot.unset).toArray = ls at hl ⊢
 have hl : lv_has ls 2 [(0, .ref h0), (1, .ref g0)] := hl
 refine lv_aload_n hx hb d_Pieces_init_0 rfl (lv_at hl 0 rfl) ?_
 refine W.objInit hx hb hown (hts _ (List.mem_cons_of_mem _ kw_150)) (hts _ (List.mem_cons_of_mem _ kw_72)) (hts _ (List.mem_cons_of_mem _ kw_73)) rfl (by rw [hml]; exact hl.1) rfl d_Pieces_init_1 (Nat.le_of_ble_eq_true rfl) (Nat.le_of_ble_eq_true rfl) ?_
 refine W.eq (g2 := F0 m 4 ls []) rfl ?_
 refine lv_aload_n hx hb d_Pieces_init_4 rfl (lv_at hl 0 rfl) ?_
 refine lv_aload_n hx hb d_Pieces_init_5 rfl (lv_at hl 1 rfl) ?_
 refine va_putF (D := D) (ci := 7) (v := .ref g0) (ty := .object "PictureInlays$Grid") (C := R_Pieces) (T := T_Pieces) (N := 11) hx hb hts in_Pieces ty_Pieces tyok_Pieces nm_Pieces hown hK hP hD hS 0 rfl rfl 0 (by decide) (hts _ (List.mem_cons_of_mem _ kw_151)) (fun _ h9 => h9) rfl hin rfl (by decide +kernel) rfl rfl (Nat.le_of_ble_eq_true rfl) d_Pieces_init_6 (fun H locs hP hD hS => ?_)
 have hP : va_P D vwCl [(h0, .inr (7, [.ref g0, .null, .null, .null, .null, .null, .null, .null, .null, .null, .int 0])), (g0, .inr (4, [.int (nI Ww), .int (nI Hh), .int (nI Pp), .ref c1, .ref c2, .ref c3]))] H := hP
 have hD : va_D A [(h0, .inr (7, [.ref g0, .null, .null, .null, .null, .null, .null, .null, .null, .null, .int 0])), (g0, .inr (4, [.int (nI Ww), .int (nI Hh), .int (nI Pp), .ref c1, .ref c2, .ref c3]))] := hD
 refine lv_aload_n hx hb d_Pieces_init_9 rfl (lv_at hl 0 rfl) ?_
 refine lv_aload_n hx hb d_Pieces_init_10 rfl (lv_at hl 1 rfl) ?_
 refine va_get (D := D) (ci := 4) (v := .int (nI Pp)) (C := R_Grid) (T := T_Grid) (N := 6) hx hb hts in_Grid hown hK hP 1 rfl rfl 2 (by decide) (hts _ (List.mem_cons_of_mem _ kw_107)) (fun _ h9 => h9) rfl d_Pieces_init_11 ?_
 refine pc_newi hx hb (hts _ (List.mem_cons_of_mem _ kw_128)) hK 0 rfl hP hD hS hA Pp rfl (by omega) (by show 0 + 1 ≤ 9; omega) (by show 0 + Pp ≤ 3600; omega) d_Pieces_init_14 (fun q1 H hP hD hS => ?_)
 refine W.cs (cells' := 1) (slots' := Pp) (by omega) (by omega) ?_
 have hP : va_P D vwCl [(h0, .inr (7, [.ref g0, .null, .null, .null, .null, .null, .null, .null, .null, .null, .int 0])), (g0, .inr (4, [.int (nI Ww), .int (nI Hh), .int (nI Pp), .ref c1, .ref c2, .ref c3])), (q1, .inl (cA, Pp, .inl (fun _ => 0)))] H := hP
 have hD : va_D A [(h0, .inr (7, [.ref g0, .null, .null, .null, .null, .null, .null, .null, .null, .null, .int 0])), (g0, .inr (4, [.int (nI Ww), .int (nI Hh), .int (nI Pp), .ref c1, .ref c2, .ref c3])), (q1, .inl (cA, Pp, .inl (fun _ => 0)))] := hD
 refine va_putF (D := D) (ci := 7) (v := .ref q1) (ty := .array .int) (C := R_Pieces) (T := T_Pieces) (N := 11) hx hb hts in_Pieces ty_Pieces tyok_Pieces nm_Pieces hown hK hP hD hS 0 rfl rfl 1 (by decide) (hts _ (List.mem_cons_of_mem _ kw_152)) (fun _ h9 => h9) rfl hin rfl (by decide +kernel) rfl rfl (Nat.le_of_ble_eq_true rfl) d_Pieces_init_16 (fun H locs hP hD hS => ?_)
 have hP : va_P D vwCl [(h0, .inr (7, [.ref g0, .ref q1, .null, .null, .null, .null, .null, .null, .null, .null, .int 0])), (g0, .inr (4, [.int (nI Ww), .int (nI Hh), .int (nI Pp), .ref c1, .ref c2, .ref c3])), (q1, .inl (cA, Pp, .inl (fun _ => 0)))] H := hP
 have hD : va_D A [(h0, .inr (7, [.ref g0, .ref q1, .null, .null, .null, .null, .null, .null, .null, .null, .int 0])), (g0, .inr (4, [.int (nI Ww), .int (nI Hh), .int (nI Pp), .ref c1, .ref c2, .ref c3])), (q1, .inl (cA, Pp, .inl (fun _ => 0)))] := hD
 refine lv_aload_n hx hb d_Pieces_init_19 rfl (lv_at hl 0 rfl) ?_
 refine lv_aload_n hx hb d_Pieces_init_20 rfl (lv_at hl 1 rfl) ?_
 refine va_get (D := D) (ci := 4) (v := .int (nI Pp)) (C := R_Grid) (T := T_Grid) (N := 6) hx hb hts in_Grid hown hK hP 1 rfl rfl 2 (by decide) (hts _ (List.mem_cons_of_mem _ kw_107)) (fun _ h9 => h9) rfl d_Pieces_init_21 ?_
 refine pc_newi hx hb (hts _ (List.mem_cons_of_mem _ kw_128)) hK 0 rfl hP hD hS hA Pp rfl (by omega) (by show 1 + 1 ≤ 9; omega) (by show Pp + Pp ≤ 3600; omega) d_Pieces_init_24 (fun q2 H hP hD hS => ?_)
 refine W.cs (cells' := 2) (slots' := Pp + Pp) (by omega) (by omega) ?_
 have hP : va_P D vwCl [(h0, .inr (7, [.ref g0, .ref q1, .null, .null, .null, .null, .null, .null, .null, .null, .int 0])), (g0, .inr (4, [.int (nI Ww), .int (nI Hh), .int (nI Pp), .ref c1, .ref c2, .ref c3])), (q1, .inl (cA, Pp, .inl (fun _ => 0))), (q2, .inl (cA, Pp, .inl (fun _ => 0)))] H := hP
 have hD : va_D A [(h0, .inr (7, [.ref g0, .ref q1, .null, .null, .null, .null, .null, .null, .null, .null, .int 0])), (g0, .inr (4, [.int (nI Ww), .int (nI Hh), .int (nI Pp), .ref c1, .ref c2, .ref c3])), (q1, .inl (cA, Pp, .inl (fun _ => 0))), (q2, .inl (cA, Pp, .inl (fun _ => 0)))] := hD
 refine va_putF (D := D) (ci := 7) (v := .ref q2) (ty := .array .int) (C := R_Pieces) (T := T_Pieces) (N := 11) hx hb hts in_Pieces ty_Pieces tyok_Pieces nm_Pieces hown hK hP hD hS 0 rfl rfl 2 (by decide) (hts _ (List.mem_cons_of_mem _ kw_153)) (fun _ h9 => h9) rfl hin rfl (by decide +kernel) rfl rfl (Nat.le_of_ble_eq_true rfl) d_Pieces_init_26 (fun H locs hP hD hS => ?_)
 have hP : va_P D vwCl [(h0, .inr (7, [.ref g0, .ref q1, .ref q2, .null, .null, .null, .null, .null, .null, .null, .int 0])), (g0, .inr (4, [.int (nI Ww), .int (nI Hh), .int (nI Pp), .ref c1, .ref c2, .ref c3])), (q1, .inl (cA, Pp, .inl (fun _ => 0))), (q2, .inl (cA, Pp, .inl (fun _ => 0)))] H := hP
 have hD : va_D A [(h0, .inr (7, [.ref g0, .ref q1, .ref q2, .null, .null, .null, .null, .null, .null, .null, .int 0])), (g0, .inr (4, [.int (nI Ww), .int (nI Hh), .int (nI Pp), .ref c1, .ref c2, .ref c3])), (q1, .inl (cA, Pp, .inl (fun _ => 0))), (q2, .inl (cA, Pp, .inl (fun _ => 0)))] := hD
 refine lv_aload_n hx hb d_Pieces_init_29 rfl (lv_at hl 0 rfl) ?_
 refine lv_aload_n hx hb d_Pieces_init_30 rfl (lv_at hl 1 rfl) ?_
 refine va_get (D := D) (ci := 4) (v := .int (nI Pp)) (C := R_Grid) (T := T_Grid) (N := 6) hx hb hts in_Grid hown hK hP 1 rfl rfl 2 (by decide) (hts _ (List.mem_cons_of_mem _ kw_107)) (fun _ h9 => h9) rfl d_Pieces_init_31 ?_
 refine pc_newi hx hb (hts _ (List.mem_cons_of_mem _ kw_128)) hK 0 rfl hP hD hS hA Pp rfl (by omega) (by show 2 + 1 ≤ 9; omega) (by show Pp + Pp + Pp ≤ 3600; omega) d_Pieces_init_34 (fun q3 H hP hD hS => ?_)
 refine W.cs (cells' := 3) (slots' := Pp + Pp + Pp) (by omega) (by omega) ?_
 have hP : va_P D vwCl [(h0, .inr (7, [.ref g0, .ref q1, .ref q2, .null, .null, .null, .null, .null, .null, .null, .int 0])), (g0, .inr (4, [.int (nI Ww), .int (nI Hh), .int (nI Pp), .ref c1, .ref c2, .ref c3])), (q1, .inl (cA, Pp, .inl (fun _ => 0))), (q2, .inl (cA, Pp, .inl (fun _ => 0))), (q3, .inl (cA, Pp, .inl (fun _ => 0)))] H := hP
 have hD : va_D A [(h0, .inr (7, [.ref g0, .ref q1, .ref q2, .null, .null, .null, .null, .null, .null, .null, .int 0])), (g0, .inr (4, [.int (nI Ww), .int (nI Hh), .int (nI Pp), .ref c1, .ref c2, .ref c3])), (q1, .inl (cA, Pp, .inl (fun _ => 0))), (q2, .inl (cA, Pp, .inl (fun _ => 0))), (q3, .inl (cA, Pp, .inl (fun _ => 0)))] := hD
 refine va_putF (D := D) (ci := 7) (v := .ref q3) (ty := .array .int) (C := R_Pieces) (T := T_Pieces) (N := 11) hx hb hts in_Pieces ty_Pieces tyok_Pieces nm_Pieces hown hK hP hD hS 0 rfl rfl 3 (by decide) (hts _ (List.mem_cons_of_mem _ kw_154)) (fun _ h9 => h9) rfl hin rfl (by decide +kernel) rfl rfl (Nat.le_of_ble_eq_true rfl) d_Pieces_init_36 (fun H locs hP hD hS => ?_)
 have hP : va_P D vwCl [(h0, .inr (7, [.ref g0, .ref q1, .ref q2, .ref q3, .null, .null, .null, .null, .null, .null, .int 0])), (g0, .inr (4, [.int (nI Ww), .int (nI Hh), .int (nI Pp), .ref c1, .ref c2, .ref c3])), (q1, .inl (cA, Pp, .inl (fun _ => 0))), (q2, .inl (cA, Pp, .inl (fun _ => 0))), (q3, .inl (cA, Pp, .inl (fun _ => 0)))] H := hP
 have hD : va_D A [(h0, .inr (7, [.ref g0, .ref q1, .ref q2, .ref q3, .null, .null, .null, .null, .null, .null, .int 0])), (g0, .inr (4, [.int (nI Ww), .int (nI Hh), .int (nI Pp), .ref c1, .ref c2, .ref c3])), (q1, .inl (cA, Pp, .inl (fun _ => 0))), (q2, .inl (cA, Pp, .inl (fun _ => 0))), (q3, .inl (cA, Pp, .inl (fun _ => 0)))] := hD
 refine lv_aload_n hx hb d_Pieces_init_39 rfl (lv_at hl 0 rfl) ?_
 refine lv_aload_n hx hb d_Pieces_init_40 rfl (lv_at hl 1 rfl) ?_
 refine va_get (D := D) (ci := 4) (v := .int (nI Pp)) (C := R_Grid) (T := T_Grid) (N := 6) hx hb hts in_Grid hown hK hP 1 rfl rfl 2 (by decide) (hts _ (List.mem_cons_of_mem _ kw_107)) (fun _ h9 => h9) rfl d_Pieces_init_41 ?_
 refine pc_newi hx hb (hts _ (List.mem_cons_of_mem _ kw_128)) hK 0 rfl hP hD hS hA Pp rfl (by omega) (by show 3 + 1 ≤ 9; omega) (by show Pp + Pp + Pp + Pp ≤ 3600; omega) d_Pieces_init_44 (fun q4 H hP hD hS => ?_)
 refine W.cs (cells' := 4) (slots' := Pp + Pp + Pp + Pp) (by omega) (by omega) ?_
 have hP : va_P D vwCl [(h0, .inr (7, [.ref g0, .ref q1, .ref q2, .ref q3, .null, .null, .null, .null, .null, .null, .int 0])), (g0, .inr (4, [.int (nI Ww), .int (nI Hh), .int (nI Pp), .ref c1, .ref c2, .ref c3])), (q1, .inl (cA, Pp, .inl (fun _ => 0))), (q2, .inl (cA, Pp, .inl (fun _ => 0))), (q3, .inl (cA, Pp, .inl (fun _ => 0))), (q4, .inl (cA, Pp, .inl (fun _ => 0)))] H := hP
 have hD : va_D A [(h0, .inr (7, [.ref g0, .ref q1, .ref q2, .ref q3, .null, .null, .null, .null, .null, .null, .int 0])), (g0, .inr (4, [.int (nI Ww), .int (nI Hh), .int (nI Pp), .ref c1, .ref c2, .ref c3])), (q1, .inl (cA, Pp, .inl (fun _ => 0))), (q2, .inl (cA, Pp, .inl (fun _ => 0))), (q3, .inl (cA, Pp, .inl (fun _ => 0))), (q4, .inl (cA, Pp, .inl (fun _ => 0)))] := hD
 refine va_putF (D := D) (ci := 7) (v := .ref q4) (ty := .array .int) (C := R_Pieces) (T := T_Pieces) (N := 11) hx hb hts in_Pieces ty_Pieces tyok_Pieces nm_Pieces hown hK hP hD hS 0 rfl rfl 4 (by decide) (hts _ (List.mem_cons_of_mem _ kw_155)) (fun _ h9 => h9) rfl hin rfl (by decide +kernel) rfl rfl (Nat.le_of_ble_eq_true rfl) d_Pieces_init_46 (fun H locs hP hD hS => ?_)
 have hP : va_P D vwCl [(h0, .inr (7, [.ref g0, .ref q1, .ref q2, .ref q3, .ref q4, .null, .null, .null, .null, .null, .int 0])), (g0, .inr (4, [.int (nI Ww), .int (nI Hh), .int (nI Pp), .ref c1, .ref c2, .ref c3])), (q1, .inl (cA, Pp, .inl (fun _ => 0))), (q2, .inl (cA, Pp, .inl (fun _ => 0))), (q3, .inl (cA, Pp, .inl (fun _ => 0))), (q4, .inl (cA, Pp, .inl (fun _ => 0)))] H := hP
 have hD : va_D A [(h0, .inr (7, [.ref g0, .ref q1, .ref q2, .ref q3, .ref q4, .null, .null, .null, .null, .null, .int 0])), (g0, .inr (4, [.int (nI Ww), .int (nI Hh), .int (nI Pp), .ref c1, .ref c2, .ref c3])), (q1, .inl (cA, Pp, .inl (fun _ => 0))), (q2, .inl (cA, Pp, .inl (fun _ => 0))), (q3, .inl (cA, Pp, .inl (fun _ => 0))), (q4, .inl (cA, Pp, .inl (fun _ => 0)))] := hD
 refine lv_aload_n hx hb d_Pieces_init_49 rfl (lv_at hl 0 rfl) ?_
 refine lv_aload_n hx hb d_Pieces_init_50 rfl (lv_at hl 1 rfl) ?_
 refine va_get (D := D) (ci := 4) (v := .int (nI Pp)) (C := R_Grid) (T := T_Grid) (N := 6) hx hb hts in_Grid hown hK hP 1 rfl rfl 2 (by decide) (hts _ (List.mem_cons_of_mem _ kw_107)) (fun _ h9 => h9) rfl d_Pieces_init_51 ?_
 refine pc_newi hx hb (hts _ (List.mem_cons_of_mem _ kw_128)) hK 0 rfl hP hD hS hA Pp rfl (by omega) (by show 4 + 1 ≤ 9; omega) (by show Pp + Pp + Pp + Pp + Pp ≤ 3600; omega) d_Pieces_init_54 (fun q5 H hP hD hS => ?_)
 refine W.cs (cells' := 5) (slots' := Pp + Pp + Pp + Pp + Pp) (by omega) (by omega) ?_
 have hP : va_P D vwCl [(h0, .inr (7, [.ref g0, .ref q1, .ref q2, .ref q3, .ref q4, .null, .null, .null, .null, .null, .int 0])), (g0, .inr (4, [.int (nI Ww), .int (nI Hh), .int (nI Pp), .ref c1, .ref c2, .ref c3])), (q1, .inl (cA, Pp, .inl (fun _ => 0))), (q2, .inl (cA, Pp, .inl (fun _ => 0))), (q3, .inl (cA, Pp, .inl (fun _ => 0))), (q4, .inl (cA, Pp, .inl (fun _ => 0))), (q5, .inl (cA, Pp, .inl (fun _ => 0)))] H := hP
 have hD : va_D A [(h0, .inr (7, [.ref g0, .ref q1, .ref q2, .ref q3, .ref q4, .null, .null, .null, .null, .null, .int 0])), (g0, .inr (4, [.int (nI Ww), .int (nI Hh), .int (nI Pp), .ref c1, .ref c2, .ref c3])), (q1, .inl (cA, Pp, .inl (fun _ => 0))), (q2, .inl (cA, Pp, .inl (fun _ => 0))), (q3, .inl (cA, Pp, .inl (fun _ => 0))), (q4, .inl (cA, Pp, .inl (fun _ => 0))), (q5, .inl (cA, Pp, .inl (fun _ => 0)))] := hD
 refine va_putF (D := D) (ci := 7) (v := .ref q5) (ty := .array .int) (C := R_Pieces) (T := T_Pieces) (N := 11) hx hb hts in_Pieces ty_Pieces tyok_Pieces nm_Pieces hown hK hP hD hS 0 rfl rfl 5 (by decide) (hts _ (List.mem_cons_of_mem _ kw_156)) (fun _ h9 => h9) rfl hin rfl (by decide +kernel) rfl rfl (Nat.le_of_ble_eq_true rfl) d_Pieces_init_56 (fun H locs hP hD hS => ?_)
 have hP : va_P D vwCl [(h0, .inr (7, [.ref g0, .ref q1, .ref q2, .ref q3, .ref q4, .ref q5, .null, .null, .null, .null, .int 0])), (g0, .inr (4, [.int (nI Ww), .int (nI Hh), .int (nI Pp), .ref c1, .ref c2, .ref c3])), (q1, .inl (cA, Pp, .inl (fun _ => 0))), (q2, .inl (cA, Pp, .inl (fun _ => 0))), (q3, .inl (cA, Pp, .inl (fun _ => 0))), (q4, .inl (cA, Pp, .inl (fun _ => 0))), (q5, .inl (cA, Pp, .inl (fun _ => 0)))] H := hP
 have hD : va_D A [(h0, .inr (7, [.ref g0, .ref q1, .ref q2, .ref q3, .ref q4, .ref q5, .null, .null, .null, .null, .int 0])), (g0, .inr (4, [.int (nI Ww), .int (nI Hh), .int (nI Pp), .ref c1, .ref c2, .ref c3])), (q1, .inl (cA, Pp, .inl (fun _ => 0))), (q2, .inl (cA, Pp, .inl (fun _ => 0))), (q3, .inl (cA, Pp, .inl (fun _ => 0))), (q4, .inl (cA, Pp, .inl (fun _ => 0))), (q5, .inl (cA, Pp, .inl (fun _ => 0)))] := hD
 refine lv_aload_n hx hb d_Pieces_init_59 rfl (lv_at hl 0 rfl) ?_
 refine lv_aload_n hx hb d_Pieces_init_60 rfl (lv_at hl 1 rfl) ?_
 refine va_get (D := D) (ci := 4) (v := .int (nI Pp)) (C := R_Grid) (T := T_Grid) (N := 6) hx hb hts in_Grid hown hK hP 1 rfl rfl 2 (by decide) (hts _ (List.mem_cons_of_mem _ kw_107)) (fun _ h9 => h9) rfl d_Pieces_init_61 ?_
 refine pc_newi hx hb (hts _ (List.mem_cons_of_mem _ kw_128)) hK 0 rfl hP hD hS hA Pp rfl (by omega) (by show 5 + 1 ≤ 9; omega) (by show Pp + Pp + Pp + Pp + Pp + Pp ≤ 3600; omega) d_Pieces_init_64 (fun q6 H hP hD hS => ?_)
 refine W.cs (cells' := 6) (slots' := Pp + Pp + Pp + Pp + Pp + Pp) (by omega) (by omega) ?_
 have hP : va_P D vwCl [(h0, .inr (7, [.ref g0, .ref q1, .ref q2, .ref q3, .ref q4, .ref q5, .null, .null, .null, .null, .int 0])), (g0, .inr (4, [.int (nI Ww), .int (nI Hh), .int (nI Pp), .ref c1, .ref c2, .ref c3])), (q1, .inl (cA, Pp, .inl (fun _ => 0))), (q2, .inl (cA, Pp, .inl (fun _ => 0))), (q3, .inl (cA, Pp, .inl (fun _ => 0))), (q4, .inl (cA, Pp, .inl (fun _ => 0))), (q5, .inl (cA, Pp, .inl (fun _ => 0))), (q6, .inl (cA, Pp, .inl (fun _ => 0)))] H := hP
 have hD : va_D A [(h0, .inr (7, [.ref g0, .ref q1, .ref q2, .ref q3, .ref q4, .ref q5, .null, .null, .null, .null, .int 0])), (g0, .inr (4, [.int (nI Ww), .int (nI Hh), .int (nI Pp), .ref c1, .ref c2, .ref c3])), (q1, .inl (cA, Pp, .inl (fun _ => 0))), (q2, .inl (cA, Pp, .inl (fun _ => 0))), (q3, .inl (cA, Pp, .inl (fun _ => 0))), (q4, .inl (cA, Pp, .inl (fun _ => 0))), (q5, .inl (cA, Pp, .inl (fun _ => 0))), (q6, .inl (cA, Pp, .inl (fun _ => 0)))] := hD
 refine va_putF (D := D) (ci := 7) (v := .ref q6) (ty := .array .int) (C := R_Pieces) (T := T_Pieces) (N := 11) hx hb hts in_Pieces ty_Pieces tyok_Pieces nm_Pieces hown hK hP hD hS 0 rfl rfl 6 (by decide) (hts _ (List.mem_cons_of_mem _ kw_157)) (fun _ h9 => h9) rfl hin rfl (by decide +kernel) rfl rfl (Nat.le_of_ble_eq_true rfl) d_Pieces_init_66 (fun H locs hP hD hS => ?_)
 have hP : va_P D vwCl [(h0, .inr (7, [.ref g0, .ref q1, .ref q2, .ref q3, .ref q4, .ref q5, .ref q6, .null, .null, .null, .int 0])), (g0, .inr (4, [.int (nI Ww), .int (nI Hh), .int (nI Pp), .ref c1, .ref c2, .ref c3])), (q1, .inl (cA, Pp, .inl (fun _ => 0))), (q2, .inl (cA, Pp, .inl (fun _ => 0))), (q3, .inl (cA, Pp, .inl (fun _ => 0))), (q4, .inl (cA, Pp, .inl (fun _ => 0))), (q5, .inl (cA, Pp, .inl (fun _ => 0))), (q6, .inl (cA, Pp, .inl (fun _ => 0)))] H := hP
 have hD : va_D A [(h0, .inr (7, [.ref g0, .ref q1, .ref q2, .ref q3, .ref q4, .ref q5, .ref q6, .null, .null, .null, .int 0])), (g0, .inr (4, [.int (nI Ww), .int (nI Hh), .int (nI Pp), .ref c1, .ref c2, .ref c3])), (q1, .inl (cA, Pp, .inl (fun _ => 0))), (q2, .inl (cA, Pp, .inl (fun _ => 0))), (q3, .inl (cA, Pp, .inl (fun _ => 0))), (q4, .inl (cA, Pp, .inl (fun _ => 0))), (q5, .inl (cA, Pp, .inl (fun _ => 0))), (q6, .inl (cA, Pp, .inl (fun _ => 0)))] := hD
 refine lv_aload_n hx hb d_Pieces_init_69 rfl (lv_at hl 0 rfl) ?_
 refine lv_aload_n hx hb d_Pieces_init_70 rfl (lv_at hl 1 rfl) ?_
 refine va_get (D := D) (ci := 4) (v := .int (nI Pp)) (C := R_Grid) (T := T_Grid) (N := 6) hx hb hts in_Grid hown hK hP 1 rfl rfl 2 (by decide) (hts _ (List.mem_cons_of_mem _ kw_107)) (fun _ h9 => h9) rfl d_Pieces_init_71 ?_
 refine pc_newi hx hb (hts _ (List.mem_cons_of_mem _ kw_128)) hK 0 rfl hP hD hS hA Pp rfl (by omega) (by show 6 + 1 ≤ 9; omega) (by show Pp + Pp + Pp + Pp + Pp + Pp + Pp ≤ 3600; omega) d_Pieces_init_74 (fun q7 H hP hD hS => ?_)
 refine W.cs (cells' := 7) (slots' := Pp + Pp + Pp + Pp + Pp + Pp + Pp) (by omega) (by omega) ?_
 have hP : va_P D vwCl [(h0, .inr (7, [.ref g0, .ref q1, .ref q2, .ref q3, .ref q4, .ref q5, .ref q6, .null, .null, .null, .int 0])), (g0, .inr (4, [.int (nI Ww), .int (nI Hh), .int (nI Pp), .ref c1, .ref c2, .ref c3])), (q1, .inl (cA, Pp, .inl (fun _ => 0))), (q2, .inl (cA, Pp, .inl (fun _ => 0))), (q3, .inl (cA, Pp, .inl (fun _ => 0))), (q4, .inl (cA, Pp, .inl (fun _ => 0))), (q5, .inl (cA, Pp, .inl (fun _ => 0))), (q6, .inl (cA, Pp, .inl (fun _ => 0))), (q7, .inl (cA, Pp, .inl (fun _ => 0)))] H := hP
 have hD : va_D A [(h0, .inr (7, [.ref g0, .ref q1, .ref q2, .ref q3, .ref q4, .ref q5, .ref q6, .null, .null, .null, .int 0])), (g0, .inr (4, [.int (nI Ww), .int (nI Hh), .int (nI Pp), .ref c1, .ref c2, .ref c3])), (q1, .inl (cA, Pp, .inl (fun _ => 0))), (q2, .inl (cA, Pp, .inl (fun _ => 0))), (q3, .inl (cA, Pp, .inl (fun _ => 0))), (q4, .inl (cA, Pp, .inl (fun _ => 0))), (q5, .inl (cA, Pp, .inl (fun _ => 0))), (q6, .inl (cA, Pp, .inl (fun _ => 0))), (q7, .inl (cA, Pp, .inl (fun _ => 0)))] := hD
 refine va_putF (D := D) (ci := 7) (v := .ref q7) (ty := .array .int) (C := R_Pieces) (T := T_Pieces) (N := 11) hx hb hts in_Pieces ty_Pieces tyok_Pieces nm_Pieces hown hK hP hD hS 0 rfl rfl 7 (by decide) (hts _ (List.mem_cons_of_mem _ kw_158)) (fun _ h9 => h9) rfl hin rfl (by decide +kernel) rfl rfl (Nat.le_of_ble_eq_true rfl) d_Pieces_init_76 (fun H locs hP hD hS => ?_)
 have hP : va_P D vwCl [(h0, .inr (7, [.ref g0, .ref q1, .ref q2, .ref q3, .ref q4, .ref q5, .ref q6, .ref q7, .null, .null, .int 0])), (g0, .inr (4, [.int (nI Ww), .int (nI Hh), .int (nI Pp), .ref c1, .ref c2, .ref c3])), (q1, .inl (cA, Pp, .inl (fun _ => 0))), (q2, .inl (cA, Pp, .inl (fun _ => 0))), (q3, .inl (cA, Pp, .inl (fun _ => 0))), (q4, .inl (cA, Pp, .inl (fun _ => 0))), (q5, .inl (cA, Pp, .inl (fun _ => 0))), (q6, .inl (cA, Pp, .inl (fun _ => 0))), (q7, .inl (cA, Pp, .inl (fun _ => 0)))] H := hP
 have hD : va_D A [(h0, .inr (7, [.ref g0, .ref q1, .ref q2, .ref q3, .ref q4, .ref q5, .ref q6, .ref q7, .null, .null, .int 0])), (g0, .inr (4, [.int (nI Ww), .int (nI Hh), .int (nI Pp), .ref c1, .ref c2, .ref c3])), (q1, .inl (cA, Pp, .inl (fun _ => 0))), (q2, .inl (cA, Pp, .inl (fun _ => 0))), (q3, .inl (cA, Pp, .inl (fun _ => 0))), (q4, .inl (cA, Pp, .inl (fun _ => 0))), (q5, .inl (cA, Pp, .inl (fun _ => 0))), (q6, .inl (cA, Pp, .inl (fun _ => 0))), (q7, .inl (cA, Pp, .inl (fun _ => 0)))] := hD
 refine lv_aload_n hx hb d_Pieces_init_79 rfl (lv_at hl 0 rfl) ?_
 refine lv_aload_n hx hb d_Pieces_init_80 rfl (lv_at hl 1 rfl) ?_
 refine va_get (D := D) (ci := 4) (v := .int (nI Pp)) (C := R_Grid) (T := T_Grid) (N := 6) hx hb hts in_Grid hown hK hP 1 rfl rfl 2 (by decide) (hts _ (List.mem_cons_of_mem _ kw_107)) (fun _ h9 => h9) rfl d_Pieces_init_81 ?_
 refine pc_newi hx hb (hts _ (List.mem_cons_of_mem _ kw_128)) hK 0 rfl hP hD hS hA Pp rfl (by omega) (by show 7 + 1 ≤ 9; omega) (by show Pp + Pp + Pp + Pp + Pp + Pp + Pp + Pp ≤ 3600; omega) d_Pieces_init_84 (fun q8 H hP hD hS => ?_)
 refine W.cs (cells' := 8) (slots' := Pp + Pp + Pp + Pp + Pp + Pp + Pp + Pp) (by omega) (by omega) ?_
 have hP : va_P D vwCl [(h0, .inr (7, [.ref g0, .ref q1, .ref q2, .ref q3, .ref q4, .ref q5, .ref q6, .ref q7, .null, .null, .int 0])), (g0, .inr (4, [.int (nI Ww), .int (nI Hh), .int (nI Pp), .ref c1, .ref c2, .ref c3])), (q1, .inl (cA, Pp, .inl (fun _ => 0))), (q2, .inl (cA, Pp, .inl (fun _ => 0))), (q3, .inl (cA, Pp, .inl (fun _ => 0))), (q4, .inl (cA, Pp, .inl (fun _ => 0))), (q5, .inl (cA, Pp, .inl (fun _ => 0))), (q6, .inl (cA, Pp, .inl (fun _ => 0))), (q7, .inl (cA, Pp, .inl (fun _ => 0))), (q8, .inl (cA, Pp, .inl (fun _ => 0)))] H := hP
 have hD : va_D A [(h0, .inr (7, [.ref g0, .ref q1, .ref q2, .ref q3, .ref q4, .ref q5, .ref q6, .ref q7, .null, .null, .int 0])), (g0, .inr (4, [.int (nI Ww), .int (nI Hh), .int (nI Pp), .ref c1, .ref c2, .ref c3])), (q1, .inl (cA, Pp, .inl (fun _ => 0))), (q2, .inl (cA, Pp, .inl (fun _ => 0))), (q3, .inl (cA, Pp, .inl (fun _ => 0))), (q4, .inl (cA, Pp, .inl (fun _ => 0))), (q5, .inl (cA, Pp, .inl (fun _ => 0))), (q6, .inl (cA, Pp, .inl (fun _ => 0))), (q7, .inl (cA, Pp, .inl (fun _ => 0))), (q8, .inl (cA, Pp, .inl (fun _ => 0)))] := hD
 refine va_putF (D := D) (ci := 7) (v := .ref q8) (ty := .array .int) (C := R_Pieces) (T := T_Pieces) (N := 11) hx hb hts in_Pieces ty_Pieces tyok_Pieces nm_Pieces hown hK hP hD hS 0 rfl rfl 8 (by decide) (hts _ (List.mem_cons_of_mem _ kw_159)) (fun _ h9 => h9) rfl hin rfl (by decide +kernel) rfl rfl (Nat.le_of_ble_eq_true rfl) d_Pieces_init_86 (fun H locs hP hD hS => ?_)
 have hP : va_P D vwCl [(h0, .inr (7, [.ref g0, .ref q1, .ref q2, .ref q3, .ref q4, .ref q5, .ref q6, .ref q7, .ref q8, .null, .int 0])), (g0, .inr (4, [.int (nI Ww), .int (nI Hh), .int (nI Pp), .ref c1, .ref c2, .ref c3])), (q1, .inl (cA, Pp, .inl (fun _ => 0))), (q2, .inl (cA, Pp, .inl (fun _ => 0))), (q3, .inl (cA, Pp, .inl (fun _ => 0))), (q4, .inl (cA, Pp, .inl (fun _ => 0))), (q5, .inl (cA, Pp, .inl (fun _ => 0))), (q6, .inl (cA, Pp, .inl (fun _ => 0))), (q7, .inl (cA, Pp, .inl (fun _ => 0))), (q8, .inl (cA, Pp, .inl (fun _ => 0)))] H := hP
 have hD : va_D A [(h0, .inr (7, [.ref g0, .ref q1, .ref q2, .ref q3, .ref q4, .ref q5, .ref q6, .ref q7, .ref q8, .null, .int 0])), (g0, .inr (4, [.int (nI Ww), .int (nI Hh), .int (nI Pp), .ref c1, .ref c2, .ref c3])), (q1, .inl (cA, Pp, .inl (fun _ => 0))), (q2, .inl (cA, Pp, .inl (fun _ => 0))), (q3, .inl (cA, Pp, .inl (fun _ => 0))), (q4, .inl (cA, Pp, .inl (fun _ => 0))), (q5, .inl (cA, Pp, .inl (fun _ => 0))), (q6, .inl (cA, Pp, .inl (fun _ => 0))), (q7, .inl (cA, Pp, .inl (fun _ => 0))), (q8, .inl (cA, Pp, .inl (fun _ => 0)))] := hD
 refine lv_aload_n hx hb d_Pieces_init_89 rfl (lv_at hl 0 rfl) ?_
 refine lv_aload_n hx hb d_Pieces_init_90 rfl (lv_at hl 1 rfl) ?_
 refine va_get (D := D) (ci := 4) (v := .int (nI Pp)) (C := R_Grid) (T := T_Grid) (N := 6) hx hb hts in_Grid hown hK hP 1 rfl rfl 2 (by decide) (hts _ (List.mem_cons_of_mem _ kw_107)) (fun _ h9 => h9) rfl d_Pieces_init_91 ?_
 refine pc_newi hx hb (hts _ (List.mem_cons_of_mem _ kw_128)) hK 0 rfl hP hD hS hA Pp rfl (by omega) (by show 8 + 1 ≤ 9; omega) (by show Pp + Pp + Pp + Pp + Pp + Pp + Pp + Pp + Pp ≤ 3600; omega) d_Pieces_init_94 (fun q9 H hP hD hS => ?_)
 refine W.cs (cells' := 9) (slots' := Pp + Pp + Pp + Pp + Pp + Pp + Pp + Pp + Pp) (by omega) (by omega) ?_
 have hP : va_P D vwCl [(h0, .inr (7, [.ref g0, .ref q1, .ref q2, .ref q3, .ref q4, .ref q5, .ref q6, .ref q7, .ref q8, .null, .int 0])), (g0, .inr (4, [.int (nI Ww), .int (nI Hh), .int (nI Pp), .ref c1, .ref c2, .ref c3])), (q1, .inl (cA, Pp, .inl (fun _ => 0))), (q2, .inl (cA, Pp, .inl (fun _ => 0))), (q3, .inl (cA, Pp, .inl (fun _ => 0))), (q4, .inl (cA, Pp, .inl (fun _ => 0))), (q5, .inl (cA, Pp, .inl (fun _ => 0))), (q6, .inl (cA, Pp, .inl (fun _ => 0))), (q7, .inl (cA, Pp, .inl (fun _ => 0))), (q8, .inl (cA, Pp, .inl (fun _ => 0))), (q9, .inl (cA, Pp, .inl (fun _ => 0)))] H := hP
 have hD : va_D A [(h0, .inr (7, [.ref g0, .ref q1, .ref q2, .ref q3, .ref q4, .ref q5, .ref q6, .ref q7, .ref q8, .null, .int 0])), (g0, .inr (4, [.int (nI Ww), .int (nI Hh), .int (nI Pp), .ref c1, .ref c2, .ref c3])), (q1, .inl (cA, Pp, .inl (fun _ => 0))), (q2, .inl (cA, Pp, .inl (fun _ => 0))), (q3, .inl (cA, Pp, .inl (fun _ => 0))), (q4, .inl (cA, Pp, .inl (fun _ => 0))), (q5, .inl (cA, Pp, .inl (fun _ => 0))), (q6, .inl (cA, Pp, .inl (fun _ => 0))), (q7, .inl (cA, Pp, .inl (fun _ => 0))), (q8, .inl (cA, Pp, .inl (fun _ => 0))), (q9, .inl (cA, Pp, .inl (fun _ => 0)))] := hD
 refine va_putF (D := D) (ci := 7) (v := .ref q9) (ty := .array .int) (C := R_Pieces) (T := T_Pieces) (N := 11) hx hb hts in_Pieces ty_Pieces tyok_Pieces nm_Pieces hown hK hP hD hS 0 rfl rfl 9 (by decide) (hts _ (List.mem_cons_of_mem _ kw_160)) (fun _ h9 => h9) rfl hin rfl (by decide +kernel) rfl rfl (Nat.le_of_ble_eq_true rfl) d_Pieces_init_96 (fun H locs hP hD hS => ?_)
 have hP : va_P D vwCl [(h0, .inr (7, [.ref g0, .ref q1, .ref q2, .ref q3, .ref q4, .ref q5, .ref q6, .ref q7, .ref q8, .ref q9, .int 0])), (g0, .inr (4, [.int (nI Ww), .int (nI Hh), .int (nI Pp), .ref c1, .ref c2, .ref c3])), (q1, .inl (cA, Pp, .inl (fun _ => 0))), (q2, .inl (cA, Pp, .inl (fun _ => 0))), (q3, .inl (cA, Pp, .inl (fun _ => 0))), (q4, .inl (cA, Pp, .inl (fun _ => 0))), (q5, .inl (cA, Pp, .inl (fun _ => 0))), (q6, .inl (cA, Pp, .inl (fun _ => 0))), (q7, .inl (cA, Pp, .inl (fun _ => 0))), (q8, .inl (cA, Pp, .inl (fun _ => 0))), (q9, .inl (cA, Pp, .inl (fun _ => 0)))] H := hP
 have hD : va_D A [(h0, .inr (7, [.ref g0, .ref q1, .ref q2, .ref q3, .ref q4, .ref q5, .ref q6, .ref q7, .ref q8, .ref q9, .int 0])), (g0, .inr (4, [.int (nI Ww), .int (nI Hh), .int (nI Pp), .ref c1, .ref c2, .ref c3])), (q1, .inl (cA, Pp, .inl (fun _ => 0))), (q2, .inl (cA, Pp, .inl (fun _ => 0))), (q3, .inl (cA, Pp, .inl (fun _ => 0))), (q4, .inl (cA, Pp, .inl (fun _ => 0))), (q5, .inl (cA, Pp, .inl (fun _ => 0))), (q6, .inl (cA, Pp, .inl (fun _ => 0))), (q7, .inl (cA, Pp, .inl (fun _ => 0))), (q8, .inl (cA, Pp, .inl (fun _ => 0))), (q9, .inl (cA, Pp, .inl (fun _ => 0)))] := hD
 refine lv_aload_n hx hb d_Pieces_init_99 rfl (lv_at hl 0 rfl) ?_
 refine lv_iconst (v := 0) hx hb d_Pieces_init_100 (by decide) ?_
 refine va_put (D := D) (ci := 7) (v := .int 0) (ty := .int) (C := R_Pieces) (T := T_Pieces) (N := 11) hx hb hts in_Pieces ty_Pieces tyok_Pieces nm_Pieces hown hK hP hD hS 0 rfl rfl 10 (by decide) (hts _ (List.mem_cons_of_mem _ kw_161)) (fun _ h9 => h9) rfl (by decide +kernel) rfl rfl (Nat.le_of_ble_eq_true rfl) d_Pieces_init_101 (fun H locs hP hD hS => ?_)
 have hP : va_P D vwCl [(h0, .inr (7, [.ref g0, .ref q1, .ref q2, .ref q3, .ref q4, .ref q5, .ref q6, .ref q7, .ref q8, .ref q9, .int 0])), (g0, .inr (4, [.int (nI Ww), .int (nI Hh), .int (nI Pp), .ref c1, .ref c2, .ref c3])), (q1, .inl (cA, Pp, .inl (fun _ => 0))), (q2, .inl (cA, Pp, .inl (fun _ => 0))), (q3, .inl (cA, Pp, .inl (fun _ => 0))), (q4, .inl (cA, Pp, .inl (fun _ => 0))), (q5, .inl (cA, Pp, .inl (fun _ => 0))), (q6, .inl (cA, Pp, .inl (fun _ => 0))), (q7, .inl (cA, Pp, .inl (fun _ => 0))), (q8, .inl (cA, Pp, .inl (fun _ => 0))), (q9, .inl (cA, Pp, .inl (fun _ => 0)))] H := hP
 have hD : va_D A [(h0, .inr (7, [.ref g0, .ref q1, .ref q2, .ref q3, .ref q4, .ref q5, .ref q6, .ref q7, .ref q8, .ref q9, .int 0])), (g0, .inr (4, [.int (nI Ww), .int (nI Hh), .int (nI Pp), .ref c1, .ref c2, .ref c3])), (q1, .inl (cA, Pp, .inl (fun _ => 0))), (q2, .inl (cA, Pp, .inl (fun _ => 0))), (q3, .inl (cA, Pp, .inl (fun _ => 0))), (q4, .inl (cA, Pp, .inl (fun _ => 0))), (q5, .inl (cA, Pp, .inl (fun _ => 0))), (q6, .inl (cA, Pp, .inl (fun _ => 0))), (q7, .inl (cA, Pp, .inl (fun _ => 0))), (q8, .inl (cA, Pp, .inl (fun _ => 0))), (q9, .inl (cA, Pp, .inl (fun _ => 0)))] := hD
 refine W.widen (k := 9) (n := 3600) (by omega) (by omega) ?_
 exact W.vret hx hb hr (fun t ht hW => ⟨⟨(fun k => if k = 0 then q1 else if k = 1 then q2 else if k = 2 then q3 else if k = 3 then q4 else if k = 4 then q5 else if k = 5 then q6 else if k = 6 then q7 else if k = 7 then q8 else if k = 8 then q9 else 0), rfl, trivial, by rw [ht]; exact hP, va_K.moved hW.alike hK, hD⟩, hS.F ht⟩) hS.2.2 d_Pieces_init_104 hlocks
set_option maxHeartbeats 4000000 in
set_option maxRecDepth 100000 in
theorem kt_Walk (l : Launch) (D : va_G) (cA cZ : ClassId) (h0 sz : Nat) (g0 Ww Hh Pp c1 c2 c3 : Nat) (p0 : Nat) (hN : ((2 * (Ww + 1)) * (Hh + 1)) ≤ 882) : Met l y_Walk_init w_Walk_init ({ frames := 1, cells := 2, slots := 1764, locals := 12 } : Room) (va_Pc [.ref h0, .ref g0, .ref p0] (pc_pre D [(h0, .inr (10, [.null, .int 0, .null, .null, .int 0, .int 0, .int 0, .int 0])), (g0, .inr (4, [.int (nI Ww), .int (nI Hh), .int (nI Pp), .ref c1, .ref c2, .ref c3]))] (cT cA cZ) sz)) (va_Qv (fun _ : Nat → Nat => True) (pc_B D (fun q => [(h0, .inr (10, [.ref p0, .int ((nI Pp) * 4), .ref (q 0), .ref (q 1), .int 0, .int 0, .int 0, .int 0])), (g0, .inr (4, [.int (nI Ww), .int (nI Hh), .int (nI Pp), .ref c1, .ref c2, .ref c3])), ((q 0), .inl (cA, ((2 * (Ww + 1)) * (Hh + 1)), .inl (fun _ => 0))), ((q 1), .inl (cA, ((2 * (Ww + 1)) * (Hh + 1)), .inl (fun _ => 0)))]) (cT cA cZ) (va_A [(h0, .inr (10, [.null, .int 0, .null, .null, .int 0, .int 0, .int 0, .int 0])), (g0, .inr (4, [.int (nI Ww), .int (nI Hh), .int (nI Pp), .ref c1, .ref c2, .ref c3]))] sz)) (va_A [(h0, .inr (10, [.null, .int 0, .null, .null, .int 0, .int 0, .int 0, .int 0])), (g0, .inr (4, [.int (nI Ww), .int (nI Hh), .int (nI Pp), .ref c1, .ref c2, .ref c3]))] sz)) 2 1764 (va_A [(h0, .inr (10, [.null, .int 0, .null, .null, .int 0, .int 0, .int 0, .int 0])), (g0, .inr (4, [.int (nI Ww), .int (nI Hh), .int (nI Pp), .ref c1, .ref c2, .ref c3]))] sz) := by
 refine Met.ofW (cc := b_Walk_init) (maxL := 4) (ret := none) (by decide) rfl ?_
 intro p e s m args below meth c s₁ B hml hv
 obtain ⟨rfl, hsz, hP, hK, hD0⟩ := hv
 have hx := B.exec
 have hb := B.bytes
 have hr := B.returns
 have hts := atoms_spec (ws := w_Walk_init) B.pre
 have hown : s.vm.findClass R_Walk = some m.cls := findClass_of_methodNamed B.named
 have hlocks := B.notSynchronized
 have hin : meth.name = "<init>" := (name_of_methodNamed B.named B.method).1
 subst hsz
 have hD := hD0.self (sz := s.heap.size)
 generalize hAe : va_A [(h0, .inr (10, [.null, .int 0, .null, .null, .int 0, .int 0, .int 0, .int 0])), (g0, .inr (4, [.int (nI Ww), .int (nI Hh), .int (nI Pp), .ref c1, .ref c2, .ref c3]))] s.heap.size = A at hD ⊢
 have hA : ∀ q : Nat, s.heap.size ≤ q → A q := fun q h => by rw [← hAe]; exact Or.inr h
 have hS : va_S A s.heap s.heap [] := va_S.rf
 have hl := lv_entry ([.ref h0, .ref g0, .ref p0]) (n := 4) (Nat.le_of_ble_eq_true rfl)
 rw [lg_entry_eq]
 generalize (lg_sl ([.ref h0, .ref g0, .ref p0]) ++ List.replicate (4 - (lg_sl ([.ref h0, .ref g0, .ref p0])).length) Slot.unset).toArray = ls at hl ⊢
 have hl : lv_has ls 4 [(0, .ref h0), (1, .ref g0), (2, .ref p0)] := hl
 refine lv_aload_n hx hb d_Walk_init_0 rfl (lv_at hl 0 rfl) ?_
 refine W.objInit hx hb hown (hts _ (List.mem_cons_of_mem _ kw_219)) (hts _ (List.mem_cons_of_mem _ kw_72)) (hts _ (List.mem_cons_of_mem _ kw_73)) rfl (by rw [hml]; exact hl.1) rfl d_Walk_init_1 (Nat.le_of_ble_eq_true rfl) (Nat.le_of_ble_eq_true rfl) ?_
 refine W.eq (g2 := F0 m 4 ls []) rfl ?_
 refine lv_aload_n hx hb d_Walk_init_4 rfl (lv_at hl 0 rfl) ?_
 refine lv_aload_n hx hb d_Walk_init_5 rfl (lv_at hl 2 rfl) ?_
 refine va_putF (D := D) (ci := 10) (v := .ref p0) (ty := .object "PictureInlays$Pieces") (C := R_Walk) (T := T_Walk) (N := 8) hx hb hts in_Walk ty_Walk tyok_Walk nm_Walk hown hK hP hD hS 0 rfl rfl 0 (by decide) (hts _ (List.mem_cons_of_mem _ kw_220)) (fun _ h9 => h9) rfl hin rfl (by decide +kernel) rfl rfl (Nat.le_of_ble_eq_true rfl) d_Walk_init_6 (fun H locs hP hD hS => ?_)
 have hP : va_P D vwCl [(h0, .inr (10, [.ref p0, .int 0, .null, .null, .int 0, .int 0, .int 0, .int 0])), (g0, .inr (4, [.int (nI Ww), .int (nI Hh), .int (nI Pp), .ref c1, .ref c2, .ref c3]))] H := hP
 have hD : va_D A [(h0, .inr (10, [.ref p0, .int 0, .null, .null, .int 0, .int 0, .int 0, .int 0])), (g0, .inr (4, [.int (nI Ww), .int (nI Hh), .int (nI Pp), .ref c1, .ref c2, .ref c3]))] := hD
 refine lv_aload_n hx hb d_Walk_init_9 rfl (lv_at hl 0 rfl) ?_
 refine lv_aload_n hx hb d_Walk_init_10 rfl (lv_at hl 1 rfl) ?_
 refine va_get (D := D) (ci := 4) (v := .int (nI Pp)) (C := R_Grid) (T := T_Grid) (N := 6) hx hb hts in_Grid hown hK hP 1 rfl rfl 2 (by decide) (hts _ (List.mem_cons_of_mem _ kw_108)) (fun _ h9 => h9) rfl d_Walk_init_11 ?_
 refine lv_iconst (v := 4) hx hb d_Walk_init_14 (by decide) ?_
 refine lv_imul hx hb d_Walk_init_15 ?_
 refine va_putF (D := D) (ci := 10) (v := .int ((nI Pp) * 4)) (ty := .int) (C := R_Walk) (T := T_Walk) (N := 8) hx hb hts in_Walk ty_Walk tyok_Walk nm_Walk hown hK hP hD hS 0 rfl rfl 1 (by decide) (hts _ (List.mem_cons_of_mem _ kw_221)) (fun _ h9 => h9) rfl hin rfl (by decide +kernel) rfl rfl (Nat.le_of_ble_eq_true rfl) d_Walk_init_16 (fun H locs hP hD hS => ?_)
 have hP : va_P D vwCl [(h0, .inr (10, [.ref p0, .int ((nI Pp) * 4), .null, .null, .int 0, .int 0, .int 0, .int 0])), (g0, .inr (4, [.int (nI Ww), .int (nI Hh), .int (nI Pp), .ref c1, .ref c2, .ref c3]))] H := hP
 have hD : va_D A [(h0, .inr (10, [.ref p0, .int ((nI Pp) * 4), .null, .null, .int 0, .int 0, .int 0, .int 0])), (g0, .inr (4, [.int (nI Ww), .int (nI Hh), .int (nI Pp), .ref c1, .ref c2, .ref c3]))] := hD
 refine lv_iconst (v := 2) hx hb d_Walk_init_19 (by decide) ?_
 refine lv_aload_n hx hb d_Walk_init_20 rfl (lv_at hl 1 rfl) ?_
 refine va_get (D := D) (ci := 4) (v := .int (nI Ww)) (C := R_Grid) (T := T_Grid) (N := 6) hx hb hts in_Grid hown hK hP 1 rfl rfl 0 (by decide) (hts _ (List.mem_cons_of_mem _ kw_98)) (fun _ h9 => h9) rfl d_Walk_init_21 ?_
 refine lv_iconst (v := 1) hx hb d_Walk_init_24 (by decide) ?_
 refine lv_iadd hx hb d_Walk_init_25 ?_
 refine lv_imul hx hb d_Walk_init_26 ?_
 refine lv_aload_n hx hb d_Walk_init_27 rfl (lv_at hl 1 rfl) ?_
 refine va_get (D := D) (ci := 4) (v := .int (nI Hh)) (C := R_Grid) (T := T_Grid) (N := 6) hx hb hts in_Grid hown hK hP 1 rfl rfl 1 (by decide) (hts _ (List.mem_cons_of_mem _ kw_103)) (fun _ h9 => h9) rfl d_Walk_init_28 ?_
 refine lv_iconst (v := 1) hx hb d_Walk_init_31 (by decide) ?_
 refine lv_iadd hx hb d_Walk_init_32 ?_
 refine lv_imul hx hb d_Walk_init_33 ?_
 refine lv_topi (fun t1 et1 => ?_)
 refine lv_istore_n (lv' := [(3, .int t1), (0, .ref h0), (1, .ref g0), (2, .ref p0)]) hx hb d_Walk_init_34 rfl hl (by decide) rfl (fun ls hl => ?_)
 refine lv_aload_n hx hb d_Walk_init_35 rfl (lv_at hl 1 rfl) ?_
 refine lv_iload_n hx hb d_Walk_init_36 rfl (lv_at hl 0 rfl) ?_
 refine pc_newi hx hb (hts _ (List.mem_cons_of_mem _ kw_128)) hK 0 rfl hP hD hS hA ((2 * (Ww + 1)) * (Hh + 1)) (et1.trans (by rw [show ((2 * ((nI Ww) + 1)) : Int32) = nI (2 * (Ww + 1)) from (by rw [show (2 : Int32) = nI 2 from rfl, show (((nI Ww) + 1) : Int32) = nI (Ww + 1) from (by rw [show ((nI Ww) : Int32) = nI Ww from rfl, show (1 : Int32) = nI 1 from rfl]; exact nI_add _ _)]; exact pk_mul _ _), show (((nI Hh) + 1) : Int32) = nI (Hh + 1) from (by rw [show ((nI Hh) : Int32) = nI Hh from rfl, show (1 : Int32) = nI 1 from rfl]; exact nI_add _ _)]; exact pk_mul _ _)) (by omega) (by show 0 + 1 ≤ 2; omega) (by show 0 + ((2 * (Ww + 1)) * (Hh + 1)) ≤ 1764; omega) d_Walk_init_37 (fun q2 H hP hD hS => ?_)
 refine W.cs (cells' := 1) (slots' := ((2 * (Ww + 1)) * (Hh + 1))) (by omega) (by omega) ?_
 have hP : va_P D vwCl [(h0, .inr (10, [.ref p0, .int ((nI Pp) * 4), .null, .null, .int 0, .int 0, .int 0, .int 0])), (g0, .inr (4, [.int (nI Ww), .int (nI Hh), .int (nI Pp), .ref c1, .ref c2, .ref c3])), (q2, .inl (cA, ((2 * (Ww + 1)) * (Hh + 1)), .inl (fun _ => 0)))] H := hP
 have hD : va_D A [(h0, .inr (10, [.ref p0, .int ((nI Pp) * 4), .null, .null, .int 0, .int 0, .int 0, .int 0])), (g0, .inr (4, [.int (nI Ww), .int (nI Hh), .int (nI Pp), .ref c1, .ref c2, .ref c3])), (q2, .inl (cA, ((2 * (Ww + 1)) * (Hh + 1)), .inl (fun _ => 0)))] := hD
 refine va_putF (D := D) (ci := 10) (v := .ref q2) (ty := .array .int) (C := R_Walk) (T := T_Walk) (N := 8) hx hb hts in_Walk ty_Walk tyok_Walk nm_Walk hown hK hP hD hS 0 rfl rfl 2 (by decide) (hts _ (List.mem_cons_of_mem _ kw_222)) (fun _ h9 => h9) rfl hin rfl (by decide +kernel) rfl rfl (Nat.le_of_ble_eq_true rfl) d_Walk_init_39 (fun H locs hP hD hS => ?_)
 have hP : va_P D vwCl [(h0, .inr (10, [.ref p0, .int ((nI Pp) * 4), .ref q2, .null, .int 0, .int 0, .int 0, .int 0])), (g0, .inr (4, [.int (nI Ww), .int (nI Hh), .int (nI Pp), .ref c1, .ref c2, .ref c3])), (q2, .inl (cA, ((2 * (Ww + 1)) * (Hh + 1)), .inl (fun _ => 0)))] H := hP
 have hD : va_D A [(h0, .inr (10, [.ref p0, .int ((nI Pp) * 4), .ref q2, .null, .int 0, .int 0, .int 0, .int 0])), (g0, .inr (4, [.int (nI Ww), .int (nI Hh), .int (nI Pp), .ref c1, .ref c2, .ref c3])), (q2, .inl (cA, ((2 * (Ww + 1)) * (Hh + 1)), .inl (fun _ => 0)))] := hD
 refine lv_aload_n hx hb d_Walk_init_42 rfl (lv_at hl 1 rfl) ?_
 refine lv_iload_n hx hb d_Walk_init_43 rfl (lv_at hl 0 rfl) ?_
 refine pc_newi hx hb (hts _ (List.mem_cons_of_mem _ kw_128)) hK 0 rfl hP hD hS hA ((2 * (Ww + 1)) * (Hh + 1)) (et1.trans (by rw [show ((2 * ((nI Ww) + 1)) : Int32) = nI (2 * (Ww + 1)) from (by rw [show (2 : Int32) = nI 2 from rfl, show (((nI Ww) + 1) : Int32) = nI (Ww + 1) from (by rw [show ((nI Ww) : Int32) = nI Ww from rfl, show (1 : Int32) = nI 1 from rfl]; exact nI_add _ _)]; exact pk_mul _ _), show (((nI Hh) + 1) : Int32) = nI (Hh + 1) from (by rw [show ((nI Hh) : Int32) = nI Hh from rfl, show (1 : Int32) = nI 1 from rfl]; exact nI_add _ _)]; exact pk_mul _ _)) (by omega) (by show 1 + 1 ≤ 2; omega) (by show ((2 * (Ww + 1)) * (Hh + 1)) + ((2 * (Ww + 1)) * (Hh + 1)) ≤ 1764; omega) d_Walk_init_44 (fun q3 H hP hD hS => ?_)
 refine W.cs (cells' := 2) (slots' := ((2 * (Ww + 1)) * (Hh + 1)) + ((2 * (Ww + 1)) * (Hh + 1))) (by omega) (by omega) ?_
 have hP : va_P D vwCl [(h0, .inr (10, [.ref p0, .int ((nI Pp) * 4), .ref q2, .null, .int 0, .int 0, .int 0, .int 0])), (g0, .inr (4, [.int (nI Ww), .int (nI Hh), .int (nI Pp), .ref c1, .ref c2, .ref c3])), (q2, .inl (cA, ((2 * (Ww + 1)) * (Hh + 1)), .inl (fun _ => 0))), (q3, .inl (cA, ((2 * (Ww + 1)) * (Hh + 1)), .inl (fun _ => 0)))] H := hP
 have hD : va_D A [(h0, .inr (10, [.ref p0, .int ((nI Pp) * 4), .ref q2, .null, .int 0, .int 0, .int 0, .int 0])), (g0, .inr (4, [.int (nI Ww), .int (nI Hh), .int (nI Pp), .ref c1, .ref c2, .ref c3])), (q2, .inl (cA, ((2 * (Ww + 1)) * (Hh + 1)), .inl (fun _ => 0))), (q3, .inl (cA, ((2 * (Ww + 1)) * (Hh + 1)), .inl (fun _ => 0)))] := hD
 refine va_putF (D := D) (ci := 10) (v := .ref q3) (ty := .array .int) (C := R_Walk) (T := T_Walk) (N := 8) hx hb hts in_Walk ty_Walk tyok_Walk nm_Walk hown hK hP hD hS 0 rfl rfl 3 (by decide) (hts _ (List.mem_cons_of_mem _ kw_223)) (fun _ h9 => h9) rfl hin rfl (by decide +kernel) rfl rfl (Nat.le_of_ble_eq_true rfl) d_Walk_init_46 (fun H locs hP hD hS => ?_)
 have hP : va_P D vwCl [(h0, .inr (10, [.ref p0, .int ((nI Pp) * 4), .ref q2, .ref q3, .int 0, .int 0, .int 0, .int 0])), (g0, .inr (4, [.int (nI Ww), .int (nI Hh), .int (nI Pp), .ref c1, .ref c2, .ref c3])), (q2, .inl (cA, ((2 * (Ww + 1)) * (Hh + 1)), .inl (fun _ => 0))), (q3, .inl (cA, ((2 * (Ww + 1)) * (Hh + 1)), .inl (fun _ => 0)))] H := hP
 have hD : va_D A [(h0, .inr (10, [.ref p0, .int ((nI Pp) * 4), .ref q2, .ref q3, .int 0, .int 0, .int 0, .int 0])), (g0, .inr (4, [.int (nI Ww), .int (nI Hh), .int (nI Pp), .ref c1, .ref c2, .ref c3])), (q2, .inl (cA, ((2 * (Ww + 1)) * (Hh + 1)), .inl (fun _ => 0))), (q3, .inl (cA, ((2 * (Ww + 1)) * (Hh + 1)), .inl (fun _ => 0)))] := hD
 refine lv_aload_n hx hb d_Walk_init_49 rfl (lv_at hl 1 rfl) ?_
 refine lv_iconst (v := 0) hx hb d_Walk_init_50 (by decide) ?_
 refine va_put (D := D) (ci := 10) (v := .int 0) (ty := .int) (C := R_Walk) (T := T_Walk) (N := 8) hx hb hts in_Walk ty_Walk tyok_Walk nm_Walk hown hK hP hD hS 0 rfl rfl 4 (by decide) (hts _ (List.mem_cons_of_mem _ kw_224)) (fun _ h9 => h9) rfl (by decide +kernel) rfl rfl (Nat.le_of_ble_eq_true rfl) d_Walk_init_51 (fun H locs hP hD hS => ?_)
 have hP : va_P D vwCl [(h0, .inr (10, [.ref p0, .int ((nI Pp) * 4), .ref q2, .ref q3, .int 0, .int 0, .int 0, .int 0])), (g0, .inr (4, [.int (nI Ww), .int (nI Hh), .int (nI Pp), .ref c1, .ref c2, .ref c3])), (q2, .inl (cA, ((2 * (Ww + 1)) * (Hh + 1)), .inl (fun _ => 0))), (q3, .inl (cA, ((2 * (Ww + 1)) * (Hh + 1)), .inl (fun _ => 0)))] H := hP
 have hD : va_D A [(h0, .inr (10, [.ref p0, .int ((nI Pp) * 4), .ref q2, .ref q3, .int 0, .int 0, .int 0, .int 0])), (g0, .inr (4, [.int (nI Ww), .int (nI Hh), .int (nI Pp), .ref c1, .ref c2, .ref c3])), (q2, .inl (cA, ((2 * (Ww + 1)) * (Hh + 1)), .inl (fun _ => 0))), (q3, .inl (cA, ((2 * (Ww + 1)) * (Hh + 1)), .inl (fun _ => 0)))] := hD
 refine lv_aload_n hx hb d_Walk_init_54 rfl (lv_at hl 1 rfl) ?_
 refine lv_iconst (v := 0) hx hb d_Walk_init_55 (by decide) ?_
 refine va_put (D := D) (ci := 10) (v := .int 0) (ty := .int) (C := R_Walk) (T := T_Walk) (N := 8) hx hb hts in_Walk ty_Walk tyok_Walk nm_Walk hown hK hP hD hS 0 rfl rfl 5 (by decide) (hts _ (List.mem_cons_of_mem _ kw_225)) (fun _ h9 => h9) rfl (by decide +kernel) rfl rfl (Nat.le_of_ble_eq_true rfl) d_Walk_init_56 (fun H locs hP hD hS => ?_)
 have hP : va_P D vwCl [(h0, .inr (10, [.ref p0, .int ((nI Pp) * 4), .ref q2, .ref q3, .int 0, .int 0, .int 0, .int 0])), (g0, .inr (4, [.int (nI Ww), .int (nI Hh), .int (nI Pp), .ref c1, .ref c2, .ref c3])), (q2, .inl (cA, ((2 * (Ww + 1)) * (Hh + 1)), .inl (fun _ => 0))), (q3, .inl (cA, ((2 * (Ww + 1)) * (Hh + 1)), .inl (fun _ => 0)))] H := hP
 have hD : va_D A [(h0, .inr (10, [.ref p0, .int ((nI Pp) * 4), .ref q2, .ref q3, .int 0, .int 0, .int 0, .int 0])), (g0, .inr (4, [.int (nI Ww), .int (nI Hh), .int (nI Pp), .ref c1, .ref c2, .ref c3])), (q2, .inl (cA, ((2 * (Ww + 1)) * (Hh + 1)), .inl (fun _ => 0))), (q3, .inl (cA, ((2 * (Ww + 1)) * (Hh + 1)), .inl (fun _ => 0)))] := hD
 refine lv_aload_n hx hb d_Walk_init_59 rfl (lv_at hl 1 rfl) ?_
 refine lv_iconst (v := 0) hx hb d_Walk_init_60 (by decide) ?_
 refine va_put (D := D) (ci := 10) (v := .int 0) (ty := .int) (C := R_Walk) (T := T_Walk) (N := 8) hx hb hts in_Walk ty_Walk tyok_Walk nm_Walk hown hK hP hD hS 0 rfl rfl 6 (by decide) (hts _ (List.mem_cons_of_mem _ kw_226)) (fun _ h9 => h9) rfl (by decide +kernel) rfl rfl (Nat.le_of_ble_eq_true rfl) d_Walk_init_61 (fun H locs hP hD hS => ?_)
 have hP : va_P D vwCl [(h0, .inr (10, [.ref p0, .int ((nI Pp) * 4), .ref q2, .ref q3, .int 0, .int 0, .int 0, .int 0])), (g0, .inr (4, [.int (nI Ww), .int (nI Hh), .int (nI Pp), .ref c1, .ref c2, .ref c3])), (q2, .inl (cA, ((2 * (Ww + 1)) * (Hh + 1)), .inl (fun _ => 0))), (q3, .inl (cA, ((2 * (Ww + 1)) * (Hh + 1)), .inl (fun _ => 0)))] H := hP
 have hD : va_D A [(h0, .inr (10, [.ref p0, .int ((nI Pp) * 4), .ref q2, .ref q3, .int 0, .int 0, .int 0, .int 0])), (g0, .inr (4, [.int (nI Ww), .int (nI Hh), .int (nI Pp), .ref c1, .ref c2, .ref c3])), (q2, .inl (cA, ((2 * (Ww + 1)) * (Hh + 1)), .inl (fun _ => 0))), (q3, .inl (cA, ((2 * (Ww + 1)) * (Hh + 1)), .inl (fun _ => 0)))] := hD
 refine lv_aload_n hx hb d_Walk_init_64 rfl (lv_at hl 1 rfl) ?_
 refine lv_iconst (v := 0) hx hb d_Walk_init_65 (by decide) ?_
 refine va_put (D := D) (ci := 10) (v := .int 0) (ty := .int) (C := R_Walk) (T := T_Walk) (N := 8) hx hb hts in_Walk ty_Walk tyok_Walk nm_Walk hown hK hP hD hS 0 rfl rfl 7 (by decide) (hts _ (List.mem_cons_of_mem _ kw_227)) (fun _ h9 => h9) rfl (by decide +kernel) rfl rfl (Nat.le_of_ble_eq_true rfl) d_Walk_init_66 (fun H locs hP hD hS => ?_)
 have hP : va_P D vwCl [(h0, .inr (10, [.ref p0, .int ((nI Pp) * 4), .ref q2, .ref q3, .int 0, .int 0, .int 0, .int 0])), (g0, .inr (4, [.int (nI Ww), .int (nI Hh), .int (nI Pp), .ref c1, .ref c2, .ref c3])), (q2, .inl (cA, ((2 * (Ww + 1)) * (Hh + 1)), .inl (fun _ => 0))), (q3, .inl (cA, ((2 * (Ww + 1)) * (Hh + 1)), .inl (fun _ => 0)))] H := hP
 have hD : va_D A [(h0, .inr (10, [.ref p0, .int ((nI Pp) * 4), .ref q2, .ref q3, .int 0, .int 0, .int 0, .int 0])), (g0, .inr (4, [.int (nI Ww), .int (nI Hh), .int (nI Pp), .ref c1, .ref c2, .ref c3])), (q2, .inl (cA, ((2 * (Ww + 1)) * (Hh + 1)), .inl (fun _ => 0))), (q3, .inl (cA, ((2 * (Ww + 1)) * (Hh + 1)), .inl (fun _ => 0)))] := hD
 refine W.widen (k := 2) (n := 1764) (by omega) (by omega) ?_
 exact W.vret hx hb hr (fun t ht hW => ⟨⟨(fun k => if k = 0 then q2 else if k = 1 then q3 else 0), rfl, trivial, by rw [ht]; exact hP, va_K.moved hW.alike hK, hD⟩, hS.F ht⟩) hS.2.2 d_Walk_init_69 hlocks
set_option maxHeartbeats 4000000 in
set_option maxRecDepth 100000 in
theorem kt_Tool (l : Launch) (D : va_G) (cA cZ : ClassId) (h0 sz : Nat) (g0 Ww Hh Pp c1 c2 c3 : Nat) (p0 : Nat) (hN : Pp ≤ 400) : Met l y_Tool_init w_Tool_init ({ frames := 1, cells := 1, slots := 400, locals := 12 } : Room) (va_Pc [.ref h0, .ref g0, .ref p0] (pc_pre D [(h0, .inr (9, [.null, .null, .null, .int 0])), (g0, .inr (4, [.int (nI Ww), .int (nI Hh), .int (nI Pp), .ref c1, .ref c2, .ref c3]))] (cT cA cZ) sz)) (va_Qv (fun _ : Nat → Nat => True) (pc_B D (fun q => [(h0, .inr (9, [.ref g0, .ref p0, .ref (q 0), .int 0])), (g0, .inr (4, [.int (nI Ww), .int (nI Hh), .int (nI Pp), .ref c1, .ref c2, .ref c3])), ((q 0), .inl (cZ, Pp, .inl (fun _ => 0)))]) (cT cA cZ) (va_A [(h0, .inr (9, [.null, .null, .null, .int 0])), (g0, .inr (4, [.int (nI Ww), .int (nI Hh), .int (nI Pp), .ref c1, .ref c2, .ref c3]))] sz)) (va_A [(h0, .inr (9, [.null, .null, .null, .int 0])), (g0, .inr (4, [.int (nI Ww), .int (nI Hh), .int (nI Pp), .ref c1, .ref c2, .ref c3]))] sz)) 1 400 (va_A [(h0, .inr (9, [.null, .null, .null, .int 0])), (g0, .inr (4, [.int (nI Ww), .int (nI Hh), .int (nI Pp), .ref c1, .ref c2, .ref c3]))] sz) := by
 refine Met.ofW (cc := b_Tool_init) (maxL := 3) (ret := none) (by decide) rfl ?_
 intro p e s m args below meth c s₁ B hml hv
 obtain ⟨rfl, hsz, hP, hK, hD0⟩ := hv
 have hx := B.exec
 have hb := B.bytes
 have hr := B.returns
 have hts := atoms_spec (ws := w_Tool_init) B.pre
 have hown : s.vm.findClass R_Tool = some m.cls := findClass_of_methodNamed B.named
 have hlocks := B.notSynchronized
 have hin : meth.name = "<init>" := (name_of_methodNamed B.named B.method).1
 subst hsz
 have hD := hD0.self (sz := s.heap.size)
 generalize hAe : va_A [(h0, .inr (9, [.null, .null, .null, .int 0])), (g0, .inr (4, [.int (nI Ww), .int (nI Hh), .int (nI Pp), .ref c1, .ref c2, .ref c3]))] s.heap.size = A at hD ⊢
 have hA : ∀ q : Nat, s.heap.size ≤ q → A q := fun q h => by rw [← hAe]; exact Or.inr h
 have hS : va_S A s.heap s.heap [] := va_S.rf
 have hl := lv_entry ([.ref h0, .ref g0, .ref p0]) (n := 3) (Nat.le_of_ble_eq_true rfl)
 rw [lg_entry_eq]
 generalize (lg_sl ([.ref h0, .ref g0, .ref p0]) ++ List.replicate (3 - (lg_sl ([.ref h0, .ref g0, .ref p0])).length) Slot.unset).toArray = ls at hl ⊢
 have hl : lv_has ls 3 [(0, .ref h0), (1, .ref g0), (2, .ref p0)] := hl
 refine lv_aload_n hx hb d_Tool_init_0 rfl (lv_at hl 0 rfl) ?_
 refine W.objInit hx hb hown (hts _ (List.mem_cons_of_mem _ kw_251)) (hts _ (List.mem_cons_of_mem _ kw_72)) (hts _ (List.mem_cons_of_mem _ kw_73)) rfl (by rw [hml]; exact hl.1) rfl d_Tool_init_1 (Nat.le_of_ble_eq_true rfl) (Nat.le_of_ble_eq_true rfl) ?_
 refine W.eq (g2 := F0 m 4 ls []) rfl ?_
 refine lv_aload_n hx hb d_Tool_init_4 rfl (lv_at hl 0 rfl) ?_
 refine lv_aload_n hx hb d_Tool_init_5 rfl (lv_at hl 1 rfl) ?_
 refine va_putF (D := D) (ci := 9) (v := .ref g0) (ty := .object "PictureInlays$Grid") (C := R_Tool) (T := T_Tool) (N := 4) hx hb hts in_Tool ty_Tool tyok_Tool nm_Tool hown hK hP hD hS 0 rfl rfl 0 (by decide) (hts _ (List.mem_cons_of_mem _ kw_252)) (fun _ h9 => h9) rfl hin rfl (by decide +kernel) rfl rfl (Nat.le_of_ble_eq_true rfl) d_Tool_init_6 (fun H locs hP hD hS => ?_)
 have hP : va_P D vwCl [(h0, .inr (9, [.ref g0, .null, .null, .int 0])), (g0, .inr (4, [.int (nI Ww), .int (nI Hh), .int (nI Pp), .ref c1, .ref c2, .ref c3]))] H := hP
 have hD : va_D A [(h0, .inr (9, [.ref g0, .null, .null, .int 0])), (g0, .inr (4, [.int (nI Ww), .int (nI Hh), .int (nI Pp), .ref c1, .ref c2, .ref c3]))] := hD
 refine lv_aload_n hx hb d_Tool_init_9 rfl (lv_at hl 0 rfl) ?_
 refine lv_aload_n hx hb d_Tool_init_10 rfl (lv_at hl 2 rfl) ?_
 refine va_putF (D := D) (ci := 9) (v := .ref p0) (ty := .object "PictureInlays$Pieces") (C := R_Tool) (T := T_Tool) (N := 4) hx hb hts in_Tool ty_Tool tyok_Tool nm_Tool hown hK hP hD hS 0 rfl rfl 1 (by decide) (hts _ (List.mem_cons_of_mem _ kw_253)) (fun _ h9 => h9) rfl hin rfl (by decide +kernel) rfl rfl (Nat.le_of_ble_eq_true rfl) d_Tool_init_11 (fun H locs hP hD hS => ?_)
 have hP : va_P D vwCl [(h0, .inr (9, [.ref g0, .ref p0, .null, .int 0])), (g0, .inr (4, [.int (nI Ww), .int (nI Hh), .int (nI Pp), .ref c1, .ref c2, .ref c3]))] H := hP
 have hD : va_D A [(h0, .inr (9, [.ref g0, .ref p0, .null, .int 0])), (g0, .inr (4, [.int (nI Ww), .int (nI Hh), .int (nI Pp), .ref c1, .ref c2, .ref c3]))] := hD
 refine lv_aload_n hx hb d_Tool_init_14 rfl (lv_at hl 0 rfl) ?_
 refine lv_aload_n hx hb d_Tool_init_15 rfl (lv_at hl 1 rfl) ?_
 refine va_get (D := D) (ci := 4) (v := .int (nI Pp)) (C := R_Grid) (T := T_Grid) (N := 6) hx hb hts in_Grid hown hK hP 1 rfl rfl 2 (by decide) (hts _ (List.mem_cons_of_mem _ kw_109)) (fun _ h9 => h9) rfl d_Tool_init_16 ?_
 refine pc_newz hx hb (hts _ (List.mem_cons_of_mem _ kw_266)) hK 1 rfl hP hD hS hA Pp rfl (by omega) (by show 0 + 1 ≤ 1; omega) (by show 0 + Pp ≤ 400; omega) d_Tool_init_19 (fun q1 H hP hD hS => ?_)
 refine W.cs (cells' := 1) (slots' := Pp) (by omega) (by omega) ?_
 have hP : va_P D vwCl [(h0, .inr (9, [.ref g0, .ref p0, .null, .int 0])), (g0, .inr (4, [.int (nI Ww), .int (nI Hh), .int (nI Pp), .ref c1, .ref c2, .ref c3])), (q1, .inl (cZ, Pp, .inl (fun _ => 0)))] H := hP
 have hD : va_D A [(h0, .inr (9, [.ref g0, .ref p0, .null, .int 0])), (g0, .inr (4, [.int (nI Ww), .int (nI Hh), .int (nI Pp), .ref c1, .ref c2, .ref c3])), (q1, .inl (cZ, Pp, .inl (fun _ => 0)))] := hD
 refine va_putF (D := D) (ci := 9) (v := .ref q1) (ty := .array .boolean) (C := R_Tool) (T := T_Tool) (N := 4) hx hb hts in_Tool ty_Tool tyok_Tool nm_Tool hown hK hP hD hS 0 rfl rfl 2 (by decide) (hts _ (List.mem_cons_of_mem _ kw_254)) (fun _ h9 => h9) rfl hin rfl (by decide +kernel) rfl rfl (Nat.le_of_ble_eq_true rfl) d_Tool_init_21 (fun H locs hP hD hS => ?_)
 have hP : va_P D vwCl [(h0, .inr (9, [.ref g0, .ref p0, .ref q1, .int 0])), (g0, .inr (4, [.int (nI Ww), .int (nI Hh), .int (nI Pp), .ref c1, .ref c2, .ref c3])), (q1, .inl (cZ, Pp, .inl (fun _ => 0)))] H := hP
 have hD : va_D A [(h0, .inr (9, [.ref g0, .ref p0, .ref q1, .int 0])), (g0, .inr (4, [.int (nI Ww), .int (nI Hh), .int (nI Pp), .ref c1, .ref c2, .ref c3])), (q1, .inl (cZ, Pp, .inl (fun _ => 0)))] := hD
 refine lv_aload_n hx hb d_Tool_init_24 rfl (lv_at hl 0 rfl) ?_
 refine lv_iconst (v := 0) hx hb d_Tool_init_25 (by decide) ?_
 refine va_put (D := D) (ci := 9) (v := .int 0) (ty := .int) (C := R_Tool) (T := T_Tool) (N := 4) hx hb hts in_Tool ty_Tool tyok_Tool nm_Tool hown hK hP hD hS 0 rfl rfl 3 (by decide) (hts _ (List.mem_cons_of_mem _ kw_255)) (fun _ h9 => h9) rfl (by decide +kernel) rfl rfl (Nat.le_of_ble_eq_true rfl) d_Tool_init_26 (fun H locs hP hD hS => ?_)
 have hP : va_P D vwCl [(h0, .inr (9, [.ref g0, .ref p0, .ref q1, .int 0])), (g0, .inr (4, [.int (nI Ww), .int (nI Hh), .int (nI Pp), .ref c1, .ref c2, .ref c3])), (q1, .inl (cZ, Pp, .inl (fun _ => 0)))] H := hP
 have hD : va_D A [(h0, .inr (9, [.ref g0, .ref p0, .ref q1, .int 0])), (g0, .inr (4, [.int (nI Ww), .int (nI Hh), .int (nI Pp), .ref c1, .ref c2, .ref c3])), (q1, .inl (cZ, Pp, .inl (fun _ => 0)))] := hD
 refine W.widen (k := 1) (n := 400) (by omega) (by omega) ?_
 exact W.vret hx hb hr (fun t ht hW => ⟨⟨(fun k => if k = 0 then q1 else 0), rfl, trivial, by rw [ht]; exact hP, va_K.moved hW.alike hK, hD⟩, hS.F ht⟩) hS.2.2 d_Tool_init_29 hlocks
set_option maxHeartbeats 4000000 in
set_option maxRecDepth 100000 in
theorem kt_Sheet (l : Launch) (D : va_G) (cA cZ : ClassId) (h0 sz : Nat) (p0 N : Nat) (hN : N ≤ 400) : Met l y_Sheet_init w_Sheet_init ({ frames := 3, cells := 7, slots := 2402, locals := 55 } : Room) (va_Pc [.ref h0, .ref p0, .int (nI N)] (pc_pre D [(h0, .inr (8, [.null, .null, .null, .null, .null, .null, .null, .int 0, .int 0]))] (cT cA cZ) sz)) (va_Qv (fun _ : Nat → Nat => True) (pc_B D (fun q => [(h0, .inr (8, [.ref p0, .ref (q 0), .ref (q 2), .ref (q 3), .ref (q 4), .ref (q 5), .ref (q 6), .int 0, .int 0])), ((q 0), .inr (5, [.ref (q 1), .ref p0])), ((q 1), .inl (cA, N, .inl (fun _ => 0))), ((q 2), .inl (cA, N, .inl (fun _ => 0))), ((q 3), .inl (cA, N, .inl (fun _ => 0))), ((q 4), .inl (cA, N, .inl (fun _ => 0))), ((q 5), .inl (cA, N, .inl (fun _ => 0))), ((q 6), .inl (cA, N, .inl (fun _ => 0)))]) (cT cA cZ) (va_A [(h0, .inr (8, [.null, .null, .null, .null, .null, .null, .null, .int 0, .int 0]))] sz)) (va_A [(h0, .inr (8, [.null, .null, .null, .null, .null, .null, .null, .int 0, .int 0]))] sz)) 7 2402 (va_A [(h0, .inr (8, [.null, .null, .null, .null, .null, .null, .null, .int 0, .int 0]))] sz) := by
 refine Met.ofW (cc := b_Sheet_init) (maxL := 3) (ret := none) (by decide) rfl ?_
 intro p e s m args below meth c s₁ B hml hv
 obtain ⟨rfl, hsz, hP, hK, hD0⟩ := hv
 have hx := B.exec
 have hb := B.bytes
 have hr := B.returns
 have hts := atoms_spec (ws := w_Sheet_init) B.pre
 have hown : s.vm.findClass R_Sheet = some m.cls := findClass_of_methodNamed B.named
 have hlocks := B.notSynchronized
 have hin : meth.name = "<init>" := (name_of_methodNamed B.named B.method).1
 subst hsz
 have hD := hD0.self (sz := s.heap.size)
 generalize hAe : va_A [(h0, .inr (8, [.null, .null, .null, .null, .null, .null, .null, .int 0, .int 0]))] s.heap.size = A at hD ⊢
 have hA : ∀ q : Nat, s.heap.size ≤ q → A q := fun q h => by rw [← hAe]; exact Or.inr h
 have hS : va_S A s.heap s.heap [] := va_S.rf
 have hl := lv_entry ([.ref h0, .ref p0, .int (nI N)]) (n := 3) (Nat.le_of_ble_eq_true rfl)
 rw [lg_entry_eq]
 generalize (lg_sl ([.ref h0, .ref p0, .int (nI N)]) ++ List.replicate (3 - (lg_sl ([.ref h0, .ref p0, .int (nI N)])).length) Slot.unset).toArray = ls at hl ⊢
 have hl : lv_has ls 3 [(0, .ref h0), (1, .ref p0), (2, .int (nI N))] := hl
 refine lv_aload_n hx hb d_Sheet_init_0 rfl (lv_at hl 0 rfl) ?_
 refine W.objInit hx hb hown (hts _ (List.mem_cons_of_mem _ kw_272)) (hts _ (List.mem_cons_of_mem _ kw_72)) (hts _ (List.mem_cons_of_mem _ kw_73)) rfl (by rw [hml]; exact hl.1) rfl d_Sheet_init_1 (Nat.le_of_ble_eq_true rfl) (Nat.le_of_ble_eq_true rfl) ?_
 refine W.eq (g2 := F0 m 4 ls []) rfl ?_
 refine lv_aload_n hx hb d_Sheet_init_4 rfl (lv_at hl 0 rfl) ?_
 refine lv_aload_n hx hb d_Sheet_init_5 rfl (lv_at hl 1 rfl) ?_
 refine va_putF (D := D) (ci := 8) (v := .ref p0) (ty := .object "PictureInlays$Pieces") (C := R_Sheet) (T := T_Sheet) (N := 9) hx hb hts in_Sheet ty_Sheet tyok_Sheet nm_Sheet hown hK hP hD hS 0 rfl rfl 0 (by decide) (hts _ (List.mem_cons_of_mem _ kw_284)) (fun _ h9 => h9) rfl hin rfl (by decide +kernel) rfl rfl (Nat.le_of_ble_eq_true rfl) d_Sheet_init_6 (fun H locs hP hD hS => ?_)
 have hP : va_P D vwCl [(h0, .inr (8, [.ref p0, .null, .null, .null, .null, .null, .null, .int 0, .int 0]))] H := hP
 have hD : va_D A [(h0, .inr (8, [.ref p0, .null, .null, .null, .null, .null, .null, .int 0, .int 0]))] := hD
 refine lv_aload_n hx hb d_Sheet_init_9 rfl (lv_at hl 0 rfl) ?_
 refine va_new (ci := 5) (fs := [.null, .null]) (C := R_Highest) (T := T_Highest) (N := 2) hx hb hts in_Highest ty_Highest tyok_Highest hown (hts _ (List.mem_cons_of_mem _ kw_273)) (hts _ (List.mem_cons_of_mem _ kw_274)) (hts _ (List.mem_cons_of_mem _ kw_56)) hK hP hD hS hA rfl (fun j hj => match j, hj with | 0, _ => rfl | 1, _ => rfl | (n + 2), h => absurd h (by omega)) (by show 0 + 1 ≤ 7; omega) (by show 0 + 2 ≤ 2402; omega) d_Sheet_init_10 (fun q1 H hP hD hS => ?_)
 refine W.cs (cells' := 1) (slots' := 2) (by omega) (by omega) ?_
 have hP : va_P D vwCl [(h0, .inr (8, [.ref p0, .null, .null, .null, .null, .null, .null, .int 0, .int 0])), (q1, .inr (5, [.null, .null]))] H := hP
 have hD : va_D A [(h0, .inr (8, [.ref p0, .null, .null, .null, .null, .null, .null, .int 0, .int 0])), (q1, .inr (5, [.null, .null]))] := hD
 refine lv_dup hx hb d_Sheet_init_13 rfl ?_
 refine lv_aload_n hx hb d_Sheet_init_14 rfl (lv_at hl 1 rfl) ?_
 refine lv_iload_n hx hb d_Sheet_init_15 rfl (lv_at hl 2 rfl) ?_
 have hPc := hP.sub (ws' := [(q1, .inr (5, [.null, .null]))]) [1] rfl
 have hDc := hD.sub (ws' := [(q1, .inr (5, [.null, .null]))]) [1] (by decide) rfl
 have hFc := va_free (wc := [(q1, .inr (5, [.null, .null]))]) hD hS hA [1] rfl
 refine va_callv (va_runI (As := [.ref p0, .int (nI N)]) (rest := [.ref q1, .ref h0]) ⟨hx, hb, hml, hown, hts⟩ (kt_Highest l D cA cZ q1 _ p0 N (by omega)) (pc_cwI 2 hts kw_277 kw_56 kw_275 kw_276 rfl (by decide +kernel) ⟨Nat.le_of_ble_eq_true rfl, Nat.le_of_ble_eq_true rfl⟩) ⟨pc_blind, fun U hU hW => ⟨rfl, by rw [hU], by rw [hU]; exact hPc, va_K.moved hW.alike hK, hDc.weaken (fun _ _ _ _ => trivial)⟩⟩ rfl rfl hl.1 rfl (lv_room (Nat.le_of_ble_eq_true rfl)) d_Sheet_init_16 ⟨by show 1 + 1 ≤ 7; omega, by show 2 + 400 ≤ 2402; omega⟩) hS (fun q _ h => hFc q h) hFc (fun q2 t H1 locs ht hvm hw hB hz1 hk1 hS => ?_)
 obtain ⟨hP1, -, hD1⟩ := hB
 rw [ht] at hP1
 obtain ⟨hP, hD⟩ := va_join (wr := [(h0, .inr (8, [.ref p0, .null, .null, .null, .null, .null, .null, .int 0, .int 0]))]) (w1 := [(q1, .inr (5, [.ref (q2 0), .ref p0])), ((q2 0), .inl (cA, N, .inl (fun _ => 0)))]) hP hD [1] [0] rfl rfl (by decide) (by decide) hk1 hFc hP1 hD1
 generalize H1 = H at hP hS ⊢
 refine W.cs (cells' := 2) (slots' := 2 + 400) (by omega) (by omega) ?_
 have hP : va_P D vwCl [(h0, .inr (8, [.ref p0, .null, .null, .null, .null, .null, .null, .int 0, .int 0])), (q1, .inr (5, [.ref (q2 0), .ref p0])), ((q2 0), .inl (cA, N, .inl (fun _ => 0)))] H := hP
 have hD : va_D A [(h0, .inr (8, [.ref p0, .null, .null, .null, .null, .null, .null, .int 0, .int 0])), (q1, .inr (5, [.ref (q2 0), .ref p0])), ((q2 0), .inl (cA, N, .inl (fun _ => 0)))] := hD
 refine va_putF (D := D) (ci := 8) (v := .ref q1) (ty := .object "PictureInlays$Ranking") (C := R_Sheet) (T := T_Sheet) (N := 9) hx hb hts in_Sheet ty_Sheet tyok_Sheet nm_Sheet hown hK hP hD hS 0 rfl rfl 1 (by decide) (hts _ (List.mem_cons_of_mem _ kw_285)) (fun _ h9 => h9) rfl hin rfl (by decide +kernel) rfl rfl (Nat.le_of_ble_eq_true rfl) d_Sheet_init_19 (fun H locs hP hD hS => ?_)
 have hP : va_P D vwCl [(h0, .inr (8, [.ref p0, .ref q1, .null, .null, .null, .null, .null, .int 0, .int 0])), (q1, .inr (5, [.ref (q2 0), .ref p0])), ((q2 0), .inl (cA, N, .inl (fun _ => 0)))] H := hP
 have hD : va_D A [(h0, .inr (8, [.ref p0, .ref q1, .null, .null, .null, .null, .null, .int 0, .int 0])), (q1, .inr (5, [.ref (q2 0), .ref p0])), ((q2 0), .inl (cA, N, .inl (fun _ => 0)))] := hD
 refine lv_aload_n hx hb d_Sheet_init_22 rfl (lv_at hl 0 rfl) ?_
 refine lv_iload_n hx hb d_Sheet_init_23 rfl (lv_at hl 2 rfl) ?_
 refine pc_newi hx hb (hts _ (List.mem_cons_of_mem _ kw_128)) hK 0 rfl hP hD hS hA N rfl (by omega) (by show 2 + 1 ≤ 7; omega) (by show 2 + 400 + N ≤ 2402; omega) d_Sheet_init_24 (fun q3 H hP hD hS => ?_)
 refine W.cs (cells' := 3) (slots' := 2 + 400 + N) (by omega) (by omega) ?_
 have hP : va_P D vwCl [(h0, .inr (8, [.ref p0, .ref q1, .null, .null, .null, .null, .null, .int 0, .int 0])), (q1, .inr (5, [.ref (q2 0), .ref p0])), ((q2 0), .inl (cA, N, .inl (fun _ => 0))), (q3, .inl (cA, N, .inl (fun _ => 0)))] H := hP
 have hD : va_D A [(h0, .inr (8, [.ref p0, .ref q1, .null, .null, .null, .null, .null, .int 0, .int 0])), (q1, .inr (5, [.ref (q2 0), .ref p0])), ((q2 0), .inl (cA, N, .inl (fun _ => 0))), (q3, .inl (cA, N, .inl (fun _ => 0)))] := hD
 refine va_putF (D := D) (ci := 8) (v := .ref q3) (ty := .array .int) (C := R_Sheet) (T := T_Sheet) (N := 9) hx hb hts in_Sheet ty_Sheet tyok_Sheet nm_Sheet hown hK hP hD hS 0 rfl rfl 2 (by decide) (hts _ (List.mem_cons_of_mem _ kw_286)) (fun _ h9 => h9) rfl hin rfl (by decide +kernel) rfl rfl (Nat.le_of_ble_eq_true rfl) d_Sheet_init_26 (fun H locs hP hD hS => ?_)
 have hP : va_P D vwCl [(h0, .inr (8, [.ref p0, .ref q1, .ref q3, .null, .null, .null, .null, .int 0, .int 0])), (q1, .inr (5, [.ref (q2 0), .ref p0])), ((q2 0), .inl (cA, N, .inl (fun _ => 0))), (q3, .inl (cA, N, .inl (fun _ => 0)))] H := hP
 have hD : va_D A [(h0, .inr (8, [.ref p0, .ref q1, .ref q3, .null, .null, .null, .null, .int 0, .int 0])), (q1, .inr (5, [.ref (q2 0), .ref p0])), ((q2 0), .inl (cA, N, .inl (fun _ => 0))), (q3, .inl (cA, N, .inl (fun _ => 0)))] := hD
 refine lv_aload_n hx hb d_Sheet_init_29 rfl (lv_at hl 0 rfl) ?_
 refine lv_iload_n hx hb d_Sheet_init_30 rfl (lv_at hl 2 rfl) ?_
 refine pc_newi hx hb (hts _ (List.mem_cons_of_mem _ kw_128)) hK 0 rfl hP hD hS hA N rfl (by omega) (by show 3 + 1 ≤ 7; omega) (by show 2 + 400 + N + N ≤ 2402; omega) d_Sheet_init_31 (fun q4 H hP hD hS => ?_)
 refine W.cs (cells' := 4) (slots' := 2 + 400 + N + N) (by omega) (by omega) ?_
 have hP : va_P D vwCl [(h0, .inr (8, [.ref p0, .ref q1, .ref q3, .null, .null, .null, .null, .int 0, .int 0])), (q1, .inr (5, [.ref (q2 0), .ref p0])), ((q2 0), .inl (cA, N, .inl (fun _ => 0))), (q3, .inl (cA, N, .inl (fun _ => 0))), (q4, .inl (cA, N, .inl (fun _ => 0)))] H := hP
 have hD : va_D A [(h0, .inr (8, [.ref p0, .ref q1, .ref q3, .null, .null, .null, .null, .int 0, .int 0])), (q1, .inr (5, [.ref (q2 0), .ref p0])), ((q2 0), .inl (cA, N, .inl (fun _ => 0))), (q3, .inl (cA, N, .inl (fun _ => 0))), (q4, .inl (cA, N, .inl (fun _ => 0)))] := hD
 refine va_putF (D := D) (ci := 8) (v := .ref q4) (ty := .array .int) (C := R_Sheet) (T := T_Sheet) (N := 9) hx hb hts in_Sheet ty_Sheet tyok_Sheet nm_Sheet hown hK hP hD hS 0 rfl rfl 3 (by decide) (hts _ (List.mem_cons_of_mem _ kw_287)) (fun _ h9 => h9) rfl hin rfl (by decide +kernel) rfl rfl (Nat.le_of_ble_eq_true rfl) d_Sheet_init_33 (fun H locs hP hD hS => ?_)
 have hP : va_P D vwCl [(h0, .inr (8, [.ref p0, .ref q1, .ref q3, .ref q4, .null, .null, .null, .int 0, .int 0])), (q1, .inr (5, [.ref (q2 0), .ref p0])), ((q2 0), .inl (cA, N, .inl (fun _ => 0))), (q3, .inl (cA, N, .inl (fun _ => 0))), (q4, .inl (cA, N, .inl (fun _ => 0)))] H := hP
 have hD : va_D A [(h0, .inr (8, [.ref p0, .ref q1, .ref q3, .ref q4, .null, .null, .null, .int 0, .int 0])), (q1, .inr (5, [.ref (q2 0), .ref p0])), ((q2 0), .inl (cA, N, .inl (fun _ => 0))), (q3, .inl (cA, N, .inl (fun _ => 0))), (q4, .inl (cA, N, .inl (fun _ => 0)))] := hD
 refine lv_aload_n hx hb d_Sheet_init_36 rfl (lv_at hl 0 rfl) ?_
 refine lv_iload_n hx hb d_Sheet_init_37 rfl (lv_at hl 2 rfl) ?_
 refine pc_newi hx hb (hts _ (List.mem_cons_of_mem _ kw_128)) hK 0 rfl hP hD hS hA N rfl (by omega) (by show 4 + 1 ≤ 7; omega) (by show 2 + 400 + N + N + N ≤ 2402; omega) d_Sheet_init_38 (fun q5 H hP hD hS => ?_)
 refine W.cs (cells' := 5) (slots' := 2 + 400 + N + N + N) (by omega) (by omega) ?_
 have hP : va_P D vwCl [(h0, .inr (8, [.ref p0, .ref q1, .ref q3, .ref q4, .null, .null, .null, .int 0, .int 0])), (q1, .inr (5, [.ref (q2 0), .ref p0])), ((q2 0), .inl (cA, N, .inl (fun _ => 0))), (q3, .inl (cA, N, .inl (fun _ => 0))), (q4, .inl (cA, N, .inl (fun _ => 0))), (q5, .inl (cA, N, .inl (fun _ => 0)))] H := hP
 have hD : va_D A [(h0, .inr (8, [.ref p0, .ref q1, .ref q3, .ref q4, .null, .null, .null, .int 0, .int 0])), (q1, .inr (5, [.ref (q2 0), .ref p0])), ((q2 0), .inl (cA, N, .inl (fun _ => 0))), (q3, .inl (cA, N, .inl (fun _ => 0))), (q4, .inl (cA, N, .inl (fun _ => 0))), (q5, .inl (cA, N, .inl (fun _ => 0)))] := hD
 refine va_putF (D := D) (ci := 8) (v := .ref q5) (ty := .array .int) (C := R_Sheet) (T := T_Sheet) (N := 9) hx hb hts in_Sheet ty_Sheet tyok_Sheet nm_Sheet hown hK hP hD hS 0 rfl rfl 4 (by decide) (hts _ (List.mem_cons_of_mem _ kw_288)) (fun _ h9 => h9) rfl hin rfl (by decide +kernel) rfl rfl (Nat.le_of_ble_eq_true rfl) d_Sheet_init_40 (fun H locs hP hD hS => ?_)
 have hP : va_P D vwCl [(h0, .inr (8, [.ref p0, .ref q1, .ref q3, .ref q4, .ref q5, .null, .null, .int 0, .int 0])), (q1, .inr (5, [.ref (q2 0), .ref p0])), ((q2 0), .inl (cA, N, .inl (fun _ => 0))), (q3, .inl (cA, N, .inl (fun _ => 0))), (q4, .inl (cA, N, .inl (fun _ => 0))), (q5, .inl (cA, N, .inl (fun _ => 0)))] H := hP
 have hD : va_D A [(h0, .inr (8, [.ref p0, .ref q1, .ref q3, .ref q4, .ref q5, .null, .null, .int 0, .int 0])), (q1, .inr (5, [.ref (q2 0), .ref p0])), ((q2 0), .inl (cA, N, .inl (fun _ => 0))), (q3, .inl (cA, N, .inl (fun _ => 0))), (q4, .inl (cA, N, .inl (fun _ => 0))), (q5, .inl (cA, N, .inl (fun _ => 0)))] := hD
 refine lv_aload_n hx hb d_Sheet_init_43 rfl (lv_at hl 0 rfl) ?_
 refine lv_iload_n hx hb d_Sheet_init_44 rfl (lv_at hl 2 rfl) ?_
 refine pc_newi hx hb (hts _ (List.mem_cons_of_mem _ kw_128)) hK 0 rfl hP hD hS hA N rfl (by omega) (by show 5 + 1 ≤ 7; omega) (by show 2 + 400 + N + N + N + N ≤ 2402; omega) d_Sheet_init_45 (fun q6 H hP hD hS => ?_)
 refine W.cs (cells' := 6) (slots' := 2 + 400 + N + N + N + N) (by omega) (by omega) ?_
 have hP : va_P D vwCl [(h0, .inr (8, [.ref p0, .ref q1, .ref q3, .ref q4, .ref q5, .null, .null, .int 0, .int 0])), (q1, .inr (5, [.ref (q2 0), .ref p0])), ((q2 0), .inl (cA, N, .inl (fun _ => 0))), (q3, .inl (cA, N, .inl (fun _ => 0))), (q4, .inl (cA, N, .inl (fun _ => 0))), (q5, .inl (cA, N, .inl (fun _ => 0))), (q6, .inl (cA, N, .inl (fun _ => 0)))] H := hP
 have hD : va_D A [(h0, .inr (8, [.ref p0, .ref q1, .ref q3, .ref q4, .ref q5, .null, .null, .int 0, .int 0])), (q1, .inr (5, [.ref (q2 0), .ref p0])), ((q2 0), .inl (cA, N, .inl (fun _ => 0))), (q3, .inl (cA, N, .inl (fun _ => 0))), (q4, .inl (cA, N, .inl (fun _ => 0))), (q5, .inl (cA, N, .inl (fun _ => 0))), (q6, .inl (cA, N, .inl (fun _ => 0)))] := hD
 refine va_putF (D := D) (ci := 8) (v := .ref q6) (ty := .array .int) (C := R_Sheet) (T := T_Sheet) (N := 9) hx hb hts in_Sheet ty_Sheet tyok_Sheet nm_Sheet hown hK hP hD hS 0 rfl rfl 5 (by decide) (hts _ (List.mem_cons_of_mem _ kw_289)) (fun _ h9 => h9) rfl hin rfl (by decide +kernel) rfl rfl (Nat.le_of_ble_eq_true rfl) d_Sheet_init_47 (fun H locs hP hD hS => ?_)
 have hP : va_P D vwCl [(h0, .inr (8, [.ref p0, .ref q1, .ref q3, .ref q4, .ref q5, .ref q6, .null, .int 0, .int 0])), (q1, .inr (5, [.ref (q2 0), .ref p0])), ((q2 0), .inl (cA, N, .inl (fun _ => 0))), (q3, .inl (cA, N, .inl (fun _ => 0))), (q4, .inl (cA, N, .inl (fun _ => 0))), (q5, .inl (cA, N, .inl (fun _ => 0))), (q6, .inl (cA, N, .inl (fun _ => 0)))] H := hP
 have hD : va_D A [(h0, .inr (8, [.ref p0, .ref q1, .ref q3, .ref q4, .ref q5, .ref q6, .null, .int 0, .int 0])), (q1, .inr (5, [.ref (q2 0), .ref p0])), ((q2 0), .inl (cA, N, .inl (fun _ => 0))), (q3, .inl (cA, N, .inl (fun _ => 0))), (q4, .inl (cA, N, .inl (fun _ => 0))), (q5, .inl (cA, N, .inl (fun _ => 0))), (q6, .inl (cA, N, .inl (fun _ => 0)))] := hD
 refine lv_aload_n hx hb d_Sheet_init_50 rfl (lv_at hl 0 rfl) ?_
 refine lv_iload_n hx hb d_Sheet_init_51 rfl (lv_at hl 2 rfl) ?_
 refine pc_newi hx hb (hts _ (List.mem_cons_of_mem _ kw_128)) hK 0 rfl hP hD hS hA N rfl (by omega) (by show 6 + 1 ≤ 7; omega) (by show 2 + 400 + N + N + N + N + N ≤ 2402; omega) d_Sheet_init_52 (fun q7 H hP hD hS => ?_)
 refine W.cs (cells' := 7) (slots' := 2 + 400 + N + N + N + N + N) (by omega) (by omega) ?_
 have hP : va_P D vwCl [(h0, .inr (8, [.ref p0, .ref q1, .ref q3, .ref q4, .ref q5, .ref q6, .null, .int 0, .int 0])), (q1, .inr (5, [.ref (q2 0), .ref p0])), ((q2 0), .inl (cA, N, .inl (fun _ => 0))), (q3, .inl (cA, N, .inl (fun _ => 0))), (q4, .inl (cA, N, .inl (fun _ => 0))), (q5, .inl (cA, N, .inl (fun _ => 0))), (q6, .inl (cA, N, .inl (fun _ => 0))), (q7, .inl (cA, N, .inl (fun _ => 0)))] H := hP
 have hD : va_D A [(h0, .inr (8, [.ref p0, .ref q1, .ref q3, .ref q4, .ref q5, .ref q6, .null, .int 0, .int 0])), (q1, .inr (5, [.ref (q2 0), .ref p0])), ((q2 0), .inl (cA, N, .inl (fun _ => 0))), (q3, .inl (cA, N, .inl (fun _ => 0))), (q4, .inl (cA, N, .inl (fun _ => 0))), (q5, .inl (cA, N, .inl (fun _ => 0))), (q6, .inl (cA, N, .inl (fun _ => 0))), (q7, .inl (cA, N, .inl (fun _ => 0)))] := hD
 refine va_putF (D := D) (ci := 8) (v := .ref q7) (ty := .array .int) (C := R_Sheet) (T := T_Sheet) (N := 9) hx hb hts in_Sheet ty_Sheet tyok_Sheet nm_Sheet hown hK hP hD hS 0 rfl rfl 6 (by decide) (hts _ (List.mem_cons_of_mem _ kw_290)) (fun _ h9 => h9) rfl hin rfl (by decide +kernel) rfl rfl (Nat.le_of_ble_eq_true rfl) d_Sheet_init_54 (fun H locs hP hD hS => ?_)
 have hP : va_P D vwCl [(h0, .inr (8, [.ref p0, .ref q1, .ref q3, .ref q4, .ref q5, .ref q6, .ref q7, .int 0, .int 0])), (q1, .inr (5, [.ref (q2 0), .ref p0])), ((q2 0), .inl (cA, N, .inl (fun _ => 0))), (q3, .inl (cA, N, .inl (fun _ => 0))), (q4, .inl (cA, N, .inl (fun _ => 0))), (q5, .inl (cA, N, .inl (fun _ => 0))), (q6, .inl (cA, N, .inl (fun _ => 0))), (q7, .inl (cA, N, .inl (fun _ => 0)))] H := hP
 have hD : va_D A [(h0, .inr (8, [.ref p0, .ref q1, .ref q3, .ref q4, .ref q5, .ref q6, .ref q7, .int 0, .int 0])), (q1, .inr (5, [.ref (q2 0), .ref p0])), ((q2 0), .inl (cA, N, .inl (fun _ => 0))), (q3, .inl (cA, N, .inl (fun _ => 0))), (q4, .inl (cA, N, .inl (fun _ => 0))), (q5, .inl (cA, N, .inl (fun _ => 0))), (q6, .inl (cA, N, .inl (fun _ => 0))), (q7, .inl (cA, N, .inl (fun _ => 0)))] := hD
 refine lv_aload_n hx hb d_Sheet_init_57 rfl (lv_at hl 0 rfl) ?_
 refine lv_iconst (v := 0) hx hb d_Sheet_init_58 (by decide) ?_
 refine va_put (D := D) (ci := 8) (v := .int 0) (ty := .int) (C := R_Sheet) (T := T_Sheet) (N := 9) hx hb hts in_Sheet ty_Sheet tyok_Sheet nm_Sheet hown hK hP hD hS 0 rfl rfl 7 (by decide) (hts _ (List.mem_cons_of_mem _ kw_291)) (fun _ h9 => h9) rfl (by decide +kernel) rfl rfl (Nat.le_of_ble_eq_true rfl) d_Sheet_init_59 (fun H locs hP hD hS => ?_)
 have hP : va_P D vwCl [(h0, .inr (8, [.ref p0, .ref q1, .ref q3, .ref q4, .ref q5, .ref q6, .ref q7, .int 0, .int 0])), (q1, .inr (5, [.ref (q2 0), .ref p0])), ((q2 0), .inl (cA, N, .inl (fun _ => 0))), (q3, .inl (cA, N, .inl (fun _ => 0))), (q4, .inl (cA, N, .inl (fun _ => 0))), (q5, .inl (cA, N, .inl (fun _ => 0))), (q6, .inl (cA, N, .inl (fun _ => 0))), (q7, .inl (cA, N, .inl (fun _ => 0)))] H := hP
 have hD : va_D A [(h0, .inr (8, [.ref p0, .ref q1, .ref q3, .ref q4, .ref q5, .ref q6, .ref q7, .int 0, .int 0])), (q1, .inr (5, [.ref (q2 0), .ref p0])), ((q2 0), .inl (cA, N, .inl (fun _ => 0))), (q3, .inl (cA, N, .inl (fun _ => 0))), (q4, .inl (cA, N, .inl (fun _ => 0))), (q5, .inl (cA, N, .inl (fun _ => 0))), (q6, .inl (cA, N, .inl (fun _ => 0))), (q7, .inl (cA, N, .inl (fun _ => 0)))] := hD
 refine lv_aload_n hx hb d_Sheet_init_62 rfl (lv_at hl 0 rfl) ?_
 refine lv_iconst (v := 0) hx hb d_Sheet_init_63 (by decide) ?_
 refine va_put (D := D) (ci := 8) (v := .int 0) (ty := .int) (C := R_Sheet) (T := T_Sheet) (N := 9) hx hb hts in_Sheet ty_Sheet tyok_Sheet nm_Sheet hown hK hP hD hS 0 rfl rfl 8 (by decide) (hts _ (List.mem_cons_of_mem _ kw_292)) (fun _ h9 => h9) rfl (by decide +kernel) rfl rfl (Nat.le_of_ble_eq_true rfl) d_Sheet_init_64 (fun H locs hP hD hS => ?_)
 have hP : va_P D vwCl [(h0, .inr (8, [.ref p0, .ref q1, .ref q3, .ref q4, .ref q5, .ref q6, .ref q7, .int 0, .int 0])), (q1, .inr (5, [.ref (q2 0), .ref p0])), ((q2 0), .inl (cA, N, .inl (fun _ => 0))), (q3, .inl (cA, N, .inl (fun _ => 0))), (q4, .inl (cA, N, .inl (fun _ => 0))), (q5, .inl (cA, N, .inl (fun _ => 0))), (q6, .inl (cA, N, .inl (fun _ => 0))), (q7, .inl (cA, N, .inl (fun _ => 0)))] H := hP
 have hD : va_D A [(h0, .inr (8, [.ref p0, .ref q1, .ref q3, .ref q4, .ref q5, .ref q6, .ref q7, .int 0, .int 0])), (q1, .inr (5, [.ref (q2 0), .ref p0])), ((q2 0), .inl (cA, N, .inl (fun _ => 0))), (q3, .inl (cA, N, .inl (fun _ => 0))), (q4, .inl (cA, N, .inl (fun _ => 0))), (q5, .inl (cA, N, .inl (fun _ => 0))), (q6, .inl (cA, N, .inl (fun _ => 0))), (q7, .inl (cA, N, .inl (fun _ => 0)))] := hD
 refine W.widen (k := 7) (n := 2402) (by omega) (by omega) ?_
 exact W.vret hx hb hr (fun t ht hW => ⟨⟨(fun k => if k = 0 then q1 else if k = 1 then (q2 0) else if k = 2 then q3 else if k = 3 then q4 else if k = 4 then q5 else if k = 5 then q6 else if k = 6 then q7 else 0), rfl, trivial, by rw [ht]; exact hP, va_K.moved hW.alike hK, hD⟩, hS.F ht⟩) hS.2.2 d_Sheet_init_67 hlocks
