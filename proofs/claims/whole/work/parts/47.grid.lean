set_option maxHeartbeats 4000000 in
set_option maxRecDepth 100000 in
theorem kt_Grid (l : Launch) (D : va_G) (cA cZ : ClassId) (h0 sz : Nat) (Ww Hh : Nat) (hN : Ww * Hh ≤ 400) (Q : pS → Prop) (h : wp_gGrid_init (gG Ww Hh) (nI Ww) (nI Hh) pc_u Q) : Met l y_Grid_init w_Grid_init ({ frames := 1, cells := 3, slots := 2400, locals := 23 } : Room) (va_Pc [.ref h0, .int (nI Ww), .int (nI Hh)] (fun U => pc_pre D [(h0, .inr (4, [.int 0, .int 0, .int 0, .null, .null, .null]))] (cT cA cZ) sz U ∧ cw_Ex (va_A [(h0, .inr (4, [.int 0, .int 0, .int 0, .null, .null, .null]))] sz) U)) (va_Qv (fun p : (Nat → Nat) × pS => Q p.2) (fun p t => va_P D vwCl (gw (pc_ad h0 p.1) cA cZ (gG Ww Hh) p.2) t.heap ∧ va_K D vwCl (cT cA cZ) t ∧ va_D (va_A [(h0, .inr (4, [.int 0, .int 0, .int 0, .null, .null, .null]))] sz) (gw (pc_ad h0 p.1) cA cZ (gG Ww Hh) p.2)) (va_A [(h0, .inr (4, [.int 0, .int 0, .int 0, .null, .null, .null]))] sz)) 3 2400 (va_A [(h0, .inr (4, [.int 0, .int 0, .int 0, .null, .null, .null]))] sz) := by
 refine Met.ofW (cc := b_Grid_init) (maxL := 7) (ret := none) (by decide) rfl ?_
 intro p e s m args below meth c s₁ B hml hv
 obtain ⟨rfl, ⟨hsz, hP, hK, hD0⟩, EX⟩ := hv
 have hx := B.exec
 have hb := B.bytes
 have hr := B.returns
 have hts := atoms_spec (ws := w_Grid_init) B.pre
 have hown : s.vm.findClass R_Grid = some m.cls := findClass_of_methodNamed B.named
 have hlocks := B.notSynchronized
 have hin : meth.name = "<init>" := (name_of_methodNamed B.named B.method).1
 subst hsz
 have hD := hD0.self (sz := s.heap.size)
 generalize hAe : va_A [(h0, .inr (4, [.int 0, .int 0, .int 0, .null, .null, .null]))] s.heap.size = A at hD EX ⊢
 have hA : ∀ q : Nat, s.heap.size ≤ q → A q := fun q h => by rw [← hAe]; exact Or.inr h
 have hS : va_S A s.heap s.heap [] := va_S.rf
 have hl := lv_entry ([.ref h0, .int (nI Ww), .int (nI Hh)]) (n := 7) (Nat.le_of_ble_eq_true rfl)
 rw [lg_entry_eq]
 generalize (lg_sl ([.ref h0, .int (nI Ww), .int (nI Hh)]) ++ List.replicate (7 - (lg_sl ([.ref h0, .int (nI Ww), .int (nI Hh)])).length) Slot.unset).toArray = ls at hl ⊢
 have hl : lv_has ls 7 [(0, .ref h0), (1, .int (nI Ww)), (2, .int (nI Hh))] := hl
 refine lv_aload_n hx hb d_Grid_init_0 rfl (lv_at hl 0 rfl) ?_
 refine W.objInit hx hb hown (hts _ (List.mem_cons_of_mem _ kw_88)) (hts _ (List.mem_cons_of_mem _ kw_72)) (hts _ (List.mem_cons_of_mem _ kw_73)) rfl (by rw [hml]; exact hl.1) rfl d_Grid_init_1 (Nat.le_of_ble_eq_true rfl) (Nat.le_of_ble_eq_true rfl) ?_
 refine W.eq (g2 := F0 m 4 ls []) rfl ?_
 refine lv_aload_n hx hb d_Grid_init_4 rfl (lv_at hl 0 rfl) ?_
 refine lv_iload_n hx hb d_Grid_init_5 rfl (lv_at hl 1 rfl) ?_
 refine va_putF (D := D) (ci := 4) (v := .int (nI Ww)) (ty := .int) (C := R_Grid) (T := T_Grid) (N := 6) hx hb hts in_Grid ty_Grid tyok_Grid nm_Grid hown hK hP hD hS 0 rfl rfl 0 (by decide) (hts _ (List.mem_cons_of_mem _ kw_97)) (fun _ h9 => h9) rfl hin rfl (by decide +kernel) rfl rfl (Nat.le_of_ble_eq_true rfl) d_Grid_init_6 (fun H locs hP hD hS => ?_)
 have hP : va_P D vwCl [(h0, .inr (4, [.int (nI Ww), .int 0, .int 0, .null, .null, .null]))] H := hP
 have hD : va_D A [(h0, .inr (4, [.int (nI Ww), .int 0, .int 0, .null, .null, .null]))] := hD
 refine lv_aload_n hx hb d_Grid_init_9 rfl (lv_at hl 0 rfl) ?_
 refine lv_iload_n hx hb d_Grid_init_10 rfl (lv_at hl 2 rfl) ?_
 refine va_putF (D := D) (ci := 4) (v := .int (nI Hh)) (ty := .int) (C := R_Grid) (T := T_Grid) (N := 6) hx hb hts in_Grid ty_Grid tyok_Grid nm_Grid hown hK hP hD hS 0 rfl rfl 1 (by decide) (hts _ (List.mem_cons_of_mem _ kw_102)) (fun _ h9 => h9) rfl hin rfl (by decide +kernel) rfl rfl (Nat.le_of_ble_eq_true rfl) d_Grid_init_11 (fun H locs hP hD hS => ?_)
 have hP : va_P D vwCl [(h0, .inr (4, [.int (nI Ww), .int (nI Hh), .int 0, .null, .null, .null]))] H := hP
 have hD : va_D A [(h0, .inr (4, [.int (nI Ww), .int (nI Hh), .int 0, .null, .null, .null]))] := hD
 refine lv_aload_n hx hb d_Grid_init_14 rfl (lv_at hl 0 rfl) ?_
 refine lv_iload_n hx hb d_Grid_init_15 rfl (lv_at hl 1 rfl) ?_
 refine lv_iload_n hx hb d_Grid_init_16 rfl (lv_at hl 2 rfl) ?_
 refine lv_imul hx hb d_Grid_init_17 ?_
 refine va_putF (D := D) (ci := 4) (v := .int ((nI Ww) * (nI Hh))) (ty := .int) (C := R_Grid) (T := T_Grid) (N := 6) hx hb hts in_Grid ty_Grid tyok_Grid nm_Grid hown hK hP hD hS 0 rfl rfl 2 (by decide) (hts _ (List.mem_cons_of_mem _ kw_110)) (fun _ h9 => h9) rfl hin rfl (by decide +kernel) rfl rfl (Nat.le_of_ble_eq_true rfl) d_Grid_init_18 (fun H locs hP hD hS => ?_)
 have hP : va_P D vwCl [(h0, .inr (4, [.int (nI Ww), .int (nI Hh), .int ((nI Ww) * (nI Hh)), .null, .null, .null]))] H := hP
 have hD : va_D A [(h0, .inr (4, [.int (nI Ww), .int (nI Hh), .int ((nI Ww) * (nI Hh)), .null, .null, .null]))] := hD
 refine lv_aload_n hx hb d_Grid_init_21 rfl (lv_at hl 0 rfl) ?_
 refine lv_aload_n hx hb d_Grid_init_22 rfl (lv_at hl 0 rfl) ?_
 refine va_get (D := D) (ci := 4) (v := .int ((nI Ww) * (nI Hh))) (C := R_Grid) (T := T_Grid) (N := 6) hx hb hts in_Grid hown hK hP 0 rfl rfl 2 (by decide) (hts _ (List.mem_cons_of_mem _ kw_110)) (fun _ h9 => h9) rfl d_Grid_init_23 ?_
 refine pc_newi hx hb (hts _ (List.mem_cons_of_mem _ kw_128)) hK 0 rfl hP hD hS hA (Ww * Hh) (by rw [show ((nI Ww) : Int32) = nI Ww from rfl, show ((nI Hh) : Int32) = nI Hh from rfl]; exact pk_mul _ _) (by omega) (by show 0 + 1 ≤ 3; omega) (by show 0 + (Ww * Hh) ≤ 2400; omega) d_Grid_init_26 (fun q1 H hP hD hS => ?_)
 refine W.cs (cells' := 1) (slots' := (Ww * Hh)) (by omega) (by omega) ?_
 have hP : va_P D vwCl [(h0, .inr (4, [.int (nI Ww), .int (nI Hh), .int ((nI Ww) * (nI Hh)), .null, .null, .null])), (q1, .inl (cA, (Ww * Hh), .inl (fun _ => 0)))] H := hP
 have hD : va_D A [(h0, .inr (4, [.int (nI Ww), .int (nI Hh), .int ((nI Ww) * (nI Hh)), .null, .null, .null])), (q1, .inl (cA, (Ww * Hh), .inl (fun _ => 0)))] := hD
 refine va_putF (D := D) (ci := 4) (v := .ref q1) (ty := .array .int) (C := R_Grid) (T := T_Grid) (N := 6) hx hb hts in_Grid ty_Grid tyok_Grid nm_Grid hown hK hP hD hS 0 rfl rfl 3 (by decide) (hts _ (List.mem_cons_of_mem _ kw_112)) (fun _ h9 => h9) rfl hin rfl (by decide +kernel) rfl rfl (Nat.le_of_ble_eq_true rfl) d_Grid_init_28 (fun H locs hP hD hS => ?_)
 have hP : va_P D vwCl [(h0, .inr (4, [.int (nI Ww), .int (nI Hh), .int ((nI Ww) * (nI Hh)), .ref q1, .null, .null])), (q1, .inl (cA, (Ww * Hh), .inl (fun _ => 0)))] H := hP
 have hD : va_D A [(h0, .inr (4, [.int (nI Ww), .int (nI Hh), .int ((nI Ww) * (nI Hh)), .ref q1, .null, .null])), (q1, .inl (cA, (Ww * Hh), .inl (fun _ => 0)))] := hD
 refine lv_aload_n hx hb d_Grid_init_31 rfl (lv_at hl 0 rfl) ?_
 refine lv_aload_n hx hb d_Grid_init_32 rfl (lv_at hl 0 rfl) ?_
 refine va_get (D := D) (ci := 4) (v := .int ((nI Ww) * (nI Hh))) (C := R_Grid) (T := T_Grid) (N := 6) hx hb hts in_Grid hown hK hP 0 rfl rfl 2 (by decide) (hts _ (List.mem_cons_of_mem _ kw_110)) (fun _ h9 => h9) rfl d_Grid_init_33 ?_
 refine pc_newi hx hb (hts _ (List.mem_cons_of_mem _ kw_128)) hK 0 rfl hP hD hS hA (Ww * Hh) (by rw [show ((nI Ww) : Int32) = nI Ww from rfl, show ((nI Hh) : Int32) = nI Hh from rfl]; exact pk_mul _ _) (by omega) (by show 1 + 1 ≤ 3; omega) (by show (Ww * Hh) + (Ww * Hh) ≤ 2400; omega) d_Grid_init_36 (fun q2 H hP hD hS => ?_)
 refine W.cs (cells' := 2) (slots' := (Ww * Hh) + (Ww * Hh)) (by omega) (by omega) ?_
 have hP : va_P D vwCl [(h0, .inr (4, [.int (nI Ww), .int (nI Hh), .int ((nI Ww) * (nI Hh)), .ref q1, .null, .null])), (q1, .inl (cA, (Ww * Hh), .inl (fun _ => 0))), (q2, .inl (cA, (Ww * Hh), .inl (fun _ => 0)))] H := hP
 have hD : va_D A [(h0, .inr (4, [.int (nI Ww), .int (nI Hh), .int ((nI Ww) * (nI Hh)), .ref q1, .null, .null])), (q1, .inl (cA, (Ww * Hh), .inl (fun _ => 0))), (q2, .inl (cA, (Ww * Hh), .inl (fun _ => 0)))] := hD
 refine va_putF (D := D) (ci := 4) (v := .ref q2) (ty := .array .int) (C := R_Grid) (T := T_Grid) (N := 6) hx hb hts in_Grid ty_Grid tyok_Grid nm_Grid hown hK hP hD hS 0 rfl rfl 4 (by decide) (hts _ (List.mem_cons_of_mem _ kw_113)) (fun _ h9 => h9) rfl hin rfl (by decide +kernel) rfl rfl (Nat.le_of_ble_eq_true rfl) d_Grid_init_38 (fun H locs hP hD hS => ?_)
 have hP : va_P D vwCl [(h0, .inr (4, [.int (nI Ww), .int (nI Hh), .int ((nI Ww) * (nI Hh)), .ref q1, .ref q2, .null])), (q1, .inl (cA, (Ww * Hh), .inl (fun _ => 0))), (q2, .inl (cA, (Ww * Hh), .inl (fun _ => 0)))] H := hP
 have hD : va_D A [(h0, .inr (4, [.int (nI Ww), .int (nI Hh), .int ((nI Ww) * (nI Hh)), .ref q1, .ref q2, .null])), (q1, .inl (cA, (Ww * Hh), .inl (fun _ => 0))), (q2, .inl (cA, (Ww * Hh), .inl (fun _ => 0)))] := hD
 refine lv_aload_n hx hb d_Grid_init_41 rfl (lv_at hl 0 rfl) ?_
 refine lv_aload_n hx hb d_Grid_init_42 rfl (lv_at hl 0 rfl) ?_
 refine va_get (D := D) (ci := 4) (v := .int ((nI Ww) * (nI Hh))) (C := R_Grid) (T := T_Grid) (N := 6) hx hb hts in_Grid hown hK hP 0 rfl rfl 2 (by decide) (hts _ (List.mem_cons_of_mem _ kw_110)) (fun _ h9 => h9) rfl d_Grid_init_43 ?_
 refine lv_iconst (v := 4) hx hb d_Grid_init_46 (by decide) ?_
 refine lv_imul hx hb d_Grid_init_47 ?_
 refine pc_newi hx hb (hts _ (List.mem_cons_of_mem _ kw_128)) hK 0 rfl hP hD hS hA ((Ww * Hh) * 4) (by rw [show (((nI Ww) * (nI Hh)) : Int32) = nI (Ww * Hh) from (by rw [show ((nI Ww) : Int32) = nI Ww from rfl, show ((nI Hh) : Int32) = nI Hh from rfl]; exact pk_mul _ _), show (4 : Int32) = nI 4 from rfl]; exact pk_mul _ _) (by omega) (by show 2 + 1 ≤ 3; omega) (by show (Ww * Hh) + (Ww * Hh) + ((Ww * Hh) * 4) ≤ 2400; omega) d_Grid_init_48 (fun q3 H hP hD hS => ?_)
 refine W.cs (cells' := 3) (slots' := (Ww * Hh) + (Ww * Hh) + ((Ww * Hh) * 4)) (by omega) (by omega) ?_
 have hP : va_P D vwCl [(h0, .inr (4, [.int (nI Ww), .int (nI Hh), .int ((nI Ww) * (nI Hh)), .ref q1, .ref q2, .null])), (q1, .inl (cA, (Ww * Hh), .inl (fun _ => 0))), (q2, .inl (cA, (Ww * Hh), .inl (fun _ => 0))), (q3, .inl (cA, ((Ww * Hh) * 4), .inl (fun _ => 0)))] H := hP
 have hD : va_D A [(h0, .inr (4, [.int (nI Ww), .int (nI Hh), .int ((nI Ww) * (nI Hh)), .ref q1, .ref q2, .null])), (q1, .inl (cA, (Ww * Hh), .inl (fun _ => 0))), (q2, .inl (cA, (Ww * Hh), .inl (fun _ => 0))), (q3, .inl (cA, ((Ww * Hh) * 4), .inl (fun _ => 0)))] := hD
 refine va_putF (D := D) (ci := 4) (v := .ref q3) (ty := .array .int) (C := R_Grid) (T := T_Grid) (N := 6) hx hb hts in_Grid ty_Grid tyok_Grid nm_Grid hown hK hP hD hS 0 rfl rfl 5 (by decide) (hts _ (List.mem_cons_of_mem _ kw_114)) (fun _ h9 => h9) rfl hin rfl (by decide +kernel) rfl rfl (Nat.le_of_ble_eq_true rfl) d_Grid_init_50 (fun H locs hP hD hS => ?_)
 have hP : va_P D vwCl [(h0, .inr (4, [.int (nI Ww), .int (nI Hh), .int ((nI Ww) * (nI Hh)), .ref q1, .ref q2, .ref q3])), (q1, .inl (cA, (Ww * Hh), .inl (fun _ => 0))), (q2, .inl (cA, (Ww * Hh), .inl (fun _ => 0))), (q3, .inl (cA, ((Ww * Hh) * 4), .inl (fun _ => 0)))] H := hP
 have hD : va_D A [(h0, .inr (4, [.int (nI Ww), .int (nI Hh), .int ((nI Ww) * (nI Hh)), .ref q1, .ref q2, .ref q3])), (q1, .inl (cA, (Ww * Hh), .inl (fun _ => 0))), (q2, .inl (cA, (Ww * Hh), .inl (fun _ => 0))), (q3, .inl (cA, ((Ww * Hh) * 4), .inl (fun _ => 0)))] := hD
 rw [pk_mul] at hP hD
 refine W.widen (k := 3) (n := 2400) (by omega) (by omega) ?_
 have hPg : va_P D vwCl (gw (pc_ad h0 (fun k => if k = 0 then q1 else if k = 1 then q2 else q3)) cA cZ (gG Ww Hh) pc_u) H := hP
 have hDg : va_D A (gw (pc_ad h0 (fun k => if k = 0 then q1 else if k = 1 then q2 else q3)) cA cZ (gG Ww Hh) pc_u) := hD
 obtain ⟨hI, hF⟩ := pw_of_D (n := 4) (a := pc_ad h0 (fun k => if k = 0 then q1 else if k = 1 then q2 else q3)) rfl hDg
 refine px_mono (fun t h => pc_MQ (fun o t h => ?_) h) (cs_gGrid_init (A := A) (Q := Q) ⟨hx, hb, hr, hml, hown, hts, hlocks, hA⟩ ⟨hK, hI, hF⟩ EX _ _ pc_u H locs ls hPg hS (lv_sub hl [0, 1, 2] rfl) h)
 obtain ⟨⟨u, e1, e2, e3, e4⟩, e5⟩ := h
 exact ⟨⟨(_, u), e1, e2, e3, e4, gw_D hI hF⟩, e5⟩
