set_option maxHeartbeats 4000000 in
set_option maxRecDepth 100000 in
theorem st_Sheet_put {p : Program} {l : Launch} {e : Env} {s : State} {m : MethodId} {args : Array Value} {below : List Frame} {meth : Method} {c : Code} {D : va_G} {a : Nat → Nat} {cA cZ : ClassId} {G : pG} {A : Nat → Prop} {Q : pS → Prop} (C : pw_C p s m args meth c b_Sheet_put 3 R_Sheet none w_Sheet_put A) (K : pw_K s D 40 a (cT cA cZ) A) (x1 x2 : Int32) (u : pS) (ls : Array Slot) (hP : va_P D vwCl (cw a cA cZ G u) s.heap) (hl : lv_has ls 3 [(0, .ref (a 9)), (1, .int x1), (2, .int x2)]) (h : wp_Sheet_put G x1 x2 u Q) : W p l e ({ frames := 1, cells := 0, slots := 0, locals := 21 } : Room) s m args below meth c s.heap [] 0 0 (pw_Ev below args s D (cw a cA cZ G) (cT cA cZ) A Q) (F0 m 0 ls []) := by
 obtain ⟨hx, hb, hr, hml, hown, hts, hlocks, hA⟩ := id C
 obtain ⟨hK, hI, hF⟩ := id K
 have hD : ∀ u, va_D A (cw a cA cZ G u) := fun u => cw_D hI hF
 have hS : va_S A s.heap s.heap [] := va_S.rf
 have h : wp_Sheet_put G x1 x2 u Q := h
 refine lv_aload_n hx hb d_Sheet_put_0 rfl (lv_at hl 0 rfl) ?_
 refine va_get (D := D) (ci := 8) (v := .ref (a 35)) (C := R_Sheet) (T := T_Sheet) (N := 9) hx hb hts in_Sheet hown hK hP 9 cw_at_9 rfl 2 (by decide) (hts _ (List.mem_cons_of_mem _ kw_286)) (fun _ h9 => h9) rfl d_Sheet_put_1 ?_
 refine lv_iload_n hx hb d_Sheet_put_4 rfl (lv_at hl 1 rfl) ?_
 refine lv_aload_n hx hb d_Sheet_put_5 rfl (lv_at hl 0 rfl) ?_
 refine va_get (D := D) (ci := 8) (v := .ref (a 39)) (C := R_Sheet) (T := T_Sheet) (N := 9) hx hb hts in_Sheet hown hK hP 9 cw_at_9 rfl 6 (by decide) (hts _ (List.mem_cons_of_mem _ kw_290)) (fun _ h9 => h9) rfl d_Sheet_put_6 ?_
 refine lv_iload_n hx hb d_Sheet_put_9 rfl (lv_at hl 2 rfl) ?_
 refine va_iald hx hb hK hP 39 0 cw_at_39 rfl h.1 d_Sheet_put_10 ?_
 have h := h.2
 refine va_iast hx hb hK hP (hD _) hS 35 0 cw_at_35 rfl h.1 d_Sheet_put_11 (fun H locs hP _ hS => ?_)
 obtain ⟨u1, eu1⟩ : ∃ z, z = pw_sa u 21 (upd (u.2 21) x1.toNatClampNeg (u.2 25 x2.toNatClampNeg)) := ⟨_, rfl⟩
 rw [cw_sa_35, ← eu1] at hP
 have h := h.2 u1 eu1
 refine lv_aload_n hx hb d_Sheet_put_12 rfl (lv_at hl 0 rfl) ?_
 refine va_get (D := D) (ci := 8) (v := .ref (a 36)) (C := R_Sheet) (T := T_Sheet) (N := 9) hx hb hts in_Sheet hown hK hP 9 cw_at_9 rfl 3 (by decide) (hts _ (List.mem_cons_of_mem _ kw_287)) (fun _ h9 => h9) rfl d_Sheet_put_13 ?_
 refine lv_iload_n hx hb d_Sheet_put_16 rfl (lv_at hl 1 rfl) ?_
 refine lv_aload_n hx hb d_Sheet_put_17 rfl (lv_at hl 0 rfl) ?_
 refine va_get (D := D) (ci := 8) (v := .ref (a 37)) (C := R_Sheet) (T := T_Sheet) (N := 9) hx hb hts in_Sheet hown hK hP 9 cw_at_9 rfl 4 (by decide) (hts _ (List.mem_cons_of_mem _ kw_288)) (fun _ h9 => h9) rfl d_Sheet_put_18 ?_
 refine lv_iload_n hx hb d_Sheet_put_21 rfl (lv_at hl 2 rfl) ?_
 refine va_iald hx hb hK hP 37 0 cw_at_37 rfl h.1 d_Sheet_put_22 ?_
 have h := h.2
 refine va_iast hx hb hK hP (hD _) hS 36 0 cw_at_36 rfl h.1 d_Sheet_put_23 (fun H locs hP _ hS => ?_)
 obtain ⟨u2, eu2⟩ : ∃ z, z = pw_sa u1 22 (upd (u1.2 22) x1.toNatClampNeg (u1.2 23 x2.toNatClampNeg)) := ⟨_, rfl⟩
 rw [cw_sa_36, ← eu2] at hP
 have h := h.2 u2 eu2
 refine lv_aload_n hx hb d_Sheet_put_24 rfl (lv_at hl 0 rfl) ?_
 refine va_get (D := D) (ci := 8) (v := .ref (a 39)) (C := R_Sheet) (T := T_Sheet) (N := 9) hx hb hts in_Sheet hown hK hP 9 cw_at_9 rfl 6 (by decide) (hts _ (List.mem_cons_of_mem _ kw_290)) (fun _ h9 => h9) rfl d_Sheet_put_25 ?_
 refine lv_iload_n hx hb d_Sheet_put_28 rfl (lv_at hl 2 rfl) ?_
 refine lv_dup2_11 hx hb d_Sheet_put_29 rfl rfl ?_
 refine va_iald hx hb hK hP 39 0 cw_at_39 rfl h.1 d_Sheet_put_30 ?_
 have h := h.2
 refine lv_aload_n hx hb d_Sheet_put_31 rfl (lv_at hl 0 rfl) ?_
 refine va_get (D := D) (ci := 8) (v := .ref (a 4)) (C := R_Sheet) (T := T_Sheet) (N := 9) hx hb hts in_Sheet hown hK hP 9 cw_at_9 rfl 0 (by decide) (hts _ (List.mem_cons_of_mem _ kw_284)) (fun _ h9 => h9) rfl d_Sheet_put_32 ?_
 refine lv_iload_n hx hb d_Sheet_put_35 rfl (lv_at hl 1 rfl) ?_
 refine cc_i (va_runV (As := [.int x1]) (rest := [.int (u2.2 25 x2.toNatClampNeg), .int x2, .ref (a 39)]) ⟨hx, hb, hml, hown, hts⟩ (ct_Pieces_columnsOf l D a cA cZ G _ x1 u2 _ hI h) (pw_cwV 1 hts kw_587 kw_49 kw_778 kw_585 kw_586 (by decide +kernel) ⟨Nat.le_of_ble_eq_true rfl, Nat.le_of_ble_eq_true rfl⟩) ⟨pw_blind, va_recv hK hP (ci := 7) (q0 := 4) rfl cw_at_4, fun U hU hW => ⟨rfl, by rw [hU], by rw [hU]; exact hP, va_K.moved hW.alike hK⟩⟩ rfl rfl hl.1 rfl (lv_room (Nat.le_of_ble_eq_true rfl)) d_Sheet_put_36 ⟨Nat.le_of_ble_eq_true rfl, Nat.le_of_ble_eq_true rfl⟩) hS hF hA (fun r4 u3 H locs hP hS h => ?_)
 refine lv_iadd hx hb d_Sheet_put_39 ?_
 refine va_iast hx hb hK hP (hD _) hS 39 0 cw_at_39 rfl h.1 d_Sheet_put_40 (fun H locs hP _ hS => ?_)
 obtain ⟨u5, eu5⟩ : ∃ z, z = pw_sa u3 25 (upd (u3.2 25) x2.toNatClampNeg ((u2.2 25 x2.toNatClampNeg) + r4)) := ⟨_, rfl⟩
 rw [cw_sa_39, ← eu5] at hP
 have h := h.2 u5 eu5
 exact W.vret hx hb hr (fun t ht hW => ⟨⟨u5, rfl, h, by rw [ht]; exact hP, va_K.moved hW.alike hK⟩, hS.F ht⟩) hS.2.2 d_Sheet_put_41 hlocks
set_option maxHeartbeats 4000000 in
set_option maxRecDepth 100000 in
theorem ct_Sheet_put (l : Launch) (D : va_G) (a : Nat → Nat) (cA cZ : ClassId) (G : pG) (sz : Nat) (x1 x2 : Int32) (u : pS) (Q : pS → Prop) (hI : pw_I 40 a) (h : wp_Sheet_put G x1 x2 u Q) : Met l y_Sheet_put w_Sheet_put ({ frames := 1, cells := 0, slots := 0, locals := 21 } : Room) (va_Pc [.ref (a 9), .int x1, .int x2] (pw_pre D (cw a cA cZ G) (cT cA cZ) sz u)) (va_Qv (fun (u : pS) => Q u) (pw_B D (cw a cA cZ G) (cT cA cZ)) (pw_F 40 a sz)) 0 0 (pw_F 40 a sz) := by
 refine Met.ofW (cc := b_Sheet_put) (maxL := 3) (ret := none) (by decide) rfl ?_
 intro p e s m args below meth c s₁ B hml hv
 obtain ⟨rfl, hsz, hP, hK⟩ := hv
 subst hsz
 have hl := lv_entry ([.ref (a 9), .int x1, .int x2]) (n := 3) (Nat.le_of_ble_eq_true rfl)
 rw [lg_entry_eq]
 generalize (lg_sl ([.ref (a 9), .int x1, .int x2]) ++ List.replicate (3 - (lg_sl ([.ref (a 9), .int x1, .int x2])).length) Slot.unset).toArray = ls at hl ⊢
 exact st_Sheet_put (A := (pw_F 40 a s.heap.size)) ⟨B.exec, B.bytes, B.returns, hml, findClass_of_methodNamed B.named, atoms_spec (ws := w_Sheet_put) B.pre, B.notSynchronized, fun q hq => Or.inr hq⟩ ⟨hK, hI, fun k hk => Or.inl ⟨k, hk, rfl⟩⟩ x1 x2 u ls hP hl h
set_option maxHeartbeats 4000000 in
set_option maxRecDepth 100000 in
theorem cp_Sheet_fill_29 {p : Program} {l : Launch} {e : Env} {s : State} {m : MethodId} {args : Array Value} {below : List Frame} {meth : Method} {c : Code} {D : va_G} {a : Nat → Nat} {cA cZ : ClassId} {G : pG} {A : Nat → Prop} {Q : Int32 → pS → Prop} (C : pw_C p s m args meth c b_Sheet_fill 7 R_Sheet (some .int) w_Sheet_fill A) (K : pw_K s D 40 a (cT cA cZ) A) (EX : cw_Ex A s) : ∀ (n : Nat), ∀ (x1 x2 x3 x4 : Int32) (u : pS) (H : Heap) (locs : List Loc) (ls : Array Slot), va_P D vwCl (cw a cA cZ G u) H → va_S A s.heap H locs → lv_has ls 7 [(0, .ref (a 9)), (1, .int x1), (2, .int x2), (3, .int x3), (4, .int x4)] → lp_Sheet_fill_29 G Q n x1 x2 x3 x4 u → W p l e ({ frames := 5, cells := 0, slots := 0, locals := 108 } : Room) s m args below meth c H locs 0 0 (pw_Ei below args s D (cw a cA cZ G) (cT cA cZ) A Q) (F0 m 29 ls []) := by
 obtain ⟨hx, hb, hr, hml, hown, hts, hlocks, hA⟩ := id C
 obtain ⟨hK, hI, hF⟩ := id K
 have hD : ∀ u, va_D A (cw a cA cZ G u) := fun u => cw_D hI hF
 intro n
 induction n with
 | zero => intro x1 x2 x3 x4 u H locs ls hP hS hl h; exact h.elim
 | succ n ih =>
   intro x1 x2 x3 x4 u H locs ls hP hS hl h
   refine lv_iload hx hb d_Sheet_fill_29 (lv_at hl 4 rfl) ?_
   refine lv_aload_n hx hb d_Sheet_fill_31 rfl (lv_at hl 0 rfl) ?_
   refine va_get (D := D) (ci := 8) (v := .ref (a 4)) (C := R_Sheet) (T := T_Sheet) (N := 9) hx hb hts in_Sheet hown hK hP 9 cw_at_9 rfl 0 (by decide) (hts _ (List.mem_cons_of_mem _ kw_284)) (fun _ h9 => h9) rfl d_Sheet_fill_32 ?_
   refine va_get (D := D) (ci := 7) (v := .int (u.1 2)) (C := R_Pieces) (T := T_Pieces) (N := 11) hx hb hts in_Pieces hown hK hP 4 cw_at_4 rfl 10 (by decide) (hts _ (List.mem_cons_of_mem _ kw_162)) (fun _ h9 => h9) rfl d_Sheet_fill_35 ?_
   refine lv_icmp_ge (tgt := 104) hx hb d_Sheet_fill_38 (by decide) (fun c4 => ?_) (fun c4 => ?_)
   · have h := h.1 c4
     refine lv_iload_n hx hb d_Sheet_fill_104 rfl (lv_at hl 3 rfl) ?_
     exact W.iret (v := x3) hx hb hr (fun t ht hW => ⟨⟨x3, u, rfl, h, by rw [ht]; exact hP, va_K.moved hW.alike hK⟩, hS.F ht⟩) hS.2.2 d_Sheet_fill_105 hlocks
   · have h := h.2 c4
     refine lv_aload_n hx hb d_Sheet_fill_41 rfl (lv_at hl 0 rfl) ?_
     refine va_get (D := D) (ci := 8) (v := .ref (a 10)) (C := R_Sheet) (T := T_Sheet) (N := 9) hx hb hts in_Sheet hown hK hP 9 cw_at_9 rfl 1 (by decide) (hts _ (List.mem_cons_of_mem _ kw_285)) (fun _ h9 => h9) rfl d_Sheet_fill_42 ?_
     refine lv_iload hx hb d_Sheet_fill_45 (lv_at hl 4 rfl) ?_
     refine cc_i (va_runU (As := [.int x4]) (rest := []) ⟨hx, hb, hml, hown, hts⟩ (ct_Ranking_ranked_highest l D a cA cZ G _ x4 u _ hI h) (pw_cwU (owner := "PictureInlays$Ranking") 1 hts kw_760 kw_50 kw_773 kw_756 kw_758 kw_755 rfl (by decide +kernel) ⟨Nat.le_of_ble_eq_true rfl, Nat.le_of_ble_eq_true rfl⟩) ⟨pw_blind, va_recv hK hP (ci := 5) (q0 := 10) rfl cw_at_10, fun U hU hW => ⟨rfl, by rw [hU], by rw [hU]; exact hP, va_K.moved hW.alike hK⟩⟩ rfl rfl hl.1 rfl (lv_room (Nat.le_of_ble_eq_true rfl)) d_Sheet_fill_47 ⟨Nat.le_of_ble_eq_true rfl, Nat.le_of_ble_eq_true rfl⟩) hS hF hA (fun r6 u5 H locs hP hS h => ?_)
     refine lv_istore (lv' := [(5, .int r6), (0, .ref (a 9)), (1, .int x1), (2, .int x2), (3, .int x3), (4, .int x4)]) hx hb d_Sheet_fill_50 hl (by decide) rfl (fun ls hl => ?_)
     refine lv_aload_n hx hb d_Sheet_fill_52 rfl (lv_at hl 1 rfl) ?_
     refine lv_iload hx hb d_Sheet_fill_53 (lv_at hl 0 rfl) ?_
     refine lv_iload_n hx hb d_Sheet_fill_55 rfl (lv_at hl 2 rfl) ?_
     refine lv_iload_n hx hb d_Sheet_fill_56 rfl (lv_at hl 3 rfl) ?_
     refine cc_i (va_runV (As := [.int r6, .int x1, .int x2]) (rest := []) ⟨hx, hb, hml, hown, hts⟩ (ct_Sheet_rowFor l D a cA cZ G _ r6 x1 x2 u5 _ hI h) (pw_cwV 3 hts kw_777 kw_55 kw_774 kw_776 kw_19 (by decide +kernel) ⟨Nat.le_of_ble_eq_true rfl, Nat.le_of_ble_eq_true rfl⟩) ⟨pw_blind, va_recv hK hP (ci := 8) (q0 := 9) rfl cw_at_9, fun U hU hW => ⟨rfl, by rw [hU], by rw [hU]; exact hP, va_K.moved hW.alike hK⟩⟩ rfl rfl hl.1 rfl (lv_room (Nat.le_of_ble_eq_true rfl)) d_Sheet_fill_57 ⟨Nat.le_of_ble_eq_true rfl, Nat.le_of_ble_eq_true rfl⟩) hS hF hA (fun r8 u7 H locs hP hS h => ?_)
     refine lv_istore (lv' := [(6, .int r8), (5, .int r6), (0, .ref (a 9)), (1, .int x1), (2, .int x2), (3, .int x3), (4, .int x4)]) hx hb d_Sheet_fill_60 hl (by decide) rfl (fun ls hl => ?_)
     refine lv_iload hx hb d_Sheet_fill_62 (lv_at hl 0 rfl) ?_
     refine lv_iconst (v := -1) hx hb d_Sheet_fill_64 (by decide) ?_
     refine lv_icmp_ne (tgt := 87) hx hb d_Sheet_fill_65 (by decide) (fun c9 => ?_) (fun c9 => ?_)
     · have h := h.2 c9
       refine lv_aload_n hx hb d_Sheet_fill_87 rfl (lv_at hl 2 rfl) ?_
       refine lv_iload hx hb d_Sheet_fill_88 (lv_at hl 1 rfl) ?_
       refine lv_iload hx hb d_Sheet_fill_90 (lv_at hl 0 rfl) ?_
       refine cc_v (va_runV (As := [.int r6, .int r8]) (rest := []) ⟨hx, hb, hml, hown, hts⟩ (ct_Sheet_put l D a cA cZ G _ r6 r8 u7 _ hI h) (pw_cwV 2 hts kw_787 kw_55 kw_784 kw_786 kw_21 (by decide +kernel) ⟨Nat.le_of_ble_eq_true rfl, Nat.le_of_ble_eq_true rfl⟩) ⟨pw_blind, va_recv hK hP (ci := 8) (q0 := 9) rfl cw_at_9, fun U hU hW => ⟨rfl, by rw [hU], by rw [hU]; exact hP, va_K.moved hW.alike hK⟩⟩ rfl rfl hl.1 rfl (lv_room (Nat.le_of_ble_eq_true rfl)) d_Sheet_fill_92 ⟨Nat.le_of_ble_eq_true rfl, Nat.le_of_ble_eq_true rfl⟩) hS hF hA (fun u10 H locs hP hS h => ?_)
       obtain ⟨t11, et11⟩ : ∃ y : Int32, y = x3 + 1 := ⟨_, rfl⟩
       have h := h t11 et11
       refine lv_iinc (v := t11) (lv' := [(3, .int t11), (6, .int r8), (5, .int r6), (0, .ref (a 9)), (1, .int x1), (2, .int x2), (4, .int x4)]) hx hb d_Sheet_fill_95 hl (k := 5) rfl (by rw [et11]; rfl) (by decide) rfl (fun ls hl => ?_)
       obtain ⟨t12, et12⟩ : ∃ y : Int32, y = x4 + 1 := ⟨_, rfl⟩
       have h := h t12 et12
       refine lv_iinc (v := t12) (lv' := [(4, .int t12), (3, .int t11), (6, .int r8), (5, .int r6), (0, .ref (a 9)), (1, .int x1), (2, .int x2)]) hx hb d_Sheet_fill_98 hl (k := 6) rfl (by rw [et12]; rfl) (by decide) rfl (fun ls hl => ?_)
       refine lv_goto (tgt := 29) hx hb d_Sheet_fill_101 (by decide) ?_
       exact ih x1 x2 t11 t12 u10 _ _ _ hP hS (lv_sub hl [4, 5, 6, 1, 0] rfl) h
     · have h := h.1 c9
       refine lv_aload_n hx hb d_Sheet_fill_68 rfl (lv_at hl 2 rfl) ?_
       refine va_get (D := D) (ci := 8) (v := .ref (a 35)) (C := R_Sheet) (T := T_Sheet) (N := 9) hx hb hts in_Sheet hown hK hP 9 cw_at_9 rfl 2 (by decide) (hts _ (List.mem_cons_of_mem _ kw_286)) (fun _ h9 => h9) rfl d_Sheet_fill_69 ?_
       refine lv_iload hx hb d_Sheet_fill_72 (lv_at hl 1 rfl) ?_
       refine lv_iconst (v := -1) hx hb d_Sheet_fill_74 (by decide) ?_
       refine va_iast hx hb hK hP (hD _) hS 35 0 cw_at_35 rfl h.1 d_Sheet_fill_75 (fun H locs hP _ hS => ?_)
       obtain ⟨u13, eu13⟩ : ∃ z, z = pw_sa u7 21 (upd (u7.2 21) r6.toNatClampNeg (-1)) := ⟨_, rfl⟩
       rw [cw_sa_35, ← eu13] at hP
       have h := h.2 u13 eu13
       refine lv_aload_n hx hb d_Sheet_fill_76 rfl (lv_at hl 2 rfl) ?_
       refine va_get (D := D) (ci := 8) (v := .ref (a 36)) (C := R_Sheet) (T := T_Sheet) (N := 9) hx hb hts in_Sheet hown hK hP 9 cw_at_9 rfl 3 (by decide) (hts _ (List.mem_cons_of_mem _ kw_287)) (fun _ h9 => h9) rfl d_Sheet_fill_77 ?_
       refine lv_iload hx hb d_Sheet_fill_80 (lv_at hl 1 rfl) ?_
       refine lv_iconst (v := -1) hx hb d_Sheet_fill_82 (by decide) ?_
       refine va_iast hx hb hK hP (hD _) hS 36 0 cw_at_36 rfl h.1 d_Sheet_fill_83 (fun H locs hP _ hS => ?_)
       obtain ⟨u14, eu14⟩ : ∃ z, z = pw_sa u13 22 (upd (u13.2 22) r6.toNatClampNeg (-1)) := ⟨_, rfl⟩
       rw [cw_sa_36, ← eu14] at hP
       have h := h.2 u14 eu14
       refine lv_goto (tgt := 98) hx hb d_Sheet_fill_84 (by decide) ?_
       obtain ⟨t15, et15⟩ : ∃ y : Int32, y = x4 + 1 := ⟨_, rfl⟩
       have h := h t15 et15
       refine lv_iinc (v := t15) (lv' := [(4, .int t15), (6, .int r8), (5, .int r6), (0, .ref (a 9)), (1, .int x1), (2, .int x2), (3, .int x3)]) hx hb d_Sheet_fill_98 hl (k := 6) rfl (by rw [et15]; rfl) (by decide) rfl (fun ls hl => ?_)
       refine lv_goto (tgt := 29) hx hb d_Sheet_fill_101 (by decide) ?_
       exact ih x1 x2 x3 t15 u14 _ _ _ hP hS (lv_sub hl [3, 4, 5, 6, 0] rfl) h
set_option maxHeartbeats 4000000 in
set_option maxRecDepth 100000 in
theorem st_Sheet_fill {p : Program} {l : Launch} {e : Env} {s : State} {m : MethodId} {args : Array Value} {below : List Frame} {meth : Method} {c : Code} {D : va_G} {a : Nat → Nat} {cA cZ : ClassId} {G : pG} {A : Nat → Prop} {Q : Int32 → pS → Prop} (C : pw_C p s m args meth c b_Sheet_fill 7 R_Sheet (some .int) w_Sheet_fill A) (K : pw_K s D 40 a (cT cA cZ) A) (EX : cw_Ex A s) (x1 x2 : Int32) (u : pS) (ls : Array Slot) (hP : va_P D vwCl (cw a cA cZ G u) s.heap) (hl : lv_has ls 7 [(0, .ref (a 9)), (1, .int x1), (2, .int x2)]) (h : wp_Sheet_fill G x1 x2 u Q) : W p l e ({ frames := 5, cells := 0, slots := 0, locals := 108 } : Room) s m args below meth c s.heap [] 0 0 (pw_Ei below args s D (cw a cA cZ G) (cT cA cZ) A Q) (F0 m 0 ls []) := by
 obtain ⟨hx, hb, hr, hml, hown, hts, hlocks, hA⟩ := id C
 obtain ⟨hK, hI, hF⟩ := id K
 have hD : ∀ u, va_D A (cw a cA cZ G u) := fun u => cw_D hI hF
 have hS : va_S A s.heap s.heap [] := va_S.rf
 have h : wp_Sheet_fill G x1 x2 u Q := h
 refine lv_aload_n hx hb d_Sheet_fill_0 rfl (lv_at hl 0 rfl) ?_
 refine va_get (D := D) (ci := 8) (v := .ref (a 10)) (C := R_Sheet) (T := T_Sheet) (N := 9) hx hb hts in_Sheet hown hK hP 9 cw_at_9 rfl 1 (by decide) (hts _ (List.mem_cons_of_mem _ kw_285)) (fun _ h9 => h9) rfl d_Sheet_fill_1 ?_
 refine lv_aload_n hx hb d_Sheet_fill_4 rfl (lv_at hl 0 rfl) ?_
 refine va_get (D := D) (ci := 8) (v := .ref (a 4)) (C := R_Sheet) (T := T_Sheet) (N := 9) hx hb hts in_Sheet hown hK hP 9 cw_at_9 rfl 0 (by decide) (hts _ (List.mem_cons_of_mem _ kw_284)) (fun _ h9 => h9) rfl d_Sheet_fill_5 ?_
 refine va_get (D := D) (ci := 7) (v := .int (u.1 2)) (C := R_Pieces) (T := T_Pieces) (N := 11) hx hb hts in_Pieces hown hK hP 4 cw_at_4 rfl 10 (by decide) (hts _ (List.mem_cons_of_mem _ kw_162)) (fun _ h9 => h9) rfl d_Sheet_fill_8 ?_
 refine cc_v (va_runU (As := [.int (u.1 2)]) (rest := []) ⟨hx, hb, hml, hown, hts⟩ (ct_Ranking_rank_highest l D a cA cZ G _ (u.1 2) u _ hI h) (pw_cwU (owner := "PictureInlays$Ranking") 1 hts kw_558 kw_50 kw_772 kw_554 kw_556 kw_553 rfl (by decide +kernel) ⟨Nat.le_of_ble_eq_true rfl, Nat.le_of_ble_eq_true rfl⟩) ⟨cw_blindX, va_recv hK hP (ci := 5) (q0 := 10) rfl cw_at_10, fun U hU hW => ⟨rfl, ⟨by rw [hU], by rw [hU]; exact hP, va_K.moved hW.alike hK⟩, cw_Ex_call EX hS (pw_FA hS hF hA) hU hW⟩⟩ rfl rfl hl.1 rfl (lv_room (Nat.le_of_ble_eq_true rfl)) d_Sheet_fill_11 ⟨Nat.le_of_ble_eq_true rfl, Nat.le_of_ble_eq_true rfl⟩) hS hF hA (fun u1 H locs hP hS h => ?_)
 refine lv_aload_n hx hb d_Sheet_fill_14 rfl (lv_at hl 0 rfl) ?_
 refine lv_iconst (v := 0) hx hb d_Sheet_fill_15 (by decide) ?_
 refine va_put (D := D) (ci := 8) (v := .int 0) (ty := .int) (C := R_Sheet) (T := T_Sheet) (N := 9) hx hb hts in_Sheet ty_Sheet tyok_Sheet nm_Sheet hown hK hP (hD _) hS 9 cw_at_9 rfl 7 (by decide) (hts _ (List.mem_cons_of_mem _ kw_291)) (fun _ h9 => h9) rfl (by decide +kernel) rfl rfl (Nat.le_of_ble_eq_true rfl) d_Sheet_fill_16 (fun H locs hP _ hS => ?_)
 obtain ⟨u2, eu2⟩ : ∃ z, z = pw_si u1 8 0 := ⟨_, rfl⟩
 rw [cw_si_9_7, ← eu2] at hP
 have h := h u2 eu2
 refine lv_aload_n hx hb d_Sheet_fill_19 rfl (lv_at hl 0 rfl) ?_
 refine lv_iconst (v := 0) hx hb d_Sheet_fill_20 (by decide) ?_
 refine va_put (D := D) (ci := 8) (v := .int 0) (ty := .int) (C := R_Sheet) (T := T_Sheet) (N := 9) hx hb hts in_Sheet ty_Sheet tyok_Sheet nm_Sheet hown hK hP (hD _) hS 9 cw_at_9 rfl 8 (by decide) (hts _ (List.mem_cons_of_mem _ kw_292)) (fun _ h9 => h9) rfl (by decide +kernel) rfl rfl (Nat.le_of_ble_eq_true rfl) d_Sheet_fill_21 (fun H locs hP _ hS => ?_)
 obtain ⟨u3, eu3⟩ : ∃ z, z = pw_si u2 9 0 := ⟨_, rfl⟩
 rw [cw_si_9_8, ← eu3] at hP
 have h := h u3 eu3
 refine lv_iconst (v := 0) hx hb d_Sheet_fill_24 (by decide) ?_
 refine lv_istore_n (lv' := [(3, .int 0), (0, .ref (a 9)), (1, .int x1), (2, .int x2)]) hx hb d_Sheet_fill_25 rfl hl (by decide) rfl (fun ls hl => ?_)
 refine lv_iconst (v := 0) hx hb d_Sheet_fill_26 (by decide) ?_
 refine lv_istore (lv' := [(4, .int 0), (3, .int 0), (0, .ref (a 9)), (1, .int x1), (2, .int x2)]) hx hb d_Sheet_fill_27 hl (by decide) rfl (fun ls hl => ?_)
 obtain ⟨n1, h⟩ := h
 exact cp_Sheet_fill_29 C K EX n1 x1 x2 0 0 u3 _ _ _ hP hS (lv_sub hl [2, 3, 4, 1, 0] rfl) h
set_option maxHeartbeats 4000000 in
set_option maxRecDepth 100000 in
theorem ct_Sheet_fill (l : Launch) (D : va_G) (a : Nat → Nat) (cA cZ : ClassId) (G : pG) (sz : Nat) (x1 x2 : Int32) (u : pS) (Q : Int32 → pS → Prop) (hI : pw_I 40 a) (h : wp_Sheet_fill G x1 x2 u Q) : Met l y_Sheet_fill w_Sheet_fill ({ frames := 5, cells := 0, slots := 0, locals := 108 } : Room) (va_Pc [.ref (a 9), .int x1, .int x2] (fun U => pw_pre D (cw a cA cZ G) (cT cA cZ) sz u U ∧ cw_Ex (pw_F 40 a sz) U)) (va_Qi (fun (r : Int32) (u : pS) => Q r u) (pw_B D (cw a cA cZ G) (cT cA cZ)) (pw_F 40 a sz)) 0 0 (pw_F 40 a sz) := by
 refine Met.ofW (cc := b_Sheet_fill) (maxL := 7) (ret := (some .int)) (by decide) rfl ?_
 intro p e s m args below meth c s₁ B hml hv
 obtain ⟨rfl, ⟨hsz, hP, hK⟩, EX⟩ := hv
 subst hsz
 have hl := lv_entry ([.ref (a 9), .int x1, .int x2]) (n := 7) (Nat.le_of_ble_eq_true rfl)
 rw [lg_entry_eq]
 generalize (lg_sl ([.ref (a 9), .int x1, .int x2]) ++ List.replicate (7 - (lg_sl ([.ref (a 9), .int x1, .int x2])).length) Slot.unset).toArray = ls at hl ⊢
 exact st_Sheet_fill (A := (pw_F 40 a s.heap.size)) ⟨B.exec, B.bytes, B.returns, hml, findClass_of_methodNamed B.named, atoms_spec (ws := w_Sheet_fill) B.pre, B.notSynchronized, fun q hq => Or.inr hq⟩ ⟨hK, hI, fun k hk => Or.inl ⟨k, hk, rfl⟩⟩ EX x1 x2 u ls hP hl h
set_option maxHeartbeats 4000000 in
set_option maxRecDepth 100000 in
theorem st_PI_nest {p : Program} {l : Launch} {e : Env} {s : State} {m : MethodId} {args : Array Value} {below : List Frame} {meth : Method} {c : Code} {D : va_G} {a : Nat → Nat} {cA cZ : ClassId} {G : pG} {A : Nat → Prop} {Q : Int32 → pS → Prop} {X : Nat → pS → Prop} (C : pw_C p s m args meth c b_PI_nest 3 R_PI (some .int) w_PI_nest A) (K : pw_K s D 40 a (cT cA cZ) A) (EX : cw_Ex A s) (hL : px_L l) (htr : e.platform.stackTraces = false) (hE : ∀ (pc : Nat), ∀ x ∈ c.exceptionTable.toList, covers x pc = false) (x1 x2 : Int32) (u : pS) (ls : Array Slot) (hP : va_P D vwCl (cw a cA cZ G u) s.heap) (hl : lv_has ls 3 [(0, .ref (a 0)), (1, .int x1), (2, .int x2)]) (h : wp_PI_nest G x1 x2 u Q X) : W p l e ({ frames := 7, cells := 1, slots := 6, locals := 134 } : Room) s m args below meth c s.heap [] 0 0 (px_Ei below args s D (cw a cA cZ G) (cT cA cZ) A Q X) (F0 m 0 ls []) := by
 obtain ⟨hx, hb, hr, hml, hown, hts, hlocks, hA⟩ := id C
 obtain ⟨hK, hI, hF⟩ := id K
 have hD : ∀ u, va_D A (cw a cA cZ G u) := fun u => cw_D hI hF
 have hz : ∀ oc t, px_T X (pw_B D (cw a cA cZ G) (cT cA cZ)) oc t → va_F A s t → (px_Qi Q X (pw_B D (cw a cA cZ G) (cT cA cZ)) A) args s oc t := fun oc t h1 h2 => ⟨Or.inr h1, h2⟩
 have hS : va_S A s.heap s.heap [] := va_S.rf
 have h : wp_PI_nest G x1 x2 u Q X := h
 refine lv_aload_n hx hb d_PI_nest_0 rfl (lv_at hl 0 rfl) ?_
 refine cx_v (px_runV (As := []) (rest := []) ⟨hx, hb, hml, hown, hts⟩ (ct_PI_needParted l D a cA cZ G _  u _ _ hL hI h) (pw_cwV 0 hts kw_611 kw_45 kw_608 kw_610 kw_12 (by decide +kernel) ⟨Nat.le_of_ble_eq_true rfl, Nat.le_of_ble_eq_true rfl⟩) ⟨cw_blindX, va_recv hK hP (ci := 0) (q0 := 0) rfl cw_at_0, fun U hU hW => ⟨rfl, ⟨by rw [hU], by rw [hU]; exact hP, va_K.moved hW.alike hK⟩, cw_Ex_call EX hS (pw_FA hS hF hA) hU hW⟩⟩ rfl rfl hl.1 rfl (lv_room (Nat.le_of_ble_eq_true rfl)) d_PI_nest_1 ⟨Nat.le_of_ble_eq_true rfl, Nat.le_of_ble_eq_true rfl⟩) hS hF hA (hE _) hlocks hz (fun u1 H locs hP hS h => ?_)
 refine lv_iload_n hx hb d_PI_nest_4 rfl (lv_at hl 1 rfl) ?_
 refine lv_iconst (v := 1) hx hb d_PI_nest_5 (by decide) ?_
 refine lv_bipush (v := 100) hx hb d_PI_nest_6 (by decide) ?_
 refine cx_v (px_runS (As := [.int x1, .int 1, .int 100]) (rest := []) ⟨hx, hb, hml, hown, hts⟩ (ct_PI_needNumber l D a cA cZ G _ x1 1 100 u1 _ _ hL hI h) (pw_cwS 3 hts kw_441 kw_45 kw_439 kw_440 (by decide +kernel) ⟨Nat.le_of_ble_eq_true rfl, Nat.le_of_ble_eq_true rfl⟩) ⟨cw_blindX, fun U hU hW => ⟨rfl, ⟨by rw [hU], by rw [hU]; exact hP, va_K.moved hW.alike hK⟩, cw_Ex_call EX hS (pw_FA hS hF hA) hU hW⟩⟩ rfl rfl hl.1 rfl (lv_room (Nat.le_of_ble_eq_true rfl)) d_PI_nest_8 ⟨Nat.le_of_ble_eq_true rfl, Nat.le_of_ble_eq_true rfl⟩) hS hF hA (hE _) hlocks hz (fun u2 H locs hP hS h => ?_)
 refine lv_iload_n hx hb d_PI_nest_11 rfl (lv_at hl 2 rfl) ?_
 refine lv_iconst (v := 1) hx hb d_PI_nest_12 (by decide) ?_
 refine lv_bipush (v := 100) hx hb d_PI_nest_13 (by decide) ?_
 refine cx_v (px_runS (As := [.int x2, .int 1, .int 100]) (rest := []) ⟨hx, hb, hml, hown, hts⟩ (ct_PI_needNumber l D a cA cZ G _ x2 1 100 u2 _ _ hL hI h) (pw_cwS 3 hts kw_441 kw_45 kw_439 kw_440 (by decide +kernel) ⟨Nat.le_of_ble_eq_true rfl, Nat.le_of_ble_eq_true rfl⟩) ⟨cw_blindX, fun U hU hW => ⟨rfl, ⟨by rw [hU], by rw [hU]; exact hP, va_K.moved hW.alike hK⟩, cw_Ex_call EX hS (pw_FA hS hF hA) hU hW⟩⟩ rfl rfl hl.1 rfl (lv_room (Nat.le_of_ble_eq_true rfl)) d_PI_nest_15 ⟨Nat.le_of_ble_eq_true rfl, Nat.le_of_ble_eq_true rfl⟩) hS hF hA (hE _) hlocks hz (fun u3 H locs hP hS h => ?_)
 refine lv_aload_n hx hb d_PI_nest_18 rfl (lv_at hl 0 rfl) ?_
 refine lv_iconst (v := 1) hx hb d_PI_nest_19 (by decide) ?_
 refine va_put (D := D) (ci := 0) (v := .int 1) (ty := .boolean) (C := R_PI) (T := T_PI) (N := 12) hx hb hts in_PI ty_PI tyok_PI nm_PI hown hK hP (hD _) hS 0 cw_at_0 rfl 11 (by decide) (hts _ (List.mem_cons_of_mem _ kw_323)) (fun _ h9 => h9) rfl (by decide +kernel) rfl rfl (Nat.le_of_ble_eq_true rfl) d_PI_nest_20 (fun H locs hP _ hS => ?_)
 obtain ⟨u4, eu4⟩ : ∃ z, z = pw_si u3 1 1 := ⟨_, rfl⟩
 rw [cw_si_0_11, ← eu4] at hP
 have h := h u4 eu4
 refine lv_aload_n hx hb d_PI_nest_23 rfl (lv_at hl 0 rfl) ?_
 refine va_get (D := D) (ci := 0) (v := .ref (a 9)) (C := R_PI) (T := T_PI) (N := 12) hx hb hts in_PI hown hK hP 0 cw_at_0 rfl 9 (by decide) (hts _ (List.mem_cons_of_mem _ kw_321)) (fun _ h9 => h9) rfl d_PI_nest_24 ?_
 refine lv_iload_n hx hb d_PI_nest_27 rfl (lv_at hl 1 rfl) ?_
 refine lv_iload_n hx hb d_PI_nest_28 rfl (lv_at hl 2 rfl) ?_
 refine cc_i (va_runV (As := [.int x1, .int x2]) (rest := []) ⟨hx, hb, hml, hown, hts⟩ (ct_Sheet_fill l D a cA cZ G _ x1 x2 u4 _ hI h) (pw_cwV 2 hts kw_771 kw_55 kw_768 kw_769 kw_770 (by decide +kernel) ⟨Nat.le_of_ble_eq_true rfl, Nat.le_of_ble_eq_true rfl⟩) ⟨cw_blindX, va_recv hK hP (ci := 8) (q0 := 9) rfl cw_at_9, fun U hU hW => ⟨rfl, ⟨by rw [hU], by rw [hU]; exact hP, va_K.moved hW.alike hK⟩, cw_Ex_call EX hS (pw_FA hS hF hA) hU hW⟩⟩ rfl rfl hl.1 rfl (lv_room (Nat.le_of_ble_eq_true rfl)) d_PI_nest_29 ⟨Nat.le_of_ble_eq_true rfl, Nat.le_of_ble_eq_true rfl⟩) hS hF hA (fun r6 u5 H locs hP hS h => ?_)
 exact px_mono (fun t h => px_ofMQ (fun _ _ h => h) h) (W.iret (Qc := px_Qi Q X (pw_B D (cw a cA cZ G) (cT cA cZ)) A) (v := r6) hx hb hr (fun t ht hW => ⟨Or.inl ⟨r6, u5, rfl, h, by rw [ht]; exact hP, va_K.moved hW.alike hK⟩, hS.F ht⟩) hS.2.2 d_PI_nest_32 hlocks)
set_option maxHeartbeats 4000000 in
set_option maxRecDepth 100000 in
theorem ct_PI_nest (l : Launch) (D : va_G) (a : Nat → Nat) (cA cZ : ClassId) (G : pG) (sz : Nat) (x1 x2 : Int32) (u : pS) (Q : Int32 → pS → Prop) (X : Nat → pS → Prop) (hL : px_L l) (hI : pw_I 40 a) (h : wp_PI_nest G x1 x2 u Q X) : px_Met l y_PI_nest w_PI_nest ({ frames := 7, cells := 1, slots := 6, locals := 134 } : Room) (va_Pc [.ref (a 0), .int x1, .int x2] (fun U => pw_pre D (cw a cA cZ G) (cT cA cZ) sz u U ∧ cw_Ex (pw_F 40 a sz) U)) (px_Qi Q X (pw_B D (cw a cA cZ G) (cT cA cZ)) (pw_F 40 a sz)) 0 0 1 6 (pw_F 40 a sz) := by
 refine px_ofW (cc := b_PI_nest) (maxL := 3) (ret := (some .int)) (by decide) rfl ?_
 intro p e s m args below meth c s₁ B hml hE hv
 obtain ⟨rfl, ⟨hsz, hP, hK⟩, EX⟩ := hv
 subst hsz
 have hl := lv_entry ([.ref (a 0), .int x1, .int x2]) (n := 3) (Nat.le_of_ble_eq_true rfl)
 rw [lg_entry_eq]
 generalize (lg_sl ([.ref (a 0), .int x1, .int x2]) ++ List.replicate (3 - (lg_sl ([.ref (a 0), .int x1, .int x2])).length) Slot.unset).toArray = ls at hl ⊢
 exact st_PI_nest (A := (pw_F 40 a s.heap.size)) ⟨B.exec, B.bytes, B.returns, hml, findClass_of_methodNamed B.named, atoms_spec (ws := w_PI_nest) B.pre, B.notSynchronized, fun q hq => Or.inr hq⟩ ⟨hK, hI, fun k hk => Or.inl ⟨k, hk, rfl⟩⟩ EX hL (hL e B.admits) (px_none hE) x1 x2 u ls hP hl h
set_option maxHeartbeats 4000000 in
set_option maxRecDepth 100000 in
theorem st_PI_needNested {p : Program} {l : Launch} {e : Env} {s : State} {m : MethodId} {args : Array Value} {below : List Frame} {meth : Method} {c : Code} {D : va_G} {a : Nat → Nat} {cA cZ : ClassId} {G : pG} {A : Nat → Prop} {Q : pS → Prop} {X : Nat → pS → Prop} (C : pw_C p s m args meth c b_PI_needNested 1 R_PI none w_PI_needNested A) (K : pw_K s D 40 a (cT cA cZ) A) (EX : cw_Ex A s) (hL : px_L l) (htr : e.platform.stackTraces = false) (hE : ∀ (pc : Nat), ∀ x ∈ c.exceptionTable.toList, covers x pc = false) (u : pS) (ls : Array Slot) (hP : va_P D vwCl (cw a cA cZ G u) s.heap) (hl : lv_has ls 1 [(0, .ref (a 0))]) (h : wp_PI_needNested G u Q X) : W p l e ({ frames := 6, cells := 1, slots := 6, locals := 82 } : Room) s m args below meth c s.heap [] 0 0 (px_Ev below args s D (cw a cA cZ G) (cT cA cZ) A Q X) (F0 m 0 ls []) := by
 obtain ⟨hx, hb, hr, hml, hown, hts, hlocks, hA⟩ := id C
 obtain ⟨hK, hI, hF⟩ := id K
 have hD : ∀ u, va_D A (cw a cA cZ G u) := fun u => cw_D hI hF
 have hz : ∀ oc t, px_T X (pw_B D (cw a cA cZ G) (cT cA cZ)) oc t → va_F A s t → (px_Qv Q X (pw_B D (cw a cA cZ G) (cT cA cZ)) A) args s oc t := fun oc t h1 h2 => ⟨Or.inr h1, h2⟩
 have hS : va_S A s.heap s.heap [] := va_S.rf
 have h : wp_PI_needNested G u Q X := h
 refine lv_aload_n hx hb d_PI_needNested_0 rfl (lv_at hl 0 rfl) ?_
 refine va_get (D := D) (ci := 0) (v := .int (u.1 1)) (C := R_PI) (T := T_PI) (N := 12) hx hb hts in_PI hown hK hP 0 cw_at_0 rfl 11 (by decide) (hts _ (List.mem_cons_of_mem _ kw_323)) (fun _ h9 => h9) rfl d_PI_needNested_1 ?_
 refine lv_if_ne (tgt := 17) hx hb d_PI_needNested_4 (by decide) (fun c1 => ?_) (fun c1 => ?_)
 · have h := h.2 c1
   exact px_mono (fun t h => px_ofMQ (fun _ _ h => h) h) (W.vret (Qc := px_Qv Q X (pw_B D (cw a cA cZ G) (cT cA cZ)) A) hx hb hr (fun t ht hW => ⟨Or.inl ⟨u, rfl, h, by rw [ht]; exact hP, va_K.moved hW.alike hK⟩, hS.F ht⟩) hS.2.2 d_PI_needNested_17 hlocks)
 · have h := h.1 c1
   obtain ⟨q0, hq0⟩ := EX.1.2.1.1 ("PictureInlays", 224, "nothing was nested since it was parted") (by decide)
   exact px_thr (k := 0) (u := u) (tx := "nothing was nested since it was parted") (names := px_up) hx hb (by rw [hml]; exact hl.1.symm) hown (hts _ (List.mem_cons_of_mem _ kw_612)) (hts _ (List.mem_cons_of_mem _ kw_613)) (hts _ (List.mem_cons_of_mem _ kw_65)) hq0 (px_own (by decide) kw_622 hts EX.1) (by decide +kernel) (by decide +kernel) htr (hE _) hlocks (Nat.le_of_ble_eq_true rfl) (Nat.le_of_ble_eq_true rfl) (Nat.le_of_ble_eq_true rfl) (Nat.le_of_ble_eq_true rfl) hz hP hK h d_PI_needNested_7 d_PI_needNested_10 d_PI_needNested_11 d_PI_needNested_13 d_PI_needNested_16
set_option maxHeartbeats 4000000 in
set_option maxRecDepth 100000 in
theorem ct_PI_needNested (l : Launch) (D : va_G) (a : Nat → Nat) (cA cZ : ClassId) (G : pG) (sz : Nat) (u : pS) (Q : pS → Prop) (X : Nat → pS → Prop) (hL : px_L l) (hI : pw_I 40 a) (h : wp_PI_needNested G u Q X) : px_Met l y_PI_needNested w_PI_needNested ({ frames := 6, cells := 1, slots := 6, locals := 82 } : Room) (va_Pc [.ref (a 0)] (fun U => pw_pre D (cw a cA cZ G) (cT cA cZ) sz u U ∧ cw_Ex (pw_F 40 a sz) U)) (px_Qv Q X (pw_B D (cw a cA cZ G) (cT cA cZ)) (pw_F 40 a sz)) 0 0 1 6 (pw_F 40 a sz) := by
 refine px_ofW (cc := b_PI_needNested) (maxL := 1) (ret := none) (by decide) rfl ?_
 intro p e s m args below meth c s₁ B hml hE hv
 obtain ⟨rfl, ⟨hsz, hP, hK⟩, EX⟩ := hv
 subst hsz
 have hl := lv_entry ([.ref (a 0)]) (n := 1) (Nat.le_of_ble_eq_true rfl)
 rw [lg_entry_eq]
 generalize (lg_sl ([.ref (a 0)]) ++ List.replicate (1 - (lg_sl ([.ref (a 0)])).length) Slot.unset).toArray = ls at hl ⊢
 exact st_PI_needNested (A := (pw_F 40 a s.heap.size)) ⟨B.exec, B.bytes, B.returns, hml, findClass_of_methodNamed B.named, atoms_spec (ws := w_PI_needNested) B.pre, B.notSynchronized, fun q hq => Or.inr hq⟩ ⟨hK, hI, fun k hk => Or.inl ⟨k, hk, rfl⟩⟩ EX hL (hL e B.admits) (px_none hE) u ls hP hl h
set_option maxHeartbeats 4000000 in
set_option maxRecDepth 100000 in
theorem st_Sheet_yOf {p : Program} {l : Launch} {e : Env} {s : State} {m : MethodId} {args : Array Value} {below : List Frame} {meth : Method} {c : Code} {D : va_G} {a : Nat → Nat} {cA cZ : ClassId} {G : pG} {A : Nat → Prop} {Q : Int32 → pS → Prop} (C : pw_C p s m args meth c b_Sheet_yOf 2 R_Sheet (some .int) w_Sheet_yOf A) (K : pw_K s D 40 a (cT cA cZ) A) (x1 : Int32) (u : pS) (ls : Array Slot) (hP : va_P D vwCl (cw a cA cZ G u) s.heap) (hl : lv_has ls 2 [(0, .ref (a 9)), (1, .int x1)]) (h : wp_Sheet_yOf G x1 u Q) : W p l e ({ frames := 0, cells := 0, slots := 0, locals := 0 } : Room) s m args below meth c s.heap [] 0 0 (pw_Ei below args s D (cw a cA cZ G) (cT cA cZ) A Q) (F0 m 0 ls []) := by
 obtain ⟨hx, hb, hr, hml, hown, hts, hlocks, hA⟩ := id C
 obtain ⟨hK, hI, hF⟩ := id K
 have hD : ∀ u, va_D A (cw a cA cZ G u) := fun u => cw_D hI hF
 have hS : va_S A s.heap s.heap [] := va_S.rf
 have h : wp_Sheet_yOf G x1 u Q := h
 refine lv_aload_n hx hb d_Sheet_yOf_0 rfl (lv_at hl 0 rfl) ?_
 refine va_get (D := D) (ci := 8) (v := .ref (a 36)) (C := R_Sheet) (T := T_Sheet) (N := 9) hx hb hts in_Sheet hown hK hP 9 cw_at_9 rfl 3 (by decide) (hts _ (List.mem_cons_of_mem _ kw_287)) (fun _ h9 => h9) rfl d_Sheet_yOf_1 ?_
 refine lv_iload_n hx hb d_Sheet_yOf_4 rfl (lv_at hl 1 rfl) ?_
 refine va_iald hx hb hK hP 36 0 cw_at_36 rfl h.1 d_Sheet_yOf_5 ?_
 have h := h.2
 exact W.iret (v := (u.2 22 x1.toNatClampNeg)) hx hb hr (fun t ht hW => ⟨⟨(u.2 22 x1.toNatClampNeg), u, rfl, h, by rw [ht]; exact hP, va_K.moved hW.alike hK⟩, hS.F ht⟩) hS.2.2 d_Sheet_yOf_6 hlocks
set_option maxHeartbeats 4000000 in
set_option maxRecDepth 100000 in
theorem ct_Sheet_yOf (l : Launch) (D : va_G) (a : Nat → Nat) (cA cZ : ClassId) (G : pG) (sz : Nat) (x1 : Int32) (u : pS) (Q : Int32 → pS → Prop) (hI : pw_I 40 a) (h : wp_Sheet_yOf G x1 u Q) : Met l y_Sheet_yOf w_Sheet_yOf ({ frames := 0, cells := 0, slots := 0, locals := 0 } : Room) (va_Pc [.ref (a 9), .int x1] (pw_pre D (cw a cA cZ G) (cT cA cZ) sz u)) (va_Qi (fun (r : Int32) (u : pS) => Q r u) (pw_B D (cw a cA cZ G) (cT cA cZ)) (pw_F 40 a sz)) 0 0 (pw_F 40 a sz) := by
 refine Met.ofW (cc := b_Sheet_yOf) (maxL := 2) (ret := (some .int)) (by decide) rfl ?_
 intro p e s m args below meth c s₁ B hml hv
 obtain ⟨rfl, hsz, hP, hK⟩ := hv
 subst hsz
 have hl := lv_entry ([.ref (a 9), .int x1]) (n := 2) (Nat.le_of_ble_eq_true rfl)
 rw [lg_entry_eq]
 generalize (lg_sl ([.ref (a 9), .int x1]) ++ List.replicate (2 - (lg_sl ([.ref (a 9), .int x1])).length) Slot.unset).toArray = ls at hl ⊢
 exact st_Sheet_yOf (A := (pw_F 40 a s.heap.size)) ⟨B.exec, B.bytes, B.returns, hml, findClass_of_methodNamed B.named, atoms_spec (ws := w_Sheet_yOf) B.pre, B.notSynchronized, fun q hq => Or.inr hq⟩ ⟨hK, hI, fun k hk => Or.inl ⟨k, hk, rfl⟩⟩ x1 u ls hP hl h
set_option maxHeartbeats 4000000 in
set_option maxRecDepth 100000 in
theorem st_Sheet_xOf {p : Program} {l : Launch} {e : Env} {s : State} {m : MethodId} {args : Array Value} {below : List Frame} {meth : Method} {c : Code} {D : va_G} {a : Nat → Nat} {cA cZ : ClassId} {G : pG} {A : Nat → Prop} {Q : Int32 → pS → Prop} (C : pw_C p s m args meth c b_Sheet_xOf 2 R_Sheet (some .int) w_Sheet_xOf A) (K : pw_K s D 40 a (cT cA cZ) A) (x1 : Int32) (u : pS) (ls : Array Slot) (hP : va_P D vwCl (cw a cA cZ G u) s.heap) (hl : lv_has ls 2 [(0, .ref (a 9)), (1, .int x1)]) (h : wp_Sheet_xOf G x1 u Q) : W p l e ({ frames := 0, cells := 0, slots := 0, locals := 0 } : Room) s m args below meth c s.heap [] 0 0 (pw_Ei below args s D (cw a cA cZ G) (cT cA cZ) A Q) (F0 m 0 ls []) := by
 obtain ⟨hx, hb, hr, hml, hown, hts, hlocks, hA⟩ := id C
 obtain ⟨hK, hI, hF⟩ := id K
 have hD : ∀ u, va_D A (cw a cA cZ G u) := fun u => cw_D hI hF
 have hS : va_S A s.heap s.heap [] := va_S.rf
 have h : wp_Sheet_xOf G x1 u Q := h
 refine lv_aload_n hx hb d_Sheet_xOf_0 rfl (lv_at hl 0 rfl) ?_
 refine va_get (D := D) (ci := 8) (v := .ref (a 35)) (C := R_Sheet) (T := T_Sheet) (N := 9) hx hb hts in_Sheet hown hK hP 9 cw_at_9 rfl 2 (by decide) (hts _ (List.mem_cons_of_mem _ kw_286)) (fun _ h9 => h9) rfl d_Sheet_xOf_1 ?_
 refine lv_iload_n hx hb d_Sheet_xOf_4 rfl (lv_at hl 1 rfl) ?_
 refine va_iald hx hb hK hP 35 0 cw_at_35 rfl h.1 d_Sheet_xOf_5 ?_
 have h := h.2
 exact W.iret (v := (u.2 21 x1.toNatClampNeg)) hx hb hr (fun t ht hW => ⟨⟨(u.2 21 x1.toNatClampNeg), u, rfl, h, by rw [ht]; exact hP, va_K.moved hW.alike hK⟩, hS.F ht⟩) hS.2.2 d_Sheet_xOf_6 hlocks
set_option maxHeartbeats 4000000 in
set_option maxRecDepth 100000 in
theorem ct_Sheet_xOf (l : Launch) (D : va_G) (a : Nat → Nat) (cA cZ : ClassId) (G : pG) (sz : Nat) (x1 : Int32) (u : pS) (Q : Int32 → pS → Prop) (hI : pw_I 40 a) (h : wp_Sheet_xOf G x1 u Q) : Met l y_Sheet_xOf w_Sheet_xOf ({ frames := 0, cells := 0, slots := 0, locals := 0 } : Room) (va_Pc [.ref (a 9), .int x1] (pw_pre D (cw a cA cZ G) (cT cA cZ) sz u)) (va_Qi (fun (r : Int32) (u : pS) => Q r u) (pw_B D (cw a cA cZ G) (cT cA cZ)) (pw_F 40 a sz)) 0 0 (pw_F 40 a sz) := by
 refine Met.ofW (cc := b_Sheet_xOf) (maxL := 2) (ret := (some .int)) (by decide) rfl ?_
 intro p e s m args below meth c s₁ B hml hv
 obtain ⟨rfl, hsz, hP, hK⟩ := hv
 subst hsz
 have hl := lv_entry ([.ref (a 9), .int x1]) (n := 2) (Nat.le_of_ble_eq_true rfl)
 rw [lg_entry_eq]
 generalize (lg_sl ([.ref (a 9), .int x1]) ++ List.replicate (2 - (lg_sl ([.ref (a 9), .int x1])).length) Slot.unset).toArray = ls at hl ⊢
 exact st_Sheet_xOf (A := (pw_F 40 a s.heap.size)) ⟨B.exec, B.bytes, B.returns, hml, findClass_of_methodNamed B.named, atoms_spec (ws := w_Sheet_xOf) B.pre, B.notSynchronized, fun q hq => Or.inr hq⟩ ⟨hK, hI, fun k hk => Or.inl ⟨k, hk, rfl⟩⟩ x1 u ls hP hl h
set_option maxHeartbeats 4000000 in
set_option maxRecDepth 100000 in
theorem st_PI_at {p : Program} {l : Launch} {e : Env} {s : State} {m : MethodId} {args : Array Value} {below : List Frame} {meth : Method} {c : Code} {D : va_G} {a : Nat → Nat} {cA cZ : ClassId} {G : pG} {A : Nat → Prop} {Q : Int32 → pS → Prop} {X : Nat → pS → Prop} (C : pw_C p s m args meth c b_PI_at 3 R_PI (some .int) w_PI_at A) (K : pw_K s D 40 a (cT cA cZ) A) (EX : cw_Ex A s) (hL : px_L l) (htr : e.platform.stackTraces = false) (hE : ∀ (pc : Nat), ∀ x ∈ c.exceptionTable.toList, covers x pc = false) (x1 x2 : Int32) (u : pS) (ls : Array Slot) (hP : va_P D vwCl (cw a cA cZ G u) s.heap) (hl : lv_has ls 3 [(0, .ref (a 0)), (1, .int x1), (2, .int x2)]) (h : wp_PI_at G x1 x2 u Q X) : W p l e ({ frames := 8, cells := 1, slots := 6, locals := 124 } : Room) s m args below meth c s.heap [] 0 0 (px_Ei below args s D (cw a cA cZ G) (cT cA cZ) A Q X) (F0 m 0 ls []) := by
 obtain ⟨hx, hb, hr, hml, hown, hts, hlocks, hA⟩ := id C
 obtain ⟨hK, hI, hF⟩ := id K
 have hD : ∀ u, va_D A (cw a cA cZ G u) := fun u => cw_D hI hF
 have hz : ∀ oc t, px_T X (pw_B D (cw a cA cZ G) (cT cA cZ)) oc t → va_F A s t → (px_Qi Q X (pw_B D (cw a cA cZ G) (cT cA cZ)) A) args s oc t := fun oc t h1 h2 => ⟨Or.inr h1, h2⟩
 have hS : va_S A s.heap s.heap [] := va_S.rf
 have h : wp_PI_at G x1 x2 u Q X := h
 refine lv_aload_n hx hb d_PI_at_0 rfl (lv_at hl 0 rfl) ?_
 refine cx_v (px_runV (As := []) (rest := []) ⟨hx, hb, hml, hown, hts⟩ (ct_PI_needNested l D a cA cZ G _  u _ _ hL hI h) (pw_cwV 0 hts kw_798 kw_45 kw_795 kw_797 kw_22 (by decide +kernel) ⟨Nat.le_of_ble_eq_true rfl, Nat.le_of_ble_eq_true rfl⟩) ⟨cw_blindX, va_recv hK hP (ci := 0) (q0 := 0) rfl cw_at_0, fun U hU hW => ⟨rfl, ⟨by rw [hU], by rw [hU]; exact hP, va_K.moved hW.alike hK⟩, cw_Ex_call EX hS (pw_FA hS hF hA) hU hW⟩⟩ rfl rfl hl.1 rfl (lv_room (Nat.le_of_ble_eq_true rfl)) d_PI_at_1 ⟨Nat.le_of_ble_eq_true rfl, Nat.le_of_ble_eq_true rfl⟩) hS hF hA (hE _) hlocks hz (fun u1 H locs hP hS h => ?_)
 refine lv_aload_n hx hb d_PI_at_4 rfl (lv_at hl 0 rfl) ?_
 refine lv_iload_n hx hb d_PI_at_5 rfl (lv_at hl 1 rfl) ?_
 refine cx_v (px_runV (As := [.int x1]) (rest := []) ⟨hx, hb, hml, hown, hts⟩ (ct_PI_needPiece l D a cA cZ G _ x1 u1 _ _ hL hI h) (pw_cwV 1 hts kw_643 kw_45 kw_640 kw_642 kw_13 (by decide +kernel) ⟨Nat.le_of_ble_eq_true rfl, Nat.le_of_ble_eq_true rfl⟩) ⟨cw_blindX, va_recv hK hP (ci := 0) (q0 := 0) rfl cw_at_0, fun U hU hW => ⟨rfl, ⟨by rw [hU], by rw [hU]; exact hP, va_K.moved hW.alike hK⟩, cw_Ex_call EX hS (pw_FA hS hF hA) hU hW⟩⟩ rfl rfl hl.1 rfl (lv_room (Nat.le_of_ble_eq_true rfl)) d_PI_at_6 ⟨Nat.le_of_ble_eq_true rfl, Nat.le_of_ble_eq_true rfl⟩) hS hF hA (hE _) hlocks hz (fun u2 H locs hP hS h => ?_)
 refine lv_iload_n hx hb d_PI_at_9 rfl (lv_at hl 2 rfl) ?_
 refine lv_iconst (v := 2) hx hb d_PI_at_10 (by decide) ?_
 refine cx_v (px_runS (As := [.int x2, .int 2]) (rest := []) ⟨hx, hb, hml, hown, hts⟩ (ct_PI_needIndex l D a cA cZ G _ x2 2 u2 _ _ hL hI h) (pw_cwS 2 hts kw_367 kw_45 kw_365 kw_366 (by decide +kernel) ⟨Nat.le_of_ble_eq_true rfl, Nat.le_of_ble_eq_true rfl⟩) ⟨cw_blindX, fun U hU hW => ⟨rfl, ⟨by rw [hU], by rw [hU]; exact hP, va_K.moved hW.alike hK⟩, cw_Ex_call EX hS (pw_FA hS hF hA) hU hW⟩⟩ rfl rfl hl.1 rfl (lv_room (Nat.le_of_ble_eq_true rfl)) d_PI_at_11 ⟨Nat.le_of_ble_eq_true rfl, Nat.le_of_ble_eq_true rfl⟩) hS hF hA (hE _) hlocks hz (fun u3 H locs hP hS h => ?_)
 refine lv_iload_n hx hb d_PI_at_14 rfl (lv_at hl 2 rfl) ?_
 refine lv_if_ne (tgt := 29) hx hb d_PI_at_15 (by decide) (fun c4 => ?_) (fun c4 => ?_)
 · have h := h.2 c4
   refine lv_aload_n hx hb d_PI_at_29 rfl (lv_at hl 0 rfl) ?_
   refine va_get (D := D) (ci := 0) (v := .ref (a 9)) (C := R_PI) (T := T_PI) (N := 12) hx hb hts in_PI hown hK hP 0 cw_at_0 rfl 9 (by decide) (hts _ (List.mem_cons_of_mem _ kw_321)) (fun _ h9 => h9) rfl d_PI_at_30 ?_
   refine lv_iload_n hx hb d_PI_at_33 rfl (lv_at hl 1 rfl) ?_
   refine cc_i (va_runV (As := [.int x1]) (rest := []) ⟨hx, hb, hml, hown, hts⟩ (ct_Sheet_yOf l D a cA cZ G _ x1 u3 _ hI h) (pw_cwV 1 hts kw_807 kw_55 kw_804 kw_805 kw_806 (by decide +kernel) ⟨Nat.le_of_ble_eq_true rfl, Nat.le_of_ble_eq_true rfl⟩) ⟨pw_blind, va_recv hK hP (ci := 8) (q0 := 9) rfl cw_at_9, fun U hU hW => ⟨rfl, by rw [hU], by rw [hU]; exact hP, va_K.moved hW.alike hK⟩⟩ rfl rfl hl.1 rfl (lv_room (Nat.le_of_ble_eq_true rfl)) d_PI_at_34 ⟨Nat.le_of_ble_eq_true rfl, Nat.le_of_ble_eq_true rfl⟩) hS hF hA (fun r6 u5 H locs hP hS h => ?_)
   exact px_mono (fun t h => px_ofMQ (fun _ _ h => h) h) (W.iret (Qc := px_Qi Q X (pw_B D (cw a cA cZ G) (cT cA cZ)) A) (v := r6) hx hb hr (fun t ht hW => ⟨Or.inl ⟨r6, u5, rfl, h, by rw [ht]; exact hP, va_K.moved hW.alike hK⟩, hS.F ht⟩) hS.2.2 d_PI_at_37 hlocks)
 · have h := h.1 c4
   refine lv_aload_n hx hb d_PI_at_18 rfl (lv_at hl 0 rfl) ?_
   refine va_get (D := D) (ci := 0) (v := .ref (a 9)) (C := R_PI) (T := T_PI) (N := 12) hx hb hts in_PI hown hK hP 0 cw_at_0 rfl 9 (by decide) (hts _ (List.mem_cons_of_mem _ kw_321)) (fun _ h9 => h9) rfl d_PI_at_19 ?_
   refine lv_iload_n hx hb d_PI_at_22 rfl (lv_at hl 1 rfl) ?_
   refine cc_i (va_runV (As := [.int x1]) (rest := []) ⟨hx, hb, hml, hown, hts⟩ (ct_Sheet_xOf l D a cA cZ G _ x1 u3 _ hI h) (pw_cwV 1 hts kw_803 kw_55 kw_800 kw_801 kw_802 (by decide +kernel) ⟨Nat.le_of_ble_eq_true rfl, Nat.le_of_ble_eq_true rfl⟩) ⟨pw_blind, va_recv hK hP (ci := 8) (q0 := 9) rfl cw_at_9, fun U hU hW => ⟨rfl, by rw [hU], by rw [hU]; exact hP, va_K.moved hW.alike hK⟩⟩ rfl rfl hl.1 rfl (lv_room (Nat.le_of_ble_eq_true rfl)) d_PI_at_23 ⟨Nat.le_of_ble_eq_true rfl, Nat.le_of_ble_eq_true rfl⟩) hS hF hA (fun r8 u7 H locs hP hS h => ?_)
   refine lv_goto (tgt := 37) hx hb d_PI_at_26 (by decide) ?_
   exact px_mono (fun t h => px_ofMQ (fun _ _ h => h) h) (W.iret (Qc := px_Qi Q X (pw_B D (cw a cA cZ G) (cT cA cZ)) A) (v := r8) hx hb hr (fun t ht hW => ⟨Or.inl ⟨r8, u7, rfl, h, by rw [ht]; exact hP, va_K.moved hW.alike hK⟩, hS.F ht⟩) hS.2.2 d_PI_at_37 hlocks)
set_option maxHeartbeats 4000000 in
set_option maxRecDepth 100000 in
theorem ct_PI_at (l : Launch) (D : va_G) (a : Nat → Nat) (cA cZ : ClassId) (G : pG) (sz : Nat) (x1 x2 : Int32) (u : pS) (Q : Int32 → pS → Prop) (X : Nat → pS → Prop) (hL : px_L l) (hI : pw_I 40 a) (h : wp_PI_at G x1 x2 u Q X) : px_Met l y_PI_at w_PI_at ({ frames := 8, cells := 1, slots := 6, locals := 124 } : Room) (va_Pc [.ref (a 0), .int x1, .int x2] (fun U => pw_pre D (cw a cA cZ G) (cT cA cZ) sz u U ∧ cw_Ex (pw_F 40 a sz) U)) (px_Qi Q X (pw_B D (cw a cA cZ G) (cT cA cZ)) (pw_F 40 a sz)) 0 0 1 6 (pw_F 40 a sz) := by
 refine px_ofW (cc := b_PI_at) (maxL := 3) (ret := (some .int)) (by decide) rfl ?_
 intro p e s m args below meth c s₁ B hml hE hv
 obtain ⟨rfl, ⟨hsz, hP, hK⟩, EX⟩ := hv
 subst hsz
 have hl := lv_entry ([.ref (a 0), .int x1, .int x2]) (n := 3) (Nat.le_of_ble_eq_true rfl)
 rw [lg_entry_eq]
 generalize (lg_sl ([.ref (a 0), .int x1, .int x2]) ++ List.replicate (3 - (lg_sl ([.ref (a 0), .int x1, .int x2])).length) Slot.unset).toArray = ls at hl ⊢
 exact st_PI_at (A := (pw_F 40 a s.heap.size)) ⟨B.exec, B.bytes, B.returns, hml, findClass_of_methodNamed B.named, atoms_spec (ws := w_PI_at) B.pre, B.notSynchronized, fun q hq => Or.inr hq⟩ ⟨hK, hI, fun k hk => Or.inl ⟨k, hk, rfl⟩⟩ EX hL (hL e B.admits) (px_none hE) x1 x2 u ls hP hl h
set_option maxHeartbeats 4000000 in
set_option maxRecDepth 100000 in
theorem cp_PI_commonDivisor_7 {p : Program} {l : Launch} {e : Env} {s : State} {m : MethodId} {args : Array Value} {below : List Frame} {meth : Method} {c : Code} {D : va_G} {a : Nat → Nat} {cA cZ : ClassId} {G : pG} {A : Nat → Prop} {Q : Int32 → pS → Prop} (C : pw_C p s m args meth c b_PI_commonDivisor 6 R_PI (some .int) w_PI_commonDivisor A) (K : pw_K s D 40 a (cT cA cZ) A) : ∀ (n : Nat), ∀ (x2 x3 x4 : Int32) (u : pS) (H : Heap) (locs : List Loc) (ls : Array Slot), va_P D vwCl (cw a cA cZ G u) H → va_S A s.heap H locs → lv_has ls 6 [(2, .int x2), (3, .int x3), (4, .int x4)] → lp_PI_commonDivisor_7 G Q n x2 x3 x4 u → W p l e ({ frames := 0, cells := 0, slots := 0, locals := 0 } : Room) s m args below meth c H locs 0 0 (pw_Ei below args s D (cw a cA cZ G) (cT cA cZ) A Q) (F0 m 7 ls []) := by
 obtain ⟨hx, hb, hr, hml, hown, hts, hlocks, hA⟩ := id C
 obtain ⟨hK, hI, hF⟩ := id K
 have hD : ∀ u, va_D A (cw a cA cZ G u) := fun u => cw_D hI hF
 intro n
 induction n with
 | zero => intro x2 x3 x4 u H locs ls hP hS hl h; exact h.elim
 | succ n ih =>
   intro x2 x3 x4 u H locs ls hP hS hl h
   refine lv_iload hx hb d_PI_commonDivisor_7 (lv_at hl 2 rfl) ?_
   refine lv_ldc (v := 1000000) hx hb hown (hts _ (List.mem_cons_of_mem _ kw_815)) d_PI_commonDivisor_9 ?_
   refine lv_icmp_ge (tgt := 34) hx hb d_PI_commonDivisor_11 (by decide) (fun c1 => ?_) (fun c1 => ?_)
   · have h := h.1 c1
     refine lv_iload_n hx hb d_PI_commonDivisor_34 rfl (lv_at hl 0 rfl) ?_
     exact W.iret (v := x2) hx hb hr (fun t ht hW => ⟨⟨x2, u, rfl, h, by rw [ht]; exact hP, va_K.moved hW.alike hK⟩, hS.F ht⟩) hS.2.2 d_PI_commonDivisor_35 hlocks
   · have h := h.2 c1
     refine lv_iload_n hx hb d_PI_commonDivisor_14 rfl (lv_at hl 1 rfl) ?_
     refine lv_if_eq (tgt := 34) hx hb d_PI_commonDivisor_15 (by decide) (fun c2 => ?_) (fun c2 => ?_)
     · have h := h.1 c2
       refine lv_iload_n hx hb d_PI_commonDivisor_34 rfl (lv_at hl 0 rfl) ?_
       exact W.iret (v := x2) hx hb hr (fun t ht hW => ⟨⟨x2, u, rfl, h, by rw [ht]; exact hP, va_K.moved hW.alike hK⟩, hS.F ht⟩) hS.2.2 d_PI_commonDivisor_35 hlocks
     · have h := h.2 c2
       refine lv_iload_n hx hb d_PI_commonDivisor_18 rfl (lv_at hl 0 rfl) ?_
       refine lv_iload_n hx hb d_PI_commonDivisor_19 rfl (lv_at hl 1 rfl) ?_
       refine lv_irem hx hb d_PI_commonDivisor_20 h.1 ?_
       have h := h.2
       refine lv_topi (fun t3 et3 => ?_)
       have h := h t3 et3
       refine lv_istore (lv' := [(5, .int t3), (2, .int x2), (3, .int x3), (4, .int x4)]) hx hb d_PI_commonDivisor_21 hl (by decide) rfl (fun ls hl => ?_)
       refine lv_iload_n hx hb d_PI_commonDivisor_23 rfl (lv_at hl 2 rfl) ?_
       refine lv_istore_n (lv' := [(2, .int x3), (5, .int t3), (3, .int x3), (4, .int x4)]) hx hb d_PI_commonDivisor_24 rfl hl (by decide) rfl (fun ls hl => ?_)
       refine lv_iload hx hb d_PI_commonDivisor_25 (lv_at hl 1 rfl) ?_
       refine lv_istore_n (lv' := [(3, .int t3), (2, .int x3), (5, .int t3), (4, .int x4)]) hx hb d_PI_commonDivisor_27 rfl hl (by decide) rfl (fun ls hl => ?_)
       obtain ⟨t4, et4⟩ : ∃ y : Int32, y = x4 + 1 := ⟨_, rfl⟩
       have h := h t4 et4
       refine lv_iinc (v := t4) (lv' := [(4, .int t4), (3, .int t3), (2, .int x3), (5, .int t3)]) hx hb d_PI_commonDivisor_28 hl (k := 3) rfl (by rw [et4]; rfl) (by decide) rfl (fun ls hl => ?_)
       refine lv_goto (tgt := 7) hx hb d_PI_commonDivisor_31 (by decide) ?_
       exact ih x3 t3 t4 u _ _ _ hP hS (lv_sub hl [2, 1, 0] rfl) h
set_option maxHeartbeats 4000000 in
set_option maxRecDepth 100000 in
theorem st_PI_commonDivisor {p : Program} {l : Launch} {e : Env} {s : State} {m : MethodId} {args : Array Value} {below : List Frame} {meth : Method} {c : Code} {D : va_G} {a : Nat → Nat} {cA cZ : ClassId} {G : pG} {A : Nat → Prop} {Q : Int32 → pS → Prop} (C : pw_C p s m args meth c b_PI_commonDivisor 6 R_PI (some .int) w_PI_commonDivisor A) (K : pw_K s D 40 a (cT cA cZ) A) (x0 x1 : Int32) (u : pS) (ls : Array Slot) (hP : va_P D vwCl (cw a cA cZ G u) s.heap) (hl : lv_has ls 6 [(0, .int x0), (1, .int x1)]) (h : wp_PI_commonDivisor G x0 x1 u Q) : W p l e ({ frames := 0, cells := 0, slots := 0, locals := 0 } : Room) s m args below meth c s.heap [] 0 0 (pw_Ei below args s D (cw a cA cZ G) (cT cA cZ) A Q) (F0 m 0 ls []) := by
 obtain ⟨hx, hb, hr, hml, hown, hts, hlocks, hA⟩ := id C
 obtain ⟨hK, hI, hF⟩ := id K
 have hD : ∀ u, va_D A (cw a cA cZ G u) := fun u => cw_D hI hF
 have hS : va_S A s.heap s.heap [] := va_S.rf
 have h : wp_PI_commonDivisor G x0 x1 u Q := h
 refine lv_iload_n hx hb d_PI_commonDivisor_0 rfl (lv_at hl 0 rfl) ?_
 refine lv_istore_n (lv' := [(2, .int x0), (0, .int x0), (1, .int x1)]) hx hb d_PI_commonDivisor_1 rfl hl (by decide) rfl (fun ls hl => ?_)
 refine lv_iload_n hx hb d_PI_commonDivisor_2 rfl (lv_at hl 2 rfl) ?_
 refine lv_istore_n (lv' := [(3, .int x1), (2, .int x0), (0, .int x0), (1, .int x1)]) hx hb d_PI_commonDivisor_3 rfl hl (by decide) rfl (fun ls hl => ?_)
 refine lv_iconst (v := 0) hx hb d_PI_commonDivisor_4 (by decide) ?_
 refine lv_istore (lv' := [(4, .int 0), (3, .int x1), (2, .int x0), (0, .int x0), (1, .int x1)]) hx hb d_PI_commonDivisor_5 hl (by decide) rfl (fun ls hl => ?_)
 obtain ⟨n1, h⟩ := h
 exact cp_PI_commonDivisor_7 C K n1 x0 x1 0 u _ _ _ hP hS (lv_sub hl [2, 1, 0] rfl) h
set_option maxHeartbeats 4000000 in
set_option maxRecDepth 100000 in
theorem ct_PI_commonDivisor (l : Launch) (D : va_G) (a : Nat → Nat) (cA cZ : ClassId) (G : pG) (sz : Nat) (x0 x1 : Int32) (u : pS) (Q : Int32 → pS → Prop) (hI : pw_I 40 a) (h : wp_PI_commonDivisor G x0 x1 u Q) : Met l y_PI_commonDivisor w_PI_commonDivisor ({ frames := 0, cells := 0, slots := 0, locals := 0 } : Room) (va_Pc [.int x0, .int x1] (pw_pre D (cw a cA cZ G) (cT cA cZ) sz u)) (va_Qi (fun (r : Int32) (u : pS) => Q r u) (pw_B D (cw a cA cZ G) (cT cA cZ)) (pw_F 40 a sz)) 0 0 (pw_F 40 a sz) := by
 refine Met.ofW (cc := b_PI_commonDivisor) (maxL := 6) (ret := (some .int)) (by decide) rfl ?_
 intro p e s m args below meth c s₁ B hml hv
 obtain ⟨rfl, hsz, hP, hK⟩ := hv
 subst hsz
 have hl := lv_entry ([.int x0, .int x1]) (n := 6) (Nat.le_of_ble_eq_true rfl)
 rw [lg_entry_eq]
 generalize (lg_sl ([.int x0, .int x1]) ++ List.replicate (6 - (lg_sl ([.int x0, .int x1])).length) Slot.unset).toArray = ls at hl ⊢
 exact st_PI_commonDivisor (A := (pw_F 40 a s.heap.size)) ⟨B.exec, B.bytes, B.returns, hml, findClass_of_methodNamed B.named, atoms_spec (ws := w_PI_commonDivisor) B.pre, B.notSynchronized, fun q hq => Or.inr hq⟩ ⟨hK, hI, fun k hk => Or.inl ⟨k, hk, rfl⟩⟩ x0 x1 u ls hP hl h
