set_option maxHeartbeats 4000000 in
set_option maxRecDepth 100000 in
theorem cp_Ranking_rank_laying_18 {p : Program} {l : Launch} {e : Env} {s : State} {m : MethodId} {args : Array Value} {below : List Frame} {meth : Method} {c : Code} {D : va_G} {a : Nat → Nat} {cA cZ : ClassId} {G : pG} {A : Nat → Prop} {Q : pS → Prop} (C : pw_C p s m args meth c b_Ranking_rank 4 R_Ranking none w_Ranking_rank A) (K : pw_K s D 40 a (cT cA cZ) A) (EX : cw_Ex A s) {k2 : Int32 → Int32 → pS → Prop} (hk2 : ∀ (x1 x2 : Int32) (u : pS) (H : Heap) (locs : List Loc) (ls : Array Slot), va_P D vwCl (cw a cA cZ G u) H → va_S A s.heap H locs → lv_has ls 4 [(0, .ref (a 6)), (1, .int x1), (2, .int x2)] → k2 x1 x2 u → W p l e ({ frames := 4, cells := 0, slots := 0, locals := 85 } : Room) s m args below meth c H locs 0 0 (pw_Ev below args s D (cw a cA cZ G) (cT cA cZ) A Q) (F0 m 2 ls [])) : ∀ (n : Nat), ∀ (x1 x2 x3 : Int32) (u : pS) (H : Heap) (locs : List Loc) (ls : Array Slot), va_P D vwCl (cw a cA cZ G u) H → va_S A s.heap H locs → lv_has ls 4 [(0, .ref (a 6)), (1, .int x1), (2, .int x2), (3, .int x3)] → lp_Ranking_rank_laying_18 G Q k2 n x1 x2 x3 u → W p l e ({ frames := 4, cells := 0, slots := 0, locals := 85 } : Room) s m args below meth c H locs 0 0 (pw_Ev below args s D (cw a cA cZ G) (cT cA cZ) A Q) (F0 m 18 ls []) := by
 obtain ⟨hx, hb, hr, hml, hown, hts, hlocks, hA⟩ := id C
 obtain ⟨hK, hI, hF⟩ := id K
 have hD : ∀ u, va_D A (cw a cA cZ G u) := fun u => cw_D hI hF
 intro n
 induction n with
 | zero => intro x1 x2 x3 u H locs ls hP hS hl h; exact h.elim
 | succ n ih =>
   intro x1 x2 x3 u H locs ls hP hS hl h
   refine lv_iload_n hx hb d_Ranking_rank_18 rfl (lv_at hl 3 rfl) ?_
   refine lv_if_le (tgt := 58) hx hb d_Ranking_rank_19 (by decide) (fun c3 => ?_) (fun c3 => ?_)
   · have h := h.1 c3
     refine lv_aload_n hx hb d_Ranking_rank_58 rfl (lv_at hl 0 rfl) ?_
     refine va_get (D := D) (ci := 6) (v := .ref (a 30)) (C := R_Laying) (T := T_Laying) (N := 2) hx hb hts in_Laying hown hK hP 6 cw_at_6 rfl 0 (by decide) (hts _ (List.mem_cons_of_mem _ kw_197)) (fun _ h9 => h9) rfl d_Ranking_rank_59 ?_
     refine lv_iload_n hx hb d_Ranking_rank_62 rfl (lv_at hl 3 rfl) ?_
     refine lv_iload_n hx hb d_Ranking_rank_63 rfl (lv_at hl 2 rfl) ?_
     refine va_iast hx hb hK hP (hD _) hS 30 0 cw_at_30 rfl h.1 d_Ranking_rank_64 (fun H locs hP _ hS => ?_)
     obtain ⟨u4, eu4⟩ : ∃ z, z = pw_sa u 16 (upd (u.2 16) x3.toNatClampNeg x2) := ⟨_, rfl⟩
     rw [cw_sa_30, ← eu4] at hP
     have h := h.2 u4 eu4
     obtain ⟨t5, et5⟩ : ∃ y : Int32, y = x2 + 1 := ⟨_, rfl⟩
     have h := h t5 et5
     refine lv_iinc (v := t5) (lv' := [(2, .int t5), (0, .ref (a 6)), (1, .int x1), (3, .int x3)]) hx hb d_Ranking_rank_65 hl (k := 2) rfl (by rw [et5]; rfl) (by decide) rfl (fun ls hl => ?_)
     refine lv_goto (tgt := 2) hx hb d_Ranking_rank_68 (by decide) ?_
     exact hk2 x1 t5 u4 _ _ _ hP hS (lv_sub hl [1, 2, 0] rfl) h
   · have h := h.2 c3
     refine lv_aload_n hx hb d_Ranking_rank_22 rfl (lv_at hl 0 rfl) ?_
     refine lv_iload_n hx hb d_Ranking_rank_23 rfl (lv_at hl 2 rfl) ?_
     refine lv_aload_n hx hb d_Ranking_rank_24 rfl (lv_at hl 0 rfl) ?_
     refine va_get (D := D) (ci := 6) (v := .ref (a 30)) (C := R_Laying) (T := T_Laying) (N := 2) hx hb hts in_Laying hown hK hP 6 cw_at_6 rfl 0 (by decide) (hts _ (List.mem_cons_of_mem _ kw_197)) (fun _ h9 => h9) rfl d_Ranking_rank_25 ?_
     refine lv_iload_n hx hb d_Ranking_rank_28 rfl (lv_at hl 3 rfl) ?_
     refine lv_iconst (v := 1) hx hb d_Ranking_rank_29 (by decide) ?_
     refine lv_isub hx hb d_Ranking_rank_30 ?_
     refine va_iald hx hb hK hP 30 0 cw_at_30 rfl h.1 d_Ranking_rank_31 ?_
     have h := h.2
     refine cc_i (va_runU (As := [.int x2, .int (u.2 16 (x3 - 1).toNatClampNeg)]) (rest := []) ⟨hx, hb, hml, hown, hts⟩ (ct_Laying_compare l D a cA cZ G _ x2 (u.2 16 (x3 - 1).toNatClampNeg) u _ hI h) (pw_cwO (owner := "PictureInlays$Ranking") 2 hts kw_590 kw_52 kw_559 kw_561 kw_588 kw_589 (EX.1.1.2 _ (by decide)) (by decide +kernel) ⟨Nat.le_of_ble_eq_true rfl, Nat.le_of_ble_eq_true rfl⟩) ⟨pw_blind, va_recv hK hP (ci := 6) (q0 := 6) rfl cw_at_6, fun U hU hW => ⟨rfl, by rw [hU], by rw [hU]; exact hP, va_K.moved hW.alike hK⟩⟩ rfl rfl hl.1 rfl (lv_room (Nat.le_of_ble_eq_true rfl)) d_Ranking_rank_32 ⟨Nat.le_of_ble_eq_true rfl, Nat.le_of_ble_eq_true rfl⟩) hS hF hA (fun r7 u6 H locs hP hS h => ?_)
     refine lv_if_ge (tgt := 58) hx hb d_Ranking_rank_35 (by decide) (fun c8 => ?_) (fun c8 => ?_)
     · have h := h.1 c8
       refine lv_aload_n hx hb d_Ranking_rank_58 rfl (lv_at hl 0 rfl) ?_
       refine va_get (D := D) (ci := 6) (v := .ref (a 30)) (C := R_Laying) (T := T_Laying) (N := 2) hx hb hts in_Laying hown hK hP 6 cw_at_6 rfl 0 (by decide) (hts _ (List.mem_cons_of_mem _ kw_197)) (fun _ h9 => h9) rfl d_Ranking_rank_59 ?_
       refine lv_iload_n hx hb d_Ranking_rank_62 rfl (lv_at hl 3 rfl) ?_
       refine lv_iload_n hx hb d_Ranking_rank_63 rfl (lv_at hl 2 rfl) ?_
       refine va_iast hx hb hK hP (hD _) hS 30 0 cw_at_30 rfl h.1 d_Ranking_rank_64 (fun H locs hP _ hS => ?_)
       obtain ⟨u9, eu9⟩ : ∃ z, z = pw_sa u6 16 (upd (u6.2 16) x3.toNatClampNeg x2) := ⟨_, rfl⟩
       rw [cw_sa_30, ← eu9] at hP
       have h := h.2 u9 eu9
       obtain ⟨t10, et10⟩ : ∃ y : Int32, y = x2 + 1 := ⟨_, rfl⟩
       have h := h t10 et10
       refine lv_iinc (v := t10) (lv' := [(2, .int t10), (0, .ref (a 6)), (1, .int x1), (3, .int x3)]) hx hb d_Ranking_rank_65 hl (k := 2) rfl (by rw [et10]; rfl) (by decide) rfl (fun ls hl => ?_)
       refine lv_goto (tgt := 2) hx hb d_Ranking_rank_68 (by decide) ?_
       exact hk2 x1 t10 u9 _ _ _ hP hS (lv_sub hl [1, 2, 0] rfl) h
     · have h := h.2 c8
       refine lv_aload_n hx hb d_Ranking_rank_38 rfl (lv_at hl 0 rfl) ?_
       refine va_get (D := D) (ci := 6) (v := .ref (a 30)) (C := R_Laying) (T := T_Laying) (N := 2) hx hb hts in_Laying hown hK hP 6 cw_at_6 rfl 0 (by decide) (hts _ (List.mem_cons_of_mem _ kw_197)) (fun _ h9 => h9) rfl d_Ranking_rank_39 ?_
       refine lv_iload_n hx hb d_Ranking_rank_42 rfl (lv_at hl 3 rfl) ?_
       refine lv_aload_n hx hb d_Ranking_rank_43 rfl (lv_at hl 0 rfl) ?_
       refine va_get (D := D) (ci := 6) (v := .ref (a 30)) (C := R_Laying) (T := T_Laying) (N := 2) hx hb hts in_Laying hown hK hP 6 cw_at_6 rfl 0 (by decide) (hts _ (List.mem_cons_of_mem _ kw_197)) (fun _ h9 => h9) rfl d_Ranking_rank_44 ?_
       refine lv_iload_n hx hb d_Ranking_rank_47 rfl (lv_at hl 3 rfl) ?_
       refine lv_iconst (v := 1) hx hb d_Ranking_rank_48 (by decide) ?_
       refine lv_isub hx hb d_Ranking_rank_49 ?_
       refine va_iald hx hb hK hP 30 0 cw_at_30 rfl h.1 d_Ranking_rank_50 ?_
       have h := h.2
       refine va_iast hx hb hK hP (hD _) hS 30 0 cw_at_30 rfl h.1 d_Ranking_rank_51 (fun H locs hP _ hS => ?_)
       obtain ⟨u11, eu11⟩ : ∃ z, z = pw_sa u6 16 (upd (u6.2 16) x3.toNatClampNeg (u6.2 16 (x3 - 1).toNatClampNeg)) := ⟨_, rfl⟩
       rw [cw_sa_30, ← eu11] at hP
       have h := h.2 u11 eu11
       obtain ⟨t12, et12⟩ : ∃ y : Int32, y = x3 + (-1) := ⟨_, rfl⟩
       have h := h t12 et12
       refine lv_iinc (v := t12) (lv' := [(3, .int t12), (0, .ref (a 6)), (1, .int x1), (2, .int x2)]) hx hb d_Ranking_rank_52 hl (k := 3) rfl (by rw [et12]; rfl) (by decide) rfl (fun ls hl => ?_)
       refine lv_goto (tgt := 18) hx hb d_Ranking_rank_55 (by decide) ?_
       exact ih x1 x2 t12 u11 _ _ _ hP hS (lv_sub hl [1, 2, 3, 0] rfl) h
set_option maxHeartbeats 4000000 in
set_option maxRecDepth 100000 in
theorem cp_Ranking_rank_laying_2 {p : Program} {l : Launch} {e : Env} {s : State} {m : MethodId} {args : Array Value} {below : List Frame} {meth : Method} {c : Code} {D : va_G} {a : Nat → Nat} {cA cZ : ClassId} {G : pG} {A : Nat → Prop} {Q : pS → Prop} (C : pw_C p s m args meth c b_Ranking_rank 4 R_Ranking none w_Ranking_rank A) (K : pw_K s D 40 a (cT cA cZ) A) (EX : cw_Ex A s) : ∀ (n : Nat), ∀ (x1 x2 : Int32) (u : pS) (H : Heap) (locs : List Loc) (ls : Array Slot), va_P D vwCl (cw a cA cZ G u) H → va_S A s.heap H locs → lv_has ls 4 [(0, .ref (a 6)), (1, .int x1), (2, .int x2)] → lp_Ranking_rank_laying_2 G Q n x1 x2 u → W p l e ({ frames := 4, cells := 0, slots := 0, locals := 85 } : Room) s m args below meth c H locs 0 0 (pw_Ev below args s D (cw a cA cZ G) (cT cA cZ) A Q) (F0 m 2 ls []) := by
 obtain ⟨hx, hb, hr, hml, hown, hts, hlocks, hA⟩ := id C
 obtain ⟨hK, hI, hF⟩ := id K
 have hD : ∀ u, va_D A (cw a cA cZ G u) := fun u => cw_D hI hF
 intro n
 induction n with
 | zero => intro x1 x2 u H locs ls hP hS hl h; exact h.elim
 | succ n ih =>
   intro x1 x2 u H locs ls hP hS hl h
   refine lv_iload_n hx hb d_Ranking_rank_2 rfl (lv_at hl 2 rfl) ?_
   refine lv_iload_n hx hb d_Ranking_rank_3 rfl (lv_at hl 1 rfl) ?_
   refine lv_icmp_ge (tgt := 71) hx hb d_Ranking_rank_4 (by decide) (fun c1 => ?_) (fun c1 => ?_)
   · have h := h.1 c1
     exact W.vret hx hb hr (fun t ht hW => ⟨⟨u, rfl, h, by rw [ht]; exact hP, va_K.moved hW.alike hK⟩, hS.F ht⟩) hS.2.2 d_Ranking_rank_71 hlocks
   · have h := h.2 c1
     refine lv_iload_n hx hb d_Ranking_rank_7 rfl (lv_at hl 2 rfl) ?_
     refine lv_aload_n hx hb d_Ranking_rank_8 rfl (lv_at hl 0 rfl) ?_
     refine va_get (D := D) (ci := 6) (v := .ref (a 30)) (C := R_Laying) (T := T_Laying) (N := 2) hx hb hts in_Laying hown hK hP 6 cw_at_6 rfl 0 (by decide) (hts _ (List.mem_cons_of_mem _ kw_197)) (fun _ h9 => h9) rfl d_Ranking_rank_9 ?_
     refine va_alen (v := nI (G.1 30)) hx hb hK hP 30 0 cw_at_30 rfl rfl d_Ranking_rank_12 ?_
     refine lv_icmp_ge (tgt := 71) hx hb d_Ranking_rank_13 (by decide) (fun c2 => ?_) (fun c2 => ?_)
     · have h := h.1 c2
       exact W.vret hx hb hr (fun t ht hW => ⟨⟨u, rfl, h, by rw [ht]; exact hP, va_K.moved hW.alike hK⟩, hS.F ht⟩) hS.2.2 d_Ranking_rank_71 hlocks
     · have h := h.2 c2
       refine lv_iload_n hx hb d_Ranking_rank_16 rfl (lv_at hl 2 rfl) ?_
       refine lv_istore_n (lv' := [(3, .int x2), (0, .ref (a 6)), (1, .int x1), (2, .int x2)]) hx hb d_Ranking_rank_17 rfl hl (by decide) rfl (fun ls hl => ?_)
       obtain ⟨n1, h⟩ := h
       exact cp_Ranking_rank_laying_18 C K EX ih n1 x1 x2 x2 u _ _ _ hP hS (lv_sub hl [1, 2, 3, 0] rfl) h
set_option maxHeartbeats 4000000 in
set_option maxRecDepth 100000 in
theorem st_Ranking_rank_laying {p : Program} {l : Launch} {e : Env} {s : State} {m : MethodId} {args : Array Value} {below : List Frame} {meth : Method} {c : Code} {D : va_G} {a : Nat → Nat} {cA cZ : ClassId} {G : pG} {A : Nat → Prop} {Q : pS → Prop} (C : pw_C p s m args meth c b_Ranking_rank 4 R_Ranking none w_Ranking_rank A) (K : pw_K s D 40 a (cT cA cZ) A) (EX : cw_Ex A s) (x1 : Int32) (u : pS) (ls : Array Slot) (hP : va_P D vwCl (cw a cA cZ G u) s.heap) (hl : lv_has ls 4 [(0, .ref (a 6)), (1, .int x1)]) (h : wp_Ranking_rank_laying G x1 u Q) : W p l e ({ frames := 4, cells := 0, slots := 0, locals := 85 } : Room) s m args below meth c s.heap [] 0 0 (pw_Ev below args s D (cw a cA cZ G) (cT cA cZ) A Q) (F0 m 0 ls []) := by
 obtain ⟨hx, hb, hr, hml, hown, hts, hlocks, hA⟩ := id C
 obtain ⟨hK, hI, hF⟩ := id K
 have hD : ∀ u, va_D A (cw a cA cZ G u) := fun u => cw_D hI hF
 have hS : va_S A s.heap s.heap [] := va_S.rf
 have h : wp_Ranking_rank_laying G x1 u Q := h
 refine lv_iconst (v := 0) hx hb d_Ranking_rank_0 (by decide) ?_
 refine lv_istore_n (lv' := [(2, .int 0), (0, .ref (a 6)), (1, .int x1)]) hx hb d_Ranking_rank_1 rfl hl (by decide) rfl (fun ls hl => ?_)
 obtain ⟨n1, h⟩ := h
 exact cp_Ranking_rank_laying_2 C K EX n1 x1 0 u _ _ _ hP hS (lv_sub hl [1, 2, 0] rfl) h
set_option maxHeartbeats 4000000 in
set_option maxRecDepth 100000 in
theorem ct_Ranking_rank_laying (l : Launch) (D : va_G) (a : Nat → Nat) (cA cZ : ClassId) (G : pG) (sz : Nat) (x1 : Int32) (u : pS) (Q : pS → Prop) (hI : pw_I 40 a) (h : wp_Ranking_rank_laying G x1 u Q) : Met l y_Ranking_rank w_Ranking_rank ({ frames := 4, cells := 0, slots := 0, locals := 85 } : Room) (va_Pc [.ref (a 6), .int x1] (fun U => pw_pre D (cw a cA cZ G) (cT cA cZ) sz u U ∧ cw_Ex (pw_F 40 a sz) U)) (va_Qv (fun (u : pS) => Q u) (pw_B D (cw a cA cZ G) (cT cA cZ)) (pw_F 40 a sz)) 0 0 (pw_F 40 a sz) := by
 refine Met.ofW (cc := b_Ranking_rank) (maxL := 4) (ret := none) (by decide) rfl ?_
 intro p e s m args below meth c s₁ B hml hv
 obtain ⟨rfl, ⟨hsz, hP, hK⟩, EX⟩ := hv
 subst hsz
 have hl := lv_entry ([.ref (a 6), .int x1]) (n := 4) (Nat.le_of_ble_eq_true rfl)
 rw [lg_entry_eq]
 generalize (lg_sl ([.ref (a 6), .int x1]) ++ List.replicate (4 - (lg_sl ([.ref (a 6), .int x1])).length) Slot.unset).toArray = ls at hl ⊢
 exact st_Ranking_rank_laying (A := (pw_F 40 a s.heap.size)) ⟨B.exec, B.bytes, B.returns, hml, findClass_of_methodNamed B.named, atoms_spec (ws := w_Ranking_rank) B.pre, B.notSynchronized, fun q hq => Or.inr hq⟩ ⟨hK, hI, fun k hk => Or.inl ⟨k, hk, rfl⟩⟩ EX x1 u ls hP hl h
set_option maxHeartbeats 4000000 in
set_option maxRecDepth 100000 in
theorem st_PI_part {p : Program} {l : Launch} {e : Env} {s : State} {m : MethodId} {args : Array Value} {below : List Frame} {meth : Method} {c : Code} {D : va_G} {a : Nat → Nat} {cA cZ : ClassId} {G : pG} {A : Nat → Prop} {Q : Int32 → pS → Prop} {X : Nat → pS → Prop} (C : pw_C p s m args meth c b_PI_part 2 R_PI (some .int) w_PI_part A) (K : pw_K s D 40 a (cT cA cZ) A) (EX : cw_Ex A s) (hL : px_L l) (htr : e.platform.stackTraces = false) (hE : ∀ (pc : Nat), ∀ x ∈ c.exceptionTable.toList, covers x pc = false) (x1 : Int32) (u : pS) (ls : Array Slot) (hP : va_P D vwCl (cw a cA cZ G u) s.heap) (hl : lv_has ls 2 [(0, .ref (a 0)), (1, .int x1)]) (h : wp_PI_part G x1 u Q X) : W p l e ({ frames := 7, cells := 1, slots := 6, locals := 139 } : Room) s m args below meth c s.heap [] 0 0 (px_Ei below args s D (cw a cA cZ G) (cT cA cZ) A Q X) (F0 m 0 ls []) := by
 obtain ⟨hx, hb, hr, hml, hown, hts, hlocks, hA⟩ := id C
 obtain ⟨hK, hI, hF⟩ := id K
 have hD : ∀ u, va_D A (cw a cA cZ G u) := fun u => cw_D hI hF
 have hz : ∀ oc t, px_T X (pw_B D (cw a cA cZ G) (cT cA cZ)) oc t → va_F A s t → (px_Qi Q X (pw_B D (cw a cA cZ G) (cT cA cZ)) A) args s oc t := fun oc t h1 h2 => ⟨Or.inr h1, h2⟩
 have hS : va_S A s.heap s.heap [] := va_S.rf
 have h : wp_PI_part G x1 u Q X := h
 refine lv_iload_n hx hb d_PI_part_0 rfl (lv_at hl 1 rfl) ?_
 refine lv_iconst (v := 1) hx hb d_PI_part_1 (by decide) ?_
 refine lv_sipush (v := 400) hx hb d_PI_part_2 (by decide) ?_
 refine cx_v (px_runS (As := [.int x1, .int 1, .int 400]) (rest := []) ⟨hx, hb, hml, hown, hts⟩ (ct_PI_needNumber l D a cA cZ G _ x1 1 400 u _ _ hL hI h) (pw_cwS 3 hts kw_441 kw_45 kw_439 kw_440 (by decide +kernel) ⟨Nat.le_of_ble_eq_true rfl, Nat.le_of_ble_eq_true rfl⟩) ⟨cw_blindX, fun U hU hW => ⟨rfl, ⟨by rw [hU], by rw [hU]; exact hP, va_K.moved hW.alike hK⟩, cw_Ex_call EX hS (pw_FA hS hF hA) hU hW⟩⟩ rfl rfl hl.1 rfl (lv_room (Nat.le_of_ble_eq_true rfl)) d_PI_part_5 ⟨Nat.le_of_ble_eq_true rfl, Nat.le_of_ble_eq_true rfl⟩) hS hF hA (hE _) hlocks hz (fun u1 H locs hP hS h => ?_)
 refine lv_aload_n hx hb d_PI_part_8 rfl (lv_at hl 0 rfl) ?_
 refine va_get (D := D) (ci := 0) (v := .ref (a 4)) (C := R_PI) (T := T_PI) (N := 12) hx hb hts in_PI hown hK hP 0 cw_at_0 rfl 4 (by decide) (hts _ (List.mem_cons_of_mem _ kw_316)) (fun _ h9 => h9) rfl d_PI_part_9 ?_
 refine lv_aload_n hx hb d_PI_part_12 rfl (lv_at hl 0 rfl) ?_
 refine va_get (D := D) (ci := 0) (v := .ref (a 2)) (C := R_PI) (T := T_PI) (N := 12) hx hb hts in_PI hown hK hP 0 cw_at_0 rfl 2 (by decide) (hts _ (List.mem_cons_of_mem _ kw_314)) (fun _ h9 => h9) rfl d_PI_part_13 ?_
 refine lv_aload_n hx hb d_PI_part_16 rfl (lv_at hl 0 rfl) ?_
 refine va_get (D := D) (ci := 0) (v := .ref (a 3)) (C := R_PI) (T := T_PI) (N := 12) hx hb hts in_PI hown hK hP 0 cw_at_0 rfl 3 (by decide) (hts _ (List.mem_cons_of_mem _ kw_315)) (fun _ h9 => h9) rfl d_PI_part_17 ?_
 refine lv_aload_n hx hb d_PI_part_20 rfl (lv_at hl 0 rfl) ?_
 refine va_get (D := D) (ci := 0) (v := .int (G.2.1 0)) (C := R_PI) (T := T_PI) (N := 12) hx hb hts in_PI hown hK hP 0 cw_at_0 rfl 1 (by decide) (hts _ (List.mem_cons_of_mem _ kw_313)) (fun _ h9 => h9) rfl d_PI_part_21 ?_
 refine lv_iload_n hx hb d_PI_part_24 rfl (lv_at hl 1 rfl) ?_
 refine cc_v (va_runV (As := [.ref (a 2), .ref (a 3), .int (G.2.1 0), .int x1]) (rest := []) ⟨hx, hb, hml, hown, hts⟩ (ct_Pieces_make l D a cA cZ G _ (G.2.1 0) x1 u1 _ hI h) (pw_cwV 4 hts kw_484 kw_49 kw_481 kw_482 kw_483 (by decide +kernel) ⟨Nat.le_of_ble_eq_true rfl, Nat.le_of_ble_eq_true rfl⟩) ⟨pw_blind, va_recv hK hP (ci := 7) (q0 := 4) rfl cw_at_4, fun U hU hW => ⟨rfl, by rw [hU], by rw [hU]; exact hP, va_K.moved hW.alike hK⟩⟩ rfl rfl hl.1 rfl (lv_room (Nat.le_of_ble_eq_true rfl)) d_PI_part_25 ⟨Nat.le_of_ble_eq_true rfl, Nat.le_of_ble_eq_true rfl⟩) hS hF hA (fun u2 H locs hP hS h => ?_)
 refine lv_aload_n hx hb d_PI_part_28 rfl (lv_at hl 0 rfl) ?_
 refine va_get (D := D) (ci := 0) (v := .ref (a 6)) (C := R_PI) (T := T_PI) (N := 12) hx hb hts in_PI hown hK hP 0 cw_at_0 rfl 6 (by decide) (hts _ (List.mem_cons_of_mem _ kw_318)) (fun _ h9 => h9) rfl d_PI_part_29 ?_
 refine lv_aload_n hx hb d_PI_part_32 rfl (lv_at hl 0 rfl) ?_
 refine va_get (D := D) (ci := 0) (v := .ref (a 4)) (C := R_PI) (T := T_PI) (N := 12) hx hb hts in_PI hown hK hP 0 cw_at_0 rfl 4 (by decide) (hts _ (List.mem_cons_of_mem _ kw_316)) (fun _ h9 => h9) rfl d_PI_part_33 ?_
 refine va_get (D := D) (ci := 7) (v := .int (u2.1 2)) (C := R_Pieces) (T := T_Pieces) (N := 11) hx hb hts in_Pieces hown hK hP 4 cw_at_4 rfl 10 (by decide) (hts _ (List.mem_cons_of_mem _ kw_163)) (fun _ h9 => h9) rfl d_PI_part_36 ?_
 refine cc_v (va_runU (As := [.int (u2.1 2)]) (rest := []) ⟨hx, hb, hml, hown, hts⟩ (ct_Ranking_rank_laying l D a cA cZ G _ (u2.1 2) u2 _ hI h) (pw_cwU (owner := "PictureInlays$Ranking") 1 hts kw_558 kw_50 kw_552 kw_554 kw_557 kw_553 rfl (by decide +kernel) ⟨Nat.le_of_ble_eq_true rfl, Nat.le_of_ble_eq_true rfl⟩) ⟨cw_blindX, va_recv hK hP (ci := 6) (q0 := 6) rfl cw_at_6, fun U hU hW => ⟨rfl, ⟨by rw [hU], by rw [hU]; exact hP, va_K.moved hW.alike hK⟩, cw_Ex_call EX hS (pw_FA hS hF hA) hU hW⟩⟩ rfl rfl hl.1 rfl (lv_room (Nat.le_of_ble_eq_true rfl)) d_PI_part_39 ⟨Nat.le_of_ble_eq_true rfl, Nat.le_of_ble_eq_true rfl⟩) hS hF hA (fun u3 H locs hP hS h => ?_)
 refine lv_aload_n hx hb d_PI_part_42 rfl (lv_at hl 0 rfl) ?_
 refine lv_iconst (v := 1) hx hb d_PI_part_43 (by decide) ?_
 refine va_put (D := D) (ci := 0) (v := .int 1) (ty := .boolean) (C := R_PI) (T := T_PI) (N := 12) hx hb hts in_PI ty_PI tyok_PI nm_PI hown hK hP (hD _) hS 0 cw_at_0 rfl 10 (by decide) (hts _ (List.mem_cons_of_mem _ kw_322)) (fun _ h9 => h9) rfl (by decide +kernel) rfl rfl (Nat.le_of_ble_eq_true rfl) d_PI_part_44 (fun H locs hP _ hS => ?_)
 obtain ⟨u4, eu4⟩ : ∃ z, z = pw_si u3 0 1 := ⟨_, rfl⟩
 rw [cw_si_0_10, ← eu4] at hP
 have h := h u4 eu4
 refine lv_aload_n hx hb d_PI_part_47 rfl (lv_at hl 0 rfl) ?_
 refine lv_iconst (v := 0) hx hb d_PI_part_48 (by decide) ?_
 refine va_put (D := D) (ci := 0) (v := .int 0) (ty := .boolean) (C := R_PI) (T := T_PI) (N := 12) hx hb hts in_PI ty_PI tyok_PI nm_PI hown hK hP (hD _) hS 0 cw_at_0 rfl 11 (by decide) (hts _ (List.mem_cons_of_mem _ kw_323)) (fun _ h9 => h9) rfl (by decide +kernel) rfl rfl (Nat.le_of_ble_eq_true rfl) d_PI_part_49 (fun H locs hP _ hS => ?_)
 obtain ⟨u5, eu5⟩ : ∃ z, z = pw_si u4 1 0 := ⟨_, rfl⟩
 rw [cw_si_0_11, ← eu5] at hP
 have h := h u5 eu5
 refine lv_aload_n hx hb d_PI_part_52 rfl (lv_at hl 0 rfl) ?_
 refine va_get (D := D) (ci := 0) (v := .ref (a 4)) (C := R_PI) (T := T_PI) (N := 12) hx hb hts in_PI hown hK hP 0 cw_at_0 rfl 4 (by decide) (hts _ (List.mem_cons_of_mem _ kw_316)) (fun _ h9 => h9) rfl d_PI_part_53 ?_
 refine va_get (D := D) (ci := 7) (v := .int (u5.1 2)) (C := R_Pieces) (T := T_Pieces) (N := 11) hx hb hts in_Pieces hown hK hP 4 cw_at_4 rfl 10 (by decide) (hts _ (List.mem_cons_of_mem _ kw_163)) (fun _ h9 => h9) rfl d_PI_part_56 ?_
 exact px_mono (fun t h => px_ofMQ (fun _ _ h => h) h) (W.iret (Qc := px_Qi Q X (pw_B D (cw a cA cZ G) (cT cA cZ)) A) (v := (u5.1 2)) hx hb hr (fun t ht hW => ⟨Or.inl ⟨(u5.1 2), u5, rfl, h, by rw [ht]; exact hP, va_K.moved hW.alike hK⟩, hS.F ht⟩) hS.2.2 d_PI_part_59 hlocks)
set_option maxHeartbeats 4000000 in
set_option maxRecDepth 100000 in
theorem ct_PI_part (l : Launch) (D : va_G) (a : Nat → Nat) (cA cZ : ClassId) (G : pG) (sz : Nat) (x1 : Int32) (u : pS) (Q : Int32 → pS → Prop) (X : Nat → pS → Prop) (hL : px_L l) (hI : pw_I 40 a) (h : wp_PI_part G x1 u Q X) : px_Met l y_PI_part w_PI_part ({ frames := 7, cells := 1, slots := 6, locals := 139 } : Room) (va_Pc [.ref (a 0), .int x1] (fun U => pw_pre D (cw a cA cZ G) (cT cA cZ) sz u U ∧ cw_Ex (pw_F 40 a sz) U)) (px_Qi Q X (pw_B D (cw a cA cZ G) (cT cA cZ)) (pw_F 40 a sz)) 0 0 1 6 (pw_F 40 a sz) := by
 refine px_ofW (cc := b_PI_part) (maxL := 2) (ret := (some .int)) (by decide) rfl ?_
 intro p e s m args below meth c s₁ B hml hE hv
 obtain ⟨rfl, ⟨hsz, hP, hK⟩, EX⟩ := hv
 subst hsz
 have hl := lv_entry ([.ref (a 0), .int x1]) (n := 2) (Nat.le_of_ble_eq_true rfl)
 rw [lg_entry_eq]
 generalize (lg_sl ([.ref (a 0), .int x1]) ++ List.replicate (2 - (lg_sl ([.ref (a 0), .int x1])).length) Slot.unset).toArray = ls at hl ⊢
 exact st_PI_part (A := (pw_F 40 a s.heap.size)) ⟨B.exec, B.bytes, B.returns, hml, findClass_of_methodNamed B.named, atoms_spec (ws := w_PI_part) B.pre, B.notSynchronized, fun q hq => Or.inr hq⟩ ⟨hK, hI, fun k hk => Or.inl ⟨k, hk, rfl⟩⟩ EX hL (hL e B.admits) (px_none hE) x1 u ls hP hl h
