set_option maxHeartbeats 4000000 in
set_option maxRecDepth 100000 in
theorem cp_Model_nest_145 {p : Program} {l : Launch} {e : Env} {s : State} {m : MethodId} {args : Array Value} {below : List Frame} {meth : Method} {c : Code} {D : va_G} {a : Nat → Nat} {cA cZ : ClassId} {G : pG} {A : Nat → Prop} {Q : Int32 → pS → Prop} (C : pw_C p s m args meth c b_Model_nest 9 R_Model (some .int) w_Model_nest A) (K : pw_K s D 15 a (rT cA cZ) A) {k150 : Int32 → Int32 → Int32 → Int32 → Int32 → Int32 → Int32 → Int32 → pS → Prop} (hk150 : ∀ (x1 x2 x3 x4 x5 x6 x7 y8 : Int32) (u : pS) (H : Heap) (locs : List Loc) (ls : Array Slot), va_P D vwCl (rw a cA cZ G u) H → va_S A s.heap H locs → lv_has ls 9 [(0, .ref (a 0)), (1, .int x1), (2, .int x2), (3, .int x3), (4, .int x4), (5, .int x5), (6, .int x6), (7, .int x7)] → k150 x1 x2 x3 x4 x5 x6 x7 y8 u → W p l e ({ frames := 2, cells := 0, slots := 0, locals := 52 } : Room) s m args below meth c H locs 0 0 (pw_Ei below args s D (rw a cA cZ G) (rT cA cZ) A Q) (F0 m 150 ls [.int y8])) : ∀ (x1 x2 x3 x4 x5 x6 x7 : Int32) (u : pS) (H : Heap) (locs : List Loc) (ls : Array Slot), va_P D vwCl (rw a cA cZ G u) H → va_S A s.heap H locs → lv_has ls 9 [(0, .ref (a 0)), (1, .int x1), (2, .int x2), (3, .int x3), (4, .int x4), (5, .int x5), (6, .int x6), (7, .int x7)] → jn_Model_nest_145 G Q k150 x1 x2 x3 x4 x5 x6 x7 u → W p l e ({ frames := 2, cells := 0, slots := 0, locals := 52 } : Room) s m args below meth c H locs 0 0 (pw_Ei below args s D (rw a cA cZ G) (rT cA cZ) A Q) (F0 m 145 ls []) := by
 obtain ⟨hx, hb, hr, hml, hown, hts, hlocks, hA⟩ := id C
 obtain ⟨hK, hI, hF⟩ := id K
 have hD : ∀ u, va_D A (rw a cA cZ G u) := fun u => rw_D hI hF
 intro x1 x2 x3 x4 x5 x6 x7 u H locs ls hP hS hl h
 refine lv_iconst (v := 1) hx hb d_Model_nest_145 (by decide) ?_
 refine lv_goto (tgt := 150) hx hb d_Model_nest_146 (by decide) ?_
 exact hk150 x1 x2 x3 x4 x5 x6 x7 1 u _ _ _ hP hS (lv_sub hl [0, 1, 2, 3, 4, 5, 6, 7] rfl) h
set_option maxHeartbeats 4000000 in
set_option maxRecDepth 100000 in
theorem cp_Model_nest_149 {p : Program} {l : Launch} {e : Env} {s : State} {m : MethodId} {args : Array Value} {below : List Frame} {meth : Method} {c : Code} {D : va_G} {a : Nat → Nat} {cA cZ : ClassId} {G : pG} {A : Nat → Prop} {Q : Int32 → pS → Prop} (C : pw_C p s m args meth c b_Model_nest 9 R_Model (some .int) w_Model_nest A) (K : pw_K s D 15 a (rT cA cZ) A) {k150 : Int32 → Int32 → Int32 → Int32 → Int32 → Int32 → Int32 → Int32 → pS → Prop} (hk150 : ∀ (x1 x2 x3 x4 x5 x6 x7 y8 : Int32) (u : pS) (H : Heap) (locs : List Loc) (ls : Array Slot), va_P D vwCl (rw a cA cZ G u) H → va_S A s.heap H locs → lv_has ls 9 [(0, .ref (a 0)), (1, .int x1), (2, .int x2), (3, .int x3), (4, .int x4), (5, .int x5), (6, .int x6), (7, .int x7)] → k150 x1 x2 x3 x4 x5 x6 x7 y8 u → W p l e ({ frames := 2, cells := 0, slots := 0, locals := 52 } : Room) s m args below meth c H locs 0 0 (pw_Ei below args s D (rw a cA cZ G) (rT cA cZ) A Q) (F0 m 150 ls [.int y8])) : ∀ (x1 x2 x3 x4 x5 x6 x7 : Int32) (u : pS) (H : Heap) (locs : List Loc) (ls : Array Slot), va_P D vwCl (rw a cA cZ G u) H → va_S A s.heap H locs → lv_has ls 9 [(0, .ref (a 0)), (1, .int x1), (2, .int x2), (3, .int x3), (4, .int x4), (5, .int x5), (6, .int x6), (7, .int x7)] → jn_Model_nest_149 G Q k150 x1 x2 x3 x4 x5 x6 x7 u → W p l e ({ frames := 2, cells := 0, slots := 0, locals := 52 } : Room) s m args below meth c H locs 0 0 (pw_Ei below args s D (rw a cA cZ G) (rT cA cZ) A Q) (F0 m 149 ls []) := by
 obtain ⟨hx, hb, hr, hml, hown, hts, hlocks, hA⟩ := id C
 obtain ⟨hK, hI, hF⟩ := id K
 have hD : ∀ u, va_D A (rw a cA cZ G u) := fun u => rw_D hI hF
 intro x1 x2 x3 x4 x5 x6 x7 u H locs ls hP hS hl h
 refine lv_iconst (v := 0) hx hb d_Model_nest_149 (by decide) ?_
 exact hk150 x1 x2 x3 x4 x5 x6 x7 0 u _ _ _ hP hS (lv_sub hl [0, 1, 2, 3, 4, 5, 6, 7] rfl) h
set_option maxHeartbeats 4000000 in
set_option maxRecDepth 100000 in
theorem cp_Model_nest_150 {p : Program} {l : Launch} {e : Env} {s : State} {m : MethodId} {args : Array Value} {below : List Frame} {meth : Method} {c : Code} {D : va_G} {a : Nat → Nat} {cA cZ : ClassId} {G : pG} {A : Nat → Prop} {Q : Int32 → pS → Prop} (C : pw_C p s m args meth c b_Model_nest 9 R_Model (some .int) w_Model_nest A) (K : pw_K s D 15 a (rT cA cZ) A) {k113 : Int32 → Int32 → Int32 → Int32 → Int32 → Int32 → Int32 → pS → Prop} (hk113 : ∀ (x1 x2 x3 x4 x5 x6 x7 : Int32) (u : pS) (H : Heap) (locs : List Loc) (ls : Array Slot), va_P D vwCl (rw a cA cZ G u) H → va_S A s.heap H locs → lv_has ls 9 [(0, .ref (a 0)), (1, .int x1), (2, .int x2), (3, .int x3), (4, .int x4), (5, .int x5), (6, .int x6), (7, .int x7)] → k113 x1 x2 x3 x4 x5 x6 x7 u → W p l e ({ frames := 2, cells := 0, slots := 0, locals := 52 } : Room) s m args below meth c H locs 0 0 (pw_Ei below args s D (rw a cA cZ G) (rT cA cZ) A Q) (F0 m 113 ls [])) : ∀ (x1 x2 x3 x4 x5 x6 x7 y8 : Int32) (u : pS) (H : Heap) (locs : List Loc) (ls : Array Slot), va_P D vwCl (rw a cA cZ G u) H → va_S A s.heap H locs → lv_has ls 9 [(0, .ref (a 0)), (1, .int x1), (2, .int x2), (3, .int x3), (4, .int x4), (5, .int x5), (6, .int x6), (7, .int x7)] → jn_Model_nest_150 G Q k113 x1 x2 x3 x4 x5 x6 x7 y8 u → W p l e ({ frames := 2, cells := 0, slots := 0, locals := 52 } : Room) s m args below meth c H locs 0 0 (pw_Ei below args s D (rw a cA cZ G) (rT cA cZ) A Q) (F0 m 150 ls [.int y8]) := by
 obtain ⟨hx, hb, hr, hml, hown, hts, hlocks, hA⟩ := id C
 obtain ⟨hK, hI, hF⟩ := id K
 have hD : ∀ u, va_D A (rw a cA cZ G u) := fun u => rw_D hI hF
 intro x1 x2 x3 x4 x5 x6 x7 y8 u H locs ls hP hS hl h
 refine lv_istore (lv' := [(8, .int y8), (0, .ref (a 0)), (1, .int x1), (2, .int x2), (3, .int x3), (4, .int x4), (5, .int x5), (6, .int x6), (7, .int x7)]) hx hb d_Model_nest_150 hl (by decide) rfl (fun ls hl => ?_)
 refine lv_iload hx hb d_Model_nest_152 (lv_at hl 0 rfl) ?_
 refine lv_if_eq (tgt := 178) hx hb d_Model_nest_154 (by decide) (fun c17 => ?_) (fun c17 => ?_)
 · have h := h.1 c17
   refine lv_iload hx hb d_Model_nest_178 (lv_at hl 7 rfl) ?_
   refine lv_istore (lv' := [(6, .int x6), (8, .int y8), (0, .ref (a 0)), (1, .int x1), (2, .int x2), (3, .int x3), (4, .int x4), (5, .int x5), (7, .int x7)]) hx hb d_Model_nest_180 hl (by decide) rfl (fun ls hl => ?_)
   obtain ⟨t18, et18⟩ : ∃ y : Int32, y = x7 + 1 := ⟨_, rfl⟩
   have h := h t18 et18
   refine lv_iinc (v := t18) (lv' := [(7, .int t18), (6, .int x6), (8, .int y8), (0, .ref (a 0)), (1, .int x1), (2, .int x2), (3, .int x3), (4, .int x4), (5, .int x5)]) hx hb d_Model_nest_182 hl (k := 8) rfl (by rw [et18]; rfl) (by decide) rfl (fun ls hl => ?_)
   refine lv_goto (tgt := 113) hx hb d_Model_nest_185 (by decide) ?_
   exact hk113 x1 x2 x3 x4 x5 x6 t18 u _ _ _ hP hS (lv_sub hl [3, 4, 5, 6, 7, 8, 1, 0] rfl) h
 · have h := h.2 c17
   refine lv_iload hx hb d_Model_nest_157 (lv_at hl 7 rfl) ?_
   refine lv_if_lt (tgt := 173) hx hb d_Model_nest_159 (by decide) (fun c19 => ?_) (fun c19 => ?_)
   · have h := h.1 c19
     refine lv_iload hx hb d_Model_nest_173 (lv_at hl 8 rfl) ?_
     refine lv_goto (tgt := 180) hx hb d_Model_nest_175 (by decide) ?_
     refine lv_istore (lv' := [(6, .int x7), (8, .int y8), (0, .ref (a 0)), (1, .int x1), (2, .int x2), (3, .int x3), (4, .int x4), (5, .int x5), (7, .int x7)]) hx hb d_Model_nest_180 hl (by decide) rfl (fun ls hl => ?_)
     obtain ⟨t20, et20⟩ : ∃ y : Int32, y = x7 + 1 := ⟨_, rfl⟩
     have h := h t20 et20
     refine lv_iinc (v := t20) (lv' := [(7, .int t20), (6, .int x7), (8, .int y8), (0, .ref (a 0)), (1, .int x1), (2, .int x2), (3, .int x3), (4, .int x4), (5, .int x5)]) hx hb d_Model_nest_182 hl (k := 8) rfl (by rw [et20]; rfl) (by decide) rfl (fun ls hl => ?_)
     refine lv_goto (tgt := 113) hx hb d_Model_nest_185 (by decide) ?_
     exact hk113 x1 x2 x3 x4 x5 x7 t20 u _ _ _ hP hS (lv_sub hl [3, 4, 5, 6, 7, 8, 1, 0] rfl) h
   · have h := h.2 c19
     refine lv_aload_n hx hb d_Model_nest_162 rfl (lv_at hl 1 rfl) ?_
     refine lv_iload hx hb d_Model_nest_163 (lv_at hl 8 rfl) ?_
     refine lv_iload hx hb d_Model_nest_165 (lv_at hl 7 rfl) ?_
     refine cc_i (va_runV (As := [.int x7, .int x6]) (rest := []) ⟨hx, hb, hml, hown, hts⟩ (ct_Model_isLaidBefore l D a cA cZ G _ x7 x6 u _ hI h) (pw_cwV 2 hts kw_1035 kw_57 kw_1032 kw_1034 kw_41 (by decide +kernel) ⟨Nat.le_of_ble_eq_true rfl, Nat.le_of_ble_eq_true rfl⟩) ⟨pw_blind, va_recv hK hP (ci := 1) (q0 := 0) rfl rw_at_0, fun U hU hW => ⟨rfl, by rw [hU], by rw [hU]; exact hP, va_K.moved hW.alike hK⟩⟩ rfl rfl hl.1 rfl (lv_room (Nat.le_of_ble_eq_true rfl)) d_Model_nest_167 ⟨Nat.le_of_ble_eq_true rfl, Nat.le_of_ble_eq_true rfl⟩) hS hF hA (fun r22 u21 H locs hP hS h => ?_)
     refine lv_if_eq (tgt := 178) hx hb d_Model_nest_170 (by decide) (fun c23 => ?_) (fun c23 => ?_)
     · have h := h.1 c23
       refine lv_iload hx hb d_Model_nest_178 (lv_at hl 7 rfl) ?_
       refine lv_istore (lv' := [(6, .int x6), (8, .int y8), (0, .ref (a 0)), (1, .int x1), (2, .int x2), (3, .int x3), (4, .int x4), (5, .int x5), (7, .int x7)]) hx hb d_Model_nest_180 hl (by decide) rfl (fun ls hl => ?_)
       obtain ⟨t24, et24⟩ : ∃ y : Int32, y = x7 + 1 := ⟨_, rfl⟩
       have h := h t24 et24
       refine lv_iinc (v := t24) (lv' := [(7, .int t24), (6, .int x6), (8, .int y8), (0, .ref (a 0)), (1, .int x1), (2, .int x2), (3, .int x3), (4, .int x4), (5, .int x5)]) hx hb d_Model_nest_182 hl (k := 8) rfl (by rw [et24]; rfl) (by decide) rfl (fun ls hl => ?_)
       refine lv_goto (tgt := 113) hx hb d_Model_nest_185 (by decide) ?_
       exact hk113 x1 x2 x3 x4 x5 x6 t24 u21 _ _ _ hP hS (lv_sub hl [3, 4, 5, 6, 7, 8, 1, 0] rfl) h
     · have h := h.2 c23
       refine lv_iload hx hb d_Model_nest_173 (lv_at hl 8 rfl) ?_
       refine lv_goto (tgt := 180) hx hb d_Model_nest_175 (by decide) ?_
       refine lv_istore (lv' := [(6, .int x7), (8, .int y8), (0, .ref (a 0)), (1, .int x1), (2, .int x2), (3, .int x3), (4, .int x4), (5, .int x5), (7, .int x7)]) hx hb d_Model_nest_180 hl (by decide) rfl (fun ls hl => ?_)
       obtain ⟨t25, et25⟩ : ∃ y : Int32, y = x7 + 1 := ⟨_, rfl⟩
       have h := h t25 et25
       refine lv_iinc (v := t25) (lv' := [(7, .int t25), (6, .int x7), (8, .int y8), (0, .ref (a 0)), (1, .int x1), (2, .int x2), (3, .int x3), (4, .int x4), (5, .int x5)]) hx hb d_Model_nest_182 hl (k := 8) rfl (by rw [et25]; rfl) (by decide) rfl (fun ls hl => ?_)
       refine lv_goto (tgt := 113) hx hb d_Model_nest_185 (by decide) ?_
       exact hk113 x1 x2 x3 x4 x5 x7 t25 u21 _ _ _ hP hS (lv_sub hl [3, 4, 5, 6, 7, 8, 1, 0] rfl) h
set_option maxHeartbeats 4000000 in
set_option maxRecDepth 100000 in
theorem cp_Model_nest_113 {p : Program} {l : Launch} {e : Env} {s : State} {m : MethodId} {args : Array Value} {below : List Frame} {meth : Method} {c : Code} {D : va_G} {a : Nat → Nat} {cA cZ : ClassId} {G : pG} {A : Nat → Prop} {Q : Int32 → pS → Prop} (C : pw_C p s m args meth c b_Model_nest 9 R_Model (some .int) w_Model_nest A) (K : pw_K s D 15 a (rT cA cZ) A) {k98 : Int32 → Int32 → Int32 → Int32 → Int32 → pS → Prop} (hk98 : ∀ (x1 x2 x3 x4 x5 : Int32) (u : pS) (H : Heap) (locs : List Loc) (ls : Array Slot), va_P D vwCl (rw a cA cZ G u) H → va_S A s.heap H locs → lv_has ls 9 [(0, .ref (a 0)), (1, .int x1), (2, .int x2), (3, .int x3), (4, .int x4), (5, .int x5)] → k98 x1 x2 x3 x4 x5 u → W p l e ({ frames := 2, cells := 0, slots := 0, locals := 52 } : Room) s m args below meth c H locs 0 0 (pw_Ei below args s D (rw a cA cZ G) (rT cA cZ) A Q) (F0 m 98 ls [])) : ∀ (n : Nat), ∀ (x1 x2 x3 x4 x5 x6 x7 : Int32) (u : pS) (H : Heap) (locs : List Loc) (ls : Array Slot), va_P D vwCl (rw a cA cZ G u) H → va_S A s.heap H locs → lv_has ls 9 [(0, .ref (a 0)), (1, .int x1), (2, .int x2), (3, .int x3), (4, .int x4), (5, .int x5), (6, .int x6), (7, .int x7)] → lp_Model_nest_113 G Q k98 n x1 x2 x3 x4 x5 x6 x7 u → W p l e ({ frames := 2, cells := 0, slots := 0, locals := 52 } : Room) s m args below meth c H locs 0 0 (pw_Ei below args s D (rw a cA cZ G) (rT cA cZ) A Q) (F0 m 113 ls []) := by
 obtain ⟨hx, hb, hr, hml, hown, hts, hlocks, hA⟩ := id C
 obtain ⟨hK, hI, hF⟩ := id K
 have hD : ∀ u, va_D A (rw a cA cZ G u) := fun u => rw_D hI hF
 intro n
 induction n with
 | zero => intro x1 x2 x3 x4 x5 x6 x7 u H locs ls hP hS hl h; exact h.elim
 | succ n ih =>
   intro x1 x2 x3 x4 x5 x6 x7 u H locs ls hP hS hl h
   refine lv_iload hx hb d_Model_nest_113 (lv_at hl 7 rfl) ?_
   refine lv_aload_n hx hb d_Model_nest_115 rfl (lv_at hl 0 rfl) ?_
   refine va_get (D := D) (ci := 1) (v := .int (u.1 1)) (C := R_Model) (T := T_Model) (N := 23) hx hb hts in_Model hown hK hP 0 rw_at_0 rfl 8 (by decide) (hts _ (List.mem_cons_of_mem _ kw_843)) (fun _ h9 => h9) rfl d_Model_nest_116 ?_
   refine lv_icmp_ge (tgt := 188) hx hb d_Model_nest_119 (by decide) (fun c9 => ?_) (fun c9 => ?_)
   · have h := h.1 c9
     refine lv_aload_n hx hb d_Model_nest_188 rfl (lv_at hl 0 rfl) ?_
     refine lv_iload hx hb d_Model_nest_189 (lv_at hl 6 rfl) ?_
     refine lv_iload_n hx hb d_Model_nest_191 rfl (lv_at hl 1 rfl) ?_
     refine lv_iload_n hx hb d_Model_nest_192 rfl (lv_at hl 2 rfl) ?_
     refine cc_i (va_runV (As := [.int x6, .int x1, .int x2]) (rest := []) ⟨hx, hb, hml, hown, hts⟩ (ct_Model_lay l D a cA cZ G _ x6 x1 x2 u _ hI h) (pw_cwV 3 hts kw_1039 kw_57 kw_1036 kw_1038 kw_42 (by decide +kernel) ⟨Nat.le_of_ble_eq_true rfl, Nat.le_of_ble_eq_true rfl⟩) ⟨pw_blind, va_recv hK hP (ci := 1) (q0 := 0) rfl rw_at_0, fun U hU hW => ⟨rfl, by rw [hU], by rw [hU]; exact hP, va_K.moved hW.alike hK⟩⟩ rfl rfl hl.1 rfl (lv_room (Nat.le_of_ble_eq_true rfl)) d_Model_nest_193 ⟨Nat.le_of_ble_eq_true rfl, Nat.le_of_ble_eq_true rfl⟩) hS hF hA (fun r11 u10 H locs hP hS h => ?_)
     refine lv_if_eq (tgt := 205) hx hb d_Model_nest_196 (by decide) (fun c12 => ?_) (fun c12 => ?_)
     · have h := h.1 c12
       refine lv_iload_n hx hb d_Model_nest_205 rfl (lv_at hl 3 rfl) ?_
       refine lv_istore_n (lv' := [(3, .int x3), (0, .ref (a 0)), (1, .int x1), (2, .int x2), (4, .int x4), (5, .int x5), (6, .int x6), (7, .int x7)]) hx hb d_Model_nest_206 rfl hl (by decide) rfl (fun ls hl => ?_)
       refine lv_iload hx hb d_Model_nest_207 (lv_at hl 6 rfl) ?_
       refine lv_istore (lv' := [(4, .int x6), (3, .int x3), (0, .ref (a 0)), (1, .int x1), (2, .int x2), (5, .int x5), (6, .int x6), (7, .int x7)]) hx hb d_Model_nest_209 hl (by decide) rfl (fun ls hl => ?_)
       obtain ⟨t13, et13⟩ : ∃ y : Int32, y = x5 + 1 := ⟨_, rfl⟩
       have h := h t13 et13
       refine lv_iinc (v := t13) (lv' := [(5, .int t13), (4, .int x6), (3, .int x3), (0, .ref (a 0)), (1, .int x1), (2, .int x2), (6, .int x6), (7, .int x7)]) hx hb d_Model_nest_211 hl (k := 5) rfl (by rw [et13]; rfl) (by decide) rfl (fun ls hl => ?_)
       refine lv_goto (tgt := 98) hx hb d_Model_nest_214 (by decide) ?_
       exact hk98 x1 x2 x3 x6 t13 u10 _ _ _ hP hS (lv_sub hl [3, 4, 5, 2, 1, 0] rfl) h
     · have h := h.2 c12
       refine lv_iload_n hx hb d_Model_nest_199 rfl (lv_at hl 3 rfl) ?_
       refine lv_iconst (v := 1) hx hb d_Model_nest_200 (by decide) ?_
       refine lv_iadd hx hb d_Model_nest_201 ?_
       refine lv_goto (tgt := 206) hx hb d_Model_nest_202 (by decide) ?_
       refine lv_topi (fun t14 et14 => ?_)
       have h := h t14 et14
       refine lv_istore_n (lv' := [(3, .int t14), (0, .ref (a 0)), (1, .int x1), (2, .int x2), (4, .int x4), (5, .int x5), (6, .int x6), (7, .int x7)]) hx hb d_Model_nest_206 rfl hl (by decide) rfl (fun ls hl => ?_)
       refine lv_iload hx hb d_Model_nest_207 (lv_at hl 6 rfl) ?_
       refine lv_istore (lv' := [(4, .int x6), (3, .int t14), (0, .ref (a 0)), (1, .int x1), (2, .int x2), (5, .int x5), (6, .int x6), (7, .int x7)]) hx hb d_Model_nest_209 hl (by decide) rfl (fun ls hl => ?_)
       obtain ⟨t15, et15⟩ : ∃ y : Int32, y = x5 + 1 := ⟨_, rfl⟩
       have h := h t15 et15
       refine lv_iinc (v := t15) (lv' := [(5, .int t15), (4, .int x6), (3, .int t14), (0, .ref (a 0)), (1, .int x1), (2, .int x2), (6, .int x6), (7, .int x7)]) hx hb d_Model_nest_211 hl (k := 5) rfl (by rw [et15]; rfl) (by decide) rfl (fun ls hl => ?_)
       refine lv_goto (tgt := 98) hx hb d_Model_nest_214 (by decide) ?_
       exact hk98 x1 x2 t14 x6 t15 u10 _ _ _ hP hS (lv_sub hl [3, 4, 5, 2, 1, 0] rfl) h
   · have h := h.2 c9
     refine lv_iload hx hb d_Model_nest_122 (lv_at hl 4 rfl) ?_
     refine lv_if_lt (tgt := 145) hx hb d_Model_nest_124 (by decide) (fun c16 => ?_) (fun c16 => ?_)
     · have h := h.1 c16
       exact cp_Model_nest_145 C K (fun x1 x2 x3 x4 x5 x6 x7 y8 u H locs ls hP hS hl h => cp_Model_nest_150 C K ih x1 x2 x3 x4 x5 x6 x7 y8 u H locs ls hP hS hl h) x1 x2 x3 x4 x5 x6 x7 u _ _ _ hP hS (lv_sub hl [0, 1, 2, 3, 4, 5, 6, 7] rfl) h
     · have h := h.2 c16
       refine lv_iload hx hb d_Model_nest_127 (lv_at hl 7 rfl) ?_
       refine lv_iload hx hb d_Model_nest_129 (lv_at hl 4 rfl) ?_
       refine lv_icmp_eq (tgt := 149) hx hb d_Model_nest_131 (by decide) (fun c26 => ?_) (fun c26 => ?_)
       · have h := h.1 c26
         exact cp_Model_nest_149 C K (fun x1 x2 x3 x4 x5 x6 x7 y8 u H locs ls hP hS hl h => cp_Model_nest_150 C K ih x1 x2 x3 x4 x5 x6 x7 y8 u H locs ls hP hS hl h) x1 x2 x3 x4 x5 x6 x7 u _ _ _ hP hS (lv_sub hl [0, 1, 2, 3, 4, 5, 6, 7] rfl) h
       · have h := h.2 c26
         refine lv_aload_n hx hb d_Model_nest_134 rfl (lv_at hl 0 rfl) ?_
         refine lv_iload hx hb d_Model_nest_135 (lv_at hl 4 rfl) ?_
         refine lv_iload hx hb d_Model_nest_137 (lv_at hl 7 rfl) ?_
         refine cc_i (va_runV (As := [.int x4, .int x7]) (rest := []) ⟨hx, hb, hml, hown, hts⟩ (ct_Model_isLaidBefore l D a cA cZ G _ x4 x7 u _ hI h) (pw_cwV 2 hts kw_1035 kw_57 kw_1032 kw_1034 kw_41 (by decide +kernel) ⟨Nat.le_of_ble_eq_true rfl, Nat.le_of_ble_eq_true rfl⟩) ⟨pw_blind, va_recv hK hP (ci := 1) (q0 := 0) rfl rw_at_0, fun U hU hW => ⟨rfl, by rw [hU], by rw [hU]; exact hP, va_K.moved hW.alike hK⟩⟩ rfl rfl hl.1 rfl (lv_room (Nat.le_of_ble_eq_true rfl)) d_Model_nest_139 ⟨Nat.le_of_ble_eq_true rfl, Nat.le_of_ble_eq_true rfl⟩) hS hF hA (fun r28 u27 H locs hP hS h => ?_)
         refine lv_if_eq (tgt := 149) hx hb d_Model_nest_142 (by decide) (fun c29 => ?_) (fun c29 => ?_)
         · have h := h.1 c29
           exact cp_Model_nest_149 C K (fun x1 x2 x3 x4 x5 x6 x7 y8 u H locs ls hP hS hl h => cp_Model_nest_150 C K ih x1 x2 x3 x4 x5 x6 x7 y8 u H locs ls hP hS hl h) x1 x2 x3 x4 x5 x6 x7 u27 _ _ _ hP hS (lv_sub hl [0, 1, 2, 3, 4, 5, 6, 7] rfl) h
         · have h := h.2 c29
           exact cp_Model_nest_145 C K (fun x1 x2 x3 x4 x5 x6 x7 y8 u H locs ls hP hS hl h => cp_Model_nest_150 C K ih x1 x2 x3 x4 x5 x6 x7 y8 u H locs ls hP hS hl h) x1 x2 x3 x4 x5 x6 x7 u27 _ _ _ hP hS (lv_sub hl [0, 1, 2, 3, 4, 5, 6, 7] rfl) h
set_option maxHeartbeats 4000000 in
set_option maxRecDepth 100000 in
theorem cp_Model_nest_98 {p : Program} {l : Launch} {e : Env} {s : State} {m : MethodId} {args : Array Value} {below : List Frame} {meth : Method} {c : Code} {D : va_G} {a : Nat → Nat} {cA cZ : ClassId} {G : pG} {A : Nat → Prop} {Q : Int32 → pS → Prop} (C : pw_C p s m args meth c b_Model_nest 9 R_Model (some .int) w_Model_nest A) (K : pw_K s D 15 a (rT cA cZ) A) : ∀ (n : Nat), ∀ (x1 x2 x3 x4 x5 : Int32) (u : pS) (H : Heap) (locs : List Loc) (ls : Array Slot), va_P D vwCl (rw a cA cZ G u) H → va_S A s.heap H locs → lv_has ls 9 [(0, .ref (a 0)), (1, .int x1), (2, .int x2), (3, .int x3), (4, .int x4), (5, .int x5)] → lp_Model_nest_98 G Q n x1 x2 x3 x4 x5 u → W p l e ({ frames := 2, cells := 0, slots := 0, locals := 52 } : Room) s m args below meth c H locs 0 0 (pw_Ei below args s D (rw a cA cZ G) (rT cA cZ) A Q) (F0 m 98 ls []) := by
 obtain ⟨hx, hb, hr, hml, hown, hts, hlocks, hA⟩ := id C
 obtain ⟨hK, hI, hF⟩ := id K
 have hD : ∀ u, va_D A (rw a cA cZ G u) := fun u => rw_D hI hF
 intro n
 induction n with
 | zero => intro x1 x2 x3 x4 x5 u H locs ls hP hS hl h; exact h.elim
 | succ n ih =>
   intro x1 x2 x3 x4 x5 u H locs ls hP hS hl h
   refine lv_iload hx hb d_Model_nest_98 (lv_at hl 5 rfl) ?_
   refine lv_aload_n hx hb d_Model_nest_100 rfl (lv_at hl 0 rfl) ?_
   refine va_get (D := D) (ci := 1) (v := .int (u.1 1)) (C := R_Model) (T := T_Model) (N := 23) hx hb hts in_Model hown hK hP 0 rw_at_0 rfl 8 (by decide) (hts _ (List.mem_cons_of_mem _ kw_843)) (fun _ h9 => h9) rfl d_Model_nest_101 ?_
   refine lv_icmp_ge (tgt := 217) hx hb d_Model_nest_104 (by decide) (fun c7 => ?_) (fun c7 => ?_)
   · have h := h.1 c7
     refine lv_aload_n hx hb d_Model_nest_217 rfl (lv_at hl 0 rfl) ?_
     refine lv_iconst (v := 1) hx hb d_Model_nest_218 (by decide) ?_
     refine va_put (D := D) (ci := 1) (v := .int 1) (ty := .boolean) (C := R_Model) (T := T_Model) (N := 23) hx hb hts in_Model ty_Model tyok_Model nm_Model hown hK hP (hD _) hS 0 rw_at_0 rfl 16 (by decide) (hts _ (List.mem_cons_of_mem _ kw_851)) (fun _ h9 => h9) rfl (by decide +kernel) rfl rfl (Nat.le_of_ble_eq_true rfl) d_Model_nest_219 (fun H locs hP _ hS => ?_)
     obtain ⟨u8, eu8⟩ : ∃ z, z = pw_si u 4 1 := ⟨_, rfl⟩
     rw [rw_si_0_16, ← eu8] at hP
     have h := h u8 eu8
     refine lv_iload_n hx hb d_Model_nest_222 rfl (lv_at hl 3 rfl) ?_
     exact W.iret (v := x3) hx hb hr (fun t ht hW => ⟨⟨x3, u8, rfl, h, by rw [ht]; exact hP, va_K.moved hW.alike hK⟩, hS.F ht⟩) hS.2.2 d_Model_nest_223 hlocks
   · have h := h.2 c7
     refine lv_iconst (v := -1) hx hb d_Model_nest_107 (by decide) ?_
     refine lv_istore (lv' := [(6, .int (-1)), (0, .ref (a 0)), (1, .int x1), (2, .int x2), (3, .int x3), (4, .int x4), (5, .int x5)]) hx hb d_Model_nest_108 hl (by decide) rfl (fun ls hl => ?_)
     refine lv_iconst (v := 0) hx hb d_Model_nest_110 (by decide) ?_
     refine lv_istore (lv' := [(7, .int 0), (6, .int (-1)), (0, .ref (a 0)), (1, .int x1), (2, .int x2), (3, .int x3), (4, .int x4), (5, .int x5)]) hx hb d_Model_nest_111 hl (by decide) rfl (fun ls hl => ?_)
     obtain ⟨n1, h⟩ := h
     exact cp_Model_nest_113 C K ih n1 x1 x2 x3 x4 x5 (-1) 0 u _ _ _ hP hS (lv_sub hl [2, 3, 4, 5, 6, 7, 1, 0] rfl) h
set_option maxHeartbeats 4000000 in
set_option maxRecDepth 100000 in
theorem cp_Model_nest_61 {p : Program} {l : Launch} {e : Env} {s : State} {m : MethodId} {args : Array Value} {below : List Frame} {meth : Method} {c : Code} {D : va_G} {a : Nat → Nat} {cA cZ : ClassId} {G : pG} {A : Nat → Prop} {Q : Int32 → pS → Prop} (C : pw_C p s m args meth c b_Model_nest 9 R_Model (some .int) w_Model_nest A) (K : pw_K s D 15 a (rT cA cZ) A) : ∀ (n : Nat), ∀ (x1 x2 x3 x4 : Int32) (u : pS) (H : Heap) (locs : List Loc) (ls : Array Slot), va_P D vwCl (rw a cA cZ G u) H → va_S A s.heap H locs → lv_has ls 9 [(0, .ref (a 0)), (1, .int x1), (2, .int x2), (3, .int x3), (4, .int x4)] → lp_Model_nest_61 G Q n x1 x2 x3 x4 u → W p l e ({ frames := 2, cells := 0, slots := 0, locals := 52 } : Room) s m args below meth c H locs 0 0 (pw_Ei below args s D (rw a cA cZ G) (rT cA cZ) A Q) (F0 m 61 ls []) := by
 obtain ⟨hx, hb, hr, hml, hown, hts, hlocks, hA⟩ := id C
 obtain ⟨hK, hI, hF⟩ := id K
 have hD : ∀ u, va_D A (rw a cA cZ G u) := fun u => rw_D hI hF
 intro n
 induction n with
 | zero => intro x1 x2 x3 x4 u H locs ls hP hS hl h; exact h.elim
 | succ n ih =>
   intro x1 x2 x3 x4 u H locs ls hP hS hl h
   refine lv_iload hx hb d_Model_nest_61 (lv_at hl 4 rfl) ?_
   refine lv_aload_n hx hb d_Model_nest_63 rfl (lv_at hl 0 rfl) ?_
   refine va_get (D := D) (ci := 1) (v := .int (u.1 1)) (C := R_Model) (T := T_Model) (N := 23) hx hb hts in_Model hown hK hP 0 rw_at_0 rfl 8 (by decide) (hts _ (List.mem_cons_of_mem _ kw_843)) (fun _ h9 => h9) rfl d_Model_nest_64 ?_
   refine lv_icmp_ge (tgt := 92) hx hb d_Model_nest_67 (by decide) (fun c6 => ?_) (fun c6 => ?_)
   · have h := h.1 c6
     refine lv_iconst (v := -1) hx hb d_Model_nest_92 (by decide) ?_
     refine lv_istore (lv' := [(4, .int (-1)), (0, .ref (a 0)), (1, .int x1), (2, .int x2), (3, .int x3)]) hx hb d_Model_nest_93 hl (by decide) rfl (fun ls hl => ?_)
     refine lv_iconst (v := 0) hx hb d_Model_nest_95 (by decide) ?_
     refine lv_istore (lv' := [(5, .int 0), (4, .int (-1)), (0, .ref (a 0)), (1, .int x1), (2, .int x2), (3, .int x3)]) hx hb d_Model_nest_96 hl (by decide) rfl (fun ls hl => ?_)
     obtain ⟨n1, h⟩ := h
     exact cp_Model_nest_98 C K n1 x1 x2 x3 (-1) 0 u _ _ _ hP hS (lv_sub hl [2, 3, 4, 5, 1, 0] rfl) h
   · have h := h.2 c6
     refine lv_aload_n hx hb d_Model_nest_70 rfl (lv_at hl 0 rfl) ?_
     refine va_get (D := D) (ci := 1) (v := .ref (a 10)) (C := R_Model) (T := T_Model) (N := 23) hx hb hts in_Model hown hK hP 0 rw_at_0 rfl 17 (by decide) (hts _ (List.mem_cons_of_mem _ kw_852)) (fun _ h9 => h9) rfl d_Model_nest_71 ?_
     refine lv_iload hx hb d_Model_nest_74 (lv_at hl 4 rfl) ?_
     refine lv_iconst (v := -1) hx hb d_Model_nest_76 (by decide) ?_
     refine va_iast hx hb hK hP (hD _) hS 10 0 rw_at_10 rfl h.1 d_Model_nest_77 (fun H locs hP _ hS => ?_)
     obtain ⟨u30, eu30⟩ : ∃ z, z = pw_sa u 9 (upd (u.2 9) x4.toNatClampNeg (-1)) := ⟨_, rfl⟩
     rw [rw_sa_10, ← eu30] at hP
     have h := h.2 u30 eu30
     refine lv_aload_n hx hb d_Model_nest_78 rfl (lv_at hl 0 rfl) ?_
     refine va_get (D := D) (ci := 1) (v := .ref (a 11)) (C := R_Model) (T := T_Model) (N := 23) hx hb hts in_Model hown hK hP 0 rw_at_0 rfl 18 (by decide) (hts _ (List.mem_cons_of_mem _ kw_853)) (fun _ h9 => h9) rfl d_Model_nest_79 ?_
     refine lv_iload hx hb d_Model_nest_82 (lv_at hl 4 rfl) ?_
     refine lv_iconst (v := -1) hx hb d_Model_nest_84 (by decide) ?_
     refine va_iast hx hb hK hP (hD _) hS 11 0 rw_at_11 rfl h.1 d_Model_nest_85 (fun H locs hP _ hS => ?_)
     obtain ⟨u31, eu31⟩ : ∃ z, z = pw_sa u30 10 (upd (u30.2 10) x4.toNatClampNeg (-1)) := ⟨_, rfl⟩
     rw [rw_sa_11, ← eu31] at hP
     have h := h.2 u31 eu31
     obtain ⟨t32, et32⟩ : ∃ y : Int32, y = x4 + 1 := ⟨_, rfl⟩
     have h := h t32 et32
     refine lv_iinc (v := t32) (lv' := [(4, .int t32), (0, .ref (a 0)), (1, .int x1), (2, .int x2), (3, .int x3)]) hx hb d_Model_nest_86 hl (k := 4) rfl (by rw [et32]; rfl) (by decide) rfl (fun ls hl => ?_)
     refine lv_goto (tgt := 61) hx hb d_Model_nest_89 (by decide) ?_
     exact ih x1 x2 x3 t32 u31 _ _ _ hP hS (lv_sub hl [1, 2, 3, 4, 0] rfl) h
set_option maxHeartbeats 4000000 in
set_option maxRecDepth 100000 in
theorem st_Model_nest {p : Program} {l : Launch} {e : Env} {s : State} {m : MethodId} {args : Array Value} {below : List Frame} {meth : Method} {c : Code} {D : va_G} {a : Nat → Nat} {cA cZ : ClassId} {G : pG} {A : Nat → Prop} {Q : Int32 → pS → Prop} (C : pw_C p s m args meth c b_Model_nest 9 R_Model (some .int) w_Model_nest A) (K : pw_K s D 15 a (rT cA cZ) A) (x1 x2 : Int32) (u : pS) (ls : Array Slot) (hP : va_P D vwCl (rw a cA cZ G u) s.heap) (hl : lv_has ls 9 [(0, .ref (a 0)), (1, .int x1), (2, .int x2)]) (h : wp_Model_nest G x1 x2 u Q) : W p l e ({ frames := 2, cells := 0, slots := 0, locals := 52 } : Room) s m args below meth c s.heap [] 0 0 (pw_Ei below args s D (rw a cA cZ G) (rT cA cZ) A Q) (F0 m 0 ls []) := by
 obtain ⟨hx, hb, hr, hml, hown, hts, hlocks, hA⟩ := id C
 obtain ⟨hK, hI, hF⟩ := id K
 have hD : ∀ u, va_D A (rw a cA cZ G u) := fun u => rw_D hI hF
 have hS : va_S A s.heap s.heap [] := va_S.rf
 have h : wp_Model_nest G x1 x2 u Q := h
 refine lv_aload_n hx hb d_Model_nest_0 rfl (lv_at hl 0 rfl) ?_
 refine lv_aload_n hx hb d_Model_nest_1 rfl (lv_at hl 0 rfl) ?_
 refine va_get (D := D) (ci := 1) (v := .int (u.1 2)) (C := R_Model) (T := T_Model) (N := 23) hx hb hts in_Model hown hK hP 0 rw_at_0 rfl 12 (by decide) (hts _ (List.mem_cons_of_mem _ kw_847)) (fun _ h9 => h9) rfl d_Model_nest_2 ?_
 refine lv_if_ne (tgt := 12) hx hb d_Model_nest_5 (by decide) (fun c1 => ?_) (fun c1 => ?_)
 · have h := h.2 c1
   refine lv_iload_n hx hb d_Model_nest_12 rfl (lv_at hl 1 rfl) ?_
   refine lv_iconst (v := 1) hx hb d_Model_nest_13 (by decide) ?_
   refine lv_icmp_lt (tgt := 38) hx hb d_Model_nest_14 (by decide) (fun c2 => ?_) (fun c2 => ?_)
   · have h := h.1 c2
     refine lv_iconst (v := 2) hx hb d_Model_nest_38 (by decide) ?_
     refine va_put (D := D) (ci := 1) (v := .int 2) (ty := .int) (C := R_Model) (T := T_Model) (N := 23) hx hb hts in_Model ty_Model tyok_Model nm_Model hown hK hP (hD _) hS 0 rw_at_0 rfl 0 (by decide) (hts _ (List.mem_cons_of_mem _ kw_835)) (fun _ h9 => h9) rfl (by decide +kernel) rfl rfl (Nat.le_of_ble_eq_true rfl) d_Model_nest_39 (fun H locs hP _ hS => ?_)
     obtain ⟨u3, eu3⟩ : ∃ z, z = pw_si u 0 2 := ⟨_, rfl⟩
     rw [rw_si_0_0, ← eu3] at hP
     have h := h u3 eu3
     refine lv_aload_n hx hb d_Model_nest_42 rfl (lv_at hl 0 rfl) ?_
     refine va_get (D := D) (ci := 1) (v := .int (u3.1 0)) (C := R_Model) (T := T_Model) (N := 23) hx hb hts in_Model hown hK hP 0 rw_at_0 rfl 0 (by decide) (hts _ (List.mem_cons_of_mem _ kw_835)) (fun _ h9 => h9) rfl d_Model_nest_43 ?_
     refine lv_if_le (tgt := 51) hx hb d_Model_nest_46 (by decide) (fun c4 => ?_) (fun c4 => ?_)
     · have h := h.1 c4
       refine lv_aload_n hx hb d_Model_nest_51 rfl (lv_at hl 0 rfl) ?_
       refine lv_iconst (v := 0) hx hb d_Model_nest_52 (by decide) ?_
       refine va_put (D := D) (ci := 1) (v := .int 0) (ty := .int) (C := R_Model) (T := T_Model) (N := 23) hx hb hts in_Model ty_Model tyok_Model nm_Model hown hK hP (hD _) hS 0 rw_at_0 rfl 19 (by decide) (hts _ (List.mem_cons_of_mem _ kw_854)) (fun _ h9 => h9) rfl (by decide +kernel) rfl rfl (Nat.le_of_ble_eq_true rfl) d_Model_nest_53 (fun H locs hP _ hS => ?_)
       obtain ⟨u5, eu5⟩ : ∃ z, z = pw_si u3 5 0 := ⟨_, rfl⟩
       rw [rw_si_0_19, ← eu5] at hP
       have h := h u5 eu5
       refine lv_iconst (v := 0) hx hb d_Model_nest_56 (by decide) ?_
       refine lv_istore_n (lv' := [(3, .int 0), (0, .ref (a 0)), (1, .int x1), (2, .int x2)]) hx hb d_Model_nest_57 rfl hl (by decide) rfl (fun ls hl => ?_)
       refine lv_iconst (v := 0) hx hb d_Model_nest_58 (by decide) ?_
       refine lv_istore (lv' := [(4, .int 0), (3, .int 0), (0, .ref (a 0)), (1, .int x1), (2, .int x2)]) hx hb d_Model_nest_59 hl (by decide) rfl (fun ls hl => ?_)
       obtain ⟨n1, h⟩ := h
       exact cp_Model_nest_61 C K n1 x1 x2 0 0 u5 _ _ _ hP hS (lv_sub hl [2, 3, 4, 1, 0] rfl) h
     · have h := h.2 c4
       refine lv_iconst (v := 0) hx hb d_Model_nest_49 (by decide) ?_
       exact W.iret (v := 0) hx hb hr (fun t ht hW => ⟨⟨0, u3, rfl, h, by rw [ht]; exact hP, va_K.moved hW.alike hK⟩, hS.F ht⟩) hS.2.2 d_Model_nest_50 hlocks
   · have h := h.2 c2
     refine lv_iload_n hx hb d_Model_nest_17 rfl (lv_at hl 1 rfl) ?_
     refine lv_bipush (v := 100) hx hb d_Model_nest_18 (by decide) ?_
     refine lv_icmp_gt (tgt := 38) hx hb d_Model_nest_20 (by decide) (fun c33 => ?_) (fun c33 => ?_)
     · have h := h.1 c33
       refine lv_iconst (v := 2) hx hb d_Model_nest_38 (by decide) ?_
       refine va_put (D := D) (ci := 1) (v := .int 2) (ty := .int) (C := R_Model) (T := T_Model) (N := 23) hx hb hts in_Model ty_Model tyok_Model nm_Model hown hK hP (hD _) hS 0 rw_at_0 rfl 0 (by decide) (hts _ (List.mem_cons_of_mem _ kw_835)) (fun _ h9 => h9) rfl (by decide +kernel) rfl rfl (Nat.le_of_ble_eq_true rfl) d_Model_nest_39 (fun H locs hP _ hS => ?_)
       obtain ⟨u34, eu34⟩ : ∃ z, z = pw_si u 0 2 := ⟨_, rfl⟩
       rw [rw_si_0_0, ← eu34] at hP
       have h := h u34 eu34
       refine lv_aload_n hx hb d_Model_nest_42 rfl (lv_at hl 0 rfl) ?_
       refine va_get (D := D) (ci := 1) (v := .int (u34.1 0)) (C := R_Model) (T := T_Model) (N := 23) hx hb hts in_Model hown hK hP 0 rw_at_0 rfl 0 (by decide) (hts _ (List.mem_cons_of_mem _ kw_835)) (fun _ h9 => h9) rfl d_Model_nest_43 ?_
       refine lv_if_le (tgt := 51) hx hb d_Model_nest_46 (by decide) (fun c35 => ?_) (fun c35 => ?_)
       · have h := h.1 c35
         refine lv_aload_n hx hb d_Model_nest_51 rfl (lv_at hl 0 rfl) ?_
         refine lv_iconst (v := 0) hx hb d_Model_nest_52 (by decide) ?_
         refine va_put (D := D) (ci := 1) (v := .int 0) (ty := .int) (C := R_Model) (T := T_Model) (N := 23) hx hb hts in_Model ty_Model tyok_Model nm_Model hown hK hP (hD _) hS 0 rw_at_0 rfl 19 (by decide) (hts _ (List.mem_cons_of_mem _ kw_854)) (fun _ h9 => h9) rfl (by decide +kernel) rfl rfl (Nat.le_of_ble_eq_true rfl) d_Model_nest_53 (fun H locs hP _ hS => ?_)
         obtain ⟨u36, eu36⟩ : ∃ z, z = pw_si u34 5 0 := ⟨_, rfl⟩
         rw [rw_si_0_19, ← eu36] at hP
         have h := h u36 eu36
         refine lv_iconst (v := 0) hx hb d_Model_nest_56 (by decide) ?_
         refine lv_istore_n (lv' := [(3, .int 0), (0, .ref (a 0)), (1, .int x1), (2, .int x2)]) hx hb d_Model_nest_57 rfl hl (by decide) rfl (fun ls hl => ?_)
         refine lv_iconst (v := 0) hx hb d_Model_nest_58 (by decide) ?_
         refine lv_istore (lv' := [(4, .int 0), (3, .int 0), (0, .ref (a 0)), (1, .int x1), (2, .int x2)]) hx hb d_Model_nest_59 hl (by decide) rfl (fun ls hl => ?_)
         obtain ⟨n1, h⟩ := h
         exact cp_Model_nest_61 C K n1 x1 x2 0 0 u36 _ _ _ hP hS (lv_sub hl [2, 3, 4, 1, 0] rfl) h
       · have h := h.2 c35
         refine lv_iconst (v := 0) hx hb d_Model_nest_49 (by decide) ?_
         exact W.iret (v := 0) hx hb hr (fun t ht hW => ⟨⟨0, u34, rfl, h, by rw [ht]; exact hP, va_K.moved hW.alike hK⟩, hS.F ht⟩) hS.2.2 d_Model_nest_50 hlocks
     · have h := h.2 c33
       refine lv_iload_n hx hb d_Model_nest_23 rfl (lv_at hl 2 rfl) ?_
       refine lv_iconst (v := 1) hx hb d_Model_nest_24 (by decide) ?_
       refine lv_icmp_lt (tgt := 38) hx hb d_Model_nest_25 (by decide) (fun c37 => ?_) (fun c37 => ?_)
       · have h := h.1 c37
         refine lv_iconst (v := 2) hx hb d_Model_nest_38 (by decide) ?_
         refine va_put (D := D) (ci := 1) (v := .int 2) (ty := .int) (C := R_Model) (T := T_Model) (N := 23) hx hb hts in_Model ty_Model tyok_Model nm_Model hown hK hP (hD _) hS 0 rw_at_0 rfl 0 (by decide) (hts _ (List.mem_cons_of_mem _ kw_835)) (fun _ h9 => h9) rfl (by decide +kernel) rfl rfl (Nat.le_of_ble_eq_true rfl) d_Model_nest_39 (fun H locs hP _ hS => ?_)
         obtain ⟨u38, eu38⟩ : ∃ z, z = pw_si u 0 2 := ⟨_, rfl⟩
         rw [rw_si_0_0, ← eu38] at hP
         have h := h u38 eu38
         refine lv_aload_n hx hb d_Model_nest_42 rfl (lv_at hl 0 rfl) ?_
         refine va_get (D := D) (ci := 1) (v := .int (u38.1 0)) (C := R_Model) (T := T_Model) (N := 23) hx hb hts in_Model hown hK hP 0 rw_at_0 rfl 0 (by decide) (hts _ (List.mem_cons_of_mem _ kw_835)) (fun _ h9 => h9) rfl d_Model_nest_43 ?_
         refine lv_if_le (tgt := 51) hx hb d_Model_nest_46 (by decide) (fun c39 => ?_) (fun c39 => ?_)
         · have h := h.1 c39
           refine lv_aload_n hx hb d_Model_nest_51 rfl (lv_at hl 0 rfl) ?_
           refine lv_iconst (v := 0) hx hb d_Model_nest_52 (by decide) ?_
           refine va_put (D := D) (ci := 1) (v := .int 0) (ty := .int) (C := R_Model) (T := T_Model) (N := 23) hx hb hts in_Model ty_Model tyok_Model nm_Model hown hK hP (hD _) hS 0 rw_at_0 rfl 19 (by decide) (hts _ (List.mem_cons_of_mem _ kw_854)) (fun _ h9 => h9) rfl (by decide +kernel) rfl rfl (Nat.le_of_ble_eq_true rfl) d_Model_nest_53 (fun H locs hP _ hS => ?_)
           obtain ⟨u40, eu40⟩ : ∃ z, z = pw_si u38 5 0 := ⟨_, rfl⟩
           rw [rw_si_0_19, ← eu40] at hP
           have h := h u40 eu40
           refine lv_iconst (v := 0) hx hb d_Model_nest_56 (by decide) ?_
           refine lv_istore_n (lv' := [(3, .int 0), (0, .ref (a 0)), (1, .int x1), (2, .int x2)]) hx hb d_Model_nest_57 rfl hl (by decide) rfl (fun ls hl => ?_)
           refine lv_iconst (v := 0) hx hb d_Model_nest_58 (by decide) ?_
           refine lv_istore (lv' := [(4, .int 0), (3, .int 0), (0, .ref (a 0)), (1, .int x1), (2, .int x2)]) hx hb d_Model_nest_59 hl (by decide) rfl (fun ls hl => ?_)
           obtain ⟨n1, h⟩ := h
           exact cp_Model_nest_61 C K n1 x1 x2 0 0 u40 _ _ _ hP hS (lv_sub hl [2, 3, 4, 1, 0] rfl) h
         · have h := h.2 c39
           refine lv_iconst (v := 0) hx hb d_Model_nest_49 (by decide) ?_
           exact W.iret (v := 0) hx hb hr (fun t ht hW => ⟨⟨0, u38, rfl, h, by rw [ht]; exact hP, va_K.moved hW.alike hK⟩, hS.F ht⟩) hS.2.2 d_Model_nest_50 hlocks
       · have h := h.2 c37
         refine lv_iload_n hx hb d_Model_nest_28 rfl (lv_at hl 2 rfl) ?_
         refine lv_bipush (v := 100) hx hb d_Model_nest_29 (by decide) ?_
         refine lv_icmp_gt (tgt := 38) hx hb d_Model_nest_31 (by decide) (fun c41 => ?_) (fun c41 => ?_)
         · have h := h.1 c41
           refine lv_iconst (v := 2) hx hb d_Model_nest_38 (by decide) ?_
           refine va_put (D := D) (ci := 1) (v := .int 2) (ty := .int) (C := R_Model) (T := T_Model) (N := 23) hx hb hts in_Model ty_Model tyok_Model nm_Model hown hK hP (hD _) hS 0 rw_at_0 rfl 0 (by decide) (hts _ (List.mem_cons_of_mem _ kw_835)) (fun _ h9 => h9) rfl (by decide +kernel) rfl rfl (Nat.le_of_ble_eq_true rfl) d_Model_nest_39 (fun H locs hP _ hS => ?_)
           obtain ⟨u42, eu42⟩ : ∃ z, z = pw_si u 0 2 := ⟨_, rfl⟩
           rw [rw_si_0_0, ← eu42] at hP
           have h := h u42 eu42
           refine lv_aload_n hx hb d_Model_nest_42 rfl (lv_at hl 0 rfl) ?_
           refine va_get (D := D) (ci := 1) (v := .int (u42.1 0)) (C := R_Model) (T := T_Model) (N := 23) hx hb hts in_Model hown hK hP 0 rw_at_0 rfl 0 (by decide) (hts _ (List.mem_cons_of_mem _ kw_835)) (fun _ h9 => h9) rfl d_Model_nest_43 ?_
           refine lv_if_le (tgt := 51) hx hb d_Model_nest_46 (by decide) (fun c43 => ?_) (fun c43 => ?_)
           · have h := h.1 c43
             refine lv_aload_n hx hb d_Model_nest_51 rfl (lv_at hl 0 rfl) ?_
             refine lv_iconst (v := 0) hx hb d_Model_nest_52 (by decide) ?_
             refine va_put (D := D) (ci := 1) (v := .int 0) (ty := .int) (C := R_Model) (T := T_Model) (N := 23) hx hb hts in_Model ty_Model tyok_Model nm_Model hown hK hP (hD _) hS 0 rw_at_0 rfl 19 (by decide) (hts _ (List.mem_cons_of_mem _ kw_854)) (fun _ h9 => h9) rfl (by decide +kernel) rfl rfl (Nat.le_of_ble_eq_true rfl) d_Model_nest_53 (fun H locs hP _ hS => ?_)
             obtain ⟨u44, eu44⟩ : ∃ z, z = pw_si u42 5 0 := ⟨_, rfl⟩
             rw [rw_si_0_19, ← eu44] at hP
             have h := h u44 eu44
             refine lv_iconst (v := 0) hx hb d_Model_nest_56 (by decide) ?_
             refine lv_istore_n (lv' := [(3, .int 0), (0, .ref (a 0)), (1, .int x1), (2, .int x2)]) hx hb d_Model_nest_57 rfl hl (by decide) rfl (fun ls hl => ?_)
             refine lv_iconst (v := 0) hx hb d_Model_nest_58 (by decide) ?_
             refine lv_istore (lv' := [(4, .int 0), (3, .int 0), (0, .ref (a 0)), (1, .int x1), (2, .int x2)]) hx hb d_Model_nest_59 hl (by decide) rfl (fun ls hl => ?_)
             obtain ⟨n1, h⟩ := h
             exact cp_Model_nest_61 C K n1 x1 x2 0 0 u44 _ _ _ hP hS (lv_sub hl [2, 3, 4, 1, 0] rfl) h
           · have h := h.2 c43
             refine lv_iconst (v := 0) hx hb d_Model_nest_49 (by decide) ?_
             exact W.iret (v := 0) hx hb hr (fun t ht hW => ⟨⟨0, u42, rfl, h, by rw [ht]; exact hP, va_K.moved hW.alike hK⟩, hS.F ht⟩) hS.2.2 d_Model_nest_50 hlocks
         · have h := h.2 c41
           refine lv_iconst (v := 0) hx hb d_Model_nest_34 (by decide) ?_
           refine lv_goto (tgt := 39) hx hb d_Model_nest_35 (by decide) ?_
           refine va_put (D := D) (ci := 1) (v := .int 0) (ty := .int) (C := R_Model) (T := T_Model) (N := 23) hx hb hts in_Model ty_Model tyok_Model nm_Model hown hK hP (hD _) hS 0 rw_at_0 rfl 0 (by decide) (hts _ (List.mem_cons_of_mem _ kw_835)) (fun _ h9 => h9) rfl (by decide +kernel) rfl rfl (Nat.le_of_ble_eq_true rfl) d_Model_nest_39 (fun H locs hP _ hS => ?_)
           obtain ⟨u45, eu45⟩ : ∃ z, z = pw_si u 0 0 := ⟨_, rfl⟩
           rw [rw_si_0_0, ← eu45] at hP
           have h := h u45 eu45
           refine lv_aload_n hx hb d_Model_nest_42 rfl (lv_at hl 0 rfl) ?_
           refine va_get (D := D) (ci := 1) (v := .int (u45.1 0)) (C := R_Model) (T := T_Model) (N := 23) hx hb hts in_Model hown hK hP 0 rw_at_0 rfl 0 (by decide) (hts _ (List.mem_cons_of_mem _ kw_835)) (fun _ h9 => h9) rfl d_Model_nest_43 ?_
           refine lv_if_le (tgt := 51) hx hb d_Model_nest_46 (by decide) (fun c46 => ?_) (fun c46 => ?_)
           · have h := h.1 c46
             refine lv_aload_n hx hb d_Model_nest_51 rfl (lv_at hl 0 rfl) ?_
             refine lv_iconst (v := 0) hx hb d_Model_nest_52 (by decide) ?_
             refine va_put (D := D) (ci := 1) (v := .int 0) (ty := .int) (C := R_Model) (T := T_Model) (N := 23) hx hb hts in_Model ty_Model tyok_Model nm_Model hown hK hP (hD _) hS 0 rw_at_0 rfl 19 (by decide) (hts _ (List.mem_cons_of_mem _ kw_854)) (fun _ h9 => h9) rfl (by decide +kernel) rfl rfl (Nat.le_of_ble_eq_true rfl) d_Model_nest_53 (fun H locs hP _ hS => ?_)
             obtain ⟨u47, eu47⟩ : ∃ z, z = pw_si u45 5 0 := ⟨_, rfl⟩
             rw [rw_si_0_19, ← eu47] at hP
             have h := h u47 eu47
             refine lv_iconst (v := 0) hx hb d_Model_nest_56 (by decide) ?_
             refine lv_istore_n (lv' := [(3, .int 0), (0, .ref (a 0)), (1, .int x1), (2, .int x2)]) hx hb d_Model_nest_57 rfl hl (by decide) rfl (fun ls hl => ?_)
             refine lv_iconst (v := 0) hx hb d_Model_nest_58 (by decide) ?_
             refine lv_istore (lv' := [(4, .int 0), (3, .int 0), (0, .ref (a 0)), (1, .int x1), (2, .int x2)]) hx hb d_Model_nest_59 hl (by decide) rfl (fun ls hl => ?_)
             obtain ⟨n1, h⟩ := h
             exact cp_Model_nest_61 C K n1 x1 x2 0 0 u47 _ _ _ hP hS (lv_sub hl [2, 3, 4, 1, 0] rfl) h
           · have h := h.2 c46
             refine lv_iconst (v := 0) hx hb d_Model_nest_49 (by decide) ?_
             exact W.iret (v := 0) hx hb hr (fun t ht hW => ⟨⟨0, u45, rfl, h, by rw [ht]; exact hP, va_K.moved hW.alike hK⟩, hS.F ht⟩) hS.2.2 d_Model_nest_50 hlocks
 · have h := h.1 c1
   refine lv_iconst (v := 1) hx hb d_Model_nest_8 (by decide) ?_
   refine lv_goto (tgt := 39) hx hb d_Model_nest_9 (by decide) ?_
   refine va_put (D := D) (ci := 1) (v := .int 1) (ty := .int) (C := R_Model) (T := T_Model) (N := 23) hx hb hts in_Model ty_Model tyok_Model nm_Model hown hK hP (hD _) hS 0 rw_at_0 rfl 0 (by decide) (hts _ (List.mem_cons_of_mem _ kw_835)) (fun _ h9 => h9) rfl (by decide +kernel) rfl rfl (Nat.le_of_ble_eq_true rfl) d_Model_nest_39 (fun H locs hP _ hS => ?_)
   obtain ⟨u48, eu48⟩ : ∃ z, z = pw_si u 0 1 := ⟨_, rfl⟩
   rw [rw_si_0_0, ← eu48] at hP
   have h := h u48 eu48
   refine lv_aload_n hx hb d_Model_nest_42 rfl (lv_at hl 0 rfl) ?_
   refine va_get (D := D) (ci := 1) (v := .int (u48.1 0)) (C := R_Model) (T := T_Model) (N := 23) hx hb hts in_Model hown hK hP 0 rw_at_0 rfl 0 (by decide) (hts _ (List.mem_cons_of_mem _ kw_835)) (fun _ h9 => h9) rfl d_Model_nest_43 ?_
   refine lv_if_le (tgt := 51) hx hb d_Model_nest_46 (by decide) (fun c49 => ?_) (fun c49 => ?_)
   · have h := h.1 c49
     refine lv_aload_n hx hb d_Model_nest_51 rfl (lv_at hl 0 rfl) ?_
     refine lv_iconst (v := 0) hx hb d_Model_nest_52 (by decide) ?_
     refine va_put (D := D) (ci := 1) (v := .int 0) (ty := .int) (C := R_Model) (T := T_Model) (N := 23) hx hb hts in_Model ty_Model tyok_Model nm_Model hown hK hP (hD _) hS 0 rw_at_0 rfl 19 (by decide) (hts _ (List.mem_cons_of_mem _ kw_854)) (fun _ h9 => h9) rfl (by decide +kernel) rfl rfl (Nat.le_of_ble_eq_true rfl) d_Model_nest_53 (fun H locs hP _ hS => ?_)
     obtain ⟨u50, eu50⟩ : ∃ z, z = pw_si u48 5 0 := ⟨_, rfl⟩
     rw [rw_si_0_19, ← eu50] at hP
     have h := h u50 eu50
     refine lv_iconst (v := 0) hx hb d_Model_nest_56 (by decide) ?_
     refine lv_istore_n (lv' := [(3, .int 0), (0, .ref (a 0)), (1, .int x1), (2, .int x2)]) hx hb d_Model_nest_57 rfl hl (by decide) rfl (fun ls hl => ?_)
     refine lv_iconst (v := 0) hx hb d_Model_nest_58 (by decide) ?_
     refine lv_istore (lv' := [(4, .int 0), (3, .int 0), (0, .ref (a 0)), (1, .int x1), (2, .int x2)]) hx hb d_Model_nest_59 hl (by decide) rfl (fun ls hl => ?_)
     obtain ⟨n1, h⟩ := h
     exact cp_Model_nest_61 C K n1 x1 x2 0 0 u50 _ _ _ hP hS (lv_sub hl [2, 3, 4, 1, 0] rfl) h
   · have h := h.2 c49
     refine lv_iconst (v := 0) hx hb d_Model_nest_49 (by decide) ?_
     exact W.iret (v := 0) hx hb hr (fun t ht hW => ⟨⟨0, u48, rfl, h, by rw [ht]; exact hP, va_K.moved hW.alike hK⟩, hS.F ht⟩) hS.2.2 d_Model_nest_50 hlocks
set_option maxHeartbeats 4000000 in
set_option maxRecDepth 100000 in
theorem ct_Model_nest (l : Launch) (D : va_G) (a : Nat → Nat) (cA cZ : ClassId) (G : pG) (sz : Nat) (x1 x2 : Int32) (u : pS) (Q : Int32 → pS → Prop) (hI : pw_I 15 a) (h : wp_Model_nest G x1 x2 u Q) : Met l y_Model_nest w_Model_nest ({ frames := 2, cells := 0, slots := 0, locals := 52 } : Room) (va_Pc [.ref (a 0), .int x1, .int x2] (pw_pre D (rw a cA cZ G) (rT cA cZ) sz u)) (va_Qi (fun (r : Int32) (u : pS) => Q r u) (pw_B D (rw a cA cZ G) (rT cA cZ)) (pw_F 15 a sz)) 0 0 (pw_F 15 a sz) := by
 refine Met.ofW (cc := b_Model_nest) (maxL := 9) (ret := (some .int)) (by decide) rfl ?_
 intro p e s m args below meth c s₁ B hml hv
 obtain ⟨rfl, hsz, hP, hK⟩ := hv
 subst hsz
 have hl := lv_entry ([.ref (a 0), .int x1, .int x2]) (n := 9) (Nat.le_of_ble_eq_true rfl)
 rw [lg_entry_eq]
 generalize (lg_sl ([.ref (a 0), .int x1, .int x2]) ++ List.replicate (9 - (lg_sl ([.ref (a 0), .int x1, .int x2])).length) Slot.unset).toArray = ls at hl ⊢
 exact st_Model_nest (A := (pw_F 15 a s.heap.size)) ⟨B.exec, B.bytes, B.returns, hml, findClass_of_methodNamed B.named, atoms_spec (ws := w_Model_nest) B.pre, B.notSynchronized, fun q hq => Or.inr hq⟩ ⟨hK, hI, fun k hk => Or.inl ⟨k, hk, rfl⟩⟩ x1 x2 u ls hP hl h
set_option maxHeartbeats 4000000 in
set_option maxRecDepth 100000 in
theorem cp_Model_at_15 {p : Program} {l : Launch} {e : Env} {s : State} {m : MethodId} {args : Array Value} {below : List Frame} {meth : Method} {c : Code} {D : va_G} {a : Nat → Nat} {cA cZ : ClassId} {G : pG} {A : Nat → Prop} {Q : Int32 → pS → Prop} (C : pw_C p s m args meth c b_Model_at 3 R_Model (some .int) w_Model_at A) (K : pw_K s D 15 a (rT cA cZ) A) {k45 : Int32 → Int32 → Int32 → pS → Prop} (hk45 : ∀ (x1 x2 y3 : Int32) (u : pS) (H : Heap) (locs : List Loc) (ls : Array Slot), va_P D vwCl (rw a cA cZ G u) H → va_S A s.heap H locs → lv_has ls 3 [(0, .ref (a 0)), (1, .int x1), (2, .int x2)] → k45 x1 x2 y3 u → W p l e ({ frames := 0, cells := 0, slots := 0, locals := 0 } : Room) s m args below meth c H locs 0 0 (pw_Ei below args s D (rw a cA cZ G) (rT cA cZ) A Q) (F0 m 45 ls [.int y3, .ref (a 0)])) : ∀ (x1 x2 : Int32) (u : pS) (H : Heap) (locs : List Loc) (ls : Array Slot), va_P D vwCl (rw a cA cZ G u) H → va_S A s.heap H locs → lv_has ls 3 [(0, .ref (a 0)), (1, .int x1), (2, .int x2)] → jn_Model_at_15 G Q k45 x1 x2 u → W p l e ({ frames := 0, cells := 0, slots := 0, locals := 0 } : Room) s m args below meth c H locs 0 0 (pw_Ei below args s D (rw a cA cZ G) (rT cA cZ) A Q) (F0 m 15 ls [.ref (a 0)]) := by
 obtain ⟨hx, hb, hr, hml, hown, hts, hlocks, hA⟩ := id C
 obtain ⟨hK, hI, hF⟩ := id K
 have hD : ∀ u, va_D A (rw a cA cZ G u) := fun u => rw_D hI hF
 intro x1 x2 u H locs ls hP hS hl h
 refine lv_iconst (v := 1) hx hb d_Model_at_15 (by decide) ?_
 refine lv_goto (tgt := 45) hx hb d_Model_at_16 (by decide) ?_
 exact hk45 x1 x2 1 u _ _ _ hP hS (lv_sub hl [0, 1, 2] rfl) h
set_option maxHeartbeats 4000000 in
set_option maxRecDepth 100000 in
theorem cp_Model_at_40 {p : Program} {l : Launch} {e : Env} {s : State} {m : MethodId} {args : Array Value} {below : List Frame} {meth : Method} {c : Code} {D : va_G} {a : Nat → Nat} {cA cZ : ClassId} {G : pG} {A : Nat → Prop} {Q : Int32 → pS → Prop} (C : pw_C p s m args meth c b_Model_at 3 R_Model (some .int) w_Model_at A) (K : pw_K s D 15 a (rT cA cZ) A) {k45 : Int32 → Int32 → Int32 → pS → Prop} (hk45 : ∀ (x1 x2 y3 : Int32) (u : pS) (H : Heap) (locs : List Loc) (ls : Array Slot), va_P D vwCl (rw a cA cZ G u) H → va_S A s.heap H locs → lv_has ls 3 [(0, .ref (a 0)), (1, .int x1), (2, .int x2)] → k45 x1 x2 y3 u → W p l e ({ frames := 0, cells := 0, slots := 0, locals := 0 } : Room) s m args below meth c H locs 0 0 (pw_Ei below args s D (rw a cA cZ G) (rT cA cZ) A Q) (F0 m 45 ls [.int y3, .ref (a 0)])) : ∀ (x1 x2 : Int32) (u : pS) (H : Heap) (locs : List Loc) (ls : Array Slot), va_P D vwCl (rw a cA cZ G u) H → va_S A s.heap H locs → lv_has ls 3 [(0, .ref (a 0)), (1, .int x1), (2, .int x2)] → jn_Model_at_40 G Q k45 x1 x2 u → W p l e ({ frames := 0, cells := 0, slots := 0, locals := 0 } : Room) s m args below meth c H locs 0 0 (pw_Ei below args s D (rw a cA cZ G) (rT cA cZ) A Q) (F0 m 40 ls [.ref (a 0)]) := by
 obtain ⟨hx, hb, hr, hml, hown, hts, hlocks, hA⟩ := id C
 obtain ⟨hK, hI, hF⟩ := id K
 have hD : ∀ u, va_D A (rw a cA cZ G u) := fun u => rw_D hI hF
 intro x1 x2 u H locs ls hP hS hl h
 refine lv_iconst (v := 2) hx hb d_Model_at_40 (by decide) ?_
 refine lv_goto (tgt := 45) hx hb d_Model_at_41 (by decide) ?_
 exact hk45 x1 x2 2 u _ _ _ hP hS (lv_sub hl [0, 1, 2] rfl) h
set_option maxHeartbeats 4000000 in
set_option maxRecDepth 100000 in
theorem cp_Model_at_45 {p : Program} {l : Launch} {e : Env} {s : State} {m : MethodId} {args : Array Value} {below : List Frame} {meth : Method} {c : Code} {D : va_G} {a : Nat → Nat} {cA cZ : ClassId} {G : pG} {A : Nat → Prop} {Q : Int32 → pS → Prop} (C : pw_C p s m args meth c b_Model_at 3 R_Model (some .int) w_Model_at A) (K : pw_K s D 15 a (rT cA cZ) A) : ∀ (x1 x2 y3 : Int32) (u : pS) (H : Heap) (locs : List Loc) (ls : Array Slot), va_P D vwCl (rw a cA cZ G u) H → va_S A s.heap H locs → lv_has ls 3 [(0, .ref (a 0)), (1, .int x1), (2, .int x2)] → jn_Model_at_45 G Q x1 x2 y3 u → W p l e ({ frames := 0, cells := 0, slots := 0, locals := 0 } : Room) s m args below meth c H locs 0 0 (pw_Ei below args s D (rw a cA cZ G) (rT cA cZ) A Q) (F0 m 45 ls [.int y3, .ref (a 0)]) := by
 obtain ⟨hx, hb, hr, hml, hown, hts, hlocks, hA⟩ := id C
 obtain ⟨hK, hI, hF⟩ := id K
 have hD : ∀ u, va_D A (rw a cA cZ G u) := fun u => rw_D hI hF
 intro x1 x2 y3 u H locs ls hP hS hl h
 refine va_put (D := D) (ci := 1) (v := .int y3) (ty := .int) (C := R_Model) (T := T_Model) (N := 23) hx hb hts in_Model ty_Model tyok_Model nm_Model hown hK hP (hD _) hS 0 rw_at_0 rfl 0 (by decide) (hts _ (List.mem_cons_of_mem _ kw_835)) (fun _ h9 => h9) rfl (by decide +kernel) rfl rfl (Nat.le_of_ble_eq_true rfl) d_Model_at_45 (fun H locs hP _ hS => ?_)
 obtain ⟨u2, eu2⟩ : ∃ z, z = pw_si u 0 y3 := ⟨_, rfl⟩
 rw [rw_si_0_0, ← eu2] at hP
 have h := h u2 eu2
 refine lv_aload_n hx hb d_Model_at_48 rfl (lv_at hl 0 rfl) ?_
 refine va_get (D := D) (ci := 1) (v := .int (u2.1 0)) (C := R_Model) (T := T_Model) (N := 23) hx hb hts in_Model hown hK hP 0 rw_at_0 rfl 0 (by decide) (hts _ (List.mem_cons_of_mem _ kw_835)) (fun _ h9 => h9) rfl d_Model_at_49 ?_
 refine lv_if_le (tgt := 59) hx hb d_Model_at_52 (by decide) (fun c3 => ?_) (fun c3 => ?_)
 · have h := h.1 c3
   refine lv_iload_n hx hb d_Model_at_59 rfl (lv_at hl 2 rfl) ?_
   refine lv_if_ne (tgt := 72) hx hb d_Model_at_60 (by decide) (fun c4 => ?_) (fun c4 => ?_)
   · have h := h.2 c4
     refine lv_aload_n hx hb d_Model_at_72 rfl (lv_at hl 0 rfl) ?_
     refine va_get (D := D) (ci := 1) (v := .ref (a 11)) (C := R_Model) (T := T_Model) (N := 23) hx hb hts in_Model hown hK hP 0 rw_at_0 rfl 18 (by decide) (hts _ (List.mem_cons_of_mem _ kw_853)) (fun _ h9 => h9) rfl d_Model_at_73 ?_
     refine lv_iload_n hx hb d_Model_at_76 rfl (lv_at hl 1 rfl) ?_
     refine va_iald hx hb hK hP 11 0 rw_at_11 rfl h.1 d_Model_at_77 ?_
     have h := h.2
     exact W.iret (v := (u2.2 10 x1.toNatClampNeg)) hx hb hr (fun t ht hW => ⟨⟨(u2.2 10 x1.toNatClampNeg), u2, rfl, h, by rw [ht]; exact hP, va_K.moved hW.alike hK⟩, hS.F ht⟩) hS.2.2 d_Model_at_78 hlocks
   · have h := h.1 c4
     refine lv_aload_n hx hb d_Model_at_63 rfl (lv_at hl 0 rfl) ?_
     refine va_get (D := D) (ci := 1) (v := .ref (a 10)) (C := R_Model) (T := T_Model) (N := 23) hx hb hts in_Model hown hK hP 0 rw_at_0 rfl 17 (by decide) (hts _ (List.mem_cons_of_mem _ kw_852)) (fun _ h9 => h9) rfl d_Model_at_64 ?_
     refine lv_iload_n hx hb d_Model_at_67 rfl (lv_at hl 1 rfl) ?_
     refine va_iald hx hb hK hP 10 0 rw_at_10 rfl h.1 d_Model_at_68 ?_
     have h := h.2
     refine lv_goto (tgt := 78) hx hb d_Model_at_69 (by decide) ?_
     exact W.iret (v := (u2.2 9 x1.toNatClampNeg)) hx hb hr (fun t ht hW => ⟨⟨(u2.2 9 x1.toNatClampNeg), u2, rfl, h, by rw [ht]; exact hP, va_K.moved hW.alike hK⟩, hS.F ht⟩) hS.2.2 d_Model_at_78 hlocks
 · have h := h.2 c3
   refine lv_iconst (v := 0) hx hb d_Model_at_55 (by decide) ?_
   refine lv_goto (tgt := 78) hx hb d_Model_at_56 (by decide) ?_
   exact W.iret (v := 0) hx hb hr (fun t ht hW => ⟨⟨0, u2, rfl, h, by rw [ht]; exact hP, va_K.moved hW.alike hK⟩, hS.F ht⟩) hS.2.2 d_Model_at_78 hlocks
set_option maxHeartbeats 4000000 in
set_option maxRecDepth 100000 in
theorem st_Model_at {p : Program} {l : Launch} {e : Env} {s : State} {m : MethodId} {args : Array Value} {below : List Frame} {meth : Method} {c : Code} {D : va_G} {a : Nat → Nat} {cA cZ : ClassId} {G : pG} {A : Nat → Prop} {Q : Int32 → pS → Prop} (C : pw_C p s m args meth c b_Model_at 3 R_Model (some .int) w_Model_at A) (K : pw_K s D 15 a (rT cA cZ) A) (x1 x2 : Int32) (u : pS) (ls : Array Slot) (hP : va_P D vwCl (rw a cA cZ G u) s.heap) (hl : lv_has ls 3 [(0, .ref (a 0)), (1, .int x1), (2, .int x2)]) (h : wp_Model_at G x1 x2 u Q) : W p l e ({ frames := 0, cells := 0, slots := 0, locals := 0 } : Room) s m args below meth c s.heap [] 0 0 (pw_Ei below args s D (rw a cA cZ G) (rT cA cZ) A Q) (F0 m 0 ls []) := by
 obtain ⟨hx, hb, hr, hml, hown, hts, hlocks, hA⟩ := id C
 obtain ⟨hK, hI, hF⟩ := id K
 have hD : ∀ u, va_D A (rw a cA cZ G u) := fun u => rw_D hI hF
 have hS : va_S A s.heap s.heap [] := va_S.rf
 have h : wp_Model_at G x1 x2 u Q := h
 refine lv_aload_n hx hb d_Model_at_0 rfl (lv_at hl 0 rfl) ?_
 refine lv_aload_n hx hb d_Model_at_1 rfl (lv_at hl 0 rfl) ?_
 refine va_get (D := D) (ci := 1) (v := .int (u.1 2)) (C := R_Model) (T := T_Model) (N := 23) hx hb hts in_Model hown hK hP 0 rw_at_0 rfl 12 (by decide) (hts _ (List.mem_cons_of_mem _ kw_847)) (fun _ h9 => h9) rfl d_Model_at_2 ?_
 refine lv_if_eq (tgt := 15) hx hb d_Model_at_5 (by decide) (fun c1 => ?_) (fun c1 => ?_)
 · have h := h.1 c1
   exact cp_Model_at_15 C K (fun x1 x2 y3 u H locs ls hP hS hl h => cp_Model_at_45 C K x1 x2 y3 u H locs ls hP hS hl h) x1 x2 u _ _ _ hP hS (lv_sub hl [0, 1, 2] rfl) h
 · have h := h.2 c1
   refine lv_aload_n hx hb d_Model_at_8 rfl (lv_at hl 0 rfl) ?_
   refine va_get (D := D) (ci := 1) (v := .int (u.1 4)) (C := R_Model) (T := T_Model) (N := 23) hx hb hts in_Model hown hK hP 0 rw_at_0 rfl 16 (by decide) (hts _ (List.mem_cons_of_mem _ kw_851)) (fun _ h9 => h9) rfl d_Model_at_9 ?_
   refine lv_if_ne (tgt := 19) hx hb d_Model_at_12 (by decide) (fun c5 => ?_) (fun c5 => ?_)
   · have h := h.2 c5
     refine lv_iload_n hx hb d_Model_at_19 rfl (lv_at hl 1 rfl) ?_
     refine lv_if_lt (tgt := 40) hx hb d_Model_at_20 (by decide) (fun c6 => ?_) (fun c6 => ?_)
     · have h := h.1 c6
       exact cp_Model_at_40 C K (fun x1 x2 y3 u H locs ls hP hS hl h => cp_Model_at_45 C K x1 x2 y3 u H locs ls hP hS hl h) x1 x2 u _ _ _ hP hS (lv_sub hl [0, 1, 2] rfl) h
     · have h := h.2 c6
       refine lv_iload_n hx hb d_Model_at_23 rfl (lv_at hl 1 rfl) ?_
       refine lv_aload_n hx hb d_Model_at_24 rfl (lv_at hl 0 rfl) ?_
       refine va_get (D := D) (ci := 1) (v := .int (u.1 1)) (C := R_Model) (T := T_Model) (N := 23) hx hb hts in_Model hown hK hP 0 rw_at_0 rfl 8 (by decide) (hts _ (List.mem_cons_of_mem _ kw_843)) (fun _ h9 => h9) rfl d_Model_at_25 ?_
       refine lv_icmp_ge (tgt := 40) hx hb d_Model_at_28 (by decide) (fun c7 => ?_) (fun c7 => ?_)
       · have h := h.1 c7
         exact cp_Model_at_40 C K (fun x1 x2 y3 u H locs ls hP hS hl h => cp_Model_at_45 C K x1 x2 y3 u H locs ls hP hS hl h) x1 x2 u _ _ _ hP hS (lv_sub hl [0, 1, 2] rfl) h
       · have h := h.2 c7
         refine lv_iload_n hx hb d_Model_at_31 rfl (lv_at hl 2 rfl) ?_
         refine lv_if_lt (tgt := 40) hx hb d_Model_at_32 (by decide) (fun c8 => ?_) (fun c8 => ?_)
         · have h := h.1 c8
           exact cp_Model_at_40 C K (fun x1 x2 y3 u H locs ls hP hS hl h => cp_Model_at_45 C K x1 x2 y3 u H locs ls hP hS hl h) x1 x2 u _ _ _ hP hS (lv_sub hl [0, 1, 2] rfl) h
         · have h := h.2 c8
           refine lv_iload_n hx hb d_Model_at_35 rfl (lv_at hl 2 rfl) ?_
           refine lv_iconst (v := 1) hx hb d_Model_at_36 (by decide) ?_
           refine lv_icmp_le (tgt := 44) hx hb d_Model_at_37 (by decide) (fun c9 => ?_) (fun c9 => ?_)
           · have h := h.1 c9
             refine lv_iconst (v := 0) hx hb d_Model_at_44 (by decide) ?_
             exact cp_Model_at_45 C K x1 x2 0 u _ _ _ hP hS (lv_sub hl [0, 1, 2] rfl) h
           · have h := h.2 c9
             exact cp_Model_at_40 C K (fun x1 x2 y3 u H locs ls hP hS hl h => cp_Model_at_45 C K x1 x2 y3 u H locs ls hP hS hl h) x1 x2 u _ _ _ hP hS (lv_sub hl [0, 1, 2] rfl) h
   · have h := h.1 c5
     exact cp_Model_at_15 C K (fun x1 x2 y3 u H locs ls hP hS hl h => cp_Model_at_45 C K x1 x2 y3 u H locs ls hP hS hl h) x1 x2 u _ _ _ hP hS (lv_sub hl [0, 1, 2] rfl) h
set_option maxHeartbeats 4000000 in
set_option maxRecDepth 100000 in
theorem ct_Model_at (l : Launch) (D : va_G) (a : Nat → Nat) (cA cZ : ClassId) (G : pG) (sz : Nat) (x1 x2 : Int32) (u : pS) (Q : Int32 → pS → Prop) (hI : pw_I 15 a) (h : wp_Model_at G x1 x2 u Q) : Met l y_Model_at w_Model_at ({ frames := 0, cells := 0, slots := 0, locals := 0 } : Room) (va_Pc [.ref (a 0), .int x1, .int x2] (pw_pre D (rw a cA cZ G) (rT cA cZ) sz u)) (va_Qi (fun (r : Int32) (u : pS) => Q r u) (pw_B D (rw a cA cZ G) (rT cA cZ)) (pw_F 15 a sz)) 0 0 (pw_F 15 a sz) := by
 refine Met.ofW (cc := b_Model_at) (maxL := 3) (ret := (some .int)) (by decide) rfl ?_
 intro p e s m args below meth c s₁ B hml hv
 obtain ⟨rfl, hsz, hP, hK⟩ := hv
 subst hsz
 have hl := lv_entry ([.ref (a 0), .int x1, .int x2]) (n := 3) (Nat.le_of_ble_eq_true rfl)
 rw [lg_entry_eq]
 generalize (lg_sl ([.ref (a 0), .int x1, .int x2]) ++ List.replicate (3 - (lg_sl ([.ref (a 0), .int x1, .int x2])).length) Slot.unset).toArray = ls at hl ⊢
 exact st_Model_at (A := (pw_F 15 a s.heap.size)) ⟨B.exec, B.bytes, B.returns, hml, findClass_of_methodNamed B.named, atoms_spec (ws := w_Model_at) B.pre, B.notSynchronized, fun q hq => Or.inr hq⟩ ⟨hK, hI, fun k hk => Or.inl ⟨k, hk, rfl⟩⟩ x1 x2 u ls hP hl h
