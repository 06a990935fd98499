set_option maxHeartbeats 4000000 in
set_option maxRecDepth 100000 in
theorem cp_Model_lay_121 {p : Program} {l : Launch} {e : Env} {s : State} {m : MethodId} {args : Array Value} {below : List Frame} {meth : Method} {c : Code} {D : va_G} {a : Nat → Nat} {cA cZ : ClassId} {G : pG} {A : Nat → Prop} {Q : Int32 → pS → Prop} (C : pw_C p s m args meth c b_Model_lay 8 R_Model (some .boolean) w_Model_lay A) (K : pw_K s D 15 a (rT cA cZ) A) {k176 : Int32 → Int32 → Int32 → pS → Prop} (hk176 : ∀ (x1 x4 x6 : Int32) (u : pS) (H : Heap) (locs : List Loc) (ls : Array Slot), va_P D vwCl (rw a cA cZ G u) H → va_S A s.heap H locs → lv_has ls 8 [(0, .ref (a 0)), (1, .int x1), (4, .int x4), (6, .int x6)] → k176 x1 x4 x6 u → W p l e ({ frames := 1, cells := 0, slots := 0, locals := 25 } : Room) s m args below meth c H locs 0 0 (pw_Ei below args s D (rw a cA cZ G) (rT cA cZ) A Q) (F0 m 176 ls [])) : ∀ (x1 x2 x3 x4 x5 x6 y7 : Int32) (u : pS) (H : Heap) (locs : List Loc) (ls : Array Slot), va_P D vwCl (rw a cA cZ G u) H → va_S A s.heap H locs → lv_has ls 8 [(0, .ref (a 0)), (1, .int x1), (2, .int x2), (3, .int x3), (4, .int x4), (5, .int x5), (6, .int x6)] → jn_Model_lay_121 G Q k176 x1 x2 x3 x4 x5 x6 y7 u → W p l e ({ frames := 1, cells := 0, slots := 0, locals := 25 } : Room) s m args below meth c H locs 0 0 (pw_Ei below args s D (rw a cA cZ G) (rT cA cZ) A Q) (F0 m 121 ls [.int y7]) := by
 obtain ⟨hx, hb, hr, hml, hown, hts, hlocks, hA⟩ := id C
 obtain ⟨hK, hI, hF⟩ := id K
 have hD : ∀ u, va_D A (rw a cA cZ G u) := fun u => rw_D hI hF
 intro x1 x2 x3 x4 x5 x6 y7 u H locs ls hP hS hl h
 refine lv_istore (lv' := [(7, .int y7), (0, .ref (a 0)), (1, .int x1), (2, .int x2), (3, .int x3), (4, .int x4), (5, .int x5), (6, .int x6)]) hx hb d_Model_lay_121 hl (by decide) rfl (fun ls hl => ?_)
 refine lv_iload hx hb d_Model_lay_123 (lv_at hl 5 rfl) ?_
 refine lv_iload_n hx hb d_Model_lay_125 rfl (lv_at hl 3 rfl) ?_
 refine lv_icmp_gt (tgt := 138) hx hb d_Model_lay_126 (by decide) (fun c17 => ?_) (fun c17 => ?_)
 · have h := h.1 c17
   refine lv_iconst (v := 0) hx hb d_Model_lay_138 (by decide) ?_
   exact W.zret (v := 0) hx hb hr rfl (fun t ht hW => ⟨⟨0, u, rfl, h, by rw [ht]; exact hP, va_K.moved hW.alike hK⟩, hS.F ht⟩) hS.2.2 d_Model_lay_139 hlocks
 · have h := h.2 c17
   refine lv_iload hx hb d_Model_lay_129 (lv_at hl 0 rfl) ?_
   refine lv_iload hx hb d_Model_lay_131 (lv_at hl 6 rfl) ?_
   refine lv_iadd hx hb d_Model_lay_133 ?_
   refine lv_iload_n hx hb d_Model_lay_134 rfl (lv_at hl 4 rfl) ?_
   refine lv_icmp_le (tgt := 140) hx hb d_Model_lay_135 (by decide) (fun c18 => ?_) (fun c18 => ?_)
   · have h := h.1 c18
     refine lv_aload_n hx hb d_Model_lay_140 rfl (lv_at hl 1 rfl) ?_
     refine va_get (D := D) (ci := 1) (v := .ref (a 12)) (C := R_Model) (T := T_Model) (N := 23) hx hb hts in_Model hown hK hP 0 rw_at_0 rfl 20 (by decide) (hts _ (List.mem_cons_of_mem _ kw_855)) (fun _ h9 => h9) rfl d_Model_lay_141 ?_
     refine lv_iload hx hb d_Model_lay_144 (lv_at hl 7 rfl) ?_
     refine lv_iload hx hb d_Model_lay_146 (lv_at hl 0 rfl) ?_
     refine va_iast hx hb hK hP (hD _) hS 12 0 rw_at_12 rfl h.1 d_Model_lay_148 (fun H locs hP _ hS => ?_)
     obtain ⟨u19, eu19⟩ : ∃ z, z = pw_sa u 11 (upd (u.2 11) x6.toNatClampNeg y7) := ⟨_, rfl⟩
     rw [rw_sa_12, ← eu19] at hP
     have h := h.2 u19 eu19
     refine lv_aload_n hx hb d_Model_lay_149 rfl (lv_at hl 1 rfl) ?_
     refine va_get (D := D) (ci := 1) (v := .ref (a 13)) (C := R_Model) (T := T_Model) (N := 23) hx hb hts in_Model hown hK hP 0 rw_at_0 rfl 21 (by decide) (hts _ (List.mem_cons_of_mem _ kw_856)) (fun _ h9 => h9) rfl d_Model_lay_150 ?_
     refine lv_iload hx hb d_Model_lay_153 (lv_at hl 7 rfl) ?_
     refine lv_iload hx hb d_Model_lay_155 (lv_at hl 6 rfl) ?_
     refine va_iast hx hb hK hP (hD _) hS 13 0 rw_at_13 rfl h.1 d_Model_lay_157 (fun H locs hP _ hS => ?_)
     obtain ⟨u20, eu20⟩ : ∃ z, z = pw_sa u19 12 (upd (u19.2 12) x6.toNatClampNeg x5) := ⟨_, rfl⟩
     rw [rw_sa_13, ← eu20] at hP
     have h := h.2 u20 eu20
     refine lv_aload_n hx hb d_Model_lay_158 rfl (lv_at hl 1 rfl) ?_
     refine va_get (D := D) (ci := 1) (v := .ref (a 14)) (C := R_Model) (T := T_Model) (N := 23) hx hb hts in_Model hown hK hP 0 rw_at_0 rfl 22 (by decide) (hts _ (List.mem_cons_of_mem _ kw_857)) (fun _ h9 => h9) rfl d_Model_lay_159 ?_
     refine lv_iload hx hb d_Model_lay_162 (lv_at hl 7 rfl) ?_
     refine lv_iconst (v := 0) hx hb d_Model_lay_164 (by decide) ?_
     refine va_iast hx hb hK hP (hD _) hS 14 0 rw_at_14 rfl h.1 d_Model_lay_165 (fun H locs hP _ hS => ?_)
     obtain ⟨u21, eu21⟩ : ∃ z, z = pw_sa u20 13 (upd (u20.2 13) x6.toNatClampNeg 0) := ⟨_, rfl⟩
     rw [rw_sa_14, ← eu21] at hP
     have h := h.2 u21 eu21
     refine lv_aload_n hx hb d_Model_lay_166 rfl (lv_at hl 1 rfl) ?_
     refine lv_dup hx hb d_Model_lay_167 rfl ?_
     refine va_get (D := D) (ci := 1) (v := .int (u21.1 5)) (C := R_Model) (T := T_Model) (N := 23) hx hb hts in_Model hown hK hP 0 rw_at_0 rfl 19 (by decide) (hts _ (List.mem_cons_of_mem _ kw_854)) (fun _ h9 => h9) rfl d_Model_lay_168 ?_
     refine lv_iconst (v := 1) hx hb d_Model_lay_171 (by decide) ?_
     refine lv_iadd hx hb d_Model_lay_172 ?_
     refine va_put (D := D) (ci := 1) (v := .int ((u21.1 5) + 1)) (ty := .int) (C := R_Model) (T := T_Model) (N := 23) hx hb hts in_Model ty_Model tyok_Model nm_Model hown hK hP (hD _) hS 0 rw_at_0 rfl 19 (by decide) (hts _ (List.mem_cons_of_mem _ kw_854)) (fun _ h9 => h9) rfl (by decide +kernel) rfl rfl (Nat.le_of_ble_eq_true rfl) d_Model_lay_173 (fun H locs hP _ hS => ?_)
     obtain ⟨u22, eu22⟩ : ∃ z, z = pw_si u21 5 ((u21.1 5) + 1) := ⟨_, rfl⟩
     rw [rw_si_0_19, ← eu22] at hP
     have h := h u22 eu22
     exact hk176 x1 x4 x6 u22 _ _ _ hP hS (lv_sub hl [1, 2, 5, 7] rfl) h
   · have h := h.2 c18
     refine lv_iconst (v := 0) hx hb d_Model_lay_138 (by decide) ?_
     exact W.zret (v := 0) hx hb hr rfl (fun t ht hW => ⟨⟨0, u, rfl, h, by rw [ht]; exact hP, va_K.moved hW.alike hK⟩, hS.F ht⟩) hS.2.2 d_Model_lay_139 hlocks
set_option maxHeartbeats 4000000 in
set_option maxRecDepth 100000 in
theorem cp_Model_lay_176 {p : Program} {l : Launch} {e : Env} {s : State} {m : MethodId} {args : Array Value} {below : List Frame} {meth : Method} {c : Code} {D : va_G} {a : Nat → Nat} {cA cZ : ClassId} {G : pG} {A : Nat → Prop} {Q : Int32 → pS → Prop} (C : pw_C p s m args meth c b_Model_lay 8 R_Model (some .boolean) w_Model_lay A) (K : pw_K s D 15 a (rT cA cZ) A) : ∀ (x1 x4 x6 : Int32) (u : pS) (H : Heap) (locs : List Loc) (ls : Array Slot), va_P D vwCl (rw a cA cZ G u) H → va_S A s.heap H locs → lv_has ls 8 [(0, .ref (a 0)), (1, .int x1), (4, .int x4), (6, .int x6)] → jn_Model_lay_176 G Q x1 x4 x6 u → W p l e ({ frames := 1, cells := 0, slots := 0, locals := 25 } : Room) s m args below meth c H locs 0 0 (pw_Ei below args s D (rw a cA cZ G) (rT cA cZ) A Q) (F0 m 176 ls []) := by
 obtain ⟨hx, hb, hr, hml, hown, hts, hlocks, hA⟩ := id C
 obtain ⟨hK, hI, hF⟩ := id K
 have hD : ∀ u, va_D A (rw a cA cZ G u) := fun u => rw_D hI hF
 intro x1 x4 x6 u H locs ls hP hS hl h
 refine lv_aload_n hx hb d_Model_lay_176 rfl (lv_at hl 0 rfl) ?_
 refine va_get (D := D) (ci := 1) (v := .ref (a 10)) (C := R_Model) (T := T_Model) (N := 23) hx hb hts in_Model hown hK hP 0 rw_at_0 rfl 17 (by decide) (hts _ (List.mem_cons_of_mem _ kw_852)) (fun _ h9 => h9) rfl d_Model_lay_177 ?_
 refine lv_iload_n hx hb d_Model_lay_180 rfl (lv_at hl 1 rfl) ?_
 refine lv_aload_n hx hb d_Model_lay_181 rfl (lv_at hl 0 rfl) ?_
 refine va_get (D := D) (ci := 1) (v := .ref (a 14)) (C := R_Model) (T := T_Model) (N := 23) hx hb hts in_Model hown hK hP 0 rw_at_0 rfl 22 (by decide) (hts _ (List.mem_cons_of_mem _ kw_857)) (fun _ h9 => h9) rfl d_Model_lay_182 ?_
 refine lv_iload hx hb d_Model_lay_185 (lv_at hl 3 rfl) ?_
 refine va_iald hx hb hK hP 14 0 rw_at_14 rfl h.1 d_Model_lay_187 ?_
 have h := h.2
 refine va_iast hx hb hK hP (hD _) hS 10 0 rw_at_10 rfl h.1 d_Model_lay_188 (fun H locs hP _ hS => ?_)
 obtain ⟨u13, eu13⟩ : ∃ z, z = pw_sa u 9 (upd (u.2 9) x1.toNatClampNeg (u.2 13 x6.toNatClampNeg)) := ⟨_, rfl⟩
 rw [rw_sa_10, ← eu13] at hP
 have h := h.2 u13 eu13
 refine lv_aload_n hx hb d_Model_lay_189 rfl (lv_at hl 0 rfl) ?_
 refine va_get (D := D) (ci := 1) (v := .ref (a 11)) (C := R_Model) (T := T_Model) (N := 23) hx hb hts in_Model hown hK hP 0 rw_at_0 rfl 18 (by decide) (hts _ (List.mem_cons_of_mem _ kw_853)) (fun _ h9 => h9) rfl d_Model_lay_190 ?_
 refine lv_iload_n hx hb d_Model_lay_193 rfl (lv_at hl 1 rfl) ?_
 refine lv_aload_n hx hb d_Model_lay_194 rfl (lv_at hl 0 rfl) ?_
 refine va_get (D := D) (ci := 1) (v := .ref (a 12)) (C := R_Model) (T := T_Model) (N := 23) hx hb hts in_Model hown hK hP 0 rw_at_0 rfl 20 (by decide) (hts _ (List.mem_cons_of_mem _ kw_855)) (fun _ h9 => h9) rfl d_Model_lay_195 ?_
 refine lv_iload hx hb d_Model_lay_198 (lv_at hl 3 rfl) ?_
 refine va_iald hx hb hK hP 12 0 rw_at_12 rfl h.1 d_Model_lay_200 ?_
 have h := h.2
 refine va_iast hx hb hK hP (hD _) hS 11 0 rw_at_11 rfl h.1 d_Model_lay_201 (fun H locs hP _ hS => ?_)
 obtain ⟨u14, eu14⟩ : ∃ z, z = pw_sa u13 10 (upd (u13.2 10) x1.toNatClampNeg (u13.2 11 x6.toNatClampNeg)) := ⟨_, rfl⟩
 rw [rw_sa_11, ← eu14] at hP
 have h := h.2 u14 eu14
 refine lv_aload_n hx hb d_Model_lay_202 rfl (lv_at hl 0 rfl) ?_
 refine va_get (D := D) (ci := 1) (v := .ref (a 14)) (C := R_Model) (T := T_Model) (N := 23) hx hb hts in_Model hown hK hP 0 rw_at_0 rfl 22 (by decide) (hts _ (List.mem_cons_of_mem _ kw_857)) (fun _ h9 => h9) rfl d_Model_lay_203 ?_
 refine lv_iload hx hb d_Model_lay_206 (lv_at hl 3 rfl) ?_
 refine lv_aload_n hx hb d_Model_lay_208 rfl (lv_at hl 0 rfl) ?_
 refine va_get (D := D) (ci := 1) (v := .ref (a 14)) (C := R_Model) (T := T_Model) (N := 23) hx hb hts in_Model hown hK hP 0 rw_at_0 rfl 22 (by decide) (hts _ (List.mem_cons_of_mem _ kw_857)) (fun _ h9 => h9) rfl d_Model_lay_209 ?_
 refine lv_iload hx hb d_Model_lay_212 (lv_at hl 3 rfl) ?_
 refine va_iald hx hb hK hP 14 0 rw_at_14 rfl h.1 d_Model_lay_214 ?_
 have h := h.2
 refine lv_iload hx hb d_Model_lay_215 (lv_at hl 2 rfl) ?_
 refine lv_iadd hx hb d_Model_lay_217 ?_
 refine va_iast hx hb hK hP (hD _) hS 14 0 rw_at_14 rfl h.1 d_Model_lay_218 (fun H locs hP _ hS => ?_)
 obtain ⟨u15, eu15⟩ : ∃ z, z = pw_sa u14 13 (upd (u14.2 13) x6.toNatClampNeg ((u14.2 13 x6.toNatClampNeg) + x4)) := ⟨_, rfl⟩
 rw [rw_sa_14, ← eu15] at hP
 have h := h.2 u15 eu15
 refine lv_iconst (v := 1) hx hb d_Model_lay_219 (by decide) ?_
 exact W.zret (v := 1) hx hb hr rfl (fun t ht hW => ⟨⟨1, u15, rfl, h, by rw [ht]; exact hP, va_K.moved hW.alike hK⟩, hS.F ht⟩) hS.2.2 d_Model_lay_220 hlocks
set_option maxHeartbeats 4000000 in
set_option maxRecDepth 100000 in
theorem cp_Model_lay_78 {p : Program} {l : Launch} {e : Env} {s : State} {m : MethodId} {args : Array Value} {below : List Frame} {meth : Method} {c : Code} {D : va_G} {a : Nat → Nat} {cA cZ : ClassId} {G : pG} {A : Nat → Prop} {Q : Int32 → pS → Prop} (C : pw_C p s m args meth c b_Model_lay 8 R_Model (some .boolean) w_Model_lay A) (K : pw_K s D 15 a (rT cA cZ) A) : ∀ (x1 x2 x3 x4 x5 x6 : Int32) (u : pS) (H : Heap) (locs : List Loc) (ls : Array Slot), va_P D vwCl (rw a cA cZ G u) H → va_S A s.heap H locs → lv_has ls 8 [(0, .ref (a 0)), (1, .int x1), (2, .int x2), (3, .int x3), (4, .int x4), (5, .int x5), (6, .int x6)] → jn_Model_lay_78 G Q x1 x2 x3 x4 x5 x6 u → W p l e ({ frames := 1, cells := 0, slots := 0, locals := 25 } : Room) s m args below meth c H locs 0 0 (pw_Ei below args s D (rw a cA cZ G) (rT cA cZ) A Q) (F0 m 78 ls []) := by
 obtain ⟨hx, hb, hr, hml, hown, hts, hlocks, hA⟩ := id C
 obtain ⟨hK, hI, hF⟩ := id K
 have hD : ∀ u, va_D A (rw a cA cZ G u) := fun u => rw_D hI hF
 intro x1 x2 x3 x4 x5 x6 u H locs ls hP hS hl h
 refine lv_iload hx hb d_Model_lay_78 (lv_at hl 6 rfl) ?_
 refine lv_aload_n hx hb d_Model_lay_80 rfl (lv_at hl 0 rfl) ?_
 refine va_get (D := D) (ci := 1) (v := .int (u.1 5)) (C := R_Model) (T := T_Model) (N := 23) hx hb hts in_Model hown hK hP 0 rw_at_0 rfl 19 (by decide) (hts _ (List.mem_cons_of_mem _ kw_854)) (fun _ h9 => h9) rfl d_Model_lay_81 ?_
 refine lv_icmp_ne (tgt := 176) hx hb d_Model_lay_84 (by decide) (fun c12 => ?_) (fun c12 => ?_)
 · have h := h.2 c12
   exact cp_Model_lay_176 C K x1 x4 x6 u _ _ _ hP hS (lv_sub hl [0, 1, 4, 6] rfl) h
 · have h := h.1 c12
   refine lv_aload_n hx hb d_Model_lay_87 rfl (lv_at hl 0 rfl) ?_
   refine va_get (D := D) (ci := 1) (v := .int (u.1 5)) (C := R_Model) (T := T_Model) (N := 23) hx hb hts in_Model hown hK hP 0 rw_at_0 rfl 19 (by decide) (hts _ (List.mem_cons_of_mem _ kw_854)) (fun _ h9 => h9) rfl d_Model_lay_88 ?_
   refine lv_if_ne (tgt := 98) hx hb d_Model_lay_91 (by decide) (fun c16 => ?_) (fun c16 => ?_)
   · have h := h.2 c16
     refine lv_aload_n hx hb d_Model_lay_98 rfl (lv_at hl 0 rfl) ?_
     refine va_get (D := D) (ci := 1) (v := .ref (a 12)) (C := R_Model) (T := T_Model) (N := 23) hx hb hts in_Model hown hK hP 0 rw_at_0 rfl 20 (by decide) (hts _ (List.mem_cons_of_mem _ kw_855)) (fun _ h9 => h9) rfl d_Model_lay_99 ?_
     refine lv_aload_n hx hb d_Model_lay_102 rfl (lv_at hl 0 rfl) ?_
     refine va_get (D := D) (ci := 1) (v := .int (u.1 5)) (C := R_Model) (T := T_Model) (N := 23) hx hb hts in_Model hown hK hP 0 rw_at_0 rfl 19 (by decide) (hts _ (List.mem_cons_of_mem _ kw_854)) (fun _ h9 => h9) rfl d_Model_lay_103 ?_
     refine lv_iconst (v := 1) hx hb d_Model_lay_106 (by decide) ?_
     refine lv_isub hx hb d_Model_lay_107 ?_
     refine va_iald hx hb hK hP 12 0 rw_at_12 rfl h.1 d_Model_lay_108 ?_
     have h := h.2
     refine lv_aload_n hx hb d_Model_lay_109 rfl (lv_at hl 0 rfl) ?_
     refine va_get (D := D) (ci := 1) (v := .ref (a 13)) (C := R_Model) (T := T_Model) (N := 23) hx hb hts in_Model hown hK hP 0 rw_at_0 rfl 21 (by decide) (hts _ (List.mem_cons_of_mem _ kw_856)) (fun _ h9 => h9) rfl d_Model_lay_110 ?_
     refine lv_aload_n hx hb d_Model_lay_113 rfl (lv_at hl 0 rfl) ?_
     refine va_get (D := D) (ci := 1) (v := .int (u.1 5)) (C := R_Model) (T := T_Model) (N := 23) hx hb hts in_Model hown hK hP 0 rw_at_0 rfl 19 (by decide) (hts _ (List.mem_cons_of_mem _ kw_854)) (fun _ h9 => h9) rfl d_Model_lay_114 ?_
     refine lv_iconst (v := 1) hx hb d_Model_lay_117 (by decide) ?_
     refine lv_isub hx hb d_Model_lay_118 ?_
     refine va_iald hx hb hK hP 13 0 rw_at_13 rfl h.1 d_Model_lay_119 ?_
     have h := h.2
     refine lv_iadd hx hb d_Model_lay_120 ?_
     exact cp_Model_lay_121 C K (fun x1 x4 x6 u H locs ls hP hS hl h => cp_Model_lay_176 C K x1 x4 x6 u H locs ls hP hS hl h) x1 x2 x3 x4 x5 x6 ((u.2 11 ((u.1 5) - 1).toNatClampNeg) + (u.2 12 ((u.1 5) - 1).toNatClampNeg)) u _ _ _ hP hS (lv_sub hl [0, 1, 2, 3, 4, 5, 6] rfl) h
   · have h := h.1 c16
     refine lv_iconst (v := 0) hx hb d_Model_lay_94 (by decide) ?_
     refine lv_goto (tgt := 121) hx hb d_Model_lay_95 (by decide) ?_
     exact cp_Model_lay_121 C K (fun x1 x4 x6 u H locs ls hP hS hl h => cp_Model_lay_176 C K x1 x4 x6 u H locs ls hP hS hl h) x1 x2 x3 x4 x5 x6 0 u _ _ _ hP hS (lv_sub hl [0, 1, 2, 3, 4, 5, 6] rfl) h
set_option maxHeartbeats 4000000 in
set_option maxRecDepth 100000 in
theorem cp_Model_lay_37 {p : Program} {l : Launch} {e : Env} {s : State} {m : MethodId} {args : Array Value} {below : List Frame} {meth : Method} {c : Code} {D : va_G} {a : Nat → Nat} {cA cZ : ClassId} {G : pG} {A : Nat → Prop} {Q : Int32 → pS → Prop} (C : pw_C p s m args meth c b_Model_lay 8 R_Model (some .boolean) w_Model_lay A) (K : pw_K s D 15 a (rT cA cZ) A) : ∀ (n : Nat), ∀ (x1 x2 x3 x4 x5 x6 : Int32) (u : pS) (H : Heap) (locs : List Loc) (ls : Array Slot), va_P D vwCl (rw a cA cZ G u) H → va_S A s.heap H locs → lv_has ls 8 [(0, .ref (a 0)), (1, .int x1), (2, .int x2), (3, .int x3), (4, .int x4), (5, .int x5), (6, .int x6)] → lp_Model_lay_37 G Q n x1 x2 x3 x4 x5 x6 u → W p l e ({ frames := 1, cells := 0, slots := 0, locals := 25 } : Room) s m args below meth c H locs 0 0 (pw_Ei below args s D (rw a cA cZ G) (rT cA cZ) A Q) (F0 m 37 ls []) := by
 obtain ⟨hx, hb, hr, hml, hown, hts, hlocks, hA⟩ := id C
 obtain ⟨hK, hI, hF⟩ := id K
 have hD : ∀ u, va_D A (rw a cA cZ G u) := fun u => rw_D hI hF
 intro n
 induction n with
 | zero => intro x1 x2 x3 x4 x5 x6 u H locs ls hP hS hl h; exact h.elim
 | succ n ih =>
   intro x1 x2 x3 x4 x5 x6 u H locs ls hP hS hl h
   refine lv_iload hx hb d_Model_lay_37 (lv_at hl 6 rfl) ?_
   refine lv_aload_n hx hb d_Model_lay_39 rfl (lv_at hl 0 rfl) ?_
   refine va_get (D := D) (ci := 1) (v := .int (u.1 5)) (C := R_Model) (T := T_Model) (N := 23) hx hb hts in_Model hown hK hP 0 rw_at_0 rfl 19 (by decide) (hts _ (List.mem_cons_of_mem _ kw_854)) (fun _ h9 => h9) rfl d_Model_lay_40 ?_
   refine lv_icmp_ge (tgt := 78) hx hb d_Model_lay_43 (by decide) (fun c11 => ?_) (fun c11 => ?_)
   · have h := h.1 c11
     exact cp_Model_lay_78 C K x1 x2 x3 x4 x5 x6 u _ _ _ hP hS (lv_sub hl [0, 1, 2, 3, 4, 5, 6] rfl) h
   · have h := h.2 c11
     refine lv_aload_n hx hb d_Model_lay_46 rfl (lv_at hl 0 rfl) ?_
     refine va_get (D := D) (ci := 1) (v := .ref (a 14)) (C := R_Model) (T := T_Model) (N := 23) hx hb hts in_Model hown hK hP 0 rw_at_0 rfl 22 (by decide) (hts _ (List.mem_cons_of_mem _ kw_857)) (fun _ h9 => h9) rfl d_Model_lay_47 ?_
     refine lv_iload hx hb d_Model_lay_50 (lv_at hl 6 rfl) ?_
     refine va_iald hx hb hK hP 14 0 rw_at_14 rfl h.1 d_Model_lay_52 ?_
     have h := h.2
     refine lv_iload hx hb d_Model_lay_53 (lv_at hl 4 rfl) ?_
     refine lv_iadd hx hb d_Model_lay_55 ?_
     refine lv_iload_n hx hb d_Model_lay_56 rfl (lv_at hl 2 rfl) ?_
     refine lv_icmp_gt (tgt := 72) hx hb d_Model_lay_57 (by decide) (fun c23 => ?_) (fun c23 => ?_)
     · have h := h.1 c23
       obtain ⟨t24, et24⟩ : ∃ y : Int32, y = x6 + 1 := ⟨_, rfl⟩
       have h := h t24 et24
       refine lv_iinc (v := t24) (lv' := [(6, .int t24), (0, .ref (a 0)), (1, .int x1), (2, .int x2), (3, .int x3), (4, .int x4), (5, .int x5)]) hx hb d_Model_lay_72 hl (k := 6) rfl (by rw [et24]; rfl) (by decide) rfl (fun ls hl => ?_)
       refine lv_goto (tgt := 37) hx hb d_Model_lay_75 (by decide) ?_
       exact ih x1 x2 x3 x4 x5 t24 u _ _ _ hP hS (lv_sub hl [1, 2, 3, 4, 5, 6, 0] rfl) h
     · have h := h.2 c23
       refine lv_iload hx hb d_Model_lay_60 (lv_at hl 5 rfl) ?_
       refine lv_aload_n hx hb d_Model_lay_62 rfl (lv_at hl 0 rfl) ?_
       refine va_get (D := D) (ci := 1) (v := .ref (a 13)) (C := R_Model) (T := T_Model) (N := 23) hx hb hts in_Model hown hK hP 0 rw_at_0 rfl 21 (by decide) (hts _ (List.mem_cons_of_mem _ kw_856)) (fun _ h9 => h9) rfl d_Model_lay_63 ?_
       refine lv_iload hx hb d_Model_lay_66 (lv_at hl 6 rfl) ?_
       refine va_iald hx hb hK hP 13 0 rw_at_13 rfl h.1 d_Model_lay_68 ?_
       have h := h.2
       refine lv_icmp_le (tgt := 78) hx hb d_Model_lay_69 (by decide) (fun c25 => ?_) (fun c25 => ?_)
       · have h := h.1 c25
         exact cp_Model_lay_78 C K x1 x2 x3 x4 x5 x6 u _ _ _ hP hS (lv_sub hl [0, 1, 2, 3, 4, 5, 6] rfl) h
       · have h := h.2 c25
         obtain ⟨t26, et26⟩ : ∃ y : Int32, y = x6 + 1 := ⟨_, rfl⟩
         have h := h t26 et26
         refine lv_iinc (v := t26) (lv' := [(6, .int t26), (0, .ref (a 0)), (1, .int x1), (2, .int x2), (3, .int x3), (4, .int x4), (5, .int x5)]) hx hb d_Model_lay_72 hl (k := 6) rfl (by rw [et26]; rfl) (by decide) rfl (fun ls hl => ?_)
         refine lv_goto (tgt := 37) hx hb d_Model_lay_75 (by decide) ?_
         exact ih x1 x2 x3 x4 x5 t26 u _ _ _ hP hS (lv_sub hl [1, 2, 3, 4, 5, 6, 0] rfl) h
set_option maxHeartbeats 4000000 in
set_option maxRecDepth 100000 in
theorem st_Model_lay {p : Program} {l : Launch} {e : Env} {s : State} {m : MethodId} {args : Array Value} {below : List Frame} {meth : Method} {c : Code} {D : va_G} {a : Nat → Nat} {cA cZ : ClassId} {G : pG} {A : Nat → Prop} {Q : Int32 → pS → Prop} (C : pw_C p s m args meth c b_Model_lay 8 R_Model (some .boolean) w_Model_lay A) (K : pw_K s D 15 a (rT cA cZ) A) (x1 x2 x3 : Int32) (u : pS) (ls : Array Slot) (hP : va_P D vwCl (rw a cA cZ G u) s.heap) (hl : lv_has ls 8 [(0, .ref (a 0)), (1, .int x1), (2, .int x2), (3, .int x3)]) (h : wp_Model_lay G x1 x2 x3 u Q) : W p l e ({ frames := 1, cells := 0, slots := 0, locals := 25 } : Room) s m args below meth c s.heap [] 0 0 (pw_Ei below args s D (rw a cA cZ G) (rT cA cZ) A Q) (F0 m 0 ls []) := by
 obtain ⟨hx, hb, hr, hml, hown, hts, hlocks, hA⟩ := id C
 obtain ⟨hK, hI, hF⟩ := id K
 have hD : ∀ u, va_D A (rw a cA cZ G u) := fun u => rw_D hI hF
 have hS : va_S A s.heap s.heap [] := va_S.rf
 have h : wp_Model_lay G x1 x2 x3 u Q := h
 refine lv_aload_n hx hb d_Model_lay_0 rfl (lv_at hl 0 rfl) ?_
 refine lv_iload_n hx hb d_Model_lay_1 rfl (lv_at hl 1 rfl) ?_
 refine lv_iconst (v := 2) hx hb d_Model_lay_2 (by decide) ?_
 refine cc_i (va_runV (As := [.int x1, .int 2]) (rest := []) ⟨hx, hb, hml, hown, hts⟩ (ct_Model_end l D a cA cZ G _ x1 2 u _ hI h) (pw_cwV 2 hts kw_975 kw_57 kw_972 kw_974 kw_33 (by decide +kernel) ⟨Nat.le_of_ble_eq_true rfl, Nat.le_of_ble_eq_true rfl⟩) ⟨pw_blind, va_recv hK hP (ci := 1) (q0 := 0) rfl rw_at_0, fun U hU hW => ⟨rfl, by rw [hU], by rw [hU]; exact hP, va_K.moved hW.alike hK⟩⟩ rfl rfl hl.1 rfl (lv_room (Nat.le_of_ble_eq_true rfl)) d_Model_lay_3 ⟨Nat.le_of_ble_eq_true rfl, Nat.le_of_ble_eq_true rfl⟩) hS hF hA (fun r2 u1 H locs hP hS h => ?_)
 refine lv_aload_n hx hb d_Model_lay_6 rfl (lv_at hl 0 rfl) ?_
 refine lv_iload_n hx hb d_Model_lay_7 rfl (lv_at hl 1 rfl) ?_
 refine lv_iconst (v := 0) hx hb d_Model_lay_8 (by decide) ?_
 refine cc_i (va_runV (As := [.int x1, .int 0]) (rest := [.int r2]) ⟨hx, hb, hml, hown, hts⟩ (ct_Model_end l D a cA cZ G _ x1 0 u1 _ hI h) (pw_cwV 2 hts kw_975 kw_57 kw_972 kw_974 kw_33 (by decide +kernel) ⟨Nat.le_of_ble_eq_true rfl, Nat.le_of_ble_eq_true rfl⟩) ⟨pw_blind, va_recv hK hP (ci := 1) (q0 := 0) rfl rw_at_0, fun U hU hW => ⟨rfl, by rw [hU], by rw [hU]; exact hP, va_K.moved hW.alike hK⟩⟩ rfl rfl hl.1 rfl (lv_room (Nat.le_of_ble_eq_true rfl)) d_Model_lay_9 ⟨Nat.le_of_ble_eq_true rfl, Nat.le_of_ble_eq_true rfl⟩) hS hF hA (fun r4 u3 H locs hP hS h => ?_)
 refine lv_isub hx hb d_Model_lay_12 ?_
 refine lv_iconst (v := 1) hx hb d_Model_lay_13 (by decide) ?_
 refine lv_iadd hx hb d_Model_lay_14 ?_
 refine lv_topi (fun t5 et5 => ?_)
 have h := h t5 et5
 refine lv_istore (lv' := [(4, .int t5), (0, .ref (a 0)), (1, .int x1), (2, .int x2), (3, .int x3)]) hx hb d_Model_lay_15 hl (by decide) rfl (fun ls hl => ?_)
 refine lv_aload_n hx hb d_Model_lay_17 rfl (lv_at hl 1 rfl) ?_
 refine lv_iload_n hx hb d_Model_lay_18 rfl (lv_at hl 2 rfl) ?_
 refine lv_iconst (v := 3) hx hb d_Model_lay_19 (by decide) ?_
 refine cc_i (va_runV (As := [.int x1, .int 3]) (rest := []) ⟨hx, hb, hml, hown, hts⟩ (ct_Model_end l D a cA cZ G _ x1 3 u3 _ hI h) (pw_cwV 2 hts kw_975 kw_57 kw_972 kw_974 kw_33 (by decide +kernel) ⟨Nat.le_of_ble_eq_true rfl, Nat.le_of_ble_eq_true rfl⟩) ⟨pw_blind, va_recv hK hP (ci := 1) (q0 := 0) rfl rw_at_0, fun U hU hW => ⟨rfl, by rw [hU], by rw [hU]; exact hP, va_K.moved hW.alike hK⟩⟩ rfl rfl hl.1 rfl (lv_room (Nat.le_of_ble_eq_true rfl)) d_Model_lay_20 ⟨Nat.le_of_ble_eq_true rfl, Nat.le_of_ble_eq_true rfl⟩) hS hF hA (fun r7 u6 H locs hP hS h => ?_)
 refine lv_aload_n hx hb d_Model_lay_23 rfl (lv_at hl 1 rfl) ?_
 refine lv_iload_n hx hb d_Model_lay_24 rfl (lv_at hl 2 rfl) ?_
 refine lv_iconst (v := 1) hx hb d_Model_lay_25 (by decide) ?_
 refine cc_i (va_runV (As := [.int x1, .int 1]) (rest := [.int r7]) ⟨hx, hb, hml, hown, hts⟩ (ct_Model_end l D a cA cZ G _ x1 1 u6 _ hI h) (pw_cwV 2 hts kw_975 kw_57 kw_972 kw_974 kw_33 (by decide +kernel) ⟨Nat.le_of_ble_eq_true rfl, Nat.le_of_ble_eq_true rfl⟩) ⟨pw_blind, va_recv hK hP (ci := 1) (q0 := 0) rfl rw_at_0, fun U hU hW => ⟨rfl, by rw [hU], by rw [hU]; exact hP, va_K.moved hW.alike hK⟩⟩ rfl rfl hl.1 rfl (lv_room (Nat.le_of_ble_eq_true rfl)) d_Model_lay_26 ⟨Nat.le_of_ble_eq_true rfl, Nat.le_of_ble_eq_true rfl⟩) hS hF hA (fun r9 u8 H locs hP hS h => ?_)
 refine lv_isub hx hb d_Model_lay_29 ?_
 refine lv_iconst (v := 1) hx hb d_Model_lay_30 (by decide) ?_
 refine lv_iadd hx hb d_Model_lay_31 ?_
 refine lv_topi (fun t10 et10 => ?_)
 have h := h t10 et10
 refine lv_istore (lv' := [(5, .int t10), (4, .int t5), (0, .ref (a 0)), (1, .int x1), (2, .int x2), (3, .int x3)]) hx hb d_Model_lay_32 hl (by decide) rfl (fun ls hl => ?_)
 refine lv_iconst (v := 0) hx hb d_Model_lay_34 (by decide) ?_
 refine lv_istore (lv' := [(6, .int 0), (5, .int t10), (4, .int t5), (0, .ref (a 0)), (1, .int x1), (2, .int x2), (3, .int x3)]) hx hb d_Model_lay_35 hl (by decide) rfl (fun ls hl => ?_)
 obtain ⟨n1, h⟩ := h
 exact cp_Model_lay_37 C K n1 x1 x2 x3 t5 t10 0 u8 _ _ _ hP hS (lv_sub hl [3, 4, 5, 6, 2, 1, 0] rfl) h
set_option maxHeartbeats 4000000 in
set_option maxRecDepth 100000 in
theorem ct_Model_lay (l : Launch) (D : va_G) (a : Nat → Nat) (cA cZ : ClassId) (G : pG) (sz : Nat) (x1 x2 x3 : Int32) (u : pS) (Q : Int32 → pS → Prop) (hI : pw_I 15 a) (h : wp_Model_lay G x1 x2 x3 u Q) : Met l y_Model_lay w_Model_lay ({ frames := 1, cells := 0, slots := 0, locals := 25 } : Room) (va_Pc [.ref (a 0), .int x1, .int x2, .int x3] (pw_pre D (rw a cA cZ G) (rT cA cZ) sz u)) (va_Qi (fun (r : Int32) (u : pS) => Q r u) (pw_B D (rw a cA cZ G) (rT cA cZ)) (pw_F 15 a sz)) 0 0 (pw_F 15 a sz) := by
 refine Met.ofW (cc := b_Model_lay) (maxL := 8) (ret := (some .boolean)) (by decide) rfl ?_
 intro p e s m args below meth c s₁ B hml hv
 obtain ⟨rfl, hsz, hP, hK⟩ := hv
 subst hsz
 have hl := lv_entry ([.ref (a 0), .int x1, .int x2, .int x3]) (n := 8) (Nat.le_of_ble_eq_true rfl)
 rw [lg_entry_eq]
 generalize (lg_sl ([.ref (a 0), .int x1, .int x2, .int x3]) ++ List.replicate (8 - (lg_sl ([.ref (a 0), .int x1, .int x2, .int x3])).length) Slot.unset).toArray = ls at hl ⊢
 exact st_Model_lay (A := (pw_F 15 a s.heap.size)) ⟨B.exec, B.bytes, B.returns, hml, findClass_of_methodNamed B.named, atoms_spec (ws := w_Model_lay) B.pre, B.notSynchronized, fun q hq => Or.inr hq⟩ ⟨hK, hI, fun k hk => Or.inl ⟨k, hk, rfl⟩⟩ x1 x2 x3 u ls hP hl h
set_option maxHeartbeats 4000000 in
set_option maxRecDepth 100000 in
theorem st_Model_isLaidBefore {p : Program} {l : Launch} {e : Env} {s : State} {m : MethodId} {args : Array Value} {below : List Frame} {meth : Method} {c : Code} {D : va_G} {a : Nat → Nat} {cA cZ : ClassId} {G : pG} {A : Nat → Prop} {Q : Int32 → pS → Prop} (C : pw_C p s m args meth c b_Model_isLaidBefore 7 R_Model (some .boolean) w_Model_isLaidBefore A) (K : pw_K s D 15 a (rT cA cZ) A) (x1 x2 : Int32) (u : pS) (ls : Array Slot) (hP : va_P D vwCl (rw a cA cZ G u) s.heap) (hl : lv_has ls 7 [(0, .ref (a 0)), (1, .int x1), (2, .int x2)]) (h : wp_Model_isLaidBefore G x1 x2 u Q) : W p l e ({ frames := 1, cells := 0, slots := 0, locals := 25 } : Room) s m args below meth c s.heap [] 0 0 (pw_Ei below args s D (rw a cA cZ G) (rT cA cZ) A Q) (F0 m 0 ls []) := by
 obtain ⟨hx, hb, hr, hml, hown, hts, hlocks, hA⟩ := id C
 obtain ⟨hK, hI, hF⟩ := id K
 have hD : ∀ u, va_D A (rw a cA cZ G u) := fun u => rw_D hI hF
 have hS : va_S A s.heap s.heap [] := va_S.rf
 have h : wp_Model_isLaidBefore G x1 x2 u Q := h
 refine lv_aload_n hx hb d_Model_isLaidBefore_0 rfl (lv_at hl 0 rfl) ?_
 refine lv_iload_n hx hb d_Model_isLaidBefore_1 rfl (lv_at hl 1 rfl) ?_
 refine lv_iconst (v := 3) hx hb d_Model_isLaidBefore_2 (by decide) ?_
 refine cc_i (va_runV (As := [.int x1, .int 3]) (rest := []) ⟨hx, hb, hml, hown, hts⟩ (ct_Model_end l D a cA cZ G _ x1 3 u _ hI h) (pw_cwV 2 hts kw_975 kw_57 kw_972 kw_974 kw_33 (by decide +kernel) ⟨Nat.le_of_ble_eq_true rfl, Nat.le_of_ble_eq_true rfl⟩) ⟨pw_blind, va_recv hK hP (ci := 1) (q0 := 0) rfl rw_at_0, fun U hU hW => ⟨rfl, by rw [hU], by rw [hU]; exact hP, va_K.moved hW.alike hK⟩⟩ rfl rfl hl.1 rfl (lv_room (Nat.le_of_ble_eq_true rfl)) d_Model_isLaidBefore_3 ⟨Nat.le_of_ble_eq_true rfl, Nat.le_of_ble_eq_true rfl⟩) hS hF hA (fun r2 u1 H locs hP hS h => ?_)
 refine lv_aload_n hx hb d_Model_isLaidBefore_6 rfl (lv_at hl 0 rfl) ?_
 refine lv_iload_n hx hb d_Model_isLaidBefore_7 rfl (lv_at hl 1 rfl) ?_
 refine lv_iconst (v := 1) hx hb d_Model_isLaidBefore_8 (by decide) ?_
 refine cc_i (va_runV (As := [.int x1, .int 1]) (rest := [.int r2]) ⟨hx, hb, hml, hown, hts⟩ (ct_Model_end l D a cA cZ G _ x1 1 u1 _ hI h) (pw_cwV 2 hts kw_975 kw_57 kw_972 kw_974 kw_33 (by decide +kernel) ⟨Nat.le_of_ble_eq_true rfl, Nat.le_of_ble_eq_true rfl⟩) ⟨pw_blind, va_recv hK hP (ci := 1) (q0 := 0) rfl rw_at_0, fun U hU hW => ⟨rfl, by rw [hU], by rw [hU]; exact hP, va_K.moved hW.alike hK⟩⟩ rfl rfl hl.1 rfl (lv_room (Nat.le_of_ble_eq_true rfl)) d_Model_isLaidBefore_9 ⟨Nat.le_of_ble_eq_true rfl, Nat.le_of_ble_eq_true rfl⟩) hS hF hA (fun r4 u3 H locs hP hS h => ?_)
 refine lv_isub hx hb d_Model_isLaidBefore_12 ?_
 refine lv_topi (fun t5 et5 => ?_)
 have h := h t5 et5
 refine lv_istore_n (lv' := [(3, .int t5), (0, .ref (a 0)), (1, .int x1), (2, .int x2)]) hx hb d_Model_isLaidBefore_13 rfl hl (by decide) rfl (fun ls hl => ?_)
 refine lv_aload_n hx hb d_Model_isLaidBefore_14 rfl (lv_at hl 1 rfl) ?_
 refine lv_iload_n hx hb d_Model_isLaidBefore_15 rfl (lv_at hl 3 rfl) ?_
 refine lv_iconst (v := 3) hx hb d_Model_isLaidBefore_16 (by decide) ?_
 refine cc_i (va_runV (As := [.int x2, .int 3]) (rest := []) ⟨hx, hb, hml, hown, hts⟩ (ct_Model_end l D a cA cZ G _ x2 3 u3 _ hI h) (pw_cwV 2 hts kw_975 kw_57 kw_972 kw_974 kw_33 (by decide +kernel) ⟨Nat.le_of_ble_eq_true rfl, Nat.le_of_ble_eq_true rfl⟩) ⟨pw_blind, va_recv hK hP (ci := 1) (q0 := 0) rfl rw_at_0, fun U hU hW => ⟨rfl, by rw [hU], by rw [hU]; exact hP, va_K.moved hW.alike hK⟩⟩ rfl rfl hl.1 rfl (lv_room (Nat.le_of_ble_eq_true rfl)) d_Model_isLaidBefore_17 ⟨Nat.le_of_ble_eq_true rfl, Nat.le_of_ble_eq_true rfl⟩) hS hF hA (fun r7 u6 H locs hP hS h => ?_)
 refine lv_aload_n hx hb d_Model_isLaidBefore_20 rfl (lv_at hl 1 rfl) ?_
 refine lv_iload_n hx hb d_Model_isLaidBefore_21 rfl (lv_at hl 3 rfl) ?_
 refine lv_iconst (v := 1) hx hb d_Model_isLaidBefore_22 (by decide) ?_
 refine cc_i (va_runV (As := [.int x2, .int 1]) (rest := [.int r7]) ⟨hx, hb, hml, hown, hts⟩ (ct_Model_end l D a cA cZ G _ x2 1 u6 _ hI h) (pw_cwV 2 hts kw_975 kw_57 kw_972 kw_974 kw_33 (by decide +kernel) ⟨Nat.le_of_ble_eq_true rfl, Nat.le_of_ble_eq_true rfl⟩) ⟨pw_blind, va_recv hK hP (ci := 1) (q0 := 0) rfl rw_at_0, fun U hU hW => ⟨rfl, by rw [hU], by rw [hU]; exact hP, va_K.moved hW.alike hK⟩⟩ rfl rfl hl.1 rfl (lv_room (Nat.le_of_ble_eq_true rfl)) d_Model_isLaidBefore_23 ⟨Nat.le_of_ble_eq_true rfl, Nat.le_of_ble_eq_true rfl⟩) hS hF hA (fun r9 u8 H locs hP hS h => ?_)
 refine lv_isub hx hb d_Model_isLaidBefore_26 ?_
 refine lv_topi (fun t10 et10 => ?_)
 have h := h t10 et10
 refine lv_istore (lv' := [(4, .int t10), (3, .int t5), (0, .ref (a 0)), (1, .int x1), (2, .int x2)]) hx hb d_Model_isLaidBefore_27 hl (by decide) rfl (fun ls hl => ?_)
 refine lv_aload_n hx hb d_Model_isLaidBefore_29 rfl (lv_at hl 2 rfl) ?_
 refine lv_iload_n hx hb d_Model_isLaidBefore_30 rfl (lv_at hl 3 rfl) ?_
 refine lv_iconst (v := 2) hx hb d_Model_isLaidBefore_31 (by decide) ?_
 refine cc_i (va_runV (As := [.int x1, .int 2]) (rest := []) ⟨hx, hb, hml, hown, hts⟩ (ct_Model_end l D a cA cZ G _ x1 2 u8 _ hI h) (pw_cwV 2 hts kw_975 kw_57 kw_972 kw_974 kw_33 (by decide +kernel) ⟨Nat.le_of_ble_eq_true rfl, Nat.le_of_ble_eq_true rfl⟩) ⟨pw_blind, va_recv hK hP (ci := 1) (q0 := 0) rfl rw_at_0, fun U hU hW => ⟨rfl, by rw [hU], by rw [hU]; exact hP, va_K.moved hW.alike hK⟩⟩ rfl rfl hl.1 rfl (lv_room (Nat.le_of_ble_eq_true rfl)) d_Model_isLaidBefore_32 ⟨Nat.le_of_ble_eq_true rfl, Nat.le_of_ble_eq_true rfl⟩) hS hF hA (fun r12 u11 H locs hP hS h => ?_)
 refine lv_aload_n hx hb d_Model_isLaidBefore_35 rfl (lv_at hl 2 rfl) ?_
 refine lv_iload_n hx hb d_Model_isLaidBefore_36 rfl (lv_at hl 3 rfl) ?_
 refine lv_iconst (v := 0) hx hb d_Model_isLaidBefore_37 (by decide) ?_
 refine cc_i (va_runV (As := [.int x1, .int 0]) (rest := [.int r12]) ⟨hx, hb, hml, hown, hts⟩ (ct_Model_end l D a cA cZ G _ x1 0 u11 _ hI h) (pw_cwV 2 hts kw_975 kw_57 kw_972 kw_974 kw_33 (by decide +kernel) ⟨Nat.le_of_ble_eq_true rfl, Nat.le_of_ble_eq_true rfl⟩) ⟨pw_blind, va_recv hK hP (ci := 1) (q0 := 0) rfl rw_at_0, fun U hU hW => ⟨rfl, by rw [hU], by rw [hU]; exact hP, va_K.moved hW.alike hK⟩⟩ rfl rfl hl.1 rfl (lv_room (Nat.le_of_ble_eq_true rfl)) d_Model_isLaidBefore_38 ⟨Nat.le_of_ble_eq_true rfl, Nat.le_of_ble_eq_true rfl⟩) hS hF hA (fun r14 u13 H locs hP hS h => ?_)
 refine lv_isub hx hb d_Model_isLaidBefore_41 ?_
 refine lv_topi (fun t15 et15 => ?_)
 have h := h t15 et15
 refine lv_istore (lv' := [(5, .int t15), (4, .int t10), (3, .int t5), (0, .ref (a 0)), (1, .int x1), (2, .int x2)]) hx hb d_Model_isLaidBefore_42 hl (by decide) rfl (fun ls hl => ?_)
 refine lv_aload_n hx hb d_Model_isLaidBefore_44 rfl (lv_at hl 3 rfl) ?_
 refine lv_iload_n hx hb d_Model_isLaidBefore_45 rfl (lv_at hl 5 rfl) ?_
 refine lv_iconst (v := 2) hx hb d_Model_isLaidBefore_46 (by decide) ?_
 refine cc_i (va_runV (As := [.int x2, .int 2]) (rest := []) ⟨hx, hb, hml, hown, hts⟩ (ct_Model_end l D a cA cZ G _ x2 2 u13 _ hI h) (pw_cwV 2 hts kw_975 kw_57 kw_972 kw_974 kw_33 (by decide +kernel) ⟨Nat.le_of_ble_eq_true rfl, Nat.le_of_ble_eq_true rfl⟩) ⟨pw_blind, va_recv hK hP (ci := 1) (q0 := 0) rfl rw_at_0, fun U hU hW => ⟨rfl, by rw [hU], by rw [hU]; exact hP, va_K.moved hW.alike hK⟩⟩ rfl rfl hl.1 rfl (lv_room (Nat.le_of_ble_eq_true rfl)) d_Model_isLaidBefore_47 ⟨Nat.le_of_ble_eq_true rfl, Nat.le_of_ble_eq_true rfl⟩) hS hF hA (fun r17 u16 H locs hP hS h => ?_)
 refine lv_aload_n hx hb d_Model_isLaidBefore_50 rfl (lv_at hl 3 rfl) ?_
 refine lv_iload_n hx hb d_Model_isLaidBefore_51 rfl (lv_at hl 5 rfl) ?_
 refine lv_iconst (v := 0) hx hb d_Model_isLaidBefore_52 (by decide) ?_
 refine cc_i (va_runV (As := [.int x2, .int 0]) (rest := [.int r17]) ⟨hx, hb, hml, hown, hts⟩ (ct_Model_end l D a cA cZ G _ x2 0 u16 _ hI h) (pw_cwV 2 hts kw_975 kw_57 kw_972 kw_974 kw_33 (by decide +kernel) ⟨Nat.le_of_ble_eq_true rfl, Nat.le_of_ble_eq_true rfl⟩) ⟨pw_blind, va_recv hK hP (ci := 1) (q0 := 0) rfl rw_at_0, fun U hU hW => ⟨rfl, by rw [hU], by rw [hU]; exact hP, va_K.moved hW.alike hK⟩⟩ rfl rfl hl.1 rfl (lv_room (Nat.le_of_ble_eq_true rfl)) d_Model_isLaidBefore_53 ⟨Nat.le_of_ble_eq_true rfl, Nat.le_of_ble_eq_true rfl⟩) hS hF hA (fun r19 u18 H locs hP hS h => ?_)
 refine lv_isub hx hb d_Model_isLaidBefore_56 ?_
 refine lv_topi (fun t20 et20 => ?_)
 have h := h t20 et20
 refine lv_istore (lv' := [(6, .int t20), (5, .int t15), (4, .int t10), (3, .int t5), (0, .ref (a 0)), (1, .int x1), (2, .int x2)]) hx hb d_Model_isLaidBefore_57 hl (by decide) rfl (fun ls hl => ?_)
 refine lv_iload_n hx hb d_Model_isLaidBefore_59 rfl (lv_at hl 3 rfl) ?_
 refine lv_iload hx hb d_Model_isLaidBefore_60 (lv_at hl 2 rfl) ?_
 refine lv_icmp_eq (tgt := 79) hx hb d_Model_isLaidBefore_62 (by decide) (fun c21 => ?_) (fun c21 => ?_)
 · have h := h.1 c21
   refine lv_iload hx hb d_Model_isLaidBefore_79 (lv_at hl 1 rfl) ?_
   refine lv_iload hx hb d_Model_isLaidBefore_81 (lv_at hl 0 rfl) ?_
   refine lv_icmp_eq (tgt := 101) hx hb d_Model_isLaidBefore_83 (by decide) (fun c22 => ?_) (fun c22 => ?_)
   · have h := h.1 c22
     refine lv_iload_n hx hb d_Model_isLaidBefore_101 rfl (lv_at hl 5 rfl) ?_
     refine lv_iload_n hx hb d_Model_isLaidBefore_102 rfl (lv_at hl 6 rfl) ?_
     refine lv_icmp_ge (tgt := 110) hx hb d_Model_isLaidBefore_103 (by decide) (fun c23 => ?_) (fun c23 => ?_)
     · have h := h.1 c23
       refine lv_iconst (v := 0) hx hb d_Model_isLaidBefore_110 (by decide) ?_
       exact W.zret (v := 0) hx hb hr rfl (fun t ht hW => ⟨⟨0, u18, rfl, h, by rw [ht]; exact hP, va_K.moved hW.alike hK⟩, hS.F ht⟩) hS.2.2 d_Model_isLaidBefore_111 hlocks
     · have h := h.2 c23
       refine lv_iconst (v := 1) hx hb d_Model_isLaidBefore_106 (by decide) ?_
       refine lv_goto (tgt := 111) hx hb d_Model_isLaidBefore_107 (by decide) ?_
       exact W.zret (v := 1) hx hb hr rfl (fun t ht hW => ⟨⟨1, u18, rfl, h, by rw [ht]; exact hP, va_K.moved hW.alike hK⟩, hS.F ht⟩) hS.2.2 d_Model_isLaidBefore_111 hlocks
   · have h := h.2 c22
     refine lv_iload hx hb d_Model_isLaidBefore_86 (lv_at hl 1 rfl) ?_
     refine lv_iload hx hb d_Model_isLaidBefore_88 (lv_at hl 0 rfl) ?_
     refine lv_icmp_le (tgt := 97) hx hb d_Model_isLaidBefore_90 (by decide) (fun c24 => ?_) (fun c24 => ?_)
     · have h := h.1 c24
       refine lv_iconst (v := 0) hx hb d_Model_isLaidBefore_97 (by decide) ?_
       refine lv_goto (tgt := 111) hx hb d_Model_isLaidBefore_98 (by decide) ?_
       exact W.zret (v := 0) hx hb hr rfl (fun t ht hW => ⟨⟨0, u18, rfl, h, by rw [ht]; exact hP, va_K.moved hW.alike hK⟩, hS.F ht⟩) hS.2.2 d_Model_isLaidBefore_111 hlocks
     · have h := h.2 c24
       refine lv_iconst (v := 1) hx hb d_Model_isLaidBefore_93 (by decide) ?_
       refine lv_goto (tgt := 111) hx hb d_Model_isLaidBefore_94 (by decide) ?_
       exact W.zret (v := 1) hx hb hr rfl (fun t ht hW => ⟨⟨1, u18, rfl, h, by rw [ht]; exact hP, va_K.moved hW.alike hK⟩, hS.F ht⟩) hS.2.2 d_Model_isLaidBefore_111 hlocks
 · have h := h.2 c21
   refine lv_iload_n hx hb d_Model_isLaidBefore_65 rfl (lv_at hl 3 rfl) ?_
   refine lv_iload hx hb d_Model_isLaidBefore_66 (lv_at hl 2 rfl) ?_
   refine lv_icmp_le (tgt := 75) hx hb d_Model_isLaidBefore_68 (by decide) (fun c25 => ?_) (fun c25 => ?_)
   · have h := h.1 c25
     refine lv_iconst (v := 0) hx hb d_Model_isLaidBefore_75 (by decide) ?_
     refine lv_goto (tgt := 111) hx hb d_Model_isLaidBefore_76 (by decide) ?_
     exact W.zret (v := 0) hx hb hr rfl (fun t ht hW => ⟨⟨0, u18, rfl, h, by rw [ht]; exact hP, va_K.moved hW.alike hK⟩, hS.F ht⟩) hS.2.2 d_Model_isLaidBefore_111 hlocks
   · have h := h.2 c25
     refine lv_iconst (v := 1) hx hb d_Model_isLaidBefore_71 (by decide) ?_
     refine lv_goto (tgt := 111) hx hb d_Model_isLaidBefore_72 (by decide) ?_
     exact W.zret (v := 1) hx hb hr rfl (fun t ht hW => ⟨⟨1, u18, rfl, h, by rw [ht]; exact hP, va_K.moved hW.alike hK⟩, hS.F ht⟩) hS.2.2 d_Model_isLaidBefore_111 hlocks
set_option maxHeartbeats 4000000 in
set_option maxRecDepth 100000 in
theorem ct_Model_isLaidBefore (l : Launch) (D : va_G) (a : Nat → Nat) (cA cZ : ClassId) (G : pG) (sz : Nat) (x1 x2 : Int32) (u : pS) (Q : Int32 → pS → Prop) (hI : pw_I 15 a) (h : wp_Model_isLaidBefore G x1 x2 u Q) : Met l y_Model_isLaidBefore w_Model_isLaidBefore ({ frames := 1, cells := 0, slots := 0, locals := 25 } : Room) (va_Pc [.ref (a 0), .int x1, .int x2] (pw_pre D (rw a cA cZ G) (rT cA cZ) sz u)) (va_Qi (fun (r : Int32) (u : pS) => Q r u) (pw_B D (rw a cA cZ G) (rT cA cZ)) (pw_F 15 a sz)) 0 0 (pw_F 15 a sz) := by
 refine Met.ofW (cc := b_Model_isLaidBefore) (maxL := 7) (ret := (some .boolean)) (by decide) rfl ?_
 intro p e s m args below meth c s₁ B hml hv
 obtain ⟨rfl, hsz, hP, hK⟩ := hv
 subst hsz
 have hl := lv_entry ([.ref (a 0), .int x1, .int x2]) (n := 7) (Nat.le_of_ble_eq_true rfl)
 rw [lg_entry_eq]
 generalize (lg_sl ([.ref (a 0), .int x1, .int x2]) ++ List.replicate (7 - (lg_sl ([.ref (a 0), .int x1, .int x2])).length) Slot.unset).toArray = ls at hl ⊢
 exact st_Model_isLaidBefore (A := (pw_F 15 a s.heap.size)) ⟨B.exec, B.bytes, B.returns, hml, findClass_of_methodNamed B.named, atoms_spec (ws := w_Model_isLaidBefore) B.pre, B.notSynchronized, fun q hq => Or.inr hq⟩ ⟨hK, hI, fun k hk => Or.inl ⟨k, hk, rfl⟩⟩ x1 x2 u ls hP hl h
