set_option maxHeartbeats 4000000 in
set_option maxRecDepth 100000 in
theorem cp_Model_ahead_28 {p : Program} {l : Launch} {e : Env} {s : State} {m : MethodId} {args : Array Value} {below : List Frame} {meth : Method} {c : Code} {D : va_G} {a : Nat → Nat} {cA cZ : ClassId} {G : pG} {A : Nat → Prop} {Q : Int32 → pS → Prop} (C : pw_C p s m args meth c b_Model_ahead 8 R_Model (some .boolean) w_Model_ahead A) (K : pw_K s D 15 a (rT cA cZ) A) {k33 : Int32 → Int32 → Int32 → Int32 → Int32 → Int32 → pS → Prop} (hk33 : ∀ (x1 x2 x3 x4 x5 y6 : Int32) (u : pS) (H : Heap) (locs : List Loc) (ls : Array Slot), va_P D vwCl (rw a cA cZ G u) H → va_S A s.heap H locs → lv_has ls 8 [(0, .ref (a 0)), (1, .int x1), (2, .int x2), (3, .int x3), (4, .int x4), (5, .int x5)] → k33 x1 x2 x3 x4 x5 y6 u → W p l e ({ frames := 2, cells := 0, slots := 0, locals := 45 } : Room) s m args below meth c H locs 0 0 (pw_Ei below args s D (rw a cA cZ G) (rT cA cZ) A Q) (F0 m 33 ls [.int y6])) : ∀ (x1 x2 x3 x4 x5 : Int32) (u : pS) (H : Heap) (locs : List Loc) (ls : Array Slot), va_P D vwCl (rw a cA cZ G u) H → va_S A s.heap H locs → lv_has ls 8 [(0, .ref (a 0)), (1, .int x1), (2, .int x2), (3, .int x3), (4, .int x4), (5, .int x5)] → jn_Model_ahead_28 G Q k33 x1 x2 x3 x4 x5 u → W p l e ({ frames := 2, cells := 0, slots := 0, locals := 45 } : Room) s m args below meth c H locs 0 0 (pw_Ei below args s D (rw a cA cZ G) (rT cA cZ) A Q) (F0 m 28 ls []) := by
 obtain ⟨hx, hb, hr, hml, hown, hts, hlocks, hA⟩ := id C
 obtain ⟨hK, hI, hF⟩ := id K
 have hD : ∀ u, va_D A (rw a cA cZ G u) := fun u => rw_D hI hF
 intro x1 x2 x3 x4 x5 u H locs ls hP hS hl h
 refine lv_iconst (v := 1) hx hb d_Model_ahead_28 (by decide) ?_
 refine lv_goto (tgt := 33) hx hb d_Model_ahead_29 (by decide) ?_
 exact hk33 x1 x2 x3 x4 x5 1 u _ _ _ hP hS (lv_sub hl [0, 1, 2, 3, 4, 5] rfl) h
set_option maxHeartbeats 4000000 in
set_option maxRecDepth 100000 in
theorem cp_Model_ahead_32 {p : Program} {l : Launch} {e : Env} {s : State} {m : MethodId} {args : Array Value} {below : List Frame} {meth : Method} {c : Code} {D : va_G} {a : Nat → Nat} {cA cZ : ClassId} {G : pG} {A : Nat → Prop} {Q : Int32 → pS → Prop} (C : pw_C p s m args meth c b_Model_ahead 8 R_Model (some .boolean) w_Model_ahead A) (K : pw_K s D 15 a (rT cA cZ) A) {k33 : Int32 → Int32 → Int32 → Int32 → Int32 → Int32 → pS → Prop} (hk33 : ∀ (x1 x2 x3 x4 x5 y6 : Int32) (u : pS) (H : Heap) (locs : List Loc) (ls : Array Slot), va_P D vwCl (rw a cA cZ G u) H → va_S A s.heap H locs → lv_has ls 8 [(0, .ref (a 0)), (1, .int x1), (2, .int x2), (3, .int x3), (4, .int x4), (5, .int x5)] → k33 x1 x2 x3 x4 x5 y6 u → W p l e ({ frames := 2, cells := 0, slots := 0, locals := 45 } : Room) s m args below meth c H locs 0 0 (pw_Ei below args s D (rw a cA cZ G) (rT cA cZ) A Q) (F0 m 33 ls [.int y6])) : ∀ (x1 x2 x3 x4 x5 : Int32) (u : pS) (H : Heap) (locs : List Loc) (ls : Array Slot), va_P D vwCl (rw a cA cZ G u) H → va_S A s.heap H locs → lv_has ls 8 [(0, .ref (a 0)), (1, .int x1), (2, .int x2), (3, .int x3), (4, .int x4), (5, .int x5)] → jn_Model_ahead_32 G Q k33 x1 x2 x3 x4 x5 u → W p l e ({ frames := 2, cells := 0, slots := 0, locals := 45 } : Room) s m args below meth c H locs 0 0 (pw_Ei below args s D (rw a cA cZ G) (rT cA cZ) A Q) (F0 m 32 ls []) := by
 obtain ⟨hx, hb, hr, hml, hown, hts, hlocks, hA⟩ := id C
 obtain ⟨hK, hI, hF⟩ := id K
 have hD : ∀ u, va_D A (rw a cA cZ G u) := fun u => rw_D hI hF
 intro x1 x2 x3 x4 x5 u H locs ls hP hS hl h
 refine lv_iconst (v := 0) hx hb d_Model_ahead_32 (by decide) ?_
 exact hk33 x1 x2 x3 x4 x5 0 u _ _ _ hP hS (lv_sub hl [0, 1, 2, 3, 4, 5] rfl) h
set_option maxHeartbeats 4000000 in
set_option maxRecDepth 100000 in
theorem cp_Model_ahead_62 {p : Program} {l : Launch} {e : Env} {s : State} {m : MethodId} {args : Array Value} {below : List Frame} {meth : Method} {c : Code} {D : va_G} {a : Nat → Nat} {cA cZ : ClassId} {G : pG} {A : Nat → Prop} {Q : Int32 → pS → Prop} (C : pw_C p s m args meth c b_Model_ahead 8 R_Model (some .boolean) w_Model_ahead A) (K : pw_K s D 15 a (rT cA cZ) A) {k67 : Int32 → Int32 → Int32 → Int32 → Int32 → pS → Prop} (hk67 : ∀ (x1 x2 x3 x6 y5 : Int32) (u : pS) (H : Heap) (locs : List Loc) (ls : Array Slot), va_P D vwCl (rw a cA cZ G u) H → va_S A s.heap H locs → lv_has ls 8 [(0, .ref (a 0)), (1, .int x1), (2, .int x2), (3, .int x3), (6, .int x6)] → k67 x1 x2 x3 x6 y5 u → W p l e ({ frames := 2, cells := 0, slots := 0, locals := 45 } : Room) s m args below meth c H locs 0 0 (pw_Ei below args s D (rw a cA cZ G) (rT cA cZ) A Q) (F0 m 67 ls [.int y5])) : ∀ (x1 x2 x3 x6 : Int32) (u : pS) (H : Heap) (locs : List Loc) (ls : Array Slot), va_P D vwCl (rw a cA cZ G u) H → va_S A s.heap H locs → lv_has ls 8 [(0, .ref (a 0)), (1, .int x1), (2, .int x2), (3, .int x3), (6, .int x6)] → jn_Model_ahead_62 G Q k67 x1 x2 x3 x6 u → W p l e ({ frames := 2, cells := 0, slots := 0, locals := 45 } : Room) s m args below meth c H locs 0 0 (pw_Ei below args s D (rw a cA cZ G) (rT cA cZ) A Q) (F0 m 62 ls []) := by
 obtain ⟨hx, hb, hr, hml, hown, hts, hlocks, hA⟩ := id C
 obtain ⟨hK, hI, hF⟩ := id K
 have hD : ∀ u, va_D A (rw a cA cZ G u) := fun u => rw_D hI hF
 intro x1 x2 x3 x6 u H locs ls hP hS hl h
 refine lv_iconst (v := 1) hx hb d_Model_ahead_62 (by decide) ?_
 refine lv_goto (tgt := 67) hx hb d_Model_ahead_63 (by decide) ?_
 exact hk67 x1 x2 x3 x6 1 u _ _ _ hP hS (lv_sub hl [0, 1, 2, 3, 4] rfl) h
set_option maxHeartbeats 4000000 in
set_option maxRecDepth 100000 in
theorem cp_Model_ahead_66 {p : Program} {l : Launch} {e : Env} {s : State} {m : MethodId} {args : Array Value} {below : List Frame} {meth : Method} {c : Code} {D : va_G} {a : Nat → Nat} {cA cZ : ClassId} {G : pG} {A : Nat → Prop} {Q : Int32 → pS → Prop} (C : pw_C p s m args meth c b_Model_ahead 8 R_Model (some .boolean) w_Model_ahead A) (K : pw_K s D 15 a (rT cA cZ) A) {k67 : Int32 → Int32 → Int32 → Int32 → Int32 → pS → Prop} (hk67 : ∀ (x1 x2 x3 x6 y5 : Int32) (u : pS) (H : Heap) (locs : List Loc) (ls : Array Slot), va_P D vwCl (rw a cA cZ G u) H → va_S A s.heap H locs → lv_has ls 8 [(0, .ref (a 0)), (1, .int x1), (2, .int x2), (3, .int x3), (6, .int x6)] → k67 x1 x2 x3 x6 y5 u → W p l e ({ frames := 2, cells := 0, slots := 0, locals := 45 } : Room) s m args below meth c H locs 0 0 (pw_Ei below args s D (rw a cA cZ G) (rT cA cZ) A Q) (F0 m 67 ls [.int y5])) : ∀ (x1 x2 x3 x6 : Int32) (u : pS) (H : Heap) (locs : List Loc) (ls : Array Slot), va_P D vwCl (rw a cA cZ G u) H → va_S A s.heap H locs → lv_has ls 8 [(0, .ref (a 0)), (1, .int x1), (2, .int x2), (3, .int x3), (6, .int x6)] → jn_Model_ahead_66 G Q k67 x1 x2 x3 x6 u → W p l e ({ frames := 2, cells := 0, slots := 0, locals := 45 } : Room) s m args below meth c H locs 0 0 (pw_Ei below args s D (rw a cA cZ G) (rT cA cZ) A Q) (F0 m 66 ls []) := by
 obtain ⟨hx, hb, hr, hml, hown, hts, hlocks, hA⟩ := id C
 obtain ⟨hK, hI, hF⟩ := id K
 have hD : ∀ u, va_D A (rw a cA cZ G u) := fun u => rw_D hI hF
 intro x1 x2 x3 x6 u H locs ls hP hS hl h
 refine lv_iconst (v := 0) hx hb d_Model_ahead_66 (by decide) ?_
 exact hk67 x1 x2 x3 x6 0 u _ _ _ hP hS (lv_sub hl [0, 1, 2, 3, 4] rfl) h
set_option maxHeartbeats 4000000 in
set_option maxRecDepth 100000 in
theorem cp_Model_ahead_95 {p : Program} {l : Launch} {e : Env} {s : State} {m : MethodId} {args : Array Value} {below : List Frame} {meth : Method} {c : Code} {D : va_G} {a : Nat → Nat} {cA cZ : ClassId} {G : pG} {A : Nat → Prop} {Q : Int32 → pS → Prop} (C : pw_C p s m args meth c b_Model_ahead 8 R_Model (some .boolean) w_Model_ahead A) (K : pw_K s D 15 a (rT cA cZ) A) : ∀ (y0 y1 y2 : Int32) (u : pS) (H : Heap) (locs : List Loc) (ls : Array Slot), va_P D vwCl (rw a cA cZ G u) H → va_S A s.heap H locs → lv_has ls 8 [] → jn_Model_ahead_95 G Q y0 y1 y2 u → W p l e ({ frames := 2, cells := 0, slots := 0, locals := 45 } : Room) s m args below meth c H locs 0 0 (pw_Ei below args s D (rw a cA cZ G) (rT cA cZ) A Q) (F0 m 95 ls [.int y0, .int y1, .int y2, .ref (a 0)]) := by
 obtain ⟨hx, hb, hr, hml, hown, hts, hlocks, hA⟩ := id C
 obtain ⟨hK, hI, hF⟩ := id K
 have hD : ∀ u, va_D A (rw a cA cZ G u) := fun u => rw_D hI hF
 intro y0 y1 y2 u H locs ls hP hS hl h
 refine cc_i (va_runV (As := [.int y2, .int y1, .int y0]) (rest := []) ⟨hx, hb, hml, hown, hts⟩ (ct_Model_isOf l D a cA cZ G _ y2 y1 y0 u _ hI h) (pw_cwV 3 hts kw_999 kw_57 kw_996 kw_998 kw_37 (by decide +kernel) ⟨Nat.le_of_ble_eq_true rfl, Nat.le_of_ble_eq_true rfl⟩) ⟨pw_blind, va_recv hK hP (ci := 1) (q0 := 0) rfl rw_at_0, fun U hU hW => ⟨rfl, by rw [hU], by rw [hU]; exact hP, va_K.moved hW.alike hK⟩⟩ rfl rfl hl.1 rfl (lv_room (Nat.le_of_ble_eq_true rfl)) d_Model_ahead_95 ⟨Nat.le_of_ble_eq_true rfl, Nat.le_of_ble_eq_true rfl⟩) hS hF hA (fun r6 u5 H locs hP hS h => ?_)
 exact W.zret (v := r6) hx hb hr h.1 (fun t ht hW => ⟨⟨r6, u5, rfl, h.2, by rw [ht]; exact hP, va_K.moved hW.alike hK⟩, hS.F ht⟩) hS.2.2 d_Model_ahead_98 hlocks
set_option maxHeartbeats 4000000 in
set_option maxRecDepth 100000 in
theorem cp_Model_ahead_17 {p : Program} {l : Launch} {e : Env} {s : State} {m : MethodId} {args : Array Value} {below : List Frame} {meth : Method} {c : Code} {D : va_G} {a : Nat → Nat} {cA cZ : ClassId} {G : pG} {A : Nat → Prop} {Q : Int32 → pS → Prop} (C : pw_C p s m args meth c b_Model_ahead 8 R_Model (some .boolean) w_Model_ahead A) (K : pw_K s D 15 a (rT cA cZ) A) {k28 : Int32 → Int32 → Int32 → Int32 → Int32 → pS → Prop} (hk28 : ∀ (x1 x2 x3 x4 x5 : Int32) (u : pS) (H : Heap) (locs : List Loc) (ls : Array Slot), va_P D vwCl (rw a cA cZ G u) H → va_S A s.heap H locs → lv_has ls 8 [(0, .ref (a 0)), (1, .int x1), (2, .int x2), (3, .int x3), (4, .int x4), (5, .int x5)] → k28 x1 x2 x3 x4 x5 u → W p l e ({ frames := 2, cells := 0, slots := 0, locals := 45 } : Room) s m args below meth c H locs 0 0 (pw_Ei below args s D (rw a cA cZ G) (rT cA cZ) A Q) (F0 m 28 ls [])) {k33 : Int32 → Int32 → Int32 → Int32 → Int32 → Int32 → pS → Prop} (hk33 : ∀ (x1 x2 x3 x4 x5 y6 : Int32) (u : pS) (H : Heap) (locs : List Loc) (ls : Array Slot), va_P D vwCl (rw a cA cZ G u) H → va_S A s.heap H locs → lv_has ls 8 [(0, .ref (a 0)), (1, .int x1), (2, .int x2), (3, .int x3), (4, .int x4), (5, .int x5)] → k33 x1 x2 x3 x4 x5 y6 u → W p l e ({ frames := 2, cells := 0, slots := 0, locals := 45 } : Room) s m args below meth c H locs 0 0 (pw_Ei below args s D (rw a cA cZ G) (rT cA cZ) A Q) (F0 m 33 ls [.int y6])) : ∀ (x1 x2 x3 x4 x5 : Int32) (u : pS) (H : Heap) (locs : List Loc) (ls : Array Slot), va_P D vwCl (rw a cA cZ G u) H → va_S A s.heap H locs → lv_has ls 8 [(0, .ref (a 0)), (1, .int x1), (2, .int x2), (3, .int x3), (4, .int x4), (5, .int x5)] → jn_Model_ahead_17 G Q k28 k33 x1 x2 x3 x4 x5 u → W p l e ({ frames := 2, cells := 0, slots := 0, locals := 45 } : Room) s m args below meth c H locs 0 0 (pw_Ei below args s D (rw a cA cZ G) (rT cA cZ) A Q) (F0 m 17 ls []) := by
 obtain ⟨hx, hb, hr, hml, hown, hts, hlocks, hA⟩ := id C
 obtain ⟨hK, hI, hF⟩ := id K
 have hD : ∀ u, va_D A (rw a cA cZ G u) := fun u => rw_D hI hF
 intro x1 x2 x3 x4 x5 u H locs ls hP hS hl h
 refine lv_iload hx hb d_Model_ahead_17 (lv_at hl 4 rfl) ?_
 refine lv_iconst (v := 3) hx hb d_Model_ahead_19 (by decide) ?_
 refine lv_icmp_ne (tgt := 32) hx hb d_Model_ahead_20 (by decide) (fun c12 => ?_) (fun c12 => ?_)
 · have h := h.2 c12
   exact cp_Model_ahead_32 C K hk33 x1 x2 x3 x4 x5 u _ _ _ hP hS (lv_sub hl [0, 1, 2, 3, 4, 5] rfl) h
 · have h := h.1 c12
   refine lv_iload hx hb d_Model_ahead_23 (lv_at hl 5 rfl) ?_
   refine lv_if_ne (tgt := 32) hx hb d_Model_ahead_25 (by decide) (fun c13 => ?_) (fun c13 => ?_)
   · have h := h.2 c13
     exact cp_Model_ahead_32 C K hk33 x1 x2 x3 x4 x5 u _ _ _ hP hS (lv_sub hl [0, 1, 2, 3, 4, 5] rfl) h
   · have h := h.1 c13
     exact hk28 x1 x2 x3 x4 x5 u _ _ _ hP hS (lv_sub hl [0, 1, 2, 3, 4, 5] rfl) h
set_option maxHeartbeats 4000000 in
set_option maxRecDepth 100000 in
theorem cp_Model_ahead_52 {p : Program} {l : Launch} {e : Env} {s : State} {m : MethodId} {args : Array Value} {below : List Frame} {meth : Method} {c : Code} {D : va_G} {a : Nat → Nat} {cA cZ : ClassId} {G : pG} {A : Nat → Prop} {Q : Int32 → pS → Prop} (C : pw_C p s m args meth c b_Model_ahead 8 R_Model (some .boolean) w_Model_ahead A) (K : pw_K s D 15 a (rT cA cZ) A) {k62 : Int32 → Int32 → Int32 → Int32 → pS → Prop} (hk62 : ∀ (x1 x2 x3 x6 : Int32) (u : pS) (H : Heap) (locs : List Loc) (ls : Array Slot), va_P D vwCl (rw a cA cZ G u) H → va_S A s.heap H locs → lv_has ls 8 [(0, .ref (a 0)), (1, .int x1), (2, .int x2), (3, .int x3), (6, .int x6)] → k62 x1 x2 x3 x6 u → W p l e ({ frames := 2, cells := 0, slots := 0, locals := 45 } : Room) s m args below meth c H locs 0 0 (pw_Ei below args s D (rw a cA cZ G) (rT cA cZ) A Q) (F0 m 62 ls [])) {k67 : Int32 → Int32 → Int32 → Int32 → Int32 → pS → Prop} (hk67 : ∀ (x1 x2 x3 x6 y5 : Int32) (u : pS) (H : Heap) (locs : List Loc) (ls : Array Slot), va_P D vwCl (rw a cA cZ G u) H → va_S A s.heap H locs → lv_has ls 8 [(0, .ref (a 0)), (1, .int x1), (2, .int x2), (3, .int x3), (6, .int x6)] → k67 x1 x2 x3 x6 y5 u → W p l e ({ frames := 2, cells := 0, slots := 0, locals := 45 } : Room) s m args below meth c H locs 0 0 (pw_Ei below args s D (rw a cA cZ G) (rT cA cZ) A Q) (F0 m 67 ls [.int y5])) : ∀ (x1 x2 x3 x4 x5 x6 : Int32) (u : pS) (H : Heap) (locs : List Loc) (ls : Array Slot), va_P D vwCl (rw a cA cZ G u) H → va_S A s.heap H locs → lv_has ls 8 [(0, .ref (a 0)), (1, .int x1), (2, .int x2), (3, .int x3), (4, .int x4), (5, .int x5), (6, .int x6)] → jn_Model_ahead_52 G Q k62 k67 x1 x2 x3 x4 x5 x6 u → W p l e ({ frames := 2, cells := 0, slots := 0, locals := 45 } : Room) s m args below meth c H locs 0 0 (pw_Ei below args s D (rw a cA cZ G) (rT cA cZ) A Q) (F0 m 52 ls []) := by
 obtain ⟨hx, hb, hr, hml, hown, hts, hlocks, hA⟩ := id C
 obtain ⟨hK, hI, hF⟩ := id K
 have hD : ∀ u, va_D A (rw a cA cZ G u) := fun u => rw_D hI hF
 intro x1 x2 x3 x4 x5 x6 u H locs ls hP hS hl h
 refine lv_iload hx hb d_Model_ahead_52 (lv_at hl 4 rfl) ?_
 refine lv_if_ne (tgt := 66) hx hb d_Model_ahead_54 (by decide) (fun c8 => ?_) (fun c8 => ?_)
 · have h := h.2 c8
   exact cp_Model_ahead_66 C K hk67 x1 x2 x3 x6 u _ _ _ hP hS (lv_sub hl [0, 1, 2, 3, 6] rfl) h
 · have h := h.1 c8
   refine lv_iload hx hb d_Model_ahead_57 (lv_at hl 5 rfl) ?_
   refine lv_if_ne (tgt := 66) hx hb d_Model_ahead_59 (by decide) (fun c9 => ?_) (fun c9 => ?_)
   · have h := h.2 c9
     exact cp_Model_ahead_66 C K hk67 x1 x2 x3 x6 u _ _ _ hP hS (lv_sub hl [0, 1, 2, 3, 6] rfl) h
   · have h := h.1 c9
     exact hk62 x1 x2 x3 x6 u _ _ _ hP hS (lv_sub hl [0, 1, 2, 3, 6] rfl) h
set_option maxHeartbeats 4000000 in
set_option maxRecDepth 100000 in
theorem cp_Model_ahead_83 {p : Program} {l : Launch} {e : Env} {s : State} {m : MethodId} {args : Array Value} {below : List Frame} {meth : Method} {c : Code} {D : va_G} {a : Nat → Nat} {cA cZ : ClassId} {G : pG} {A : Nat → Prop} {Q : Int32 → pS → Prop} (C : pw_C p s m args meth c b_Model_ahead 8 R_Model (some .boolean) w_Model_ahead A) (K : pw_K s D 15 a (rT cA cZ) A) : ∀ (x3 x7 y2 y3 : Int32) (u : pS) (H : Heap) (locs : List Loc) (ls : Array Slot), va_P D vwCl (rw a cA cZ G u) H → va_S A s.heap H locs → lv_has ls 8 [(3, .int x3), (7, .int x7)] → jn_Model_ahead_83 G Q x3 x7 y2 y3 u → W p l e ({ frames := 2, cells := 0, slots := 0, locals := 45 } : Room) s m args below meth c H locs 0 0 (pw_Ei below args s D (rw a cA cZ G) (rT cA cZ) A Q) (F0 m 83 ls [.int y2, .int y3, .ref (a 0)]) := by
 obtain ⟨hx, hb, hr, hml, hown, hts, hlocks, hA⟩ := id C
 obtain ⟨hK, hI, hF⟩ := id K
 have hD : ∀ u, va_D A (rw a cA cZ G u) := fun u => rw_D hI hF
 intro x3 x7 y2 y3 u H locs ls hP hS hl h
 refine lv_iload hx hb d_Model_ahead_83 (lv_at hl 1 rfl) ?_
 refine lv_if_eq (tgt := 94) hx hb d_Model_ahead_85 (by decide) (fun c4 => ?_) (fun c4 => ?_)
 · have h := h.1 c4
   refine lv_iload_n hx hb d_Model_ahead_94 rfl (lv_at hl 0 rfl) ?_
   exact cp_Model_ahead_95 C K x3 y2 y3 u _ _ _ hP hS (lv_sub hl [] rfl) h
 · have h := h.2 c4
   refine lv_iload_n hx hb d_Model_ahead_88 rfl (lv_at hl 0 rfl) ?_
   refine lv_iconst (v := 1) hx hb d_Model_ahead_89 (by decide) ?_
   refine lv_isub hx hb d_Model_ahead_90 ?_
   refine lv_goto (tgt := 95) hx hb d_Model_ahead_91 (by decide) ?_
   exact cp_Model_ahead_95 C K (x3 - 1) y2 y3 u _ _ _ hP hS (lv_sub hl [] rfl) h
set_option maxHeartbeats 4000000 in
set_option maxRecDepth 100000 in
theorem cp_Model_ahead_67 {p : Program} {l : Launch} {e : Env} {s : State} {m : MethodId} {args : Array Value} {below : List Frame} {meth : Method} {c : Code} {D : va_G} {a : Nat → Nat} {cA cZ : ClassId} {G : pG} {A : Nat → Prop} {Q : Int32 → pS → Prop} (C : pw_C p s m args meth c b_Model_ahead 8 R_Model (some .boolean) w_Model_ahead A) (K : pw_K s D 15 a (rT cA cZ) A) : ∀ (x1 x2 x3 x6 y5 : Int32) (u : pS) (H : Heap) (locs : List Loc) (ls : Array Slot), va_P D vwCl (rw a cA cZ G u) H → va_S A s.heap H locs → lv_has ls 8 [(0, .ref (a 0)), (1, .int x1), (2, .int x2), (3, .int x3), (6, .int x6)] → jn_Model_ahead_67 G Q x1 x2 x3 x6 y5 u → W p l e ({ frames := 2, cells := 0, slots := 0, locals := 45 } : Room) s m args below meth c H locs 0 0 (pw_Ei below args s D (rw a cA cZ G) (rT cA cZ) A Q) (F0 m 67 ls [.int y5]) := by
 obtain ⟨hx, hb, hr, hml, hown, hts, hlocks, hA⟩ := id C
 obtain ⟨hK, hI, hF⟩ := id K
 have hD : ∀ u, va_D A (rw a cA cZ G u) := fun u => rw_D hI hF
 intro x1 x2 x3 x6 y5 u H locs ls hP hS hl h
 refine lv_istore (lv' := [(7, .int y5), (0, .ref (a 0)), (1, .int x1), (2, .int x2), (3, .int x3), (6, .int x6)]) hx hb d_Model_ahead_67 hl (by decide) rfl (fun ls hl => ?_)
 refine lv_aload_n hx hb d_Model_ahead_69 rfl (lv_at hl 1 rfl) ?_
 refine lv_iload_n hx hb d_Model_ahead_70 rfl (lv_at hl 2 rfl) ?_
 refine lv_iload hx hb d_Model_ahead_71 (lv_at hl 5 rfl) ?_
 refine lv_if_eq (tgt := 82) hx hb d_Model_ahead_73 (by decide) (fun c3 => ?_) (fun c3 => ?_)
 · have h := h.1 c3
   refine lv_iload_n hx hb d_Model_ahead_82 rfl (lv_at hl 3 rfl) ?_
   exact cp_Model_ahead_83 C K x3 y5 x2 x1 u _ _ _ hP hS (lv_sub hl [4, 0] rfl) h
 · have h := h.2 c3
   refine lv_iload_n hx hb d_Model_ahead_76 rfl (lv_at hl 3 rfl) ?_
   refine lv_iconst (v := 1) hx hb d_Model_ahead_77 (by decide) ?_
   refine lv_isub hx hb d_Model_ahead_78 ?_
   refine lv_goto (tgt := 83) hx hb d_Model_ahead_79 (by decide) ?_
   exact cp_Model_ahead_83 C K x3 y5 (x2 - 1) x1 u _ _ _ hP hS (lv_sub hl [4, 0] rfl) h
set_option maxHeartbeats 4000000 in
set_option maxRecDepth 100000 in
theorem cp_Model_ahead_33 {p : Program} {l : Launch} {e : Env} {s : State} {m : MethodId} {args : Array Value} {below : List Frame} {meth : Method} {c : Code} {D : va_G} {a : Nat → Nat} {cA cZ : ClassId} {G : pG} {A : Nat → Prop} {Q : Int32 → pS → Prop} (C : pw_C p s m args meth c b_Model_ahead 8 R_Model (some .boolean) w_Model_ahead A) (K : pw_K s D 15 a (rT cA cZ) A) : ∀ (x1 x2 x3 x4 x5 y6 : Int32) (u : pS) (H : Heap) (locs : List Loc) (ls : Array Slot), va_P D vwCl (rw a cA cZ G u) H → va_S A s.heap H locs → lv_has ls 8 [(0, .ref (a 0)), (1, .int x1), (2, .int x2), (3, .int x3), (4, .int x4), (5, .int x5)] → jn_Model_ahead_33 G Q x1 x2 x3 x4 x5 y6 u → W p l e ({ frames := 2, cells := 0, slots := 0, locals := 45 } : Room) s m args below meth c H locs 0 0 (pw_Ei below args s D (rw a cA cZ G) (rT cA cZ) A Q) (F0 m 33 ls [.int y6]) := by
 obtain ⟨hx, hb, hr, hml, hown, hts, hlocks, hA⟩ := id C
 obtain ⟨hK, hI, hF⟩ := id K
 have hD : ∀ u, va_D A (rw a cA cZ G u) := fun u => rw_D hI hF
 intro x1 x2 x3 x4 x5 y6 u H locs ls hP hS hl h
 refine lv_istore (lv' := [(6, .int y6), (0, .ref (a 0)), (1, .int x1), (2, .int x2), (3, .int x3), (4, .int x4), (5, .int x5)]) hx hb d_Model_ahead_33 hl (by decide) rfl (fun ls hl => ?_)
 refine lv_iload hx hb d_Model_ahead_35 (lv_at hl 5 rfl) ?_
 refine lv_iconst (v := 3) hx hb d_Model_ahead_37 (by decide) ?_
 refine lv_icmp_eq (tgt := 62) hx hb d_Model_ahead_38 (by decide) (fun c2 => ?_) (fun c2 => ?_)
 · have h := h.1 c2
   exact cp_Model_ahead_62 C K (fun x1 x2 x3 x6 y5 u H locs ls hP hS hl h => cp_Model_ahead_67 C K x1 x2 x3 x6 y5 u H locs ls hP hS hl h) x1 x2 x3 y6 u _ _ _ hP hS (lv_sub hl [1, 2, 3, 4, 0] rfl) h
 · have h := h.2 c2
   refine lv_iload hx hb d_Model_ahead_41 (lv_at hl 5 rfl) ?_
   refine lv_iconst (v := 2) hx hb d_Model_ahead_43 (by decide) ?_
   refine lv_icmp_ne (tgt := 52) hx hb d_Model_ahead_44 (by decide) (fun c7 => ?_) (fun c7 => ?_)
   · have h := h.2 c7
     exact cp_Model_ahead_52 C K (fun x1 x2 x3 x6 u H locs ls hP hS hl h => cp_Model_ahead_62 C K (fun x1 x2 x3 x6 y5 u H locs ls hP hS hl h => cp_Model_ahead_67 C K x1 x2 x3 x6 y5 u H locs ls hP hS hl h) x1 x2 x3 x6 u H locs ls hP hS hl h) (fun x1 x2 x3 x6 y5 u H locs ls hP hS hl h => cp_Model_ahead_67 C K x1 x2 x3 x6 y5 u H locs ls hP hS hl h) x1 x2 x3 x4 x5 y6 u _ _ _ hP hS (lv_sub hl [1, 2, 3, 4, 5, 6, 0] rfl) h
   · have h := h.1 c7
     refine lv_iload hx hb d_Model_ahead_47 (lv_at hl 6 rfl) ?_
     refine lv_if_ne (tgt := 62) hx hb d_Model_ahead_49 (by decide) (fun c10 => ?_) (fun c10 => ?_)
     · have h := h.2 c10
       exact cp_Model_ahead_62 C K (fun x1 x2 x3 x6 y5 u H locs ls hP hS hl h => cp_Model_ahead_67 C K x1 x2 x3 x6 y5 u H locs ls hP hS hl h) x1 x2 x3 y6 u _ _ _ hP hS (lv_sub hl [1, 2, 3, 4, 0] rfl) h
     · have h := h.1 c10
       exact cp_Model_ahead_52 C K (fun x1 x2 x3 x6 u H locs ls hP hS hl h => cp_Model_ahead_62 C K (fun x1 x2 x3 x6 y5 u H locs ls hP hS hl h => cp_Model_ahead_67 C K x1 x2 x3 x6 y5 u H locs ls hP hS hl h) x1 x2 x3 x6 u H locs ls hP hS hl h) (fun x1 x2 x3 x6 y5 u H locs ls hP hS hl h => cp_Model_ahead_67 C K x1 x2 x3 x6 y5 u H locs ls hP hS hl h) x1 x2 x3 x4 x5 y6 u _ _ _ hP hS (lv_sub hl [1, 2, 3, 4, 5, 6, 0] rfl) h
set_option maxHeartbeats 4000000 in
set_option maxRecDepth 100000 in
theorem st_Model_ahead {p : Program} {l : Launch} {e : Env} {s : State} {m : MethodId} {args : Array Value} {below : List Frame} {meth : Method} {c : Code} {D : va_G} {a : Nat → Nat} {cA cZ : ClassId} {G : pG} {A : Nat → Prop} {Q : Int32 → pS → Prop} (C : pw_C p s m args meth c b_Model_ahead 8 R_Model (some .boolean) w_Model_ahead A) (K : pw_K s D 15 a (rT cA cZ) A) (x1 x2 x3 x4 x5 : Int32) (u : pS) (ls : Array Slot) (hP : va_P D vwCl (rw a cA cZ G u) s.heap) (hl : lv_has ls 8 [(0, .ref (a 0)), (1, .int x1), (2, .int x2), (3, .int x3), (4, .int x4), (5, .int x5)]) (h : wp_Model_ahead G x1 x2 x3 x4 x5 u Q) : W p l e ({ frames := 2, cells := 0, slots := 0, locals := 45 } : Room) s m args below meth c s.heap [] 0 0 (pw_Ei below args s D (rw a cA cZ G) (rT cA cZ) A Q) (F0 m 0 ls []) := by
 obtain ⟨hx, hb, hr, hml, hown, hts, hlocks, hA⟩ := id C
 obtain ⟨hK, hI, hF⟩ := id K
 have hD : ∀ u, va_D A (rw a cA cZ G u) := fun u => rw_D hI hF
 have hS : va_S A s.heap s.heap [] := va_S.rf
 have h : wp_Model_ahead G x1 x2 x3 x4 x5 u Q := h
 refine lv_iload hx hb d_Model_ahead_0 (lv_at hl 4 rfl) ?_
 refine lv_iconst (v := 2) hx hb d_Model_ahead_2 (by decide) ?_
 refine lv_icmp_eq (tgt := 28) hx hb d_Model_ahead_3 (by decide) (fun c1 => ?_) (fun c1 => ?_)
 · have h := h.1 c1
   exact cp_Model_ahead_28 C K (fun x1 x2 x3 x4 x5 y6 u H locs ls hP hS hl h => cp_Model_ahead_33 C K x1 x2 x3 x4 x5 y6 u H locs ls hP hS hl h) x1 x2 x3 x4 x5 u _ _ _ hP hS (lv_sub hl [0, 1, 2, 3, 4, 5] rfl) h
 · have h := h.2 c1
   refine lv_iload hx hb d_Model_ahead_6 (lv_at hl 4 rfl) ?_
   refine lv_iconst (v := 1) hx hb d_Model_ahead_8 (by decide) ?_
   refine lv_icmp_ne (tgt := 17) hx hb d_Model_ahead_9 (by decide) (fun c11 => ?_) (fun c11 => ?_)
   · have h := h.2 c11
     exact cp_Model_ahead_17 C K (fun x1 x2 x3 x4 x5 u H locs ls hP hS hl h => cp_Model_ahead_28 C K (fun x1 x2 x3 x4 x5 y6 u H locs ls hP hS hl h => cp_Model_ahead_33 C K x1 x2 x3 x4 x5 y6 u H locs ls hP hS hl h) x1 x2 x3 x4 x5 u H locs ls hP hS hl h) (fun x1 x2 x3 x4 x5 y6 u H locs ls hP hS hl h => cp_Model_ahead_33 C K x1 x2 x3 x4 x5 y6 u H locs ls hP hS hl h) x1 x2 x3 x4 x5 u _ _ _ hP hS (lv_sub hl [0, 1, 2, 3, 4, 5] rfl) h
   · have h := h.1 c11
     refine lv_iload hx hb d_Model_ahead_12 (lv_at hl 5 rfl) ?_
     refine lv_if_ne (tgt := 28) hx hb d_Model_ahead_14 (by decide) (fun c14 => ?_) (fun c14 => ?_)
     · have h := h.2 c14
       exact cp_Model_ahead_28 C K (fun x1 x2 x3 x4 x5 y6 u H locs ls hP hS hl h => cp_Model_ahead_33 C K x1 x2 x3 x4 x5 y6 u H locs ls hP hS hl h) x1 x2 x3 x4 x5 u _ _ _ hP hS (lv_sub hl [0, 1, 2, 3, 4, 5] rfl) h
     · have h := h.1 c14
       exact cp_Model_ahead_17 C K (fun x1 x2 x3 x4 x5 u H locs ls hP hS hl h => cp_Model_ahead_28 C K (fun x1 x2 x3 x4 x5 y6 u H locs ls hP hS hl h => cp_Model_ahead_33 C K x1 x2 x3 x4 x5 y6 u H locs ls hP hS hl h) x1 x2 x3 x4 x5 u H locs ls hP hS hl h) (fun x1 x2 x3 x4 x5 y6 u H locs ls hP hS hl h => cp_Model_ahead_33 C K x1 x2 x3 x4 x5 y6 u H locs ls hP hS hl h) x1 x2 x3 x4 x5 u _ _ _ hP hS (lv_sub hl [0, 1, 2, 3, 4, 5] rfl) h
set_option maxHeartbeats 4000000 in
set_option maxRecDepth 100000 in
theorem ct_Model_ahead (l : Launch) (D : va_G) (a : Nat → Nat) (cA cZ : ClassId) (G : pG) (sz : Nat) (x1 x2 x3 x4 x5 : Int32) (u : pS) (Q : Int32 → pS → Prop) (hI : pw_I 15 a) (h : wp_Model_ahead G x1 x2 x3 x4 x5 u Q) : Met l y_Model_ahead w_Model_ahead ({ frames := 2, cells := 0, slots := 0, locals := 45 } : Room) (va_Pc [.ref (a 0), .int x1, .int x2, .int x3, .int x4, .int x5] (pw_pre D (rw a cA cZ G) (rT cA cZ) sz u)) (va_Qi (fun (r : Int32) (u : pS) => Q r u) (pw_B D (rw a cA cZ G) (rT cA cZ)) (pw_F 15 a sz)) 0 0 (pw_F 15 a sz) := by
 refine Met.ofW (cc := b_Model_ahead) (maxL := 8) (ret := (some .boolean)) (by decide) rfl ?_
 intro p e s m args below meth c s₁ B hml hv
 obtain ⟨rfl, hsz, hP, hK⟩ := hv
 subst hsz
 have hl := lv_entry ([.ref (a 0), .int x1, .int x2, .int x3, .int x4, .int x5]) (n := 8) (Nat.le_of_ble_eq_true rfl)
 rw [lg_entry_eq]
 generalize (lg_sl ([.ref (a 0), .int x1, .int x2, .int x3, .int x4, .int x5]) ++ List.replicate (8 - (lg_sl ([.ref (a 0), .int x1, .int x2, .int x3, .int x4, .int x5])).length) Slot.unset).toArray = ls at hl ⊢
 exact st_Model_ahead (A := (pw_F 15 a s.heap.size)) ⟨B.exec, B.bytes, B.returns, hml, findClass_of_methodNamed B.named, atoms_spec (ws := w_Model_ahead) B.pre, B.notSynchronized, fun q hq => Or.inr hq⟩ ⟨hK, hI, fun k hk => Or.inl ⟨k, hk, rfl⟩⟩ x1 x2 x3 x4 x5 u ls hP hl h
set_option maxHeartbeats 4000000 in
set_option maxRecDepth 100000 in
theorem cp_Model_walk_131 {p : Program} {l : Launch} {e : Env} {s : State} {m : MethodId} {args : Array Value} {below : List Frame} {meth : Method} {c : Code} {D : va_G} {a : Nat → Nat} {cA cZ : ClassId} {G : pG} {A : Nat → Prop} {Q : pS → Prop} (C : pw_C p s m args meth c b_Model_walk 9 R_Model none w_Model_walk A) (K : pw_K s D 15 a (rT cA cZ) A) {k136 : Int32 → Int32 → Int32 → Int32 → Int32 → Int32 → Int32 → pS → Prop} (hk136 : ∀ (x1 x2 x3 x4 x5 x6 y7 : Int32) (u : pS) (H : Heap) (locs : List Loc) (ls : Array Slot), va_P D vwCl (rw a cA cZ G u) H → va_S A s.heap H locs → lv_has ls 9 [(0, .ref (a 0)), (1, .int x1), (2, .int x2), (3, .int x3), (4, .int x4), (5, .int x5), (6, .int x6)] → k136 x1 x2 x3 x4 x5 x6 y7 u → W p l e ({ frames := 3, cells := 0, slots := 0, locals := 72 } : Room) s m args below meth c H locs 0 0 (pw_Ev below args s D (rw a cA cZ G) (rT cA cZ) A Q) (F0 m 136 ls [.int y7])) : ∀ (x1 x2 x3 x4 x5 x6 : Int32) (u : pS) (H : Heap) (locs : List Loc) (ls : Array Slot), va_P D vwCl (rw a cA cZ G u) H → va_S A s.heap H locs → lv_has ls 9 [(0, .ref (a 0)), (1, .int x1), (2, .int x2), (3, .int x3), (4, .int x4), (5, .int x5), (6, .int x6)] → jn_Model_walk_131 G Q k136 x1 x2 x3 x4 x5 x6 u → W p l e ({ frames := 3, cells := 0, slots := 0, locals := 72 } : Room) s m args below meth c H locs 0 0 (pw_Ev below args s D (rw a cA cZ G) (rT cA cZ) A Q) (F0 m 131 ls []) := by
 obtain ⟨hx, hb, hr, hml, hown, hts, hlocks, hA⟩ := id C
 obtain ⟨hK, hI, hF⟩ := id K
 have hD : ∀ u, va_D A (rw a cA cZ G u) := fun u => rw_D hI hF
 intro x1 x2 x3 x4 x5 x6 u H locs ls hP hS hl h
 refine lv_iconst (v := 1) hx hb d_Model_walk_131 (by decide) ?_
 refine lv_goto (tgt := 136) hx hb d_Model_walk_132 (by decide) ?_
 exact hk136 x1 x2 x3 x4 x5 x6 1 u _ _ _ hP hS (lv_sub hl [0, 1, 2, 3, 4, 5, 6] rfl) h
set_option maxHeartbeats 4000000 in
set_option maxRecDepth 100000 in
theorem cp_Model_walk_173 {p : Program} {l : Launch} {e : Env} {s : State} {m : MethodId} {args : Array Value} {below : List Frame} {meth : Method} {c : Code} {D : va_G} {a : Nat → Nat} {cA cZ : ClassId} {G : pG} {A : Nat → Prop} {Q : pS → Prop} (C : pw_C p s m args meth c b_Model_walk 9 R_Model none w_Model_walk A) (K : pw_K s D 15 a (rT cA cZ) A) {k41 : Int32 → Int32 → Int32 → Int32 → Int32 → Int32 → Int32 → pS → Prop} (hk41 : ∀ (x1 x2 x3 x4 x5 x6 x7 : Int32) (u : pS) (H : Heap) (locs : List Loc) (ls : Array Slot), va_P D vwCl (rw a cA cZ G u) H → va_S A s.heap H locs → lv_has ls 9 [(0, .ref (a 0)), (1, .int x1), (2, .int x2), (3, .int x3), (4, .int x4), (5, .int x5), (6, .int x6), (7, .int x7)] → k41 x1 x2 x3 x4 x5 x6 x7 u → W p l e ({ frames := 3, cells := 0, slots := 0, locals := 72 } : Room) s m args below meth c H locs 0 0 (pw_Ev below args s D (rw a cA cZ G) (rT cA cZ) A Q) (F0 m 41 ls [])) : ∀ (x1 x2 x3 x4 x5 x6 x7 y8 : Int32) (u : pS) (H : Heap) (locs : List Loc) (ls : Array Slot), va_P D vwCl (rw a cA cZ G u) H → va_S A s.heap H locs → lv_has ls 9 [(0, .ref (a 0)), (1, .int x1), (2, .int x2), (3, .int x3), (4, .int x4), (5, .int x5), (6, .int x6), (7, .int x7)] → jn_Model_walk_173 G Q k41 x1 x2 x3 x4 x5 x6 x7 y8 u → W p l e ({ frames := 3, cells := 0, slots := 0, locals := 72 } : Room) s m args below meth c H locs 0 0 (pw_Ev below args s D (rw a cA cZ G) (rT cA cZ) A Q) (F0 m 173 ls [.int y8]) := by
 obtain ⟨hx, hb, hr, hml, hown, hts, hlocks, hA⟩ := id C
 obtain ⟨hK, hI, hF⟩ := id K
 have hD : ∀ u, va_D A (rw a cA cZ G u) := fun u => rw_D hI hF
 intro x1 x2 x3 x4 x5 x6 x7 y8 u H locs ls hP hS hl h
 refine lv_istore (lv' := [(8, .int y8), (0, .ref (a 0)), (1, .int x1), (2, .int x2), (3, .int x3), (4, .int x4), (5, .int x5), (6, .int x6), (7, .int x7)]) hx hb d_Model_walk_173 hl (by decide) rfl (fun ls hl => ?_)
 refine lv_iload hx hb d_Model_walk_175 (lv_at hl 8 rfl) ?_
 refine lv_if_eq (tgt := 215) hx hb d_Model_walk_177 (by decide) (fun c19 => ?_) (fun c19 => ?_)
 · have h := h.1 c19
   refine lv_iload hx hb d_Model_walk_215 (lv_at hl 7 rfl) ?_
   refine lv_iload hx hb d_Model_walk_217 (lv_at hl 0 rfl) ?_
   refine lv_iadd hx hb d_Model_walk_219 ?_
   refine lv_iconst (v := 4) hx hb d_Model_walk_220 (by decide) ?_
   refine lv_irem hx hb d_Model_walk_221 (by decide) ?_
   refine lv_topi (fun t20 et20 => ?_)
   have h := h t20 et20
   refine lv_istore (lv' := [(6, .int t20), (8, .int y8), (0, .ref (a 0)), (1, .int x1), (2, .int x2), (3, .int x3), (4, .int x4), (5, .int x5), (7, .int x7)]) hx hb d_Model_walk_222 hl (by decide) rfl (fun ls hl => ?_)
   refine lv_goto (tgt := 41) hx hb d_Model_walk_224 (by decide) ?_
   exact hk41 x1 x2 x3 x4 x5 t20 x7 u _ _ _ hP hS (lv_sub hl [2, 3, 4, 5, 6, 7, 0, 8] rfl) h
 · have h := h.2 c19
   refine lv_iload hx hb d_Model_walk_180 (lv_at hl 0 rfl) ?_
   refine lv_if_le (tgt := 215) hx hb d_Model_walk_182 (by decide) (fun c21 => ?_) (fun c21 => ?_)
   · have h := h.1 c21
     refine lv_iload hx hb d_Model_walk_215 (lv_at hl 7 rfl) ?_
     refine lv_iload hx hb d_Model_walk_217 (lv_at hl 0 rfl) ?_
     refine lv_iadd hx hb d_Model_walk_219 ?_
     refine lv_iconst (v := 4) hx hb d_Model_walk_220 (by decide) ?_
     refine lv_irem hx hb d_Model_walk_221 (by decide) ?_
     refine lv_topi (fun t22 et22 => ?_)
     have h := h t22 et22
     refine lv_istore (lv' := [(6, .int t22), (8, .int y8), (0, .ref (a 0)), (1, .int x1), (2, .int x2), (3, .int x3), (4, .int x4), (5, .int x5), (7, .int x7)]) hx hb d_Model_walk_222 hl (by decide) rfl (fun ls hl => ?_)
     refine lv_goto (tgt := 41) hx hb d_Model_walk_224 (by decide) ?_
     exact hk41 x1 x2 x3 x4 x5 t22 x7 u _ _ _ hP hS (lv_sub hl [2, 3, 4, 5, 6, 7, 0, 8] rfl) h
   · have h := h.2 c21
     refine lv_aload_n hx hb d_Model_walk_185 rfl (lv_at hl 1 rfl) ?_
     refine va_get (D := D) (ci := 1) (v := .ref (a 8)) (C := R_Model) (T := T_Model) (N := 23) hx hb hts in_Model hown hK hP 0 rw_at_0 rfl 13 (by decide) (hts _ (List.mem_cons_of_mem _ kw_848)) (fun _ h9 => h9) rfl d_Model_walk_186 ?_
     refine lv_aload_n hx hb d_Model_walk_189 rfl (lv_at hl 1 rfl) ?_
     refine va_get (D := D) (ci := 1) (v := .int (u.1 3)) (C := R_Model) (T := T_Model) (N := 23) hx hb hts in_Model hown hK hP 0 rw_at_0 rfl 15 (by decide) (hts _ (List.mem_cons_of_mem _ kw_850)) (fun _ h9 => h9) rfl d_Model_walk_190 ?_
     refine lv_iload_n hx hb d_Model_walk_193 rfl (lv_at hl 3 rfl) ?_
     refine va_iast hx hb hK hP (hD _) hS 8 0 rw_at_8 rfl h.1 d_Model_walk_194 (fun H locs hP _ hS => ?_)
     obtain ⟨u23, eu23⟩ : ∃ z, z = pw_sa u 7 (upd (u.2 7) (u.1 3).toNatClampNeg x2) := ⟨_, rfl⟩
     rw [rw_sa_8, ← eu23] at hP
     have h := h.2 u23 eu23
     refine lv_aload_n hx hb d_Model_walk_195 rfl (lv_at hl 1 rfl) ?_
     refine va_get (D := D) (ci := 1) (v := .ref (a 9)) (C := R_Model) (T := T_Model) (N := 23) hx hb hts in_Model hown hK hP 0 rw_at_0 rfl 14 (by decide) (hts _ (List.mem_cons_of_mem _ kw_849)) (fun _ h9 => h9) rfl d_Model_walk_196 ?_
     refine lv_aload_n hx hb d_Model_walk_199 rfl (lv_at hl 1 rfl) ?_
     refine va_get (D := D) (ci := 1) (v := .int (u23.1 3)) (C := R_Model) (T := T_Model) (N := 23) hx hb hts in_Model hown hK hP 0 rw_at_0 rfl 15 (by decide) (hts _ (List.mem_cons_of_mem _ kw_850)) (fun _ h9 => h9) rfl d_Model_walk_200 ?_
     refine lv_iload_n hx hb d_Model_walk_203 rfl (lv_at hl 4 rfl) ?_
     refine va_iast hx hb hK hP (hD _) hS 9 0 rw_at_9 rfl h.1 d_Model_walk_204 (fun H locs hP _ hS => ?_)
     obtain ⟨u24, eu24⟩ : ∃ z, z = pw_sa u23 8 (upd (u23.2 8) (u23.1 3).toNatClampNeg x3) := ⟨_, rfl⟩
     rw [rw_sa_9, ← eu24] at hP
     have h := h.2 u24 eu24
     refine lv_aload_n hx hb d_Model_walk_205 rfl (lv_at hl 1 rfl) ?_
     refine lv_dup hx hb d_Model_walk_206 rfl ?_
     refine va_get (D := D) (ci := 1) (v := .int (u24.1 3)) (C := R_Model) (T := T_Model) (N := 23) hx hb hts in_Model hown hK hP 0 rw_at_0 rfl 15 (by decide) (hts _ (List.mem_cons_of_mem _ kw_850)) (fun _ h9 => h9) rfl d_Model_walk_207 ?_
     refine lv_iconst (v := 1) hx hb d_Model_walk_210 (by decide) ?_
     refine lv_iadd hx hb d_Model_walk_211 ?_
     refine va_put (D := D) (ci := 1) (v := .int ((u24.1 3) + 1)) (ty := .int) (C := R_Model) (T := T_Model) (N := 23) hx hb hts in_Model ty_Model tyok_Model nm_Model hown hK hP (hD _) hS 0 rw_at_0 rfl 15 (by decide) (hts _ (List.mem_cons_of_mem _ kw_850)) (fun _ h9 => h9) rfl (by decide +kernel) rfl rfl (Nat.le_of_ble_eq_true rfl) d_Model_walk_212 (fun H locs hP _ hS => ?_)
     obtain ⟨u25, eu25⟩ : ∃ z, z = pw_si u24 3 ((u24.1 3) + 1) := ⟨_, rfl⟩
     rw [rw_si_0_15, ← eu25] at hP
     have h := h u25 eu25
     refine lv_iload hx hb d_Model_walk_215 (lv_at hl 7 rfl) ?_
     refine lv_iload hx hb d_Model_walk_217 (lv_at hl 0 rfl) ?_
     refine lv_iadd hx hb d_Model_walk_219 ?_
     refine lv_iconst (v := 4) hx hb d_Model_walk_220 (by decide) ?_
     refine lv_irem hx hb d_Model_walk_221 (by decide) ?_
     refine lv_topi (fun t26 et26 => ?_)
     have h := h t26 et26
     refine lv_istore (lv' := [(6, .int t26), (8, .int y8), (0, .ref (a 0)), (1, .int x1), (2, .int x2), (3, .int x3), (4, .int x4), (5, .int x5), (7, .int x7)]) hx hb d_Model_walk_222 hl (by decide) rfl (fun ls hl => ?_)
     refine lv_goto (tgt := 41) hx hb d_Model_walk_224 (by decide) ?_
     exact hk41 x1 x2 x3 x4 x5 t26 x7 u25 _ _ _ hP hS (lv_sub hl [2, 3, 4, 5, 6, 7, 0, 8] rfl) h
set_option maxHeartbeats 4000000 in
set_option maxRecDepth 100000 in
theorem cp_Model_walk_136 {p : Program} {l : Launch} {e : Env} {s : State} {m : MethodId} {args : Array Value} {below : List Frame} {meth : Method} {c : Code} {D : va_G} {a : Nat → Nat} {cA cZ : ClassId} {G : pG} {A : Nat → Prop} {Q : pS → Prop} (C : pw_C p s m args meth c b_Model_walk 9 R_Model none w_Model_walk A) (K : pw_K s D 15 a (rT cA cZ) A) {k41 : Int32 → Int32 → Int32 → Int32 → Int32 → Int32 → Int32 → pS → Prop} (hk41 : ∀ (x1 x2 x3 x4 x5 x6 x7 : Int32) (u : pS) (H : Heap) (locs : List Loc) (ls : Array Slot), va_P D vwCl (rw a cA cZ G u) H → va_S A s.heap H locs → lv_has ls 9 [(0, .ref (a 0)), (1, .int x1), (2, .int x2), (3, .int x3), (4, .int x4), (5, .int x5), (6, .int x6), (7, .int x7)] → k41 x1 x2 x3 x4 x5 x6 x7 u → W p l e ({ frames := 3, cells := 0, slots := 0, locals := 72 } : Room) s m args below meth c H locs 0 0 (pw_Ev below args s D (rw a cA cZ G) (rT cA cZ) A Q) (F0 m 41 ls [])) : ∀ (x1 x2 x3 x4 x5 x6 y7 : Int32) (u : pS) (H : Heap) (locs : List Loc) (ls : Array Slot), va_P D vwCl (rw a cA cZ G u) H → va_S A s.heap H locs → lv_has ls 9 [(0, .ref (a 0)), (1, .int x1), (2, .int x2), (3, .int x3), (4, .int x4), (5, .int x5), (6, .int x6)] → jn_Model_walk_136 G Q k41 x1 x2 x3 x4 x5 x6 y7 u → W p l e ({ frames := 3, cells := 0, slots := 0, locals := 72 } : Room) s m args below meth c H locs 0 0 (pw_Ev below args s D (rw a cA cZ G) (rT cA cZ) A Q) (F0 m 136 ls [.int y7]) := by
 obtain ⟨hx, hb, hr, hml, hown, hts, hlocks, hA⟩ := id C
 obtain ⟨hK, hI, hF⟩ := id K
 have hD : ∀ u, va_D A (rw a cA cZ G u) := fun u => rw_D hI hF
 intro x1 x2 x3 x4 x5 x6 y7 u H locs ls hP hS hl h
 refine lv_istore (lv' := [(7, .int y7), (0, .ref (a 0)), (1, .int x1), (2, .int x2), (3, .int x3), (4, .int x4), (5, .int x5), (6, .int x6)]) hx hb d_Model_walk_136 hl (by decide) rfl (fun ls hl => ?_)
 refine lv_aload_n hx hb d_Model_walk_138 rfl (lv_at hl 1 rfl) ?_
 refine lv_iload_n hx hb d_Model_walk_139 rfl (lv_at hl 2 rfl) ?_
 refine lv_iload_n hx hb d_Model_walk_140 rfl (lv_at hl 3 rfl) ?_
 refine lv_iload_n hx hb d_Model_walk_141 rfl (lv_at hl 4 rfl) ?_
 refine lv_iload hx hb d_Model_walk_142 (lv_at hl 7 rfl) ?_
 refine lv_iconst (v := 1) hx hb d_Model_walk_144 (by decide) ?_
 refine cc_i (va_runV (As := [.int x1, .int x2, .int x3, .int x6, .int 1]) (rest := []) ⟨hx, hb, hml, hown, hts⟩ (ct_Model_ahead l D a cA cZ G _ x1 x2 x3 x6 1 u _ hI h) (pw_cwV 5 hts kw_995 kw_57 kw_992 kw_994 kw_36 (by decide +kernel) ⟨Nat.le_of_ble_eq_true rfl, Nat.le_of_ble_eq_true rfl⟩) ⟨pw_blind, va_recv hK hP (ci := 1) (q0 := 0) rfl rw_at_0, fun U hU hW => ⟨rfl, by rw [hU], by rw [hU]; exact hP, va_K.moved hW.alike hK⟩⟩ rfl rfl hl.1 rfl (lv_room (Nat.le_of_ble_eq_true rfl)) d_Model_walk_145 ⟨Nat.le_of_ble_eq_true rfl, Nat.le_of_ble_eq_true rfl⟩) hS hF hA (fun r14 u13 H locs hP hS h => ?_)
 refine lv_if_ne (tgt := 155) hx hb d_Model_walk_148 (by decide) (fun c15 => ?_) (fun c15 => ?_)
 · have h := h.2 c15
   refine lv_aload_n hx hb d_Model_walk_155 rfl (lv_at hl 1 rfl) ?_
   refine lv_iload_n hx hb d_Model_walk_156 rfl (lv_at hl 2 rfl) ?_
   refine lv_iload_n hx hb d_Model_walk_157 rfl (lv_at hl 3 rfl) ?_
   refine lv_iload_n hx hb d_Model_walk_158 rfl (lv_at hl 4 rfl) ?_
   refine lv_iload hx hb d_Model_walk_159 (lv_at hl 7 rfl) ?_
   refine lv_iconst (v := 0) hx hb d_Model_walk_161 (by decide) ?_
   refine cc_i (va_runV (As := [.int x1, .int x2, .int x3, .int x6, .int 0]) (rest := []) ⟨hx, hb, hml, hown, hts⟩ (ct_Model_ahead l D a cA cZ G _ x1 x2 x3 x6 0 u13 _ hI h) (pw_cwV 5 hts kw_995 kw_57 kw_992 kw_994 kw_36 (by decide +kernel) ⟨Nat.le_of_ble_eq_true rfl, Nat.le_of_ble_eq_true rfl⟩) ⟨pw_blind, va_recv hK hP (ci := 1) (q0 := 0) rfl rw_at_0, fun U hU hW => ⟨rfl, by rw [hU], by rw [hU]; exact hP, va_K.moved hW.alike hK⟩⟩ rfl rfl hl.1 rfl (lv_room (Nat.le_of_ble_eq_true rfl)) d_Model_walk_162 ⟨Nat.le_of_ble_eq_true rfl, Nat.le_of_ble_eq_true rfl⟩) hS hF hA (fun r17 u16 H locs hP hS h => ?_)
   refine lv_if_eq (tgt := 172) hx hb d_Model_walk_165 (by decide) (fun c18 => ?_) (fun c18 => ?_)
   · have h := h.1 c18
     refine lv_iconst (v := 0) hx hb d_Model_walk_172 (by decide) ?_
     exact cp_Model_walk_173 C K hk41 x1 x2 x3 x4 x5 x6 y7 0 u16 _ _ _ hP hS (lv_sub hl [1, 2, 3, 4, 5, 6, 7, 0] rfl) h
   · have h := h.2 c18
     refine lv_iconst (v := 3) hx hb d_Model_walk_168 (by decide) ?_
     refine lv_goto (tgt := 173) hx hb d_Model_walk_169 (by decide) ?_
     exact cp_Model_walk_173 C K hk41 x1 x2 x3 x4 x5 x6 y7 3 u16 _ _ _ hP hS (lv_sub hl [1, 2, 3, 4, 5, 6, 7, 0] rfl) h
 · have h := h.1 c15
   refine lv_iconst (v := 1) hx hb d_Model_walk_151 (by decide) ?_
   refine lv_goto (tgt := 173) hx hb d_Model_walk_152 (by decide) ?_
   exact cp_Model_walk_173 C K hk41 x1 x2 x3 x4 x5 x6 y7 1 u13 _ _ _ hP hS (lv_sub hl [1, 2, 3, 4, 5, 6, 7, 0] rfl) h
set_option maxHeartbeats 4000000 in
set_option maxRecDepth 100000 in
theorem cp_Model_walk_117 {p : Program} {l : Launch} {e : Env} {s : State} {m : MethodId} {args : Array Value} {below : List Frame} {meth : Method} {c : Code} {D : va_G} {a : Nat → Nat} {cA cZ : ClassId} {G : pG} {A : Nat → Prop} {Q : pS → Prop} (C : pw_C p s m args meth c b_Model_walk 9 R_Model none w_Model_walk A) (K : pw_K s D 15 a (rT cA cZ) A) {k41 : Int32 → Int32 → Int32 → Int32 → Int32 → Int32 → Int32 → pS → Prop} (hk41 : ∀ (x1 x2 x3 x4 x5 x6 x7 : Int32) (u : pS) (H : Heap) (locs : List Loc) (ls : Array Slot), va_P D vwCl (rw a cA cZ G u) H → va_S A s.heap H locs → lv_has ls 9 [(0, .ref (a 0)), (1, .int x1), (2, .int x2), (3, .int x3), (4, .int x4), (5, .int x5), (6, .int x6), (7, .int x7)] → k41 x1 x2 x3 x4 x5 x6 x7 u → W p l e ({ frames := 3, cells := 0, slots := 0, locals := 72 } : Room) s m args below meth c H locs 0 0 (pw_Ev below args s D (rw a cA cZ G) (rT cA cZ) A Q) (F0 m 41 ls [])) : ∀ (x1 x2 x4 x5 x6 y6 y7 : Int32) (u : pS) (H : Heap) (locs : List Loc) (ls : Array Slot), va_P D vwCl (rw a cA cZ G u) H → va_S A s.heap H locs → lv_has ls 9 [(0, .ref (a 0)), (1, .int x1), (2, .int x2), (4, .int x4), (5, .int x5), (6, .int x6)] → jn_Model_walk_117 G Q k41 x1 x2 x4 x5 x6 y6 y7 u → W p l e ({ frames := 3, cells := 0, slots := 0, locals := 72 } : Room) s m args below meth c H locs 0 0 (pw_Ev below args s D (rw a cA cZ G) (rT cA cZ) A Q) (F0 m 117 ls [.int y6, .int y7]) := by
 obtain ⟨hx, hb, hr, hml, hown, hts, hlocks, hA⟩ := id C
 obtain ⟨hK, hI, hF⟩ := id K
 have hD : ∀ u, va_D A (rw a cA cZ G u) := fun u => rw_D hI hF
 intro x1 x2 x4 x5 x6 y6 y7 u H locs ls hP hS hl h
 refine lv_iadd hx hb d_Model_walk_117 ?_
 refine lv_topi (fun t11 et11 => ?_)
 have h := h t11 et11
 refine lv_istore_n (lv' := [(3, .int t11), (0, .ref (a 0)), (1, .int x1), (2, .int x2), (4, .int x4), (5, .int x5), (6, .int x6)]) hx hb d_Model_walk_118 rfl hl (by decide) rfl (fun ls hl => ?_)
 refine lv_iload_n hx hb d_Model_walk_119 rfl (lv_at hl 3 rfl) ?_
 refine lv_iload hx hb d_Model_walk_120 (lv_at hl 4 rfl) ?_
 refine lv_icmp_ne (tgt := 131) hx hb d_Model_walk_122 (by decide) (fun c12 => ?_) (fun c12 => ?_)
 · have h := h.2 c12
   exact cp_Model_walk_131 C K (fun x1 x2 x3 x4 x5 x6 y7 u H locs ls hP hS hl h => cp_Model_walk_136 C K hk41 x1 x2 x3 x4 x5 x6 y7 u H locs ls hP hS hl h) x1 x2 t11 x4 x5 x6 u _ _ _ hP hS (lv_sub hl [1, 2, 3, 0, 4, 5, 6] rfl) h
 · have h := h.1 c12
   refine lv_iload_n hx hb d_Model_walk_125 rfl (lv_at hl 0 rfl) ?_
   refine lv_iload hx hb d_Model_walk_126 (lv_at hl 5 rfl) ?_
   refine lv_icmp_eq (tgt := 135) hx hb d_Model_walk_128 (by decide) (fun c27 => ?_) (fun c27 => ?_)
   · have h := h.1 c27
     refine lv_iconst (v := 0) hx hb d_Model_walk_135 (by decide) ?_
     exact cp_Model_walk_136 C K hk41 x1 x2 t11 x4 x5 x6 0 u _ _ _ hP hS (lv_sub hl [1, 2, 3, 0, 4, 5, 6] rfl) h
   · have h := h.2 c27
     exact cp_Model_walk_131 C K (fun x1 x2 x3 x4 x5 x6 y7 u H locs ls hP hS hl h => cp_Model_walk_136 C K hk41 x1 x2 x3 x4 x5 x6 y7 u H locs ls hP hS hl h) x1 x2 t11 x4 x5 x6 u _ _ _ hP hS (lv_sub hl [1, 2, 3, 0, 4, 5, 6] rfl) h
set_option maxHeartbeats 4000000 in
set_option maxRecDepth 100000 in
theorem cp_Model_walk_93 {p : Program} {l : Launch} {e : Env} {s : State} {m : MethodId} {args : Array Value} {below : List Frame} {meth : Method} {c : Code} {D : va_G} {a : Nat → Nat} {cA cZ : ClassId} {G : pG} {A : Nat → Prop} {Q : pS → Prop} (C : pw_C p s m args meth c b_Model_walk 9 R_Model none w_Model_walk A) (K : pw_K s D 15 a (rT cA cZ) A) {k41 : Int32 → Int32 → Int32 → Int32 → Int32 → Int32 → Int32 → pS → Prop} (hk41 : ∀ (x1 x2 x3 x4 x5 x6 x7 : Int32) (u : pS) (H : Heap) (locs : List Loc) (ls : Array Slot), va_P D vwCl (rw a cA cZ G u) H → va_S A s.heap H locs → lv_has ls 9 [(0, .ref (a 0)), (1, .int x1), (2, .int x2), (3, .int x3), (4, .int x4), (5, .int x5), (6, .int x6), (7, .int x7)] → k41 x1 x2 x3 x4 x5 x6 x7 u → W p l e ({ frames := 3, cells := 0, slots := 0, locals := 72 } : Room) s m args below meth c H locs 0 0 (pw_Ev below args s D (rw a cA cZ G) (rT cA cZ) A Q) (F0 m 41 ls [])) : ∀ (x1 x3 x4 x5 x6 y6 y7 : Int32) (u : pS) (H : Heap) (locs : List Loc) (ls : Array Slot), va_P D vwCl (rw a cA cZ G u) H → va_S A s.heap H locs → lv_has ls 9 [(0, .ref (a 0)), (1, .int x1), (3, .int x3), (4, .int x4), (5, .int x5), (6, .int x6)] → jn_Model_walk_93 G Q k41 x1 x3 x4 x5 x6 y6 y7 u → W p l e ({ frames := 3, cells := 0, slots := 0, locals := 72 } : Room) s m args below meth c H locs 0 0 (pw_Ev below args s D (rw a cA cZ G) (rT cA cZ) A Q) (F0 m 93 ls [.int y6, .int y7]) := by
 obtain ⟨hx, hb, hr, hml, hown, hts, hlocks, hA⟩ := id C
 obtain ⟨hK, hI, hF⟩ := id K
 have hD : ∀ u, va_D A (rw a cA cZ G u) := fun u => rw_D hI hF
 intro x1 x3 x4 x5 x6 y6 y7 u H locs ls hP hS hl h
 refine lv_iadd hx hb d_Model_walk_93 ?_
 refine lv_topi (fun t8 et8 => ?_)
 have h := h t8 et8
 refine lv_istore_n (lv' := [(2, .int t8), (0, .ref (a 0)), (1, .int x1), (3, .int x3), (4, .int x4), (5, .int x5), (6, .int x6)]) hx hb d_Model_walk_94 rfl hl (by decide) rfl (fun ls hl => ?_)
 refine lv_iload_n hx hb d_Model_walk_95 rfl (lv_at hl 3 rfl) ?_
 refine lv_iload hx hb d_Model_walk_96 (lv_at hl 6 rfl) ?_
 refine lv_iconst (v := 1) hx hb d_Model_walk_98 (by decide) ?_
 refine lv_icmp_ne (tgt := 106) hx hb d_Model_walk_99 (by decide) (fun c9 => ?_) (fun c9 => ?_)
 · have h := h.2 c9
   refine lv_iload hx hb d_Model_walk_106 (lv_at hl 6 rfl) ?_
   refine lv_iconst (v := 3) hx hb d_Model_walk_108 (by decide) ?_
   refine lv_icmp_ne (tgt := 116) hx hb d_Model_walk_109 (by decide) (fun c10 => ?_) (fun c10 => ?_)
   · have h := h.2 c10
     refine lv_iconst (v := 0) hx hb d_Model_walk_116 (by decide) ?_
     exact cp_Model_walk_117 C K hk41 x1 t8 x4 x5 x6 0 x3 u _ _ _ hP hS (lv_sub hl [1, 2, 0, 4, 5, 6] rfl) h
   · have h := h.1 c10
     refine lv_iconst (v := -1) hx hb d_Model_walk_112 (by decide) ?_
     refine lv_goto (tgt := 117) hx hb d_Model_walk_113 (by decide) ?_
     exact cp_Model_walk_117 C K hk41 x1 t8 x4 x5 x6 (-1) x3 u _ _ _ hP hS (lv_sub hl [1, 2, 0, 4, 5, 6] rfl) h
 · have h := h.1 c9
   refine lv_iconst (v := 1) hx hb d_Model_walk_102 (by decide) ?_
   refine lv_goto (tgt := 117) hx hb d_Model_walk_103 (by decide) ?_
   exact cp_Model_walk_117 C K hk41 x1 t8 x4 x5 x6 1 x3 u _ _ _ hP hS (lv_sub hl [1, 2, 0, 4, 5, 6] rfl) h
set_option maxHeartbeats 4000000 in
set_option maxRecDepth 100000 in
theorem cp_Model_walk_72 {p : Program} {l : Launch} {e : Env} {s : State} {m : MethodId} {args : Array Value} {below : List Frame} {meth : Method} {c : Code} {D : va_G} {a : Nat → Nat} {cA cZ : ClassId} {G : pG} {A : Nat → Prop} {Q : pS → Prop} (C : pw_C p s m args meth c b_Model_walk 9 R_Model none w_Model_walk A) (K : pw_K s D 15 a (rT cA cZ) A) {k41 : Int32 → Int32 → Int32 → Int32 → Int32 → Int32 → Int32 → pS → Prop} (hk41 : ∀ (x1 x2 x3 x4 x5 x6 x7 : Int32) (u : pS) (H : Heap) (locs : List Loc) (ls : Array Slot), va_P D vwCl (rw a cA cZ G u) H → va_S A s.heap H locs → lv_has ls 9 [(0, .ref (a 0)), (1, .int x1), (2, .int x2), (3, .int x3), (4, .int x4), (5, .int x5), (6, .int x6), (7, .int x7)] → k41 x1 x2 x3 x4 x5 x6 x7 u → W p l e ({ frames := 3, cells := 0, slots := 0, locals := 72 } : Room) s m args below meth c H locs 0 0 (pw_Ev below args s D (rw a cA cZ G) (rT cA cZ) A Q) (F0 m 41 ls [])) : ∀ (x1 x2 x3 x4 x5 x6 : Int32) (u : pS) (H : Heap) (locs : List Loc) (ls : Array Slot), va_P D vwCl (rw a cA cZ G u) H → va_S A s.heap H locs → lv_has ls 9 [(0, .ref (a 0)), (1, .int x1), (2, .int x2), (3, .int x3), (4, .int x4), (5, .int x5), (6, .int x6)] → jn_Model_walk_72 G Q k41 x1 x2 x3 x4 x5 x6 u → W p l e ({ frames := 3, cells := 0, slots := 0, locals := 72 } : Room) s m args below meth c H locs 0 0 (pw_Ev below args s D (rw a cA cZ G) (rT cA cZ) A Q) (F0 m 72 ls []) := by
 obtain ⟨hx, hb, hr, hml, hown, hts, hlocks, hA⟩ := id C
 obtain ⟨hK, hI, hF⟩ := id K
 have hD : ∀ u, va_D A (rw a cA cZ G u) := fun u => rw_D hI hF
 intro x1 x2 x3 x4 x5 x6 u H locs ls hP hS hl h
 refine lv_iload_n hx hb d_Model_walk_72 rfl (lv_at hl 2 rfl) ?_
 refine lv_iload hx hb d_Model_walk_73 (lv_at hl 6 rfl) ?_
 refine lv_if_ne (tgt := 82) hx hb d_Model_walk_75 (by decide) (fun c6 => ?_) (fun c6 => ?_)
 · have h := h.2 c6
   refine lv_iload hx hb d_Model_walk_82 (lv_at hl 6 rfl) ?_
   refine lv_iconst (v := 2) hx hb d_Model_walk_84 (by decide) ?_
   refine lv_icmp_ne (tgt := 92) hx hb d_Model_walk_85 (by decide) (fun c7 => ?_) (fun c7 => ?_)
   · have h := h.2 c7
     refine lv_iconst (v := 0) hx hb d_Model_walk_92 (by decide) ?_
     exact cp_Model_walk_93 C K hk41 x1 x3 x4 x5 x6 0 x2 u _ _ _ hP hS (lv_sub hl [0, 1, 3, 4, 5, 6] rfl) h
   · have h := h.1 c7
     refine lv_iconst (v := -1) hx hb d_Model_walk_88 (by decide) ?_
     refine lv_goto (tgt := 93) hx hb d_Model_walk_89 (by decide) ?_
     exact cp_Model_walk_93 C K hk41 x1 x3 x4 x5 x6 (-1) x2 u _ _ _ hP hS (lv_sub hl [0, 1, 3, 4, 5, 6] rfl) h
 · have h := h.1 c6
   refine lv_iconst (v := 1) hx hb d_Model_walk_78 (by decide) ?_
   refine lv_goto (tgt := 93) hx hb d_Model_walk_79 (by decide) ?_
   exact cp_Model_walk_93 C K hk41 x1 x3 x4 x5 x6 1 x2 u _ _ _ hP hS (lv_sub hl [0, 1, 3, 4, 5, 6] rfl) h
set_option maxHeartbeats 4000000 in
set_option maxRecDepth 100000 in
theorem cp_Model_walk_41 {p : Program} {l : Launch} {e : Env} {s : State} {m : MethodId} {args : Array Value} {below : List Frame} {meth : Method} {c : Code} {D : va_G} {a : Nat → Nat} {cA cZ : ClassId} {G : pG} {A : Nat → Prop} {Q : pS → Prop} (C : pw_C p s m args meth c b_Model_walk 9 R_Model none w_Model_walk A) (K : pw_K s D 15 a (rT cA cZ) A) : ∀ (n : Nat), ∀ (x1 x2 x3 x4 x5 x6 x7 : Int32) (u : pS) (H : Heap) (locs : List Loc) (ls : Array Slot), va_P D vwCl (rw a cA cZ G u) H → va_S A s.heap H locs → lv_has ls 9 [(0, .ref (a 0)), (1, .int x1), (2, .int x2), (3, .int x3), (4, .int x4), (5, .int x5), (6, .int x6), (7, .int x7)] → lp_Model_walk_41 G Q n x1 x2 x3 x4 x5 x6 x7 u → W p l e ({ frames := 3, cells := 0, slots := 0, locals := 72 } : Room) s m args below meth c H locs 0 0 (pw_Ev below args s D (rw a cA cZ G) (rT cA cZ) A Q) (F0 m 41 ls []) := by
 obtain ⟨hx, hb, hr, hml, hown, hts, hlocks, hA⟩ := id C
 obtain ⟨hK, hI, hF⟩ := id K
 have hD : ∀ u, va_D A (rw a cA cZ G u) := fun u => rw_D hI hF
 intro n
 induction n with
 | zero => intro x1 x2 x3 x4 x5 x6 x7 u H locs ls hP hS hl h; exact h.elim
 | succ n ih =>
   intro x1 x2 x3 x4 x5 x6 x7 u H locs ls hP hS hl h
   refine lv_iload hx hb d_Model_walk_41 (lv_at hl 7 rfl) ?_
   refine lv_if_eq (tgt := 227) hx hb d_Model_walk_43 (by decide) (fun c4 => ?_) (fun c4 => ?_)
   · have h := h.1 c4
     exact W.vret hx hb hr (fun t ht hW => ⟨⟨u, rfl, h, by rw [ht]; exact hP, va_K.moved hW.alike hK⟩, hS.F ht⟩) hS.2.2 d_Model_walk_227 hlocks
   · have h := h.2 c4
     refine lv_aload_n hx hb d_Model_walk_46 rfl (lv_at hl 0 rfl) ?_
     refine va_get (D := D) (ci := 1) (v := .int (u.1 3)) (C := R_Model) (T := T_Model) (N := 23) hx hb hts in_Model hown hK hP 0 rw_at_0 rfl 15 (by decide) (hts _ (List.mem_cons_of_mem _ kw_850)) (fun _ h9 => h9) rfl d_Model_walk_47 ?_
     refine lv_if_ne (tgt := 72) hx hb d_Model_walk_50 (by decide) (fun c5 => ?_) (fun c5 => ?_)
     · have h := h.2 c5
       exact cp_Model_walk_72 C K ih x1 x2 x3 x4 x5 x6 u _ _ _ hP hS (lv_sub hl [0, 1, 2, 3, 4, 5, 6] rfl) h
     · have h := h.1 c5
       refine lv_aload_n hx hb d_Model_walk_53 rfl (lv_at hl 0 rfl) ?_
       refine va_get (D := D) (ci := 1) (v := .ref (a 8)) (C := R_Model) (T := T_Model) (N := 23) hx hb hts in_Model hown hK hP 0 rw_at_0 rfl 13 (by decide) (hts _ (List.mem_cons_of_mem _ kw_848)) (fun _ h9 => h9) rfl d_Model_walk_54 ?_
       refine lv_iconst (v := 0) hx hb d_Model_walk_57 (by decide) ?_
       refine lv_iload_n hx hb d_Model_walk_58 rfl (lv_at hl 2 rfl) ?_
       refine va_iast hx hb hK hP (hD _) hS 8 0 rw_at_8 rfl h.1 d_Model_walk_59 (fun H locs hP _ hS => ?_)
       obtain ⟨u28, eu28⟩ : ∃ z, z = pw_sa u 7 (upd (u.2 7) (0 : Int32).toNatClampNeg x2) := ⟨_, rfl⟩
       rw [rw_sa_8, ← eu28] at hP
       have h := h.2 u28 eu28
       refine lv_aload_n hx hb d_Model_walk_60 rfl (lv_at hl 0 rfl) ?_
       refine va_get (D := D) (ci := 1) (v := .ref (a 9)) (C := R_Model) (T := T_Model) (N := 23) hx hb hts in_Model hown hK hP 0 rw_at_0 rfl 14 (by decide) (hts _ (List.mem_cons_of_mem _ kw_849)) (fun _ h9 => h9) rfl d_Model_walk_61 ?_
       refine lv_iconst (v := 0) hx hb d_Model_walk_64 (by decide) ?_
       refine lv_iload_n hx hb d_Model_walk_65 rfl (lv_at hl 3 rfl) ?_
       refine va_iast hx hb hK hP (hD _) hS 9 0 rw_at_9 rfl h.1 d_Model_walk_66 (fun H locs hP _ hS => ?_)
       obtain ⟨u29, eu29⟩ : ∃ z, z = pw_sa u28 8 (upd (u28.2 8) (0 : Int32).toNatClampNeg x3) := ⟨_, rfl⟩
       rw [rw_sa_9, ← eu29] at hP
       have h := h.2 u29 eu29
       refine lv_aload_n hx hb d_Model_walk_67 rfl (lv_at hl 0 rfl) ?_
       refine lv_iconst (v := 1) hx hb d_Model_walk_68 (by decide) ?_
       refine va_put (D := D) (ci := 1) (v := .int 1) (ty := .int) (C := R_Model) (T := T_Model) (N := 23) hx hb hts in_Model ty_Model tyok_Model nm_Model hown hK hP (hD _) hS 0 rw_at_0 rfl 15 (by decide) (hts _ (List.mem_cons_of_mem _ kw_850)) (fun _ h9 => h9) rfl (by decide +kernel) rfl rfl (Nat.le_of_ble_eq_true rfl) d_Model_walk_69 (fun H locs hP _ hS => ?_)
       obtain ⟨u30, eu30⟩ : ∃ z, z = pw_si u29 3 1 := ⟨_, rfl⟩
       rw [rw_si_0_15, ← eu30] at hP
       have h := h u30 eu30
       exact cp_Model_walk_72 C K ih x1 x2 x3 x4 x5 x6 u30 _ _ _ hP hS (lv_sub hl [0, 1, 2, 3, 4, 5, 6] rfl) h
set_option maxHeartbeats 4000000 in
set_option maxRecDepth 100000 in
theorem st_Model_walk {p : Program} {l : Launch} {e : Env} {s : State} {m : MethodId} {args : Array Value} {below : List Frame} {meth : Method} {c : Code} {D : va_G} {a : Nat → Nat} {cA cZ : ClassId} {G : pG} {A : Nat → Prop} {Q : pS → Prop} (C : pw_C p s m args meth c b_Model_walk 9 R_Model none w_Model_walk A) (K : pw_K s D 15 a (rT cA cZ) A) (x1 : Int32) (u : pS) (ls : Array Slot) (hP : va_P D vwCl (rw a cA cZ G u) s.heap) (hl : lv_has ls 9 [(0, .ref (a 0)), (1, .int x1)]) (h : wp_Model_walk G x1 u Q) : W p l e ({ frames := 3, cells := 0, slots := 0, locals := 72 } : Room) s m args below meth c s.heap [] 0 0 (pw_Ev below args s D (rw a cA cZ G) (rT cA cZ) A Q) (F0 m 0 ls []) := by
 obtain ⟨hx, hb, hr, hml, hown, hts, hlocks, hA⟩ := id C
 obtain ⟨hK, hI, hF⟩ := id K
 have hD : ∀ u, va_D A (rw a cA cZ G u) := fun u => rw_D hI hF
 have hS : va_S A s.heap s.heap [] := va_S.rf
 have h : wp_Model_walk G x1 u Q := h
 refine lv_aload_n hx hb d_Model_walk_0 rfl (lv_at hl 0 rfl) ?_
 refine va_get (D := D) (ci := 1) (v := .ref (a 5)) (C := R_Model) (T := T_Model) (N := 23) hx hb hts in_Model hown hK hP 0 rw_at_0 rfl 9 (by decide) (hts _ (List.mem_cons_of_mem _ kw_844)) (fun _ h9 => h9) rfl d_Model_walk_1 ?_
 refine lv_iload_n hx hb d_Model_walk_4 rfl (lv_at hl 1 rfl) ?_
 refine va_iald hx hb hK hP 5 0 rw_at_5 rfl h.1 d_Model_walk_5 ?_
 have h := h.2
 refine lv_aload_n hx hb d_Model_walk_6 rfl (lv_at hl 0 rfl) ?_
 refine va_get (D := D) (ci := 1) (v := .int (G.2.1 0)) (C := R_Model) (T := T_Model) (N := 23) hx hb hts in_Model hown hK hP 0 rw_at_0 rfl 1 (by decide) (hts _ (List.mem_cons_of_mem _ kw_836)) (fun _ h9 => h9) rfl d_Model_walk_7 ?_
 refine lv_irem hx hb d_Model_walk_10 h.1 ?_
 have h := h.2
 refine lv_topi (fun t1 et1 => ?_)
 have h := h t1 et1
 refine lv_istore_n (lv' := [(2, .int t1), (0, .ref (a 0)), (1, .int x1)]) hx hb d_Model_walk_11 rfl hl (by decide) rfl (fun ls hl => ?_)
 refine lv_aload_n hx hb d_Model_walk_12 rfl (lv_at hl 1 rfl) ?_
 refine va_get (D := D) (ci := 1) (v := .ref (a 5)) (C := R_Model) (T := T_Model) (N := 23) hx hb hts in_Model hown hK hP 0 rw_at_0 rfl 9 (by decide) (hts _ (List.mem_cons_of_mem _ kw_844)) (fun _ h9 => h9) rfl d_Model_walk_13 ?_
 refine lv_iload_n hx hb d_Model_walk_16 rfl (lv_at hl 2 rfl) ?_
 refine va_iald hx hb hK hP 5 0 rw_at_5 rfl h.1 d_Model_walk_17 ?_
 have h := h.2
 refine lv_aload_n hx hb d_Model_walk_18 rfl (lv_at hl 1 rfl) ?_
 refine va_get (D := D) (ci := 1) (v := .int (G.2.1 0)) (C := R_Model) (T := T_Model) (N := 23) hx hb hts in_Model hown hK hP 0 rw_at_0 rfl 1 (by decide) (hts _ (List.mem_cons_of_mem _ kw_836)) (fun _ h9 => h9) rfl d_Model_walk_19 ?_
 refine lv_idiv hx hb d_Model_walk_22 h.1 ?_
 have h := h.2
 refine lv_topi (fun t2 et2 => ?_)
 have h := h t2 et2
 refine lv_istore_n (lv' := [(3, .int t2), (2, .int t1), (0, .ref (a 0)), (1, .int x1)]) hx hb d_Model_walk_23 rfl hl (by decide) rfl (fun ls hl => ?_)
 refine lv_iload_n hx hb d_Model_walk_24 rfl (lv_at hl 1 rfl) ?_
 refine lv_istore (lv' := [(4, .int t1), (3, .int t2), (2, .int t1), (0, .ref (a 0)), (1, .int x1)]) hx hb d_Model_walk_25 hl (by decide) rfl (fun ls hl => ?_)
 refine lv_iload_n hx hb d_Model_walk_27 rfl (lv_at hl 1 rfl) ?_
 refine lv_istore (lv' := [(5, .int t2), (4, .int t1), (3, .int t2), (2, .int t1), (0, .ref (a 0)), (1, .int x1)]) hx hb d_Model_walk_28 hl (by decide) rfl (fun ls hl => ?_)
 refine lv_iconst (v := 0) hx hb d_Model_walk_30 (by decide) ?_
 refine lv_istore (lv' := [(6, .int 0), (5, .int t2), (4, .int t1), (3, .int t2), (2, .int t1), (0, .ref (a 0)), (1, .int x1)]) hx hb d_Model_walk_31 hl (by decide) rfl (fun ls hl => ?_)
 refine lv_aload_n hx hb d_Model_walk_33 rfl (lv_at hl 5 rfl) ?_
 refine lv_iconst (v := 0) hx hb d_Model_walk_34 (by decide) ?_
 refine va_put (D := D) (ci := 1) (v := .int 0) (ty := .int) (C := R_Model) (T := T_Model) (N := 23) hx hb hts in_Model ty_Model tyok_Model nm_Model hown hK hP (hD _) hS 0 rw_at_0 rfl 15 (by decide) (hts _ (List.mem_cons_of_mem _ kw_850)) (fun _ h9 => h9) rfl (by decide +kernel) rfl rfl (Nat.le_of_ble_eq_true rfl) d_Model_walk_35 (fun H locs hP _ hS => ?_)
 obtain ⟨u3, eu3⟩ : ∃ z, z = pw_si u 3 0 := ⟨_, rfl⟩
 rw [rw_si_0_15, ← eu3] at hP
 have h := h u3 eu3
 refine lv_iconst (v := 1) hx hb d_Model_walk_38 (by decide) ?_
 refine lv_istore (lv' := [(7, .int 1), (6, .int 0), (5, .int t2), (4, .int t1), (3, .int t2), (2, .int t1), (0, .ref (a 0)), (1, .int x1)]) hx hb d_Model_walk_39 hl (by decide) rfl (fun ls hl => ?_)
 obtain ⟨n1, h⟩ := h
 exact cp_Model_walk_41 C K n1 x1 t1 t2 t1 t2 0 1 u3 _ _ _ hP hS (lv_sub hl [6, 7, 5, 4, 3, 2, 1, 0] rfl) h
set_option maxHeartbeats 4000000 in
set_option maxRecDepth 100000 in
theorem ct_Model_walk (l : Launch) (D : va_G) (a : Nat → Nat) (cA cZ : ClassId) (G : pG) (sz : Nat) (x1 : Int32) (u : pS) (Q : pS → Prop) (hI : pw_I 15 a) (h : wp_Model_walk G x1 u Q) : Met l y_Model_walk w_Model_walk ({ frames := 3, cells := 0, slots := 0, locals := 72 } : Room) (va_Pc [.ref (a 0), .int x1] (pw_pre D (rw a cA cZ G) (rT cA cZ) sz u)) (va_Qv (fun (u : pS) => Q u) (pw_B D (rw a cA cZ G) (rT cA cZ)) (pw_F 15 a sz)) 0 0 (pw_F 15 a sz) := by
 refine Met.ofW (cc := b_Model_walk) (maxL := 9) (ret := none) (by decide) rfl ?_
 intro p e s m args below meth c s₁ B hml hv
 obtain ⟨rfl, hsz, hP, hK⟩ := hv
 subst hsz
 have hl := lv_entry ([.ref (a 0), .int x1]) (n := 9) (Nat.le_of_ble_eq_true rfl)
 rw [lg_entry_eq]
 generalize (lg_sl ([.ref (a 0), .int x1]) ++ List.replicate (9 - (lg_sl ([.ref (a 0), .int x1])).length) Slot.unset).toArray = ls at hl ⊢
 exact st_Model_walk (A := (pw_F 15 a s.heap.size)) ⟨B.exec, B.bytes, B.returns, hml, findClass_of_methodNamed B.named, atoms_spec (ws := w_Model_walk) B.pre, B.notSynchronized, fun q hq => Or.inr hq⟩ ⟨hK, hI, fun k hk => Or.inl ⟨k, hk, rfl⟩⟩ x1 u ls hP hl h
