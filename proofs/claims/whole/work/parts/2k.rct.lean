set_option maxHeartbeats 4000000 in
set_option maxRecDepth 100000 in
theorem cp_Model_common_4 {p : Program} {l : Launch} {e : Env} {s : State} {m : MethodId} {args : Array Value} {below : List Frame} {meth : Method} {c : Code} {D : va_G} {a : Nat → Nat} {cA cZ : ClassId} {G : pG} {A : Nat → Prop} {Q : Int32 → pS → Prop} (C : pw_C p s m args meth c b_Model_common 5 R_Model (some .int) w_Model_common A) (K : pw_K s D 15 a (rT cA cZ) A) : ∀ (n : Nat), ∀ (x2 x3 : Int32) (u : pS) (H : Heap) (locs : List Loc) (ls : Array Slot), va_P D vwCl (rw a cA cZ G u) H → va_S A s.heap H locs → lv_has ls 5 [(2, .int x2), (3, .int x3)] → lp_Model_common_4 G Q n x2 x3 u → W p l e ({ frames := 0, cells := 0, slots := 0, locals := 0 } : Room) s m args below meth c H locs 0 0 (pw_Ei below args s D (rw a cA cZ G) (rT cA cZ) A Q) (F0 m 4 ls []) := by
 obtain ⟨hx, hb, hr, hml, hown, hts, hlocks, hA⟩ := id C
 obtain ⟨hK, hI, hF⟩ := id K
 have hD : ∀ u, va_D A (rw a cA cZ G u) := fun u => rw_D hI hF
 intro n
 induction n with
 | zero => intro x2 x3 u H locs ls hP hS hl h; exact h.elim
 | succ n ih =>
   intro x2 x3 u H locs ls hP hS hl h
   refine lv_iload_n hx hb d_Model_common_4 rfl (lv_at hl 1 rfl) ?_
   refine lv_if_eq (tgt := 21) hx hb d_Model_common_5 (by decide) (fun c1 => ?_) (fun c1 => ?_)
   · have h := h.1 c1
     refine lv_iload_n hx hb d_Model_common_21 rfl (lv_at hl 0 rfl) ?_
     exact W.iret (v := x2) hx hb hr (fun t ht hW => ⟨⟨x2, u, rfl, h, by rw [ht]; exact hP, va_K.moved hW.alike hK⟩, hS.F ht⟩) hS.2.2 d_Model_common_22 hlocks
   · have h := h.2 c1
     refine lv_iload_n hx hb d_Model_common_8 rfl (lv_at hl 0 rfl) ?_
     refine lv_iload_n hx hb d_Model_common_9 rfl (lv_at hl 1 rfl) ?_
     refine lv_irem hx hb d_Model_common_10 h.1 ?_
     have h := h.2
     refine lv_topi (fun t2 et2 => ?_)
     have h := h t2 et2
     refine lv_istore (lv' := [(4, .int t2), (2, .int x2), (3, .int x3)]) hx hb d_Model_common_11 hl (by decide) rfl (fun ls hl => ?_)
     refine lv_iload_n hx hb d_Model_common_13 rfl (lv_at hl 2 rfl) ?_
     refine lv_istore_n (lv' := [(2, .int x3), (4, .int t2), (3, .int x3)]) hx hb d_Model_common_14 rfl hl (by decide) rfl (fun ls hl => ?_)
     refine lv_iload hx hb d_Model_common_15 (lv_at hl 1 rfl) ?_
     refine lv_istore_n (lv' := [(3, .int t2), (2, .int x3), (4, .int t2)]) hx hb d_Model_common_17 rfl hl (by decide) rfl (fun ls hl => ?_)
     refine lv_goto (tgt := 4) hx hb d_Model_common_18 (by decide) ?_
     exact ih x3 t2 u _ _ _ hP hS (lv_sub hl [1, 0] rfl) h
set_option maxHeartbeats 4000000 in
set_option maxRecDepth 100000 in
theorem st_Model_common {p : Program} {l : Launch} {e : Env} {s : State} {m : MethodId} {args : Array Value} {below : List Frame} {meth : Method} {c : Code} {D : va_G} {a : Nat → Nat} {cA cZ : ClassId} {G : pG} {A : Nat → Prop} {Q : Int32 → pS → Prop} (C : pw_C p s m args meth c b_Model_common 5 R_Model (some .int) w_Model_common A) (K : pw_K s D 15 a (rT cA cZ) A) (x0 x1 : Int32) (u : pS) (ls : Array Slot) (hP : va_P D vwCl (rw a cA cZ G u) s.heap) (hl : lv_has ls 5 [(0, .int x0), (1, .int x1)]) (h : wp_Model_common G x0 x1 u Q) : W p l e ({ frames := 0, cells := 0, slots := 0, locals := 0 } : Room) s m args below meth c s.heap [] 0 0 (pw_Ei below args s D (rw a cA cZ G) (rT cA cZ) A Q) (F0 m 0 ls []) := by
 obtain ⟨hx, hb, hr, hml, hown, hts, hlocks, hA⟩ := id C
 obtain ⟨hK, hI, hF⟩ := id K
 have hD : ∀ u, va_D A (rw a cA cZ G u) := fun u => rw_D hI hF
 have hS : va_S A s.heap s.heap [] := va_S.rf
 have h : wp_Model_common G x0 x1 u Q := h
 refine lv_iload_n hx hb d_Model_common_0 rfl (lv_at hl 0 rfl) ?_
 refine lv_istore_n (lv' := [(2, .int x0), (0, .int x0), (1, .int x1)]) hx hb d_Model_common_1 rfl hl (by decide) rfl (fun ls hl => ?_)
 refine lv_iload_n hx hb d_Model_common_2 rfl (lv_at hl 2 rfl) ?_
 refine lv_istore_n (lv' := [(3, .int x1), (2, .int x0), (0, .int x0), (1, .int x1)]) hx hb d_Model_common_3 rfl hl (by decide) rfl (fun ls hl => ?_)
 obtain ⟨n1, h⟩ := h
 exact cp_Model_common_4 C K n1 x0 x1 u _ _ _ hP hS (lv_sub hl [1, 0] rfl) h
set_option maxHeartbeats 4000000 in
set_option maxRecDepth 100000 in
theorem ct_Model_common (l : Launch) (D : va_G) (a : Nat → Nat) (cA cZ : ClassId) (G : pG) (sz : Nat) (x0 x1 : Int32) (u : pS) (Q : Int32 → pS → Prop) (hI : pw_I 15 a) (h : wp_Model_common G x0 x1 u Q) : Met l y_Model_common w_Model_common ({ frames := 0, cells := 0, slots := 0, locals := 0 } : Room) (va_Pc [.int x0, .int x1] (pw_pre D (rw a cA cZ G) (rT cA cZ) sz u)) (va_Qi (fun (r : Int32) (u : pS) => Q r u) (pw_B D (rw a cA cZ G) (rT cA cZ)) (pw_F 15 a sz)) 0 0 (pw_F 15 a sz) := by
 refine Met.ofW (cc := b_Model_common) (maxL := 5) (ret := (some .int)) (by decide) rfl ?_
 intro p e s m args below meth c s₁ B hml hv
 obtain ⟨rfl, hsz, hP, hK⟩ := hv
 subst hsz
 have hl := lv_entry ([.int x0, .int x1]) (n := 5) (Nat.le_of_ble_eq_true rfl)
 rw [lg_entry_eq]
 generalize (lg_sl ([.int x0, .int x1]) ++ List.replicate (5 - (lg_sl ([.int x0, .int x1])).length) Slot.unset).toArray = ls at hl ⊢
 exact st_Model_common (A := (pw_F 15 a s.heap.size)) ⟨B.exec, B.bytes, B.returns, hml, findClass_of_methodNamed B.named, atoms_spec (ws := w_Model_common) B.pre, B.notSynchronized, fun q hq => Or.inr hq⟩ ⟨hK, hI, fun k hk => Or.inl ⟨k, hk, rfl⟩⟩ x0 x1 u ls hP hl h
set_option maxHeartbeats 4000000 in
set_option maxRecDepth 100000 in
theorem cp_Model_border_26 {p : Program} {l : Launch} {e : Env} {s : State} {m : MethodId} {args : Array Value} {below : List Frame} {meth : Method} {c : Code} {D : va_G} {a : Nat → Nat} {cA cZ : ClassId} {G : pG} {A : Nat → Prop} {Q : Int32 → pS → Prop} (C : pw_C p s m args meth c b_Model_border 8 R_Model (some .int) w_Model_border A) (K : pw_K s D 15 a (rT cA cZ) A) {k27 : Int32 → Int32 → Int32 → Int32 → pS → Prop} (hk27 : ∀ (x1 x2 x3 y4 : Int32) (u : pS) (H : Heap) (locs : List Loc) (ls : Array Slot), va_P D vwCl (rw a cA cZ G u) H → va_S A s.heap H locs → lv_has ls 8 [(0, .ref (a 0)), (1, .int x1), (2, .int x2), (3, .int x3)] → k27 x1 x2 x3 y4 u → W p l e ({ frames := 1, cells := 0, slots := 0, locals := 24 } : Room) s m args below meth c H locs 0 0 (pw_Ei below args s D (rw a cA cZ G) (rT cA cZ) A Q) (F0 m 27 ls [.int y4])) : ∀ (x1 x2 x3 : Int32) (u : pS) (H : Heap) (locs : List Loc) (ls : Array Slot), va_P D vwCl (rw a cA cZ G u) H → va_S A s.heap H locs → lv_has ls 8 [(0, .ref (a 0)), (1, .int x1), (2, .int x2), (3, .int x3)] → jn_Model_border_26 G Q k27 x1 x2 x3 u → W p l e ({ frames := 1, cells := 0, slots := 0, locals := 24 } : Room) s m args below meth c H locs 0 0 (pw_Ei below args s D (rw a cA cZ G) (rT cA cZ) A Q) (F0 m 26 ls []) := by
 obtain ⟨hx, hb, hr, hml, hown, hts, hlocks, hA⟩ := id C
 obtain ⟨hK, hI, hF⟩ := id K
 have hD : ∀ u, va_D A (rw a cA cZ G u) := fun u => rw_D hI hF
 intro x1 x2 x3 u H locs ls hP hS hl h
 refine lv_iconst (v := 0) hx hb d_Model_border_26 (by decide) ?_
 exact hk27 x1 x2 x3 0 u _ _ _ hP hS (lv_sub hl [0, 1, 2, 3] rfl) h
set_option maxHeartbeats 4000000 in
set_option maxRecDepth 100000 in
theorem cp_Model_border_39 {p : Program} {l : Launch} {e : Env} {s : State} {m : MethodId} {args : Array Value} {below : List Frame} {meth : Method} {c : Code} {D : va_G} {a : Nat → Nat} {cA cZ : ClassId} {G : pG} {A : Nat → Prop} {Q : Int32 → pS → Prop} (C : pw_C p s m args meth c b_Model_border 8 R_Model (some .int) w_Model_border A) (K : pw_K s D 15 a (rT cA cZ) A) {k53 : Int32 → Int32 → Int32 → Int32 → pS → Prop} (hk53 : ∀ (x1 x2 x3 y4 : Int32) (u : pS) (H : Heap) (locs : List Loc) (ls : Array Slot), va_P D vwCl (rw a cA cZ G u) H → va_S A s.heap H locs → lv_has ls 8 [(0, .ref (a 0)), (1, .int x1), (2, .int x2), (3, .int x3)] → k53 x1 x2 x3 y4 u → W p l e ({ frames := 1, cells := 0, slots := 0, locals := 24 } : Room) s m args below meth c H locs 0 0 (pw_Ei below args s D (rw a cA cZ G) (rT cA cZ) A Q) (F0 m 53 ls [.int y4, .ref (a 0)])) : ∀ (x1 x2 x3 : Int32) (u : pS) (H : Heap) (locs : List Loc) (ls : Array Slot), va_P D vwCl (rw a cA cZ G u) H → va_S A s.heap H locs → lv_has ls 8 [(0, .ref (a 0)), (1, .int x1), (2, .int x2), (3, .int x3)] → jn_Model_border_39 G Q k53 x1 x2 x3 u → W p l e ({ frames := 1, cells := 0, slots := 0, locals := 24 } : Room) s m args below meth c H locs 0 0 (pw_Ei below args s D (rw a cA cZ G) (rT cA cZ) A Q) (F0 m 39 ls [.ref (a 0)]) := by
 obtain ⟨hx, hb, hr, hml, hown, hts, hlocks, hA⟩ := id C
 obtain ⟨hK, hI, hF⟩ := id K
 have hD : ∀ u, va_D A (rw a cA cZ G u) := fun u => rw_D hI hF
 intro x1 x2 x3 u H locs ls hP hS hl h
 refine lv_iconst (v := 1) hx hb d_Model_border_39 (by decide) ?_
 refine lv_goto (tgt := 53) hx hb d_Model_border_40 (by decide) ?_
 exact hk53 x1 x2 x3 1 u _ _ _ hP hS (lv_sub hl [0, 1, 2, 3] rfl) h
set_option maxHeartbeats 4000000 in
set_option maxRecDepth 100000 in
theorem cp_Model_border_100 {p : Program} {l : Launch} {e : Env} {s : State} {m : MethodId} {args : Array Value} {below : List Frame} {meth : Method} {c : Code} {D : va_G} {a : Nat → Nat} {cA cZ : ClassId} {G : pG} {A : Nat → Prop} {Q : Int32 → pS → Prop} (C : pw_C p s m args meth c b_Model_border 8 R_Model (some .int) w_Model_border A) (K : pw_K s D 15 a (rT cA cZ) A) : ∀ (x3 x5 x6 y3 : Int32) (u : pS) (H : Heap) (locs : List Loc) (ls : Array Slot), va_P D vwCl (rw a cA cZ G u) H → va_S A s.heap H locs → lv_has ls 8 [(3, .int x3), (5, .int x5), (6, .int x6)] → jn_Model_border_100 G Q x3 x5 x6 y3 u → W p l e ({ frames := 1, cells := 0, slots := 0, locals := 24 } : Room) s m args below meth c H locs 0 0 (pw_Ei below args s D (rw a cA cZ G) (rT cA cZ) A Q) (F0 m 100 ls [.int y3]) := by
 obtain ⟨hx, hb, hr, hml, hown, hts, hlocks, hA⟩ := id C
 obtain ⟨hK, hI, hF⟩ := id K
 have hD : ∀ u, va_D A (rw a cA cZ G u) := fun u => rw_D hI hF
 intro x3 x5 x6 y3 u H locs ls hP hS hl h
 refine lv_istore (lv' := [(7, .int y3), (3, .int x3), (5, .int x5), (6, .int x6)]) hx hb d_Model_border_100 hl (by decide) rfl (fun ls hl => ?_)
 refine lv_iload_n hx hb d_Model_border_102 rfl (lv_at hl 1 rfl) ?_
 refine lv_if_ne (tgt := 111) hx hb d_Model_border_103 (by decide) (fun c10 => ?_) (fun c10 => ?_)
 · have h := h.2 c10
   refine lv_iload_n hx hb d_Model_border_111 rfl (lv_at hl 1 rfl) ?_
   refine lv_iconst (v := 1) hx hb d_Model_border_112 (by decide) ?_
   refine lv_icmp_ne (tgt := 124) hx hb d_Model_border_113 (by decide) (fun c11 => ?_) (fun c11 => ?_)
   · have h := h.2 c11
     refine lv_iload hx hb d_Model_border_124 (lv_at hl 2 rfl) ?_
     refine lv_if_ne (tgt := 133) hx hb d_Model_border_126 (by decide) (fun c12 => ?_) (fun c12 => ?_)
     · have h := h.2 c12
       refine lv_iload hx hb d_Model_border_133 (lv_at hl 2 rfl) ?_
       refine lv_iload hx hb d_Model_border_135 (lv_at hl 0 rfl) ?_
       refine lv_idiv hx hb d_Model_border_137 h.1 ?_
       have h := h.2
       exact W.iret (v := (x5 / y3)) hx hb hr (fun t ht hW => ⟨⟨(x5 / y3), u, rfl, h, by rw [ht]; exact hP, va_K.moved hW.alike hK⟩, hS.F ht⟩) hS.2.2 d_Model_border_138 hlocks
     · have h := h.1 c12
       refine lv_iconst (v := 1) hx hb d_Model_border_129 (by decide) ?_
       refine lv_goto (tgt := 138) hx hb d_Model_border_130 (by decide) ?_
       exact W.iret (v := 1) hx hb hr (fun t ht hW => ⟨⟨1, u, rfl, h, by rw [ht]; exact hP, va_K.moved hW.alike hK⟩, hS.F ht⟩) hS.2.2 d_Model_border_138 hlocks
   · have h := h.1 c11
     refine lv_iload hx hb d_Model_border_116 (lv_at hl 3 rfl) ?_
     refine lv_iload hx hb d_Model_border_118 (lv_at hl 0 rfl) ?_
     refine lv_idiv hx hb d_Model_border_120 h.1 ?_
     have h := h.2
     refine lv_goto (tgt := 138) hx hb d_Model_border_121 (by decide) ?_
     exact W.iret (v := (x6 / y3)) hx hb hr (fun t ht hW => ⟨⟨(x6 / y3), u, rfl, h, by rw [ht]; exact hP, va_K.moved hW.alike hK⟩, hS.F ht⟩) hS.2.2 d_Model_border_138 hlocks
 · have h := h.1 c10
   refine lv_iload hx hb d_Model_border_106 (lv_at hl 2 rfl) ?_
   refine lv_goto (tgt := 138) hx hb d_Model_border_108 (by decide) ?_
   exact W.iret (v := x5) hx hb hr (fun t ht hW => ⟨⟨x5, u, rfl, h, by rw [ht]; exact hP, va_K.moved hW.alike hK⟩, hS.F ht⟩) hS.2.2 d_Model_border_138 hlocks
set_option maxHeartbeats 4000000 in
set_option maxRecDepth 100000 in
theorem cp_Model_border_82 {p : Program} {l : Launch} {e : Env} {s : State} {m : MethodId} {args : Array Value} {below : List Frame} {meth : Method} {c : Code} {D : va_G} {a : Nat → Nat} {cA cZ : ClassId} {G : pG} {A : Nat → Prop} {Q : Int32 → pS → Prop} (C : pw_C p s m args meth c b_Model_border 8 R_Model (some .int) w_Model_border A) (K : pw_K s D 15 a (rT cA cZ) A) : ∀ (x3 x5 y2 : Int32) (u : pS) (H : Heap) (locs : List Loc) (ls : Array Slot), va_P D vwCl (rw a cA cZ G u) H → va_S A s.heap H locs → lv_has ls 8 [(3, .int x3), (5, .int x5)] → jn_Model_border_82 G Q x3 x5 y2 u → W p l e ({ frames := 1, cells := 0, slots := 0, locals := 24 } : Room) s m args below meth c H locs 0 0 (pw_Ei below args s D (rw a cA cZ G) (rT cA cZ) A Q) (F0 m 82 ls [.int y2]) := by
 obtain ⟨hx, hb, hr, hml, hown, hts, hlocks, hA⟩ := id C
 obtain ⟨hK, hI, hF⟩ := id K
 have hD : ∀ u, va_D A (rw a cA cZ G u) := fun u => rw_D hI hF
 intro x3 x5 y2 u H locs ls hP hS hl h
 refine lv_istore (lv' := [(6, .int y2), (3, .int x3), (5, .int x5)]) hx hb d_Model_border_82 hl (by decide) rfl (fun ls hl => ?_)
 refine lv_iload hx hb d_Model_border_84 (lv_at hl 2 rfl) ?_
 refine lv_if_ne (tgt := 93) hx hb d_Model_border_86 (by decide) (fun c7 => ?_) (fun c7 => ?_)
 · have h := h.2 c7
   refine lv_iload hx hb d_Model_border_93 (lv_at hl 0 rfl) ?_
   refine lv_iload hx hb d_Model_border_95 (lv_at hl 2 rfl) ?_
   refine cc_i (va_runS (As := [.int y2, .int x5]) (rest := []) ⟨hx, hb, hml, hown, hts⟩ (ct_Model_common l D a cA cZ G _ y2 x5 u _ hI h) (pw_cwS 2 hts kw_1051 kw_57 kw_1049 kw_1050 (by decide +kernel) ⟨Nat.le_of_ble_eq_true rfl, Nat.le_of_ble_eq_true rfl⟩) ⟨pw_blind, fun U hU hW => ⟨rfl, by rw [hU], by rw [hU]; exact hP, va_K.moved hW.alike hK⟩⟩ rfl rfl hl.1 rfl (lv_room (Nat.le_of_ble_eq_true rfl)) d_Model_border_97 ⟨Nat.le_of_ble_eq_true rfl, Nat.le_of_ble_eq_true rfl⟩) hS hF hA (fun r9 u8 H locs hP hS h => ?_)
   exact cp_Model_border_100 C K x3 x5 y2 r9 u8 _ _ _ hP hS (lv_sub hl [1, 2, 0] rfl) h
 · have h := h.1 c7
   refine lv_iconst (v := 1) hx hb d_Model_border_89 (by decide) ?_
   refine lv_goto (tgt := 100) hx hb d_Model_border_90 (by decide) ?_
   exact cp_Model_border_100 C K x3 x5 y2 1 u _ _ _ hP hS (lv_sub hl [1, 2, 0] rfl) h
set_option maxHeartbeats 4000000 in
set_option maxRecDepth 100000 in
theorem cp_Model_border_53 {p : Program} {l : Launch} {e : Env} {s : State} {m : MethodId} {args : Array Value} {below : List Frame} {meth : Method} {c : Code} {D : va_G} {a : Nat → Nat} {cA cZ : ClassId} {G : pG} {A : Nat → Prop} {Q : Int32 → pS → Prop} (C : pw_C p s m args meth c b_Model_border 8 R_Model (some .int) w_Model_border A) (K : pw_K s D 15 a (rT cA cZ) A) : ∀ (x1 x2 x3 y4 : Int32) (u : pS) (H : Heap) (locs : List Loc) (ls : Array Slot), va_P D vwCl (rw a cA cZ G u) H → va_S A s.heap H locs → lv_has ls 8 [(0, .ref (a 0)), (1, .int x1), (2, .int x2), (3, .int x3)] → jn_Model_border_53 G Q x1 x2 x3 y4 u → W p l e ({ frames := 1, cells := 0, slots := 0, locals := 24 } : Room) s m args below meth c H locs 0 0 (pw_Ei below args s D (rw a cA cZ G) (rT cA cZ) A Q) (F0 m 53 ls [.int y4, .ref (a 0)]) := by
 obtain ⟨hx, hb, hr, hml, hown, hts, hlocks, hA⟩ := id C
 obtain ⟨hK, hI, hF⟩ := id K
 have hD : ∀ u, va_D A (rw a cA cZ G u) := fun u => rw_D hI hF
 intro x1 x2 x3 y4 u H locs ls hP hS hl h
 refine va_put (D := D) (ci := 1) (v := .int y4) (ty := .int) (C := R_Model) (T := T_Model) (N := 23) hx hb hts in_Model ty_Model tyok_Model nm_Model hown hK hP (hD _) hS 0 rw_at_0 rfl 0 (by decide) (hts _ (List.mem_cons_of_mem _ kw_835)) (fun _ h9 => h9) rfl (by decide +kernel) rfl rfl (Nat.le_of_ble_eq_true rfl) d_Model_border_53 (fun H locs hP _ hS => ?_)
 obtain ⟨u3, eu3⟩ : ∃ z, z = pw_si u 0 y4 := ⟨_, rfl⟩
 rw [rw_si_0_0, ← eu3] at hP
 have h := h u3 eu3
 refine lv_aload_n hx hb d_Model_border_56 rfl (lv_at hl 0 rfl) ?_
 refine va_get (D := D) (ci := 1) (v := .int (u3.1 0)) (C := R_Model) (T := T_Model) (N := 23) hx hb hts in_Model hown hK hP 0 rw_at_0 rfl 0 (by decide) (hts _ (List.mem_cons_of_mem _ kw_835)) (fun _ h9 => h9) rfl d_Model_border_57 ?_
 refine lv_if_le (tgt := 65) hx hb d_Model_border_60 (by decide) (fun c4 => ?_) (fun c4 => ?_)
 · have h := h.1 c4
   refine lv_iload_n hx hb d_Model_border_65 rfl (lv_at hl 1 rfl) ?_
   refine lv_iload_n hx hb d_Model_border_66 rfl (lv_at hl 2 rfl) ?_
   refine lv_idiv hx hb d_Model_border_67 h.1 ?_
   have h := h.2
   refine lv_topi (fun t5 et5 => ?_)
   have h := h t5 et5
   refine lv_istore (lv' := [(5, .int t5), (0, .ref (a 0)), (1, .int x1), (2, .int x2), (3, .int x3)]) hx hb d_Model_border_68 hl (by decide) rfl (fun ls hl => ?_)
   refine lv_iload hx hb d_Model_border_70 (lv_at hl 0 rfl) ?_
   refine lv_if_ne (tgt := 79) hx hb d_Model_border_72 (by decide) (fun c6 => ?_) (fun c6 => ?_)
   · have h := h.2 c6
     refine lv_iload_n hx hb d_Model_border_79 rfl (lv_at hl 2 rfl) ?_
     refine lv_iload_n hx hb d_Model_border_80 rfl (lv_at hl 3 rfl) ?_
     refine lv_irem hx hb d_Model_border_81 h.1 ?_
     have h := h.2
     exact cp_Model_border_82 C K x3 t5 (x1 - x1 / x2 * x2) u3 _ _ _ hP hS (lv_sub hl [4, 0] rfl) h
   · have h := h.1 c6
     refine lv_iconst (v := 0) hx hb d_Model_border_75 (by decide) ?_
     refine lv_goto (tgt := 82) hx hb d_Model_border_76 (by decide) ?_
     exact cp_Model_border_82 C K x3 t5 0 u3 _ _ _ hP hS (lv_sub hl [4, 0] rfl) h
 · have h := h.2 c4
   refine lv_iconst (v := 0) hx hb d_Model_border_63 (by decide) ?_
   exact W.iret (v := 0) hx hb hr (fun t ht hW => ⟨⟨0, u3, rfl, h, by rw [ht]; exact hP, va_K.moved hW.alike hK⟩, hS.F ht⟩) hS.2.2 d_Model_border_64 hlocks
set_option maxHeartbeats 4000000 in
set_option maxRecDepth 100000 in
theorem cp_Model_border_27 {p : Program} {l : Launch} {e : Env} {s : State} {m : MethodId} {args : Array Value} {below : List Frame} {meth : Method} {c : Code} {D : va_G} {a : Nat → Nat} {cA cZ : ClassId} {G : pG} {A : Nat → Prop} {Q : Int32 → pS → Prop} (C : pw_C p s m args meth c b_Model_border 8 R_Model (some .int) w_Model_border A) (K : pw_K s D 15 a (rT cA cZ) A) : ∀ (x1 x2 x3 y4 : Int32) (u : pS) (H : Heap) (locs : List Loc) (ls : Array Slot), va_P D vwCl (rw a cA cZ G u) H → va_S A s.heap H locs → lv_has ls 8 [(0, .ref (a 0)), (1, .int x1), (2, .int x2), (3, .int x3)] → jn_Model_border_27 G Q x1 x2 x3 y4 u → W p l e ({ frames := 1, cells := 0, slots := 0, locals := 24 } : Room) s m args below meth c H locs 0 0 (pw_Ei below args s D (rw a cA cZ G) (rT cA cZ) A Q) (F0 m 27 ls [.int y4]) := by
 obtain ⟨hx, hb, hr, hml, hown, hts, hlocks, hA⟩ := id C
 obtain ⟨hK, hI, hF⟩ := id K
 have hD : ∀ u, va_D A (rw a cA cZ G u) := fun u => rw_D hI hF
 intro x1 x2 x3 y4 u H locs ls hP hS hl h
 refine lv_istore (lv' := [(4, .int y4), (0, .ref (a 0)), (1, .int x1), (2, .int x2), (3, .int x3)]) hx hb d_Model_border_27 hl (by decide) rfl (fun ls hl => ?_)
 refine lv_aload_n hx hb d_Model_border_29 rfl (lv_at hl 1 rfl) ?_
 refine lv_iload_n hx hb d_Model_border_30 rfl (lv_at hl 4 rfl) ?_
 refine lv_if_lt (tgt := 39) hx hb d_Model_border_31 (by decide) (fun c2 => ?_) (fun c2 => ?_)
 · have h := h.1 c2
   exact cp_Model_border_39 C K (fun x1 x2 x3 y4 u H locs ls hP hS hl h => cp_Model_border_53 C K x1 x2 x3 y4 u H locs ls hP hS hl h) x1 x2 x3 u _ _ _ hP hS (lv_sub hl [1, 2, 3, 4] rfl) h
 · have h := h.2 c2
   refine lv_iload_n hx hb d_Model_border_34 rfl (lv_at hl 4 rfl) ?_
   refine lv_iconst (v := 2) hx hb d_Model_border_35 (by decide) ?_
   refine lv_icmp_le (tgt := 43) hx hb d_Model_border_36 (by decide) (fun c13 => ?_) (fun c13 => ?_)
   · have h := h.1 c13
     refine lv_iload hx hb d_Model_border_43 (lv_at hl 0 rfl) ?_
     refine lv_if_eq (tgt := 52) hx hb d_Model_border_45 (by decide) (fun c14 => ?_) (fun c14 => ?_)
     · have h := h.1 c14
       refine lv_iconst (v := 2) hx hb d_Model_border_52 (by decide) ?_
       exact cp_Model_border_53 C K x1 x2 x3 2 u _ _ _ hP hS (lv_sub hl [1, 2, 3, 4] rfl) h
     · have h := h.2 c14
       refine lv_iconst (v := 0) hx hb d_Model_border_48 (by decide) ?_
       refine lv_goto (tgt := 53) hx hb d_Model_border_49 (by decide) ?_
       exact cp_Model_border_53 C K x1 x2 x3 0 u _ _ _ hP hS (lv_sub hl [1, 2, 3, 4] rfl) h
   · have h := h.2 c13
     exact cp_Model_border_39 C K (fun x1 x2 x3 y4 u H locs ls hP hS hl h => cp_Model_border_53 C K x1 x2 x3 y4 u H locs ls hP hS hl h) x1 x2 x3 u _ _ _ hP hS (lv_sub hl [1, 2, 3, 4] rfl) h
set_option maxHeartbeats 4000000 in
set_option maxRecDepth 100000 in
theorem st_Model_border {p : Program} {l : Launch} {e : Env} {s : State} {m : MethodId} {args : Array Value} {below : List Frame} {meth : Method} {c : Code} {D : va_G} {a : Nat → Nat} {cA cZ : ClassId} {G : pG} {A : Nat → Prop} {Q : Int32 → pS → Prop} (C : pw_C p s m args meth c b_Model_border 8 R_Model (some .int) w_Model_border A) (K : pw_K s D 15 a (rT cA cZ) A) (x1 x2 x3 : Int32) (u : pS) (ls : Array Slot) (hP : va_P D vwCl (rw a cA cZ G u) s.heap) (hl : lv_has ls 8 [(0, .ref (a 0)), (1, .int x1), (2, .int x2), (3, .int x3)]) (h : wp_Model_border G x1 x2 x3 u Q) : W p l e ({ frames := 1, cells := 0, slots := 0, locals := 24 } : Room) s m args below meth c s.heap [] 0 0 (pw_Ei below args s D (rw a cA cZ G) (rT cA cZ) A Q) (F0 m 0 ls []) := by
 obtain ⟨hx, hb, hr, hml, hown, hts, hlocks, hA⟩ := id C
 obtain ⟨hK, hI, hF⟩ := id K
 have hD : ∀ u, va_D A (rw a cA cZ G u) := fun u => rw_D hI hF
 have hS : va_S A s.heap s.heap [] := va_S.rf
 have h : wp_Model_border G x1 x2 x3 u Q := h
 refine lv_iload_n hx hb d_Model_border_0 rfl (lv_at hl 1 rfl) ?_
 refine lv_iconst (v := 1) hx hb d_Model_border_1 (by decide) ?_
 refine lv_icmp_lt (tgt := 26) hx hb d_Model_border_2 (by decide) (fun c1 => ?_) (fun c1 => ?_)
 · have h := h.1 c1
   exact cp_Model_border_26 C K (fun x1 x2 x3 y4 u H locs ls hP hS hl h => cp_Model_border_27 C K x1 x2 x3 y4 u H locs ls hP hS hl h) x1 x2 x3 u _ _ _ hP hS (lv_sub hl [0, 1, 2, 3] rfl) h
 · have h := h.2 c1
   refine lv_iload_n hx hb d_Model_border_5 rfl (lv_at hl 1 rfl) ?_
   refine lv_ldc (v := 1000000) hx hb hown (hts _ (List.mem_cons_of_mem _ kw_1048)) d_Model_border_6 ?_
   refine lv_icmp_gt (tgt := 26) hx hb d_Model_border_8 (by decide) (fun c15 => ?_) (fun c15 => ?_)
   · have h := h.1 c15
     exact cp_Model_border_26 C K (fun x1 x2 x3 y4 u H locs ls hP hS hl h => cp_Model_border_27 C K x1 x2 x3 y4 u H locs ls hP hS hl h) x1 x2 x3 u _ _ _ hP hS (lv_sub hl [0, 1, 2, 3] rfl) h
   · have h := h.2 c15
     refine lv_iload_n hx hb d_Model_border_11 rfl (lv_at hl 2 rfl) ?_
     refine lv_iconst (v := 1) hx hb d_Model_border_12 (by decide) ?_
     refine lv_icmp_lt (tgt := 26) hx hb d_Model_border_13 (by decide) (fun c16 => ?_) (fun c16 => ?_)
     · have h := h.1 c16
       exact cp_Model_border_26 C K (fun x1 x2 x3 y4 u H locs ls hP hS hl h => cp_Model_border_27 C K x1 x2 x3 y4 u H locs ls hP hS hl h) x1 x2 x3 u _ _ _ hP hS (lv_sub hl [0, 1, 2, 3] rfl) h
     · have h := h.2 c16
       refine lv_iload_n hx hb d_Model_border_16 rfl (lv_at hl 2 rfl) ?_
       refine lv_ldc (v := 1000000) hx hb hown (hts _ (List.mem_cons_of_mem _ kw_1048)) d_Model_border_17 ?_
       refine lv_icmp_gt (tgt := 26) hx hb d_Model_border_19 (by decide) (fun c17 => ?_) (fun c17 => ?_)
       · have h := h.1 c17
         exact cp_Model_border_26 C K (fun x1 x2 x3 y4 u H locs ls hP hS hl h => cp_Model_border_27 C K x1 x2 x3 y4 u H locs ls hP hS hl h) x1 x2 x3 u _ _ _ hP hS (lv_sub hl [0, 1, 2, 3] rfl) h
       · have h := h.2 c17
         refine lv_iconst (v := 1) hx hb d_Model_border_22 (by decide) ?_
         refine lv_goto (tgt := 27) hx hb d_Model_border_23 (by decide) ?_
         exact cp_Model_border_27 C K x1 x2 x3 1 u _ _ _ hP hS (lv_sub hl [0, 1, 2, 3] rfl) h
set_option maxHeartbeats 4000000 in
set_option maxRecDepth 100000 in
theorem ct_Model_border (l : Launch) (D : va_G) (a : Nat → Nat) (cA cZ : ClassId) (G : pG) (sz : Nat) (x1 x2 x3 : Int32) (u : pS) (Q : Int32 → pS → Prop) (hI : pw_I 15 a) (h : wp_Model_border G x1 x2 x3 u Q) : Met l y_Model_border w_Model_border ({ frames := 1, cells := 0, slots := 0, locals := 24 } : Room) (va_Pc [.ref (a 0), .int x1, .int x2, .int x3] (pw_pre D (rw a cA cZ G) (rT cA cZ) sz u)) (va_Qi (fun (r : Int32) (u : pS) => Q r u) (pw_B D (rw a cA cZ G) (rT cA cZ)) (pw_F 15 a sz)) 0 0 (pw_F 15 a sz) := by
 refine Met.ofW (cc := b_Model_border) (maxL := 8) (ret := (some .int)) (by decide) rfl ?_
 intro p e s m args below meth c s₁ B hml hv
 obtain ⟨rfl, hsz, hP, hK⟩ := hv
 subst hsz
 have hl := lv_entry ([.ref (a 0), .int x1, .int x2, .int x3]) (n := 8) (Nat.le_of_ble_eq_true rfl)
 rw [lg_entry_eq]
 generalize (lg_sl ([.ref (a 0), .int x1, .int x2, .int x3]) ++ List.replicate (8 - (lg_sl ([.ref (a 0), .int x1, .int x2, .int x3])).length) Slot.unset).toArray = ls at hl ⊢
 exact st_Model_border (A := (pw_F 15 a s.heap.size)) ⟨B.exec, B.bytes, B.returns, hml, findClass_of_methodNamed B.named, atoms_spec (ws := w_Model_border) B.pre, B.notSynchronized, fun q hq => Or.inr hq⟩ ⟨hK, hI, fun k hk => Or.inl ⟨k, hk, rfl⟩⟩ x1 x2 x3 u ls hP hl h
set_option maxHeartbeats 4000000 in
set_option maxRecDepth 100000 in
theorem st_Model_brightness {p : Program} {l : Launch} {e : Env} {s : State} {m : MethodId} {args : Array Value} {below : List Frame} {meth : Method} {c : Code} {D : va_G} {a : Nat → Nat} {cA cZ : ClassId} {G : pG} {A : Nat → Prop} {Q : Int32 → pS → Prop} (C : pw_C p s m args meth c b_Model_brightness 2 R_Model (some .int) w_Model_brightness A) (K : pw_K s D 15 a (rT cA cZ) A) (x1 : Int32) (u : pS) (ls : Array Slot) (hP : va_P D vwCl (rw a cA cZ G u) s.heap) (hl : lv_has ls 2 [(0, .ref (a 0)), (1, .int x1)]) (h : wp_Model_brightness G x1 u Q) : W p l e ({ frames := 0, cells := 0, slots := 0, locals := 0 } : Room) s m args below meth c s.heap [] 0 0 (pw_Ei below args s D (rw a cA cZ G) (rT cA cZ) A Q) (F0 m 0 ls []) := by
 obtain ⟨hx, hb, hr, hml, hown, hts, hlocks, hA⟩ := id C
 obtain ⟨hK, hI, hF⟩ := id K
 have hD : ∀ u, va_D A (rw a cA cZ G u) := fun u => rw_D hI hF
 have hS : va_S A s.heap s.heap [] := va_S.rf
 have h : wp_Model_brightness G x1 u Q := h
 refine lv_iconst (v := 2) hx hb d_Model_brightness_0 (by decide) ?_
 refine lv_aload_n hx hb d_Model_brightness_1 rfl (lv_at hl 0 rfl) ?_
 refine va_get (D := D) (ci := 1) (v := .ref (a 2)) (C := R_Model) (T := T_Model) (N := 23) hx hb hts in_Model hown hK hP 0 rw_at_0 rfl 5 (by decide) (hts _ (List.mem_cons_of_mem _ kw_840)) (fun _ h9 => h9) rfl d_Model_brightness_2 ?_
 refine lv_iconst (v := 3) hx hb d_Model_brightness_5 (by decide) ?_
 refine lv_iload_n hx hb d_Model_brightness_6 rfl (lv_at hl 1 rfl) ?_
 refine lv_imul hx hb d_Model_brightness_7 ?_
 refine va_iald hx hb hK hP 2 0 rw_at_2 rfl h.1 d_Model_brightness_8 ?_
 have h := h.2
 refine lv_imul hx hb d_Model_brightness_9 ?_
 refine lv_iconst (v := 5) hx hb d_Model_brightness_10 (by decide) ?_
 refine lv_aload_n hx hb d_Model_brightness_11 rfl (lv_at hl 0 rfl) ?_
 refine va_get (D := D) (ci := 1) (v := .ref (a 2)) (C := R_Model) (T := T_Model) (N := 23) hx hb hts in_Model hown hK hP 0 rw_at_0 rfl 5 (by decide) (hts _ (List.mem_cons_of_mem _ kw_840)) (fun _ h9 => h9) rfl d_Model_brightness_12 ?_
 refine lv_iconst (v := 3) hx hb d_Model_brightness_15 (by decide) ?_
 refine lv_iload_n hx hb d_Model_brightness_16 rfl (lv_at hl 1 rfl) ?_
 refine lv_imul hx hb d_Model_brightness_17 ?_
 refine lv_iconst (v := 1) hx hb d_Model_brightness_18 (by decide) ?_
 refine lv_iadd hx hb d_Model_brightness_19 ?_
 refine va_iald hx hb hK hP 2 0 rw_at_2 rfl h.1 d_Model_brightness_20 ?_
 have h := h.2
 refine lv_imul hx hb d_Model_brightness_21 ?_
 refine lv_iadd hx hb d_Model_brightness_22 ?_
 refine lv_aload_n hx hb d_Model_brightness_23 rfl (lv_at hl 0 rfl) ?_
 refine va_get (D := D) (ci := 1) (v := .ref (a 2)) (C := R_Model) (T := T_Model) (N := 23) hx hb hts in_Model hown hK hP 0 rw_at_0 rfl 5 (by decide) (hts _ (List.mem_cons_of_mem _ kw_840)) (fun _ h9 => h9) rfl d_Model_brightness_24 ?_
 refine lv_iconst (v := 3) hx hb d_Model_brightness_27 (by decide) ?_
 refine lv_iload_n hx hb d_Model_brightness_28 rfl (lv_at hl 1 rfl) ?_
 refine lv_imul hx hb d_Model_brightness_29 ?_
 refine lv_iconst (v := 2) hx hb d_Model_brightness_30 (by decide) ?_
 refine lv_iadd hx hb d_Model_brightness_31 ?_
 refine va_iald hx hb hK hP 2 0 rw_at_2 rfl h.1 d_Model_brightness_32 ?_
 have h := h.2
 refine lv_iadd hx hb d_Model_brightness_33 ?_
 exact W.iret (v := (((2 * (u.2 1 (3 * x1).toNatClampNeg)) + (5 * (u.2 1 ((3 * x1) + 1).toNatClampNeg))) + (u.2 1 ((3 * x1) + 2).toNatClampNeg))) hx hb hr (fun t ht hW => ⟨⟨(((2 * (u.2 1 (3 * x1).toNatClampNeg)) + (5 * (u.2 1 ((3 * x1) + 1).toNatClampNeg))) + (u.2 1 ((3 * x1) + 2).toNatClampNeg)), u, rfl, h, by rw [ht]; exact hP, va_K.moved hW.alike hK⟩, hS.F ht⟩) hS.2.2 d_Model_brightness_34 hlocks
set_option maxHeartbeats 4000000 in
set_option maxRecDepth 100000 in
theorem ct_Model_brightness (l : Launch) (D : va_G) (a : Nat → Nat) (cA cZ : ClassId) (G : pG) (sz : Nat) (x1 : Int32) (u : pS) (Q : Int32 → pS → Prop) (hI : pw_I 15 a) (h : wp_Model_brightness G x1 u Q) : Met l y_Model_brightness w_Model_brightness ({ frames := 0, cells := 0, slots := 0, locals := 0 } : Room) (va_Pc [.ref (a 0), .int x1] (pw_pre D (rw a cA cZ G) (rT cA cZ) sz u)) (va_Qi (fun (r : Int32) (u : pS) => Q r u) (pw_B D (rw a cA cZ G) (rT cA cZ)) (pw_F 15 a sz)) 0 0 (pw_F 15 a sz) := by
 refine Met.ofW (cc := b_Model_brightness) (maxL := 2) (ret := (some .int)) (by decide) rfl ?_
 intro p e s m args below meth c s₁ B hml hv
 obtain ⟨rfl, hsz, hP, hK⟩ := hv
 subst hsz
 have hl := lv_entry ([.ref (a 0), .int x1]) (n := 2) (Nat.le_of_ble_eq_true rfl)
 rw [lg_entry_eq]
 generalize (lg_sl ([.ref (a 0), .int x1]) ++ List.replicate (2 - (lg_sl ([.ref (a 0), .int x1])).length) Slot.unset).toArray = ls at hl ⊢
 exact st_Model_brightness (A := (pw_F 15 a s.heap.size)) ⟨B.exec, B.bytes, B.returns, hml, findClass_of_methodNamed B.named, atoms_spec (ws := w_Model_brightness) B.pre, B.notSynchronized, fun q hq => Or.inr hq⟩ ⟨hK, hI, fun k hk => Or.inl ⟨k, hk, rfl⟩⟩ x1 u ls hP hl h
set_option maxHeartbeats 4000000 in
set_option maxRecDepth 100000 in
theorem cp_Model_sorted_46 {p : Program} {l : Launch} {e : Env} {s : State} {m : MethodId} {args : Array Value} {below : List Frame} {meth : Method} {c : Code} {D : va_G} {a : Nat → Nat} {cA cZ : ClassId} {G : pG} {A : Nat → Prop} {Q : Int32 → pS → Prop} (C : pw_C p s m args meth c b_Model_sorted 6 R_Model (some .int) w_Model_sorted A) (K : pw_K s D 15 a (rT cA cZ) A) {k25 : Int32 → Int32 → Int32 → pS → Prop} (hk25 : ∀ (x1 x2 x3 : Int32) (u : pS) (H : Heap) (locs : List Loc) (ls : Array Slot), va_P D vwCl (rw a cA cZ G u) H → va_S A s.heap H locs → lv_has ls 6 [(0, .ref (a 0)), (1, .int x1), (2, .int x2), (3, .int x3)] → k25 x1 x2 x3 u → W p l e ({ frames := 1, cells := 0, slots := 0, locals := 21 } : Room) s m args below meth c H locs 0 0 (pw_Ei below args s D (rw a cA cZ G) (rT cA cZ) A Q) (F0 m 25 ls [])) : ∀ (n : Nat), ∀ (x1 x2 x3 x4 x5 : Int32) (u : pS) (H : Heap) (locs : List Loc) (ls : Array Slot), va_P D vwCl (rw a cA cZ G u) H → va_S A s.heap H locs → lv_has ls 6 [(0, .ref (a 0)), (1, .int x1), (2, .int x2), (3, .int x3), (4, .int x4), (5, .int x5)] → lp_Model_sorted_46 G Q k25 n x1 x2 x3 x4 x5 u → W p l e ({ frames := 1, cells := 0, slots := 0, locals := 21 } : Room) s m args below meth c H locs 0 0 (pw_Ei below args s D (rw a cA cZ G) (rT cA cZ) A Q) (F0 m 46 ls []) := by
 obtain ⟨hx, hb, hr, hml, hown, hts, hlocks, hA⟩ := id C
 obtain ⟨hK, hI, hF⟩ := id K
 have hD : ∀ u, va_D A (rw a cA cZ G u) := fun u => rw_D hI hF
 intro n
 induction n with
 | zero => intro x1 x2 x3 x4 x5 u H locs ls hP hS hl h; exact h.elim
 | succ n ih =>
   intro x1 x2 x3 x4 x5 u H locs ls hP hS hl h
   refine lv_iload hx hb d_Model_sorted_46 (lv_at hl 5 rfl) ?_
   refine lv_aload_n hx hb d_Model_sorted_48 rfl (lv_at hl 0 rfl) ?_
   refine va_get (D := D) (ci := 1) (v := .int (G.2.1 2)) (C := R_Model) (T := T_Model) (N := 23) hx hb hts in_Model hown hK hP 0 rw_at_0 rfl 3 (by decide) (hts _ (List.mem_cons_of_mem _ kw_838)) (fun _ h9 => h9) rfl d_Model_sorted_49 ?_
   refine lv_icmp_ge (tgt := 106) hx hb d_Model_sorted_52 (by decide) (fun c5 => ?_) (fun c5 => ?_)
   · have h := h.1 c5
     refine lv_iload hx hb d_Model_sorted_106 (lv_at hl 4 rfl) ?_
     refine lv_iload_n hx hb d_Model_sorted_108 rfl (lv_at hl 1 rfl) ?_
     refine lv_icmp_ne (tgt := 116) hx hb d_Model_sorted_109 (by decide) (fun c6 => ?_) (fun c6 => ?_)
     · have h := h.2 c6
       refine lv_iload_n hx hb d_Model_sorted_116 rfl (lv_at hl 2 rfl) ?_
       refine lv_istore_n (lv' := [(2, .int x2), (0, .ref (a 0)), (1, .int x1), (3, .int x3), (4, .int x4), (5, .int x5)]) hx hb d_Model_sorted_117 rfl hl (by decide) rfl (fun ls hl => ?_)
       obtain ⟨t7, et7⟩ : ∃ y : Int32, y = x3 + 1 := ⟨_, rfl⟩
       have h := h t7 et7
       refine lv_iinc (v := t7) (lv' := [(3, .int t7), (2, .int x2), (0, .ref (a 0)), (1, .int x1), (4, .int x4), (5, .int x5)]) hx hb d_Model_sorted_118 hl (k := 3) rfl (by rw [et7]; rfl) (by decide) rfl (fun ls hl => ?_)
       refine lv_goto (tgt := 25) hx hb d_Model_sorted_121 (by decide) ?_
       exact hk25 x1 x2 t7 u _ _ _ hP hS (lv_sub hl [2, 3, 1, 0] rfl) h
     · have h := h.1 c6
       refine lv_iload_n hx hb d_Model_sorted_112 rfl (lv_at hl 3 rfl) ?_
       refine lv_goto (tgt := 117) hx hb d_Model_sorted_113 (by decide) ?_
       refine lv_istore_n (lv' := [(2, .int x3), (0, .ref (a 0)), (1, .int x1), (3, .int x3), (4, .int x4), (5, .int x5)]) hx hb d_Model_sorted_117 rfl hl (by decide) rfl (fun ls hl => ?_)
       obtain ⟨t8, et8⟩ : ∃ y : Int32, y = x3 + 1 := ⟨_, rfl⟩
       have h := h t8 et8
       refine lv_iinc (v := t8) (lv' := [(3, .int t8), (2, .int x3), (0, .ref (a 0)), (1, .int x1), (4, .int x4), (5, .int x5)]) hx hb d_Model_sorted_118 hl (k := 3) rfl (by rw [et8]; rfl) (by decide) rfl (fun ls hl => ?_)
       refine lv_goto (tgt := 25) hx hb d_Model_sorted_121 (by decide) ?_
       exact hk25 x1 x3 t8 u _ _ _ hP hS (lv_sub hl [2, 3, 1, 0] rfl) h
   · have h := h.2 c5
     refine lv_aload_n hx hb d_Model_sorted_55 rfl (lv_at hl 0 rfl) ?_
     refine lv_iload hx hb d_Model_sorted_56 (lv_at hl 5 rfl) ?_
     refine cc_i (va_runV (As := [.int x5]) (rest := []) ⟨hx, hb, hml, hown, hts⟩ (ct_Model_brightness l D a cA cZ G _ x5 u _ hI h) (pw_cwV 1 hts kw_1059 kw_57 kw_1056 kw_1058 kw_43 (by decide +kernel) ⟨Nat.le_of_ble_eq_true rfl, Nat.le_of_ble_eq_true rfl⟩) ⟨pw_blind, va_recv hK hP (ci := 1) (q0 := 0) rfl rw_at_0, fun U hU hW => ⟨rfl, by rw [hU], by rw [hU]; exact hP, va_K.moved hW.alike hK⟩⟩ rfl rfl hl.1 rfl (lv_room (Nat.le_of_ble_eq_true rfl)) d_Model_sorted_58 ⟨Nat.le_of_ble_eq_true rfl, Nat.le_of_ble_eq_true rfl⟩) hS hF hA (fun r10 u9 H locs hP hS h => ?_)
     refine lv_aload_n hx hb d_Model_sorted_61 rfl (lv_at hl 0 rfl) ?_
     refine lv_iload_n hx hb d_Model_sorted_62 rfl (lv_at hl 3 rfl) ?_
     refine cc_i (va_runV (As := [.int x3]) (rest := [.int r10]) ⟨hx, hb, hml, hown, hts⟩ (ct_Model_brightness l D a cA cZ G _ x3 u9 _ hI h) (pw_cwV 1 hts kw_1059 kw_57 kw_1056 kw_1058 kw_43 (by decide +kernel) ⟨Nat.le_of_ble_eq_true rfl, Nat.le_of_ble_eq_true rfl⟩) ⟨pw_blind, va_recv hK hP (ci := 1) (q0 := 0) rfl rw_at_0, fun U hU hW => ⟨rfl, by rw [hU], by rw [hU]; exact hP, va_K.moved hW.alike hK⟩⟩ rfl rfl hl.1 rfl (lv_room (Nat.le_of_ble_eq_true rfl)) d_Model_sorted_63 ⟨Nat.le_of_ble_eq_true rfl, Nat.le_of_ble_eq_true rfl⟩) hS hF hA (fun r12 u11 H locs hP hS h => ?_)
     refine lv_icmp_gt (tgt := 89) hx hb d_Model_sorted_66 (by decide) (fun c13 => ?_) (fun c13 => ?_)
     · have h := h.1 c13
       refine lv_iload hx hb d_Model_sorted_89 (lv_at hl 4 rfl) ?_
       refine lv_iconst (v := 1) hx hb d_Model_sorted_91 (by decide) ?_
       refine lv_iadd hx hb d_Model_sorted_92 ?_
       refine lv_goto (tgt := 98) hx hb d_Model_sorted_93 (by decide) ?_
       refine lv_topi (fun t14 et14 => ?_)
       have h := h t14 et14
       refine lv_istore (lv' := [(4, .int t14), (0, .ref (a 0)), (1, .int x1), (2, .int x2), (3, .int x3), (5, .int x5)]) hx hb d_Model_sorted_98 hl (by decide) rfl (fun ls hl => ?_)
       obtain ⟨t15, et15⟩ : ∃ y : Int32, y = x5 + 1 := ⟨_, rfl⟩
       have h := h t15 et15
       refine lv_iinc (v := t15) (lv' := [(5, .int t15), (4, .int t14), (0, .ref (a 0)), (1, .int x1), (2, .int x2), (3, .int x3)]) hx hb d_Model_sorted_100 hl (k := 5) rfl (by rw [et15]; rfl) (by decide) rfl (fun ls hl => ?_)
       refine lv_goto (tgt := 46) hx hb d_Model_sorted_103 (by decide) ?_
       exact ih x1 x2 x3 t14 t15 u11 _ _ _ hP hS (lv_sub hl [2, 3, 4, 5, 1, 0] rfl) h
     · have h := h.2 c13
       refine lv_aload_n hx hb d_Model_sorted_69 rfl (lv_at hl 0 rfl) ?_
       refine lv_iload hx hb d_Model_sorted_70 (lv_at hl 5 rfl) ?_
       refine cc_i (va_runV (As := [.int x5]) (rest := []) ⟨hx, hb, hml, hown, hts⟩ (ct_Model_brightness l D a cA cZ G _ x5 u11 _ hI h) (pw_cwV 1 hts kw_1059 kw_57 kw_1056 kw_1058 kw_43 (by decide +kernel) ⟨Nat.le_of_ble_eq_true rfl, Nat.le_of_ble_eq_true rfl⟩) ⟨pw_blind, va_recv hK hP (ci := 1) (q0 := 0) rfl rw_at_0, fun U hU hW => ⟨rfl, by rw [hU], by rw [hU]; exact hP, va_K.moved hW.alike hK⟩⟩ rfl rfl hl.1 rfl (lv_room (Nat.le_of_ble_eq_true rfl)) d_Model_sorted_72 ⟨Nat.le_of_ble_eq_true rfl, Nat.le_of_ble_eq_true rfl⟩) hS hF hA (fun r17 u16 H locs hP hS h => ?_)
       refine lv_aload_n hx hb d_Model_sorted_75 rfl (lv_at hl 0 rfl) ?_
       refine lv_iload_n hx hb d_Model_sorted_76 rfl (lv_at hl 3 rfl) ?_
       refine cc_i (va_runV (As := [.int x3]) (rest := [.int r17]) ⟨hx, hb, hml, hown, hts⟩ (ct_Model_brightness l D a cA cZ G _ x3 u16 _ hI h) (pw_cwV 1 hts kw_1059 kw_57 kw_1056 kw_1058 kw_43 (by decide +kernel) ⟨Nat.le_of_ble_eq_true rfl, Nat.le_of_ble_eq_true rfl⟩) ⟨pw_blind, va_recv hK hP (ci := 1) (q0 := 0) rfl rw_at_0, fun U hU hW => ⟨rfl, by rw [hU], by rw [hU]; exact hP, va_K.moved hW.alike hK⟩⟩ rfl rfl hl.1 rfl (lv_room (Nat.le_of_ble_eq_true rfl)) d_Model_sorted_77 ⟨Nat.le_of_ble_eq_true rfl, Nat.le_of_ble_eq_true rfl⟩) hS hF hA (fun r19 u18 H locs hP hS h => ?_)
       refine lv_icmp_ne (tgt := 96) hx hb d_Model_sorted_80 (by decide) (fun c20 => ?_) (fun c20 => ?_)
       · have h := h.2 c20
         refine lv_iload hx hb d_Model_sorted_96 (lv_at hl 4 rfl) ?_
         refine lv_istore (lv' := [(4, .int x4), (0, .ref (a 0)), (1, .int x1), (2, .int x2), (3, .int x3), (5, .int x5)]) hx hb d_Model_sorted_98 hl (by decide) rfl (fun ls hl => ?_)
         obtain ⟨t21, et21⟩ : ∃ y : Int32, y = x5 + 1 := ⟨_, rfl⟩
         have h := h t21 et21
         refine lv_iinc (v := t21) (lv' := [(5, .int t21), (4, .int x4), (0, .ref (a 0)), (1, .int x1), (2, .int x2), (3, .int x3)]) hx hb d_Model_sorted_100 hl (k := 5) rfl (by rw [et21]; rfl) (by decide) rfl (fun ls hl => ?_)
         refine lv_goto (tgt := 46) hx hb d_Model_sorted_103 (by decide) ?_
         exact ih x1 x2 x3 x4 t21 u18 _ _ _ hP hS (lv_sub hl [2, 3, 4, 5, 1, 0] rfl) h
       · have h := h.1 c20
         refine lv_iload hx hb d_Model_sorted_83 (lv_at hl 5 rfl) ?_
         refine lv_iload_n hx hb d_Model_sorted_85 rfl (lv_at hl 3 rfl) ?_
         refine lv_icmp_ge (tgt := 96) hx hb d_Model_sorted_86 (by decide) (fun c22 => ?_) (fun c22 => ?_)
         · have h := h.1 c22
           refine lv_iload hx hb d_Model_sorted_96 (lv_at hl 4 rfl) ?_
           refine lv_istore (lv' := [(4, .int x4), (0, .ref (a 0)), (1, .int x1), (2, .int x2), (3, .int x3), (5, .int x5)]) hx hb d_Model_sorted_98 hl (by decide) rfl (fun ls hl => ?_)
           obtain ⟨t23, et23⟩ : ∃ y : Int32, y = x5 + 1 := ⟨_, rfl⟩
           have h := h t23 et23
           refine lv_iinc (v := t23) (lv' := [(5, .int t23), (4, .int x4), (0, .ref (a 0)), (1, .int x1), (2, .int x2), (3, .int x3)]) hx hb d_Model_sorted_100 hl (k := 5) rfl (by rw [et23]; rfl) (by decide) rfl (fun ls hl => ?_)
           refine lv_goto (tgt := 46) hx hb d_Model_sorted_103 (by decide) ?_
           exact ih x1 x2 x3 x4 t23 u18 _ _ _ hP hS (lv_sub hl [2, 3, 4, 5, 1, 0] rfl) h
         · have h := h.2 c22
           refine lv_iload hx hb d_Model_sorted_89 (lv_at hl 4 rfl) ?_
           refine lv_iconst (v := 1) hx hb d_Model_sorted_91 (by decide) ?_
           refine lv_iadd hx hb d_Model_sorted_92 ?_
           refine lv_goto (tgt := 98) hx hb d_Model_sorted_93 (by decide) ?_
           refine lv_topi (fun t24 et24 => ?_)
           have h := h t24 et24
           refine lv_istore (lv' := [(4, .int t24), (0, .ref (a 0)), (1, .int x1), (2, .int x2), (3, .int x3), (5, .int x5)]) hx hb d_Model_sorted_98 hl (by decide) rfl (fun ls hl => ?_)
           obtain ⟨t25, et25⟩ : ∃ y : Int32, y = x5 + 1 := ⟨_, rfl⟩
           have h := h t25 et25
           refine lv_iinc (v := t25) (lv' := [(5, .int t25), (4, .int t24), (0, .ref (a 0)), (1, .int x1), (2, .int x2), (3, .int x3)]) hx hb d_Model_sorted_100 hl (k := 5) rfl (by rw [et25]; rfl) (by decide) rfl (fun ls hl => ?_)
           refine lv_goto (tgt := 46) hx hb d_Model_sorted_103 (by decide) ?_
           exact ih x1 x2 x3 t24 t25 u18 _ _ _ hP hS (lv_sub hl [2, 3, 4, 5, 1, 0] rfl) h
set_option maxHeartbeats 4000000 in
set_option maxRecDepth 100000 in
theorem cp_Model_sorted_25 {p : Program} {l : Launch} {e : Env} {s : State} {m : MethodId} {args : Array Value} {below : List Frame} {meth : Method} {c : Code} {D : va_G} {a : Nat → Nat} {cA cZ : ClassId} {G : pG} {A : Nat → Prop} {Q : Int32 → pS → Prop} (C : pw_C p s m args meth c b_Model_sorted 6 R_Model (some .int) w_Model_sorted A) (K : pw_K s D 15 a (rT cA cZ) A) : ∀ (n : Nat), ∀ (x1 x2 x3 : Int32) (u : pS) (H : Heap) (locs : List Loc) (ls : Array Slot), va_P D vwCl (rw a cA cZ G u) H → va_S A s.heap H locs → lv_has ls 6 [(0, .ref (a 0)), (1, .int x1), (2, .int x2), (3, .int x3)] → lp_Model_sorted_25 G Q n x1 x2 x3 u → W p l e ({ frames := 1, cells := 0, slots := 0, locals := 21 } : Room) s m args below meth c H locs 0 0 (pw_Ei below args s D (rw a cA cZ G) (rT cA cZ) A Q) (F0 m 25 ls []) := by
 obtain ⟨hx, hb, hr, hml, hown, hts, hlocks, hA⟩ := id C
 obtain ⟨hK, hI, hF⟩ := id K
 have hD : ∀ u, va_D A (rw a cA cZ G u) := fun u => rw_D hI hF
 intro n
 induction n with
 | zero => intro x1 x2 x3 u H locs ls hP hS hl h; exact h.elim
 | succ n ih =>
   intro x1 x2 x3 u H locs ls hP hS hl h
   refine lv_iload_n hx hb d_Model_sorted_25 rfl (lv_at hl 3 rfl) ?_
   refine lv_aload_n hx hb d_Model_sorted_26 rfl (lv_at hl 0 rfl) ?_
   refine va_get (D := D) (ci := 1) (v := .int (G.2.1 2)) (C := R_Model) (T := T_Model) (N := 23) hx hb hts in_Model hown hK hP 0 rw_at_0 rfl 3 (by decide) (hts _ (List.mem_cons_of_mem _ kw_838)) (fun _ h9 => h9) rfl d_Model_sorted_27 ?_
   refine lv_icmp_ge (tgt := 124) hx hb d_Model_sorted_30 (by decide) (fun c3 => ?_) (fun c3 => ?_)
   · have h := h.1 c3
     refine lv_iload_n hx hb d_Model_sorted_124 rfl (lv_at hl 2 rfl) ?_
     exact W.iret (v := x2) hx hb hr (fun t ht hW => ⟨⟨x2, u, rfl, h, by rw [ht]; exact hP, va_K.moved hW.alike hK⟩, hS.F ht⟩) hS.2.2 d_Model_sorted_125 hlocks
   · have h := h.2 c3
     refine lv_aload_n hx hb d_Model_sorted_33 rfl (lv_at hl 0 rfl) ?_
     refine va_get (D := D) (ci := 1) (v := .int (u.1 0)) (C := R_Model) (T := T_Model) (N := 23) hx hb hts in_Model hown hK hP 0 rw_at_0 rfl 0 (by decide) (hts _ (List.mem_cons_of_mem _ kw_835)) (fun _ h9 => h9) rfl d_Model_sorted_34 ?_
     refine lv_if_ne (tgt := 124) hx hb d_Model_sorted_37 (by decide) (fun c4 => ?_) (fun c4 => ?_)
     · have h := h.2 c4
       refine lv_iload_n hx hb d_Model_sorted_124 rfl (lv_at hl 2 rfl) ?_
       exact W.iret (v := x2) hx hb hr (fun t ht hW => ⟨⟨x2, u, rfl, h, by rw [ht]; exact hP, va_K.moved hW.alike hK⟩, hS.F ht⟩) hS.2.2 d_Model_sorted_125 hlocks
     · have h := h.1 c4
       refine lv_iconst (v := 0) hx hb d_Model_sorted_40 (by decide) ?_
       refine lv_istore (lv' := [(4, .int 0), (0, .ref (a 0)), (1, .int x1), (2, .int x2), (3, .int x3)]) hx hb d_Model_sorted_41 hl (by decide) rfl (fun ls hl => ?_)
       refine lv_iconst (v := 0) hx hb d_Model_sorted_43 (by decide) ?_
       refine lv_istore (lv' := [(5, .int 0), (4, .int 0), (0, .ref (a 0)), (1, .int x1), (2, .int x2), (3, .int x3)]) hx hb d_Model_sorted_44 hl (by decide) rfl (fun ls hl => ?_)
       obtain ⟨n1, h⟩ := h
       exact cp_Model_sorted_46 C K ih n1 x1 x2 x3 0 0 u _ _ _ hP hS (lv_sub hl [2, 3, 4, 5, 1, 0] rfl) h
set_option maxHeartbeats 4000000 in
set_option maxRecDepth 100000 in
theorem st_Model_sorted {p : Program} {l : Launch} {e : Env} {s : State} {m : MethodId} {args : Array Value} {below : List Frame} {meth : Method} {c : Code} {D : va_G} {a : Nat → Nat} {cA cZ : ClassId} {G : pG} {A : Nat → Prop} {Q : Int32 → pS → Prop} (C : pw_C p s m args meth c b_Model_sorted 6 R_Model (some .int) w_Model_sorted A) (K : pw_K s D 15 a (rT cA cZ) A) (x1 : Int32) (u : pS) (ls : Array Slot) (hP : va_P D vwCl (rw a cA cZ G u) s.heap) (hl : lv_has ls 6 [(0, .ref (a 0)), (1, .int x1)]) (h : wp_Model_sorted G x1 u Q) : W p l e ({ frames := 1, cells := 0, slots := 0, locals := 21 } : Room) s m args below meth c s.heap [] 0 0 (pw_Ei below args s D (rw a cA cZ G) (rT cA cZ) A Q) (F0 m 0 ls []) := by
 obtain ⟨hx, hb, hr, hml, hown, hts, hlocks, hA⟩ := id C
 obtain ⟨hK, hI, hF⟩ := id K
 have hD : ∀ u, va_D A (rw a cA cZ G u) := fun u => rw_D hI hF
 have hS : va_S A s.heap s.heap [] := va_S.rf
 have h : wp_Model_sorted G x1 u Q := h
 refine lv_aload_n hx hb d_Model_sorted_0 rfl (lv_at hl 0 rfl) ?_
 refine lv_iload_n hx hb d_Model_sorted_1 rfl (lv_at hl 1 rfl) ?_
 refine lv_if_lt (tgt := 13) hx hb d_Model_sorted_2 (by decide) (fun c1 => ?_) (fun c1 => ?_)
 · have h := h.1 c1
   refine lv_iconst (v := 1) hx hb d_Model_sorted_13 (by decide) ?_
   refine lv_goto (tgt := 18) hx hb d_Model_sorted_14 (by decide) ?_
   refine va_put (D := D) (ci := 1) (v := .int 1) (ty := .int) (C := R_Model) (T := T_Model) (N := 23) hx hb hts in_Model ty_Model tyok_Model nm_Model hown hK hP (hD _) hS 0 rw_at_0 rfl 0 (by decide) (hts _ (List.mem_cons_of_mem _ kw_835)) (fun _ h9 => h9) rfl (by decide +kernel) rfl rfl (Nat.le_of_ble_eq_true rfl) d_Model_sorted_18 (fun H locs hP _ hS => ?_)
   obtain ⟨u2, eu2⟩ : ∃ z, z = pw_si u 0 1 := ⟨_, rfl⟩
   rw [rw_si_0_0, ← eu2] at hP
   have h := h u2 eu2
   refine lv_iconst (v := 0) hx hb d_Model_sorted_21 (by decide) ?_
   refine lv_istore_n (lv' := [(2, .int 0), (0, .ref (a 0)), (1, .int x1)]) hx hb d_Model_sorted_22 rfl hl (by decide) rfl (fun ls hl => ?_)
   refine lv_iconst (v := 0) hx hb d_Model_sorted_23 (by decide) ?_
   refine lv_istore_n (lv' := [(3, .int 0), (2, .int 0), (0, .ref (a 0)), (1, .int x1)]) hx hb d_Model_sorted_24 rfl hl (by decide) rfl (fun ls hl => ?_)
   obtain ⟨n1, h⟩ := h
   exact cp_Model_sorted_25 C K n1 x1 0 0 u2 _ _ _ hP hS (lv_sub hl [2, 3, 1, 0] rfl) h
 · have h := h.2 c1
   refine lv_iload_n hx hb d_Model_sorted_5 rfl (lv_at hl 1 rfl) ?_
   refine lv_aload_n hx hb d_Model_sorted_6 rfl (lv_at hl 0 rfl) ?_
   refine va_get (D := D) (ci := 1) (v := .int (G.2.1 2)) (C := R_Model) (T := T_Model) (N := 23) hx hb hts in_Model hown hK hP 0 rw_at_0 rfl 3 (by decide) (hts _ (List.mem_cons_of_mem _ kw_838)) (fun _ h9 => h9) rfl d_Model_sorted_7 ?_
   refine lv_icmp_lt (tgt := 17) hx hb d_Model_sorted_10 (by decide) (fun c26 => ?_) (fun c26 => ?_)
   · have h := h.1 c26
     refine lv_iconst (v := 0) hx hb d_Model_sorted_17 (by decide) ?_
     refine va_put (D := D) (ci := 1) (v := .int 0) (ty := .int) (C := R_Model) (T := T_Model) (N := 23) hx hb hts in_Model ty_Model tyok_Model nm_Model hown hK hP (hD _) hS 0 rw_at_0 rfl 0 (by decide) (hts _ (List.mem_cons_of_mem _ kw_835)) (fun _ h9 => h9) rfl (by decide +kernel) rfl rfl (Nat.le_of_ble_eq_true rfl) d_Model_sorted_18 (fun H locs hP _ hS => ?_)
     obtain ⟨u27, eu27⟩ : ∃ z, z = pw_si u 0 0 := ⟨_, rfl⟩
     rw [rw_si_0_0, ← eu27] at hP
     have h := h u27 eu27
     refine lv_iconst (v := 0) hx hb d_Model_sorted_21 (by decide) ?_
     refine lv_istore_n (lv' := [(2, .int 0), (0, .ref (a 0)), (1, .int x1)]) hx hb d_Model_sorted_22 rfl hl (by decide) rfl (fun ls hl => ?_)
     refine lv_iconst (v := 0) hx hb d_Model_sorted_23 (by decide) ?_
     refine lv_istore_n (lv' := [(3, .int 0), (2, .int 0), (0, .ref (a 0)), (1, .int x1)]) hx hb d_Model_sorted_24 rfl hl (by decide) rfl (fun ls hl => ?_)
     obtain ⟨n1, h⟩ := h
     exact cp_Model_sorted_25 C K n1 x1 0 0 u27 _ _ _ hP hS (lv_sub hl [2, 3, 1, 0] rfl) h
   · have h := h.2 c26
     refine lv_iconst (v := 1) hx hb d_Model_sorted_13 (by decide) ?_
     refine lv_goto (tgt := 18) hx hb d_Model_sorted_14 (by decide) ?_
     refine va_put (D := D) (ci := 1) (v := .int 1) (ty := .int) (C := R_Model) (T := T_Model) (N := 23) hx hb hts in_Model ty_Model tyok_Model nm_Model hown hK hP (hD _) hS 0 rw_at_0 rfl 0 (by decide) (hts _ (List.mem_cons_of_mem _ kw_835)) (fun _ h9 => h9) rfl (by decide +kernel) rfl rfl (Nat.le_of_ble_eq_true rfl) d_Model_sorted_18 (fun H locs hP _ hS => ?_)
     obtain ⟨u28, eu28⟩ : ∃ z, z = pw_si u 0 1 := ⟨_, rfl⟩
     rw [rw_si_0_0, ← eu28] at hP
     have h := h u28 eu28
     refine lv_iconst (v := 0) hx hb d_Model_sorted_21 (by decide) ?_
     refine lv_istore_n (lv' := [(2, .int 0), (0, .ref (a 0)), (1, .int x1)]) hx hb d_Model_sorted_22 rfl hl (by decide) rfl (fun ls hl => ?_)
     refine lv_iconst (v := 0) hx hb d_Model_sorted_23 (by decide) ?_
     refine lv_istore_n (lv' := [(3, .int 0), (2, .int 0), (0, .ref (a 0)), (1, .int x1)]) hx hb d_Model_sorted_24 rfl hl (by decide) rfl (fun ls hl => ?_)
     obtain ⟨n1, h⟩ := h
     exact cp_Model_sorted_25 C K n1 x1 0 0 u28 _ _ _ hP hS (lv_sub hl [2, 3, 1, 0] rfl) h
set_option maxHeartbeats 4000000 in
set_option maxRecDepth 100000 in
theorem ct_Model_sorted (l : Launch) (D : va_G) (a : Nat → Nat) (cA cZ : ClassId) (G : pG) (sz : Nat) (x1 : Int32) (u : pS) (Q : Int32 → pS → Prop) (hI : pw_I 15 a) (h : wp_Model_sorted G x1 u Q) : Met l y_Model_sorted w_Model_sorted ({ frames := 1, cells := 0, slots := 0, locals := 21 } : Room) (va_Pc [.ref (a 0), .int x1] (pw_pre D (rw a cA cZ G) (rT cA cZ) sz u)) (va_Qi (fun (r : Int32) (u : pS) => Q r u) (pw_B D (rw a cA cZ G) (rT cA cZ)) (pw_F 15 a sz)) 0 0 (pw_F 15 a sz) := by
 refine Met.ofW (cc := b_Model_sorted) (maxL := 6) (ret := (some .int)) (by decide) rfl ?_
 intro p e s m args below meth c s₁ B hml hv
 obtain ⟨rfl, hsz, hP, hK⟩ := hv
 subst hsz
 have hl := lv_entry ([.ref (a 0), .int x1]) (n := 6) (Nat.le_of_ble_eq_true rfl)
 rw [lg_entry_eq]
 generalize (lg_sl ([.ref (a 0), .int x1]) ++ List.replicate (6 - (lg_sl ([.ref (a 0), .int x1])).length) Slot.unset).toArray = ls at hl ⊢
 exact st_Model_sorted (A := (pw_F 15 a s.heap.size)) ⟨B.exec, B.bytes, B.returns, hml, findClass_of_methodNamed B.named, atoms_spec (ws := w_Model_sorted) B.pre, B.notSynchronized, fun q hq => Or.inr hq⟩ ⟨hK, hI, fun k hk => Or.inl ⟨k, hk, rfl⟩⟩ x1 u ls hP hl h
