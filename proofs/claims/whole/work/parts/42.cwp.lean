def wp_PI_nearest (G : pG) (x0 x1 : Int32) (u : pS) (Q : Int32 → pS → Prop) : Prop := ∀ t1 : Int32, t1 = (if x1 < x0 then x1 else x0) → ∀ t2 : Int32, t2 = (if 1 < t1 then t1 else 1) → Q t2 u
set_option maxHeartbeats 4000000 in
set_option maxRecDepth 100000 in
theorem st_PI_nearest {p : Program} {l : Launch} {e : Env} {s : State} {m : MethodId} {args : Array Value} {below : List Frame} {meth : Method} {c : Code} {D : va_G} {a : Nat → Nat} {cA cZ : ClassId} {G : pG} {A : Nat → Prop} {Q : Int32 → pS → Prop} (C : pw_C p s m args meth c b_PI_nearest 2 R_PI (some .int) w_PI_nearest A) (K : pw_K s D 0 a (eT cA cZ) A) (x0 x1 : Int32) (u : pS) (ls : Array Slot) (hP : va_P D vwCl (ew a cA cZ G u) s.heap) (hl : lv_has ls 2 [(0, .int x0), (1, .int x1)]) (h : wp_PI_nearest G x0 x1 u Q) : W p l e ({ frames := 1, cells := 0, slots := 0, locals := 14 } : Room) s m args below meth c s.heap [] 0 0 (pw_Ei below args s D (ew a cA cZ G) (eT cA cZ) A Q) (F0 m 0 ls []) := by
 obtain ⟨hx, hb, hr, hml, hown, hts, hlocks, hA⟩ := id C
 obtain ⟨hK, hI, hF⟩ := id K
 have hD : ∀ u, va_D A (ew a cA cZ G u) := fun u => ew_D hI hF
 have hS : va_S A s.heap s.heap [] := va_S.rf
 have h : wp_PI_nearest G x0 x1 u Q := h
 refine lv_iconst (v := 1) hx hb d_PI_nearest_0 (by decide) ?_
 refine lv_iload_n hx hb d_PI_nearest_1 rfl (lv_at hl 0 rfl) ?_
 refine lv_iload_n hx hb d_PI_nearest_2 rfl (lv_at hl 1 rfl) ?_
 refine va_mmin hx hb (by rw [hml]; exact hl.1.symm) hown (hts _ (List.mem_cons_of_mem _ kw_79)) (hts _ (List.mem_cons_of_mem _ kw_80)) (hts _ (List.mem_cons_of_mem _ kw_47)) (hts _ (List.mem_cons_of_mem _ kw_81)) (Nat.le_of_ble_eq_true rfl) (Nat.le_of_ble_eq_true rfl) (Nat.le_of_ble_eq_true rfl) (Nat.le_of_ble_eq_true rfl) d_PI_nearest_3 ?_
 refine lv_topi (fun t1 et1 => ?_)
 have h := h t1 et1
 refine va_mmax hx hb (by rw [hml]; exact hl.1.symm) hown (hts _ (List.mem_cons_of_mem _ kw_82)) (hts _ (List.mem_cons_of_mem _ kw_83)) (hts _ (List.mem_cons_of_mem _ kw_47)) (hts _ (List.mem_cons_of_mem _ kw_84)) (Nat.le_of_ble_eq_true rfl) (Nat.le_of_ble_eq_true rfl) (Nat.le_of_ble_eq_true rfl) (Nat.le_of_ble_eq_true rfl) d_PI_nearest_6 ?_
 refine lv_topi (fun t2 et2 => ?_)
 have h := h t2 et2
 exact W.iret (v := t2) hx hb hr (fun t ht hW => ⟨⟨t2, u, rfl, h, by rw [ht]; exact hP, va_K.moved hW.alike hK⟩, hS.F ht⟩) hS.2.2 d_PI_nearest_9 hlocks
set_option maxHeartbeats 4000000 in
set_option maxRecDepth 100000 in
theorem ct_PI_nearest (l : Launch) (D : va_G) (a : Nat → Nat) (cA cZ : ClassId) (G : pG) (sz : Nat) (x0 x1 : Int32) (u : pS) (Q : Int32 → pS → Prop) (hI : pw_I 0 a) (h : wp_PI_nearest G x0 x1 u Q) : Met l y_PI_nearest w_PI_nearest ({ frames := 1, cells := 0, slots := 0, locals := 14 } : Room) (va_Pc [.int x0, .int x1] (pw_pre D (ew a cA cZ G) (eT cA cZ) sz u)) (va_Qi (fun (r : Int32) (u : pS) => Q r u) (pw_B D (ew a cA cZ G) (eT cA cZ)) (pw_F 0 a sz)) 0 0 (pw_F 0 a sz) := by
 refine Met.ofW (cc := b_PI_nearest) (maxL := 2) (ret := (some .int)) (by decide) rfl ?_
 intro p e s m args below meth c s₁ B hml hv
 obtain ⟨rfl, hsz, hP, hK⟩ := hv
 subst hsz
 have hl := lv_entry ([.int x0, .int x1]) (n := 2) (Nat.le_of_ble_eq_true rfl)
 rw [lg_entry_eq]
 generalize (lg_sl ([.int x0, .int x1]) ++ List.replicate (2 - (lg_sl ([.int x0, .int x1])).length) Slot.unset).toArray = ls at hl ⊢
 exact st_PI_nearest (A := (pw_F 0 a s.heap.size)) ⟨B.exec, B.bytes, B.returns, hml, findClass_of_methodNamed B.named, atoms_spec (ws := w_PI_nearest) B.pre, B.notSynchronized, fun q hq => Or.inr hq⟩ ⟨hK, hI, fun k hk => Or.inl ⟨k, hk, rfl⟩⟩ x0 x1 u ls hP hl h
def wp_Model_nearest (G : pG) (x0 x1 : Int32) (u : pS) (Q : Int32 → pS → Prop) : Prop := (1 ≤ x0 → ((x0 ≤ x1 → Q x0 u) ∧ (¬ x0 ≤ x1 → Q x1 u))) ∧ (¬ 1 ≤ x0 → Q 1 u)
set_option maxHeartbeats 4000000 in
set_option maxRecDepth 100000 in
theorem st_Model_nearest {p : Program} {l : Launch} {e : Env} {s : State} {m : MethodId} {args : Array Value} {below : List Frame} {meth : Method} {c : Code} {D : va_G} {a : Nat → Nat} {cA cZ : ClassId} {G : pG} {A : Nat → Prop} {Q : Int32 → pS → Prop} (C : pw_C p s m args meth c b_Model_nearest 2 R_Model (some .int) w_Model_nearest A) (K : pw_K s D 0 a (eT cA cZ) A) (x0 x1 : Int32) (u : pS) (ls : Array Slot) (hP : va_P D vwCl (ew a cA cZ G u) s.heap) (hl : lv_has ls 2 [(0, .int x0), (1, .int x1)]) (h : wp_Model_nearest G x0 x1 u Q) : W p l e ({ frames := 0, cells := 0, slots := 0, locals := 0 } : Room) s m args below meth c s.heap [] 0 0 (pw_Ei below args s D (ew a cA cZ G) (eT cA cZ) A Q) (F0 m 0 ls []) := by
 obtain ⟨hx, hb, hr, hml, hown, hts, hlocks, hA⟩ := id C
 obtain ⟨hK, hI, hF⟩ := id K
 have hD : ∀ u, va_D A (ew a cA cZ G u) := fun u => ew_D hI hF
 have hS : va_S A s.heap s.heap [] := va_S.rf
 have h : wp_Model_nearest G x0 x1 u Q := h
 refine lv_iload_n hx hb d_Model_nearest_0 rfl (lv_at hl 0 rfl) ?_
 refine lv_iconst (v := 1) hx hb d_Model_nearest_1 (by decide) ?_
 refine lv_icmp_ge (tgt := 9) hx hb d_Model_nearest_2 (by decide) (fun c1 => ?_) (fun c1 => ?_)
 · have h := h.1 c1
   refine lv_iload_n hx hb d_Model_nearest_9 rfl (lv_at hl 0 rfl) ?_
   refine lv_iload_n hx hb d_Model_nearest_10 rfl (lv_at hl 1 rfl) ?_
   refine lv_icmp_le (tgt := 18) hx hb d_Model_nearest_11 (by decide) (fun c2 => ?_) (fun c2 => ?_)
   · have h := h.1 c2
     refine lv_iload_n hx hb d_Model_nearest_18 rfl (lv_at hl 0 rfl) ?_
     exact W.iret (v := x0) hx hb hr (fun t ht hW => ⟨⟨x0, u, rfl, h, by rw [ht]; exact hP, va_K.moved hW.alike hK⟩, hS.F ht⟩) hS.2.2 d_Model_nearest_19 hlocks
   · have h := h.2 c2
     refine lv_iload_n hx hb d_Model_nearest_14 rfl (lv_at hl 1 rfl) ?_
     refine lv_goto (tgt := 19) hx hb d_Model_nearest_15 (by decide) ?_
     exact W.iret (v := x1) hx hb hr (fun t ht hW => ⟨⟨x1, u, rfl, h, by rw [ht]; exact hP, va_K.moved hW.alike hK⟩, hS.F ht⟩) hS.2.2 d_Model_nearest_19 hlocks
 · have h := h.2 c1
   refine lv_iconst (v := 1) hx hb d_Model_nearest_5 (by decide) ?_
   refine lv_goto (tgt := 19) hx hb d_Model_nearest_6 (by decide) ?_
   exact W.iret (v := 1) hx hb hr (fun t ht hW => ⟨⟨1, u, rfl, h, by rw [ht]; exact hP, va_K.moved hW.alike hK⟩, hS.F ht⟩) hS.2.2 d_Model_nearest_19 hlocks
set_option maxHeartbeats 4000000 in
set_option maxRecDepth 100000 in
theorem ct_Model_nearest (l : Launch) (D : va_G) (a : Nat → Nat) (cA cZ : ClassId) (G : pG) (sz : Nat) (x0 x1 : Int32) (u : pS) (Q : Int32 → pS → Prop) (hI : pw_I 0 a) (h : wp_Model_nearest G x0 x1 u Q) : Met l y_Model_nearest w_Model_nearest ({ frames := 0, cells := 0, slots := 0, locals := 0 } : Room) (va_Pc [.int x0, .int x1] (pw_pre D (ew a cA cZ G) (eT cA cZ) sz u)) (va_Qi (fun (r : Int32) (u : pS) => Q r u) (pw_B D (ew a cA cZ G) (eT cA cZ)) (pw_F 0 a sz)) 0 0 (pw_F 0 a sz) := by
 refine Met.ofW (cc := b_Model_nearest) (maxL := 2) (ret := (some .int)) (by decide) rfl ?_
 intro p e s m args below meth c s₁ B hml hv
 obtain ⟨rfl, hsz, hP, hK⟩ := hv
 subst hsz
 have hl := lv_entry ([.int x0, .int x1]) (n := 2) (Nat.le_of_ble_eq_true rfl)
 rw [lg_entry_eq]
 generalize (lg_sl ([.int x0, .int x1]) ++ List.replicate (2 - (lg_sl ([.int x0, .int x1])).length) Slot.unset).toArray = ls at hl ⊢
 exact st_Model_nearest (A := (pw_F 0 a s.heap.size)) ⟨B.exec, B.bytes, B.returns, hml, findClass_of_methodNamed B.named, atoms_spec (ws := w_Model_nearest) B.pre, B.notSynchronized, fun q hq => Or.inr hq⟩ ⟨hK, hI, fun k hk => Or.inl ⟨k, hk, rfl⟩⟩ x0 x1 u ls hP hl h
def pc_G : pG := (fun _ => 0, fun _ => 0, fun _ _ => 0)
def pc_u : pS := (fun _ => 0, fun _ _ => 0)
theorem pc_I : pw_I 0 (fun _ => 0) := fun j k h => by omega
/-- the nearest of 1 .. m -/
def pc_nr (x m : Int32) : Nat := if x.toInt < 1 then 1 else if m.toInt < x.toInt then m.toInt.toNat else x.toInt.toNat
theorem pc_nr_in {x m : Int32} (h : 1 ≤ m.toInt) : 1 ≤ pc_nr x m ∧ (pc_nr x m : Int) ≤ m.toInt := by
  unfold pc_nr
  split
  · omega
  · split <;> omega
theorem pc_of {x : Int32} {n : Nat} (h : x.toInt = (n : Int)) : x = nI n := by
  have h2 := x.toInt_lt
  have h3 : n < 2 ^ 31 := by omega
  exact Int32.toInt_inj.mp (by rw [nI_toInt h3]; exact h)
theorem near_any {x m : Int32} (hm : 1 ≤ m.toInt) : (x < 1 → (1 : Int32) = nI (pc_nr x m)) ∧ (¬ x < 1 → m < x → m = nI (pc_nr x m)) ∧ (¬ x < 1 → ¬ m < x → x = nI (pc_nr x m)) := by
  have h1 : (1 : Int32).toInt = 1 := by decide
  refine ⟨fun h => ?_, fun h h' => ?_, fun h h' => ?_⟩ <;> rw [Int32.lt_iff_toInt_lt, h1] at h
  · have e : pc_nr x m = 1 := by unfold pc_nr; rw [if_pos h]
    rw [e]; rfl
  · rw [Int32.lt_iff_toInt_lt] at h'
    refine pc_of ?_
    unfold pc_nr
    rw [if_neg h, if_pos h']
    omega
  · rw [Int32.lt_iff_toInt_lt] at h'
    refine pc_of ?_
    unfold pc_nr
    rw [if_neg h, if_neg h']
    omega
