/-! OWN ROWS: the law's start. -/
theorem lw_cwat {a : Nat → Nat} {cA cZ : ClassId} {G : pG} {u : pS} (k : Nat) (hk : k < 40) : ∃ e, (cw a cA cZ G u)[k]? = some (a k, e) := by
  have he : (cw a cA cZ G u).map (fun q => q.1) = (List.range 40).map a := rfl
  have h1 : ((cw a cA cZ G u).map (fun q => q.1))[k]? = some (a k) := by rw [he, List.getElem?_map, List.getElem?_range hk]; rfl
  rw [List.getElem?_map] at h1
  cases hq : (cw a cA cZ G u)[k]? with
  | none => rw [hq] at h1; cases h1
  | some q => rw [hq] at h1; obtain ⟨q1, q2⟩ := q; cases h1; exact ⟨q2, rfl⟩
theorem lw_rwat {a : Nat → Nat} {cA cZ : ClassId} {G : pG} {u : pS} (k : Nat) (hk : k < 15) : ∃ e, (rw a cA cZ G u)[k]? = some (a k, e) := by
  have he : (rw a cA cZ G u).map (fun q => q.1) = (List.range 15).map a := rfl
  have h1 : ((rw a cA cZ G u).map (fun q => q.1))[k]? = some (a k) := by rw [he, List.getElem?_map, List.getElem?_range hk]; rfl
  rw [List.getElem?_map] at h1
  cases hq : (rw a cA cZ G u)[k]? with
  | none => rw [hq] at h1; cases h1
  | some q => rw [hq] at h1; obtain ⟨q1, q2⟩ := q; cases h1; exact ⟨q2, rfl⟩
theorem lw_D1 {A : Nat → Prop} {q : Nat} {e : va_E} (h : A q) : va_D A [(q, e)] := by
  refine ⟨fun i j x y hi hj _ => ?_, fun k x hx => ?_⟩
  · have h1 := (List.getElem?_eq_some_iff.mp hi).1
    have h2 := (List.getElem?_eq_some_iff.mp hj).1
    simp at h1 h2
    omega
  · have h2 := List.mem_of_getElem? hx
    rw [List.mem_singleton.mp h2]; exact h
theorem lw_D2 {A : Nat → Prop} {a a2 : Nat → Nat} {cA cZ : ClassId} {G Gm : pG} {u v : pS} (hI : pw_I 40 a) (hI2 : pw_I 15 a2) (hap : ∀ j k, j < 40 → k < 15 → a j ≠ a2 k) (hF : ∀ k, k < 40 → A (a k)) (hF2 : ∀ k, k < 15 → A (a2 k)) : va_D A (cw a cA cZ G u ++ rw a2 cA cZ Gm v) := by
  refine pw_addrs (n := 55) (a := fun k => if k < 40 then a k else a2 (k - 40)) rfl ?_ ?_
  · intro j k hj hk he
    by_cases h1 : j < 40 <;> by_cases h2 : k < 40
    · simp only [h1, h2, if_true] at he
      exact hI j k h1 h2 he
    · simp only [h1, h2, if_true, if_false] at he
      exact absurd he (hap j (k - 40) h1 (by omega))
    · simp only [h1, h2, if_true, if_false] at he
      exact absurd he.symm (hap k (j - 40) h2 (by omega))
    · simp only [h1, h2, if_false] at he
      have := hI2 (j - 40) (k - 40) (by omega) (by omega) he
      omega
  · intro k hk
    by_cases h1 : k < 40
    · simp only [h1, if_true]; exact hF k h1
    · simp only [h1, if_false]; exact hF2 (k - 40) (by omega)
theorem lw_pb {av : List Value} {D : va_G} {ws : va_W} {tys : List (ClassId × FieldType)} {sz : Nat} : FrameBlind (va_Pc av (pc_pre D ws tys sz)) := by
  intro a U g mk q
  obtain ⟨q0, q1, qP, qK, qD⟩ := q
  exact ⟨q0, q1, qP, va_K.moved (u := U) (U := U.calling g mk a) (Vm.Alike.refl U.vm) qK, qD⟩
theorem st_arr {args : Array Value} {s : State} (h : (Cond.arrayClass .int).before args s = true) : ∃ cA, ArrOfT s cA .int ∧ va_RA s cA .int := by
  obtain ⟨c, k, comp, h1, h2, h3⟩ := Cond.arrayClass_spec h
  exact ⟨c, fun n z => ⟨fun k h => (by cases h), k, h2, comp, h3⟩, h1⟩
theorem st_arz {args : Array Value} {s : State} (h : (Cond.arrayClass .boolean).before args s = true) : ∃ cA, ArrOfT s cA .boolean ∧ va_RA s cA .boolean := by
  obtain ⟨c, k, comp, h1, h2, h3⟩ := Cond.arrayClass_spec h
  exact ⟨c, fun n z => ⟨fun k h => (by cases h), k, h2, comp, h3⟩, h1⟩
theorem st_K {s : State} {b : Nat} (hts : ∀ w ∈ (Cond.initialized "PictureInlays") :: pw_T, w.before #[Value.ref b] s = true) : ∃ (D : va_G) (cA cZ : ClassId), va_K D vwCl (cT cA cZ) s := by
  obtain ⟨c0, i0, k0⟩ := u_known (C := R_PI) (T := T_PI) (N := 12) (n := 12) hts in_PI (hts _ (List.mem_cons_of_mem _ kw_67))
  obtain ⟨c1, i1, k1⟩ := u_known (C := R_Model) (T := T_Model) (N := 23) (n := 23) hts in_Model (hts _ (List.mem_cons_of_mem _ kw_827))
  obtain ⟨c2, i2, k2⟩ := u_known (C := R_Brightest) (T := T_Brightest) (N := 2) (n := 2) hts in_Brightest (hts _ (List.mem_cons_of_mem _ kw_188))
  obtain ⟨c3, i3, k3⟩ := u_known (C := R_Colours) (T := T_Colours) (N := 3) (n := 3) hts in_Colours (hts _ (List.mem_cons_of_mem _ kw_130))
  obtain ⟨c4, i4, k4⟩ := u_known (C := R_Grid) (T := T_Grid) (N := 6) (n := 6) hts in_Grid (hts _ (List.mem_cons_of_mem _ kw_75))
  obtain ⟨c5, i5, k5⟩ := u_known (C := R_Highest) (T := T_Highest) (N := 2) (n := 2) hts in_Highest (hts _ (List.mem_cons_of_mem _ kw_274))
  obtain ⟨c6, i6, k6⟩ := u_known (C := R_Laying) (T := T_Laying) (N := 2) (n := 2) hts in_Laying (hts _ (List.mem_cons_of_mem _ kw_204))
  obtain ⟨c7, i7, k7⟩ := u_known (C := R_Pieces) (T := T_Pieces) (N := 11) (n := 11) hts in_Pieces (hts _ (List.mem_cons_of_mem _ kw_146))
  obtain ⟨c8, i8, k8⟩ := u_known (C := R_Sheet) (T := T_Sheet) (N := 9) (n := 9) hts in_Sheet (hts _ (List.mem_cons_of_mem _ kw_268))
  obtain ⟨c9, i9, k9⟩ := u_known (C := R_Tool) (T := T_Tool) (N := 4) (n := 4) hts in_Tool (hts _ (List.mem_cons_of_mem _ kw_247))
  obtain ⟨c10, i10, k10⟩ := u_known (C := R_Walk) (T := T_Walk) (N := 8) (n := 8) hts in_Walk (hts _ (List.mem_cons_of_mem _ kw_215))
  obtain ⟨cA, a1, a2⟩ := st_arr (hts _ (List.mem_cons_of_mem _ kw_128))
  obtain ⟨cZ, z1, z2⟩ := st_arz (hts _ (List.mem_cons_of_mem _ kw_266))
  refine ⟨(fun k => if k = 0 then c0 else if k = 1 then c1 else if k = 2 then c2 else if k = 3 then c3 else if k = 4 then c4 else if k = 5 then c5 else if k = 6 then c6 else if k = 7 then c7 else if k = 8 then c8 else if k = 9 then c9 else c10, fun k => if k = 0 then i0 else if k = 1 then i1 else if k = 2 then i2 else if k = 3 then i3 else if k = 4 then i4 else if k = 5 then i5 else if k = 6 then i6 else if k = 7 then i7 else if k = 8 then i8 else if k = 9 then i9 else i10), cA, cZ, ?_, ?_⟩
  · intro k q hq
    match k, hq with
    | 0, hq => cases hq; exact k0
    | 1, hq => cases hq; exact k1
    | 2, hq => cases hq; exact k2
    | 3, hq => cases hq; exact k3
    | 4, hq => cases hq; exact k4
    | 5, hq => cases hq; exact k5
    | 6, hq => cases hq; exact k6
    | 7, hq => cases hq; exact k7
    | 8, hq => cases hq; exact k8
    | 9, hq => cases hq; exact k9
    | 10, hq => cases hq; exact k10
    | k + 11, hq => simp [vwCl] at hq
  · intro k q hq
    match k, hq with
    | 0, hq => cases hq; exact ⟨a1, a2⟩
    | 1, hq => cases hq; exact ⟨z1, z2⟩
    | k + 2, hq => simp [cT] at hq
theorem lw_cb {av : List Value} {b L sz : Nat} {xs : Nat → Int32} : FrameBlind (va_Pc av (fun U => U.heap.size = sz ∧ va_X b L xs U U.heap)) := by
  intro a U g mk q
  obtain ⟨q0, q1, q2⟩ := q
  exact ⟨q0, q1, va_X.moved (u := U) (U := U.calling g mk a) (Vm.Alike.refl U.vm) q2⟩
theorem lw_k1 {D : va_G} {cl : List vw_C} {ws : va_W} {H H1 : Heap} (h : va_P D cl ws H) (hk : ∀ q : Nat, q < H.size → ¬ H.size ≤ q → H1[q]? = H[q]?) : va_P D cl ws H1 := lw_keep h (fun k q _ hlt hge => by omega) hk
set_option maxHeartbeats 4000000 in
set_option maxRecDepth 100000 in
theorem whole_start {p : Program} {e : Env} {s : State} {m : MethodId} {below : List Frame} {meth : Method} {c : Code} (l : Launch) (hLx : px_L l) {b L : Nat} {xs : Nat → Int32} (hL : L ≤ 3075) (C0 : lw_At p s m meth c b L xs) : W p l e room_1 s m #[Value.ref b] below meth c s.heap [] 0 0 (lw_Z below #[Value.ref b] s) (entryFrame m ([Value.ref b] : List Value).toArray 7) := by
 obtain ⟨hx, hb, hr, hml, hown, hts0, hX, hbl, hlocks, hgv⟩ := id C0
 have hts := lw_h2 hts0
 have hA : ∀ q : Nat, s.heap.size ≤ q → (fun q : Nat => s.heap.size ≤ q) q := fun _ h => h
 have hbA : ¬ (fun q : Nat => s.heap.size ≤ q) b := Nat.not_le.mpr hbl
 obtain ⟨D, cA, cZ, hK⟩ := st_K hts
 have hcP : s.vm.findClass "PictureInlays" = some (D.1 0) := (hK.1 0 _ rfl).2.1
 obtain ⟨EX, hN⟩ := st_Ex hts0 hgv hcP
 have hS : va_S (fun q : Nat => s.heap.size ≤ q) s.heap s.heap [] := va_S.rf
 have hP : va_P D vwCl [] s.heap := fun k q h => by simp at h
 have hD : va_D (fun q : Nat => s.heap.size ≤ q) [] := ⟨fun i j p q h => by simp at h, fun k q h => by simp at h⟩
 have hl := lv_entry ([.ref b]) (n := 7) (Nat.le_of_ble_eq_true rfl)
 rw [lg_entry_eq]
 generalize (lg_sl ([.ref b]) ++ List.replicate (7 - (lg_sl ([.ref b])).length) Slot.unset).toArray = ls at hl ⊢
 have hl : lv_has ls 7 [(0, .ref b)] := hl
 refine va_new (ci := 0) (fs := [.null, .int 0, .null, .null, .null, .null, .null, .null, .null, .null, .int 0, .int 0]) (C := R_PI) (T := T_PI) (N := 12) hx hb hts in_PI ty_PI tyok_PI hown (hts _ (List.mem_cons_of_mem _ kw_66)) (hts _ (List.mem_cons_of_mem _ kw_67)) (hts _ (List.mem_cons_of_mem _ kw_45)) hK hP hD hS hA rfl (fun j hj => match j, hj with | 0, _ => rfl | 1, _ => rfl | 2, _ => rfl | 3, _ => rfl | 4, _ => rfl | 5, _ => rfl | 6, _ => rfl | 7, _ => rfl | 8, _ => rfl | 9, _ => rfl | 10, _ => rfl | 11, _ => rfl | (n + 12), h => absurd h (by omega)) (by show 0 + 1 ≤ 601024; omega) (by show 0 + 12 ≤ 7293000; omega) d_law_0 (fun q0 H hP hD hS => ?_)
 have hP : va_P D vwCl [(q0, .inr (0, [.null, .int 0, .null, .null, .null, .null, .null, .null, .null, .null, .int 0, .int 0]))] H := hP
 have hD : va_D (fun q : Nat => s.heap.size ≤ q) [(q0, .inr (0, [.null, .int 0, .null, .null, .null, .null, .null, .null, .null, .null, .int 0, .int 0]))] := hD
 refine W.widen (k := 1) (n := 12) (by omega) (by omega) ?_
 refine lv_dup hx hb d_law_3 rfl ?_
 refine lv_aload_n hx hb d_law_4 rfl (lv_at hl 0 rfl) ?_
 refine lv_iconst (v := 0) hx hb d_law_5 (by decide) ?_
 rw [show (0 : Int32) = nI 0 from li_0]
 refine va_calli (va_runS (As := [.ref b, .int (nI 0)]) (rest := [.ref q0, .ref q0]) ⟨hx, hb, hml, hown, hts⟩ (kt_cell l b L xs (by omega) 0 _ (by decide)) (pw_cwS 2 hts kw_351 kw_44 kw_349 kw_350 (by decide +kernel) ⟨Nat.le_of_ble_eq_true rfl, Nat.le_of_ble_eq_true rfl⟩) ⟨lw_cb, fun U hU hW => ⟨rfl, by rw [hU], by rw [hU]; exact va_X.moved hW.alike (va_X.kept hX (hS.2.1 b hbl hbA))⟩⟩ rfl rfl hl.1 rfl (lv_room (Nat.le_of_ble_eq_true rfl)) d_law_6 ⟨Nat.le_of_ble_eq_true rfl, Nat.le_of_ble_eq_true rfl⟩) hS (fun q h1 h2 => absurd h1 (Nat.not_lt.mpr h2)) (fun q h1 => Nat.le_trans hS.1 h1) (fun r6 _ t H1 locs1 ht hvm hw _ hz1 hk1 hS1 => ?_)
 have hP1 := lw_k1 hP hk1
 clear hP hS hk1 hz1 ht hvm t
 revert H1 locs1
 intro H locs hS1 hP1
 have hS := hS1
 have hP := hP1
 clear hS1 hP1
 subst hw
 refine lv_aload_n hx hb d_law_9 rfl (lv_at hl 0 rfl) ?_
 refine lv_iconst (v := 1) hx hb d_law_10 (by decide) ?_
 rw [show (1 : Int32) = nI 1 from li_1]
 refine va_calli (va_runS (As := [.ref b, .int (nI 1)]) (rest := [.int (if 0 < L then xs 0 else 0), .ref q0, .ref q0]) ⟨hx, hb, hml, hown, hts⟩ (kt_cell l b L xs (by omega) 1 _ (by decide)) (pw_cwS 2 hts kw_351 kw_44 kw_349 kw_350 (by decide +kernel) ⟨Nat.le_of_ble_eq_true rfl, Nat.le_of_ble_eq_true rfl⟩) ⟨lw_cb, fun U hU hW => ⟨rfl, by rw [hU], by rw [hU]; exact va_X.moved hW.alike (va_X.kept hX (hS.2.1 b hbl hbA))⟩⟩ rfl rfl hl.1 rfl (lv_room (Nat.le_of_ble_eq_true rfl)) d_law_11 ⟨Nat.le_of_ble_eq_true rfl, Nat.le_of_ble_eq_true rfl⟩) hS (fun q h1 h2 => absurd h1 (Nat.not_lt.mpr h2)) (fun q h1 => Nat.le_trans hS.1 h1) (fun r11 _ t H1 locs1 ht hvm hw _ hz1 hk1 hS1 => ?_)
 have hP1 := lw_k1 hP hk1
 clear hP hS hk1 hz1 ht hvm t
 revert H1 locs1
 intro H locs hS1 hP1
 have hS := hS1
 have hP := hP1
 clear hS1 hP1
 subst hw
 refine lv_aload_n hx hb d_law_14 rfl (lv_at hl 0 rfl) ?_
 refine lv_iconst (v := 2) hx hb d_law_15 (by decide) ?_
 rw [show (2 : Int32) = nI 2 from li_2]
 refine va_calli (va_runS (As := [.ref b, .int (nI 2)]) (rest := [.int (if 1 < L then xs 1 else 0), .int (if 0 < L then xs 0 else 0), .ref q0, .ref q0]) ⟨hx, hb, hml, hown, hts⟩ (kt_cell l b L xs (by omega) 2 _ (by decide)) (pw_cwS 2 hts kw_351 kw_44 kw_349 kw_350 (by decide +kernel) ⟨Nat.le_of_ble_eq_true rfl, Nat.le_of_ble_eq_true rfl⟩) ⟨lw_cb, fun U hU hW => ⟨rfl, by rw [hU], by rw [hU]; exact va_X.moved hW.alike (va_X.kept hX (hS.2.1 b hbl hbA))⟩⟩ rfl rfl hl.1 rfl (lv_room (Nat.le_of_ble_eq_true rfl)) d_law_16 ⟨Nat.le_of_ble_eq_true rfl, Nat.le_of_ble_eq_true rfl⟩) hS (fun q h1 h2 => absurd h1 (Nat.not_lt.mpr h2)) (fun q h1 => Nat.le_trans hS.1 h1) (fun r16 _ t H1 locs1 ht hvm hw _ hz1 hk1 hS1 => ?_)
 have hP1 := lw_k1 hP hk1
 clear hP hS hk1 hz1 ht hvm t
 revert H1 locs1
 intro H locs hS1 hP1
 have hS := hS1
 have hP := hP1
 clear hS1 hP1
 subst hw
 generalize h1 : (if 0 < L then xs 0 else 0) = x1
 generalize h2 : (if 1 < L then xs 1 else 0) = x2
 generalize h3 : (if 2 < L then xs 2 else 0) = x3
 have NB := nr_b x1 x2 x3
 generalize hWw : pc_nr x1 20 = Ww at NB
 generalize hHh : pc_nr x2 20 = Hh at NB
 generalize hKk : pc_nr x3 8 = Kk at NB
 have hFc := va_free (wc := [(q0, .inr (0, [.null, .int 0, .null, .null, .null, .null, .null, .null, .null, .null, .int 0, .int 0]))]) hD hS hA [0] rfl
 refine va_callv (va_runI (As := [.int x1, .int x2, .int x3]) (rest := [.ref q0]) ⟨hx, hb, hml, hown, hts⟩ (kt_PI l D cA cZ q0 _ x1 x2 x3 Ww Hh Kk hWw hHh hKk (by omega) (by omega) (by omega) (fun v => GI Ww Hh Kk (cG Ww Hh Kk v)) (k_grid NB (fun v hv => hv))) (pc_cwI 3 hts kw_70 kw_45 kw_68 kw_69 rfl (by decide +kernel) ⟨Nat.le_of_ble_eq_true rfl, Nat.le_of_ble_eq_true rfl⟩) ⟨pc_blindX, fun U hU hW => ⟨rfl, ⟨by rw [hU], by rw [hU]; exact hP, va_K.moved hW.alike hK, hD.weaken (fun _ _ _ _ => trivial)⟩, cw_Ex_call EX hS hFc hU hW⟩⟩ rfl rfl hl.1 rfl (lv_room (Nat.le_of_ble_eq_true rfl)) d_law_19 ⟨Nat.le_of_ble_eq_true rfl, Nat.le_of_ble_eq_true rfl⟩) hS (fun q _ h => hFc q h) hFc (fun pq t H1 locs1 ht hvm hG hB hz1 hk1 hS1 => ?_)
 obtain ⟨hP1, -, hD1, ha0⟩ := hB
 rw [ht] at hP1
 obtain ⟨hI, hFa⟩ := pw_of_D (n := 40) (a := pq.1) (ws := cw pq.1 cA cZ (cG Ww Hh Kk pq.2) pc_u) rfl hD1
 have hF : ∀ k, k < 40 → s.heap.size ≤ pq.1 k := fun k hk => hFc _ (hFa k hk)
 generalize pq.1 = a at hP1 hD1 ha0 hI hF
 generalize hGg : cG Ww Hh Kk pq.2 = G at hP1 hD1 hG
 clear hP hD hS hk1 hz1 ht hvm t hFc hFa
 clear hD1
 revert H1 locs1
 intro H locs hS hP
 have hD : va_D (fun q : Nat => s.heap.size ≤ q) (cw a cA cZ G pc_u) := cw_D hI hF
 refine W.widen (k := 40) (n := 13826) (by omega) (by omega) ?_
 refine lv_astore_n (lv' := [(1, .ref q0), (0, .ref b)]) hx hb d_law_22 rfl hl (by decide) rfl (fun ls hl => ?_)
 refine va_new (ci := 1) (fs := [.int 0, .int 0, .int 0, .int 0, .null, .null, .null, .null, .int 0, .null, .null, .null, .int 0, .null, .null, .int 0, .int 0, .null, .null, .int 0, .null, .null, .null]) (C := R_Model) (T := T_Model) (N := 23) hx hb hts in_Model ty_Model tyok_Model hown (hts _ (List.mem_cons_of_mem _ kw_826)) (hts _ (List.mem_cons_of_mem _ kw_827)) (hts _ (List.mem_cons_of_mem _ kw_57)) hK hP hD hS hA rfl (fun j hj => match j, hj with | 0, _ => rfl | 1, _ => rfl | 2, _ => rfl | 3, _ => rfl | 4, _ => rfl | 5, _ => rfl | 6, _ => rfl | 7, _ => rfl | 8, _ => rfl | 9, _ => rfl | 10, _ => rfl | 11, _ => rfl | 12, _ => rfl | 13, _ => rfl | 14, _ => rfl | 15, _ => rfl | 16, _ => rfl | 17, _ => rfl | 18, _ => rfl | 19, _ => rfl | 20, _ => rfl | 21, _ => rfl | 22, _ => rfl | (n + 23), h => absurd h (by omega)) (by show 40 + 1 ≤ 601024; omega) (by show 13826 + 23 ≤ 7293000; omega) d_law_23 (fun q1 H hP hD hS => ?_)
 have hne : ∀ k, k < 40 → a k ≠ q1 := by
   intro k hk e9
   obtain ⟨e, he⟩ : ∃ e, (cw a cA cZ G pc_u)[k]? = some (a k, e) := lw_cwat k hk
   have := hD.1 k 40 (a k, e) (q1, .inr (1, [.int 0, .int 0, .int 0, .int 0, .null, .null, .null, .null, .int 0, .null, .null, .null, .int 0, .null, .null, .int 0, .int 0, .null, .null, .int 0, .null, .null, .null])) (by rw [List.getElem?_append_left (show k < (cw a cA cZ G pc_u).length from hk)]; exact he) rfl e9
   omega
 have hq1 : s.heap.size ≤ q1 := hD.2 40 _ rfl
 obtain ⟨hPw, hPm⟩ := hx_split (w1 := cw a cA cZ G pc_u) (w2 := [(q1, .inr (1, [.int 0, .int 0, .int 0, .int 0, .null, .null, .null, .null, .int 0, .null, .null, .null, .int 0, .null, .null, .int 0, .int 0, .null, .null, .int 0, .null, .null, .null]))]) hP
 clear hP hD
 refine W.widen (k := 41) (n := 13849) (by omega) (by omega) ?_
 refine lv_dup hx hb d_law_26 rfl ?_
 refine lv_aload_n hx hb d_law_27 rfl (lv_at hl 1 rfl) ?_
 refine lv_iconst (v := 0) hx hb d_law_28 (by decide) ?_
 rw [show (0 : Int32) = nI 0 from li_0]
 refine va_calli (va_runS (As := [.ref b, .int (nI 0)]) (rest := [.ref q1, .ref q1]) ⟨hx, hb, hml, hown, hts⟩ (kt_cell l b L xs (by omega) 0 _ (by decide)) (pw_cwS 2 hts kw_351 kw_44 kw_349 kw_350 (by decide +kernel) ⟨Nat.le_of_ble_eq_true rfl, Nat.le_of_ble_eq_true rfl⟩) ⟨lw_cb, fun U hU hW => ⟨rfl, by rw [hU], by rw [hU]; exact va_X.moved hW.alike (va_X.kept hX (hS.2.1 b hbl hbA))⟩⟩ rfl rfl hl.1 rfl (lv_room (Nat.le_of_ble_eq_true rfl)) d_law_29 ⟨Nat.le_of_ble_eq_true rfl, Nat.le_of_ble_eq_true rfl⟩) hS (fun q h1 h2 => absurd h1 (Nat.not_lt.mpr h2)) (fun q h1 => Nat.le_trans hS.1 h1) (fun r29 _ t H1 locs1 ht hvm hw _ hz1 hk1 hS1 => ?_)
 have hPw1 := lw_k1 hPw hk1
 have hPm1 := lw_k1 hPm hk1
 clear hPw hPm hS hk1 hz1 ht hvm t
 revert H1 locs1
 intro H locs hS1 hPw1 hPm1
 have hS := hS1
 have hPw := hPw1
 have hPm := hPm1
 clear hS1 hPw1 hPm1
 subst hw
 refine lv_aload_n hx hb d_law_32 rfl (lv_at hl 1 rfl) ?_
 refine lv_iconst (v := 1) hx hb d_law_33 (by decide) ?_
 rw [show (1 : Int32) = nI 1 from li_1]
 refine va_calli (va_runS (As := [.ref b, .int (nI 1)]) (rest := [.int (if 0 < L then xs 0 else 0), .ref q1, .ref q1]) ⟨hx, hb, hml, hown, hts⟩ (kt_cell l b L xs (by omega) 1 _ (by decide)) (pw_cwS 2 hts kw_351 kw_44 kw_349 kw_350 (by decide +kernel) ⟨Nat.le_of_ble_eq_true rfl, Nat.le_of_ble_eq_true rfl⟩) ⟨lw_cb, fun U hU hW => ⟨rfl, by rw [hU], by rw [hU]; exact va_X.moved hW.alike (va_X.kept hX (hS.2.1 b hbl hbA))⟩⟩ rfl rfl hl.1 rfl (lv_room (Nat.le_of_ble_eq_true rfl)) d_law_34 ⟨Nat.le_of_ble_eq_true rfl, Nat.le_of_ble_eq_true rfl⟩) hS (fun q h1 h2 => absurd h1 (Nat.not_lt.mpr h2)) (fun q h1 => Nat.le_trans hS.1 h1) (fun r34 _ t H1 locs1 ht hvm hw _ hz1 hk1 hS1 => ?_)
 have hPw1 := lw_k1 hPw hk1
 have hPm1 := lw_k1 hPm hk1
 clear hPw hPm hS hk1 hz1 ht hvm t
 revert H1 locs1
 intro H locs hS1 hPw1 hPm1
 have hS := hS1
 have hPw := hPw1
 have hPm := hPm1
 clear hS1 hPw1 hPm1
 subst hw
 refine lv_aload_n hx hb d_law_37 rfl (lv_at hl 1 rfl) ?_
 refine lv_iconst (v := 2) hx hb d_law_38 (by decide) ?_
 rw [show (2 : Int32) = nI 2 from li_2]
 refine va_calli (va_runS (As := [.ref b, .int (nI 2)]) (rest := [.int (if 1 < L then xs 1 else 0), .int (if 0 < L then xs 0 else 0), .ref q1, .ref q1]) ⟨hx, hb, hml, hown, hts⟩ (kt_cell l b L xs (by omega) 2 _ (by decide)) (pw_cwS 2 hts kw_351 kw_44 kw_349 kw_350 (by decide +kernel) ⟨Nat.le_of_ble_eq_true rfl, Nat.le_of_ble_eq_true rfl⟩) ⟨lw_cb, fun U hU hW => ⟨rfl, by rw [hU], by rw [hU]; exact va_X.moved hW.alike (va_X.kept hX (hS.2.1 b hbl hbA))⟩⟩ rfl rfl hl.1 rfl (lv_room (Nat.le_of_ble_eq_true rfl)) d_law_39 ⟨Nat.le_of_ble_eq_true rfl, Nat.le_of_ble_eq_true rfl⟩) hS (fun q h1 h2 => absurd h1 (Nat.not_lt.mpr h2)) (fun q h1 => Nat.le_trans hS.1 h1) (fun r39 _ t H1 locs1 ht hvm hw _ hz1 hk1 hS1 => ?_)
 have hPw1 := lw_k1 hPw hk1
 have hPm1 := lw_k1 hPm hk1
 clear hPw hPm hS hk1 hz1 ht hvm t
 revert H1 locs1
 intro H locs hS1 hPw1 hPm1
 have hS := hS1
 have hPw := hPw1
 have hPm := hPm1
 clear hS1 hPw1 hPm1
 subst hw
 rw [h1, h2, h3]
 have hDm : va_D (fun q : Nat => s.heap.size ≤ q) [(q1, .inr (1, [.int 0, .int 0, .int 0, .int 0, .null, .null, .null, .null, .int 0, .null, .null, .null, .int 0, .null, .null, .int 0, .int 0, .null, .null, .int 0, .null, .null, .null]))] := lw_D1 hq1
 have hFc := va_free (wc := [(q1, .inr (1, [.int 0, .int 0, .int 0, .int 0, .null, .null, .null, .null, .int 0, .null, .null, .null, .int 0, .null, .null, .int 0, .int 0, .null, .null, .int 0, .null, .null, .null]))]) hDm hS hA [0] rfl
 refine va_callv (va_runI (As := [.int x1, .int x2, .int x3]) (rest := [.ref q1]) ⟨hx, hb, hml, hown, hts⟩ (kt_Model l D cA cZ q1 _ x1 x2 x3) (pc_cwI 3 hts kw_830 kw_57 kw_828 kw_829 rfl (by decide +kernel) ⟨Nat.le_of_ble_eq_true rfl, Nat.le_of_ble_eq_true rfl⟩) ⟨lw_pb, fun U hU hW => ⟨rfl, by rw [hU], by rw [hU]; exact hPm, va_K.moved hW.alike hK, hDm.weaken (fun _ _ _ _ => trivial)⟩⟩ rfl rfl hl.1 rfl (lv_room (Nat.le_of_ble_eq_true rfl)) d_law_42 ⟨Nat.le_of_ble_eq_true rfl, Nat.le_of_ble_eq_true rfl⟩) hS (fun q _ h => hFc q h) hFc (fun qm t H1 locs1 ht hvm _ hB hz1 hk1 hS1 => ?_)
 obtain ⟨hP0, -, hD0⟩ := hB
 rw [ht, hWw, hHh, hKk] at hP0
 rw [hWw, hHh, hKk] at hD0
 have hP1 : va_P D vwCl (rw (pc_ad q1 qm) cA cZ (mG Ww Hh Kk) pc_u) H1 := hP0
 have hD1 : va_D (va_A [(q1, .inr (1, [.int 0, .int 0, .int 0, .int 0, .null, .null, .null, .null, .int 0, .null, .null, .null, .int 0, .null, .null, .int 0, .int 0, .null, .null, .int 0, .null, .null, .null]))] H.size) (rw (pc_ad q1 qm) cA cZ (mG Ww Hh Kk) pc_u) := hD0
 clear hP0 hD0
 obtain ⟨hI2, hFa⟩ := pw_of_D (n := 15) (a := pc_ad q1 qm) (ws := rw (pc_ad q1 qm) cA cZ (mG Ww Hh Kk) pc_u) rfl hD1
 have hF2 : ∀ k, k < 15 → s.heap.size ≤ pc_ad q1 qm k := fun k hk => hFc _ (hFa k hk)
 have hlt : ∀ k, k < 40 → a k < H.size := fun k hk => by
   obtain ⟨e, he⟩ : ∃ e, (cw a cA cZ G pc_u)[k]? = some (a k, e) := lw_cwat k hk
   exact (hPw k _ he).lt
 have hnA : ∀ k, k < 40 → ¬ va_A [(q1, .inr (1, [.int 0, .int 0, .int 0, .int 0, .null, .null, .null, .null, .int 0, .null, .null, .null, .int 0, .null, .null, .int 0, .int 0, .null, .null, .int 0, .null, .null, .null]))] H.size (a k) := by
   intro k hk hv
   rcases hv with ⟨j, e, hj⟩ | hv
   · have hj0 : j = 0 := by
       have := (List.getElem?_eq_some_iff.mp hj).1
       simp at this; exact this
     rw [hj0] at hj
     cases hj
     exact hne k hk rfl
   · have := hlt k hk; omega
 have hap : ∀ j k, j < 40 → k < 15 → a j ≠ pc_ad q1 qm k := fun j k hj hk e9 => hnA j hj (by rw [e9]; exact hFa k hk)
 have hPw1 : va_P D vwCl (cw a cA cZ G pc_u) H1 := lw_keep hPw (fun k q hq _ hv => by
   obtain ⟨j, hj, e9⟩ := lw_adr (n := 40) (a := a) rfl hq
   rw [e9] at hv
   exact hnA j hj hv) hk1
 generalize hab : pc_ad q1 qm = a2 at hP1 hI2 hF2 hap
 have ha20 : a2 0 = q1 := by rw [← hab]; rfl
 clear hPw hPm hS hk1 hz1 ht hvm t hFc hDm hD1 hFa hlt hnA hne hab
 revert H1 locs1
 intro H locs hS hP hPr
 refine W.widen (k := 55) (n := 21573) (by omega) (by omega) ?_
 refine lv_astore_n (lv' := [(2, .ref q1), (1, .ref q0), (0, .ref b)]) hx hb d_law_45 rfl hl (by decide) rfl (fun ls hl => ?_)
 refine lv_iconst (v := 1) hx hb d_law_46 (by decide) ?_
 have hPa := hP.app hPr
 have hDa : va_D (fun q : Nat => s.heap.size ≤ q) (cw a cA cZ G pc_u ++ rw a2 cA cZ (mG Ww Hh Kk) pc_u) := lw_D2 hI hI2 hap hF hF2
 refine va_newa (atype := .long) (ty := .long) (a0 := (1, .inr (.inl (fun _ => 0)))) (N' := 1) hx hb (hts _ (List.mem_cons_of_mem _ kw_1060)) rfl hK hPa hDa hS hA (fun cA => rfl) (by decide) (by decide) (by decide) (by show 55 + 1 ≤ 601024; omega) (by show 21573 + 1 ≤ 7293000; omega) d_law_47 (fun o cL H hK hPo hDo hS => ?_)
 obtain ⟨hPa, hO⟩ := hx_split (w1 := cw a cA cZ G pc_u ++ rw a2 cA cZ (mG Ww Hh Kk) pc_u) (w2 := [(o, .inl (cL, 1, .inr (.inl (fun _ => 0))))]) hPo
 obtain ⟨hP, hPr⟩ := hx_split (w1 := cw a cA cZ G pc_u) (w2 := rw a2 cA cZ (mG Ww Hh Kk) pc_u) hPa
 have ho : ∀ k, k < 40 → o ≠ a k := by
   intro k hk e9
   obtain ⟨e, he⟩ : ∃ e, (cw a cA cZ G pc_u)[k]? = some (a k, e) := lw_cwat k hk
   have := hDo.1 55 k (o, .inl (cL, 1, .inr (.inl (fun _ => 0)))) (a k, e) rfl (by rw [List.append_assoc, List.getElem?_append_left (show k < (cw a cA cZ G pc_u).length from hk)]; exact he) e9
   omega
 have ho2 : ∀ k, k < 15 → o ≠ a2 k := by
   intro k hk e9
   obtain ⟨e, he⟩ : ∃ e, (rw a2 cA cZ (mG Ww Hh Kk) pc_u)[k]? = some (a2 k, e) := lw_rwat k hk
   have := hDo.1 55 (40 + k) (o, .inl (cL, 1, .inr (.inl (fun _ => 0)))) (a2 k, e) rfl (by rw [List.append_assoc, List.getElem?_append_right (show (cw a cA cZ G pc_u).length ≤ 40 + k from Nat.le_add_right 40 k), show 40 + k - (cw a cA cZ G pc_u).length = k from Nat.add_sub_cancel_left 40 k, List.getElem?_append_left (show k < (rw a2 cA cZ (mG Ww Hh Kk) pc_u).length from hk)]; exact he) e9
   omega
 have hoA : s.heap.size ≤ o := hDo.2 55 _ rfl
 refine W.widen (k := 56) (n := 21574) (by omega) (by omega) ?_
 refine lv_astore_n (lv' := [(3, .ref o), (2, .ref q1), (1, .ref q0), (0, .ref b)]) hx hb d_law_49 rfl hl (by decide) rfl (fun ls hl => ?_)
 refine lv_iconst (v := 3) hx hb d_law_50 (by decide) ?_
 refine lv_istore (lv' := [(4, .int 3), (3, .ref o), (2, .ref q1), (1, .ref q0), (0, .ref b)]) hx hb d_law_51 hl (by decide) rfl (fun ls hl => ?_)
 rw [← ha0, ← ha20] at hl
 have C : lw_C p l s m meth c b L xs D a a2 o cA cZ cL G (mG Ww Hh Kk) Ww Hh Kk := ⟨C0, hLx, hK, ⟨EX, hN⟩, ⟨hG, ⟨rfl, NB⟩⟩, ⟨hI, hI2⟩, ⟨ho, ho2, hap⟩, hF, hF2, hoA⟩
 exact lw_loop C hL 512 3 H _ 56 21574 ls (by omega) (by omega) (by omega) (by omega) ⟨pc_u, pc_u, _, hP, hPr, hO, hS, Rel_0 Ww Hh Kk⟩ hl
