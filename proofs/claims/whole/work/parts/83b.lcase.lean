section
variable {p : Program} {l : Launch} {e : Env} {s : State} {m : MethodId} {below : List Frame} {meth : Method} {c : Code} {b L i : Nat} {xs : Nat → Int32} {D : va_G} {a a2 : Nat → Nat} {o : Nat} {cA cZ cL : ClassId} {G Gm : pG} {w h K : Nat} {H : Heap} {locs : List Loc} {cells slots : Nat} {ls : Array Slot} {Zf : State → Prop}
set_option maxHeartbeats 4000000 in
set_option maxRecDepth 100000 in
theorem lc_kind (C : lw_C p l s m meth c b L xs D a a2 o cA cZ cL G Gm w h K) (hi : i + 5 < L) (hL : L ≤ 3075) (S : lw_S D a a2 o cA cZ cL G Gm w h K s H locs) (hl : lv_has ls 7 [(4, .int (nI i)), (3, .ref o), (2, .ref (a2 0)), (1, .ref (a 0)), (0, .ref b)]) (hcl : cells + 1 ≤ 601024) (hsl : slots + 6 ≤ 7293000)
    (kk : ∀ (H1 : Heap) (locs1 : List Loc) (ls1 : Array Slot), lw_S D a a2 o cA cZ cL G Gm w h K s H1 locs1 → lv_has ls1 7 [(4, .int (nI i)), (3, .ref o), (2, .ref (a2 0)), (1, .ref (a 0)), (0, .ref b)] → W p l e room_1 s m #[Value.ref b] below meth c H1 locs1 (cells + 1) (slots + 6) Zf (F0 m 1233 ls1 [])) : W p l e room_1 s m #[Value.ref b] below meth c H locs cells slots Zf (F0 m 255 ls []) := by
 obtain ⟨C0, hLx, hK, ⟨EX, hN⟩, ⟨HG, HM⟩, ⟨hI, hI2⟩, ⟨ho, ho2, hap⟩, hF, hF2, hoA⟩ := id C
 obtain ⟨hx, hb, hr, hml, hown, hts0, hX, hbl, hlocks, hgv⟩ := id C0
 have hts := lw_h2 hts0
 obtain ⟨u, v, f, hP, hPr, hO, hS, hR⟩ := S
 have hKr : va_K D vwCl (rT cA cZ) s := hK.sub [0, 1] rfl
 have hbA : ¬ (fun q : Nat => s.heap.size ≤ q) b := Nat.not_le.mpr hbl
 have v1 : vp_in (nI i + 1) L := by rw [li_1, nI_add]; exact vp_in_nI (by omega) (by omega)
 have v2 : vp_in (nI i + 2) L := by rw [li_2, nI_add]; exact vp_in_nI (by omega) (by omega)
 have v3 : vp_in (nI i + 3) L := by rw [li_3, nI_add]; exact vp_in_nI (by omega) (by omega)
 have v4 : vp_in (nI i + 4) L := by rw [li_4, nI_add]; exact vp_in_nI (by omega) (by omega)
 refine lv_aload_n hx hb d_law_255 rfl (lv_at hl 3 rfl) ?_
 refine lv_aload_n hx hb d_law_256 rfl (lv_at hl 4 rfl) ?_
 refine lv_iload hx hb d_law_257 (lv_at hl 0 rfl) ?_
 refine lv_iconst (v := 1) hx hb d_law_259 (by decide) ?_
 refine lv_iadd hx hb d_law_260 ?_
 refine va_sld hx hb hX hbl hbA hS v1 d_law_261 ?_
 refine lv_aload_n hx hb d_law_262 rfl (lv_at hl 4 rfl) ?_
 refine lv_iload hx hb d_law_263 (lv_at hl 0 rfl) ?_
 refine lv_iconst (v := 2) hx hb d_law_265 (by decide) ?_
 refine lv_iadd hx hb d_law_266 ?_
 refine va_sld hx hb hX hbl hbA hS v2 d_law_267 ?_
 refine lv_aload_n hx hb d_law_268 rfl (lv_at hl 4 rfl) ?_
 refine lv_iload hx hb d_law_269 (lv_at hl 0 rfl) ?_
 refine lv_iconst (v := 3) hx hb d_law_271 (by decide) ?_
 refine lv_iadd hx hb d_law_272 ?_
 refine va_sld hx hb hX hbl hbA hS v3 d_law_273 ?_
 refine lv_aload_n hx hb d_law_274 rfl (lv_at hl 4 rfl) ?_
 refine lv_iload hx hb d_law_275 (lv_at hl 0 rfl) ?_
 refine lv_iconst (v := 4) hx hb d_law_277 (by decide) ?_
 refine lv_iadd hx hb d_law_278 ?_
 refine va_sld hx hb hX hbl hbA hS v4 d_law_279 ?_
 refine lv_aload_n hx hb d_law_280 rfl (lv_at hl 1 rfl) ?_
 refine lw_help (px_runSW (n := 6) (As := [.ref (a 0), .int (xs (nI i + 1).toNatClampNeg), .int (xs (nI i + 2).toNatClampNeg), .int (xs (nI i + 3).toNatClampNeg), .int (xs (nI i + 4).toNatClampNeg), .ref o]) (rest := []) ⟨hx, hb, hml, hown, hts⟩ (hp_kind l D a cA cZ cL G o _ (xs (nI i + 1).toNatClampNeg) (xs (nI i + 2).toNatClampNeg) (xs (nI i + 3).toNatClampNeg) (xs (nI i + 4).toNatClampNeg) u f (fun k u' f' => ∃ Qm : Int32 → pS → Prop, wp_Model_kind Gm (xs (nI i + 1).toNatClampNeg) (xs (nI i + 2).toNatClampNeg) (xs (nI i + 3).toNatClampNeg) (xs (nI i + 4).toNatClampNeg) v Qm ∧ ∀ (r' : Int32) (v' : pS), Qm r' v' → (v'.1 0 = k ∧ (k = 0 → f' 0 = (if r' = 0 then 0 else 1)) ∧ Rel w h K u' v')) hLx hI ho (ob_kind HG HM hR (xs (nI i + 1).toNatClampNeg) (xs (nI i + 2).toNatClampNeg) (xs (nI i + 3).toNatClampNeg) (xs (nI i + 4).toNatClampNeg) (fun r u' hw => ⟨fun e9 => ⟨_, hw, fun r' v' q => ⟨q.1, fun _ => by rw [q.2.1, if_pos e9]; rfl, q.2.2⟩⟩, fun e9 => ⟨_, hw, fun r' v' q => ⟨q.1, fun _ => by rw [q.2.1, if_neg e9]; rfl, q.2.2⟩⟩⟩) (fun u' hw => Or.inl ⟨rfl, ⟨_, hw, fun r' v' q => ⟨q.1, fun e9 => absurd e9 (by decide), q.2⟩⟩⟩) (fun u' hw => Or.inr ⟨rfl, ⟨_, hw, fun r' v' q => ⟨q.1, fun e9 => absurd e9 (by decide), q.2⟩⟩⟩))) (hts _ (List.mem_cons_of_mem _ kw_469)) (hts _ (List.mem_cons_of_mem _ kw_44)) (hts _ (List.mem_cons_of_mem _ kw_467)) (hts _ (List.mem_cons_of_mem _ kw_468)) (pay_in hts (pw_good (pw_all kw_469))) (by decide +kernel) ⟨Nat.le_of_ble_eq_true rfl, Nat.le_of_ble_eq_true rfl⟩ ⟨hx_blind, fun U hU hW => ⟨rfl, ⟨by rw [hU], by rw [hU]; exact hP, by rw [hU]; exact hO, va_K.moved hW.alike hK⟩, cw_Ex_call EX hS (lw_FA hS hF hoA) hU hW, px_ExN.moved hW.alike hN⟩⟩ rfl rfl hl.1 rfl (lv_room (Nat.le_of_ble_eq_true rfl)) d_law_281 ⟨hcl, hsl⟩) hS (lw_FA hS hF hoA) (fun k u f H1 locs1 hz hP1 hO1 hkp hS1 => ?_)
 obtain ⟨Qm, hwm, hqm⟩ := hz
 have hPr1 := lw_kr hPr ho2 hap hkp
 clear hPr hP hO hS hkp
 revert H1 locs1
 intro H locs hP hO hS hPr
 refine lv_istore (lv' := [(5, .int k), (4, .int (nI i)), (3, .ref o), (2, .ref (a2 0)), (1, .ref (a 0)), (0, .ref b)]) hx hb d_law_284 hl (by decide) rfl (fun ls hl => ?_)
 refine lv_aload_n hx hb d_law_286 rfl (lv_at hl 3 rfl) ?_
 refine lv_aload_n hx hb d_law_287 rfl (lv_at hl 5 rfl) ?_
 refine lv_iload hx hb d_law_288 (lv_at hl 1 rfl) ?_
 refine lv_iconst (v := 1) hx hb d_law_290 (by decide) ?_
 refine lv_iadd hx hb d_law_291 ?_
 refine va_sld hx hb hX hbl hbA hS v1 d_law_292 ?_
 refine lv_aload_n hx hb d_law_293 rfl (lv_at hl 5 rfl) ?_
 refine lv_iload hx hb d_law_294 (lv_at hl 1 rfl) ?_
 refine lv_iconst (v := 2) hx hb d_law_296 (by decide) ?_
 refine lv_iadd hx hb d_law_297 ?_
 refine va_sld hx hb hX hbl hbA hS v2 d_law_298 ?_
 refine lv_aload_n hx hb d_law_299 rfl (lv_at hl 5 rfl) ?_
 refine lv_iload hx hb d_law_300 (lv_at hl 1 rfl) ?_
 refine lv_iconst (v := 3) hx hb d_law_302 (by decide) ?_
 refine lv_iadd hx hb d_law_303 ?_
 refine va_sld hx hb hX hbl hbA hS v3 d_law_304 ?_
 refine lv_aload_n hx hb d_law_305 rfl (lv_at hl 5 rfl) ?_
 refine lv_iload hx hb d_law_306 (lv_at hl 1 rfl) ?_
 refine lv_iconst (v := 4) hx hb d_law_308 (by decide) ?_
 refine lv_iadd hx hb d_law_309 ?_
 refine va_sld hx hb hX hbl hbA hS v4 d_law_310 ?_
 refine lw_mcall (n := 15) (a := a2) (va_runV (As := [.int (xs (nI i + 1).toNatClampNeg), .int (xs (nI i + 2).toNatClampNeg), .int (xs (nI i + 3).toNatClampNeg), .int (xs (nI i + 4).toNatClampNeg)]) (rest := []) ⟨hx, hb, hml, hown, hts⟩ (ct_Model_kind l D a2 cA cZ Gm _ (xs (nI i + 1).toNatClampNeg) (xs (nI i + 2).toNatClampNeg) (xs (nI i + 3).toNatClampNeg) (xs (nI i + 4).toNatClampNeg) v Qm hI2 hwm) (pw_cwV 4 hts kw_923 kw_57 kw_920 kw_921 kw_922 (by decide +kernel) ⟨Nat.le_of_ble_eq_true rfl, Nat.le_of_ble_eq_true rfl⟩) ⟨pw_blind, va_recv hKr hPr (ci := 1) (q0 := 0) rfl rw_at_0, fun U hU hW => ⟨rfl, by rw [hU], by rw [hU]; exact hPr, va_K.moved hW.alike hKr⟩⟩ rfl rfl hl.1 rfl (lv_room (Nat.le_of_ble_eq_true rfl)) d_law_311 ⟨hcl, hsl⟩) hS (lw_FA2 hS hF2) (fun r v H1 locs1 hPr1 hkp hS1 hq => ?_)
 obtain ⟨q1, q2, q3⟩ := hqm r v hq
 have hP1 := lw_kc hP hap hkp
 have hO1 := lw_ko hO ho2 hkp
 clear hPr hP hO hS hkp
 revert H1 locs1
 intro H locs hPr hS hP hO
 refine lv_istore (lv' := [(6, .int r), (5, .int k), (4, .int (nI i)), (3, .ref o), (2, .ref (a2 0)), (1, .ref (a 0)), (0, .ref b)]) hx hb d_law_314 hl (by decide) rfl (fun ls hl => ?_)
 refine lv_aload_n hx hb d_law_316 rfl (lv_at hl 4 rfl) ?_
 refine lw_mcall (n := 15) (a := a2) (va_runV (As := []) (rest := []) ⟨hx, hb, hml, hown, hts⟩ (ct_Model_thrown l D a2 cA cZ Gm _ v (fun r2 u2 => r2 = v.1 0 ∧ u2 = v) hI2 ⟨rfl, rfl⟩) (pw_cwV 0 hts kw_908 kw_57 kw_905 kw_906 kw_907 (by decide +kernel) ⟨Nat.le_of_ble_eq_true rfl, Nat.le_of_ble_eq_true rfl⟩) ⟨pw_blind, va_recv hKr hPr (ci := 1) (q0 := 0) rfl rw_at_0, fun U hU hW => ⟨rfl, by rw [hU], by rw [hU]; exact hPr, va_K.moved hW.alike hKr⟩⟩ rfl rfl hl.1 rfl (lv_room (Nat.le_of_ble_eq_true rfl)) d_law_317 ⟨hcl, hsl⟩) hS (lw_FA2 hS hF2) (fun r2 v2 H1 locs1 hPr1 hkp hS1 hq => ?_)
 obtain ⟨e2, e3⟩ := hq
 subst e3
 subst e2
 have hP1 := lw_kc hP hap hkp
 have hO1 := lw_ko hO ho2 hkp
 clear hPr hP hO hS hkp
 revert H1 locs1
 intro H locs hPr hS hP hO
 refine lv_iload hx hb d_law_320 (lv_at hl 1 rfl) ?_
 refine lv_icmp_eq (tgt := 327) hx hb d_law_322 (by decide) (fun c1 => ?_) (fun c1 => absurd q1 c1)
 refine lv_iload hx hb d_law_327 (lv_at hl 1 rfl) ?_
 have fin : ∀ {ls : Array Slot}, lv_has ls 7 [(6, .int r), (5, .int k), (4, .int (nI i)), (3, .ref o), (2, .ref (a2 0)), (1, .ref (a 0)), (0, .ref b)] → W p l e room_1 s m #[Value.ref b] below meth c H locs (cells + 1) (slots + 6) Zf (F0 m 351 ls []) := by
   intro ls hl
   refine lv_goto (tgt := 1233) hx hb d_law_351 (by decide) ?_
   exact kk _ _ _ ⟨_, _, _, hP, hPr, hO, hS, q3⟩ (lv_sub hl [2, 3, 4, 5, 6] rfl)
 refine lv_if_ne (tgt := 351) hx hb d_law_329 (by decide) (fun c2 => fin hl) (fun c2 => ?_)
 refine lv_aload_n hx hb d_law_332 rfl (lv_at hl 3 rfl) ?_
 refine lv_iconst (v := 0) hx hb d_law_333 (by decide) ?_
 refine va_lald hx hb hK hO 0 2 rfl rfl (by unfold vp_in; decide) d_law_334 ?_
 have q4 := q2 c2
 refine lv_iload hx hb d_law_335 (lv_at hl 0 rfl) ?_
 refine lv_if_eq (tgt := 344) hx hb d_law_337 (by decide) (fun c3 => ?_) (fun c3 => ?_)
 · rw [if_pos c3] at q4
   refine lv_lconst (v := 0) hx hb d_law_344 (by decide) ?_
   refine W.lcmp hx hb d_law_345 ?_
   exact lv_if_eq (tgt := 351) hx hb d_law_346 (by decide) (fun c4 => fin hl) (fun c4 => absurd (lw_cmp0 q4) c4)
 · rw [if_neg c3] at q4
   refine lv_lconst (v := 1) hx hb d_law_340 (by decide) ?_
   refine lv_goto (tgt := 345) hx hb d_law_341 (by decide) ?_
   refine W.lcmp hx hb d_law_345 ?_
   exact lv_if_eq (tgt := 351) hx hb d_law_346 (by decide) (fun c4 => fin hl) (fun c4 => absurd (lw_cmp0 q4) c4)
end
