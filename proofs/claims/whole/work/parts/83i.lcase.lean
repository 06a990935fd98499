section
variable {p : Program} {l : Launch} {e : Env} {s : State} {m : MethodId} {below : List Frame} {meth : Method} {c : Code} {b L i : Nat} {xs : Nat → Int32} {D : va_G} {a a2 : Nat → Nat} {o : Nat} {cA cZ cL : ClassId} {G Gm : pG} {w h K : Nat} {H : Heap} {locs : List Loc} {cells slots : Nat} {ls : Array Slot} {Zf : State → Prop}
set_option maxHeartbeats 4000000 in
set_option maxRecDepth 100000 in
theorem lc_left (C : lw_C p l s m meth c b L xs D a a2 o cA cZ cL G Gm w h K) (hi : i + 5 < L) (hL : L ≤ 3075) (S : lw_S D a a2 o cA cZ cL G Gm w h K s H locs) (hl : lv_has ls 7 [(4, .int (nI i)), (3, .ref o), (2, .ref (a2 0)), (1, .ref (a 0)), (0, .ref b)]) (hcl : cells + 1 ≤ 601024) (hsl : slots + 6 ≤ 7293000)
    (kk : ∀ (H1 : Heap) (locs1 : List Loc) (ls1 : Array Slot), lw_S D a a2 o cA cZ cL G Gm w h K s H1 locs1 → lv_has ls1 7 [(4, .int (nI i)), (3, .ref o), (2, .ref (a2 0)), (1, .ref (a 0)), (0, .ref b)] → W p l e room_1 s m #[Value.ref b] below meth c H1 locs1 (cells + 1) (slots + 6) Zf (F0 m 1233 ls1 [])) : W p l e room_1 s m #[Value.ref b] below meth c H locs cells slots Zf (F0 m 750 ls []) := by
 obtain ⟨C0, hLx, hK, ⟨EX, hN⟩, ⟨HG, HM⟩, ⟨hI, hI2⟩, ⟨ho, ho2, hap⟩, hF, hF2, hoA⟩ := id C
 obtain ⟨hx, hb, hr, hml, hown, hts0, hX, hbl, hlocks, hgv⟩ := id C0
 have hts := lw_h2 hts0
 obtain ⟨u, v, f, hP, hPr, hO, hS, hR⟩ := S
 have hKr : va_K D vwCl (rT cA cZ) s := hK.sub [0, 1] rfl
 have hbA : ¬ (fun q : Nat => s.heap.size ≤ q) b := Nat.not_le.mpr hbl
 have v1 : vp_in (nI i + 1) L := by rw [li_1, nI_add]; exact vp_in_nI (by omega) (by omega)
 have v2 : vp_in (nI i + 2) L := by rw [li_2, nI_add]; exact vp_in_nI (by omega) (by omega)
 refine lv_aload_n hx hb d_law_750 rfl (lv_at hl 3 rfl) ?_
 refine lv_aload_n hx hb d_law_751 rfl (lv_at hl 4 rfl) ?_
 refine lv_iload hx hb d_law_752 (lv_at hl 0 rfl) ?_
 refine lv_iconst (v := 1) hx hb d_law_754 (by decide) ?_
 refine lv_iadd hx hb d_law_755 ?_
 refine va_sld hx hb hX hbl hbA hS v1 d_law_756 ?_
 refine lv_aload_n hx hb d_law_757 rfl (lv_at hl 4 rfl) ?_
 refine lv_iload hx hb d_law_758 (lv_at hl 0 rfl) ?_
 refine lv_iconst (v := 2) hx hb d_law_760 (by decide) ?_
 refine lv_iadd hx hb d_law_761 ?_
 refine va_sld hx hb hX hbl hbA hS v2 d_law_762 ?_
 refine lv_aload_n hx hb d_law_763 rfl (lv_at hl 1 rfl) ?_
 refine lw_help (px_runSW (n := 4) (As := [.ref (a 0), .int (xs (nI i + 1).toNatClampNeg), .int (xs (nI i + 2).toNatClampNeg), .ref o]) (rest := []) ⟨hx, hb, hml, hown, hts⟩ (hp_left l D a cA cZ cL G o _ (xs (nI i + 1).toNatClampNeg) (xs (nI i + 2).toNatClampNeg) u f (fun k u' f' => ∃ Qm : Int32 → pS → Prop, wp_Model_left Gm (xs (nI i + 1).toNatClampNeg) (xs (nI i + 2).toNatClampNeg) v Qm ∧ ∀ (r' : Int32) (v' : pS), Qm r' v' → (v'.1 0 = k ∧ (k = 0 → f' 0 = r'.toInt64) ∧ Rel w h K u' v')) hLx hI ho (ob_left HG HM hR (xs (nI i + 1).toNatClampNeg) (xs (nI i + 2).toNatClampNeg) (fun r u' hw => ⟨_, hw, fun r' v' q => ⟨q.1, fun _ => by rw [q.2.1]; rfl, q.2.2⟩⟩) (fun u' hw => Or.inl ⟨rfl, ⟨_, hw, fun r' v' q => ⟨q.1, fun e9 => absurd e9 (by decide), q.2⟩⟩⟩) (fun u' hw => Or.inr (Or.inl ⟨rfl, ⟨_, hw, fun r' v' q => ⟨q.1, fun e9 => absurd e9 (by decide), q.2⟩⟩⟩)) (fun u' hw => Or.inr (Or.inr ⟨rfl, ⟨_, hw, fun r' v' q => ⟨q.1, fun e9 => absurd e9 (by decide), q.2⟩⟩⟩)))) (hts _ (List.mem_cons_of_mem _ kw_717)) (hts _ (List.mem_cons_of_mem _ kw_44)) (hts _ (List.mem_cons_of_mem _ kw_715)) (hts _ (List.mem_cons_of_mem _ kw_716)) (pay_in hts (pw_good (pw_all kw_717))) (by decide +kernel) ⟨Nat.le_of_ble_eq_true rfl, Nat.le_of_ble_eq_true rfl⟩ ⟨hx_blind, fun U hU hW => ⟨rfl, ⟨by rw [hU], by rw [hU]; exact hP, by rw [hU]; exact hO, va_K.moved hW.alike hK⟩, cw_Ex_call EX hS (lw_FA hS hF hoA) hU hW, px_ExN.moved hW.alike hN⟩⟩ rfl rfl hl.1 rfl (lv_room (Nat.le_of_ble_eq_true rfl)) d_law_764 ⟨hcl, hsl⟩) hS (lw_FA hS hF hoA) (fun k u f H1 locs1 hz hP1 hO1 hkp hS1 => ?_)
 obtain ⟨Qm, hwm, hqm⟩ := hz
 have hPr1 := lw_kr hPr ho2 hap hkp
 clear hPr hP hO hS hkp
 revert H1 locs1
 intro H locs hP hO hS hPr
 refine lv_istore (lv' := [(5, .int k), (4, .int (nI i)), (3, .ref o), (2, .ref (a2 0)), (1, .ref (a 0)), (0, .ref b)]) hx hb d_law_767 hl (by decide) rfl (fun ls hl => ?_)
 refine lv_aload_n hx hb d_law_769 rfl (lv_at hl 3 rfl) ?_
 refine lv_aload_n hx hb d_law_770 rfl (lv_at hl 5 rfl) ?_
 refine lv_iload hx hb d_law_771 (lv_at hl 1 rfl) ?_
 refine lv_iconst (v := 1) hx hb d_law_773 (by decide) ?_
 refine lv_iadd hx hb d_law_774 ?_
 refine va_sld hx hb hX hbl hbA hS v1 d_law_775 ?_
 refine lv_aload_n hx hb d_law_776 rfl (lv_at hl 5 rfl) ?_
 refine lv_iload hx hb d_law_777 (lv_at hl 1 rfl) ?_
 refine lv_iconst (v := 2) hx hb d_law_779 (by decide) ?_
 refine lv_iadd hx hb d_law_780 ?_
 refine va_sld hx hb hX hbl hbA hS v2 d_law_781 ?_
 refine lw_mcall (n := 15) (a := a2) (va_runV (As := [.int (xs (nI i + 1).toNatClampNeg), .int (xs (nI i + 2).toNatClampNeg)]) (rest := []) ⟨hx, hb, hml, hown, hts⟩ (ct_Model_left l D a2 cA cZ Gm _ (xs (nI i + 1).toNatClampNeg) (xs (nI i + 2).toNatClampNeg) v Qm hI2 hwm) (pw_cwV 2 hts kw_1007 kw_57 kw_1004 kw_1005 kw_1006 (by decide +kernel) ⟨Nat.le_of_ble_eq_true rfl, Nat.le_of_ble_eq_true rfl⟩) ⟨pw_blind, va_recv hKr hPr (ci := 1) (q0 := 0) rfl rw_at_0, fun U hU hW => ⟨rfl, by rw [hU], by rw [hU]; exact hPr, va_K.moved hW.alike hKr⟩⟩ rfl rfl hl.1 rfl (lv_room (Nat.le_of_ble_eq_true rfl)) d_law_782 ⟨hcl, hsl⟩) hS (lw_FA2 hS hF2) (fun r v H1 locs1 hPr1 hkp hS1 hq => ?_)
 obtain ⟨q1, q2, q3⟩ := hqm r v hq
 have hP1 := lw_kc hP hap hkp
 have hO1 := lw_ko hO ho2 hkp
 clear hPr hP hO hS hkp
 revert H1 locs1
 intro H locs hPr hS hP hO
 refine lv_istore (lv' := [(6, .int r), (5, .int k), (4, .int (nI i)), (3, .ref o), (2, .ref (a2 0)), (1, .ref (a 0)), (0, .ref b)]) hx hb d_law_785 hl (by decide) rfl (fun ls hl => ?_)
 refine lv_aload_n hx hb d_law_787 rfl (lv_at hl 4 rfl) ?_
 refine lw_mcall (n := 15) (a := a2) (va_runV (As := []) (rest := []) ⟨hx, hb, hml, hown, hts⟩ (ct_Model_thrown l D a2 cA cZ Gm _ v (fun r2 u2 => r2 = v.1 0 ∧ u2 = v) hI2 ⟨rfl, rfl⟩) (pw_cwV 0 hts kw_908 kw_57 kw_905 kw_906 kw_907 (by decide +kernel) ⟨Nat.le_of_ble_eq_true rfl, Nat.le_of_ble_eq_true rfl⟩) ⟨pw_blind, va_recv hKr hPr (ci := 1) (q0 := 0) rfl rw_at_0, fun U hU hW => ⟨rfl, by rw [hU], by rw [hU]; exact hPr, va_K.moved hW.alike hKr⟩⟩ rfl rfl hl.1 rfl (lv_room (Nat.le_of_ble_eq_true rfl)) d_law_788 ⟨hcl, hsl⟩) hS (lw_FA2 hS hF2) (fun r2 v2 H1 locs1 hPr1 hkp hS1 hq => ?_)
 obtain ⟨e2, e3⟩ := hq
 subst e3
 subst e2
 have hP1 := lw_kc hP hap hkp
 have hO1 := lw_ko hO ho2 hkp
 clear hPr hP hO hS hkp
 revert H1 locs1
 intro H locs hPr hS hP hO
 refine lv_iload hx hb d_law_791 (lv_at hl 1 rfl) ?_
 refine lv_icmp_eq (tgt := 798) hx hb d_law_793 (by decide) (fun c1 => ?_) (fun c1 => absurd q1 c1)
 refine lv_iload hx hb d_law_798 (lv_at hl 1 rfl) ?_
 have fin : ∀ {ls : Array Slot}, lv_has ls 7 [(6, .int r), (5, .int k), (4, .int (nI i)), (3, .ref o), (2, .ref (a2 0)), (1, .ref (a 0)), (0, .ref b)] → W p l e room_1 s m #[Value.ref b] below meth c H locs (cells + 1) (slots + 6) Zf (F0 m 815 ls []) := by
   intro ls hl
   refine lv_goto (tgt := 1233) hx hb d_law_815 (by decide) ?_
   exact kk _ _ _ ⟨_, _, _, hP, hPr, hO, hS, q3⟩ (lv_sub hl [2, 3, 4, 5, 6] rfl)
 refine lv_if_ne (tgt := 815) hx hb d_law_800 (by decide) (fun c2 => fin hl) (fun c2 => ?_)
 refine lv_aload_n hx hb d_law_803 rfl (lv_at hl 3 rfl) ?_
 refine lv_iconst (v := 0) hx hb d_law_804 (by decide) ?_
 refine va_lald hx hb hK hO 0 2 rfl rfl (by unfold vp_in; decide) d_law_805 ?_
 have q4 := q2 c2
 refine lv_iload hx hb d_law_806 (lv_at hl 0 rfl) ?_
 refine lv_i2l (v := r.toInt64) hx hb d_law_808 rfl ?_
 refine W.lcmp hx hb d_law_809 ?_
 exact lv_if_eq (tgt := 815) hx hb d_law_810 (by decide) (fun c4 => fin hl) (fun c4 => absurd (lw_cmp0 q4) c4)
end
