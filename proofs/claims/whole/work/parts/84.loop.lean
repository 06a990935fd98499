/-! OWN ROWS: the law's cell and its loop. -/
theorem kw_66 : (.classLink "PictureInlaysLaw" 8 "PictureInlays" : Cond) ∈ pw_T := pw_mem (i := 66) (by decide +kernel) (by decide +kernel)
theorem kw_67 : (.instantiable "PictureInlays" 12 : Cond) ∈ pw_T := pw_mem (i := 67) (by decide +kernel) (by decide +kernel)
theorem kw_68 : (.methodLink "PictureInlaysLaw" 72 ⟨"PictureInlays", "<init>", "(III)V"⟩ : Cond) ∈ pw_T := pw_mem (i := 68) (by decide +kernel) (by decide +kernel)
theorem kw_69 : (.instanceMethod ⟨"PictureInlays", "<init>", "(III)V"⟩ : Cond) ∈ pw_T := pw_mem (i := 69) (by decide +kernel) (by decide +kernel)
theorem kw_70 : (.code ⟨"PictureInlays", "<init>", "(III)V"⟩ prog_1_method_1_code 4 none : Cond) ∈ pw_T := pw_mem (i := 70) (by decide +kernel) (by decide +kernel)
theorem kw_349 : (.methodLink "PictureInlaysLaw" 66 ⟨"PictureInlaysLaw", "cell", "([II)I"⟩ : Cond) ∈ pw_T := pw_mem (i := 349) (by decide +kernel) (by decide +kernel)
theorem kw_350 : (.static ⟨"PictureInlaysLaw", "cell", "([II)I"⟩ : Cond) ∈ pw_T := pw_mem (i := 350) (by decide +kernel) (by decide +kernel)
theorem kw_351 : (.code ⟨"PictureInlaysLaw", "cell", "([II)I"⟩ method_2_code 2 (some .int) : Cond) ∈ pw_T := pw_mem (i := 351) (by decide +kernel) (by decide +kernel)
theorem kw_826 : (.classLink "PictureInlaysLaw" 75 "PictureInlaysModel" : Cond) ∈ pw_T := pw_mem (i := 826) (by decide +kernel) (by decide +kernel)
theorem kw_827 : (.instantiable "PictureInlaysModel" 23 : Cond) ∈ pw_T := pw_mem (i := 827) (by decide +kernel) (by decide +kernel)
theorem kw_828 : (.methodLink "PictureInlaysLaw" 77 ⟨"PictureInlaysModel", "<init>", "(III)V"⟩ : Cond) ∈ pw_T := pw_mem (i := 828) (by decide +kernel) (by decide +kernel)
theorem kw_829 : (.instanceMethod ⟨"PictureInlaysModel", "<init>", "(III)V"⟩ : Cond) ∈ pw_T := pw_mem (i := 829) (by decide +kernel) (by decide +kernel)
theorem kw_830 : (.code ⟨"PictureInlaysModel", "<init>", "(III)V"⟩ prog_13_method_1_code 4 none : Cond) ∈ pw_T := pw_mem (i := 830) (by decide +kernel) (by decide +kernel)
theorem kw_1060 : (.arrayClass .long : Cond) ∈ pw_T := pw_mem (i := 1060) (by decide +kernel) (by decide +kernel)
abbrev b_Law_cell : ByteArray := method_2_code
abbrev y_Law_cell : MethodName := ⟨"PictureInlaysLaw", "cell", "([II)I"⟩
abbrev w_Law_cell : List Cond := .code ⟨"PictureInlaysLaw", "cell", "([II)I"⟩ method_2_code 2 (some .int) :: pw_T
theorem d_cell_0 : decode method_2_code 0 = .ok (.iload_n 1, 1) := by decide +kernel
theorem d_cell_1 : decode method_2_code 1 = .ok (.aload_n 0, 1) := by decide +kernel
theorem d_cell_2 : decode method_2_code 2 = .ok (.arraylength, 1) := by decide +kernel
theorem d_cell_3 : decode method_2_code 3 = .ok (.if_icmp .ge 9, 3) := by decide +kernel
theorem d_cell_6 : decode method_2_code 6 = .ok (.aload_n 0, 1) := by decide +kernel
theorem d_cell_7 : decode method_2_code 7 = .ok (.iload_n 1, 1) := by decide +kernel
theorem d_cell_8 : decode method_2_code 8 = .ok (.iaload, 1) := by decide +kernel
theorem d_cell_9 : decode method_2_code 9 = .ok (.goto 4, 3) := by decide +kernel
theorem d_cell_12 : decode method_2_code 12 = .ok (.iconst 0, 1) := by decide +kernel
theorem d_cell_13 : decode method_2_code 13 = .ok (.ireturn, 1) := by decide +kernel
/-- the law's cell: the script's k-th, or 0 -/
theorem kt_cell (l : Launch) (b L : Nat) (xs : Nat → Int32) (hL : L < 2 ^ 31) (k sz : Nat) (hk : k < 2 ^ 31) : Met l y_Law_cell w_Law_cell ({ frames := 0, cells := 0, slots := 0, locals := 0 } : Room) (va_Pc [.ref b, .int (nI k)] (fun U => U.heap.size = sz ∧ va_X b L xs U U.heap)) (va_Qi (fun (r : Int32) (_ : Unit) => r = if k < L then xs k else 0) (fun _ _ => True) (fun q => sz ≤ q)) 0 0 (fun q => sz ≤ q) := by
 refine Met.ofW (cc := b_Law_cell) (maxL := 2) (ret := (some .int)) (by decide) rfl ?_
 intro p e s m args below meth c s₁ B hml hv
 obtain ⟨rfl, hsz, hX⟩ := hv
 subst hsz
 have hl := lv_entry ([.ref b, .int (nI k)]) (n := 2) (Nat.le_of_ble_eq_true rfl)
 rw [lg_entry_eq]
 generalize (lg_sl ([.ref b, .int (nI k)]) ++ List.replicate (2 - (lg_sl ([.ref b, .int (nI k)])).length) Slot.unset).toArray = ls at hl ⊢
 have hl : lv_has ls 2 [(0, .ref b), (1, .int (nI k))] := hl
 have hx := B.exec
 have hb := B.bytes
 have hr := B.returns
 have hlocks := B.notSynchronized
 have hbl : b < s.heap.size := by
   obtain ⟨scr, h1, -⟩ := hX
   exact (Array.getElem?_eq_some_iff.mp h1).1
 have hbA : ¬ (fun q : Nat => s.heap.size ≤ q) b := Nat.not_le.mpr hbl
 have hS : va_S (fun q : Nat => s.heap.size ≤ q) s.heap s.heap [] := va_S.rf
 refine lv_iload_n hx hb d_cell_0 rfl (lv_at hl 1 rfl) ?_
 refine lv_aload_n hx hb d_cell_1 rfl (lv_at hl 0 rfl) ?_
 refine va_slen hx hb hX hbl hbA hS d_cell_2 ?_
 refine lv_icmp_ge (tgt := 12) hx hb d_cell_3 (by decide) (fun c1 => ?_) (fun c1 => ?_)
 · refine lv_iconst (v := 0) hx hb d_cell_12 (by decide) ?_
   have hn : ¬ k < L := fun q => nI_ge q hL c1
   exact W.iret (v := 0) hx hb hr (fun t ht hW => ⟨⟨0, (), rfl, by rw [if_neg hn], trivial⟩, hS.F ht⟩) hS.2.2 d_cell_13 hlocks
 · have hn : k < L := by
     rcases Nat.lt_or_ge k L with q | q
     · exact q
     · exact absurd (nI_le q hk) c1
   refine lv_aload_n hx hb d_cell_6 rfl (lv_at hl 0 rfl) ?_
   refine lv_iload_n hx hb d_cell_7 rfl (lv_at hl 1 rfl) ?_
   refine va_sld hx hb hX hbl hbA hS (vp_in_nI hn hL) d_cell_8 ?_
   refine lv_goto (tgt := 13) hx hb d_cell_9 (by decide) ?_
   rw [nI_clamp hk]
   exact W.iret (v := xs k) hx hb hr (fun t ht hW => ⟨⟨xs k, (), rfl, by rw [if_pos hn], trivial⟩, hS.F ht⟩) hS.2.2 d_cell_13 hlocks
theorem sw_out {x : Int32} (h : ∀ k : Nat, k < 15 → x ≠ nI k) : x.toInt < 0 ∨ 14 < x.toInt := by
  rcases (show x.toInt < 0 ∨ 14 < x.toInt ∨ (0 ≤ x.toInt ∧ x.toInt ≤ 14) by omega) with q | q | ⟨q1, q2⟩
  · exact Or.inl q
  · exact Or.inr q
  · exfalso
    obtain ⟨n, hn⟩ := Int.eq_ofNat_of_zero_le q1
    refine h n (by omega) ?_
    rw [← Int32.toInt_inj, nI_toInt (by omega), hn]
section
variable {p : Program} {l : Launch} {e : Env} {s : State} {m : MethodId} {below : List Frame} {meth : Method} {c : Code} {b L : Nat} {xs : Nat → Int32} {D : va_G} {a a2 : Nat → Nat} {o : Nat} {cA cZ cL : ClassId} {G Gm : pG} {w h K : Nat}
set_option maxHeartbeats 4000000 in
theorem lw_loop (C : lw_C p l s m meth c b L xs D a a2 o cA cZ cL G Gm w h K) (hL : L ≤ 3075) : ∀ (d i : Nat) (H : Heap) (locs : List Loc) (cells slots : Nat) (ls : Array Slot), L ≤ i + 5 + 6 * d → i ≤ 4000 → cells + d ≤ 601024 → slots + 6 * d ≤ 7293000 → lw_S D a a2 o cA cZ cL G Gm w h K s H locs → lv_has ls 7 [(4, .int (nI i)), (3, .ref o), (2, .ref (a2 0)), (1, .ref (a 0)), (0, .ref b)] → W p l e room_1 s m #[Value.ref b] below meth c H locs cells slots (lw_Z below #[Value.ref b] s) (F0 m 53 ls []) := by
 obtain ⟨hx, hb, hr, hml, hown, hts0, hX, hbl, hlocks, hgv⟩ := id C.1
 have hbA : ¬ (fun q : Nat => s.heap.size ≤ q) b := Nat.not_le.mpr hbl
 have fin : ∀ (H : Heap) (locs : List Loc) (cells slots : Nat) (ls : Array Slot), cells ≤ 601024 → slots ≤ 7293000 → lw_S D a a2 o cA cZ cL G Gm w h K s H locs → W p l e room_1 s m #[Value.ref b] below meth c H locs cells slots (lw_Z below #[Value.ref b] s) (F0 m 1239 ls []) := by
   intro H locs cells slots ls h1 h2 S
   obtain ⟨u, v, f, hP, hPr, hO, hS, hR⟩ := S
   refine lv_iconst (v := 1) hx hb d_law_1239 (by decide) ?_
   refine va_forget hS.2.2 ?_
   refine W.widen (k := 601024) (n := 7293000) h1 h2 ?_
   exact lw_ret hx hb hr hlocks d_law_1240
 intro d
 induction d with
 | zero =>
   intro i H locs cells slots ls hd hi hcl hsl S hl
   obtain ⟨u, v, f, hP, hPr, hO, hS, hR⟩ := id S
   refine lv_iload hx hb d_law_53 (lv_at hl 0 rfl) ?_
   refine lv_aload_n hx hb d_law_55 rfl (lv_at hl 4 rfl) ?_
   refine va_slen hx hb hX hbl hbA hS d_law_56 ?_
   refine lv_bipush (v := 6) hx hb d_law_57 (by decide) ?_
   refine lv_isub hx hb d_law_59 ?_
   refine lv_icmp_gt (tgt := 1239) hx hb d_law_60 (by decide) (fun c1 => ?_) (fun c1 => ?_)
   · exact fin H locs cells slots ls (by omega) (by omega) S
   · exfalso
     apply c1
     show nI L - 6 < nI i
     rw [nI_z L, nI_z i, lz_6, zI_sub, zI_lt (by omega) (by omega) (by omega) (by omega)]
     omega
 | succ d ih =>
   intro i H locs cells slots ls hd hi hcl hsl S hl
   obtain ⟨u, v, f, hP, hPr, hO, hS, hR⟩ := id S
   refine lv_iload hx hb d_law_53 (lv_at hl 0 rfl) ?_
   refine lv_aload_n hx hb d_law_55 rfl (lv_at hl 4 rfl) ?_
   refine va_slen hx hb hX hbl hbA hS d_law_56 ?_
   refine lv_bipush (v := 6) hx hb d_law_57 (by decide) ?_
   refine lv_isub hx hb d_law_59 ?_
   refine lv_icmp_gt (tgt := 1239) hx hb d_law_60 (by decide) (fun c1 => ?_) (fun c1 => ?_)
   · exact fin H locs cells slots ls (by omega) (by omega) S
   · have hiL : i + 6 ≤ L := by
       rcases (show i + 6 ≤ L ∨ L < i + 6 by omega) with q | q
       · exact q
       · exfalso
         apply c1
         show nI L - 6 < nI i
         rw [nI_z L, nI_z i, lz_6, zI_sub, zI_lt (by omega) (by omega) (by omega) (by omega)]
         omega
     refine lv_aload_n hx hb d_law_63 rfl (lv_at hl 4 rfl) ?_
     refine lv_iload hx hb d_law_64 (lv_at hl 0 rfl) ?_
     refine va_sld hx hb hX hbl hbA hS (vp_in_nI (show i < L by omega) (by omega)) d_law_66 ?_
     refine lv_bipush (v := 15) hx hb d_law_67 (by decide) ?_
     refine lv_iand hx hb d_law_69 ?_
     generalize (xs (nI i).toNatClampNeg &&& 15) = x
     have nxt : ∀ (H1 : Heap) (locs1 : List Loc) (cells1 slots1 : Nat) (ls1 : Array Slot), cells1 + d ≤ 601024 → slots1 + 6 * d ≤ 7293000 → lw_S D a a2 o cA cZ cL G Gm w h K s H1 locs1 → lv_has ls1 7 [(4, .int (nI i)), (3, .ref o), (2, .ref (a2 0)), (1, .ref (a 0)), (0, .ref b)] → W p l e room_1 s m #[Value.ref b] below meth c H1 locs1 cells1 slots1 (lw_Z below #[Value.ref b] s) (F0 m 1233 ls1 []) := by
       intro H1 locs1 cells1 slots1 ls1 h1 h2 S1 hl1
       refine lv_iinc (k := 0) (v := nI (i + 6)) (lv' := [(4, .int (nI (i + 6))), (3, .ref o), (2, .ref (a2 0)), (1, .ref (a 0)), (0, .ref b)]) hx hb d_law_1233 hl1 rfl (nI_add i 6) (by decide) rfl (fun ls2 hl2 => ?_)
       refine lv_goto (tgt := 53) hx hb d_law_1236 (by decide) ?_
       exact ih (i + 6) H1 locs1 cells1 slots1 ls2 (by omega) (by omega) h1 h2 S1 hl2
     by_cases e0 : x = nI 0
     · refine lv_tableIn (tgt := 144) hx hb d_law_70 (by rw [e0]; decide) (by rw [e0]; decide) (by rw [e0]; rfl) (by decide) ?_
       exact lc_pixel C (by omega) hL S hl (by omega) (by omega) (fun H1 locs1 ls1 S1 hl1 => nxt H1 locs1 _ _ ls1 (by omega) (by omega) S1 hl1)
     by_cases e1 : x = nI 1
     · refine lv_tableIn (tgt := 255) hx hb d_law_70 (by rw [e1]; decide) (by rw [e1]; decide) (by rw [e1]; rfl) (by decide) ?_
       exact lc_kind C (by omega) hL S hl (by omega) (by omega) (fun H1 locs1 ls1 S1 hl1 => nxt H1 locs1 _ _ ls1 (by omega) (by omega) S1 hl1)
     by_cases e2 : x = nI 2
     · refine lv_tableIn (tgt := 354) hx hb d_law_70 (by rw [e2]; decide) (by rw [e2]; decide) (by rw [e2]; rfl) (by decide) ?_
       exact lc_part C (by omega) hL S hl (by omega) (by omega) (fun H1 locs1 ls1 S1 hl1 => nxt H1 locs1 _ _ ls1 (by omega) (by omega) S1 hl1)
     by_cases e3 : x = nI 3
     · refine lv_tableIn (tgt := 410) hx hb d_law_70 (by rw [e3]; decide) (by rw [e3]; decide) (by rw [e3]; rfl) (by decide) ?_
       exact lc_pieceOf C (by omega) hL S hl (by omega) (by omega) (fun H1 locs1 ls1 S1 hl1 => nxt H1 locs1 _ _ ls1 (by omega) (by omega) S1 hl1)
     by_cases e4 : x = nI 4
     · refine lv_tableIn (tgt := 478) hx hb d_law_70 (by rw [e4]; decide) (by rw [e4]; decide) (by rw [e4]; rfl) (by decide) ?_
       exact lc_piece C (by omega) hL S hl (by omega) (by omega) (fun H1 locs1 ls1 S1 hl1 => nxt H1 locs1 _ _ ls1 (by omega) (by omega) S1 hl1)
     by_cases e5 : x = nI 5
     · refine lv_tableIn (tgt := 546) hx hb d_law_70 (by rw [e5]; decide) (by rw [e5]; decide) (by rw [e5]; rfl) (by decide) ?_
       exact lc_joined C (by omega) hL S hl (by omega) (by omega) (fun H1 locs1 ls1 S1 hl1 => nxt H1 locs1 _ _ ls1 (by omega) (by omega) S1 hl1)
     by_cases e6 : x = nI 6
     · refine lv_tableIn (tgt := 614) hx hb d_law_70 (by rw [e6]; decide) (by rw [e6]; decide) (by rw [e6]; rfl) (by decide) ?_
       exact lc_outline C (by omega) hL S hl (by omega) (by omega) (fun H1 locs1 ls1 S1 hl1 => nxt H1 locs1 _ _ ls1 (by omega) (by omega) S1 hl1)
     by_cases e7 : x = nI 7
     · refine lv_tableIn (tgt := 670) hx hb d_law_70 (by rw [e7]; decide) (by rw [e7]; decide) (by rw [e7]; rfl) (by decide) ?_
       exact lc_corner C (by omega) hL S hl (by omega) (by omega) (fun H1 locs1 ls1 S1 hl1 => nxt H1 locs1 _ _ ls1 (by omega) (by omega) S1 hl1)
     by_cases e8 : x = nI 8
     · refine lv_tableIn (tgt := 750) hx hb d_law_70 (by rw [e8]; decide) (by rw [e8]; decide) (by rw [e8]; rfl) (by decide) ?_
       exact lc_left C (by omega) hL S hl (by omega) (by omega) (fun H1 locs1 ls1 S1 hl1 => nxt H1 locs1 _ _ ls1 (by omega) (by omega) S1 hl1)
     by_cases e9 : x = nI 9
     · refine lv_tableIn (tgt := 818) hx hb d_law_70 (by rw [e9]; decide) (by rw [e9]; decide) (by rw [e9]; rfl) (by decide) ?_
       exact lc_reached C (by omega) hL S hl (by omega) (by omega) (fun H1 locs1 ls1 S1 hl1 => nxt H1 locs1 _ _ ls1 (by omega) (by omega) S1 hl1)
     by_cases e10 : x = nI 10
     · refine lv_tableIn (tgt := 905) hx hb d_law_70 (by rw [e10]; decide) (by rw [e10]; decide) (by rw [e10]; rfl) (by decide) ?_
       exact lc_order C (by omega) hL S hl (by omega) (by omega) (fun H1 locs1 ls1 S1 hl1 => nxt H1 locs1 _ _ ls1 (by omega) (by omega) S1 hl1)
     by_cases e11 : x = nI 11
     · refine lv_tableIn (tgt := 961) hx hb d_law_70 (by rw [e11]; decide) (by rw [e11]; decide) (by rw [e11]; rfl) (by decide) ?_
       exact lc_nest C (by omega) hL S hl (by omega) (by omega) (fun H1 locs1 ls1 S1 hl1 => nxt H1 locs1 _ _ ls1 (by omega) (by omega) S1 hl1)
     by_cases e12 : x = nI 12
     · refine lv_tableIn (tgt := 1029) hx hb d_law_70 (by rw [e12]; decide) (by rw [e12]; decide) (by rw [e12]; rfl) (by decide) ?_
       exact lc_at C (by omega) hL S hl (by omega) (by omega) (fun H1 locs1 ls1 S1 hl1 => nxt H1 locs1 _ _ ls1 (by omega) (by omega) S1 hl1)
     by_cases e13 : x = nI 13
     · refine lv_tableIn (tgt := 1097) hx hb d_law_70 (by rw [e13]; decide) (by rw [e13]; decide) (by rw [e13]; rfl) (by decide) ?_
       exact lc_border C (by omega) hL S hl (by omega) (by omega) (fun H1 locs1 ls1 S1 hl1 => nxt H1 locs1 _ _ ls1 (by omega) (by omega) S1 hl1)
     by_cases e14 : x = nI 14
     · refine lv_tableIn (tgt := 1177) hx hb d_law_70 (by rw [e14]; decide) (by rw [e14]; decide) (by rw [e14]; rfl) (by decide) ?_
       exact lc_sorted C (by omega) hL S hl (by omega) (by omega) (fun H1 locs1 ls1 S1 hl1 => nxt H1 locs1 _ _ ls1 (by omega) (by omega) S1 hl1)
     refine lv_tableOut (tgt := 1233) hx hb d_law_70 (sw_out (fun k hk => match k, hk with
       | 0, _ => e0
       | 1, _ => e1
       | 2, _ => e2
       | 3, _ => e3
       | 4, _ => e4
       | 5, _ => e5
       | 6, _ => e6
       | 7, _ => e7
       | 8, _ => e8
       | 9, _ => e9
       | 10, _ => e10
       | 11, _ => e11
       | 12, _ => e12
       | 13, _ => e13
       | 14, _ => e14
       | n + 15, h9 => absurd h9 (by omega))) (by decide) ?_
     exact nxt H locs cells slots ls (by omega) (by omega) S hl
end
