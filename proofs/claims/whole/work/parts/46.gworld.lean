abbrev gw_Ex := cw_Ex
def gG (Ww Hh : Nat) : pG := (fun k => if k = 3 then Ww * Hh * 4 else Ww * Hh, fun k => if k = 0 then nI Ww else if k = 1 then nI Hh else nI (Ww * Hh), fun _ _ => 0)
def pc_ad (h0 : Nat) (q : Nat → Nat) : Nat → Nat
  | 0 => h0
  | k + 1 => q k
theorem pw_of_D {n : Nat} {a : Nat → Nat} {ws : va_W} {A : Nat → Prop} (he : ws.map (fun q => q.1) = (List.range n).map a) (h : va_D A ws) : pw_I n a ∧ ∀ k, k < n → A (a k) := by
  have key : ∀ k, k < n → ∃ q, ws[k]? = some q ∧ q.1 = a k := by
    intro k hk
    have h1 : (ws.map (fun q => q.1))[k]? = some (a k) := by rw [he, List.getElem?_map, List.getElem?_range hk]; rfl
    rw [List.getElem?_map] at h1
    cases hq : ws[k]? with
    | none => rw [hq] at h1; cases h1
    | some q => rw [hq] at h1; exact ⟨q, rfl, Option.some.inj h1⟩
  refine ⟨fun j k hj hk hjk => ?_, fun k hk => ?_⟩
  · obtain ⟨p, p1, p2⟩ := key j hj
    obtain ⟨q, q1, q2⟩ := key k hk
    exact h.1 j k p q p1 q1 (by rw [p2, q2]; exact hjk)
  · obtain ⟨q, q1, q2⟩ := key k hk
    rw [← q2]
    exact h.2 k q q1
theorem pc_MQ {below : List Frame} {Qc Qd : Array Value → State → Outcome → State → Prop} {a : Array Value} {s : State} {mc ms : Nat} {free : Addr → Prop} (hq : ∀ o t, Qc a s o t → Qd a s o t) {t : State} (h : MQ below Qc a s mc ms free t) : MQ below Qd a s mc ms free t := by
  obtain ⟨o, h1, h2, h3, h4⟩ := h
  exact ⟨o, h1, h2, hq _ _ h3, h4⟩
def gw (a : Nat → Nat) (cA cZ : ClassId) (G : pG) (u : pS) : va_W := [(a 0, .inr (4, [.int (G.2.1 0), .int (G.2.1 1), .int (G.2.1 2), .ref (a 1), .ref (a 2), .ref (a 3)])),
  (a 1, .inl (cA, G.1 1, .inl (u.2 0))),
  (a 2, .inl (cA, G.1 2, .inl (u.2 1))),
  (a 3, .inl (cA, G.1 3, .inl (u.2 2)))]
theorem gw_at_0 {a : Nat → Nat} {cA cZ : ClassId} {G : pG} {u : pS} : (gw a cA cZ G u)[0]? = some (a 0, .inr (4, [.int (G.2.1 0), .int (G.2.1 1), .int (G.2.1 2), .ref (a 1), .ref (a 2), .ref (a 3)])) := rfl
theorem gw_at_1 {a : Nat → Nat} {cA cZ : ClassId} {G : pG} {u : pS} : (gw a cA cZ G u)[1]? = some (a 1, .inl (cA, G.1 1, .inl (u.2 0))) := rfl
theorem gw_sa_1 {a : Nat → Nat} {cA cZ : ClassId} {G : pG} {u : pS} {f : Nat → Int32} : (gw a cA cZ G u).set 1 (a 1, .inl (cA, G.1 1, .inl f)) = gw a cA cZ G (pw_sa u 0 f) := rfl
theorem gw_at_2 {a : Nat → Nat} {cA cZ : ClassId} {G : pG} {u : pS} : (gw a cA cZ G u)[2]? = some (a 2, .inl (cA, G.1 2, .inl (u.2 1))) := rfl
theorem gw_sa_2 {a : Nat → Nat} {cA cZ : ClassId} {G : pG} {u : pS} {f : Nat → Int32} : (gw a cA cZ G u).set 2 (a 2, .inl (cA, G.1 2, .inl f)) = gw a cA cZ G (pw_sa u 1 f) := rfl
theorem gw_at_3 {a : Nat → Nat} {cA cZ : ClassId} {G : pG} {u : pS} : (gw a cA cZ G u)[3]? = some (a 3, .inl (cA, G.1 3, .inl (u.2 2))) := rfl
theorem gw_sa_3 {a : Nat → Nat} {cA cZ : ClassId} {G : pG} {u : pS} {f : Nat → Int32} : (gw a cA cZ G u).set 3 (a 3, .inl (cA, G.1 3, .inl f)) = gw a cA cZ G (pw_sa u 2 f) := rfl
theorem gw_D {a : Nat → Nat} {cA cZ : ClassId} {G : pG} {u : pS} {A : Nat → Prop} (hI : pw_I 4 a) (hF : ∀ k, k < 4 → A (a k)) : va_D A (gw a cA cZ G u) := pw_addrs rfl hI hF
abbrev b_Grid_init : ByteArray := prog_4_method_1_code
abbrev y_Grid_init : MethodName := ⟨"PictureInlays$Grid", "<init>", "(II)V"⟩
abbrev w_Grid_init : List Cond := .code ⟨"PictureInlays$Grid", "<init>", "(II)V"⟩ prog_4_method_1_code 7 none :: pw_T
theorem kw_88 : (.methodLink "PictureInlays$Grid" 3 ⟨"java/lang/Object", "<init>", "()V"⟩ : Cond) ∈ pw_T := pw_mem (i := 88) (by decide +kernel) (by decide +kernel)
theorem kw_93 : (.methodLink "PictureInlays$Grid" 37 ⟨"PictureInlays$Grid", "placeOf", "(II)I"⟩ : Cond) ∈ pw_T := pw_mem (i := 93) (by decide +kernel) (by decide +kernel)
theorem kw_110 : (.fieldLink "PictureInlays$Grid" 18 "PictureInlays$Grid" "places" "I" : Cond) ∈ pw_T := pw_mem (i := 110) (by decide +kernel) (by decide +kernel)
theorem d_Grid_init_0 : decode prog_4_method_1_code 0 = .ok (.aload_n 0, 1) := by decide +kernel
theorem d_Grid_init_1 : decode prog_4_method_1_code 1 = .ok (.invokespecial 3, 3) := by decide +kernel
theorem d_Grid_init_4 : decode prog_4_method_1_code 4 = .ok (.aload_n 0, 1) := by decide +kernel
theorem d_Grid_init_5 : decode prog_4_method_1_code 5 = .ok (.iload_n 1, 1) := by decide +kernel
theorem d_Grid_init_6 : decode prog_4_method_1_code 6 = .ok (.putfield 9, 3) := by decide +kernel
theorem d_Grid_init_9 : decode prog_4_method_1_code 9 = .ok (.aload_n 0, 1) := by decide +kernel
theorem d_Grid_init_10 : decode prog_4_method_1_code 10 = .ok (.iload_n 2, 1) := by decide +kernel
theorem d_Grid_init_11 : decode prog_4_method_1_code 11 = .ok (.putfield 15, 3) := by decide +kernel
theorem d_Grid_init_14 : decode prog_4_method_1_code 14 = .ok (.aload_n 0, 1) := by decide +kernel
theorem d_Grid_init_15 : decode prog_4_method_1_code 15 = .ok (.iload_n 1, 1) := by decide +kernel
theorem d_Grid_init_16 : decode prog_4_method_1_code 16 = .ok (.iload_n 2, 1) := by decide +kernel
theorem d_Grid_init_17 : decode prog_4_method_1_code 17 = .ok (.imul, 1) := by decide +kernel
theorem d_Grid_init_18 : decode prog_4_method_1_code 18 = .ok (.putfield 18, 3) := by decide +kernel
theorem d_Grid_init_21 : decode prog_4_method_1_code 21 = .ok (.aload_n 0, 1) := by decide +kernel
theorem d_Grid_init_22 : decode prog_4_method_1_code 22 = .ok (.aload_n 0, 1) := by decide +kernel
theorem d_Grid_init_23 : decode prog_4_method_1_code 23 = .ok (.getfield 18, 3) := by decide +kernel
theorem d_Grid_init_26 : decode prog_4_method_1_code 26 = .ok (.newarray .int, 2) := by decide +kernel
theorem d_Grid_init_28 : decode prog_4_method_1_code 28 = .ok (.putfield 21, 3) := by decide +kernel
theorem d_Grid_init_31 : decode prog_4_method_1_code 31 = .ok (.aload_n 0, 1) := by decide +kernel
theorem d_Grid_init_32 : decode prog_4_method_1_code 32 = .ok (.aload_n 0, 1) := by decide +kernel
theorem d_Grid_init_33 : decode prog_4_method_1_code 33 = .ok (.getfield 18, 3) := by decide +kernel
theorem d_Grid_init_36 : decode prog_4_method_1_code 36 = .ok (.newarray .int, 2) := by decide +kernel
theorem d_Grid_init_38 : decode prog_4_method_1_code 38 = .ok (.putfield 25, 3) := by decide +kernel
theorem d_Grid_init_41 : decode prog_4_method_1_code 41 = .ok (.aload_n 0, 1) := by decide +kernel
theorem d_Grid_init_42 : decode prog_4_method_1_code 42 = .ok (.aload_n 0, 1) := by decide +kernel
theorem d_Grid_init_43 : decode prog_4_method_1_code 43 = .ok (.getfield 18, 3) := by decide +kernel
theorem d_Grid_init_46 : decode prog_4_method_1_code 46 = .ok (.iconst 4, 1) := by decide +kernel
theorem d_Grid_init_47 : decode prog_4_method_1_code 47 = .ok (.imul, 1) := by decide +kernel
theorem d_Grid_init_48 : decode prog_4_method_1_code 48 = .ok (.newarray .int, 2) := by decide +kernel
theorem d_Grid_init_50 : decode prog_4_method_1_code 50 = .ok (.putfield 28, 3) := by decide +kernel
theorem d_Grid_init_53 : decode prog_4_method_1_code 53 = .ok (.iconst 0, 1) := by decide +kernel
theorem d_Grid_init_54 : decode prog_4_method_1_code 54 = .ok (.istore_n 3, 1) := by decide +kernel
theorem d_Grid_init_55 : decode prog_4_method_1_code 55 = .ok (.iload_n 3, 1) := by decide +kernel
theorem d_Grid_init_56 : decode prog_4_method_1_code 56 = .ok (.iload_n 2, 1) := by decide +kernel
theorem d_Grid_init_57 : decode prog_4_method_1_code 57 = .ok (.if_icmp .ge 97, 3) := by decide +kernel
theorem d_Grid_init_60 : decode prog_4_method_1_code 60 = .ok (.iconst 0, 1) := by decide +kernel
theorem d_Grid_init_61 : decode prog_4_method_1_code 61 = .ok (.istore 4, 2) := by decide +kernel
theorem d_Grid_init_63 : decode prog_4_method_1_code 63 = .ok (.iload 4, 2) := by decide +kernel
theorem d_Grid_init_65 : decode prog_4_method_1_code 65 = .ok (.iload_n 1, 1) := by decide +kernel
theorem d_Grid_init_66 : decode prog_4_method_1_code 66 = .ok (.if_icmp .ge 82, 3) := by decide +kernel
theorem d_Grid_init_69 : decode prog_4_method_1_code 69 = .ok (.iload_n 3, 1) := by decide +kernel
theorem d_Grid_init_70 : decode prog_4_method_1_code 70 = .ok (.iload_n 1, 1) := by decide +kernel
theorem d_Grid_init_71 : decode prog_4_method_1_code 71 = .ok (.imul, 1) := by decide +kernel
theorem d_Grid_init_72 : decode prog_4_method_1_code 72 = .ok (.iload 4, 2) := by decide +kernel
theorem d_Grid_init_74 : decode prog_4_method_1_code 74 = .ok (.iadd, 1) := by decide +kernel
theorem d_Grid_init_75 : decode prog_4_method_1_code 75 = .ok (.istore 5, 2) := by decide +kernel
theorem d_Grid_init_77 : decode prog_4_method_1_code 77 = .ok (.aload_n 0, 1) := by decide +kernel
theorem d_Grid_init_78 : decode prog_4_method_1_code 78 = .ok (.getfield 21, 3) := by decide +kernel
theorem d_Grid_init_81 : decode prog_4_method_1_code 81 = .ok (.iload 5, 2) := by decide +kernel
theorem d_Grid_init_83 : decode prog_4_method_1_code 83 = .ok (.iload 4, 2) := by decide +kernel
theorem d_Grid_init_85 : decode prog_4_method_1_code 85 = .ok (.iastore, 1) := by decide +kernel
theorem d_Grid_init_86 : decode prog_4_method_1_code 86 = .ok (.aload_n 0, 1) := by decide +kernel
theorem d_Grid_init_87 : decode prog_4_method_1_code 87 = .ok (.getfield 25, 3) := by decide +kernel
theorem d_Grid_init_90 : decode prog_4_method_1_code 90 = .ok (.iload 5, 2) := by decide +kernel
theorem d_Grid_init_92 : decode prog_4_method_1_code 92 = .ok (.iload_n 3, 1) := by decide +kernel
theorem d_Grid_init_93 : decode prog_4_method_1_code 93 = .ok (.iastore, 1) := by decide +kernel
theorem d_Grid_init_94 : decode prog_4_method_1_code 94 = .ok (.iconst 0, 1) := by decide +kernel
theorem d_Grid_init_95 : decode prog_4_method_1_code 95 = .ok (.istore 6, 2) := by decide +kernel
theorem d_Grid_init_97 : decode prog_4_method_1_code 97 = .ok (.iload 6, 2) := by decide +kernel
theorem d_Grid_init_99 : decode prog_4_method_1_code 99 = .ok (.iconst 4, 1) := by decide +kernel
theorem d_Grid_init_100 : decode prog_4_method_1_code 100 = .ok (.if_icmp .ge 42, 3) := by decide +kernel
theorem d_Grid_init_103 : decode prog_4_method_1_code 103 = .ok (.aload_n 0, 1) := by decide +kernel
theorem d_Grid_init_104 : decode prog_4_method_1_code 104 = .ok (.getfield 28, 3) := by decide +kernel
theorem d_Grid_init_107 : decode prog_4_method_1_code 107 = .ok (.iload 5, 2) := by decide +kernel
theorem d_Grid_init_109 : decode prog_4_method_1_code 109 = .ok (.iconst 4, 1) := by decide +kernel
theorem d_Grid_init_110 : decode prog_4_method_1_code 110 = .ok (.imul, 1) := by decide +kernel
theorem d_Grid_init_111 : decode prog_4_method_1_code 111 = .ok (.iload 6, 2) := by decide +kernel
theorem d_Grid_init_113 : decode prog_4_method_1_code 113 = .ok (.iadd, 1) := by decide +kernel
theorem d_Grid_init_114 : decode prog_4_method_1_code 114 = .ok (.aload_n 0, 1) := by decide +kernel
theorem d_Grid_init_115 : decode prog_4_method_1_code 115 = .ok (.iload 4, 2) := by decide +kernel
theorem d_Grid_init_117 : decode prog_4_method_1_code 117 = .ok (.getstatic 31, 3) := by decide +kernel
theorem d_Grid_init_120 : decode prog_4_method_1_code 120 = .ok (.iload 6, 2) := by decide +kernel
theorem d_Grid_init_122 : decode prog_4_method_1_code 122 = .ok (.iaload, 1) := by decide +kernel
theorem d_Grid_init_123 : decode prog_4_method_1_code 123 = .ok (.iadd, 1) := by decide +kernel
theorem d_Grid_init_124 : decode prog_4_method_1_code 124 = .ok (.iload_n 3, 1) := by decide +kernel
theorem d_Grid_init_125 : decode prog_4_method_1_code 125 = .ok (.getstatic 34, 3) := by decide +kernel
theorem d_Grid_init_128 : decode prog_4_method_1_code 128 = .ok (.iload 6, 2) := by decide +kernel
theorem d_Grid_init_130 : decode prog_4_method_1_code 130 = .ok (.iaload, 1) := by decide +kernel
theorem d_Grid_init_131 : decode prog_4_method_1_code 131 = .ok (.iadd, 1) := by decide +kernel
theorem d_Grid_init_132 : decode prog_4_method_1_code 132 = .ok (.invokevirtual 37, 3) := by decide +kernel
theorem d_Grid_init_135 : decode prog_4_method_1_code 135 = .ok (.iastore, 1) := by decide +kernel
theorem d_Grid_init_136 : decode prog_4_method_1_code 136 = .ok (.iinc 6 1, 3) := by decide +kernel
theorem d_Grid_init_139 : decode prog_4_method_1_code 139 = .ok (.goto (-42), 3) := by decide +kernel
theorem d_Grid_init_142 : decode prog_4_method_1_code 142 = .ok (.iinc 4 1, 3) := by decide +kernel
theorem d_Grid_init_145 : decode prog_4_method_1_code 145 = .ok (.goto (-82), 3) := by decide +kernel
theorem d_Grid_init_148 : decode prog_4_method_1_code 148 = .ok (.iinc 3 1, 3) := by decide +kernel
theorem d_Grid_init_151 : decode prog_4_method_1_code 151 = .ok (.goto (-96), 3) := by decide +kernel
theorem d_Grid_init_154 : decode prog_4_method_1_code 154 = .ok (.return_, 1) := by decide +kernel
def wp_gGrid_placeOf (G : pG) (x1 x2 : Int32) (u : pS) (Q : Int32 → pS → Prop) : Prop := (x1 < 0 → (Q (-1) u)) ∧ (¬ x1 < 0 → (((G.2.1 0) ≤ x1 → (Q (-1) u)) ∧ (¬ (G.2.1 0) ≤ x1 → ((x2 < 0 → (Q (-1) u)) ∧ (¬ x2 < 0 → (((G.2.1 1) ≤ x2 → (Q (-1) u)) ∧ (¬ (G.2.1 1) ≤ x2 → (Q ((x2 * (G.2.1 0)) + x1) u))))))))
def lp_gGrid_init_97 (G : pG) (Q : pS → Prop) (k63 : Int32 → Int32 → Int32 → Int32 → pS → Prop) : Nat → Int32 → Int32 → Int32 → Int32 → Int32 → Int32 → pS → Prop
  | 0 => fun _ _ _ _ _ _ _ => False
  | n + 1 => fun x1 x2 x3 x4 x5 x6 u => (4 ≤ x6 → (∀ t8 : Int32, t8 = x4 + 1 → k63 x1 x2 x3 t8 u)) ∧ (¬ 4 ≤ x6 → (vp_in x6 4 ∧ (vp_in x6 4 ∧ (wp_gGrid_placeOf G (x4 + (tb_SX x6.toNatClampNeg)) (x3 + (tb_SY x6.toNatClampNeg)) u (fun r10 u9 => vp_in ((x5 * 4) + x6) (G.1 3) ∧ ∀ u11 : pS, u11 = pw_sa u9 2 (upd (u9.2 2) ((x5 * 4) + x6).toNatClampNeg r10) → ∀ t12 : Int32, t12 = x6 + 1 → lp_gGrid_init_97 G Q k63 n x1 x2 x3 x4 x5 t12 u11)))))
def lp_gGrid_init_63 (G : pG) (Q : pS → Prop) (k55 : Int32 → Int32 → Int32 → pS → Prop) : Nat → Int32 → Int32 → Int32 → Int32 → pS → Prop
  | 0 => fun _ _ _ _ _ => False
  | n + 1 => fun x1 x2 x3 x4 u => (x1 ≤ x4 → (∀ t3 : Int32, t3 = x3 + 1 → k55 x1 x2 t3 u)) ∧ (¬ x1 ≤ x4 → (∀ t4 : Int32, t4 = ((x3 * x1) + x4) → vp_in t4 (G.1 1) ∧ ∀ u5 : pS, u5 = pw_sa u 0 (upd (u.2 0) t4.toNatClampNeg x4) → vp_in t4 (G.1 2) ∧ ∀ u6 : pS, u6 = pw_sa u5 1 (upd (u5.2 1) t4.toNatClampNeg x3) → (∃ n1, lp_gGrid_init_97 G Q (lp_gGrid_init_63 G Q k55 n) n1 x1 x2 x3 x4 t4 0 u6)))
def lp_gGrid_init_55 (G : pG) (Q : pS → Prop) : Nat → Int32 → Int32 → Int32 → pS → Prop
  | 0 => fun _ _ _ _ => False
  | n + 1 => fun x1 x2 x3 u => (x2 ≤ x3 → Q u) ∧ (¬ x2 ≤ x3 → ((∃ n1, lp_gGrid_init_63 G Q (lp_gGrid_init_55 G Q n) n1 x1 x2 x3 0 u)))
def wp_gGrid_init (G : pG) (x1 x2 : Int32) (u : pS) (Q : pS → Prop) : Prop := (∃ n1, lp_gGrid_init_55 G Q n1 x1 x2 0 u)
set_option maxHeartbeats 4000000 in
set_option maxRecDepth 100000 in
theorem st_gGrid_placeOf {p : Program} {l : Launch} {e : Env} {s : State} {m : MethodId} {args : Array Value} {below : List Frame} {meth : Method} {c : Code} {D : va_G} {a : Nat → Nat} {cA cZ : ClassId} {G : pG} {A : Nat → Prop} {Q : Int32 → pS → Prop} (C : pw_C p s m args meth c b_Grid_placeOf 4 R_Grid (some .int) w_Grid_placeOf A) (K : pw_K s D 4 a (cT cA cZ) A) (x1 x2 : Int32) (u : pS) (ls : Array Slot) (hP : va_P D vwCl (gw a cA cZ G u) s.heap) (hl : lv_has ls 4 [(0, .ref (a 0)), (1, .int x1), (2, .int x2)]) (h : wp_gGrid_placeOf G x1 x2 u Q) : W p l e ({ frames := 0, cells := 0, slots := 0, locals := 0 } : Room) s m args below meth c s.heap [] 0 0 (pw_Ei below args s D (gw a cA cZ G) (cT cA cZ) A Q) (F0 m 0 ls []) := by
 obtain ⟨hx, hb, hr, hml, hown, hts, hlocks, hA⟩ := id C
 obtain ⟨hK, hI, hF⟩ := id K
 have hD : ∀ u, va_D A (gw a cA cZ G u) := fun u => gw_D hI hF
 have hS : va_S A s.heap s.heap [] := va_S.rf
 have h : wp_gGrid_placeOf G x1 x2 u Q := h
 refine lv_iload_n hx hb d_Grid_placeOf_0 rfl (lv_at hl 1 rfl) ?_
 refine lv_if_lt (tgt := 28) hx hb d_Grid_placeOf_1 (by decide) (fun c1 => ?_) (fun c1 => ?_)
 · have h := h.1 c1
   refine lv_iconst (v := 0) hx hb d_Grid_placeOf_28 (by decide) ?_
   refine lv_istore_n (lv' := [(3, .int 0), (0, .ref (a 0)), (1, .int x1), (2, .int x2)]) hx hb d_Grid_placeOf_29 rfl hl (by decide) rfl (fun ls hl => ?_)
   refine lv_iload_n hx hb d_Grid_placeOf_30 rfl (lv_at hl 0 rfl) ?_
   refine lv_if_eq (tgt := 45) hx hb d_Grid_placeOf_31 (by decide) (fun _ => ?_) (fun q => absurd q (by decide))
   refine lv_iconst (v := -1) hx hb d_Grid_placeOf_45 (by decide) ?_
   exact W.iret (v := (-1)) hx hb hr (fun t ht hW => ⟨⟨(-1), u, rfl, h, by rw [ht]; exact hP, va_K.moved hW.alike hK⟩, hS.F ht⟩) hS.2.2 d_Grid_placeOf_46 hlocks
 · have h := h.2 c1
   refine lv_iload_n hx hb d_Grid_placeOf_4 rfl (lv_at hl 1 rfl) ?_
   refine lv_aload_n hx hb d_Grid_placeOf_5 rfl (lv_at hl 0 rfl) ?_
   refine va_get (D := D) (ci := 4) (v := .int (G.2.1 0)) (C := R_Grid) (T := T_Grid) (N := 6) hx hb hts in_Grid hown hK hP 0 gw_at_0 rfl 0 (by decide) (hts _ (List.mem_cons_of_mem _ kw_97)) (fun _ h9 => h9) rfl d_Grid_placeOf_6 ?_
   refine lv_icmp_ge (tgt := 28) hx hb d_Grid_placeOf_9 (by decide) (fun c3 => ?_) (fun c3 => ?_)
   · have h := h.1 c3
     refine lv_iconst (v := 0) hx hb d_Grid_placeOf_28 (by decide) ?_
     refine lv_istore_n (lv' := [(3, .int 0), (0, .ref (a 0)), (1, .int x1), (2, .int x2)]) hx hb d_Grid_placeOf_29 rfl hl (by decide) rfl (fun ls hl => ?_)
     refine lv_iload_n hx hb d_Grid_placeOf_30 rfl (lv_at hl 0 rfl) ?_
     refine lv_if_eq (tgt := 45) hx hb d_Grid_placeOf_31 (by decide) (fun _ => ?_) (fun q => absurd q (by decide))
     refine lv_iconst (v := -1) hx hb d_Grid_placeOf_45 (by decide) ?_
     exact W.iret (v := (-1)) hx hb hr (fun t ht hW => ⟨⟨(-1), u, rfl, h, by rw [ht]; exact hP, va_K.moved hW.alike hK⟩, hS.F ht⟩) hS.2.2 d_Grid_placeOf_46 hlocks
   · have h := h.2 c3
     refine lv_iload_n hx hb d_Grid_placeOf_12 rfl (lv_at hl 2 rfl) ?_
     refine lv_if_lt (tgt := 28) hx hb d_Grid_placeOf_13 (by decide) (fun c5 => ?_) (fun c5 => ?_)
     · have h := h.1 c5
       refine lv_iconst (v := 0) hx hb d_Grid_placeOf_28 (by decide) ?_
       refine lv_istore_n (lv' := [(3, .int 0), (0, .ref (a 0)), (1, .int x1), (2, .int x2)]) hx hb d_Grid_placeOf_29 rfl hl (by decide) rfl (fun ls hl => ?_)
       refine lv_iload_n hx hb d_Grid_placeOf_30 rfl (lv_at hl 0 rfl) ?_
       refine lv_if_eq (tgt := 45) hx hb d_Grid_placeOf_31 (by decide) (fun _ => ?_) (fun q => absurd q (by decide))
       refine lv_iconst (v := -1) hx hb d_Grid_placeOf_45 (by decide) ?_
       exact W.iret (v := (-1)) hx hb hr (fun t ht hW => ⟨⟨(-1), u, rfl, h, by rw [ht]; exact hP, va_K.moved hW.alike hK⟩, hS.F ht⟩) hS.2.2 d_Grid_placeOf_46 hlocks
     · have h := h.2 c5
       refine lv_iload_n hx hb d_Grid_placeOf_16 rfl (lv_at hl 2 rfl) ?_
       refine lv_aload_n hx hb d_Grid_placeOf_17 rfl (lv_at hl 0 rfl) ?_
       refine va_get (D := D) (ci := 4) (v := .int (G.2.1 1)) (C := R_Grid) (T := T_Grid) (N := 6) hx hb hts in_Grid hown hK hP 0 gw_at_0 rfl 1 (by decide) (hts _ (List.mem_cons_of_mem _ kw_102)) (fun _ h9 => h9) rfl d_Grid_placeOf_18 ?_
       refine lv_icmp_ge (tgt := 28) hx hb d_Grid_placeOf_21 (by decide) (fun c7 => ?_) (fun c7 => ?_)
       · have h := h.1 c7
         refine lv_iconst (v := 0) hx hb d_Grid_placeOf_28 (by decide) ?_
         refine lv_istore_n (lv' := [(3, .int 0), (0, .ref (a 0)), (1, .int x1), (2, .int x2)]) hx hb d_Grid_placeOf_29 rfl hl (by decide) rfl (fun ls hl => ?_)
         refine lv_iload_n hx hb d_Grid_placeOf_30 rfl (lv_at hl 0 rfl) ?_
         refine lv_if_eq (tgt := 45) hx hb d_Grid_placeOf_31 (by decide) (fun _ => ?_) (fun q => absurd q (by decide))
         refine lv_iconst (v := -1) hx hb d_Grid_placeOf_45 (by decide) ?_
         exact W.iret (v := (-1)) hx hb hr (fun t ht hW => ⟨⟨(-1), u, rfl, h, by rw [ht]; exact hP, va_K.moved hW.alike hK⟩, hS.F ht⟩) hS.2.2 d_Grid_placeOf_46 hlocks
       · have h := h.2 c7
         refine lv_iconst (v := 1) hx hb d_Grid_placeOf_24 (by decide) ?_
         refine lv_goto (tgt := 29) hx hb d_Grid_placeOf_25 (by decide) ?_
         refine lv_istore_n (lv' := [(3, .int 1), (0, .ref (a 0)), (1, .int x1), (2, .int x2)]) hx hb d_Grid_placeOf_29 rfl hl (by decide) rfl (fun ls hl => ?_)
         refine lv_iload_n hx hb d_Grid_placeOf_30 rfl (lv_at hl 0 rfl) ?_
         refine lv_if_eq (tgt := 45) hx hb d_Grid_placeOf_31 (by decide) (fun q => absurd q (by decide)) (fun _ => ?_)
         refine lv_iload_n hx hb d_Grid_placeOf_34 rfl (lv_at hl 3 rfl) ?_
         refine lv_aload_n hx hb d_Grid_placeOf_35 rfl (lv_at hl 1 rfl) ?_
         refine va_get (D := D) (ci := 4) (v := .int (G.2.1 0)) (C := R_Grid) (T := T_Grid) (N := 6) hx hb hts in_Grid hown hK hP 0 gw_at_0 rfl 0 (by decide) (hts _ (List.mem_cons_of_mem _ kw_97)) (fun _ h9 => h9) rfl d_Grid_placeOf_36 ?_
         refine lv_imul hx hb d_Grid_placeOf_39 ?_
         refine lv_iload_n hx hb d_Grid_placeOf_40 rfl (lv_at hl 2 rfl) ?_
         refine lv_iadd hx hb d_Grid_placeOf_41 ?_
         refine lv_goto (tgt := 46) hx hb d_Grid_placeOf_42 (by decide) ?_
         exact W.iret (v := ((x2 * (G.2.1 0)) + x1)) hx hb hr (fun t ht hW => ⟨⟨((x2 * (G.2.1 0)) + x1), u, rfl, h, by rw [ht]; exact hP, va_K.moved hW.alike hK⟩, hS.F ht⟩) hS.2.2 d_Grid_placeOf_46 hlocks
set_option maxHeartbeats 4000000 in
set_option maxRecDepth 100000 in
theorem ct_gGrid_placeOf (l : Launch) (D : va_G) (a : Nat → Nat) (cA cZ : ClassId) (G : pG) (sz : Nat) (x1 x2 : Int32) (u : pS) (Q : Int32 → pS → Prop) (hI : pw_I 4 a) (h : wp_gGrid_placeOf G x1 x2 u Q) : Met l y_Grid_placeOf w_Grid_placeOf ({ frames := 0, cells := 0, slots := 0, locals := 0 } : Room) (va_Pc [.ref (a 0), .int x1, .int x2] (pw_pre D (gw a cA cZ G) (cT cA cZ) sz u)) (va_Qi (fun (r : Int32) (u : pS) => Q r u) (pw_B D (gw a cA cZ G) (cT cA cZ)) (pw_F 4 a sz)) 0 0 (pw_F 4 a sz) := by
 refine Met.ofW (cc := b_Grid_placeOf) (maxL := 4) (ret := (some .int)) (by decide) rfl ?_
 intro p e s m args below meth c s₁ B hml hv
 obtain ⟨rfl, hsz, hP, hK⟩ := hv
 subst hsz
 have hl := lv_entry ([.ref (a 0), .int x1, .int x2]) (n := 4) (Nat.le_of_ble_eq_true rfl)
 rw [lg_entry_eq]
 generalize (lg_sl ([.ref (a 0), .int x1, .int x2]) ++ List.replicate (4 - (lg_sl ([.ref (a 0), .int x1, .int x2])).length) Slot.unset).toArray = ls at hl ⊢
 exact st_gGrid_placeOf (A := (pw_F 4 a s.heap.size)) ⟨B.exec, B.bytes, B.returns, hml, findClass_of_methodNamed B.named, atoms_spec (ws := w_Grid_placeOf) B.pre, B.notSynchronized, fun q hq => Or.inr hq⟩ ⟨hK, hI, fun k hk => Or.inl ⟨k, hk, rfl⟩⟩ x1 x2 u ls hP hl h
set_option maxHeartbeats 4000000 in
set_option maxRecDepth 100000 in
theorem cp_gGrid_init_97 {p : Program} {l : Launch} {e : Env} {s : State} {m : MethodId} {args : Array Value} {below : List Frame} {meth : Method} {c : Code} {D : va_G} {a : Nat → Nat} {cA cZ : ClassId} {G : pG} {A : Nat → Prop} {Q : pS → Prop} (C : pw_C p s m args meth c b_Grid_init 7 R_Grid none w_Grid_init A) (K : pw_K s D 4 a (cT cA cZ) A) (EX : gw_Ex A s) {k63 : Int32 → Int32 → Int32 → Int32 → pS → Prop} (hk63 : ∀ (x1 x2 x3 x4 : Int32) (u : pS) (H : Heap) (locs : List Loc) (ls : Array Slot), va_P D vwCl (gw a cA cZ G u) H → va_S A s.heap H locs → lv_has ls 7 [(0, .ref (a 0)), (1, .int x1), (2, .int x2), (3, .int x3), (4, .int x4)] → k63 x1 x2 x3 x4 u → W p l e ({ frames := 1, cells := 3, slots := 2400, locals := 23 } : Room) s m args below meth c H locs 3 2400 (MQ below (va_Qv (fun u : pS => Q u) (pw_B D (gw a cA cZ G) (cT cA cZ)) A) args s 3 2400 A) (F0 m 63 ls [])) : ∀ (n : Nat), ∀ (x1 x2 x3 x4 x5 x6 : Int32) (u : pS) (H : Heap) (locs : List Loc) (ls : Array Slot), va_P D vwCl (gw a cA cZ G u) H → va_S A s.heap H locs → lv_has ls 7 [(0, .ref (a 0)), (1, .int x1), (2, .int x2), (3, .int x3), (4, .int x4), (5, .int x5), (6, .int x6)] → lp_gGrid_init_97 G Q k63 n x1 x2 x3 x4 x5 x6 u → W p l e ({ frames := 1, cells := 3, slots := 2400, locals := 23 } : Room) s m args below meth c H locs 3 2400 (MQ below (va_Qv (fun u : pS => Q u) (pw_B D (gw a cA cZ G) (cT cA cZ)) A) args s 3 2400 A) (F0 m 97 ls []) := by
 obtain ⟨hx, hb, hr, hml, hown, hts, hlocks, hA⟩ := id C
 obtain ⟨hK, hI, hF⟩ := id K
 have hD : ∀ u, va_D A (gw a cA cZ G u) := fun u => gw_D hI hF
 obtain ⟨t_STEP_X, t_STEP_Y, t_AHEAD_X, t_AHEAD_Y, hZ_t_STEP_X, hZ_t_STEP_Y, hZ_t_AHEAD_X, hZ_t_AHEAD_Y, hT_t_STEP_X, hT_t_STEP_Y, hT_t_AHEAD_X, hT_t_AHEAD_Y⟩ := EX.2
 intro n
 induction n with
 | zero => intro x1 x2 x3 x4 x5 x6 u H locs ls hP hS hl h; exact h.elim
 | succ n ih =>
   intro x1 x2 x3 x4 x5 x6 u H locs ls hP hS hl h
   refine lv_iload hx hb d_Grid_init_97 (lv_at hl 6 rfl) ?_
   refine lv_iconst (v := 4) hx hb d_Grid_init_99 (by decide) ?_
   refine lv_icmp_ge (tgt := 142) hx hb d_Grid_init_100 (by decide) (fun c7 => ?_) (fun c7 => ?_)
   · have h := h.1 c7
     obtain ⟨t8, et8⟩ : ∃ y : Int32, y = x4 + 1 := ⟨_, rfl⟩
     have h := h t8 et8
     refine lv_iinc (v := t8) (lv' := [(4, .int t8), (0, .ref (a 0)), (1, .int x1), (2, .int x2), (3, .int x3), (5, .int x5), (6, .int x6)]) hx hb d_Grid_init_142 hl (k := 4) rfl (by rw [et8]; rfl) (by decide) rfl (fun ls hl => ?_)
     refine lv_goto (tgt := 63) hx hb d_Grid_init_145 (by decide) ?_
     exact hk63 x1 x2 x3 t8 u _ _ _ hP hS (lv_sub hl [1, 2, 3, 4, 0] rfl) h
   · have h := h.2 c7
     refine lv_aload_n hx hb d_Grid_init_103 rfl (lv_at hl 0 rfl) ?_
     refine va_get (D := D) (ci := 4) (v := .ref (a 3)) (C := R_Grid) (T := T_Grid) (N := 6) hx hb hts in_Grid hown hK hP 0 gw_at_0 rfl 5 (by decide) (hts _ (List.mem_cons_of_mem _ kw_114)) (fun _ h9 => h9) rfl d_Grid_init_104 ?_
     refine lv_iload hx hb d_Grid_init_107 (lv_at hl 5 rfl) ?_
     refine lv_iconst (v := 4) hx hb d_Grid_init_109 (by decide) ?_
     refine lv_imul hx hb d_Grid_init_110 ?_
     refine lv_iload hx hb d_Grid_init_111 (lv_at hl 6 rfl) ?_
     refine lv_iadd hx hb d_Grid_init_113 ?_
     refine lv_aload_n hx hb d_Grid_init_114 rfl (lv_at hl 0 rfl) ?_
     refine lv_iload hx hb d_Grid_init_115 (lv_at hl 4 rfl) ?_
     refine va_getsN hx hb hZ_t_STEP_X hS hown (va_Nw.use rfl (EX.1.1.1 ("PictureInlays$Grid", 31, "STEP_X") (by decide))) (fun _ h9 => h9) d_Grid_init_117 ?_
     refine lv_iload hx hb d_Grid_init_120 (lv_at hl 6 rfl) ?_
     refine va_ti hx hb hT_t_STEP_X hS h.1 rfl d_Grid_init_122 ?_
     have h := h.2
     refine lv_iadd hx hb d_Grid_init_123 ?_
     refine lv_iload_n hx hb d_Grid_init_124 rfl (lv_at hl 3 rfl) ?_
     refine va_getsN hx hb hZ_t_STEP_Y hS hown (va_Nw.use rfl (EX.1.1.1 ("PictureInlays$Grid", 34, "STEP_Y") (by decide))) (fun _ h9 => h9) d_Grid_init_125 ?_
     refine lv_iload hx hb d_Grid_init_128 (lv_at hl 6 rfl) ?_
     refine va_ti hx hb hT_t_STEP_Y hS h.1 rfl d_Grid_init_130 ?_
     have h := h.2
     refine lv_iadd hx hb d_Grid_init_131 ?_
     refine cc_i (va_runV (As := [.int (x4 + (tb_SX x6.toNatClampNeg)), .int (x3 + (tb_SY x6.toNatClampNeg))]) (rest := [.int ((x5 * 4) + x6), .ref (a 3)]) ⟨hx, hb, hml, hown, hts⟩ (ct_gGrid_placeOf l D a cA cZ G _ (x4 + (tb_SX x6.toNatClampNeg)) (x3 + (tb_SY x6.toNatClampNeg)) u _ hI h) (pw_cwV 2 hts kw_96 kw_46 kw_93 kw_94 kw_95 (by decide +kernel) ⟨Nat.le_of_ble_eq_true rfl, Nat.le_of_ble_eq_true rfl⟩) ⟨pw_blind, va_recv hK hP (ci := 4) (q0 := 0) rfl gw_at_0, fun U hU hW => ⟨rfl, by rw [hU], by rw [hU]; exact hP, va_K.moved hW.alike hK⟩⟩ rfl rfl hl.1 rfl (lv_room (Nat.le_of_ble_eq_true rfl)) d_Grid_init_132 ⟨Nat.le_of_ble_eq_true rfl, Nat.le_of_ble_eq_true rfl⟩) hS hF hA (fun r10 u9 H locs hP hS h => ?_)
     refine va_iast hx hb hK hP (hD _) hS 3 0 gw_at_3 rfl h.1 d_Grid_init_135 (fun H locs hP _ hS => ?_)
     obtain ⟨u11, eu11⟩ : ∃ z, z = pw_sa u9 2 (upd (u9.2 2) ((x5 * 4) + x6).toNatClampNeg r10) := ⟨_, rfl⟩
     rw [gw_sa_3, ← eu11] at hP
     have h := h.2 u11 eu11
     obtain ⟨t12, et12⟩ : ∃ y : Int32, y = x6 + 1 := ⟨_, rfl⟩
     have h := h t12 et12
     refine lv_iinc (v := t12) (lv' := [(6, .int t12), (0, .ref (a 0)), (1, .int x1), (2, .int x2), (3, .int x3), (4, .int x4), (5, .int x5)]) hx hb d_Grid_init_136 hl (k := 6) rfl (by rw [et12]; rfl) (by decide) rfl (fun ls hl => ?_)
     refine lv_goto (tgt := 97) hx hb d_Grid_init_139 (by decide) ?_
     exact ih x1 x2 x3 x4 x5 t12 u11 _ _ _ hP hS (lv_sub hl [1, 2, 3, 4, 5, 6, 0] rfl) h
set_option maxHeartbeats 4000000 in
set_option maxRecDepth 100000 in
theorem cp_gGrid_init_63 {p : Program} {l : Launch} {e : Env} {s : State} {m : MethodId} {args : Array Value} {below : List Frame} {meth : Method} {c : Code} {D : va_G} {a : Nat → Nat} {cA cZ : ClassId} {G : pG} {A : Nat → Prop} {Q : pS → Prop} (C : pw_C p s m args meth c b_Grid_init 7 R_Grid none w_Grid_init A) (K : pw_K s D 4 a (cT cA cZ) A) (EX : gw_Ex A s) {k55 : Int32 → Int32 → Int32 → pS → Prop} (hk55 : ∀ (x1 x2 x3 : Int32) (u : pS) (H : Heap) (locs : List Loc) (ls : Array Slot), va_P D vwCl (gw a cA cZ G u) H → va_S A s.heap H locs → lv_has ls 7 [(0, .ref (a 0)), (1, .int x1), (2, .int x2), (3, .int x3)] → k55 x1 x2 x3 u → W p l e ({ frames := 1, cells := 3, slots := 2400, locals := 23 } : Room) s m args below meth c H locs 3 2400 (MQ below (va_Qv (fun u : pS => Q u) (pw_B D (gw a cA cZ G) (cT cA cZ)) A) args s 3 2400 A) (F0 m 55 ls [])) : ∀ (n : Nat), ∀ (x1 x2 x3 x4 : Int32) (u : pS) (H : Heap) (locs : List Loc) (ls : Array Slot), va_P D vwCl (gw a cA cZ G u) H → va_S A s.heap H locs → lv_has ls 7 [(0, .ref (a 0)), (1, .int x1), (2, .int x2), (3, .int x3), (4, .int x4)] → lp_gGrid_init_63 G Q k55 n x1 x2 x3 x4 u → W p l e ({ frames := 1, cells := 3, slots := 2400, locals := 23 } : Room) s m args below meth c H locs 3 2400 (MQ below (va_Qv (fun u : pS => Q u) (pw_B D (gw a cA cZ G) (cT cA cZ)) A) args s 3 2400 A) (F0 m 63 ls []) := by
 obtain ⟨hx, hb, hr, hml, hown, hts, hlocks, hA⟩ := id C
 obtain ⟨hK, hI, hF⟩ := id K
 have hD : ∀ u, va_D A (gw a cA cZ G u) := fun u => gw_D hI hF
 obtain ⟨t_STEP_X, t_STEP_Y, t_AHEAD_X, t_AHEAD_Y, hZ_t_STEP_X, hZ_t_STEP_Y, hZ_t_AHEAD_X, hZ_t_AHEAD_Y, hT_t_STEP_X, hT_t_STEP_Y, hT_t_AHEAD_X, hT_t_AHEAD_Y⟩ := EX.2
 intro n
 induction n with
 | zero => intro x1 x2 x3 x4 u H locs ls hP hS hl h; exact h.elim
 | succ n ih =>
   intro x1 x2 x3 x4 u H locs ls hP hS hl h
   refine lv_iload hx hb d_Grid_init_63 (lv_at hl 4 rfl) ?_
   refine lv_iload_n hx hb d_Grid_init_65 rfl (lv_at hl 1 rfl) ?_
   refine lv_icmp_ge (tgt := 148) hx hb d_Grid_init_66 (by decide) (fun c2 => ?_) (fun c2 => ?_)
   · have h := h.1 c2
     obtain ⟨t3, et3⟩ : ∃ y : Int32, y = x3 + 1 := ⟨_, rfl⟩
     have h := h t3 et3
     refine lv_iinc (v := t3) (lv' := [(3, .int t3), (0, .ref (a 0)), (1, .int x1), (2, .int x2), (4, .int x4)]) hx hb d_Grid_init_148 hl (k := 3) rfl (by rw [et3]; rfl) (by decide) rfl (fun ls hl => ?_)
     refine lv_goto (tgt := 55) hx hb d_Grid_init_151 (by decide) ?_
     exact hk55 x1 x2 t3 u _ _ _ hP hS (lv_sub hl [1, 2, 3, 0] rfl) h
   · have h := h.2 c2
     refine lv_iload_n hx hb d_Grid_init_69 rfl (lv_at hl 3 rfl) ?_
     refine lv_iload_n hx hb d_Grid_init_70 rfl (lv_at hl 1 rfl) ?_
     refine lv_imul hx hb d_Grid_init_71 ?_
     refine lv_iload hx hb d_Grid_init_72 (lv_at hl 4 rfl) ?_
     refine lv_iadd hx hb d_Grid_init_74 ?_
     refine lv_topi (fun t4 et4 => ?_)
     have h := h t4 et4
     refine lv_istore (lv' := [(5, .int t4), (0, .ref (a 0)), (1, .int x1), (2, .int x2), (3, .int x3), (4, .int x4)]) hx hb d_Grid_init_75 hl (by decide) rfl (fun ls hl => ?_)
     refine lv_aload_n hx hb d_Grid_init_77 rfl (lv_at hl 1 rfl) ?_
     refine va_get (D := D) (ci := 4) (v := .ref (a 1)) (C := R_Grid) (T := T_Grid) (N := 6) hx hb hts in_Grid hown hK hP 0 gw_at_0 rfl 3 (by decide) (hts _ (List.mem_cons_of_mem _ kw_112)) (fun _ h9 => h9) rfl d_Grid_init_78 ?_
     refine lv_iload hx hb d_Grid_init_81 (lv_at hl 0 rfl) ?_
     refine lv_iload hx hb d_Grid_init_83 (lv_at hl 5 rfl) ?_
     refine va_iast hx hb hK hP (hD _) hS 1 0 gw_at_1 rfl h.1 d_Grid_init_85 (fun H locs hP _ hS => ?_)
     obtain ⟨u5, eu5⟩ : ∃ z, z = pw_sa u 0 (upd (u.2 0) t4.toNatClampNeg x4) := ⟨_, rfl⟩
     rw [gw_sa_1, ← eu5] at hP
     have h := h.2 u5 eu5
     refine lv_aload_n hx hb d_Grid_init_86 rfl (lv_at hl 1 rfl) ?_
     refine va_get (D := D) (ci := 4) (v := .ref (a 2)) (C := R_Grid) (T := T_Grid) (N := 6) hx hb hts in_Grid hown hK hP 0 gw_at_0 rfl 4 (by decide) (hts _ (List.mem_cons_of_mem _ kw_113)) (fun _ h9 => h9) rfl d_Grid_init_87 ?_
     refine lv_iload hx hb d_Grid_init_90 (lv_at hl 0 rfl) ?_
     refine lv_iload_n hx hb d_Grid_init_92 rfl (lv_at hl 4 rfl) ?_
     refine va_iast hx hb hK hP (hD _) hS 2 0 gw_at_2 rfl h.1 d_Grid_init_93 (fun H locs hP _ hS => ?_)
     obtain ⟨u6, eu6⟩ : ∃ z, z = pw_sa u5 1 (upd (u5.2 1) t4.toNatClampNeg x3) := ⟨_, rfl⟩
     rw [gw_sa_2, ← eu6] at hP
     have h := h.2 u6 eu6
     refine lv_iconst (v := 0) hx hb d_Grid_init_94 (by decide) ?_
     refine lv_istore (lv' := [(6, .int 0), (5, .int t4), (0, .ref (a 0)), (1, .int x1), (2, .int x2), (3, .int x3), (4, .int x4)]) hx hb d_Grid_init_95 hl (by decide) rfl (fun ls hl => ?_)
     obtain ⟨n1, h⟩ := h
     exact cp_gGrid_init_97 C K EX ih n1 x1 x2 x3 x4 t4 0 u6 _ _ _ hP hS (lv_sub hl [2, 3, 4, 5, 6, 1, 0] rfl) h
set_option maxHeartbeats 4000000 in
set_option maxRecDepth 100000 in
theorem cp_gGrid_init_55 {p : Program} {l : Launch} {e : Env} {s : State} {m : MethodId} {args : Array Value} {below : List Frame} {meth : Method} {c : Code} {D : va_G} {a : Nat → Nat} {cA cZ : ClassId} {G : pG} {A : Nat → Prop} {Q : pS → Prop} (C : pw_C p s m args meth c b_Grid_init 7 R_Grid none w_Grid_init A) (K : pw_K s D 4 a (cT cA cZ) A) (EX : gw_Ex A s) : ∀ (n : Nat), ∀ (x1 x2 x3 : Int32) (u : pS) (H : Heap) (locs : List Loc) (ls : Array Slot), va_P D vwCl (gw a cA cZ G u) H → va_S A s.heap H locs → lv_has ls 7 [(0, .ref (a 0)), (1, .int x1), (2, .int x2), (3, .int x3)] → lp_gGrid_init_55 G Q n x1 x2 x3 u → W p l e ({ frames := 1, cells := 3, slots := 2400, locals := 23 } : Room) s m args below meth c H locs 3 2400 (MQ below (va_Qv (fun u : pS => Q u) (pw_B D (gw a cA cZ G) (cT cA cZ)) A) args s 3 2400 A) (F0 m 55 ls []) := by
 obtain ⟨hx, hb, hr, hml, hown, hts, hlocks, hA⟩ := id C
 obtain ⟨hK, hI, hF⟩ := id K
 have hD : ∀ u, va_D A (gw a cA cZ G u) := fun u => gw_D hI hF
 obtain ⟨t_STEP_X, t_STEP_Y, t_AHEAD_X, t_AHEAD_Y, hZ_t_STEP_X, hZ_t_STEP_Y, hZ_t_AHEAD_X, hZ_t_AHEAD_Y, hT_t_STEP_X, hT_t_STEP_Y, hT_t_AHEAD_X, hT_t_AHEAD_Y⟩ := EX.2
 intro n
 induction n with
 | zero => intro x1 x2 x3 u H locs ls hP hS hl h; exact h.elim
 | succ n ih =>
   intro x1 x2 x3 u H locs ls hP hS hl h
   refine lv_iload_n hx hb d_Grid_init_55 rfl (lv_at hl 3 rfl) ?_
   refine lv_iload_n hx hb d_Grid_init_56 rfl (lv_at hl 2 rfl) ?_
   refine lv_icmp_ge (tgt := 154) hx hb d_Grid_init_57 (by decide) (fun c1 => ?_) (fun c1 => ?_)
   · have h := h.1 c1
     exact W.vret hx hb hr (fun t ht hW => ⟨⟨u, rfl, h, by rw [ht]; exact hP, va_K.moved hW.alike hK⟩, hS.F ht⟩) hS.2.2 d_Grid_init_154 hlocks
   · have h := h.2 c1
     refine lv_iconst (v := 0) hx hb d_Grid_init_60 (by decide) ?_
     refine lv_istore (lv' := [(4, .int 0), (0, .ref (a 0)), (1, .int x1), (2, .int x2), (3, .int x3)]) hx hb d_Grid_init_61 hl (by decide) rfl (fun ls hl => ?_)
     obtain ⟨n1, h⟩ := h
     exact cp_gGrid_init_63 C K EX ih n1 x1 x2 x3 0 u _ _ _ hP hS (lv_sub hl [1, 2, 3, 4, 0] rfl) h
set_option maxHeartbeats 4000000 in
set_option maxRecDepth 100000 in
theorem cs_gGrid_init {p : Program} {l : Launch} {e : Env} {s : State} {m : MethodId} {args : Array Value} {below : List Frame} {meth : Method} {c : Code} {D : va_G} {a : Nat → Nat} {cA cZ : ClassId} {G : pG} {A : Nat → Prop} {Q : pS → Prop} (C : pw_C p s m args meth c b_Grid_init 7 R_Grid none w_Grid_init A) (K : pw_K s D 4 a (cT cA cZ) A) (EX : gw_Ex A s) (x1 x2 : Int32) (u : pS) (H : Heap) (locs : List Loc) (ls : Array Slot) (hP : va_P D vwCl (gw a cA cZ G u) H) (hS : va_S A s.heap H locs) (hl : lv_has ls 7 [(0, .ref (a 0)), (1, .int x1), (2, .int x2)]) (h : wp_gGrid_init G x1 x2 u Q) : W p l e ({ frames := 1, cells := 3, slots := 2400, locals := 23 } : Room) s m args below meth c H locs 3 2400 (MQ below (va_Qv (fun u : pS => Q u) (pw_B D (gw a cA cZ G) (cT cA cZ)) A) args s 3 2400 A) (F0 m 53 ls []) := by
 obtain ⟨hx, hb, hr, hml, hown, hts, hlocks, hA⟩ := id C
 obtain ⟨hK, hI, hF⟩ := id K
 have hD : ∀ u, va_D A (gw a cA cZ G u) := fun u => gw_D hI hF
 obtain ⟨t_STEP_X, t_STEP_Y, t_AHEAD_X, t_AHEAD_Y, hZ_t_STEP_X, hZ_t_STEP_Y, hZ_t_AHEAD_X, hZ_t_AHEAD_Y, hT_t_STEP_X, hT_t_STEP_Y, hT_t_AHEAD_X, hT_t_AHEAD_Y⟩ := EX.2
 have h : wp_gGrid_init G x1 x2 u Q := h
 refine lv_iconst (v := 0) hx hb d_Grid_init_53 (by decide) ?_
 refine lv_istore_n (lv' := [(3, .int 0), (0, .ref (a 0)), (1, .int x1), (2, .int x2)]) hx hb d_Grid_init_54 rfl hl (by decide) rfl (fun ls hl => ?_)
 obtain ⟨n1, h⟩ := h
 exact cp_gGrid_init_55 C K EX n1 x1 x2 0 u _ _ _ hP hS (lv_sub hl [1, 2, 3, 0] rfl) h
