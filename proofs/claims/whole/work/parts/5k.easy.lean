/-! OWN ROWS: pieceOf, piece, order, at. -/
section
variable {w h K : Nat} {G Gm : pG} {u v : pS}
theorem g_piece (R : Rel w h K u v) (x : Int) (xa : -2147483648 ≤ x) (xb : x < 2147483648) (hN : w * h ≤ 400) {Q : pS → Prop} {X : Nat → pS → Prop}
    (hq : ∀ fo F c lx mx ly my row p, PT w h u v fo F c lx mx ly my row → ¬ u.1 0 = 0 → p < c → x = (p : Nat) → Q u) (hx0 : u.1 0 = 0 → X 0 u) (hx1 : ∀ fo F c lx mx ly my row, PT w h u v fo F c lx mx ly my row → ¬ u.1 0 = 0 → ¬ (0 ≤ x ∧ x < c) → X 1 u) : wp_PI_needPiece G (zI x) u Q X := by
  unfold wp_PI_needPiece wp_PI_needParted
  refine ⟨fun e => hx0 e, fun e => ?_⟩
  obtain ⟨fo, F, c, lx, mx, ly, my, row, T⟩ := R.2.2.2 e
  have hcN := PS_c T.1
  have hc2 : u.1 2 = nI c := by rw [T.2.1.2.1, T.1.2.1.1]
  rw [hc2]
  refine g_index x c xa xb (by omega) (fun p1 p2 => ?_) (fun ho => hx1 fo F c lx mx ly my row T e ho)
  obtain ⟨p, rfl⟩ := Int.eq_ofNat_of_zero_le p1
  exact hq fo F c lx mx ly my row p T e (by omega) rfl
theorem m_np0 {x : Int32} (e : v.1 2 = 0) {Q : Int32 → pS → Prop} (hq : Q 1 (pw_si v 0 1)) : wp_Model_noPiece G x v Q := by
  unfold wp_Model_noPiece
  refine b_t e ?_
  intro u10 hu10
  rw [hu10]
  exact b_f (by rw [si_eq]; decide) hq
theorem m_np2 {x : Int} {c : Nat} (xa : -2147483648 ≤ x) (xb : x < 2147483648) (hc : c ≤ 400) (e : ¬ v.1 2 = 0) (ec : v.1 1 = nI c) (ho : ¬ (0 ≤ x ∧ x < c)) {Q : Int32 → pS → Prop} (hq : Q 1 (pw_si v 0 2)) : wp_Model_noPiece G (zI x) v Q := by
  unfold wp_Model_noPiece
  refine b_f e ?_
  have fin : ∀ u3 : pS, u3 = pw_si v 0 2 → (u3.1 0 ≤ 0 → Q 0 u3) ∧ (¬ u3.1 0 ≤ 0 → Q 1 u3) := by
    intro u3 hu3
    rw [hu3]
    exact b_f (by rw [si_eq]; decide) hq
  have c1 : zI x < 0 ↔ x < 0 := by rw [lz_0]; exact zI_lt xa xb (by omega) (by omega)
  rw [c1, ec, nI_z, zI_lt xa xb (by omega) (by omega)]
  by_cases e1 : x < 0
  · exact b_t e1 fin
  · exact b_f e1 (b_f (by omega) fin)
theorem m_npok {p c : Nat} (hc : c ≤ 400) (e : ¬ v.1 2 = 0) (ec : v.1 1 = nI c) (hp : p < c) {Q : Int32 → pS → Prop} (hq : Q 0 (pw_si v 0 0)) : wp_Model_noPiece G (nI p) v Q := by
  unfold wp_Model_noPiece
  refine b_f e (b_f (nI_pos (by omega)) (b_t (by rw [ec]; exact nI_lt hp (by omega)) ?_))
  intro u6 hu6
  rw [hu6]
  exact b_t (by rw [si_eq]; decide) hq
theorem PT_c {fo F : Nat → Nat} {c : Nat} {lx mx ly my row : Nat → Nat} (T : PT w h u v fo F c lx mx ly my row) : u.1 2 = nI c ∧ v.1 1 = nI c := by
  refine ⟨?_, ?_⟩
  · rw [T.2.1.2.1, T.1.2.1.1]
  · rw [T.2.2.1.2.1, T.1.2.1.1]
theorem R_v2 (R : Rel w h K u v) (e : ¬ u.1 0 = 0) : ¬ v.1 2 = 0 := fun q => e (R.2.2.1.mpr q)
theorem R_si (R : Rel w h K u v) (x : Int32) : Rel w h K u (pw_si v 0 x) := Rel_v R (fr_si _ (by decide) (fr_refl _ _ _))
theorem T_si {fo F : Nat → Nat} {c : Nat} {lx mx ly my row : Nat → Nat} (T : PT w h u v fo F c lx mx ly my row) (x : Int32) : PT w h u (pw_si v 0 x) fo F c lx mx ly my row := PT_fr T (fr_refl _ _ _) (fr_si _ (by decide) (fr_refl _ _ _))
theorem e_num (H : GI w h K G) {f : Nat → Int32} {fo F : Nat → Nat} {c : Nat} (P : PS w h f fo F c) (C : CPw w (w * h) fo u) {x y : Int} (hx : -2147483648 ≤ x) (hx2 : x < 2147483648) (hy : -2147483648 ≤ y) (hy2 : y < 2147483648) {Q : Int32 → pS → Prop} : wp_Pieces_numberOf G (zI x) (zI y) u Q ↔ Q (if pl w h x y = -1 then -1 else nI (cnt (fx fo) (fo (pl w h x y).toNat))) u := by
  have B := gB H
  unfold wp_Pieces_numberOf
  rw [e_plc H hx hx2 hy hy2, lz_m1, gl_21 H]
  rcases pl_cases w h x y with ⟨h1, _⟩ | ⟨a, b, ha, hb, _, _, hk, h1⟩
  · rw [h1, bt rfl, if_pos rfl]
  · rw [h1, bf (by rw [zI_eq (by omega) (by omega) (by omega) (by omega)]; omega), if_neg (by omega), ← nI_z, nI_clamp (by omega), Int.toNat_natCast, C.1 _ hk]
    exact and_iff_right (vp_in_nI hk (by omega))
theorem m_numberOf (M : MI w h K Gm) {f : Nat → Int32} {fo F : Nat → Nat} {c : Nat} (P : PS w h f fo F c) (C : MPw (w * h) fo v) {k : Nat} (hk : k < w * h) {Q : Int32 → pS → Prop} (hQ : Q (nI (cnt (fx fo) (fo k))) v) : wp_Model_numberOf Gm (nI k) v Q := by
  have B := mB M
  have hcN := PS_c P
  have hn := Enu_num P.1 P.2.1 hk
  unfold wp_Model_numberOf
  suffices hl : ∀ (d p : Nat), p + d = cnt (fx fo) (fo k) → lp_Model_numberOf_2 Gm Q (d + 1) (nI k) (nI p) v from
    ⟨_, by rw [li_0]; exact hl (cnt (fx fo) (fo k)) 0 (by omega)⟩
  intro d
  induction d with
  | zero =>
    intro p hd
    have e : p = cnt (fx fo) (fo k) := by omega
    unfold lp_Model_numberOf_2
    rw [ml_4 M, ml_5 M, nI_clamp (n := k) (by omega), nI_clamp (n := p) (by omega), C.1 k hk, (MP_at C P.2.1 (show p < c by omega)).1]
    refine ⟨vp_in_nI (by omega) (by omega), vp_in_nI (by omega) (by omega), b_t (by rw [e, hn.2]) (by rw [e]; exact hQ)⟩
  | succ d ih =>
    intro p hd
    have hFp := Enu_F P.2.1 (show p < c by omega)
    have hfk := fo_le P.1 hk
    unfold lp_Model_numberOf_2
    rw [ml_4 M, ml_5 M, nI_clamp (n := k) (by omega), nI_clamp (n := p) (by omega), C.1 k hk, (MP_at C P.2.1 (show p < c by omega)).1]
    simp only [forall_eq, nI_1]
    refine ⟨vp_in_nI (by omega) (by omega), vp_in_nI (by omega) (by omega), b_f (fun q => ?_) (ih (p + 1) (by omega))⟩
    have e1 := (nI_eq (by omega) (by omega)).mp q
    have e2 := (nm_eq P.1 P.2.1 hk (show p < c by omega)).mpr e1.symm
    omega
variable {Q : Int32 → pS → Prop} {X : Nat → pS → Prop}
theorem ob_pieceOf (H : GI w h K G) (M : MI w h K Gm) (R : Rel w h K u v) (x1 x2 : Int32)
    (hr : ∀ r u', wp_Model_pieceOf Gm x1 x2 v (fun r' v' => v'.1 0 = 0 ∧ r' = r ∧ Rel w h K u' v') → Q r u')
    (h0 : ∀ u', wp_Model_pieceOf Gm x1 x2 v (fun r' v' => v'.1 0 = 1 ∧ Rel w h K u' v') → X 0 u')
    (h1 : ∀ u', wp_Model_pieceOf Gm x1 x2 v (fun r' v' => v'.1 0 = 2 ∧ Rel w h K u' v') → X 1 u') : wp_PI_pieceOf G x1 x2 u Q X := by
  have B := gB H
  obtain ⟨x, xa, xb, rfl⟩ := zI_of x1
  obtain ⟨y, ya, yb, rfl⟩ := zI_of x2
  unfold wp_PI_pieceOf wp_PI_needParted
  refine ⟨fun e => h0 u ?_, fun e => ?_⟩
  · unfold wp_Model_pieceOf
    refine b_t (R.2.2.1.mp e) ?_
    unfold jn_Model_pieceOf_26
    intro u5 hu5
    rw [hu5]
    exact b_f (by rw [si_eq]; decide) ⟨si_eq _ _ _, R_si R 1⟩
  · have e2 := R_v2 R e
    obtain ⟨fo, F, c, lx, mx, ly, my, row, T⟩ := R.2.2.2 e
    refine g_place H x y xa xb ya yb (fun a b ha hb hxa hyb => ?_) (fun ho => h1 u ?_)
    · rw [e_num H T.1 T.2.1 xa xb ya yb]
      rw [hxa, hyb, pl_at ha hb, if_neg (by omega), Int.toNat_natCast]
      refine hr _ _ ?_
      have hk := gr_in ha hb
      rw [hxa, hyb]
      unfold wp_Model_pieceOf
      refine b_f e2 ?_
      rw [e_mpl M (by omega) (by omega) (by omega) (by omega), if_pos (by omega)]
      refine b_f (by decide) ?_
      unfold jn_Model_pieceOf_26
      intro u5 hu5
      rw [hu5]
      refine b_t (by rw [si_eq]; decide) ?_
      rw [mp_0 M, ← nI_z, ← nI_z, nI_mul, nI_add, Nat.mul_comm w b]
      exact m_numberOf M T.1 (T_si T 0).2.2.1 hk ⟨si_eq _ _ _, rfl, R_si R 0⟩
    · unfold wp_Model_pieceOf
      refine b_f e2 ?_
      rw [e_mpl M xa xb ya yb, if_neg ho]
      refine b_t rfl ?_
      unfold jn_Model_pieceOf_26
      intro u5 hu5
      rw [hu5]
      exact b_f (by rw [si_eq]; decide) ⟨si_eq _ _ _, R_si R 2⟩
theorem ob_piece (H : GI w h K G) (M : MI w h K Gm) (R : Rel w h K u v) (x1 x2 : Int32)
    (hr : ∀ r u', wp_Model_piece Gm x1 x2 v (fun r' v' => v'.1 0 = 0 ∧ r' = r ∧ Rel w h K u' v') → Q r u')
    (h0 : ∀ u', wp_Model_piece Gm x1 x2 v (fun r' v' => v'.1 0 = 1 ∧ Rel w h K u' v') → X 0 u')
    (h1 : ∀ u', wp_Model_piece Gm x1 x2 v (fun r' v' => v'.1 0 = 2 ∧ Rel w h K u' v') → X 1 u')
    (h2 : ∀ u', wp_Model_piece Gm x1 x2 v (fun r' v' => v'.1 0 = 3 ∧ Rel w h K u' v') → X 2 u') : wp_PI_piece G x1 x2 u Q X := by
  have B := gB H
  obtain ⟨x, xa, xb, rfl⟩ := zI_of x1
  obtain ⟨y, ya, yb, rfl⟩ := zI_of x2
  unfold wp_PI_piece
  refine g_piece R x xa xb (by omega) (fun fo F c lx mx ly my row p T e hp hxp => ?_) (fun e => h0 u ?_) (fun fo F c lx mx ly my row T e ho => h1 u ?_)
  · have hcN := PS_c T.1
    have e2 := R_v2 R e
    have ec := (PT_c T).2
    have T0 := T_si T 0
    have R0 := R_si R 0
    have hb := CQ_b T.2.2.2.2.1 hp
    have hF := Enu_F T.1.2.1 hp
    have hmp := MP_at T.2.2.1 T.1.2.1 hp
    subst hxp
    rw [← nI_z] at hr h2 ⊢
    have c0 : zI y < 0 ↔ y < 0 := by rw [lz_0]; exact zI_lt ya yb (by omega) (by omega)
    have c6 : 6 < zI y ↔ 6 < y := by rw [lz_6]; exact zI_lt (by omega) (by omega) ya yb
    rw [lz_0, lz_6]
    refine g_number y 0 6 ya yb (by omega) (by omega) (by omega) (by omega) (fun y0 y6 => ?_) (fun ho => h2 u ?_)
    · obtain ⟨n, rfl⟩ := Int.eq_ofNat_of_zero_le y0
      rw [← nI_z] at hr c0 c6 ⊢
      have vs : ∀ a b : Nat, a < 10 → b < 10 → a ≠ b → ¬ nI a = nI b := fun a b _ _ hab q => hab ((nI_eq (by omega) (by omega)).mp q)
      have T00 := T_si T0 0
      have C00 := T00.2.2.1
      have hmp0 := MP_at C00 T.1.2.1 hp
      have base : ∀ (r : Int32), (∀ Q2 : Int32 → pS → Prop, Q2 r (pw_si (pw_si v 0 0) 0 0) → jn_Model_piece_26 Gm Q2 (nI p) (nI n) 0 (pw_si v 0 0)) → Q r u := by
        intro r hrr
        refine hr r u ?_
        unfold wp_Model_piece
        refine m_npok (by omega) e2 ec hp (b_t rfl ?_)
        rw [c0, c6]
        exact b_f (by omega) (b_f (by omega) (hrr _ ⟨si_eq _ _ _, rfl, R_si R0 0⟩))
      have e0 : (pw_si (pw_si v 0 0) 0 0).1 0 ≤ 0 := by rw [si_eq]; decide
      have hn : n = 0 ∨ n = 1 ∨ n = 2 ∨ n = 3 ∨ n = 4 ∨ n = 5 ∨ n = 6 := by omega
      rw [← lz_0]
      rcases hn with rfl | rfl | rfl | rfl | rfl | rfl | rfl
      · refine b_t rfl ?_
        rw [k_woodOf H T.1 T.2.1 hp]
        refine base _ (fun Q2 hq => ?_)
        unfold jn_Model_piece_26
        intro u5 hu5
        rw [hu5, ml_5 M, ml_3 M, nI_clamp (n := p) (by omega), hmp0.1, nI_clamp (n := F p) (by omega)]
        refine b_t e0 (b_f (by decide) (b_t rfl ⟨vp_in_nI (by omega) (by omega), vp_in_nI (by omega) (by omega), ?_⟩))
        rw [T00.2.2.2.1 _ hF.1]; exact hq
      · refine b_f (by decide) (b_t rfl ?_)
        rw [e_size H hcN T.2.2.2.2.2.1 hp]
        refine base _ (fun Q2 hq => ?_)
        unfold jn_Model_piece_26
        intro u5 hu5
        rw [hu5, ml_5 M, ml_6 M, nI_clamp (n := p) (by omega), hmp0.1, nI_clamp (n := F p) (by omega), hmp0.2]
        exact b_t e0 (b_f (by decide) (b_f (by decide) ⟨vp_in_nI (by omega) (by omega), vp_in_nI (by omega) (by omega), hq⟩))
      · refine b_f (by decide) (b_f (by decide) (b_t rfl ?_))
        rw [e_leastX H hcN T.2.2.2.2.2.1 hp]
        refine base _ (fun Q2 hq => ?_)
        unfold jn_Model_piece_26
        intro u5 hu5
        rw [hu5]
        exact b_t e0 (b_t (by decide) (b_f (by decide) (m_end0 M T.1 C00 T.2.2.2.2.1 hp hq)))
      · refine b_f (by decide) (b_f (by decide) (b_f (by decide) (b_t rfl ?_)))
        rw [e_leastY H hcN T.1.2.1 T.2.2.2.2.2.1 hp]
        refine base _ (fun Q2 hq => ?_)
        unfold jn_Model_piece_26
        intro u5 hu5
        rw [hu5]
        exact b_t e0 (b_t (by decide) (b_f (by decide) (m_end1 M T.1 C00 T.2.2.2.2.1 hp hq)))
      · refine b_f (by decide) (b_f (by decide) (b_f (by decide) (b_f (by decide) (b_t rfl ?_))))
        rw [e_cols H hcN T.2.2.2.2.1 T.2.2.2.2.2.1 hp]
        refine base _ (fun Q2 hq => ?_)
        unfold jn_Model_piece_26
        intro u5 hu5
        rw [hu5]
        refine b_t e0 (b_t (by decide) (b_t (by decide) (b_t rfl (m_end2 M T.1 C00 T.2.2.2.2.1 hp (m_end0 M T.1 C00 T.2.2.2.2.1 hp ?_)))))
        rw [nI_sub (by omega), nI_1]; exact hq
      · refine b_f (by decide) (b_f (by decide) (b_f (by decide) (b_f (by decide) (b_f (by decide) (b_t rfl ?_)))))
        rw [e_rows H hcN T.1.2.1 T.2.2.2.2.1 T.2.2.2.2.2.1 hp]
        refine base _ (fun Q2 hq => ?_)
        unfold jn_Model_piece_26
        intro u5 hu5
        rw [hu5]
        refine b_t e0 (b_t (by decide) (b_t (by decide) (b_f (by decide) (b_t rfl (m_end3 M T.1 C00 T.2.2.2.2.1 hp (m_end1 M T.1 C00 T.2.2.2.2.1 hp ?_))))))
        rw [nI_sub (by omega), nI_1]; exact hq
      · refine b_f (by decide) (b_f (by decide) (b_f (by decide) (b_f (by decide) (b_f (by decide) (b_f (by decide) ?_)))))
        rw [e_edge H hcN T.1.2.1 T.2.2.2.2.1 T.2.2.2.2.2.1 hp]
        have big : ∀ r : Int32, r = bI (edg w h lx mx ly my p) → Q r u := by
          intro r hrr
          refine base _ (fun Q2 hq => ?_)
          unfold jn_Model_piece_26
          intro u5 hu5
          rw [hu5]
          refine b_t e0 (b_t (by decide) (b_t (by decide) (b_f (by decide) (b_f (by decide) (m_edge M T.1 C00 T.2.2.2.2.1 hp ?_)))))
          rw [hrr] at hq
          cases ed : edg w h lx mx ly my p <;> rw [ed] at hq
          · exact b_t rfl hq
          · exact b_f (by decide) hq
        cases ed : edg w h lx mx ly my p
        · exact b_t rfl (big 0 (by rw [ed]; rfl))
        · exact b_f (by decide) (big 1 (by rw [ed]; rfl))
    · unfold wp_Model_piece
      refine m_npok (by omega) e2 ec hp (b_t rfl ?_)
      have fin : jn_Model_piece_26 Gm (fun r' v' => v'.1 0 = 3 ∧ Rel w h K u v') (nI p) (zI y) 3 (pw_si v 0 0) := by
        unfold jn_Model_piece_26
        intro u5 hu5
        rw [hu5]
        exact b_f (by rw [si_eq]; decide) ⟨si_eq _ _ _, R_si R0 3⟩
      rw [c0, c6]
      by_cases e1 : y < 0
      · exact b_t e1 fin
      · exact b_f e1 (b_t (by omega) fin)
  · unfold wp_Model_piece
    exact m_np0 (R.2.2.1.mp e) (b_f (by decide) ⟨si_eq _ _ _, R_si R 1⟩)
  · unfold wp_Model_piece
    have hcN := PS_c T.1
    exact m_np2 xa xb (by omega) (R_v2 R e) (PT_c T).2 ho (b_f (by decide) ⟨si_eq _ _ _, R_si R 2⟩)
end
