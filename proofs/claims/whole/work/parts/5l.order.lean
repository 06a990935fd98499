/-! OWN ROWS: order, at, joined, sorted. -/
section
variable {w h K : Nat} {G Gm : pG} {u v : pS}
theorem m_order (M : MI w h K Gm) {f : Nat → Int32} {fo F : Nat → Nat} {c : Nat} {lx mx ly my row : Nat → Nat} (P : PS w h f fo F c) (C : MPw (w * h) fo v) (q : CQ w h fo F c lx mx ly my) (hc : v.1 1 = nI c) (Rk1 : Rk (bef (ltL w h lx mx ly my (fun p => sz fo (w * h) (F p)))) c row) {k : Nat} (hk : k < c) {Q : Int32 → pS → Prop} (hQ : Q (nI (row k)) v) : ∃ n, lp_Model_order_14 Gm Q n (nI k) 0 0 v := by
  have B := mB M
  have hcN := PS_c P
  have hO := Ord_L w h lx mx ly my (fun p => sz fo (w * h) (F p)) c
  generalize hbf : bef (ltL w h lx mx ly my (fun p => sz fo (w * h) (F p))) = bf at *
  have inner : ∀ (k14 : Int32 → Int32 → Int32 → pS → Prop) (a t : Nat), a < c → k14 (nI k) (nI (if cnt (fun b => bf b a) c = k then a else t)) (nI (a + 1)) v → ∀ (d b : Nat), b + d = c → lp_Model_order_28 Gm Q k14 (d + 1) (nI k) (nI t) (nI a) (nI (cnt (fun b => bf b a) b)) (nI b) v := by
    intro k14 a t ha hk14 d
    induction d with
    | zero =>
      intro b hd
      have e : b = c := by omega
      have hcl := cnt_le (fun b => bf b a) b
      unfold lp_Model_order_28
      rw [hc, e, nI_eq (by have := cnt_le (fun b => bf b a) c; omega) (by omega)]
      simp only [forall_eq, nI_1]
      refine b_t (nI_le (by omega) (by omega)) ?_
      by_cases e2 : cnt (fun b => bf b a) c = k
      · rw [if_pos e2] at hk14; exact b_t e2 hk14
      · rw [if_neg e2] at hk14; exact b_f e2 hk14
    | succ d ih =>
      intro b hd
      have hb : b < c := by omega
      unfold lp_Model_order_28
      rw [hc, nI_eq (a := b) (b := a) (by omega) (by omega)]
      simp only [forall_eq, nI_1]
      refine b_f (nI_ge (by omega) (by omega)) ?_
      by_cases e2 : b = a
      · refine b_t e2 ?_
        have := ih (b + 1) (by omega)
        rw [cnt_s, e2, hO.1 a ha] at this
        rw [e2]
        exact this
      · refine b_f e2 ?_
        refine m_before M P C q hb ha ?_
        rw [hbf]
        have := ih (b + 1) (by omega)
        rw [cnt_s] at this
        cases eb : bf b a <;> rw [eb] at this
        · exact b_t rfl this
        · exact b_f (by decide) this
  suffices hl : ∀ (d a t : Nat), a + d = c → (t = if row k < a then row k else 0) → lp_Model_order_14 Gm Q (d + 1) (nI k) (nI t) (nI a) v from
    ⟨c + 1, by rw [li_0]; exact hl c 0 0 (by omega) (by rw [if_neg (Nat.not_lt_zero _)])⟩
  intro d
  induction d with
  | zero =>
    intro a t hd ht
    have hrk := Rk1.1 k hk
    unfold lp_Model_order_14
    rw [if_pos (by omega)] at ht
    exact b_t (by rw [hc]; exact nI_le (by omega) (by omega)) (by rw [ht]; exact hQ)
  | succ d ih =>
    intro a t hd ht
    unfold lp_Model_order_14
    refine b_f (by rw [hc]; exact nI_ge (by omega) (by omega)) ⟨c + 1, ?_⟩
    rw [li_0]
    refine inner _ a t (by omega) (ih (a + 1) _ (by omega) ?_) c 0 (by omega)
    obtain ⟨i, hi, hia⟩ := Rk_surj Rk1 (show a < c by omega)
    have hcn := Rk_cnt hO Rk1 hi
    rw [hia] at hcn
    rw [hcn]
    by_cases e : i = k
    · rw [if_pos e]
      rw [e] at hia
      rw [if_pos (by omega)]; exact hia.symm
    · rw [if_neg e, ht]
      have hne : row k ≠ a := fun q => e (Rk_inj hO Rk1 hi hk (by rw [hia, q]))
      by_cases e3 : row k < a
      · rw [if_pos e3, if_pos (by omega)]
      · rw [if_neg e3, if_neg (by omega)]
variable {Q : Int32 → pS → Prop} {X : Nat → pS → Prop}
theorem ob_order (H : GI w h K G) (M : MI w h K Gm) (R : Rel w h K u v) (x1 : Int32)
    (hr : ∀ r u', wp_Model_order Gm x1 v (fun r' v' => v'.1 0 = 0 ∧ r' = r ∧ Rel w h K u' v') → Q r u')
    (h0 : ∀ u', wp_Model_order Gm x1 v (fun r' v' => v'.1 0 = 1 ∧ Rel w h K u' v') → X 0 u')
    (h1 : ∀ u', wp_Model_order Gm x1 v (fun r' v' => v'.1 0 = 2 ∧ Rel w h K u' v') → X 1 u') : wp_PI_order G x1 u Q X := by
  have B := gB H
  obtain ⟨x, xa, xb, rfl⟩ := zI_of x1
  unfold wp_PI_order
  refine g_piece R x xa xb (by omega) (fun fo F c lx mx ly my row p T e hp hxp => ?_) (fun e => h0 u ?_) (fun fo F c lx mx ly my row T e ho => h1 u ?_)
  · have hcN := PS_c T.1
    subst hxp
    rw [← nI_z] at hr ⊢
    obtain ⟨t1, t2, t3, t4, t5, t6, t7, t8, t9, t10⟩ := id T
    have T0 := T_si T 0
    unfold wp_Ranking_ranked_laying
    rw [gl_30 H, nI_clamp (n := p) (by omega), t8 p hp]
    refine ⟨vp_in_nI (by omega) (by omega), hr _ _ ?_⟩
    unfold wp_Model_order
    refine m_npok (by omega) (R_v2 R e) (PT_c T).2 hp (b_t rfl ?_)
    exact m_order M t1 T0.2.2.1 t5 (PT_c T0).2 t7 hp ⟨si_eq _ _ _, rfl, R_si R 0⟩
  · unfold wp_Model_order
    exact m_np0 (R.2.2.1.mp e) (b_f (by decide) ⟨si_eq _ _ _, R_si R 1⟩)
  · unfold wp_Model_order
    have hcN := PS_c T.1
    exact m_np2 xa xb (by omega) (R_v2 R e) (PT_c T).2 ho (b_f (by decide) ⟨si_eq _ _ _, R_si R 2⟩)
theorem ob_at (H : GI w h K G) (M : MI w h K Gm) (R : Rel w h K u v) (x1 x2 : Int32)
    (hr : ∀ r u', wp_Model_at Gm x1 x2 v (fun r' v' => v'.1 0 = 0 ∧ r' = r ∧ Rel w h K u' v') → Q r u')
    (h0 : ∀ u', wp_Model_at Gm x1 x2 v (fun r' v' => v'.1 0 = 1 ∧ Rel w h K u' v') → X 0 u')
    (h1 : ∀ u', wp_Model_at Gm x1 x2 v (fun r' v' => v'.1 0 = 2 ∧ Rel w h K u' v') → X 1 u') : wp_PI_at G x1 x2 u Q X := by
  have B := gB H
  obtain ⟨x, xa, xb, rfl⟩ := zI_of x1
  obtain ⟨y, ya, yb, rfl⟩ := zI_of x2
  have f1 : ∀ k : Int32, ¬ k ≤ 0 → jn_Model_at_45 Gm (fun r' v' => v'.1 0 = k ∧ Rel w h K u v') (zI x) (zI y) k v := by
    intro k hk
    unfold jn_Model_at_45
    intro u2 hu2
    rw [hu2]
    exact b_f (by rw [si_eq]; exact hk) ⟨si_eq _ _ _, R_si R k⟩
  have par : u.1 0 = 0 → wp_Model_at Gm (zI x) (zI y) v (fun r' v' => v'.1 0 = 1 ∧ Rel w h K u v') := by
    intro e
    unfold wp_Model_at
    exact b_t (R.2.2.1.mp e) (f1 1 (by decide))
  have cx : zI x < 0 ↔ x < 0 := by rw [lz_0]; exact zI_lt xa xb (by omega) (by omega)
  have cy : zI y < 0 ↔ y < 0 := by rw [lz_0]; exact zI_lt ya yb (by omega) (by omega)
  have cy1 : zI y ≤ 1 ↔ y ≤ 1 := by rw [lz_1]; exact zI_le ya yb (by omega) (by omega)
  unfold wp_PI_at wp_PI_needNested
  refine ⟨fun en => h0 u ?_, fun en => ?_⟩
  · by_cases e : u.1 0 = 0
    · exact par e
    · obtain ⟨fo, F, c, lx, mx, ly, my, row, T⟩ := R.2.2.2 e
      unfold wp_Model_at
      exact b_f (R_v2 R e) (b_t (T.2.2.2.2.2.2.2.2.1.mp en) (f1 1 (by decide)))
  · refine g_piece R x xa xb (by omega) (fun fo F c lx mx ly my row p T e hp hxp => ?_) (fun e => h0 u (par e)) (fun fo F c lx mx ly my row T e ho => h1 u ?_)
    · have hcN := PS_c T.1
      obtain ⟨t1, t2, t3, t4, t5, t6, t7, t8, t9, t10⟩ := id T
      have en2 : ¬ v.1 4 = 0 := fun q => en (t9.mpr q)
      rw [show (2 : Int32) = nI 2 from li_2]
      refine g_index y 2 ya yb (by omega) (fun y0 y2 => ?_) (fun ho => h1 u ?_)
      · have start : ∀ (Q2 : Int32 → pS → Prop), jn_Model_at_45 Gm Q2 (zI x) (zI y) 0 v → wp_Model_at Gm (zI x) (zI y) v Q2 := by
          intro Q2 hq
          unfold wp_Model_at
          rw [cx, cy, cy1]
          refine b_f (R_v2 R e) (b_f en2 (b_f (by omega) (b_f ?_ (b_f (by omega) (b_t (by omega) hq)))))
          rw [(PT_c T).2, nI_z, zI_le (by omega) (by omega) xa xb]; omega
        have tt := t10 en p hp
        have hv : vp_in (zI x) (w * h) := by rw [hxp, ← nI_z]; exact vp_in_nI (by omega) (by omega)
        have hv4 : vp_in (zI x) 400 := by rw [hxp, ← nI_z]; exact vp_in_nI (by omega) (by omega)
        have hcl : (zI x).toNatClampNeg = p := by rw [hxp, ← nI_z]; exact nI_clamp (by omega)
        have hy : zI y = 0 ↔ y = 0 := by rw [lz_0]; exact zI_eq ya yb (by omega) (by omega)
        unfold wp_Sheet_xOf wp_Sheet_yOf
        rw [gl_35 H, gl_36 H, hcl, hy]
        refine ⟨fun ey => ⟨hv, hr _ _ (start _ ?_)⟩, fun ey => ⟨hv, hr _ _ (start _ ?_)⟩⟩
        · unfold jn_Model_at_45
          intro u2 hu2
          rw [hu2, ml_10 M, ml_11 M, hcl, hy]
          refine b_t (by rw [si_eq]; decide) (b_t ey ⟨hv4, si_eq _ _ _, ?_, R_si R 0⟩)
          rw [si_a, tt.1]
        · unfold jn_Model_at_45
          intro u2 hu2
          rw [hu2, ml_10 M, ml_11 M, hcl, hy]
          refine b_t (by rw [si_eq]; decide) (b_f ey ⟨hv4, si_eq _ _ _, ?_, R_si R 0⟩)
          rw [si_a, tt.2]
      · unfold wp_Model_at
        rw [cx, cy, cy1]
        refine b_f (R_v2 R e) (b_f en2 (b_f (by omega) (b_f ?_ ?_)))
        · rw [(PT_c T).2, nI_z, zI_le (by omega) (by omega) xa xb]; omega
        · by_cases e1 : y < 0
          · exact b_t e1 (f1 2 (by decide))
          · exact b_f e1 (b_f (by omega) (f1 2 (by decide)))
    · have hcN := PS_c T.1
      have en2 : ¬ v.1 4 = 0 := fun q => en (T.2.2.2.2.2.2.2.2.1.mpr q)
      unfold wp_Model_at
      rw [cx]
      refine b_f (R_v2 R e) (b_f en2 ?_)
      by_cases e1 : x < 0
      · exact b_t e1 (f1 2 (by decide))
      · refine b_f e1 (b_t ?_ (f1 2 (by decide)))
        rw [(PT_c T).2, nI_z, zI_le (by omega) (by omega) xa xb]; omega
theorem m_joined (M : MI w h K Gm) {f : Nat → Int32} {fo F : Nat → Nat} {c a b : Nat} (P : PS w h f fo F c) (C : MPw (w * h) fo v) (ha : a < c) (hb : b < c) {Q : Int32 → pS → Prop} (hQ : Q (nI (sh w h fo (F a) (F b))) v) : ∃ n, lp_Model_joined_23 Gm Q n (nI a) (nI b) 0 0 v := by
  have B := mB M
  have hcN := PS_c P
  have hFa := Enu_F P.2.1 ha
  have hFb := Enu_F P.2.1 hb
  have ma := MP_at C P.2.1 ha
  have mb := MP_at C P.2.1 hb
  have inner : ∀ (k23 : Int32 → Int32 → Int32 → Int32 → pS → Prop) (k : Nat), k < w * h → k23 (nI a) (nI b) (nI (cnt (sd w h fo (F a) (F b)) (4 * (k + 1)))) (nI (k + 1)) v → ∀ (d s : Nat), s + d = 4 → lp_Model_joined_40 Gm Q k23 (d + 1) (nI a) (nI b) (nI (cnt (sd w h fo (F a) (F b)) (4 * k + s))) (nI k) (nI s) v := by
    intro k23 k hk hk23 d
    have hfk := fo_le P.1 hk
    induction d with
    | zero =>
      intro s hd
      have e : s = 4 := by omega
      unfold lp_Model_joined_40
      simp only [forall_eq, nI_1]
      refine b_t (by rw [e, li_4]; exact nI_le (by omega) (by omega)) ?_
      rw [e]; exact hk23
    | succ d ih =>
      intro s hd
      have nxt := ih (s + 1) (by omega)
      rw [← Nat.add_assoc, cnt_s, sd_at (by omega)] at nxt
      unfold lp_Model_joined_40
      rw [bf (by rw [li_4]; exact nI_ge (by omega) (by omega)), e_mbes M hk (by omega), ml_4 M, ml_5 M]
      simp only [forall_eq, nI_1]
      rw [nI_eq (a := a) (b := b) (by omega) (by omega), nI_clamp (n := k) (by omega), nI_clamp (n := a) (by omega), nI_clamp (n := b) (by omega), C.1 k hk, ma.1, mb.1, nI_eq (a := fo k) (by omega) (by omega)]
      by_cases eab : a = b
      · refine b_t eab ?_
        have : ((fo k == F a) && (decide (0 ≤ bs w h k s) && (!(fo (bs w h k s).toNat == F a) && (fo (bs w h k s).toNat == F b)))) = false := by
          rw [eab]
          cases (fo (bs w h k s).toNat == F b) <;> simp
        rw [this] at nxt
        exact nxt
      · refine b_f eab ?_
        rcases bs_cases hk (show s < 4 by omega) with hbn | ⟨j, hj, hbj, _⟩
        · rw [hbn, ← lz_m1]
          refine b_t (by decide) ?_
          rw [hbn] at nxt
          simp at nxt
          exact nxt
        · have hfj := fo_le P.1 hj
          rw [hbj, ← nI_z, nI_clamp (n := j) (by omega), C.1 j hj, nI_eq (a := fo j) (by omega) (by omega)]
          rw [hbj, Int.toNat_natCast] at nxt
          refine b_f (nI_pos (by omega)) ⟨vp_in_nI (by omega) (by omega), vp_in_nI (by omega) (by omega), ?_⟩
          by_cases e1 : fo k = F a
          · refine b_t e1 ⟨vp_in_nI (by omega) (by omega), vp_in_nI (by omega) (by omega), ?_⟩
            by_cases e2 : fo j = F b
            · refine b_t e2 ?_
              have hne : F b ≠ F a := fun q => eab (Enu_inj P.2.1 hb ha q).symm
              have : ((fo k == F a) && (decide (0 ≤ (j : Int)) && (!(fo j == F a) && (fo j == F b)))) = true := by
                rw [e1, e2]; simp [hne]
              rw [this] at nxt
              exact nxt
            · refine b_f e2 ?_
              simp [e2] at nxt; exact nxt
          · refine b_f e1 ?_
            simp [e1] at nxt; exact nxt
  suffices hl : ∀ (d k : Nat), k + d = w * h → lp_Model_joined_23 Gm Q (d + 1) (nI a) (nI b) (nI (cnt (sd w h fo (F a) (F b)) (4 * k))) (nI k) v from
    ⟨w * h + 1, by rw [li_0]; exact hl (w * h) 0 (by omega)⟩
  intro d
  induction d with
  | zero =>
    intro k hd
    have e : k = w * h := by omega
    unfold lp_Model_joined_23
    refine b_t (by rw [mp_0 M, mp_1 M, nI_mul]; exact nI_le (by omega) (by omega)) ?_
    rw [e]; exact hQ
  | succ d ih =>
    intro k hd
    unfold lp_Model_joined_23
    refine b_f (by rw [mp_0 M, mp_1 M, nI_mul]; exact nI_ge (by omega) (by omega)) ⟨4 + 1, ?_⟩
    rw [li_0]
    exact inner _ k (by omega) (ih (k + 1) (by omega)) 4 0 (by omega)
theorem ob_joined (H : GI w h K G) (M : MI w h K Gm) (R : Rel w h K u v) (x1 x2 : Int32)
    (hr : ∀ r u', wp_Model_joined Gm x1 x2 v (fun r' v' => v'.1 0 = 0 ∧ r' = r ∧ Rel w h K u' v') → Q r u')
    (h0 : ∀ u', wp_Model_joined Gm x1 x2 v (fun r' v' => v'.1 0 = 1 ∧ Rel w h K u' v') → X 0 u')
    (h1 : ∀ u', wp_Model_joined Gm x1 x2 v (fun r' v' => v'.1 0 = 2 ∧ Rel w h K u' v') → X 1 u') : wp_PI_joined G x1 x2 u Q X := by
  have B := gB H
  obtain ⟨x, xa, xb, rfl⟩ := zI_of x1
  obtain ⟨y, ya, yb, rfl⟩ := zI_of x2
  unfold wp_PI_joined
  refine g_piece R x xa xb (by omega) (fun fo F c lx mx ly my row a T e ha hxa => ?_) (fun e => h0 u ?_) (fun fo F c lx mx ly my row T e ho => h1 u ?_)
  · have hcN := PS_c T.1
    have T0 := T_si T 0
    have hc0 := (PT_c T0).2
    have e20 : ¬ (pw_si v 0 0).1 2 = 0 := R_v2 (R_si R 0) e
    unfold wp_PI_needPiece wp_PI_needParted
    refine b_f e ?_
    dsimp only
    rw [(PT_c T).1]
    refine g_index y c ya yb (by omega) (fun b1 b2 => ?_) (fun ho => h1 u ?_)
    · obtain ⟨b, rfl⟩ := Int.eq_ofNat_of_zero_le b1
      have hb : b < c := by omega
      subst hxa
      rw [← nI_z, ← nI_z] at hr ⊢
      unfold wp_Pieces_sidesBetween
      refine k_countSidesOf H T.1 T.2.1 ha ?_
      intro u1 f1 h9
      rw [gl_23 H, nI_clamp (n := b) (by omega), h9 b hb]
      refine ⟨vp_in_nI (by omega) (by omega), hr _ _ ?_⟩
      unfold wp_Model_joined
      refine m_npok (by omega) (R_v2 R e) (PT_c T).2 ha (b_t rfl (m_npok (by omega) e20 hc0 hb (b_t rfl ?_)))
      exact m_joined M T.1 (T_si T0 0).2.2.1 ha hb ⟨si_eq _ _ _, rfl, Rel_fr R (fr_mono f1 (by decide) (by decide)) (fr_si _ (by decide) (fr_si _ (by decide) (fr_refl _ _ _)))⟩
    · subst hxa
      unfold wp_Model_joined
      rw [← nI_z]
      refine m_npok (by omega) (R_v2 R e) (PT_c T).2 ha (b_t rfl (m_np2 ya yb (by omega) e20 hc0 ho (b_f (by decide) ⟨si_eq _ _ _, R_si (R_si R 0) 2⟩)))
  · unfold wp_Model_joined
    exact m_np0 (R.2.2.1.mp e) (b_f (by decide) ⟨si_eq _ _ _, R_si R 1⟩)
  · unfold wp_Model_joined
    have hcN := PS_c T.1
    exact m_np2 xa xb (by omega) (R_v2 R e) (PT_c T).2 ho (b_f (by decide) ⟨si_eq _ _ _, R_si R 2⟩)
end
