/-! OWN ROWS: kind, part. -/
section
variable {w h K : Nat} {G Gm : pG} {u v : pS} {Q : Int32 → pS → Prop} {X : Nat → pS → Prop}
theorem ob_kind (H : GI w h K G) (M : MI w h K Gm) (R : Rel w h K u v) (x1 x3 x4 x5 : Int32)
    (hr : ∀ r u', wp_Model_kind Gm x1 x3 x4 x5 v (fun r' v' => v'.1 0 = 0 ∧ r' = r ∧ Rel w h K u' v') → Q r u')
    (h1 : ∀ u', wp_Model_kind Gm x1 x3 x4 x5 v (fun r' v' => v'.1 0 = 1 ∧ Rel w h K u' v') → X 1 u')
    (h2 : ∀ u', wp_Model_kind Gm x1 x3 x4 x5 v (fun r' v' => v'.1 0 = 2 ∧ Rel w h K u' v') → X 2 u') : wp_PI_kind G x1 x3 x4 x5 u Q X := by
  have B := gB H
  obtain ⟨x, xa, xb, rfl⟩ := zI_of x1
  obtain ⟨r, ra, rb, rfl⟩ := zI_of x3
  obtain ⟨g, ga, gb, rfl⟩ := zI_of x4
  obtain ⟨b, ba, bb, rfl⟩ := zI_of x5
  unfold wp_PI_kind
  rw [gp_0 H]
  refine g_index x K xa xb (by omega) (fun p1 p2 => ?_) (fun ho => h1 u ?_)
  · obtain ⟨k, rfl⟩ := Int.eq_ofNat_of_zero_le p1
    have hk : k < K := by omega
    rw [← nI_z] at hr h1 h2 ⊢
    refine g_colour r g b ⟨ra, rb⟩ ⟨ga, gb⟩ ⟨ba, bb⟩ (fun cr cg cb => ?_) (fun ho => h2 u ?_)
    · have hrel := R.2.1 k hk
      have hv1 : vp_in (nI k) K := vp_in_nI hk (by omega)
      have hmod : ∀ (Q2 : Int32 → pS → Prop), (jn_Model_kind_44 Gm Q2 (nI k) (zI r) (zI g) (zI b) 0 v) → wp_Model_kind Gm (nI k) (zI r) (zI g) (zI b) v Q2 := by
        intro Q2 hq
        unfold wp_Model_kind
        rw [mp_2 M]
        refine b_f (nI_pos (by omega)) (b_t (nI_lt hk (by omega)) ?_)
        rw [e_mcol ra rb, if_pos cr]
        refine b_f (by decide) ?_
        rw [e_mcol ga gb, if_pos cg]
        refine b_f (by decide) ?_
        rw [e_mcol ba bb, if_pos cb]
        exact b_f (by decide) hq
      have hm42 : ∀ (Q2 : Int32 → pS → Prop), ((u.2 3 k = zI r ∧ u.2 4 k = zI g ∧ u.2 5 k = zI b) → Q2 0 (pw_si v 0 0)) → (¬ (u.2 3 k = zI r ∧ u.2 4 k = zI g ∧ u.2 5 k = zI b) → Q2 1 (pw_si (pw_sa (pw_si v 0 0) 1 (upd (upd (upd (v.2 1) (3 * k) (zI r)) (3 * k + 1) (zI g)) (3 * k + 2) (zI b))) 2 0)) → jn_Model_kind_44 Gm Q2 (nI k) (zI r) (zI g) (zI b) 0 v := by
        intro Q2 q1 q2
        unfold jn_Model_kind_44
        rw [ml_2 M, li_3, nI_mul]
        simp only [forall_eq]
        rw [nI_clamp (n := 3 * k) (by omega), nI_1, nI_clamp (n := 3 * k + 1) (by omega), li_2, nI_add, nI_clamp (n := 3 * k + 2) (by omega)]
        refine b_t (by rw [si_eq]; decide) ⟨vp_in_nI (by omega) (by omega), ?_⟩
        rw [si_a, hrel.1, hrel.2.1, hrel.2.2]
        refine t3 (vp_in_nI (by omega) (by omega)) (vp_in_nI (by omega) (by omega)) (fun a b c => q1 ⟨a, b, c⟩) (fun hn => ?_)
        unfold jn_Model_kind_99
        rw [ml_2 M, li_3, nI_mul]
        simp only [forall_eq]
        rw [nI_clamp (n := 3 * k) (by omega), nI_1, nI_clamp (n := 3 * k + 1) (by omega), li_2, nI_add, nI_clamp (n := 3 * k + 2) (by omega)]
        refine ⟨vp_in_nI (by omega) (by omega), vp_in_nI (by omega) (by omega), vp_in_nI (by omega) (by omega), ?_⟩
        have hq := q2 hn
        simp only [sa_eq, si_a]
        have eqs : pw_sa (pw_sa (pw_sa (pw_si v 0 0) 1 (upd (v.2 1) (3 * k) (zI r))) 1 (upd (upd (v.2 1) (3 * k) (zI r)) (3 * k + 1) (zI g))) 1 (upd (upd (upd (v.2 1) (3 * k) (zI r)) (3 * k + 1) (zI g)) (3 * k + 2) (zI b)) = pw_sa (pw_si v 0 0) 1 (upd (upd (upd (v.2 1) (3 * k) (zI r)) (3 * k + 1) (zI g)) (3 * k + 2) (zI b)) := by
          unfold pw_sa
          refine Prod.ext rfl ?_
          funext j
          unfold va_up
          by_cases ej : j = 1
          · simp [ej]
          · simp [ej]
        rw [eqs]
        exact hq
      unfold wp_Colours_tell_woods
      rw [gl_17 H, gl_18 H, gl_19 H, nI_clamp (n := k) (by omega)]
      refine b_f (nI_pos (by omega)) (b_f (nI_ge hk (by omega)) ⟨hv1, ?_⟩)
      refine t3 hv1 hv1 (fun a1 a2 a3 => ?_) (fun hn => ?_)
      · refine told_0 ⟨rfl, hr 0 u ?_⟩
        refine hmod _ (hm42 _ (fun _ => ⟨?_, rfl, ?_⟩) (fun q => absurd ⟨a1, a2, a3⟩ q))
        · rw [si_eq]
        · exact Rel_v R (fr_si _ (by decide) (fr_refl _ _ _))
      · unfold jn_Colours_tell_woods_46
        rw [gl_17 H, gl_18 H, gl_19 H, nI_clamp (n := k) (by omega)]
        simp only [forall_eq]
        refine ⟨hv1, hv1, hv1, ?_⟩
        refine told_1 ⟨rfl, hr 1 _ ?_⟩
        refine hmod _ (hm42 _ (fun q => absurd q hn) (fun _ => ⟨?_, rfl, ?_⟩))
        · rw [si_ne _ _ (by decide), sa_i, si_eq]
        · refine ⟨fun j hj => ?_, fun j hj => ?_, ?_, ?_⟩
          · simp (disch := decide) only [si_a, sa_ne]
            exact R.1 j hj
          · simp (disch := decide) only [si_a, sa_eq, sa_ne]
            by_cases ej : j = k
            · rw [ej, upd_eq, upd_eq, upd_eq, upd_ne _ _ (by omega), upd_ne _ _ (by omega), upd_eq, upd_ne _ _ (by omega), upd_eq, upd_eq]
              exact ⟨rfl, rfl, rfl⟩
            · rw [upd_ne _ _ ej, upd_ne _ _ ej, upd_ne _ _ ej, upd_ne _ _ (by omega), upd_ne _ _ (by omega), upd_ne _ _ (by omega), upd_ne _ _ (by omega), upd_ne _ _ (by omega), upd_ne _ _ (by omega), upd_ne _ _ (by omega), upd_ne _ _ (by omega), upd_ne _ _ (by omega)]
              exact R.2.1 j hj
          · simp (disch := decide) only [si_eq, si_ne]
          · intro q
            exfalso
            apply q
            simp (disch := decide) only [si_eq, si_ne]
    · unfold wp_Model_kind
      have fin : jn_Model_kind_44 Gm (fun r' v' => v'.1 0 = 2 ∧ Rel w h K u v') (nI k) (zI r) (zI g) (zI b) 2 v := by
        unfold jn_Model_kind_44
        intro u7 hu7
        refine b_f (by rw [hu7, si_eq]; decide) ⟨by rw [hu7, si_eq], ?_⟩
        rw [hu7]; exact Rel_v R (fr_si _ (by decide) (fr_refl _ _ _))
      rw [mp_2 M]
      refine b_f (nI_pos (by omega)) (b_t (nI_lt hk (by omega)) ?_)
      rw [e_mcol ra rb]
      by_cases c1 : 0 ≤ r ∧ r ≤ 255
      · rw [if_pos c1]
        refine b_f (by decide) ?_
        rw [e_mcol ga gb]
        by_cases c2 : 0 ≤ g ∧ g ≤ 255
        · rw [if_pos c2]
          refine b_f (by decide) ?_
          rw [e_mcol ba bb, if_neg (fun c3 => ho ⟨c1, c2, c3⟩)]
          exact b_t rfl fin
        · rw [if_neg c2]; exact b_t rfl fin
      · rw [if_neg c1]; exact b_t rfl fin
  · have fin : jn_Model_kind_44 Gm (fun r' v' => v'.1 0 = 1 ∧ Rel w h K u v') (zI x) (zI r) (zI g) (zI b) 1 v := by
      unfold jn_Model_kind_44
      intro u7 hu7
      refine b_f (by rw [hu7, si_eq]; decide) ⟨by rw [hu7, si_eq], ?_⟩
      rw [hu7]; exact Rel_v R (fr_si _ (by decide) (fr_refl _ _ _))
    unfold wp_Model_kind
    rw [mp_2 M, lz_0, nI_z K, zI_lt xa xb (by omega) (by omega), zI_lt xa xb (by omega) (by omega)]
    by_cases e1 : x < 0
    · exact b_t e1 fin
    · exact b_f e1 (b_f (by omega) fin)
theorem ds_mds (R : Rel w h K u v) {k j : Nat} (hk : k < w * h) (hj : j < K) : mds v k j = ds u k j := by
  unfold mds ds
  have a := R.1 k hk
  have b := R.2.1 j hj
  rw [a.1, a.2.1, a.2.2, b.1, b.2.1, b.2.2]
theorem amz_congr {g g' : Nat → Int32} {n b : Nat} (e : ∀ j, j < n → g j = g' j) (m : amz g n b) : amz g' n b := by
  obtain ⟨m1, m2, m3⟩ := m
  refine ⟨m1, fun p hp => ?_, fun p hp => ?_⟩
  · rw [← e b m1, ← e p hp]; exact m2 p hp
  · rw [← e b m1, ← e p (by omega)]; exact m3 p hp
theorem ob_part (H : GI w h K G) (M : MI w h K Gm) (R : Rel w h K u v) (x1 : Int32)
    (hr : ∀ r u', wp_Model_part Gm x1 v (fun r' v' => v'.1 0 = 0 ∧ r' = r ∧ Rel w h K u' v') → Q r u')
    (h2 : ∀ u', wp_Model_part Gm x1 v (fun r' v' => v'.1 0 = 1 ∧ Rel w h K u' v') → X 2 u') : wp_PI_part G x1 u Q X := by
  have B := gB H
  obtain ⟨x, xa, xb, rfl⟩ := zI_of x1
  unfold wp_PI_part
  rw [lz_1, lz_400]
  refine g_number x 1 400 xa xb (by omega) (by omega) (by omega) (by omega) (fun p1 p2 => ?_) (fun ho => h2 u ?_)
  · obtain ⟨le, rfl⟩ := Int.eq_ofNat_of_zero_le (show 0 ≤ x by omega)
    rw [← nI_z] at hr ⊢
    rw [gp_0 H]
    refine k_make H (by omega) ?_
    intro u2 f0 n fo F c f2 h0 hJ P C
    have hcN := PS_c P
    obtain ⟨lx, mx, ly, my, q, A⟩ := CQ_ex P C
    have hc2 : u2.1 2 = nI c := by rw [C.2.1, P.2.1.1]
    rw [hc2]
    refine k_rank_laying H hcN (Ord_L w h lx mx ly my (fun p => sz fo (w * h) (F p)) c) (fun u a b Q hf ha hb hQ => k_cmpL H hcN P.2.1 q (CA_fr A hf) ha hb hQ) ?_
    intro u3 row f3 Rk3 a16 u4 hu4 u5 hu5
    have f35 : fr [16] [0, 1] u2 u5 := by
      rw [hu5, hu4]; exact fr_si _ (by decide) (fr_si _ (by decide) (fr_mono f3 (by decide) (by decide)))
    have e5 : u5.1 2 = nI c := by rw [f35.2 2 (by decide)]; exact hc2
    rw [e5]
    refine hr _ _ ?_
    refine m_part M (fg := fo) (by omega) (by omega) P.1 hJ (fun k hk => ?_) ?_
    · obtain ⟨b, b1, b2⟩ := h0 k hk
      exact ⟨b, b1, amz_congr (fun j hj => (ds_mds R hk hj).symm) b2⟩
    · intro v5 g5 k5 c0 c2 c4 MP5
      have fu : fr [6, 7, 8, 9, 10, 11, 12, 13, 14, 16] [0, 1, 2] u u5 := fr_trans (fr_mono f2 (by decide) (by decide)) (fr_mono f35 (by decide) (by decide))
      have e6 : u5.2 6 = u2.2 6 := f35.1 6 (by decide)
      have z0 : u5.1 0 = 1 := by rw [hu5, si_ne _ _ (by decide), hu4, si_eq, ← lz_1]
      have z1 : u5.1 1 = 0 := by rw [hu5, si_eq]
      refine ⟨c0, by rw [MP5.2.1, ← P.2.1.1], ?_, ?_, ?_, ?_⟩
      · rw [fu.1 0 (by decide), fu.1 1 (by decide), fu.1 2 (by decide), g5.1 0 (by decide)]; exact R.1
      · rw [fu.1 3 (by decide), fu.1 4 (by decide), fu.1 5 (by decide), g5.1 1 (by decide)]; exact R.2.1
      · rw [z0, c2]
      · intro _
        refine ⟨fo, F, c, lx, mx, ly, my, row, by rw [e6]; exact P, CPw_fr C f35, MP5, by rw [e6]; exact k5, q, CA_fr A f35, Rk3, fun j hj => ?_, by rw [z1, c4], fun qn => absurd z1 qn⟩
        rw [hu5, hu4, si_a, si_a]; exact a16 j hj
  · unfold wp_Model_part
    have fin : ∀ u2 : pS, u2 = pw_si v 0 1 → (u2.1 0 ≤ 0 → ∃ n1, lp_Model_part_32 Gm (fun r' v' => v'.1 0 = 1 ∧ Rel w h K u v') n1 (zI x) 0 u2) ∧ (¬ u2.1 0 ≤ 0 → (u2.1 0 = 1 ∧ Rel w h K u u2)) := by
      intro u2 hu2
      refine b_f (by rw [hu2, si_eq]; decide) ⟨by rw [hu2, si_eq], ?_⟩
      rw [hu2]; exact Rel_v R (fr_si _ (by decide) (fr_refl _ _ _))
    have c1 : zI x < 1 ↔ x < 1 := by rw [lz_1]; exact zI_lt xa xb (by omega) (by omega)
    have c2 : 400 < zI x ↔ 400 < x := by rw [lz_400]; exact zI_lt (by omega) (by omega) xa xb
    rw [c1, c2]
    by_cases e1 : x < 1
    · exact b_t e1 fin
    · exact b_f e1 (b_t (by omega) fin)
end
