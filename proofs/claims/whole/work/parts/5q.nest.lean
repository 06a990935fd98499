/-! OWN ROWS: nest agrees. -/
section
variable {w h K : Nat} {G Gm : pG}
theorem m_pick (M : MI w h K G) {v : pS} {f : Nat → Int32} {fo F : Nat → Nat} {c k : Nat} {lx mx ly my row : Nat → Nat} (P : PS w h f fo F c) (C : MPw (w * h) fo v) (hc : v.1 1 = nI c) (q : CQ w h fo F c lx mx ly my) (R : Rk (bef (ltH lx mx ly my)) c row) (hk : k < c) {x1 x2 x3 x4 x5 : Int32} (hl0 : k = 0 → x4 = -1) (hl1 : 0 < k → x4 = nI (row (k - 1))) {Q : Int32 → pS → Prop} {k98 : Int32 → Int32 → Int32 → Int32 → Int32 → pS → Prop}
    (hQ : wp_Model_lay G (nI (row k)) x1 x2 v (fun r11 u10 => (r11 = 0 → (∀ t13 : Int32, t13 = x5 + 1 → k98 x1 x2 x3 (nI (row k)) t13 u10)) ∧ (¬ r11 = 0 → (∀ t14 : Int32, t14 = (x3 + 1) → ∀ t15 : Int32, t15 = x5 + 1 → k98 x1 x2 t14 (nI (row k)) t15 u10)))) :
    ∀ (d p : Nat) (x : Int32), p + d = c → ((x = -1 ∧ ∀ p', p' < p → ∀ i, k ≤ i → i < c → row i ≠ p') ∨ ∃ j, x = nI (row j) ∧ row j < p ∧ k ≤ j ∧ j < c ∧ ∀ i, k ≤ i → i < c → row i < p → j ≤ i) → lp_Model_nest_113 G Q k98 (d + 1) x1 x2 x3 x4 x5 x (nI p) v := by
  have B := mB M
  have hcN := PS_c P
  have hO := Ord_H lx mx ly my c
  intro d
  induction d with
  | zero =>
    intro p x hd hx
    have e : p = c := by omega
    have hrk := R.1 k hk
    unfold lp_Model_nest_113
    rw [hc]
    refine b_t (nI_le (by omega) (by omega)) ?_
    have hxk : x = nI (row k) := by
      rcases hx with ⟨_, hx⟩ | ⟨j, hx, h1, h2, h3, h4⟩
      · exact absurd rfl (hx (row k) (by omega) k (Nat.le_refl _) hk)
      · have := h4 k (Nat.le_refl _) hk (by omega)
        rw [hx, show j = k by omega]
    rw [hxk]; exact hQ
  | succ d ih =>
    intro p x hd hx
    have hp : p < c := by omega
    obtain ⟨i, hi, hip⟩ := Rk_surj R hp
    have hri := R.1 i hi
    have not_beh : ¬ k ≤ i → (lp_Model_nest_113 G Q k98 (d + 1) x1 x2 x3 x4 x5 x (nI (p + 1)) v) := by
      intro hn
      refine ih (p + 1) x (by omega) ?_
      have hne : ∀ i', k ≤ i' → i' < c → row i' ≠ p := by
        intro i' h1 h2 e
        have := Rk_inj hO R h2 hi (by rw [e, hip])
        omega
      rcases hx with ⟨hx0, hx⟩ | ⟨j, hx, h1, h2, h3, h4⟩
      · refine Or.inl ⟨hx0, fun p' hp' i' a1 a2 => ?_⟩
        by_cases e : p' = p
        · rw [e]; exact hne i' a1 a2
        · exact hx p' (by omega) i' a1 a2
      · refine Or.inr ⟨j, hx, by omega, h2, h3, fun i' a1 a2 a3 => h4 i' a1 a2 ?_⟩
        have := hne i' a1 a2
        omega
    have beh : k ≤ i → jn_Model_nest_150 G Q (lp_Model_nest_113 G Q k98 (d + 1)) x1 x2 x3 x4 x5 x (nI p) 1 v := by
      intro hki
      unfold jn_Model_nest_150
      refine b_f (by decide) ?_
      simp only [forall_eq, nI_1]
      rcases hx with ⟨hx0, hx⟩ | ⟨j, hx, h1, h2, h3, h4⟩
      · refine b_t (by rw [hx0]; decide) (ih (p + 1) _ (by omega) (Or.inr ⟨i, by rw [hip], by omega, hki, hi, fun i' a1 a2 a3 => ?_⟩))
        by_cases e : row i' = p
        · rw [Rk_inj hO R a2 hi (by rw [e, hip])]; exact Nat.le_refl _
        · exact absurd rfl (hx (row i') (by omega) i' a1 a2)
      · rw [hx]
        have hrj := R.1 j h3
        refine b_f (nI_pos (by omega)) ?_
        refine m_laid M P C q hp hrj ?_
        have hij : i ≠ j := fun e => by rw [e] at hip; omega
        cases eb : bef (ltH lx mx ly my) p (row j) with
        | false =>
          refine b_t rfl (ih (p + 1) _ (by omega) (Or.inr ⟨j, rfl, by omega, h2, h3, fun i' a1 a2 a3 => ?_⟩))
          by_cases e : row i' = p
          · have ei : i' = i := Rk_inj hO R a2 hi (by rw [e, hip])
            rcases Nat.lt_or_ge i j with hlt | hge
            · have := R.2.2 i j hlt h3
              rw [hip, eb] at this
              exact absurd this (by decide)
            · omega
          · exact h4 i' a1 a2 (by omega)
        | true =>
          refine b_f (by decide) (ih (p + 1) _ (by omega) (Or.inr ⟨i, by rw [hip], by omega, hki, hi, fun i' a1 a2 a3 => ?_⟩))
          have hlt : i < j := by
            rcases Nat.lt_or_ge i j with hlt | hge
            · exact hlt
            · have h5 := R.2.2 j i (by omega) hi
              rw [hip] at h5
              have h6 := hO.2 _ _ _ hp hrj hp eb h5
              rw [hO.1 p hp] at h6
              exact absurd h6 (by decide)
          by_cases e : row i' = p
          · rw [Rk_inj hO R a2 hi (by rw [e, hip])]; exact Nat.le_refl _
          · have := h4 i' a1 a2 (by omega); omega
    have no150 : ¬ k ≤ i → jn_Model_nest_150 G Q (lp_Model_nest_113 G Q k98 (d + 1)) x1 x2 x3 x4 x5 x (nI p) 0 v := by
      intro hn
      unfold jn_Model_nest_150
      simp only [forall_eq, nI_1]
      exact b_t trivial (not_beh hn)
    unfold lp_Model_nest_113
    rw [hc]
    refine b_f (nI_ge (by omega) (by omega)) ?_
    by_cases e0 : k = 0
    · refine b_t (by rw [hl0 e0]; decide) ?_
      exact beh (by omega)
    · have hl := hl1 (by omega)
      have hrk := R.1 (k - 1) (by omega)
      subst hl
      refine b_f (nI_pos (by omega)) ?_
      rw [nI_eq (by omega) (by omega)]
      by_cases e1 : p = row (k - 1)
      · refine b_t e1 ?_
        have : i = k - 1 := Rk_inj hO R hi (by omega) (by rw [hip, e1])
        exact no150 (by omega)
      · refine b_f e1 ?_
        refine m_laid M P C q hrk hp ?_
        cases eb : bef (ltH lx mx ly my) (row (k - 1)) p with
        | false =>
          refine b_t rfl ?_
          refine no150 (fun hki => ?_)
          have := R.2.2 (k - 1) i (by omega) hi
          rw [hip, eb] at this
          exact absurd this (by decide)
        | true =>
          refine b_f (by decide) ?_
          refine beh ?_
          rcases Nat.lt_or_ge i k with hlt | hge
          · exfalso
            have hne : i ≠ k - 1 := fun e2 => e1 (by rw [← e2, hip])
            have h5 := R.2.2 i (k - 1) (by omega) (by omega)
            rw [hip] at h5
            have h6 := hO.2 _ _ _ hp hrk hp h5 eb
            rw [hO.1 p hp] at h6
            exact absurd h6 (by decide)
          · exact hge
theorem m_nest (M : MI w h K G) {v0 : pS} {f : Nat → Int32} {fo F : Nat → Nat} {c : Nat} {lx mx ly my row : Nat → Nat} (P : PS w h f fo F c) (C : MPw (w * h) fo v0) (hc : v0.1 1 = nI c) (q : CQ w h fo F c lx mx ly my) (R : Rk (bef (ltH lx mx ly my)) c row) {W Hh : Nat} (hW : W ≤ 100) (hH : Hh ≤ 100) (h5 : v0.1 5 = nI 0) {Q : Int32 → pS → Prop}
    (hQ : ∀ v, fr [9, 10, 11, 12, 13] [4, 5] v0 v → v.1 4 = 1 → (∀ i, i < c → v.2 9 (row i) = rx (layR W Hh (fun p => mx p - lx p + 1) (fun p => my p - ly p + 1) row i) ∧ v.2 10 (row i) = ry (layR W Hh (fun p => mx p - lx p + 1) (fun p => my p - ly p + 1) row i)) → Q (nI (cnt (fun i => (layR W Hh (fun p => mx p - lx p + 1) (fun p => my p - ly p + 1) row i).isSome) c)) v) : ∃ n, lp_Model_nest_61 G Q n (nI W) (nI Hh) 0 0 v0 := by
  have B := mB M
  have hcN := PS_c P
  have hO := Ord_H lx mx ly my c
  generalize hcw : (fun p => mx p - lx p + 1) = cwf at *
  generalize hcH : (fun p => my p - ly p + 1) = chf at *
  have hch : ∀ p, 0 < chf p := fun p => by rw [← hcH]; dsimp only; omega
  have l98 : ∀ (d k : Nat) (x : Int32) (v : pS), k + d = c → (k = 0 → x = -1) → (0 < k → x = nI (row (k - 1))) → fr [9, 10, 11, 12, 13] [5] v0 v → SM v (layK W Hh cwf chf row k) → (∀ i, i < k → v.2 9 (row i) = rx (layR W Hh cwf chf row i) ∧ v.2 10 (row i) = ry (layR W Hh cwf chf row i)) → (∀ i, k ≤ i → i < c → v.2 9 (row i) = -1 ∧ v.2 10 (row i) = -1) → lp_Model_nest_98 G Q (d + 1) (nI W) (nI Hh) (nI (cnt (fun i => (layR W Hh cwf chf row i).isSome) k)) x (nI k) v := by
    intro d
    induction d with
    | zero =>
      intro k x v hd hx0 hx1 hfr S ha hn
      have e : k = c := by omega
      unfold lp_Model_nest_98
      rw [hfr.2 1 (by decide), hc]
      refine b_t (nI_le (by omega) (by omega)) ?_
      intro u8 hu8
      rw [e]
      refine hQ u8 ?_ ?_ (fun i hi => ?_)
      · rw [hu8]; exact fr_si _ (by decide) (fr_mono hfr (by decide) (by decide))
      · rw [hu8, si_eq]
      · rw [hu8, si_a]; exact ha i (by omega)
    | succ d ih =>
      intro k x v hd hx0 hx1 hfr S ha hn
      have hk : k < c := by omega
      have hrk := R.1 k hk
      have hLI := layK_LI (W := W) (Hh := Hh) (cwf := cwf) (row := row) hch k
      have ecw : mx (row k) - lx (row k) + 1 = cwf (row k) := by rw [← hcw]
      have ech : my (row k) - ly (row k) + 1 = chf (row k) := by rw [← hcH]
      unfold lp_Model_nest_98
      rw [hfr.2 1 (by decide), hc]
      refine b_f (nI_ge (by omega) (by omega)) ⟨c + 1, ?_⟩
      rw [li_0]
      refine m_pick M P (MPw_fr C hfr) (by rw [hfr.2 1 (by decide)]; exact hc) q R hk hx0 hx1 ?_ c 0 (-1) (by omega) (Or.inl ⟨rfl, fun p' hp' => absurd hp' (Nat.not_lt_zero p')⟩)
      refine m_lay M P (MPw_fr C hfr) q hrk hW hH S hLI.1 ?_
      intro v' f' S' e9 e10
      rw [ecw, ech] at S' e9 e10 ⊢
      simp only [forall_eq, nI_1]
      have hne : ∀ i, i < c → i ≠ k → row i ≠ row k := fun i hi hik e => hik (Rk_inj hO R hi hk e)
      have hcnt : cnt (fun i => (layR W Hh cwf chf row i).isSome) (k + 1) = cnt (fun i => (layR W Hh cwf chf row i).isSome) k + (if (layR W Hh cwf chf row k).isSome then 1 else 0) := rfl
      have hRd : layR W Hh cwf chf row k = (lay1 W Hh (layK W Hh cwf chf row k) (cwf (row k)) (chf (row k))).2 := rfl
      have nxt := ih (k + 1) (nI (row k)) v' (by omega) (fun q => absurd q (by omega)) (fun _ => by rw [Nat.add_sub_cancel]) (fr_trans hfr f') S' ?_ ?_
      · rw [hcnt, hRd] at nxt
        cases er : (lay1 W Hh (layK W Hh cwf chf row k) (cwf (row k)) (chf (row k))).2 with
        | none => rw [er] at nxt; exact b_t rfl nxt
        | some qq => rw [er] at nxt; exact b_f (show ¬ bI true = 0 by decide) nxt
      · intro i hi
        by_cases ei : i = k
        · rw [ei, e9, e10, hRd]
          cases er : (lay1 W Hh (layK W Hh cwf chf row k) (cwf (row k)) (chf (row k))).2 with
          | none => exact hn k (Nat.le_refl _) hk
          | some qq => dsimp only; rw [upd_eq, upd_eq]; exact ⟨rfl, rfl⟩
        · rw [e9, e10]
          have h1 := hne i (by omega) ei
          cases er : (lay1 W Hh (layK W Hh cwf chf row k) (cwf (row k)) (chf (row k))).2 with
          | none => exact ha i (by omega)
          | some qq => dsimp only; rw [upd_ne _ _ h1, upd_ne _ _ h1]; exact ha i (by omega)
      · intro i hi hic
        rw [e9, e10]
        have h1 := hne i hic (by omega)
        cases er : (lay1 W Hh (layK W Hh cwf chf row k) (cwf (row k)) (chf (row k))).2 with
        | none => exact hn i (by omega) hic
        | some qq => dsimp only; rw [upd_ne _ _ h1, upd_ne _ _ h1]; exact hn i (by omega) hic
  suffices hl : ∀ (d k : Nat) (v : pS), k + d = c → fr [9, 10] [] v0 v → (∀ j, j < k → v.2 9 j = -1 ∧ v.2 10 j = -1) → lp_Model_nest_61 G Q (d + 1) (nI W) (nI Hh) (nI 0) (nI k) v from
    ⟨c + 1, by rw [li_0]; exact hl c 0 v0 (by omega) (fr_refl _ _ _) (fun j hj => absurd hj (Nat.not_lt_zero j))⟩
  intro d
  induction d with
  | zero =>
    intro k v hd hfr ha
    unfold lp_Model_nest_61
    rw [hfr.2 1 (by decide), hc]
    refine b_t (nI_le (by omega) (by omega)) ⟨c + 1, ?_⟩
    rw [li_0]
    exact l98 c 0 (-1) v (by omega) (fun _ => rfl) (fun q => absurd q (by decide)) (fr_mono hfr (by decide) (by decide)) ⟨by rw [hfr.2 5 (by decide)]; exact h5, fun r hr => absurd hr (Nat.not_lt_zero r)⟩ (fun i hi => absurd hi (Nat.not_lt_zero i)) (fun i _ hi => ha _ (by have := R.1 i hi; omega))
  | succ d ih =>
    intro k v hd hfr ha
    unfold lp_Model_nest_61
    rw [hfr.2 1 (by decide), hc, ml_10 M, ml_11 M, nI_clamp (n := k) (by omega)]
    simp only [forall_eq, nI_1]
    refine b_f (nI_ge (by omega) (by omega)) ⟨vp_in_nI (by omega) (by omega), vp_in_nI (by omega) (by omega), ih (k + 1) _ (by omega) (fr_sa _ (by decide) (fr_sa _ (by decide) hfr)) (fun j hj => ?_)⟩
    simp (disch := decide) only [sa_eq, sa_ne]
    by_cases e : j = k
    · rw [e, upd_eq, upd_eq]; exact ⟨rfl, rfl⟩
    · rw [upd_ne _ _ e, upd_ne _ _ e]; exact ha j (by omega)
variable {u v : pS} {Q : Int32 → pS → Prop} {X : Nat → pS → Prop}
theorem ob_nest (H : GI w h K G) (M : MI w h K Gm) (R : Rel w h K u v) (x1 x2 : Int32)
    (hr : ∀ r u', wp_Model_nest Gm x1 x2 v (fun r' v' => v'.1 0 = 0 ∧ r' = r ∧ Rel w h K u' v') → Q r u')
    (h0 : ∀ u', wp_Model_nest Gm x1 x2 v (fun r' v' => v'.1 0 = 1 ∧ Rel w h K u' v') → X 0 u')
    (h2 : ∀ u', wp_Model_nest Gm x1 x2 v (fun r' v' => v'.1 0 = 2 ∧ Rel w h K u' v') → X 2 u') : wp_PI_nest G x1 x2 u Q X := by
  have B := gB H
  obtain ⟨x, xa, xb, rfl⟩ := zI_of x1
  obtain ⟨y, ya, yb, rfl⟩ := zI_of x2
  have cx1 : zI x < 1 ↔ x < 1 := by rw [lz_1]; exact zI_lt xa xb (by omega) (by omega)
  have cy1 : zI y < 1 ↔ y < 1 := by rw [lz_1]; exact zI_lt ya yb (by omega) (by omega)
  have cxM : 100 < zI x ↔ 100 < x := by rw [lz_100]; exact zI_lt (by omega) (by omega) xa xb
  have cyM : 100 < zI y ↔ 100 < y := by rw [lz_100]; exact zI_lt (by omega) (by omega) ya yb
  have fin : ∀ k : Int32, ¬ k ≤ 0 → ∀ u3 : pS, u3 = pw_si v 0 k → (u3.1 0 ≤ 0 → ∀ u5 : pS, u5 = pw_si u3 5 0 → ∃ n1, lp_Model_nest_61 Gm (fun r' v' => v'.1 0 = k ∧ Rel w h K u v') n1 (zI x) (zI y) 0 0 u5) ∧ (¬ u3.1 0 ≤ 0 → (u3.1 0 = k ∧ Rel w h K u u3)) := by
    intro k hk u3 hu3
    rw [hu3]
    exact b_f (by rw [si_eq]; exact hk) ⟨si_eq _ _ _, R_si R k⟩
  unfold wp_PI_nest wp_PI_needParted
  refine ⟨fun e => h0 u ?_, fun e => ?_⟩
  · unfold wp_Model_nest
    exact b_t (R.2.2.1.mp e) (fin 1 (by decide))
  · have e2 := R_v2 R e
    obtain ⟨fo, F, c, lx, mx, ly, my, row, T⟩ := R.2.2.2 e
    obtain ⟨t1, t2, t3, t4, t5, t6, t7, t8, t9, t10⟩ := id T
    have hcN := PS_c t1
    have bad : ¬ (1 ≤ x ∧ x ≤ 100 ∧ 1 ≤ y ∧ y ≤ 100) → X 2 u := by
      intro hn
      refine h2 u ?_
      unfold wp_Model_nest
      rw [cx1, cy1, cxM, cyM]
      refine b_f e2 ?_
      by_cases e1 : x < 1
      · exact b_t e1 (fin 2 (by decide))
      · refine b_f e1 ?_
        by_cases e3 : 100 < x
        · exact b_t e3 (fin 2 (by decide))
        · refine b_f e3 ?_
          by_cases e4 : y < 1
          · exact b_t e4 (fin 2 (by decide))
          · exact b_f e4 (b_t (by omega) (fin 2 (by decide)))
    dsimp only
    rw [show (100 : Int32) = zI 100 from lz_100]
    refine g_number x 1 100 xa xb (by omega) (by omega) (by omega) (by omega) (fun a1 a2 => ?_) (fun ho => bad (by omega))
    refine g_number y 1 100 ya yb (by omega) (by omega) (by omega) (by omega) (fun b1 b2 => ?_) (fun ho => bad (by omega))
    intro u4 hu4
    obtain ⟨W, rfl⟩ := Int.eq_ofNat_of_zero_le (show 0 ≤ x by omega)
    obtain ⟨Hh, rfl⟩ := Int.eq_ofNat_of_zero_le (show 0 ≤ y by omega)
    have f4 : fr [] [1] u u4 := by rw [hu4]; exact fr_si _ (by decide) (fr_refl _ _ _)
    rw [← nI_z, ← nI_z] at hr ⊢
    refine k_fill H t1 (by rw [f4.2 2 (by decide)]; exact (PT_c T).1) t5 (CA_fr t6 f4) (by omega) (by omega) ?_
    intro u5 row2 f5 R5 h5
    refine hr _ _ ?_
    unfold wp_Model_nest
    rw [nI_z W, nI_z Hh, cx1, cy1, cxM, cyM]
    refine b_f e2 (b_f (by omega) (b_f (by omega) (b_f (by omega) (b_f (by omega) ?_))))
    intro u45 hu45
    refine b_t (by rw [hu45, si_eq]; decide) ?_
    intro u47 hu47
    have f47 : fr [] [0, 5] v u47 := by rw [hu47, hu45]; exact fr_si _ (by decide) (fr_si _ (by decide) (fr_refl _ _ _))
    rw [← nI_z, ← nI_z]
    refine m_nest M t1 (MPw_fr t3 f47) (by rw [f47.2 1 (by decide)]; exact (PT_c T).2) t5 R5 (W := W) (Hh := Hh) (by omega) (by omega) (by rw [hu47, si_eq]; exact li_0) ?_
    intro v8 f8 e84 h8
    have fu : fr [17, 21, 22, 23, 24, 25] [1, 8, 9] u u5 := fr_trans (fr_mono f4 (by decide) (by decide)) (fr_mono f5 (by decide) (by decide))
    have fv : fr [9, 10, 11, 12, 13] [0, 4, 5] v v8 := fr_trans (fr_mono f47 (by decide) (by decide)) (fr_mono f8 (by decide) (by decide))
    have z1 : u5.1 1 = 1 := by rw [f5.2 1 (by decide), hu4, si_eq]
    refine ⟨?_, rfl, ?_, ?_, ?_, ?_⟩
    · rw [f8.2 0 (by decide), hu47, si_ne _ _ (by decide), hu45, si_eq]
    · rw [fu.1 0 (by decide), fu.1 1 (by decide), fu.1 2 (by decide), fv.1 0 (by decide)]; exact R.1
    · rw [fu.1 3 (by decide), fu.1 4 (by decide), fu.1 5 (by decide), fv.1 1 (by decide)]; exact R.2.1
    · rw [fu.2 0 (by decide), fv.2 2 (by decide)]; exact R.2.2.1
    · intro _
      refine ⟨fo, F, c, lx, mx, ly, my, row, by rw [fu.1 6 (by decide)]; exact t1, CPw_fr t2 fu, MPw_fr t3 fv, by rw [fu.1 6 (by decide), fv.1 2 (by decide)]; exact t4, t5, CA_fr t6 fu, t7, by rw [fu.1 16 (by decide)]; exact t8, by rw [z1, e84], fun _ p hp => ?_⟩
      obtain ⟨i, hi, rfl⟩ := Rk_surj R5 hp
      rw [(h8 i hi).1, (h8 i hi).2, (h5 i hi).1, (h5 i hi).2]
      exact ⟨rfl, rfl⟩
end
