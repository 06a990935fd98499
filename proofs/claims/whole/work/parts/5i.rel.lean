/-! OWN ROWS: how class and reference stand to each other; the guards; pixel and kind. -/
def PT (w h : Nat) (u v : pS) (fo F : Nat → Nat) (c : Nat) (lx mx ly my row : Nat → Nat) : Prop :=
  PS w h (u.2 6) fo F c ∧ CPw w (w * h) fo u ∧ MPw (w * h) fo v ∧ (∀ k, k < w * h → v.2 2 k = u.2 6 k) ∧ CQ w h fo F c lx mx ly my ∧ CA w h fo F c lx mx ly my u ∧ Rk (bef (ltL w h lx mx ly my (fun p => sz fo (w * h) (F p)))) c row ∧ (∀ j, j < c → u.2 16 j = nI (row j)) ∧ (u.1 1 = 0 ↔ v.1 4 = 0) ∧ (¬ u.1 1 = 0 → ∀ p, p < c → v.2 9 p = u.2 21 p ∧ v.2 10 p = u.2 22 p)
def Rel (w h K : Nat) (u v : pS) : Prop :=
  (∀ k, k < w * h → v.2 0 (3 * k) = u.2 0 k ∧ v.2 0 (3 * k + 1) = u.2 1 k ∧ v.2 0 (3 * k + 2) = u.2 2 k) ∧ (∀ j, j < K → v.2 1 (3 * j) = u.2 3 j ∧ v.2 1 (3 * j + 1) = u.2 4 j ∧ v.2 1 (3 * j + 2) = u.2 5 j) ∧ (u.1 0 = 0 ↔ v.1 2 = 0) ∧ (¬ u.1 0 = 0 → ∃ fo F c lx mx ly my row, PT w h u v fo F c lx mx ly my row)
theorem PT_fr {w h : Nat} {u u' v v' : pS} {fo F : Nat → Nat} {c : Nat} {lx mx ly my row : Nat → Nat} (T : PT w h u v fo F c lx mx ly my row) (hu : fr [8, 9, 15, 17, 18, 19, 20, 23, 24, 25] [3, 4, 5, 6, 7, 8, 9] u u') (hv : fr [6, 7, 8, 11, 12, 13] [0, 3, 5] v v') : PT w h u' v' fo F c lx mx ly my row := by
  obtain ⟨t1, t2, t3, t4, t5, t6, t7, t8, t9, t10⟩ := T
  refine ⟨?_, CPw_fr t2 hu, MPw_fr t3 hv, ?_, t5, CA_fr t6 hu, t7, ?_, ?_, ?_⟩
  · rw [hu.1 6 (by decide)]; exact t1
  · rw [hu.1 6 (by decide), hv.1 2 (by decide)]; exact t4
  · rw [hu.1 16 (by decide)]; exact t8
  · rw [hu.2 1 (by decide), hv.2 4 (by decide)]; exact t9
  · rw [hu.2 1 (by decide), hv.1 9 (by decide), hv.1 10 (by decide), hu.1 21 (by decide), hu.1 22 (by decide)]; exact t10
theorem Rel_fr {w h K : Nat} {u u' v v' : pS} (R : Rel w h K u v) (hu : fr [8, 9, 15, 17, 18, 19, 20, 23, 24, 25] [3, 4, 5, 6, 7, 8, 9] u u') (hv : fr [6, 7, 8, 11, 12, 13] [0, 3, 5] v v') : Rel w h K u' v' := by
  obtain ⟨r1, r2, r3, r4⟩ := R
  refine ⟨?_, ?_, ?_, ?_⟩
  · rw [hu.1 0 (by decide), hu.1 1 (by decide), hu.1 2 (by decide), hv.1 0 (by decide)]; exact r1
  · rw [hu.1 3 (by decide), hu.1 4 (by decide), hu.1 5 (by decide), hv.1 1 (by decide)]; exact r2
  · rw [hu.2 0 (by decide), hv.2 2 (by decide)]; exact r3
  · rw [hu.2 0 (by decide)]
    intro q
    obtain ⟨fo, F, c, lx, mx, ly, my, row, T⟩ := r4 q
    exact ⟨fo, F, c, lx, mx, ly, my, row, PT_fr T hu hv⟩
theorem Rel_v {w h K : Nat} {u v v' : pS} (R : Rel w h K u v) (hv : fr [6, 7, 8, 11, 12, 13] [0, 3, 5] v v') : Rel w h K u v' := Rel_fr R (fr_refl _ _ _) hv
theorem ite_iff {c P Q : Prop} : ((c → P) ∧ (¬ c → Q)) ↔ ((c → P) ∧ (¬ c → Q)) := Iff.rfl
section
variable {w h K : Nat} {G : pG} {u : pS} {Q : pS → Prop} {X : Nat → pS → Prop}
theorem g_index (i : Int) (n : Nat) (h1 : -2147483648 ≤ i) (h2 : i < 2147483648) (hn : n < 2147483648) (hq : 0 ≤ i → i < n → Q u) (hx : ¬ (0 ≤ i ∧ i < n) → X 1 u) : wp_PI_needIndex G (zI i) (nI n) u Q X := by
  unfold wp_PI_needIndex
  rw [lz_0, nI_z n, zI_lt h1 h2 (by omega) (by omega), zI_lt h1 h2 (by omega) (by omega)]
  exact ⟨fun e => hx (by omega), fun e => ⟨fun e2 => hq (by omega) e2, fun e2 => hx (by omega)⟩⟩
theorem g_place (H : GI w h K G) (x y : Int) (h1 : -2147483648 ≤ x) (h2 : x < 2147483648) (h3 : -2147483648 ≤ y) (h4 : y < 2147483648) (hq : ∀ a b : Nat, a < w → b < h → x = a → y = b → Q u) (hx : ¬ (0 ≤ x ∧ x < w ∧ 0 ≤ y ∧ y < h) → X 1 u) : wp_PI_needPlace G (zI x) (zI y) u Q X := by
  have B := gB H
  unfold wp_PI_needPlace
  rw [gp_1 H, gp_2 H]
  refine g_index x w h1 h2 (by omega) (fun a1 a2 => g_index y h h3 h4 (by omega) (fun b1 b2 => ?_) (fun e => hx (by omega))) (fun e => hx (by omega))
  obtain ⟨a, rfl⟩ := Int.eq_ofNat_of_zero_le a1
  obtain ⟨b, rfl⟩ := Int.eq_ofNat_of_zero_le b1
  exact hq a b (by omega) (by omega) rfl rfl
theorem g_number (a lo hi : Int) (h1 : -2147483648 ≤ a) (h2 : a < 2147483648) (h3 : -2147483648 ≤ lo) (h4 : lo < 2147483648) (h5 : -2147483648 ≤ hi) (h6 : hi < 2147483648) (hq : lo ≤ a → a ≤ hi → Q u) (hx : ¬ (lo ≤ a ∧ a ≤ hi) → X 2 u) : wp_PI_needNumber G (zI a) (zI lo) (zI hi) u Q X := by
  unfold wp_PI_needNumber
  rw [zI_lt h1 h2 h3 h4, zI_le h1 h2 h5 h6]
  exact ⟨fun e => hx (by omega), fun e => ⟨fun e2 => hq (by omega) e2, fun e2 => hx (by omega)⟩⟩
theorem g_colour (r g b : Int) (hr : -2147483648 ≤ r ∧ r < 2147483648) (hg : -2147483648 ≤ g ∧ g < 2147483648) (hb : -2147483648 ≤ b ∧ b < 2147483648) (hq : (0 ≤ r ∧ r ≤ 255) → (0 ≤ g ∧ g ≤ 255) → (0 ≤ b ∧ b ≤ 255) → Q u) (hx : ¬ ((0 ≤ r ∧ r ≤ 255) ∧ (0 ≤ g ∧ g ≤ 255) ∧ (0 ≤ b ∧ b ≤ 255)) → X 2 u) : wp_PI_needColour G (zI r) (zI g) (zI b) u Q X := by
  unfold wp_PI_needColour
  rw [lz_0, lz_255]
  refine g_number r 0 255 hr.1 hr.2 (by omega) (by omega) (by omega) (by omega) (fun a1 a2 => g_number g 0 255 hg.1 hg.2 (by omega) (by omega) (by omega) (by omega) (fun b1 b2 => g_number b 0 255 hb.1 hb.2 (by omega) (by omega) (by omega) (by omega) (fun c1 c2 => hq ⟨a1, a2⟩ ⟨b1, b2⟩ ⟨c1, c2⟩) (fun e => hx (by omega))) (fun e => hx (by omega))) (fun e => hx (by omega))
theorem t3 {A B C P J V2 V3 : Prop} (v2 : V2) (v3 : V3) (hP : A → B → C → P) (hJ : ¬ (A ∧ B ∧ C) → J) : ((A → (V2 ∧ ((B → (V3 ∧ ((C → P) ∧ (¬ C → J)))) ∧ (¬ B → J)))) ∧ (¬ A → J)) :=
  ⟨fun a => ⟨v2, fun b => ⟨v3, fun c => hP a b c, fun c => hJ (fun q => c q.2.2)⟩, fun b => hJ (fun q => b q.2.1)⟩, fun a => hJ (fun q => a q.1)⟩
theorem told_0 {Q2 : Int32 → pS → Prop} (hQ : Q2 0 u) : wp_PI_told G 0 u Q2 := by
  unfold wp_PI_told
  exact b_t rfl ⟨rfl, hQ⟩
theorem told_1 {Q2 : Int32 → pS → Prop} (hQ : Q2 1 (pw_si (pw_si u 0 0) 1 0)) : wp_PI_told G 1 u Q2 := by
  unfold wp_PI_told
  refine b_f (by decide) ?_
  intro u2 hu2 u3 hu3
  rw [hu3, hu2]
  exact ⟨rfl, hQ⟩
theorem e_mcol {x : Int} (h1 : -2147483648 ≤ x) (h2 : x < 2147483648) {Q2 : Int32 → pS → Prop} : wp_Model_isColour G (zI x) u Q2 ↔ Q2 (if 0 ≤ x ∧ x ≤ 255 then 1 else 0) u := by
  unfold wp_Model_isColour
  rw [lz_0, lz_255, zI_lt h1 h2 (by omega) (by omega), zI_lt (by omega) (by omega) h1 h2]
  by_cases e1 : x < 0
  · rw [bt e1, if_neg (by omega)]
  · rw [bf e1]
    by_cases e2 : 255 < x
    · rw [bt e2, if_neg (by omega)]
    · rw [bf e2, if_pos (by omega)]
end
section
variable {w h K : Nat} {G Gm : pG} {u v : pS} {Q : Int32 → pS → Prop} {X : Nat → pS → Prop}
/-- a colour is told in both: nothing is parted any more -/
theorem ob_pixel (H : GI w h K G) (M : MI w h K Gm) (R : Rel w h K u v) (x1 x2 x3 x4 x5 : Int32)
    (hr : ∀ r u', wp_Model_pixel Gm x1 x2 x3 x4 x5 v (fun r' v' => v'.1 0 = 0 ∧ r' = r ∧ Rel w h K u' v') → Q r u')
    (h1 : ∀ u', wp_Model_pixel Gm x1 x2 x3 x4 x5 v (fun r' v' => v'.1 0 = 1 ∧ Rel w h K u' v') → X 1 u')
    (h2 : ∀ u', wp_Model_pixel Gm x1 x2 x3 x4 x5 v (fun r' v' => v'.1 0 = 2 ∧ Rel w h K u' v') → X 2 u') : wp_PI_pixel G x1 x2 x3 x4 x5 u Q X := by
  have B := gB H
  obtain ⟨x, xa, xb, rfl⟩ := zI_of x1
  obtain ⟨y, ya, yb, rfl⟩ := zI_of x2
  obtain ⟨r, ra, rb, rfl⟩ := zI_of x3
  obtain ⟨g, ga, gb, rfl⟩ := zI_of x4
  obtain ⟨b, ba, bb, rfl⟩ := zI_of x5
  unfold wp_PI_pixel
  refine g_place H x y xa xb ya yb (fun a e ha he hxa hye => ?_) (fun ho => h1 u ?_)
  · refine g_colour r g b ⟨ra, rb⟩ ⟨ga, gb⟩ ⟨ba, bb⟩ (fun cr cg cb => ?_) (fun ho => h2 u ?_)
    · rw [e_plc H xa xb ya yb, hxa, hye, pl_at ha he, ← nI_z]
      have hk := gr_in ha he
      have hrel := R.1 (e * w + a) hk
      generalize ek : e * w + a = k at hk hrel
      have hv1 : vp_in (nI k) (w * h) := vp_in_nI hk (by omega)
      have hmod : ∀ (Q2 : Int32 → pS → Prop), (jn_Model_pixel_42 Gm Q2 (zI (a : Int)) (zI (e : Int)) (zI r) (zI g) (zI b) 0 v) → wp_Model_pixel Gm (zI (a : Int)) (zI (e : Int)) (zI r) (zI g) (zI b) v Q2 := by
        intro Q2 hq
        unfold wp_Model_pixel
        rw [e_mpl M (by omega) (by omega) (by omega) (by omega), if_pos (by omega)]
        refine b_f (by decide) ?_
        rw [e_mcol ra rb, if_pos cr]
        refine b_f (by decide) ?_
        rw [e_mcol ga gb, if_pos cg]
        refine b_f (by decide) ?_
        rw [e_mcol ba bb, if_pos cb]
        exact b_f (by decide) hq
      have hm42 : ∀ (Q2 : Int32 → pS → Prop), ((u.2 0 k = zI r ∧ u.2 1 k = zI g ∧ u.2 2 k = zI b) → Q2 0 (pw_si v 0 0)) → (¬ (u.2 0 k = zI r ∧ u.2 1 k = zI g ∧ u.2 2 k = zI b) → Q2 1 (pw_si (pw_sa (pw_si v 0 0) 0 (upd (upd (upd (v.2 0) (3 * k) (zI r)) (3 * k + 1) (zI g)) (3 * k + 2) (zI b))) 2 0)) → jn_Model_pixel_42 Gm Q2 (zI (a : Int)) (zI (e : Int)) (zI r) (zI g) (zI b) 0 v := by
        intro Q2 q1 q2
        have ek2 : 3 * (nI w * zI (e : Int) + zI (a : Int)) = nI (3 * k) := by
          rw [← nI_z, ← nI_z, nI_mul, nI_add, li_3, nI_mul, Nat.mul_comm w e, ek]
        unfold jn_Model_pixel_42
        rw [mp_0 M, ek2, ml_1 M]
        simp only [forall_eq]
        rw [nI_clamp (n := 3 * k) (by omega), nI_1, nI_clamp (n := 3 * k + 1) (by omega), li_2, nI_add, nI_clamp (n := 3 * k + 2) (by omega)]
        refine b_t (by rw [si_eq]; decide) ⟨vp_in_nI (by omega) (by omega), ?_⟩
        rw [si_a, hrel.1, hrel.2.1, hrel.2.2]
        refine t3 (vp_in_nI (by omega) (by omega)) (vp_in_nI (by omega) (by omega)) (fun a b c => q1 ⟨a, b, c⟩) (fun hn => ?_)
        unfold jn_Model_pixel_107
        rw [ml_1 M]
        simp only [forall_eq]
        rw [nI_clamp (n := 3 * k) (by omega), nI_1, nI_clamp (n := 3 * k + 1) (by omega), li_2, nI_add, nI_clamp (n := 3 * k + 2) (by omega)]
        refine ⟨vp_in_nI (by omega) (by omega), vp_in_nI (by omega) (by omega), vp_in_nI (by omega) (by omega), ?_⟩
        have hq := q2 hn
        simp only [sa_eq, si_a]
        have eqs : pw_sa (pw_sa (pw_sa (pw_si v 0 0) 0 (upd (v.2 0) (3 * k) (zI r))) 0 (upd (upd (v.2 0) (3 * k) (zI r)) (3 * k + 1) (zI g))) 0 (upd (upd (upd (v.2 0) (3 * k) (zI r)) (3 * k + 1) (zI g)) (3 * k + 2) (zI b)) = pw_sa (pw_si v 0 0) 0 (upd (upd (upd (v.2 0) (3 * k) (zI r)) (3 * k + 1) (zI g)) (3 * k + 2) (zI b)) := by
          unfold pw_sa
          refine Prod.ext rfl ?_
          funext j
          unfold va_up
          by_cases ej : j = 0
          · simp [ej]
          · simp [ej]
        rw [eqs]
        exact hq
      unfold wp_Colours_tell_picture
      rw [gl_14 H, gl_15 H, gl_16 H, nI_clamp (n := k) (by omega)]
      refine b_f (nI_pos (by omega)) (b_f (nI_ge hk (by omega)) ⟨hv1, ?_⟩)
      refine t3 hv1 hv1 (fun a1 a2 a3 => ?_) (fun hn => ?_)
      · refine told_0 ⟨rfl, hr 0 u ?_⟩
        rw [hxa, hye]
        refine hmod _ (hm42 _ (fun _ => ⟨?_, rfl, ?_⟩) (fun q => absurd ⟨a1, a2, a3⟩ q))
        · rw [si_eq]
        · exact Rel_v R (fr_si _ (by decide) (fr_refl _ _ _))
      · unfold jn_Colours_tell_picture_46
        rw [gl_14 H, gl_15 H, gl_16 H, nI_clamp (n := k) (by omega)]
        simp only [forall_eq]
        refine ⟨hv1, hv1, hv1, ?_⟩
        refine told_1 ⟨rfl, hr 1 _ ?_⟩
        rw [hxa, hye]
        refine hmod _ (hm42 _ (fun q => absurd q hn) (fun _ => ⟨?_, rfl, ?_⟩))
        · rw [si_ne _ _ (by decide), sa_i, si_eq]
        · refine ⟨fun j hj => ?_, fun j hj => ?_, ?_, ?_⟩
          · simp (disch := decide) only [si_a, sa_eq, sa_ne]
            by_cases ej : j = k
            · rw [ej, upd_eq, upd_eq, upd_eq, upd_ne _ _ (by omega), upd_ne _ _ (by omega), upd_eq, upd_ne _ _ (by omega), upd_eq, upd_eq]
              exact ⟨rfl, rfl, rfl⟩
            · rw [upd_ne _ _ ej, upd_ne _ _ ej, upd_ne _ _ ej, upd_ne _ _ (by omega), upd_ne _ _ (by omega), upd_ne _ _ (by omega), upd_ne _ _ (by omega), upd_ne _ _ (by omega), upd_ne _ _ (by omega), upd_ne _ _ (by omega), upd_ne _ _ (by omega), upd_ne _ _ (by omega)]
              exact R.1 j hj
          · simp (disch := decide) only [si_a, sa_ne]
            exact R.2.1 j hj
          · simp (disch := decide) only [si_eq, si_ne]
          · intro q
            exfalso
            apply q
            simp (disch := decide) only [si_eq, si_ne]
    · rw [hxa, hye]
      unfold wp_Model_pixel
      rw [e_mpl M (by omega) (by omega) (by omega) (by omega), if_pos (by omega)]
      have fin : jn_Model_pixel_42 Gm (fun r' v' => v'.1 0 = 2 ∧ Rel w h K u v') (zI (a : Int)) (zI (e : Int)) (zI r) (zI g) (zI b) 2 v := by
        unfold jn_Model_pixel_42
        intro u7 hu7
        refine b_f (by rw [hu7, si_eq]; decide) ⟨by rw [hu7, si_eq], ?_⟩
        rw [hu7]; exact Rel_v R (fr_si _ (by decide) (fr_refl _ _ _))
      refine b_f (by decide) ?_
      rw [e_mcol ra rb]
      by_cases c1 : 0 ≤ r ∧ r ≤ 255
      · rw [if_pos c1]
        refine b_f (by decide) ?_
        rw [e_mcol ga gb]
        by_cases c2 : 0 ≤ g ∧ g ≤ 255
        · rw [if_pos c2]
          refine b_f (by decide) ?_
          rw [e_mcol ba bb, if_neg (fun c3 => ho ⟨c1, c2, c3⟩)]
          exact b_t rfl fin
        · rw [if_neg c2]; exact b_t rfl fin
      · rw [if_neg c1]; exact b_t rfl fin
  · unfold wp_Model_pixel
    rw [e_mpl M xa xb ya yb, if_neg ho]
    refine b_t rfl ?_
    unfold jn_Model_pixel_42
    intro u7 hu7
    refine b_f (by rw [hu7, si_eq]; decide) ⟨by rw [hu7, si_eq], ?_⟩
    rw [hu7]; exact Rel_v R (fr_si _ (by decide) (fr_refl _ _ _))
end
