/-! OWN ROWS: left and reached agree. -/
section
variable {w h K : Nat} {G : pG} {f : Nat → Int32} {fo F : Nat → Nat} {c p : Nat} {v : pS}
theorem m_isOf (M : MI w h K G) (P : PS w h f fo F c) (C : MPw (w * h) fo v) (hp : p < c) {x y : Int} (x1 : -100 ≤ x) (x2 : x ≤ 100) (y1 : -100 ≤ y) (y2 : y ≤ 100) {Q : Int32 → pS → Prop} (q1 : inp w h fo (F p) x y → Q 1 v) (q0 : ¬ inp w h fo (F p) x y → Q 0 v) : wp_Model_isOf G (nI p) (zI x) (zI y) v Q := by
  have B := mB M
  have hcN := PS_c P
  have hFp := Enu_F P.2.1 hp
  unfold wp_Model_isOf
  rw [e_mpl M (by omega) (by omega) (by omega) (by omega)]
  by_cases e : 0 ≤ x ∧ x < w ∧ 0 ≤ y ∧ y < h
  · rw [if_pos e]
    obtain ⟨a, rfl⟩ := Int.eq_ofNat_of_zero_le e.1
    obtain ⟨b, rfl⟩ := Int.eq_ofNat_of_zero_le e.2.2.1
    have hk := gr_in (show a < w by omega) (show b < h by omega)
    have hf := fo_le P.1 hk
    refine b_f (by decide) ?_
    rw [mp_0 M, ← nI_z, ← nI_z, nI_mul, nI_add, Nat.mul_comm w b, ml_4 M, ml_5 M, nI_clamp (n := b * w + a) (by omega), nI_clamp (n := p) (by omega), C.1 _ hk, (MP_at C P.2.1 hp).1, nI_eq (by omega) (by omega)]
    refine ⟨vp_in_nI (by omega) (by omega), vp_in_nI (by omega) (by omega), fun e1 => q1 ⟨a, b, rfl, rfl, by omega, by omega, e1⟩, fun e1 => q0 ?_⟩
    rintro ⟨i, j, e3, e4, h3, h4, h5⟩
    have : i = a := by omega
    have : j = b := by omega
    subst i; subst j
    exact e1 h5
  · rw [if_neg e]
    refine b_t rfl (q0 ?_)
    rintro ⟨i, j, e3, e4, h3, h4, h5⟩
    exact e (by omega)
theorem m_room (M : MI w h K G) (P : PS w h f fo F c) (C : MPw (w * h) fo v) (hp : p < c) {r : Nat} (hr : r ≤ 10) {x y : Int} (x1 : -50 ≤ x) (x2 : x ≤ 50) (y1 : -50 ≤ y) (y2 : y ≤ 50) {Q : Int32 → pS → Prop} (q1 : Fit w h fo (F p) r x y → Q 1 v) (q0 : ¬ Fit w h fo (F p) r x y → Q 0 v) : wp_Model_isRoom G (nI p) (zI x) (zI y) (nI r) v Q := by
  have B := mB M
  unfold wp_Model_isRoom
  intro t1 ht1
  rw [nI_z r, zI_sub] at ht1
  have inner : ∀ (k9 : Int32 → Int32 → Int32 → Int32 → Int32 → Int32 → pS → Prop) (i : Int), x - r ≤ i → i ≤ x + r → (∀ b : Bool, (b = true → ∀ j, y - r ≤ j → j ≤ y + r → inp w h fo (F p) i j) → (b = false → ¬ Fit w h fo (F p) r x y) → k9 (nI p) (zI x) (zI y) (nI r) (bI b) (zI (i + 1)) v) → ∀ (d : Nat) (j : Int) (b : Bool), j + d = y + r + 1 → y - r ≤ j → (b = true → ∀ j', y - r ≤ j' → j' < j → inp w h fo (F p) i j') → (b = false → ¬ Fit w h fo (F p) r x y) → lp_Model_isRoom_29 G Q k9 (d + 1) (nI p) (zI x) (zI y) (nI r) (bI b) (zI i) (zI j) v := by
    intro k9 i hi1 hi2 hk9 d
    induction d with
    | zero =>
      intro j b hd hj h1 h0
      unfold lp_Model_isRoom_29
      simp only [forall_eq]
      rw [nI_z r, zI_add, zI_lt (by omega) (by omega) (by omega) (by omega), show zI i + 1 = zI (i + 1) by rw [lz_1, zI_add], ← nI_z]
      exact b_t (by omega) (hk9 b (fun e j' a1 a2 => h1 e j' a1 (by omega)) h0)
    | succ d ih =>
      intro j b hd hj h1 h0
      unfold lp_Model_isRoom_29
      simp only [forall_eq]
      rw [nI_z r, zI_add, zI_lt (by omega) (by omega) (by omega) (by omega), show zI i + 1 = zI (i + 1) by rw [lz_1, zI_add], show zI j + 1 = zI (j + 1) by rw [lz_1, zI_add], ← nI_z]
      refine b_f (by omega) ?_
      cases b with
      | false => exact b_t rfl (hk9 false (fun e => absurd e (by decide)) h0)
      | true =>
        refine b_f (by decide) ?_
        refine m_isOf M P C hp (by omega) (by omega) (by omega) (by omega) (fun hin => ?_) (fun hin => ?_)
        · refine ih (j + 1) true (by omega) (by omega) (fun _ j' a1 a2 => ?_) (fun e => absurd e (by decide))
          by_cases ej : j' = j
          · rw [ej]; exact hin
          · exact h1 rfl j' a1 (by omega)
        · exact ih (j + 1) false (by omega) (by omega) (fun e => absurd e (by decide)) (fun _ hf => hin (hf i j hi1 hi2 hj (by omega)))
  suffices hl : ∀ (d : Nat) (i : Int) (b : Bool), i + d = x + r + 1 → x - r ≤ i → (b = true → ∀ i' j, x - r ≤ i' → i' < i → y - r ≤ j → j ≤ y + r → inp w h fo (F p) i' j) → (b = false → ¬ Fit w h fo (F p) r x y) → lp_Model_isRoom_9 G Q (d + 1) (nI p) (zI x) (zI y) (nI r) (bI b) (zI i) v by
    refine ⟨2 * r + 1 + 1, ?_⟩
    rw [ht1]
    exact hl (2 * r + 1) (x - r) true (by omega) (by omega) (fun _ i' j _ a2 => absurd a2 (by omega)) (fun e => absurd e (by decide))
  intro d
  induction d with
  | zero =>
    intro i b hd hi h1 h0
    unfold lp_Model_isRoom_9
    rw [nI_z r, zI_add, zI_lt (by omega) (by omega) (by omega) (by omega)]
    refine b_t (by omega) ⟨nar_b b, ?_⟩
    cases b with
    | true => exact q1 (fun i' j a1 a2 a3 a4 => h1 rfl i' j a1 (by omega) a3 a4)
    | false => exact q0 (h0 rfl)
  | succ d ih =>
    intro i b hd hi h1 h0
    unfold lp_Model_isRoom_9
    rw [nI_z r, zI_add, zI_lt (by omega) (by omega) (by omega) (by omega)]
    refine b_f (by omega) ?_
    cases b with
    | false => exact b_t rfl ⟨rfl, q0 (h0 rfl)⟩
    | true =>
      refine b_f (by decide) ?_
      intro t4 ht4
      rw [ht4, zI_sub, ← nI_z]
      refine ⟨2 * r + 1 + 1, inner _ i hi (by omega) (fun b2 g1 g0 => ?_) (2 * r + 1) (y - r) true (by omega) (by omega) (fun _ j' _ a2 => absurd a2 (by omega)) (fun e => absurd e (by decide))⟩
      refine ih (i + 1) b2 (by omega) (by omega) (fun e i' j a1 a2 a3 a4 => ?_) g0
      by_cases ei : i' = i
      · rw [ei]; exact g1 e j a3 a4
      · exact h1 rfl i' j a1 (by omega) a3 a4
theorem m_reach (M : MI w h K G) (P : PS w h f fo F c) (C : MPw (w * h) fo v) (hp : p < c) {r : Nat} (hr : r ≤ 10) {x y : Int} (x1 : -30 ≤ x) (x2 : x ≤ 30) (y1 : -30 ≤ y) (y2 : y ≤ 30) {Q : Int32 → pS → Prop} (q1 : Cov w h fo (F p) r x y → Q 1 v) (q0 : ¬ Cov w h fo (F p) r x y → Q 0 v) : wp_Model_isReached G (nI p) (zI x) (zI y) (nI r) v Q := by
  have B := mB M
  unfold wp_Model_isReached
  intro t1 ht1
  rw [nI_z r, zI_sub] at ht1
  have mkC : ∀ i j, x - r ≤ i → i ≤ x + r → y - r ≤ j → j ≤ y + r → Fit w h fo (F p) r i j → Cov w h fo (F p) r x y := fun i j a1 a2 a3 a4 hf => ⟨i, j, hf, by omega, by omega, by omega, by omega⟩
  have inner : ∀ (k9 : Int32 → Int32 → Int32 → Int32 → Int32 → Int32 → pS → Prop) (i : Int), x - r ≤ i → i ≤ x + r → (∀ b : Bool, (b = false → ∀ j, y - r ≤ j → j ≤ y + r → ¬ Fit w h fo (F p) r i j) → (b = true → Cov w h fo (F p) r x y) → k9 (nI p) (zI x) (zI y) (nI r) (bI b) (zI (i + 1)) v) → ∀ (d : Nat) (j : Int) (b : Bool), j + d = y + r + 1 → y - r ≤ j → (b = false → ∀ j', y - r ≤ j' → j' < j → ¬ Fit w h fo (F p) r i j') → (b = true → Cov w h fo (F p) r x y) → lp_Model_isReached_29 G Q k9 (d + 1) (nI p) (zI x) (zI y) (nI r) (bI b) (zI i) (zI j) v := by
    intro k9 i hi1 hi2 hk9 d
    induction d with
    | zero =>
      intro j b hd hj h1 h0
      unfold lp_Model_isReached_29
      simp only [forall_eq]
      rw [nI_z r, zI_add, zI_lt (by omega) (by omega) (by omega) (by omega), show zI i + 1 = zI (i + 1) by rw [lz_1, zI_add], ← nI_z]
      exact b_t (by omega) (hk9 b (fun e j' a1 a2 => h1 e j' a1 (by omega)) h0)
    | succ d ih =>
      intro j b hd hj h1 h0
      unfold lp_Model_isReached_29
      simp only [forall_eq]
      rw [nI_z r, zI_add, zI_lt (by omega) (by omega) (by omega) (by omega), show zI i + 1 = zI (i + 1) by rw [lz_1, zI_add], show zI j + 1 = zI (j + 1) by rw [lz_1, zI_add], ← nI_z]
      refine b_f (by omega) ?_
      cases b with
      | true => exact b_f (by decide) (hk9 true (fun e => absurd e (by decide)) h0)
      | false =>
        refine b_t rfl ?_
        refine m_room M P C hp hr (by omega) (by omega) (by omega) (by omega) (fun hin => ?_) (fun hin => ?_)
        · exact ih (j + 1) true (by omega) (by omega) (fun e => absurd e (by decide)) (fun _ => mkC i j hi1 hi2 hj (by omega) hin)
        · refine ih (j + 1) false (by omega) (by omega) (fun _ j' a1 a2 => ?_) (fun e => absurd e (by decide))
          by_cases ej : j' = j
          · rw [ej]; exact hin
          · exact h1 rfl j' a1 (by omega)
  suffices hl : ∀ (d : Nat) (i : Int) (b : Bool), i + d = x + r + 1 → x - r ≤ i → (b = false → ∀ i' j, x - r ≤ i' → i' < i → y - r ≤ j → j ≤ y + r → ¬ Fit w h fo (F p) r i' j) → (b = true → Cov w h fo (F p) r x y) → lp_Model_isReached_9 G Q (d + 1) (nI p) (zI x) (zI y) (nI r) (bI b) (zI i) v by
    refine ⟨2 * r + 1 + 1, ?_⟩
    rw [ht1]
    exact hl (2 * r + 1) (x - r) false (by omega) (by omega) (fun _ i' j _ a2 => absurd a2 (by omega)) (fun e => absurd e (by decide))
  intro d
  induction d with
  | zero =>
    intro i b hd hi h1 h0
    unfold lp_Model_isReached_9
    rw [nI_z r, zI_add, zI_lt (by omega) (by omega) (by omega) (by omega)]
    refine b_t (by omega) ⟨nar_b b, ?_⟩
    cases b with
    | false =>
      refine q0 ?_
      rintro ⟨i', j, hf, s1, s2, s3, s4⟩
      exact h1 rfl i' j (by omega) (by omega) (by omega) (by omega) hf
    | true => exact q1 (h0 rfl)
  | succ d ih =>
    intro i b hd hi h1 h0
    unfold lp_Model_isReached_9
    rw [nI_z r, zI_add, zI_lt (by omega) (by omega) (by omega) (by omega)]
    refine b_f (by omega) ?_
    cases b with
    | true => exact b_f (by decide) ⟨rfl, q1 (h0 rfl)⟩
    | false =>
      refine b_t rfl ?_
      intro t4 ht4
      rw [ht4, zI_sub, ← nI_z]
      refine ⟨2 * r + 1 + 1, inner _ i hi (by omega) (fun b2 g1 g0 => ?_) (2 * r + 1) (y - r) false (by omega) (by omega) (fun _ j' _ a2 => absurd a2 (by omega)) (fun e => absurd e (by decide))⟩
      refine ih (i + 1) b2 (by omega) (by omega) (fun e i' j a1 a2 a3 a4 => ?_) g0
      by_cases ei : i' = i
      · rw [ei]; exact g1 e j a3 a4
      · exact h1 rfl i' j a1 (by omega) a3 a4
theorem m_left (M : MI w h K G) (P : PS w h f fo F c) (C : MPw (w * h) fo v) (hp : p < c) {r : Nat} (hr : r ≤ 10) (h0 : v.1 0 = 0) {mk : Nat → Bool} (hmk : ∀ k, k < w * h → (mk k = true ↔ Cov w h fo (F p) r (k % w : Nat) (k / w : Nat))) {Q : Int32 → pS → Prop} (hQ : Q (nI (cnt (fun k => (fo k == F p) && !mk k) (w * h))) v) : ∃ n, lp_Model_left_34 G Q n (nI p) (nI r) 0 0 v := by
  have B := mB M
  have hcN := PS_c P
  have hFp := Enu_F P.2.1 hp
  have hw0 : ¬ nI w = 0 := nI_ne0 (by omega) (by omega)
  suffices hl : ∀ (d k : Nat), k + d = w * h → lp_Model_left_34 G Q (d + 1) (nI p) (nI r) (nI (cnt (fun k => (fo k == F p) && !mk k) k)) (nI k) v from
    ⟨w * h + 1, by rw [li_0]; exact hl (w * h) 0 (by omega)⟩
  intro d
  induction d with
  | zero =>
    intro k hd
    have e : k = w * h := by omega
    unfold lp_Model_left_34
    exact b_t (by rw [mp_0 M, mp_1 M, nI_mul]; exact nI_le (by omega) (by omega)) (by rw [e]; exact hQ)
  | succ d ih =>
    intro k hd
    have hk : k < w * h := by omega
    have hfk := fo_le P.1 hk
    have gx := gr_x hk
    have gy := gr_y hk
    have nxt := ih (k + 1) (by omega)
    rw [cnt_s] at nxt
    unfold lp_Model_left_34
    rw [mp_0 M, mp_1 M, nI_mul, ml_4 M, ml_5 M, nI_clamp (n := k) (by omega), nI_clamp (n := p) (by omega), C.1 k hk, (MP_at C P.2.1 hp).1, nI_mod (a := k) (by omega) (by omega), nI_div (a := k) (by omega) (by omega)]
    simp only [forall_eq]
    rw [nI_1, nI_1, nI_eq (by omega) (by omega), nI_z (k % w), nI_z (k / w)]
    refine b_f (nI_ge (by omega) (by omega)) (b_t h0 ⟨vp_in_nI (by omega) (by omega), vp_in_nI (by omega) (by omega), ?_⟩)
    have px : (0 : Int) ≤ ((k % w : Nat) : Int) ∧ ((k % w : Nat) : Int) < w := ⟨Int.ofNat_zero_le _, Int.ofNat_lt.mpr gx⟩
    have py : (0 : Int) ≤ ((k / w : Nat) : Int) ∧ ((k / w : Nat) : Int) < h := ⟨Int.ofNat_zero_le _, Int.ofNat_lt.mpr gy⟩
    have hmk' := hmk k hk
    generalize ((k % w : Nat) : Int) = kx at *
    generalize ((k / w : Nat) : Int) = ky at *
    by_cases e : fo k = F p
    · refine b_t e ⟨hw0, hw0, ?_⟩
      refine m_reach M P C hp hr (by omega) (by omega) (by omega) (by omega) (fun hc => ?_) (fun hc => ?_)
      · refine b_f (by decide) ?_
        have : mk k = true := hmk'.mpr hc
        rw [this, e] at nxt
        simp at nxt
        exact nxt
      · refine b_t rfl ?_
        have : mk k = false := by
          cases em : mk k with
          | false => rfl
          | true => exact absurd (hmk'.mp em) hc
        rw [this, e] at nxt
        simp at nxt
        exact nxt
    · refine b_f e ?_
      have : (fo k == F p) = false := beq_eq_false_iff_ne.mpr e
      rw [this] at nxt
      exact nxt
end
section
variable {w h K : Nat} {G Gm : pG} {u v : pS} {Q : Int32 → pS → Prop} {X : Nat → pS → Prop}
theorem ob_left (H : GI w h K G) (M : MI w h K Gm) (R : Rel w h K u v) (x1 x2 : Int32)
    (hr : ∀ r u', wp_Model_left Gm x1 x2 v (fun r' v' => v'.1 0 = 0 ∧ r' = r ∧ Rel w h K u' v') → Q r u')
    (h0 : ∀ u', wp_Model_left Gm x1 x2 v (fun r' v' => v'.1 0 = 1 ∧ Rel w h K u' v') → X 0 u')
    (h1 : ∀ u', wp_Model_left Gm x1 x2 v (fun r' v' => v'.1 0 = 2 ∧ Rel w h K u' v') → X 1 u')
    (h2 : ∀ u', wp_Model_left Gm x1 x2 v (fun r' v' => v'.1 0 = 3 ∧ Rel w h K u' v') → X 2 u') : wp_PI_left G x1 x2 u Q X := by
  have B := gB H
  obtain ⟨x, xa, xb, rfl⟩ := zI_of x1
  obtain ⟨y, ya, yb, rfl⟩ := zI_of x2
  have cy0 : zI y < 0 ↔ y < 0 := by rw [lz_0]; exact zI_lt ya yb (by omega) (by omega)
  have cyM : 10 < zI y ↔ 10 < y := by rw [lz_10]; exact zI_lt (by omega) (by omega) ya yb
  unfold wp_PI_left
  refine g_piece R x xa xb (by omega) (fun fo F c lx mx ly my row p T e hp hxp => ?_) (fun e => h0 u ?_) (fun fo F c lx mx ly my row T e ho => h1 u ?_)
  · have hcN := PS_c T.1
    have e2 := R_v2 R e
    subst hxp
    rw [← nI_z] at hr h2 ⊢
    rw [show (0 : Int32) = zI 0 from lz_0, show (10 : Int32) = zI 10 from lz_10]
    refine g_number y 0 10 ya yb (by omega) (by omega) (by omega) (by omega) (fun y0 y10 => ?_) (fun ho => h2 u ?_)
    · obtain ⟨r, rfl⟩ := Int.eq_ofNat_of_zero_le y0
      rw [← nI_z] at hr cy0 cyM ⊢
      refine k_cover H T.1 T.2.1 hp (by omega) ?_
      intro u3 mk f3 M3 hmk
      rw [e_size H hcN (CA_fr T.2.2.2.2.2.1 f3) hp, M3.2]
      have hsub : cnt mk (w * h) ≤ sz fo (w * h) (F p) := cnt_sub (fun k hk hm => by rw [beq_iff_eq]; exact Cov_in hk ((hmk k hk).mp hm))
      have heq : sz fo (w * h) (F p) - cnt mk (w * h) = cnt (fun k => (fo k == F p) && !mk k) (w * h) := by
        have h1 := cnt_part (fun k => fo k == F p) mk (w * h)
        have h2 : cnt (fun k => (fo k == F p) && mk k) (w * h) = cnt mk (w * h) := cnt_congr (fun k hk => by
          cases em : mk k with
          | false => simp
          | true => rw [Cov_in hk ((hmk k hk).mp em)]; simp)
        unfold sz
        omega
      rw [nI_sub hsub, heq]
      refine hr _ _ ?_
      unfold wp_Model_left
      refine m_npok (by omega) e2 (PT_c T).2 hp (b_t rfl ?_)
      rw [cy0, cyM]
      refine b_f (by omega) (b_f (by omega) ?_)
      intro u18 hu18
      have T2 := T_si (T_si T 0) 0
      rw [← hu18] at T2
      have z18 : u18.1 0 = 0 := by rw [hu18, si_eq]
      refine m_left M T.1 T2.2.2.1 hp (by omega) z18 hmk ⟨z18, rfl, ?_⟩
      rw [hu18]
      exact Rel_fr R (fr_mono f3 (by decide) (by decide)) (fr_si _ (by decide) (fr_si _ (by decide) (fr_refl _ _ _)))
    · unfold wp_Model_left
      refine m_npok (by omega) e2 (PT_c T).2 hp (b_t rfl ?_)
      have fin : ∀ u5 : pS, u5 = pw_si (pw_si v 0 0) 0 3 → ∃ n1, lp_Model_left_34 Gm (fun r' v' => v'.1 0 = 3 ∧ Rel w h K u v') n1 (nI p) (zI y) 0 0 u5 := by
        intro u5 hu5
        refine ⟨1, ?_⟩
        unfold lp_Model_left_34
        rw [mp_0 M, mp_1 M, nI_mul]
        refine b_f (by rw [li_0]; exact nI_ge (by omega) (by omega)) (b_f (by rw [hu5, si_eq]; decide) ⟨by rw [hu5, si_eq], ?_⟩)
        rw [hu5]; exact R_si (R_si R 0) 3
      rw [cy0, cyM]
      by_cases e1 : y < 0
      · exact b_t e1 fin
      · exact b_f e1 (b_t (by omega) fin)
  · unfold wp_Model_left
    exact m_np0 (R.2.2.1.mp e) (b_f (by decide) ⟨si_eq _ _ _, R_si R 1⟩)
  · unfold wp_Model_left
    have hcN := PS_c T.1
    exact m_np2 xa xb (by omega) (R_v2 R e) (PT_c T).2 ho (b_f (by decide) ⟨si_eq _ _ _, R_si R 2⟩)
theorem ob_reached (H : GI w h K G) (M : MI w h K Gm) (R : Rel w h K u v) (x1 x2 x3 : Int32)
    (hr : ∀ r u', wp_Model_reached Gm x1 x2 x3 v (fun r' v' => v'.1 0 = 0 ∧ r' = r ∧ Rel w h K u' v') → Q r u')
    (h0 : ∀ u', wp_Model_reached Gm x1 x2 x3 v (fun r' v' => v'.1 0 = 1 ∧ Rel w h K u' v') → X 0 u')
    (h1 : ∀ u', wp_Model_reached Gm x1 x2 x3 v (fun r' v' => v'.1 0 = 2 ∧ Rel w h K u' v') → X 1 u')
    (h2 : ∀ u', wp_Model_reached Gm x1 x2 x3 v (fun r' v' => v'.1 0 = 3 ∧ Rel w h K u' v') → X 2 u') : wp_PI_reached G x1 x2 x3 u Q X := by
  have B := gB H
  obtain ⟨x, xa, xb, rfl⟩ := zI_of x1
  obtain ⟨y, ya, yb, rfl⟩ := zI_of x2
  obtain ⟨z, za, zb, rfl⟩ := zI_of x3
  have cz0 : zI z < 0 ↔ z < 0 := by rw [lz_0]; exact zI_lt za zb (by omega) (by omega)
  have czM : 10 < zI z ↔ 10 < z := by rw [lz_10]; exact zI_lt (by omega) (by omega) za zb
  have f40 : ∀ k : Int32, ¬ k = 0 → jn_Model_reached_40 Gm (fun r' v' => v'.1 0 = k ∧ Rel w h K u v') (zI x) (zI y) (zI z) k v := by
    intro k hk
    unfold jn_Model_reached_40
    intro u6 hu6
    rw [hu6]
    exact b_f (by rw [si_eq]; exact hk) ⟨si_eq _ _ _, R_si R k⟩
  unfold wp_PI_reached wp_PI_needParted
  refine ⟨fun e => h0 u ?_, fun e => ?_⟩
  · unfold wp_Model_reached
    exact b_t (R.2.2.1.mp e) (f40 1 (by decide))
  · have e2 := R_v2 R e
    obtain ⟨fo, F, c, lx, mx, ly, my, row, T⟩ := R.2.2.2 e
    have hcN := PS_c T.1
    refine g_place H x y xa xb ya yb (fun a b ha hb hxa hyb => ?_) (fun ho => h1 u ?_)
    · rw [show (10 : Int32) = zI 10 from lz_10, show (0 : Int32) = zI 0 from lz_0]
      refine g_number z 0 10 za zb (by omega) (by omega) (by omega) (by omega) (fun z0 z10 => ?_) (fun ho => h2 u ?_)
      · obtain ⟨r, rfl⟩ := Int.eq_ofNat_of_zero_le z0
        have hk := gr_in ha hb
        have hn := Enu_num T.1.1 T.1.2.1 hk
        rw [← nI_z] at hr cz0 czM ⊢
        rw [e_num H T.1 T.2.1 xa xb ya yb, hxa, hyb, pl_at ha hb, if_neg (by omega), Int.toNat_natCast]
        refine k_cover H T.1 T.2.1 hn.1 (by omega) ?_
        intro u6 mk f6 M6 hmk
        have hkm : (b * w + a) % w = a := gr_mod ha
        have hkd : (b * w + a) / w = b := gr_div ha
        have hmk' := hmk (b * w + a) hk
        rw [hkm, hkd] at hmk'
        unfold wp_Tool_covers
        rw [e_plc H (by omega) (by omega) (by omega) (by omega), pl_at ha hb, ← nI_z, gl_34 H, nI_clamp (by omega), M6.1 _ hk]
        refine b_f (nI_nm1 (by omega)) ⟨vp_in_nI hk (by omega), ?_⟩
        have big : ∀ (t : Bool), t = mk (b * w + a) → narrow .boolean (.int (bI t)) = .int (bI t) ∧ Q (bI t) u6 := by
          intro t ht
          refine ⟨nar_b t, hr _ _ ?_⟩
          unfold wp_Model_reached
          rw [hxa, hyb]
          refine b_f e2 ?_
          rw [e_mpl M (by omega) (by omega) (by omega) (by omega), if_pos (by omega), cz0, czM]
          refine b_f (by decide) (b_f (by omega) (b_f (by omega) ?_))
          unfold jn_Model_reached_40
          intro u6' hu6'
          rw [hu6']
          refine b_t (by rw [si_eq]) ?_
          rw [mp_0 M, ← nI_z, ← nI_z, nI_mul, nI_add, Nat.mul_comm w b]
          have T2 := T_si T 0
          have RR : Rel w h K u6 (pw_si v 0 0) := Rel_fr R (fr_mono f6 (by decide) (by decide)) (fr_si _ (by decide) (fr_refl _ _ _))
          refine m_numberOf M T.1 T2.2.2.1 hk ?_
          rw [nI_z a, nI_z b]
          refine m_reach M T.1 T2.2.2.1 hn.1 (by omega) (by omega) (by omega) (by omega) (by omega) (fun hc => ?_) (fun hc => ?_)
          · refine b_f (by decide) ⟨si_eq _ _ _, ?_, RR⟩
            rw [ht, hmk'.mpr hc]; rfl
          · refine b_t rfl ⟨si_eq _ _ _, ?_, RR⟩
            have : mk (b * w + a) = false := by
              cases em : mk (b * w + a) with
              | false => rfl
              | true => exact absurd (hmk'.mp em) hc
            rw [ht, this]; rfl
        cases em : mk (b * w + a) with
        | false => exact b_t rfl (big false em.symm)
        | true => exact b_f (by decide) (big true em.symm)
      · unfold wp_Model_reached
        refine b_f e2 ?_
        rw [e_mpl M xa xb ya yb, if_pos (by omega), cz0, czM]
        refine b_f (by decide) ?_
        by_cases e1 : z < 0
        · exact b_t e1 (f40 3 (by decide))
        · exact b_f e1 (b_t (by omega) (f40 3 (by decide)))
    · unfold wp_Model_reached
      refine b_f e2 ?_
      rw [e_mpl M xa xb ya yb, if_neg ho]
      exact b_t rfl (f40 2 (by decide))
end
