/-! OWN ROWS: sorted, border. -/
section
variable {w h K : Nat} {G Gm : pG} {u v : pS}
def mbr (v : pS) (j : Nat) : Int32 := ((2 * v.2 1 (3 * j)) + (5 * v.2 1 (3 * j + 1))) + v.2 1 (3 * j + 2)
theorem e_mbr (M : MI w h K Gm) {j : Nat} (hj : j < K) {Q : Int32 → pS → Prop} : wp_Model_brightness Gm (nI j) v Q ↔ Q (mbr v j) v := by
  have B := mB M
  unfold wp_Model_brightness mbr
  rw [show (3 : Int32) * nI j = nI (3 * j) by rw [li_3, nI_mul], nI_1, show nI (3 * j) + 2 = nI (3 * j + 2) by rw [li_2, nI_add], ml_2 M, nI_clamp (n := 3 * j) (by omega), nI_clamp (n := 3 * j + 1) (by omega), nI_clamp (n := 3 * j + 2) (by omega)]
  rw [and_iff_right (vp_in_nI (by omega) (by omega)), and_iff_right (vp_in_nI (by omega) (by omega)), and_iff_right (vp_in_nI (by omega) (by omega))]
theorem m_sorted (M : MI w h K Gm) {row : Nat → Nat} (Rk1 : Rk (bef (ltB (mbr v))) K row) (hc : v.1 0 = 0) {k : Nat} (hk : k < K) {Q : Int32 → pS → Prop} (hQ : Q (nI (row k)) v) : ∃ n, lp_Model_sorted_25 Gm Q n (nI k) 0 0 v := by
  have B := mB M
  have hO := Ord_B (mbr v) K
  have hB := fun a b => bef_B (g := mbr v) (a := a) (b := b)
  generalize hbf : bef (ltB (mbr v)) = bf at *
  have inner : ∀ (k25 : Int32 → Int32 → Int32 → pS → Prop) (a t : Nat), a < K → k25 (nI k) (nI (if cnt (fun b => bf b a) K = k then a else t)) (nI (a + 1)) v → ∀ (d b : Nat), b + d = K → lp_Model_sorted_46 Gm Q k25 (d + 1) (nI k) (nI t) (nI a) (nI (cnt (fun b => bf b a) b)) (nI b) v := by
    intro k25 a t ha hk14 d
    induction d with
    | zero =>
      intro b hd
      have e : b = K := by omega
      unfold lp_Model_sorted_46
      rw [mp_2 M, e, nI_eq (by have := cnt_le (fun b => bf b a) K; omega) (by omega)]
      simp only [forall_eq, nI_1]
      refine b_t (nI_le (by omega) (by omega)) ?_
      by_cases e2 : cnt (fun b => bf b a) K = k
      · rw [if_pos e2] at hk14; exact b_t e2 hk14
      · rw [if_neg e2] at hk14; exact b_f e2 hk14
    | succ d ih =>
      intro b hd
      have hb : b < K := by omega
      have nxt := ih (b + 1) (by omega)
      rw [cnt_s] at nxt
      unfold lp_Model_sorted_46
      rw [mp_2 M]
      refine b_f (nI_ge (by omega) (by omega)) ?_
      rw [e_mbr M hb, e_mbr M ha, e_mbr M hb, e_mbr M ha]
      simp only [forall_eq, nI_1]
      rw [Int32.lt_iff_toInt_lt, ← Int32.toInt_inj, nI_leI (by omega) (by omega)]
      have ht : bf b a = true → lp_Model_sorted_46 Gm Q k25 (d + 1) (nI k) (nI t) (nI a) (nI (cnt (fun b => bf b a) b + 1)) (nI (b + 1)) v := fun e => by rw [e] at nxt; exact nxt
      have hf : ¬ bf b a = true → lp_Model_sorted_46 Gm Q k25 (d + 1) (nI k) (nI t) (nI a) (nI (cnt (fun b => bf b a) b)) (nI (b + 1)) v := fun e => by
        have : bf b a = false := by simpa using e
        rw [this] at nxt; exact nxt
      refine ⟨fun e1 => ht ?_, fun e1 => ⟨fun e2 => ⟨fun e3 => hf ?_, fun e3 => ht ?_⟩, fun e2 => hf ?_⟩⟩ <;> rw [hB] <;> omega
  suffices hl : ∀ (d a t : Nat), a + d = K → (t = if row k < a then row k else 0) → lp_Model_sorted_25 Gm Q (d + 1) (nI k) (nI t) (nI a) v from
    ⟨K + 1, by rw [li_0]; exact hl K 0 0 (by omega) (by rw [if_neg (Nat.not_lt_zero _)])⟩
  intro d
  induction d with
  | zero =>
    intro a t hd ht
    have hrk := Rk1.1 k hk
    unfold lp_Model_sorted_25
    rw [if_pos (by omega)] at ht
    exact b_t (by rw [mp_2 M]; exact nI_le (by omega) (by omega)) (by rw [ht]; exact hQ)
  | succ d ih =>
    intro a t hd ht
    unfold lp_Model_sorted_25
    refine b_f (by rw [mp_2 M]; exact nI_ge (by omega) (by omega)) (b_t hc ⟨K + 1, ?_⟩)
    rw [li_0]
    refine inner _ a t (by omega) (ih (a + 1) _ (by omega) ?_) K 0 (by omega)
    obtain ⟨i, hi, hia⟩ := Rk_surj Rk1 (show a < K by omega)
    have hcn := Rk_cnt hO Rk1 hi
    rw [hia] at hcn
    rw [hcn]
    by_cases e : i = k
    · rw [if_pos e]
      rw [e] at hia
      rw [if_pos (by omega)]; exact hia.symm
    · rw [if_neg e, ht]
      have hne : row k ≠ a := fun q => e (Rk_inj hO Rk1 hi hk (by rw [hia, q]))
      by_cases e3 : row k < a
      · rw [if_pos e3, if_pos (by omega)]
      · rw [if_neg e3, if_neg (by omega)]
theorem Rk_congr {bf bf' : Nat → Nat → Bool} {n : Nat} {row : Nat → Nat} (R : Rk bf n row) (e : ∀ a b, a < n → b < n → bf a b = bf' a b) : Rk bf' n row :=
  ⟨R.1, R.2.1, fun i j hij hj => by rw [← e _ _ (R.1 i (by omega)) (R.1 j hj)]; exact R.2.2 i j hij hj⟩
variable {Q : Int32 → pS → Prop} {X : Nat → pS → Prop}
theorem ob_sorted (H : GI w h K G) (M : MI w h K Gm) (R : Rel w h K u v) (x1 : Int32)
    (hr : ∀ r u', wp_Model_sorted Gm x1 v (fun r' v' => v'.1 0 = 0 ∧ r' = r ∧ Rel w h K u' v') → Q r u')
    (h1 : ∀ u', wp_Model_sorted Gm x1 v (fun r' v' => v'.1 0 = 1 ∧ Rel w h K u' v') → X 1 u') : wp_PI_sorted G x1 u Q X := by
  have B := gB H
  obtain ⟨x, xa, xb, rfl⟩ := zI_of x1
  have cx : zI x < 0 ↔ x < 0 := by rw [lz_0]; exact zI_lt xa xb (by omega) (by omega)
  have cK : zI x < nI K ↔ x < K := by rw [nI_z]; exact zI_lt xa xb (by omega) (by omega)
  unfold wp_PI_sorted
  rw [gp_0 H]
  refine g_index x K xa xb (by omega) (fun p1 p2 => ?_) (fun ho => h1 u ?_)
  · obtain ⟨k, rfl⟩ := Int.eq_ofNat_of_zero_le p1
    have hk : k < K := by omega
    rw [← nI_z] at hr cx cK ⊢
    refine k_rank_brightest H (Nat.le_refl K) (Ord_B (br u) K) (fun u' a b Q hf ha hb hQ => ?_) ?_
    · refine k_cmpB H ha hb ?_
      have : br u' = br u := by
        funext j
        unfold br
        rw [hf.1 3 (by decide), hf.1 4 (by decide), hf.1 5 (by decide)]
      rw [this]; exact hQ
    · intro u2 row f2 Rk2 a15
      unfold wp_Ranking_ranked_brightest
      rw [gl_29 H, nI_clamp (n := k) (by omega), a15 k hk]
      refine ⟨vp_in_nI hk (by omega), hr _ _ ?_⟩
      unfold wp_Model_sorted
      rw [mp_2 M, cx, cK]
      refine b_f (by omega) (b_t p2 ?_)
      intro u27 hu27
      have R27 : Rel w h K u2 u27 := by
        rw [hu27]; exact Rel_fr R (fr_mono f2 (by decide) (by decide)) (fr_si _ (by decide) (fr_refl _ _ _))
      have z27 : u27.1 0 = 0 := by rw [hu27, si_eq]
      refine m_sorted M (Rk_congr Rk2 (fun a b ha hb => ?_)) z27 hk ⟨z27, rfl, R27⟩
      have em : ∀ j, j < K → mbr u27 j = br u j := by
        intro j hj
        have := R.2.1 j hj
        unfold mbr br
        rw [hu27, si_a, this.1, this.2.1, this.2.2]
      unfold bef ltB
      rw [em a ha, em b hb]
  · unfold wp_Model_sorted
    have fin : ∀ u2 : pS, u2 = pw_si v 0 1 → ∃ n1, lp_Model_sorted_25 Gm (fun r' v' => v'.1 0 = 1 ∧ Rel w h K u v') n1 (zI x) 0 0 u2 := by
      intro u2 hu2
      refine ⟨1, ?_⟩
      unfold lp_Model_sorted_25
      rw [mp_2 M]
      refine b_f (by rw [li_0]; exact nI_ge (by omega) (by omega)) (b_f (by rw [hu2, si_eq]; decide) ⟨by rw [hu2, si_eq], ?_⟩)
      rw [hu2]; exact R_si R 1
    rw [mp_2 M, cx, cK]
    by_cases e1 : x < 0
    · exact b_t e1 fin
    · exact b_f e1 (b_f (by omega) fin)
theorem gcd_st (a b : Nat) : Nat.gcd b (a % b) = Nat.gcd a b := by
  rw [Nat.gcd_comm b, ← Nat.gcd_rec, Nat.gcd_comm]
theorem k_gcd {Q2 : Int32 → pS → Prop} : ∀ (n a b s : Nat), b ≤ n → a < 2147483648 → b + s ≤ 1000000 → Q2 (nI (Nat.gcd a b)) u → lp_PI_commonDivisor_7 G Q2 (n + 1) (nI a) (nI b) (nI s) u := by
  intro n
  induction n with
  | zero =>
    intro a b s hb ha hs hQ
    have e : b = 0 := by omega
    rw [e, Nat.gcd_zero_right] at hQ
    unfold lp_PI_commonDivisor_7
    exact ⟨fun _ => hQ, fun _ => b_t (by rw [e]; rfl) hQ⟩
  | succ n ih =>
    intro a b s hb ha hs hQ
    unfold lp_PI_commonDivisor_7
    by_cases e : b = 0
    · rw [e, Nat.gcd_zero_right] at hQ
      exact ⟨fun _ => hQ, fun _ => b_t (by rw [e]; rfl) hQ⟩
    · have hn0 : ¬ nI b = 0 := nI_ne0 (by omega) (by omega)
      have hlt : a % b < b := Nat.mod_lt _ (by omega)
      refine b_f (by rw [li_M]; exact nI_ge (by omega) (by omega)) (b_f hn0 ⟨hn0, ?_⟩)
      intro t3 ht3 t4 ht4
      rw [ht3, ht4, nI_mod (by omega) (by omega), nI_1]
      refine ih b (a % b) (s + 1) (by omega) (by omega) (by omega) ?_
      rw [gcd_st]; exact hQ
theorem m_gcd {Q2 : Int32 → pS → Prop} : ∀ (n a b : Nat), b ≤ n → a < 2147483648 → b < 2147483648 → Q2 (nI (Nat.gcd a b)) v → lp_Model_common_4 Gm Q2 (n + 1) (nI a) (nI b) v := by
  intro n
  induction n with
  | zero =>
    intro a b hb ha hs hQ
    have e : b = 0 := by omega
    rw [e, Nat.gcd_zero_right] at hQ
    unfold lp_Model_common_4
    exact b_t (by rw [e]; rfl) hQ
  | succ n ih =>
    intro a b hb ha hs hQ
    unfold lp_Model_common_4
    by_cases e : b = 0
    · rw [e, Nat.gcd_zero_right] at hQ
      exact b_t (by rw [e]; rfl) hQ
    · have hn0 : ¬ nI b = 0 := nI_ne0 (by omega) (by omega)
      have hlt : a % b < b := Nat.mod_lt _ (by omega)
      refine b_f hn0 ⟨hn0, ?_⟩
      intro t2 ht2
      rw [ht2, nI_mod (by omega) (by omega)]
      refine ih b (a % b) (by omega) (by omega) (by omega) ?_
      rw [gcd_st]; exact hQ
theorem ob_border (H : GI w h K G) (M : MI w h K Gm) (R : Rel w h K u v) (x1 x2 x3 : Int32)
    (hr : ∀ r u', wp_Model_border Gm x1 x2 x3 v (fun r' v' => v'.1 0 = 0 ∧ r' = r ∧ Rel w h K u' v') → Q r u')
    (h1 : ∀ u', wp_Model_border Gm x1 x2 x3 v (fun r' v' => v'.1 0 = 1 ∧ Rel w h K u' v') → X 1 u')
    (h2 : ∀ u', wp_Model_border Gm x1 x2 x3 v (fun r' v' => v'.1 0 = 2 ∧ Rel w h K u' v') → X 2 u') : wp_PI_border G x1 x2 x3 u Q X := by
  obtain ⟨x, xa, xb, rfl⟩ := zI_of x1
  obtain ⟨y, ya, yb, rfl⟩ := zI_of x2
  obtain ⟨z, za, zb, rfl⟩ := zI_of x3
  have cx1 : zI x < 1 ↔ x < 1 := by rw [lz_1]; exact zI_lt xa xb (by omega) (by omega)
  have cy1 : zI y < 1 ↔ y < 1 := by rw [lz_1]; exact zI_lt ya yb (by omega) (by omega)
  have cxM : 1000000 < zI x ↔ 1000000 < x := by rw [lz_M]; exact zI_lt (by omega) (by omega) xa xb
  have cyM : 1000000 < zI y ↔ 1000000 < y := by rw [lz_M]; exact zI_lt (by omega) (by omega) ya yb
  have cz0 : zI z < 0 ↔ z < 0 := by rw [lz_0]; exact zI_lt za zb (by omega) (by omega)
  have cz2 : zI z ≤ 2 ↔ z ≤ 2 := by rw [lz_2]; exact zI_le za zb (by omega) (by omega)
  have good : ∀ (Q2 : Int32 → pS → Prop) (e : Bool), ((1 ≤ x ∧ x ≤ 1000000 ∧ 1 ≤ y ∧ y ≤ 1000000) ↔ e = true) → jn_Model_border_27 Gm Q2 (zI x) (zI y) (zI z) (bI e) v → wp_Model_border Gm (zI x) (zI y) (zI z) v Q2 := by
    intro Q2 e he hq
    unfold wp_Model_border
    rw [cx1, cy1, cxM, cyM]
    cases e with
    | true =>
      have := he.mpr rfl
      exact b_f (by omega) (b_f (by omega) (b_f (by omega) (b_f (by omega) hq)))
    | false =>
      have hne : ¬ (1 ≤ x ∧ x ≤ 1000000 ∧ 1 ≤ y ∧ y ≤ 1000000) := fun q => absurd (he.mp q) (by decide)
      by_cases e1 : x < 1
      · exact b_t e1 hq
      · refine b_f e1 ?_
        by_cases e2 : 1000000 < x
        · exact b_t e2 hq
        · refine b_f e2 ?_
          by_cases e3 : y < 1
          · exact b_t e3 hq
          · exact b_f e3 (b_t (by omega) hq)
  have f53 : ∀ k : Int32, ¬ k ≤ 0 → jn_Model_border_53 Gm (fun r' v' => v'.1 0 = k ∧ Rel w h K u v') (zI x) (zI y) (zI z) k v := by
    intro k hk
    unfold jn_Model_border_53
    intro u3 hu3
    rw [hu3]
    exact b_f (by rw [si_eq]; exact hk) ⟨si_eq _ _ _, R_si R k⟩
  obtain ⟨eg, heg⟩ : ∃ e : Bool, ((1 ≤ x ∧ x ≤ 1000000 ∧ 1 ≤ y ∧ y ≤ 1000000) ↔ e = true) := ⟨decide (1 ≤ x ∧ x ≤ 1000000 ∧ 1 ≤ y ∧ y ≤ 1000000), by simp⟩
  unfold wp_PI_border
  rw [show (3 : Int32) = nI 3 from li_3]
  refine g_index z 3 za zb (by omega) (fun z0 z3 => ?_) (fun ho => h1 u ?_)
  · have bad : ¬ (1 ≤ x ∧ x ≤ 1000000 ∧ 1 ≤ y ∧ y ≤ 1000000) → X 2 u := by
      intro hn
      refine h2 u (good _ false ⟨fun q => absurd q hn, fun q => absurd q (by decide)⟩ ?_)
      unfold jn_Model_border_27
      rw [cz0, cz2]
      exact b_f (by omega) (b_t (by omega) (b_t rfl (f53 2 (by decide))))
    rw [show (1 : Int32) = zI 1 from lz_1, lz_M]
    refine g_number x 1 1000000 xa xb (by omega) (by omega) (by omega) (by omega) (fun a1 a2 => ?_) (fun ho => bad (by omega))
    refine g_number y 1 1000000 ya yb (by omega) (by omega) (by omega) (by omega) (fun b1 b2 => ?_) (fun ho => bad (by omega))
    obtain ⟨L, rfl⟩ := Int.eq_ofNat_of_zero_le (show 0 ≤ x by omega)
    obtain ⟨r, rfl⟩ := Int.eq_ofNat_of_zero_le (show 0 ≤ y by omega)
    obtain ⟨c, rfl⟩ := Int.eq_ofNat_of_zero_le z0
    have hc : c < 3 := by omega
    have hn := Nat.div_le_self L r
    have hmr : L % r < r := Nat.mod_lt _ (by omega)
    have hmd := Nat.div_add_mod L r
    have hr0 : ¬ nI r = 0 := nI_ne0 (by omega) (by omega)
    have R0 := R_si R 0
    have vs : ∀ a b : Nat, a < 2147483648 → b < 2147483648 → (nI a = nI b ↔ a = b) := fun a b ha hb => nI_eq ha hb
    have fin : ∀ (rr : Int32), (∀ Q2 : Int32 → pS → Prop, Q2 rr (pw_si v 0 0) → ((nI (L / r) = 0 → jn_Model_border_82 Gm Q2 (nI c) (nI (L / r)) 0 (pw_si v 0 0)) ∧ (¬ nI (L / r) = 0 → jn_Model_border_82 Gm Q2 (nI c) (nI (L / r)) (nI (L % r)) (pw_si v 0 0)))) → Q rr u := by
      intro rr hrr
      refine hr rr u (good _ true ⟨fun _ => rfl, fun _ => ⟨a1, a2, b1, b2⟩⟩ ?_)
      unfold jn_Model_border_27
      rw [cz0, cz2]
      refine b_f (by omega) (b_t (by omega) (b_f (by decide) ?_))
      unfold jn_Model_border_53
      intro u3 hu3
      rw [hu3, ← nI_z, ← nI_z, ← nI_z, nI_mod (a := L) (by omega) (by omega), nI_div (by omega) (by omega)]
      refine b_t (by rw [si_eq]; decide) ⟨hr0, ?_⟩
      intro t5 ht5
      rw [ht5]
      have hh := hrr (fun r' v' => v'.1 0 = 0 ∧ r' = rr ∧ Rel w h K u v') ⟨si_eq _ _ _, rfl, R0⟩
      exact ⟨hh.1, fun q => ⟨hr0, hh.2 q⟩⟩
    rw [← nI_z, ← nI_z, ← nI_z, nI_div (by omega) (by omega)]
    refine b_f (nI_nle (by omega) (by omega)) ⟨hr0, ?_⟩
    generalize en : L / r = n at *
    generalize em : L % r = t at *
    have hLt : L - n * r = t := by rw [Nat.mul_comm]; omega
    have hnr : n * r ≤ L := by rw [Nat.mul_comm]; omega
    unfold jn_PI_border_30
    by_cases ec0 : c = 0
    · rw [ec0] at fin ⊢
      refine b_t rfl (fin _ (fun Q2 hq => ?_))
      refine ⟨fun e1 => ?_, fun e1 => ?_⟩
      · unfold jn_Model_border_82
        refine b_t e1 ?_
        unfold jn_Model_border_100
        exact b_t rfl hq
      · unfold jn_Model_border_82
        refine b_f e1 ⟨n + 1, ?_⟩
        refine m_gcd n t n (Nat.le_refl _) (by omega) (by omega) ?_
        unfold jn_Model_border_100
        exact b_t rfl hq
    · have nc0 : ¬ nI c = 0 := nI_ne0 (by omega) (by omega)
      refine b_f nc0 ?_
      have c1 : nI c = 1 ↔ c = 1 := by rw [li_1]; exact nI_eq (by omega) (by omega)
      by_cases en0 : n = 0
      · rw [en0] at fin ⊢
        refine b_t (by decide) ?_
        unfold jn_PI_border_54
        intro t7 ht7
        have e7 : t7 = nI 1 := by rw [ht7, if_pos (by decide)]; exact li_1
        rw [e7]
        refine ⟨1, ?_⟩
        rw [li_0]
        refine k_gcd 0 1 0 0 (by omega) (by omega) (by omega) ?_
        rw [Nat.gcd_zero_right, c1]
        have m82 : ∀ (Q2 : Int32 → pS → Prop) (rr : Int32), Q2 rr (pw_si v 0 0) → (c = 1 → rr = nI 0) → (¬ c = 1 → rr = nI 1) → ((nI 0 = 0 → jn_Model_border_82 Gm Q2 (nI c) (nI 0) 0 (pw_si v 0 0)) ∧ (¬ nI 0 = 0 → jn_Model_border_82 Gm Q2 (nI c) (nI 0) (nI t) (pw_si v 0 0))) := by
          intro Q2 rr hq g1 g2
          refine b_t rfl ?_
          unfold jn_Model_border_82
          refine b_t rfl ?_
          unfold jn_Model_border_100
          refine b_f nc0 ?_
          rw [c1]
          refine ⟨fun e1 => ⟨by decide, ?_⟩, fun e1 => b_t rfl ?_⟩
          · rw [g1 e1] at hq; exact hq
          · rw [g2 e1] at hq; exact hq
        refine ⟨fun e1 => b_f (by decide) ⟨by decide, ?_⟩, fun e1 => b_f (by decide) ⟨by decide, ?_⟩⟩
        · exact fin _ (fun Q2 hq => m82 Q2 _ hq (fun _ => rfl) (fun q => absurd e1 q))
        · exact fin _ (fun Q2 hq => m82 Q2 _ hq (fun q => absurd q e1) (fun _ => rfl))
      · have hg0 : 0 < Nat.gcd n t := Nat.gcd_pos_of_pos_left _ (by omega)
        have hgn : Nat.gcd n t ≤ n := Nat.gcd_le_left _ (by omega)
        have hg : ¬ nI (Nat.gcd n t) = 0 := nI_ne0 hg0 (by omega)
        refine b_f (nI_nle (by omega) (by omega)) ?_
        rw [nI_mul, nI_sub hnr, hLt]
        unfold jn_PI_border_54
        intro t7 ht7
        have e7 : t7 = nI n := by rw [ht7, if_neg]; rw [li_1]; exact nI_nlt (by omega) (by omega)
        rw [e7]
        refine ⟨t + 1, ?_⟩
        rw [li_0]
        refine k_gcd t n t 0 (Nat.le_refl _) (by omega) (by omega) ?_
        rw [c1]
        have m82 : ∀ (Q2 : Int32 → pS → Prop) (rr : Int32), Q2 rr (pw_si v 0 0) → (c = 1 → rr = nI (t / Nat.gcd n t)) → (¬ c = 1 → rr = nI (n / Nat.gcd n t)) → ((nI n = 0 → jn_Model_border_82 Gm Q2 (nI c) (nI n) 0 (pw_si v 0 0)) ∧ (¬ nI n = 0 → jn_Model_border_82 Gm Q2 (nI c) (nI n) (nI t) (pw_si v 0 0))) := by
          intro Q2 rr hq g1 g2
          refine b_f (nI_ne0 (by omega) (by omega)) ?_
          unfold jn_Model_border_82
          refine b_f (nI_ne0 (by omega) (by omega)) ⟨n + 1, ?_⟩
          refine m_gcd n t n (Nat.le_refl _) (by omega) (by omega) ?_
          rw [Nat.gcd_comm t n]
          unfold jn_Model_border_100
          refine b_f nc0 ?_
          rw [c1, nI_div (by omega) (by omega), nI_div (by omega) (by omega)]
          refine ⟨fun e1 => ⟨hg, ?_⟩, fun e1 => b_f (nI_ne0 (by omega) (by omega)) ⟨hg, ?_⟩⟩
          · rw [g1 e1] at hq; exact hq
          · rw [g2 e1] at hq; exact hq
        rw [nI_div (by omega) (by omega), nI_div (by omega) (by omega)]
        refine ⟨fun e1 => b_f (nI_nle hg0 (by omega)) ⟨hg, ?_⟩, fun e1 => b_f (nI_nle hg0 (by omega)) ⟨hg, ?_⟩⟩
        · exact fin _ (fun Q2 hq => m82 Q2 _ hq (fun _ => rfl) (fun q => absurd e1 q))
        · exact fin _ (fun Q2 hq => m82 Q2 _ hq (fun q => absurd q e1) (fun _ => rfl))
  · refine good _ eg heg ?_
    unfold jn_Model_border_27
    rw [cz0, cz2]
    by_cases e1 : z < 0
    · exact b_t e1 (f53 1 (by decide))
    · exact b_f e1 (b_f (by omega) (f53 1 (by decide)))
end
